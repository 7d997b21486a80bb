set_option maxHeartbeats 4000000 in
set_option maxRecDepth 100000 in
theorem law_D {p : Program} {l : Launch} {e : Env} {ss : State} {m : MethodId} {args : Array Value} {below : List Frame} {meth : Method} {c : Code} {D : va_G} {cI cQ cZ : ClassId} {sc LL : Nat} {xs : Nat → Int32} {A : Nat → Prop} (hl0 : l.stackTraces = false) (F : CallFix p m c cL_law 31 ss args wsL_law RL) (hK : va_K D vwCl [(cI, .int), (cQ, .array .int), (cZ, .boolean)] ss) (hG : kG A ss) (hA : ∀ q, ss.heap.size ≤ q → A q) (hX : va_X sc LL xs ss ss.heap) (hbl : sc < ss.heap.size) (hbA : ¬ A sc) (hLL : LL ≤ 260) {x : Nat} {a b : Nat → Nat} {s : Nat} {t : Nat} {v : Int32} (ht : t < 10) (Q : State → Prop)
    (K : ∀ (c1 s1 : Nat) (f : Nat → Nat → Int32) (g : Nat → Nat → Int32) (q : St) (q2 : St) (ba : Nat) (ta : Nat) (Rb : List (Nat × Tp)) (Rt : List (Nat × Tk)) (sz : Nat) (pt : Nat) (zt : Nat) (ut : Nat) (fs : Nat → Int32) (fp : Nat → Int32) (fz : Nat → Int32) (fu : Nat → Int32), c1 ≤ 100 + 18000 * t + 4804 → s1 ≤ 1000 + 180000 * t + 45030 → stI q ≤ 181 * t + 180 → (rR f q) → (rQ q Rb Rt) → (okQ q) → (szR (stB q) (stB q).length fs) → (ptR (stT q) (stT q).length fp) → (zzR (stT q) (stT q).length fz) → (uuR q (stT q).length fu) → ∀ (H : Heap) (locs : List Loc), va_P D vwCl ([(s, .inr (4, [.int (nI (stI q)), .int (nI (stN q)), .int (stO q), .int (stV q), .int (nI (stG q)), .int (nI (stS q)), .int (stM q), .ref ba, .ref ta])), (ba, .inl (cQ, Rb.length, .inr (.inr (.inr (.inr (qf (ad Rb))))))), (ta, .inl (cQ, Rt.length, .inr (.inr (.inr (.inr (qf (ad Rt))))))), (sz, .inl (cI, (stB q).length, .inl fs)), (pt, .inl (cI, (stT q).length, .inl fp)), (zt, .inl (cZ, (stT q).length, .inl fz)), (ut, .inl (cI, (stT q).length, .inl fu))] ++ ((sT cI (Rb.map bq) (Rt.map tq)) ++ ((xA cI x a b f q) ++ ((xB cI b g q2) ++ [])))) H → va_D A ([(s, .inr (4, [.int (nI (stI q)), .int (nI (stN q)), .int (stO q), .int (stV q), .int (nI (stG q)), .int (nI (stS q)), .int (stM q), .ref ba, .ref ta])), (ba, .inl (cQ, Rb.length, .inr (.inr (.inr (.inr (qf (ad Rb))))))), (ta, .inl (cQ, Rt.length, .inr (.inr (.inr (.inr (qf (ad Rt))))))), (sz, .inl (cI, (stB q).length, .inl fs)), (pt, .inl (cI, (stT q).length, .inl fp)), (zt, .inl (cZ, (stT q).length, .inl fz)), (ut, .inl (cI, (stT q).length, .inl fu))] ++ ((sT cI (Rb.map bq) (Rt.map tq)) ++ ((xA cI x a b f q) ++ ((xB cI b g q2) ++ [])))) → va_S A ss.heap H locs → ∀ ls : Array Slot, lv_has ls 31 [(0, .ref sc), (1, .ref x), (2, .ref s), (3, .int (nI t)), (4, .int v), (5, .long (dgS q)), (7, .int (nI ((stB q).length))), (8, .int (nI (ns (stB q)))), (10, .int (nI (mxN (stB q) (stB q).length))), (11, .ref sz), (12, .int (nI ((stT q).length))), (13, .int (nI (cnN (isT (stT q)) (stT q).length))), (14, .int (nI (spA (stT q) (stT q).length))), (15, .int (nI (ltP (stT q) (stT q).length))), (16, .ref pt), (17, .ref zt), (18, .ref ut)] → W p l e room_1 ss m args below meth c H locs c1 s1 Q (F0 m 541 ls [])) :
    ∀ (c0 s0 : Nat) (f : Nat → Nat → Int32) (g : Nat → Nat → Int32) (q : St) (q2 : St) (ba : Nat) (ta : Nat) (Rb : List (Nat × Tp)) (Rt : List (Nat × Tk)) (sz : Nat) (fs : Nat → Int32), c0 ≤ 100 + 18000 * t + 4801 → s0 ≤ 1000 + 180000 * t + 45012 → stI q ≤ 181 * t + 180 → (rR f q) → (rQ q Rb Rt) → (okQ q) → (szR (stB q) (stB q).length fs) → ∀ (H : Heap) (locs : List Loc), va_P D vwCl ([(s, .inr (4, [.int (nI (stI q)), .int (nI (stN q)), .int (stO q), .int (stV q), .int (nI (stG q)), .int (nI (stS q)), .int (stM q), .ref ba, .ref ta])), (ba, .inl (cQ, Rb.length, .inr (.inr (.inr (.inr (qf (ad Rb))))))), (ta, .inl (cQ, Rt.length, .inr (.inr (.inr (.inr (qf (ad Rt))))))), (sz, .inl (cI, (stB q).length, .inl fs))] ++ ((sT cI (Rb.map bq) (Rt.map tq)) ++ ((xA cI x a b f q) ++ ((xB cI b g q2) ++ [])))) H → va_D A ([(s, .inr (4, [.int (nI (stI q)), .int (nI (stN q)), .int (stO q), .int (stV q), .int (nI (stG q)), .int (nI (stS q)), .int (stM q), .ref ba, .ref ta])), (ba, .inl (cQ, Rb.length, .inr (.inr (.inr (.inr (qf (ad Rb))))))), (ta, .inl (cQ, Rt.length, .inr (.inr (.inr (.inr (qf (ad Rt))))))), (sz, .inl (cI, (stB q).length, .inl fs))] ++ ((sT cI (Rb.map bq) (Rt.map tq)) ++ ((xA cI x a b f q) ++ ((xB cI b g q2) ++ [])))) → va_S A ss.heap H locs → ∀ ls : Array Slot, lv_has ls 31 [(0, .ref sc), (1, .ref x), (2, .ref s), (3, .int (nI t)), (4, .int v), (5, .long (dgS q)), (7, .int (nI ((stB q).length))), (8, .int (nI (ns (stB q)))), (10, .int (nI (mxN (stB q) (stB q).length))), (11, .ref sz)] → W p l e room_1 ss m args below meth c H locs c0 s0 Q (F0 m 308 ls []) := by
  intro c0 s0 f g q q2 ba ta Rb Rt sz fs hcl hsl hI0 hR hq hok hfs H locs hP hD hS ls hl
  obtain ⟨hx, hb, hml, hown, hts⟩ := id F
  have hO := hok.1
  have hI : stI q < 900000 := by omega
  have hX9 := okQ_X hok (by omega)
  have hn12 := hO.2.1
  have hn6 := hO.2.2.2.1
  have hct := ctT_le hO
  have hsp := spT_le hO
  have o7 := hO.2.2.2.2.2.2
  have hns := ns_le hO.1 hO.2.1
  have hlB : Rb.length = (stB q).length := by rw [hq.1, sn_len]
  have hlT : Rt.length = (stT q).length := by rw [hq.2, sn_len]
  refine lv_aload_n hx hb dL_law_308 rfl (lv_at hl 1 rfl) ?_
  refine kz_callX (As := []) (rest := []) F (c_ZX3_talkers l D cI x a b f q ) gL_law_X3_talkers rfl (nA := 0) (by decide +kernel) rfl ⟨Nat.le_of_ble_eq_true rfl, Nat.le_of_ble_eq_true rfl⟩ hK hP hD hS hA hG (ci := 3) (q0 := 0) rfl rfl rfl zp_pn [0] rfl rfl hl.1 (Nat.le_of_ble_eq_true rfl) dL_law_309 ⟨(show c0 + 0 ≤ 908051 by omega), (show s0 + 0 ≤ 6377315 by omega)⟩ (fun r_1 u H locs hr_309 hP hD hS => ?_)
  try dsimp only at hr_309
  have hP := z_PS z_pnb hP
  have hD := z_DS z_pnb hD
  have hP : va_P D vwCl ([(s, .inr (4, [.int (nI (stI q)), .int (nI (stN q)), .int (stO q), .int (stV q), .int (nI (stG q)), .int (nI (stS q)), .int (stM q), .ref ba, .ref ta])), (ba, .inl (cQ, Rb.length, .inr (.inr (.inr (.inr (qf (ad Rb))))))), (ta, .inl (cQ, Rt.length, .inr (.inr (.inr (.inr (qf (ad Rt))))))), (sz, .inl (cI, (stB q).length, .inl fs))] ++ ((sT cI (Rb.map bq) (Rt.map tq)) ++ ((xA cI x a b f q) ++ ((xB cI b g q2) ++ [])))) H := hP
  have hD : va_D A ([(s, .inr (4, [.int (nI (stI q)), .int (nI (stN q)), .int (stO q), .int (stV q), .int (nI (stG q)), .int (nI (stS q)), .int (stM q), .ref ba, .ref ta])), (ba, .inl (cQ, Rb.length, .inr (.inr (.inr (.inr (qf (ad Rb))))))), (ta, .inl (cQ, Rt.length, .inr (.inr (.inr (.inr (qf (ad Rt))))))), (sz, .inl (cI, (stB q).length, .inl fs))] ++ ((sT cI (Rb.map bq) (Rt.map tq)) ++ ((xA cI x a b f q) ++ ((xB cI b g q2) ++ [])))) := hD
  refine W.eq (g2 := F0 m 312 ls [.int r_1]) rfl ?_
  refine W.widen (k := c0) (n := s0) (Nat.le_refl _) (Nat.le_refl _) ?_
  refine k_top (v := nI ((stT q).length)) (hr_309) ?_
  refine lv_istore (lv' := [(12, .int (nI ((stT q).length))), (0, .ref sc), (1, .ref x), (2, .ref s), (3, .int (nI t)), (4, .int v), (5, .long (dgS q)), (7, .int (nI ((stB q).length))), (8, .int (nI (ns (stB q)))), (10, .int (nI (mxN (stB q) (stB q).length))), (11, .ref sz)]) hx hb dL_law_312 hl (by decide) rfl (fun ls hl => ?_)
  refine lv_iconst (v := nI 0) hx hb dL_law_314 (by decide +kernel) ?_
  refine lv_istore (lv' := [(13, .int (nI 0)), (12, .int (nI ((stT q).length))), (0, .ref sc), (1, .ref x), (2, .ref s), (3, .int (nI t)), (4, .int v), (5, .long (dgS q)), (7, .int (nI ((stB q).length))), (8, .int (nI (ns (stB q)))), (10, .int (nI (mxN (stB q) (stB q).length))), (11, .ref sz)]) hx hb dL_law_315 hl (by decide) rfl (fun ls hl => ?_)
  refine lv_iconst (v := nI 0) hx hb dL_law_317 (by decide +kernel) ?_
  refine lv_istore (lv' := [(14, .int (nI 0)), (13, .int (nI 0)), (12, .int (nI ((stT q).length))), (0, .ref sc), (1, .ref x), (2, .ref s), (3, .int (nI t)), (4, .int v), (5, .long (dgS q)), (7, .int (nI ((stB q).length))), (8, .int (nI (ns (stB q)))), (10, .int (nI (mxN (stB q) (stB q).length))), (11, .ref sz)]) hx hb dL_law_318 hl (by decide) rfl (fun ls hl => ?_)
  refine lv_bipush (v := nI 31) hx hb dL_law_320 (by decide +kernel) ?_
  refine lv_istore (lv' := [(15, .int (nI 31)), (14, .int (nI 0)), (13, .int (nI 0)), (12, .int (nI ((stT q).length))), (0, .ref sc), (1, .ref x), (2, .ref s), (3, .int (nI t)), (4, .int v), (5, .long (dgS q)), (7, .int (nI ((stB q).length))), (8, .int (nI (ns (stB q)))), (10, .int (nI (mxN (stB q) (stB q).length))), (11, .ref sz)]) hx hb dL_law_322 hl (by decide) rfl (fun ls hl => ?_)
  refine lv_iload hx hb dL_law_324 (lv_at hl 3 rfl) ?_
  refine z_newa hx hb (hts (.arrayClass .int) (by decide +kernel)) hK 0 rfl hP hD hS hA ((stT q).length) rfl (by omega) ((show c0 + 1 ≤ 908051 by omega)) ((show s0 + ((stT q).length) ≤ 6377315 by omega)) dL_law_326 (fun q_1 H hP hD hS => ?_)
  have hP : va_P D vwCl ([(s, .inr (4, [.int (nI (stI q)), .int (nI (stN q)), .int (stO q), .int (stV q), .int (nI (stG q)), .int (nI (stS q)), .int (stM q), .ref ba, .ref ta])), (ba, .inl (cQ, Rb.length, .inr (.inr (.inr (.inr (qf (ad Rb))))))), (ta, .inl (cQ, Rt.length, .inr (.inr (.inr (.inr (qf (ad Rt))))))), (sz, .inl (cI, (stB q).length, .inl fs)), (q_1, .inl (cI, (stT q).length, .inl (fun _ => 0)))] ++ ((sT cI (Rb.map bq) (Rt.map tq)) ++ ((xA cI x a b f q) ++ ((xB cI b g q2) ++ [])))) H := hP
  have hD : va_D A ([(s, .inr (4, [.int (nI (stI q)), .int (nI (stN q)), .int (stO q), .int (stV q), .int (nI (stG q)), .int (nI (stS q)), .int (stM q), .ref ba, .ref ta])), (ba, .inl (cQ, Rb.length, .inr (.inr (.inr (.inr (qf (ad Rb))))))), (ta, .inl (cQ, Rt.length, .inr (.inr (.inr (.inr (qf (ad Rt))))))), (sz, .inl (cI, (stB q).length, .inl fs)), (q_1, .inl (cI, (stT q).length, .inl (fun _ => 0)))] ++ ((sT cI (Rb.map bq) (Rt.map tq)) ++ ((xA cI x a b f q) ++ ((xB cI b g q2) ++ [])))) := hD
  refine lv_astore (lv' := [(16, .ref q_1), (15, .int (nI 31)), (14, .int (nI 0)), (13, .int (nI 0)), (12, .int (nI ((stT q).length))), (0, .ref sc), (1, .ref x), (2, .ref s), (3, .int (nI t)), (4, .int v), (5, .long (dgS q)), (7, .int (nI ((stB q).length))), (8, .int (nI (ns (stB q)))), (10, .int (nI (mxN (stB q) (stB q).length))), (11, .ref sz)]) hx hb dL_law_328 hl (by decide) rfl (fun ls hl => ?_)
  refine lv_iload hx hb dL_law_330 (lv_at hl 4 rfl) ?_
  refine z_newz hx hb (hts (.arrayClass .boolean) (by decide +kernel)) hK 2 rfl hP hD hS hA ((stT q).length) rfl (by omega) ((show c0 + 1 + 1 ≤ 908051 by omega)) ((show s0 + ((stT q).length) + ((stT q).length) ≤ 6377315 by omega)) dL_law_332 (fun q_2 H hP hD hS => ?_)
  have hP : va_P D vwCl ([(s, .inr (4, [.int (nI (stI q)), .int (nI (stN q)), .int (stO q), .int (stV q), .int (nI (stG q)), .int (nI (stS q)), .int (stM q), .ref ba, .ref ta])), (ba, .inl (cQ, Rb.length, .inr (.inr (.inr (.inr (qf (ad Rb))))))), (ta, .inl (cQ, Rt.length, .inr (.inr (.inr (.inr (qf (ad Rt))))))), (sz, .inl (cI, (stB q).length, .inl fs)), (q_1, .inl (cI, (stT q).length, .inl (fun _ => 0))), (q_2, .inl (cZ, (stT q).length, .inl (fun _ => 0)))] ++ ((sT cI (Rb.map bq) (Rt.map tq)) ++ ((xA cI x a b f q) ++ ((xB cI b g q2) ++ [])))) H := hP
  have hD : va_D A ([(s, .inr (4, [.int (nI (stI q)), .int (nI (stN q)), .int (stO q), .int (stV q), .int (nI (stG q)), .int (nI (stS q)), .int (stM q), .ref ba, .ref ta])), (ba, .inl (cQ, Rb.length, .inr (.inr (.inr (.inr (qf (ad Rb))))))), (ta, .inl (cQ, Rt.length, .inr (.inr (.inr (.inr (qf (ad Rt))))))), (sz, .inl (cI, (stB q).length, .inl fs)), (q_1, .inl (cI, (stT q).length, .inl (fun _ => 0))), (q_2, .inl (cZ, (stT q).length, .inl (fun _ => 0)))] ++ ((sT cI (Rb.map bq) (Rt.map tq)) ++ ((xA cI x a b f q) ++ ((xB cI b g q2) ++ [])))) := hD
  refine lv_astore (lv' := [(17, .ref q_2), (16, .ref q_1), (15, .int (nI 31)), (14, .int (nI 0)), (13, .int (nI 0)), (12, .int (nI ((stT q).length))), (0, .ref sc), (1, .ref x), (2, .ref s), (3, .int (nI t)), (4, .int v), (5, .long (dgS q)), (7, .int (nI ((stB q).length))), (8, .int (nI (ns (stB q)))), (10, .int (nI (mxN (stB q) (stB q).length))), (11, .ref sz)]) hx hb dL_law_334 hl (by decide) rfl (fun ls hl => ?_)
  refine lv_iload hx hb dL_law_336 (lv_at hl 5 rfl) ?_
  refine z_newa hx hb (hts (.arrayClass .int) (by decide +kernel)) hK 0 rfl hP hD hS hA ((stT q).length) rfl (by omega) ((show c0 + 1 + 1 + 1 ≤ 908051 by omega)) ((show s0 + ((stT q).length) + ((stT q).length) + ((stT q).length) ≤ 6377315 by omega)) dL_law_338 (fun q_3 H hP hD hS => ?_)
  have hP : va_P D vwCl ([(s, .inr (4, [.int (nI (stI q)), .int (nI (stN q)), .int (stO q), .int (stV q), .int (nI (stG q)), .int (nI (stS q)), .int (stM q), .ref ba, .ref ta])), (ba, .inl (cQ, Rb.length, .inr (.inr (.inr (.inr (qf (ad Rb))))))), (ta, .inl (cQ, Rt.length, .inr (.inr (.inr (.inr (qf (ad Rt))))))), (sz, .inl (cI, (stB q).length, .inl fs)), (q_1, .inl (cI, (stT q).length, .inl (fun _ => 0))), (q_2, .inl (cZ, (stT q).length, .inl (fun _ => 0))), (q_3, .inl (cI, (stT q).length, .inl (fun _ => 0)))] ++ ((sT cI (Rb.map bq) (Rt.map tq)) ++ ((xA cI x a b f q) ++ ((xB cI b g q2) ++ [])))) H := hP
  have hD : va_D A ([(s, .inr (4, [.int (nI (stI q)), .int (nI (stN q)), .int (stO q), .int (stV q), .int (nI (stG q)), .int (nI (stS q)), .int (stM q), .ref ba, .ref ta])), (ba, .inl (cQ, Rb.length, .inr (.inr (.inr (.inr (qf (ad Rb))))))), (ta, .inl (cQ, Rt.length, .inr (.inr (.inr (.inr (qf (ad Rt))))))), (sz, .inl (cI, (stB q).length, .inl fs)), (q_1, .inl (cI, (stT q).length, .inl (fun _ => 0))), (q_2, .inl (cZ, (stT q).length, .inl (fun _ => 0))), (q_3, .inl (cI, (stT q).length, .inl (fun _ => 0)))] ++ ((sT cI (Rb.map bq) (Rt.map tq)) ++ ((xA cI x a b f q) ++ ((xB cI b g q2) ++ [])))) := hD
  refine lv_astore (lv' := [(18, .ref q_3), (17, .ref q_2), (16, .ref q_1), (15, .int (nI 31)), (14, .int (nI 0)), (13, .int (nI 0)), (12, .int (nI ((stT q).length))), (0, .ref sc), (1, .ref x), (2, .ref s), (3, .int (nI t)), (4, .int v), (5, .long (dgS q)), (7, .int (nI ((stB q).length))), (8, .int (nI (ns (stB q)))), (10, .int (nI (mxN (stB q) (stB q).length))), (11, .ref sz)]) hx hb dL_law_340 hl (by decide) rfl (fun ls hl => ?_)
  refine lv_iconst (v := nI 0) hx hb dL_law_342 (by decide +kernel) ?_
  refine lv_istore (lv' := [(19, .int (nI 0)), (18, .ref q_3), (17, .ref q_2), (16, .ref q_1), (15, .int (nI 31)), (14, .int (nI 0)), (13, .int (nI 0)), (12, .int (nI ((stT q).length))), (0, .ref sc), (1, .ref x), (2, .ref s), (3, .int (nI t)), (4, .int v), (5, .long (dgS q)), (7, .int (nI ((stB q).length))), (8, .int (nI (ns (stB q)))), (10, .int (nI (mxN (stB q) (stB q).length))), (11, .ref sz)]) hx hb dL_law_343 hl (by decide) rfl (fun ls hl => ?_)
  have loop_2 : ∀ (n : Nat) (i : Nat) (fp : Nat → Int32) (fz : Nat → Int32) (fu : Nat → Int32) (g4 : Nat → Nat → Int32) (q4 : St), (i ≤ (stT q).length) → (ptR (stT q) i fp) → (zzR (stT q) i fz) → (uuR q i fu) → (stT q).length - i < n → ∀ (H : Heap) (locs : List Loc), va_P D vwCl ([(s, .inr (4, [.int (nI (stI q)), .int (nI (stN q)), .int (stO q), .int (stV q), .int (nI (stG q)), .int (nI (stS q)), .int (stM q), .ref ba, .ref ta])), (ba, .inl (cQ, Rb.length, .inr (.inr (.inr (.inr (qf (ad Rb))))))), (ta, .inl (cQ, Rt.length, .inr (.inr (.inr (.inr (qf (ad Rt))))))), (sz, .inl (cI, (stB q).length, .inl fs)), (q_1, .inl (cI, (stT q).length, .inl fp)), (q_2, .inl (cZ, (stT q).length, .inl fz)), (q_3, .inl (cI, (stT q).length, .inl fu))] ++ ((sT cI (Rb.map bq) (Rt.map tq)) ++ ((xA cI x a b f q) ++ ((xB cI b g4 q4) ++ [])))) H → va_D A ([(s, .inr (4, [.int (nI (stI q)), .int (nI (stN q)), .int (stO q), .int (stV q), .int (nI (stG q)), .int (nI (stS q)), .int (stM q), .ref ba, .ref ta])), (ba, .inl (cQ, Rb.length, .inr (.inr (.inr (.inr (qf (ad Rb))))))), (ta, .inl (cQ, Rt.length, .inr (.inr (.inr (.inr (qf (ad Rt))))))), (sz, .inl (cI, (stB q).length, .inl fs)), (q_1, .inl (cI, (stT q).length, .inl fp)), (q_2, .inl (cZ, (stT q).length, .inl fz)), (q_3, .inl (cI, (stT q).length, .inl fu))] ++ ((sT cI (Rb.map bq) (Rt.map tq)) ++ ((xA cI x a b f q) ++ ((xB cI b g4 q4) ++ [])))) → va_S A ss.heap H locs → ∀ ls : Array Slot, lv_has ls 31 [(0, .ref sc), (1, .ref x), (2, .ref s), (3, .int (nI t)), (4, .int v), (5, .long (dgS q)), (7, .int (nI ((stB q).length))), (8, .int (nI (ns (stB q)))), (10, .int (nI (mxN (stB q) (stB q).length))), (11, .ref sz), (12, .int (nI ((stT q).length))), (13, .int (nI (cnN (isT (stT q)) i))), (14, .int (nI (spA (stT q) i))), (15, .int (nI (ltP (stT q) i))), (16, .ref q_1), (17, .ref q_2), (18, .ref q_3), (19, .int (nI i))] → W p l e room_1 ss m args below meth c H locs (c0 + 1 + 1 + 1) (s0 + ((stT q).length) + ((stT q).length) + ((stT q).length)) Q (F0 m 345 ls []) := by
    intro n
    induction n with
    | zero => intro i fp fz fu g4 q4 hi hfp hfz hfu hn; exact absurd hn (by omega)
    | succ n ih =>
      intro i fp fz fu g4 q4 hi hfp hfz hfu hn H locs hP hD hS ls hl
      refine lv_iload hx hb dL_law_345 (lv_at hl 17 rfl) ?_
      refine lv_iload hx hb dL_law_347 (lv_at hl 10 rfl) ?_
      refine k_cmp_ge (tgt := 541) hx hb i ((stT q).length) rfl rfl (by omega) (by omega) dL_law_349 (by decide) (fun c_349 => ?_) (fun c_349 => ?_)
      · skip
        obtain rfl : i = (stT q).length := by omega
        exact K (c0 + 1 + 1 + 1) (s0 + ((stT q).length) + ((stT q).length) + ((stT q).length)) f g4 q q4 ba ta Rb Rt sz q_1 q_2 q_3 fs fp fz fu (by omega) (by omega) (by omega) hR hq hok hfs hfp hfz hfu _ _ (z_subP hP [0, 1, 2, 3, 4, 5, 6] (rfl)) (z_subD hD [0, 1, 2, 3, 4, 5, 6] (by decide) (rfl)) hS _ (lv_sub hl [0, 1, 2, 3, 4, 5, 6, 7, 8, 9, 10, 11, 12, 13, 14, 15, 16] (rfl))
      · skip
        have hcn := cnN_le (isT (stT q)) i
        have hlt := ltP_le hO.2.2.1 (i := i) (by omega)
        have hspa : spA (stT q) i ≤ 180 := by have h1 := spA_le hO.2.2.1 i (by omega); omega
        rcases (hok.2.2.1 _ (gd_mem (d := tk0) c_349)).2.2 with ⟨hx9, hp9⟩ | ⟨m9, hm9, ex9, ep9⟩
        · skip
          have hp30 := (hO.2.2.1 i c_349).2.2.2
          refine lv_aload hx hb dL_law_352 (lv_at hl 14 rfl) ?_
          refine lv_iload hx hb dL_law_354 (lv_at hl 17 rfl) ?_
          refine lv_aload_n hx hb dL_law_356 rfl (lv_at hl 1 rfl) ?_
          refine lv_iload hx hb dL_law_357 (lv_at hl 17 rfl) ?_
          refine kz_callX (As := [.int (nI i)]) (rest := [.int (nI i), .ref q_1]) F (c_ZX3_patienceOf l D cI x a b f q i hR c_349) gL_law_X3_patienceOf rfl (nA := 1) (by decide +kernel) rfl ⟨Nat.le_of_ble_eq_true rfl, Nat.le_of_ble_eq_true rfl⟩ hK hP hD hS hA hG (ci := 3) (q0 := 0) rfl rfl rfl zp_pn [0] rfl rfl hl.1 (Nat.le_of_ble_eq_true rfl) dL_law_359 ⟨(show c0 + 1 + 1 + 1 + 0 ≤ 908051 by omega), (show s0 + ((stT q).length) + ((stT q).length) + ((stT q).length) + 0 ≤ 6377315 by omega)⟩ (fun r_3 u H locs hr_359 hP hD hS => ?_)
          try dsimp only at hr_359
          have hP := z_PS z_pnb hP
          have hD := z_DS z_pnb hD
          have hP : va_P D vwCl ([(s, .inr (4, [.int (nI (stI q)), .int (nI (stN q)), .int (stO q), .int (stV q), .int (nI (stG q)), .int (nI (stS q)), .int (stM q), .ref ba, .ref ta])), (ba, .inl (cQ, Rb.length, .inr (.inr (.inr (.inr (qf (ad Rb))))))), (ta, .inl (cQ, Rt.length, .inr (.inr (.inr (.inr (qf (ad Rt))))))), (sz, .inl (cI, (stB q).length, .inl fs)), (q_1, .inl (cI, (stT q).length, .inl fp)), (q_2, .inl (cZ, (stT q).length, .inl fz)), (q_3, .inl (cI, (stT q).length, .inl fu))] ++ ((sT cI (Rb.map bq) (Rt.map tq)) ++ ((xA cI x a b f q) ++ ((xB cI b g4 q4) ++ [])))) H := hP
          have hD : va_D A ([(s, .inr (4, [.int (nI (stI q)), .int (nI (stN q)), .int (stO q), .int (stV q), .int (nI (stG q)), .int (nI (stS q)), .int (stM q), .ref ba, .ref ta])), (ba, .inl (cQ, Rb.length, .inr (.inr (.inr (.inr (qf (ad Rb))))))), (ta, .inl (cQ, Rt.length, .inr (.inr (.inr (.inr (qf (ad Rt))))))), (sz, .inl (cI, (stB q).length, .inl fs)), (q_1, .inl (cI, (stT q).length, .inl fp)), (q_2, .inl (cZ, (stT q).length, .inl fz)), (q_3, .inl (cI, (stT q).length, .inl fu))] ++ ((sT cI (Rb.map bq) (Rt.map tq)) ++ ((xA cI x a b f q) ++ ((xB cI b g4 q4) ++ [])))) := hD
          refine W.eq (g2 := F0 m 362 ls [.int r_3, .int (nI i), .ref q_1]) rfl ?_
          refine W.widen (k := c0 + 1 + 1 + 1) (n := s0 + ((stT q).length) + ((stT q).length) + ((stT q).length)) (Nat.le_refl _) (Nat.le_refl _) ?_
          refine k_top (v := nI (tkP ((stT q).getD i tk0))) (hr_359) ?_
          refine k_iast hx hb hK hP hD hS 4 0 rfl rfl i (rfl) (by omega) (by omega) dL_law_362 (fun H locs hP hD hS => ?_)
          have hP : va_P D vwCl ([(s, .inr (4, [.int (nI (stI q)), .int (nI (stN q)), .int (stO q), .int (stV q), .int (nI (stG q)), .int (nI (stS q)), .int (stM q), .ref ba, .ref ta])), (ba, .inl (cQ, Rb.length, .inr (.inr (.inr (.inr (qf (ad Rb))))))), (ta, .inl (cQ, Rt.length, .inr (.inr (.inr (.inr (qf (ad Rt))))))), (sz, .inl (cI, (stB q).length, .inl fs)), (q_1, .inl (cI, (stT q).length, .inl (upd fp i (nI (tkP ((stT q).getD i tk0)))))), (q_2, .inl (cZ, (stT q).length, .inl fz)), (q_3, .inl (cI, (stT q).length, .inl fu))] ++ ((sT cI (Rb.map bq) (Rt.map tq)) ++ ((xA cI x a b f q) ++ ((xB cI b g4 q4) ++ [])))) H := hP
          have hD : va_D A ([(s, .inr (4, [.int (nI (stI q)), .int (nI (stN q)), .int (stO q), .int (stV q), .int (nI (stG q)), .int (nI (stS q)), .int (stM q), .ref ba, .ref ta])), (ba, .inl (cQ, Rb.length, .inr (.inr (.inr (.inr (qf (ad Rb))))))), (ta, .inl (cQ, Rt.length, .inr (.inr (.inr (.inr (qf (ad Rt))))))), (sz, .inl (cI, (stB q).length, .inl fs)), (q_1, .inl (cI, (stT q).length, .inl (upd fp i (nI (tkP ((stT q).getD i tk0)))))), (q_2, .inl (cZ, (stT q).length, .inl fz)), (q_3, .inl (cI, (stT q).length, .inl fu))] ++ ((sT cI (Rb.map bq) (Rt.map tq)) ++ ((xA cI x a b f q) ++ ((xB cI b g4 q4) ++ [])))) := hD
          refine lv_aload hx hb dL_law_363 (lv_at hl 15 rfl) ?_
          refine lv_iload hx hb dL_law_365 (lv_at hl 17 rfl) ?_
          refine lv_aload_n hx hb dL_law_367 rfl (lv_at hl 1 rfl) ?_
          refine lv_iload hx hb dL_law_368 (lv_at hl 17 rfl) ?_
          refine kz_callX (As := [.int (nI i)]) (rest := [.int (nI i), .ref q_2]) F (c_ZX3_isPresent l D cI x a b f q i hR c_349) gL_law_X3_isPresent rfl (nA := 1) (by decide +kernel) rfl ⟨Nat.le_of_ble_eq_true rfl, Nat.le_of_ble_eq_true rfl⟩ hK hP hD hS hA hG (ci := 3) (q0 := 0) rfl rfl rfl zp_pn [0] rfl rfl hl.1 (Nat.le_of_ble_eq_true rfl) dL_law_370 ⟨(show c0 + 1 + 1 + 1 + 0 ≤ 908051 by omega), (show s0 + ((stT q).length) + ((stT q).length) + ((stT q).length) + 0 ≤ 6377315 by omega)⟩ (fun r_4 u H locs hr_370 hP hD hS => ?_)
          try dsimp only at hr_370
          have hP := z_PS z_pnb hP
          have hD := z_DS z_pnb hD
          have hP : va_P D vwCl ([(s, .inr (4, [.int (nI (stI q)), .int (nI (stN q)), .int (stO q), .int (stV q), .int (nI (stG q)), .int (nI (stS q)), .int (stM q), .ref ba, .ref ta])), (ba, .inl (cQ, Rb.length, .inr (.inr (.inr (.inr (qf (ad Rb))))))), (ta, .inl (cQ, Rt.length, .inr (.inr (.inr (.inr (qf (ad Rt))))))), (sz, .inl (cI, (stB q).length, .inl fs)), (q_1, .inl (cI, (stT q).length, .inl (upd fp i (nI (tkP ((stT q).getD i tk0)))))), (q_2, .inl (cZ, (stT q).length, .inl fz)), (q_3, .inl (cI, (stT q).length, .inl fu))] ++ ((sT cI (Rb.map bq) (Rt.map tq)) ++ ((xA cI x a b f q) ++ ((xB cI b g4 q4) ++ [])))) H := hP
          have hD : va_D A ([(s, .inr (4, [.int (nI (stI q)), .int (nI (stN q)), .int (stO q), .int (stV q), .int (nI (stG q)), .int (nI (stS q)), .int (stM q), .ref ba, .ref ta])), (ba, .inl (cQ, Rb.length, .inr (.inr (.inr (.inr (qf (ad Rb))))))), (ta, .inl (cQ, Rt.length, .inr (.inr (.inr (.inr (qf (ad Rt))))))), (sz, .inl (cI, (stB q).length, .inl fs)), (q_1, .inl (cI, (stT q).length, .inl (upd fp i (nI (tkP ((stT q).getD i tk0)))))), (q_2, .inl (cZ, (stT q).length, .inl fz)), (q_3, .inl (cI, (stT q).length, .inl fu))] ++ ((sT cI (Rb.map bq) (Rt.map tq)) ++ ((xA cI x a b f q) ++ ((xB cI b g4 q4) ++ [])))) := hD
          refine W.eq (g2 := F0 m 373 ls [.int r_4, .int (nI i), .ref q_2]) rfl ?_
          refine W.widen (k := c0 + 1 + 1 + 1) (n := s0 + ((stT q).length) + ((stT q).length) + ((stT q).length)) (Nat.le_refl _) (Nat.le_refl _) ?_
          refine k_top (v := nI 1) (hr_370.trans (if_pos hx9)) ?_
          refine k_zast hx hb hK hP hD hS 5 2 rfl rfl i rfl (by omega) (by omega) (by decide) dL_law_373 (fun H locs hP hD hS => ?_)
          have hP : va_P D vwCl ([(s, .inr (4, [.int (nI (stI q)), .int (nI (stN q)), .int (stO q), .int (stV q), .int (nI (stG q)), .int (nI (stS q)), .int (stM q), .ref ba, .ref ta])), (ba, .inl (cQ, Rb.length, .inr (.inr (.inr (.inr (qf (ad Rb))))))), (ta, .inl (cQ, Rt.length, .inr (.inr (.inr (.inr (qf (ad Rt))))))), (sz, .inl (cI, (stB q).length, .inl fs)), (q_1, .inl (cI, (stT q).length, .inl (upd fp i (nI (tkP ((stT q).getD i tk0)))))), (q_2, .inl (cZ, (stT q).length, .inl (upd fz i (nI 1)))), (q_3, .inl (cI, (stT q).length, .inl fu))] ++ ((sT cI (Rb.map bq) (Rt.map tq)) ++ ((xA cI x a b f q) ++ ((xB cI b g4 q4) ++ [])))) H := hP
          have hD : va_D A ([(s, .inr (4, [.int (nI (stI q)), .int (nI (stN q)), .int (stO q), .int (stV q), .int (nI (stG q)), .int (nI (stS q)), .int (stM q), .ref ba, .ref ta])), (ba, .inl (cQ, Rb.length, .inr (.inr (.inr (.inr (qf (ad Rb))))))), (ta, .inl (cQ, Rt.length, .inr (.inr (.inr (.inr (qf (ad Rt))))))), (sz, .inl (cI, (stB q).length, .inl fs)), (q_1, .inl (cI, (stT q).length, .inl (upd fp i (nI (tkP ((stT q).getD i tk0)))))), (q_2, .inl (cZ, (stT q).length, .inl (upd fz i (nI 1)))), (q_3, .inl (cI, (stT q).length, .inl fu))] ++ ((sT cI (Rb.map bq) (Rt.map tq)) ++ ((xA cI x a b f q) ++ ((xB cI b g4 q4) ++ [])))) := hD
          refine lv_aload hx hb dL_law_374 (lv_at hl 16 rfl) ?_
          refine lv_iload hx hb dL_law_376 (lv_at hl 17 rfl) ?_
          refine lv_aload_n hx hb dL_law_378 rfl (lv_at hl 1 rfl) ?_
          refine lv_iload hx hb dL_law_379 (lv_at hl 17 rfl) ?_
          refine kz_callX (As := [.int (nI i)]) (rest := [.int (nI i), .ref q_3]) F (c_ZX3_minutesUntilExit l D cI x a b f g4 q q4 i hR hO c_349) gL_law_X3_minutesUntilExit rfl (nA := 1) (by decide +kernel) rfl ⟨Nat.le_of_ble_eq_true rfl, Nat.le_of_ble_eq_true rfl⟩ hK hP hD hS hA hG (ci := 3) (q0 := 0) rfl rfl rfl zp_pf [0] rfl rfl hl.1 (Nat.le_of_ble_eq_true rfl) dL_law_381 ⟨(show c0 + 1 + 1 + 1 + 0 ≤ 908051 by omega), (show s0 + ((stT q).length) + ((stT q).length) + ((stT q).length) + 0 ≤ 6377315 by omega)⟩ (fun r9 u H locs hr_381 hP hD hS => ?_)
          obtain ⟨g5, q5⟩ := u
          try dsimp only at hr_381
          have hP := z_PS z_pfb hP
          have hD := z_DS z_pfb hD
          have hP : va_P D vwCl ([(s, .inr (4, [.int (nI (stI q)), .int (nI (stN q)), .int (stO q), .int (stV q), .int (nI (stG q)), .int (nI (stS q)), .int (stM q), .ref ba, .ref ta])), (ba, .inl (cQ, Rb.length, .inr (.inr (.inr (.inr (qf (ad Rb))))))), (ta, .inl (cQ, Rt.length, .inr (.inr (.inr (.inr (qf (ad Rt))))))), (sz, .inl (cI, (stB q).length, .inl fs)), (q_1, .inl (cI, (stT q).length, .inl (upd fp i (nI (tkP ((stT q).getD i tk0)))))), (q_2, .inl (cZ, (stT q).length, .inl (upd fz i (nI 1)))), (q_3, .inl (cI, (stT q).length, .inl fu))] ++ ((sT cI (Rb.map bq) (Rt.map tq)) ++ ((xA cI x a b f q) ++ ((xB cI b g5 q5) ++ [])))) H := hP
          have hD : va_D A ([(s, .inr (4, [.int (nI (stI q)), .int (nI (stN q)), .int (stO q), .int (stV q), .int (nI (stG q)), .int (nI (stS q)), .int (stM q), .ref ba, .ref ta])), (ba, .inl (cQ, Rb.length, .inr (.inr (.inr (.inr (qf (ad Rb))))))), (ta, .inl (cQ, Rt.length, .inr (.inr (.inr (.inr (qf (ad Rt))))))), (sz, .inl (cI, (stB q).length, .inl fs)), (q_1, .inl (cI, (stT q).length, .inl (upd fp i (nI (tkP ((stT q).getD i tk0)))))), (q_2, .inl (cZ, (stT q).length, .inl (upd fz i (nI 1)))), (q_3, .inl (cI, (stT q).length, .inl fu))] ++ ((sT cI (Rb.map bq) (Rt.map tq)) ++ ((xA cI x a b f q) ++ ((xB cI b g5 q5) ++ [])))) := hD
          refine W.eq (g2 := F0 m 384 ls [.int r9, .int (nI i), .ref q_3]) rfl ?_
          refine W.widen (k := c0 + 1 + 1 + 1) (n := s0 + ((stT q).length) + ((stT q).length) + ((stT q).length)) (Nat.le_refl _) (Nat.le_refl _) ?_
          have hu0 := fst_ne hr_381 (fun h => h hx9)
          refine k_iast hx hb hK hP hD hS 6 0 rfl rfl i (rfl) (by omega) (by omega) dL_law_384 (fun H locs hP hD hS => ?_)
          have hP : va_P D vwCl ([(s, .inr (4, [.int (nI (stI q)), .int (nI (stN q)), .int (stO q), .int (stV q), .int (nI (stG q)), .int (nI (stS q)), .int (stM q), .ref ba, .ref ta])), (ba, .inl (cQ, Rb.length, .inr (.inr (.inr (.inr (qf (ad Rb))))))), (ta, .inl (cQ, Rt.length, .inr (.inr (.inr (.inr (qf (ad Rt))))))), (sz, .inl (cI, (stB q).length, .inl fs)), (q_1, .inl (cI, (stT q).length, .inl (upd fp i (nI (tkP ((stT q).getD i tk0)))))), (q_2, .inl (cZ, (stT q).length, .inl (upd fz i (nI 1)))), (q_3, .inl (cI, (stT q).length, .inl (upd fu i r9)))] ++ ((sT cI (Rb.map bq) (Rt.map tq)) ++ ((xA cI x a b f q) ++ ((xB cI b g5 q5) ++ [])))) H := hP
          have hD : va_D A ([(s, .inr (4, [.int (nI (stI q)), .int (nI (stN q)), .int (stO q), .int (stV q), .int (nI (stG q)), .int (nI (stS q)), .int (stM q), .ref ba, .ref ta])), (ba, .inl (cQ, Rb.length, .inr (.inr (.inr (.inr (qf (ad Rb))))))), (ta, .inl (cQ, Rt.length, .inr (.inr (.inr (.inr (qf (ad Rt))))))), (sz, .inl (cI, (stB q).length, .inl fs)), (q_1, .inl (cI, (stT q).length, .inl (upd fp i (nI (tkP ((stT q).getD i tk0)))))), (q_2, .inl (cZ, (stT q).length, .inl (upd fz i (nI 1)))), (q_3, .inl (cI, (stT q).length, .inl (upd fu i r9)))] ++ ((sT cI (Rb.map bq) (Rt.map tq)) ++ ((xA cI x a b f q) ++ ((xB cI b g5 q5) ++ [])))) := hD
          refine lv_iload hx hb dL_law_385 (lv_at hl 11 rfl) ?_
          refine lv_aload hx hb dL_law_387 (lv_at hl 15 rfl) ?_
          refine lv_iload hx hb dL_law_389 (lv_at hl 17 rfl) ?_
          refine k_zald hx hb hK hP 5 2 rfl rfl i rfl (by omega) (by omega) dL_law_391 ?_
          refine k_top (v := nI 1) (pk_us) ?_
          refine k_if_eq (tgt := 399) hx hb 1 rfl (by omega) dL_law_392 (by decide) (fun c_392 => ?_) (fun c_392 => ?_)
          · exact absurd c_392 (by omega)
          · skip
            refine lv_iconst (v := nI 1) hx hb dL_law_395 (by decide +kernel) ?_
            refine lv_goto (tgt := 400) hx hb dL_law_396 (by decide) ?_
            refine k_iadd hx hb (nI (cnN (isT (stT q)) (i + 1))) (by rw [cn_t (isT_t hx9)]; exact nI_add _ _) dL_law_400 ?_
            refine lv_istore (lv' := [(13, .int (nI (cnN (isT (stT q)) (i + 1)))), (0, .ref sc), (1, .ref x), (2, .ref s), (3, .int (nI t)), (4, .int v), (5, .long (dgS q)), (7, .int (nI ((stB q).length))), (8, .int (nI (ns (stB q)))), (10, .int (nI (mxN (stB q) (stB q).length))), (11, .ref sz), (12, .int (nI ((stT q).length))), (14, .int (nI (spA (stT q) i))), (15, .int (nI (ltP (stT q) i))), (16, .ref q_1), (17, .ref q_2), (18, .ref q_3), (19, .int (nI i))]) hx hb dL_law_401 hl (by decide) rfl (fun ls hl => ?_)
            refine lv_iload hx hb dL_law_403 (lv_at hl 12 rfl) ?_
            refine lv_aload hx hb dL_law_405 (lv_at hl 14 rfl) ?_
            refine lv_iload hx hb dL_law_407 (lv_at hl 17 rfl) ?_
            refine k_iald hx hb hK hP 4 0 rfl rfl i (rfl) (by omega) (by omega) dL_law_409 ?_
            refine k_top (v := nI (tkP ((stT q).getD i tk0))) (pk_us) ?_
            refine k_iadd hx hb (nI (spA (stT q) (i + 1))) (nI_add _ _) dL_law_410 ?_
            refine lv_istore (lv' := [(14, .int (nI (spA (stT q) (i + 1)))), (13, .int (nI (cnN (isT (stT q)) (i + 1)))), (0, .ref sc), (1, .ref x), (2, .ref s), (3, .int (nI t)), (4, .int v), (5, .long (dgS q)), (7, .int (nI ((stB q).length))), (8, .int (nI (ns (stB q)))), (10, .int (nI (mxN (stB q) (stB q).length))), (11, .ref sz), (12, .int (nI ((stT q).length))), (15, .int (nI (ltP (stT q) i))), (16, .ref q_1), (17, .ref q_2), (18, .ref q_3), (19, .int (nI i))]) hx hb dL_law_411 hl (by decide) rfl (fun ls hl => ?_)
            refine lv_aload hx hb dL_law_413 (lv_at hl 15 rfl) ?_
            refine lv_iload hx hb dL_law_415 (lv_at hl 17 rfl) ?_
            refine k_zald hx hb hK hP 5 2 rfl rfl i rfl (by omega) (by omega) dL_law_417 ?_
            refine k_top (v := nI 1) (pk_us) ?_
            refine k_if_eq (tgt := 434) hx hb 1 rfl (by omega) dL_law_418 (by decide) (fun c_418 => ?_) (fun c_418 => ?_)
            · exact absurd c_418 (by omega)
            · skip
              refine lv_iload hx hb dL_law_421 (lv_at hl 13 rfl) ?_
              refine lv_aload hx hb dL_law_423 (lv_at hl 14 rfl) ?_
              refine lv_iload hx hb dL_law_425 (lv_at hl 17 rfl) ?_
              refine k_iald hx hb hK hP 4 0 rfl rfl i (rfl) (by omega) (by omega) dL_law_427 ?_
              refine k_top (v := nI (tkP ((stT q).getD i tk0))) (pk_us) ?_
              refine va_mmin hx hb (hml.trans hl.1.symm) hown (hts (.methodLink RL 132 Lib.Math.min.name) (by decide +kernel)) (hts (.static Lib.Math.min.name) (by decide +kernel)) (hts (.initialized "java/lang/Math") (by decide +kernel)) (hts (.code Lib.Math.min.name Lib.Math.min.code 2 (some .int)) (by decide +kernel)) (Nat.le_of_ble_eq_true rfl) (Nat.le_of_ble_eq_true rfl) ((show c0 + 1 + 1 + 1 ≤ 908051 by omega)) ((show s0 + ((stT q).length) + ((stT q).length) + ((stT q).length) ≤ 6377315 by omega)) dL_law_428 ?_
              refine k_top (v := nI (ltP (stT q) (i + 1))) ((mn_if (by omega) (by omega)).trans (by rw [ltP_t hO.2.2.1 c_349 hx9])) ?_
              refine lv_goto (tgt := 436) hx hb dL_law_431 (by decide) ?_
              refine lv_istore (lv' := [(15, .int (nI (ltP (stT q) (i + 1)))), (14, .int (nI (spA (stT q) (i + 1)))), (13, .int (nI (cnN (isT (stT q)) (i + 1)))), (0, .ref sc), (1, .ref x), (2, .ref s), (3, .int (nI t)), (4, .int v), (5, .long (dgS q)), (7, .int (nI ((stB q).length))), (8, .int (nI (ns (stB q)))), (10, .int (nI (mxN (stB q) (stB q).length))), (11, .ref sz), (12, .int (nI ((stT q).length))), (16, .ref q_1), (17, .ref q_2), (18, .ref q_3), (19, .int (nI i))]) hx hb dL_law_436 hl (by decide) rfl (fun ls hl => ?_)
              refine lv_aload hx hb dL_law_438 (lv_at hl 14 rfl) ?_
              refine lv_iload hx hb dL_law_440 (lv_at hl 17 rfl) ?_
              refine k_iald hx hb hK hP 4 0 rfl rfl i (rfl) (by omega) (by omega) dL_law_442 ?_
              refine k_top (v := nI (tkP ((stT q).getD i tk0))) (pk_us) ?_
              refine k_if_lt (tgt := 533) hx hb (tkP ((stT q).getD i tk0)) rfl (by omega) dL_law_443 (by decide) (fun c_443 => ?_) (fun c_443 => ?_)
              · exact c_443.elim
              · skip
                refine lv_aload hx hb dL_law_446 (lv_at hl 14 rfl) ?_
                refine lv_iload hx hb dL_law_448 (lv_at hl 17 rfl) ?_
                refine k_iald hx hb hK hP 4 0 rfl rfl i (rfl) (by omega) (by omega) dL_law_450 ?_
                refine k_top (v := nI (tkP ((stT q).getD i tk0))) (pk_us) ?_
                refine lv_bipush (v := nI 30) hx hb dL_law_451 (by decide +kernel) ?_
                refine k_cmp_gt (tgt := 533) hx hb (tkP ((stT q).getD i tk0)) 30 rfl rfl (by omega) (by omega) dL_law_453 (by decide) (fun c_453 => ?_) (fun c_453 => ?_)
                · skip
                  exact absurd c_453 (by omega)
                · skip
                  refine lv_aload hx hb dL_law_456 (lv_at hl 15 rfl) ?_
                  refine lv_iload hx hb dL_law_458 (lv_at hl 17 rfl) ?_
                  refine k_zald hx hb hK hP 5 2 rfl rfl i rfl (by omega) (by omega) dL_law_460 ?_
                  refine k_top (v := nI 1) (pk_us) ?_
                  refine lv_aload hx hb dL_law_461 (lv_at hl 14 rfl) ?_
                  refine lv_iload hx hb dL_law_463 (lv_at hl 17 rfl) ?_
                  refine k_iald hx hb hK hP 4 0 rfl rfl i (rfl) (by omega) (by omega) dL_law_465 ?_
                  refine k_top (v := nI (tkP ((stT q).getD i tk0))) (pk_us) ?_
                  refine k_if_le (tgt := 473) hx hb (tkP ((stT q).getD i tk0)) rfl (by omega) dL_law_466 (by decide) (fun c_466 => ?_) (fun c_466 => ?_)
                  · skip
                    exact absurd c_466 (by omega)
                  · skip
                    refine lv_iconst (v := nI 1) hx hb dL_law_469 (by decide +kernel) ?_
                    refine lv_goto (tgt := 474) hx hb dL_law_470 (by decide) ?_
                    refine k_cmp_ne (tgt := 533) hx hb 1 1 rfl rfl (by omega) (by omega) dL_law_474 (by decide) (fun c_474 => ?_) (fun c_474 => ?_)
                    · exact absurd c_474 (by omega)
                    · skip
                      refine lv_aload hx hb dL_law_477 (lv_at hl 15 rfl) ?_
                      refine lv_iload hx hb dL_law_479 (lv_at hl 17 rfl) ?_
                      refine k_zald hx hb hK hP 5 2 rfl rfl i rfl (by omega) (by omega) dL_law_481 ?_
                      refine k_top (v := nI 1) (pk_us) ?_
                      refine lv_aload_n hx hb dL_law_482 rfl (lv_at hl 4 rfl) ?_
                      refine lv_iload hx hb dL_law_483 (lv_at hl 17 rfl) ?_
                      refine kz_callX (As := [.int (nI i)]) (rest := [.int (nI 1)]) F (c_ZX3_exitOf l D cI x a b f q i hR c_349) gL_law_X3_exitOf rfl (nA := 1) (by decide +kernel) rfl ⟨Nat.le_of_ble_eq_true rfl, Nat.le_of_ble_eq_true rfl⟩ hK hP hD hS hA hG (ci := 3) (q0 := 0) rfl rfl rfl zp_pn [0] rfl rfl hl.1 (Nat.le_of_ble_eq_true rfl) dL_law_485 ⟨(show c0 + 1 + 1 + 1 + 0 ≤ 908051 by omega), (show s0 + ((stT q).length) + ((stT q).length) + ((stT q).length) + 0 ≤ 6377315 by omega)⟩ (fun r_5 u H locs hr_485 hP hD hS => ?_)
                      try dsimp only at hr_485
                      have hP := z_PS z_pnb hP
                      have hD := z_DS z_pnb hD
                      have hP : va_P D vwCl ([(s, .inr (4, [.int (nI (stI q)), .int (nI (stN q)), .int (stO q), .int (stV q), .int (nI (stG q)), .int (nI (stS q)), .int (stM q), .ref ba, .ref ta])), (ba, .inl (cQ, Rb.length, .inr (.inr (.inr (.inr (qf (ad Rb))))))), (ta, .inl (cQ, Rt.length, .inr (.inr (.inr (.inr (qf (ad Rt))))))), (sz, .inl (cI, (stB q).length, .inl fs)), (q_1, .inl (cI, (stT q).length, .inl (upd fp i (nI (tkP ((stT q).getD i tk0)))))), (q_2, .inl (cZ, (stT q).length, .inl (upd fz i (nI 1)))), (q_3, .inl (cI, (stT q).length, .inl (upd fu i r9)))] ++ ((sT cI (Rb.map bq) (Rt.map tq)) ++ ((xA cI x a b f q) ++ ((xB cI b g5 q5) ++ [])))) H := hP
                      have hD : va_D A ([(s, .inr (4, [.int (nI (stI q)), .int (nI (stN q)), .int (stO q), .int (stV q), .int (nI (stG q)), .int (nI (stS q)), .int (stM q), .ref ba, .ref ta])), (ba, .inl (cQ, Rb.length, .inr (.inr (.inr (.inr (qf (ad Rb))))))), (ta, .inl (cQ, Rt.length, .inr (.inr (.inr (.inr (qf (ad Rt))))))), (sz, .inl (cI, (stB q).length, .inl fs)), (q_1, .inl (cI, (stT q).length, .inl (upd fp i (nI (tkP ((stT q).getD i tk0)))))), (q_2, .inl (cZ, (stT q).length, .inl (upd fz i (nI 1)))), (q_3, .inl (cI, (stT q).length, .inl (upd fu i r9)))] ++ ((sT cI (Rb.map bq) (Rt.map tq)) ++ ((xA cI x a b f q) ++ ((xB cI b g5 q5) ++ [])))) := hD
                      refine W.eq (g2 := F0 m 488 ls [.int r_5, .int (nI 1)]) rfl ?_
                      refine W.widen (k := c0 + 1 + 1 + 1) (n := s0 + ((stT q).length) + ((stT q).length) + ((stT q).length)) (Nat.le_refl _) (Nat.le_refl _) ?_
                      refine k_top (v := -1) (hr_485.trans hx9) ?_
                      refine lv_if_ge (tgt := 495) hx hb dL_law_488 (by decide) (fun c_488 => ?_) (fun c_488 => ?_)
                      · skip
                        exact absurd c_488 (by decide)
                      · skip
                        refine lv_iconst (v := nI 1) hx hb dL_law_491 (by decide +kernel) ?_
                        refine lv_goto (tgt := 496) hx hb dL_law_492 (by decide) ?_
                        refine k_cmp_ne (tgt := 533) hx hb 1 1 rfl rfl (by omega) (by omega) dL_law_496 (by decide) (fun c_496 => ?_) (fun c_496 => ?_)
                        · exact absurd c_496 (by omega)
                        · skip
                          refine lv_aload_n hx hb dL_law_499 rfl (lv_at hl 4 rfl) ?_
                          refine lv_iload hx hb dL_law_500 (lv_at hl 17 rfl) ?_
                          refine kz_callX (As := [.int (nI i)]) (rest := []) F (c_ZX3_exitOf l D cI x a b f q i hR c_349) gL_law_X3_exitOf rfl (nA := 1) (by decide +kernel) rfl ⟨Nat.le_of_ble_eq_true rfl, Nat.le_of_ble_eq_true rfl⟩ hK hP hD hS hA hG (ci := 3) (q0 := 0) rfl rfl rfl zp_pn [0] rfl rfl hl.1 (Nat.le_of_ble_eq_true rfl) dL_law_502 ⟨(show c0 + 1 + 1 + 1 + 0 ≤ 908051 by omega), (show s0 + ((stT q).length) + ((stT q).length) + ((stT q).length) + 0 ≤ 6377315 by omega)⟩ (fun r_6 u H locs hr_502 hP hD hS => ?_)
                          try dsimp only at hr_502
                          have hP := z_PS z_pnb hP
                          have hD := z_DS z_pnb hD
                          have hP : va_P D vwCl ([(s, .inr (4, [.int (nI (stI q)), .int (nI (stN q)), .int (stO q), .int (stV q), .int (nI (stG q)), .int (nI (stS q)), .int (stM q), .ref ba, .ref ta])), (ba, .inl (cQ, Rb.length, .inr (.inr (.inr (.inr (qf (ad Rb))))))), (ta, .inl (cQ, Rt.length, .inr (.inr (.inr (.inr (qf (ad Rt))))))), (sz, .inl (cI, (stB q).length, .inl fs)), (q_1, .inl (cI, (stT q).length, .inl (upd fp i (nI (tkP ((stT q).getD i tk0)))))), (q_2, .inl (cZ, (stT q).length, .inl (upd fz i (nI 1)))), (q_3, .inl (cI, (stT q).length, .inl (upd fu i r9)))] ++ ((sT cI (Rb.map bq) (Rt.map tq)) ++ ((xA cI x a b f q) ++ ((xB cI b g5 q5) ++ [])))) H := hP
                          have hD : va_D A ([(s, .inr (4, [.int (nI (stI q)), .int (nI (stN q)), .int (stO q), .int (stV q), .int (nI (stG q)), .int (nI (stS q)), .int (stM q), .ref ba, .ref ta])), (ba, .inl (cQ, Rb.length, .inr (.inr (.inr (.inr (qf (ad Rb))))))), (ta, .inl (cQ, Rt.length, .inr (.inr (.inr (.inr (qf (ad Rt))))))), (sz, .inl (cI, (stB q).length, .inl fs)), (q_1, .inl (cI, (stT q).length, .inl (upd fp i (nI (tkP ((stT q).getD i tk0)))))), (q_2, .inl (cZ, (stT q).length, .inl (upd fz i (nI 1)))), (q_3, .inl (cI, (stT q).length, .inl (upd fu i r9)))] ++ ((sT cI (Rb.map bq) (Rt.map tq)) ++ ((xA cI x a b f q) ++ ((xB cI b g5 q5) ++ [])))) := hD
                          refine W.eq (g2 := F0 m 505 ls [.int r_6]) rfl ?_
                          refine W.widen (k := c0 + 1 + 1 + 1) (n := s0 + ((stT q).length) + ((stT q).length) + ((stT q).length)) (Nat.le_refl _) (Nat.le_refl _) ?_
                          refine k_top (v := -1) (hr_502.trans hx9) ?_
                          refine lv_aload_n hx hb dL_law_505 rfl (lv_at hl 4 rfl) ?_
                          refine kz_callX (As := []) (rest := [.int (-1)]) F (c_ZX3_minute l D cI x a b f q ) gL_law_X3_minute rfl (nA := 0) (by decide +kernel) rfl ⟨Nat.le_of_ble_eq_true rfl, Nat.le_of_ble_eq_true rfl⟩ hK hP hD hS hA hG (ci := 3) (q0 := 0) rfl rfl rfl zp_pn [0] rfl rfl hl.1 (Nat.le_of_ble_eq_true rfl) dL_law_506 ⟨(show c0 + 1 + 1 + 1 + 0 ≤ 908051 by omega), (show s0 + ((stT q).length) + ((stT q).length) + ((stT q).length) + 0 ≤ 6377315 by omega)⟩ (fun r_7 u H locs hr_506 hP hD hS => ?_)
                          try dsimp only at hr_506
                          have hP := z_PS z_pnb hP
                          have hD := z_DS z_pnb hD
                          have hP : va_P D vwCl ([(s, .inr (4, [.int (nI (stI q)), .int (nI (stN q)), .int (stO q), .int (stV q), .int (nI (stG q)), .int (nI (stS q)), .int (stM q), .ref ba, .ref ta])), (ba, .inl (cQ, Rb.length, .inr (.inr (.inr (.inr (qf (ad Rb))))))), (ta, .inl (cQ, Rt.length, .inr (.inr (.inr (.inr (qf (ad Rt))))))), (sz, .inl (cI, (stB q).length, .inl fs)), (q_1, .inl (cI, (stT q).length, .inl (upd fp i (nI (tkP ((stT q).getD i tk0)))))), (q_2, .inl (cZ, (stT q).length, .inl (upd fz i (nI 1)))), (q_3, .inl (cI, (stT q).length, .inl (upd fu i r9)))] ++ ((sT cI (Rb.map bq) (Rt.map tq)) ++ ((xA cI x a b f q) ++ ((xB cI b g5 q5) ++ [])))) H := hP
                          have hD : va_D A ([(s, .inr (4, [.int (nI (stI q)), .int (nI (stN q)), .int (stO q), .int (stV q), .int (nI (stG q)), .int (nI (stS q)), .int (stM q), .ref ba, .ref ta])), (ba, .inl (cQ, Rb.length, .inr (.inr (.inr (.inr (qf (ad Rb))))))), (ta, .inl (cQ, Rt.length, .inr (.inr (.inr (.inr (qf (ad Rt))))))), (sz, .inl (cI, (stB q).length, .inl fs)), (q_1, .inl (cI, (stT q).length, .inl (upd fp i (nI (tkP ((stT q).getD i tk0)))))), (q_2, .inl (cZ, (stT q).length, .inl (upd fz i (nI 1)))), (q_3, .inl (cI, (stT q).length, .inl (upd fu i r9)))] ++ ((sT cI (Rb.map bq) (Rt.map tq)) ++ ((xA cI x a b f q) ++ ((xB cI b g5 q5) ++ [])))) := hD
                          refine W.eq (g2 := F0 m 509 ls [.int r_7, .int (-1)]) rfl ?_
                          refine W.widen (k := c0 + 1 + 1 + 1) (n := s0 + ((stT q).length) + ((stT q).length) + ((stT q).length)) (Nat.le_refl _) (Nat.le_refl _) ?_
                          refine k_top (v := nI (stI q)) (hr_506) ?_
                          refine lv_icmp_ge (tgt := 533) hx hb dL_law_509 (by decide) (fun c_509 => ?_) (fun c_509 => ?_)
                          · skip
                            exact absurd c_509 (nI_m1n (by omega))
                          · skip
                            refine lv_aload hx hb dL_law_512 (lv_at hl 16 rfl) ?_
                            refine lv_iload hx hb dL_law_514 (lv_at hl 17 rfl) ?_
                            refine k_iald hx hb hK hP 6 0 rfl rfl i (rfl) (by omega) (by omega) dL_law_516 ?_
                            refine k_top (v := r9) (pk_us) ?_
                            refine lv_if_ne (tgt := 524) hx hb dL_law_517 (by decide) (fun c_517 => ?_) (fun c_517 => ?_)
                            · skip
                              refine lv_iconst (v := nI 0) hx hb dL_law_524 (by decide +kernel) ?_
                              refine lv_aload hx hb dL_law_525 (lv_at hl 15 rfl) ?_
                              refine lv_iload hx hb dL_law_527 (lv_at hl 17 rfl) ?_
                              refine k_zald hx hb hK hP 5 2 rfl rfl i rfl (by omega) (by omega) dL_law_529 ?_
                              refine k_top (v := nI 1) (pk_us) ?_
                              refine k_cmp_ne (tgt := 535) hx hb 0 1 rfl rfl (by omega) (by omega) dL_law_530 (by decide) (fun c_530 => ?_) (fun c_530 => ?_)
                              · skip
                                refine lv_iinc (v := nI (i + 1)) (lv' := [(19, .int (nI (i + 1))), (15, .int (nI (ltP (stT q) (i + 1)))), (14, .int (nI (spA (stT q) (i + 1)))), (13, .int (nI (cnN (isT (stT q)) (i + 1)))), (0, .ref sc), (1, .ref x), (2, .ref s), (3, .int (nI t)), (4, .int v), (5, .long (dgS q)), (7, .int (nI ((stB q).length))), (8, .int (nI (ns (stB q)))), (10, .int (nI (mxN (stB q) (stB q).length))), (11, .ref sz), (12, .int (nI ((stT q).length))), (16, .ref q_1), (17, .ref q_2), (18, .ref q_3)]) hx hb dL_law_535 hl (k := 17) rfl (nI_1 _) (by decide) rfl (fun ls hl => ?_)
                                refine lv_goto (tgt := 345) hx hb dL_law_538 (by decide) ?_
                                exact ih (i + 1) (upd fp i (nI (tkP ((stT q).getD i tk0)))) (upd fz i (nI 1)) (upd fu i r9) g5 q5 (by omega) (upd_all (F := fun j => nI (tkP ((stT q).getD j tk0))) hfp rfl) (upd_all (F := fun j => if tkX ((stT q).getD j tk0) = -1 then 1 else 0) hfz (if_pos hx9).symm) (upd_allP (F := fun j r => fstR (fun k => ¬ tkX ((stT (itS q k)).getD j tk0) = -1) r) hfu hr_381) (by omega) _ _ (z_subP hP [0, 1, 2, 3, 4, 5, 6] (rfl)) (z_subD hD [0, 1, 2, 3, 4, 5, 6] (by decide) (rfl)) hS _ (lv_sub hl [4, 5, 6, 7, 8, 9, 10, 11, 12, 13, 14, 3, 2, 1, 15, 16, 17, 0] (rfl))
                              · exact absurd c_530 (by omega)
                            · skip
                              exact absurd c_517 hu0
        · skip
          have hx9 : ¬ tkX ((stT q).getD i tk0) = -1 := by rw [ex9]; exact nI_nm1 (by omega)
          have hp30 := (hO.2.2.1 i c_349).2.2.2
          refine lv_aload hx hb dL_law_352 (lv_at hl 14 rfl) ?_
          refine lv_iload hx hb dL_law_354 (lv_at hl 17 rfl) ?_
          refine lv_aload_n hx hb dL_law_356 rfl (lv_at hl 1 rfl) ?_
          refine lv_iload hx hb dL_law_357 (lv_at hl 17 rfl) ?_
          refine kz_callX (As := [.int (nI i)]) (rest := [.int (nI i), .ref q_1]) F (c_ZX3_patienceOf l D cI x a b f q i hR c_349) gL_law_X3_patienceOf rfl (nA := 1) (by decide +kernel) rfl ⟨Nat.le_of_ble_eq_true rfl, Nat.le_of_ble_eq_true rfl⟩ hK hP hD hS hA hG (ci := 3) (q0 := 0) rfl rfl rfl zp_pn [0] rfl rfl hl.1 (Nat.le_of_ble_eq_true rfl) dL_law_359 ⟨(show c0 + 1 + 1 + 1 + 0 ≤ 908051 by omega), (show s0 + ((stT q).length) + ((stT q).length) + ((stT q).length) + 0 ≤ 6377315 by omega)⟩ (fun r_8 u H locs hr_359 hP hD hS => ?_)
          try dsimp only at hr_359
          have hP := z_PS z_pnb hP
          have hD := z_DS z_pnb hD
          have hP : va_P D vwCl ([(s, .inr (4, [.int (nI (stI q)), .int (nI (stN q)), .int (stO q), .int (stV q), .int (nI (stG q)), .int (nI (stS q)), .int (stM q), .ref ba, .ref ta])), (ba, .inl (cQ, Rb.length, .inr (.inr (.inr (.inr (qf (ad Rb))))))), (ta, .inl (cQ, Rt.length, .inr (.inr (.inr (.inr (qf (ad Rt))))))), (sz, .inl (cI, (stB q).length, .inl fs)), (q_1, .inl (cI, (stT q).length, .inl fp)), (q_2, .inl (cZ, (stT q).length, .inl fz)), (q_3, .inl (cI, (stT q).length, .inl fu))] ++ ((sT cI (Rb.map bq) (Rt.map tq)) ++ ((xA cI x a b f q) ++ ((xB cI b g4 q4) ++ [])))) H := hP
          have hD : va_D A ([(s, .inr (4, [.int (nI (stI q)), .int (nI (stN q)), .int (stO q), .int (stV q), .int (nI (stG q)), .int (nI (stS q)), .int (stM q), .ref ba, .ref ta])), (ba, .inl (cQ, Rb.length, .inr (.inr (.inr (.inr (qf (ad Rb))))))), (ta, .inl (cQ, Rt.length, .inr (.inr (.inr (.inr (qf (ad Rt))))))), (sz, .inl (cI, (stB q).length, .inl fs)), (q_1, .inl (cI, (stT q).length, .inl fp)), (q_2, .inl (cZ, (stT q).length, .inl fz)), (q_3, .inl (cI, (stT q).length, .inl fu))] ++ ((sT cI (Rb.map bq) (Rt.map tq)) ++ ((xA cI x a b f q) ++ ((xB cI b g4 q4) ++ [])))) := hD
          refine W.eq (g2 := F0 m 362 ls [.int r_8, .int (nI i), .ref q_1]) rfl ?_
          refine W.widen (k := c0 + 1 + 1 + 1) (n := s0 + ((stT q).length) + ((stT q).length) + ((stT q).length)) (Nat.le_refl _) (Nat.le_refl _) ?_
          refine k_top (v := nI (tkP ((stT q).getD i tk0))) (hr_359) ?_
          refine k_iast hx hb hK hP hD hS 4 0 rfl rfl i (rfl) (by omega) (by omega) dL_law_362 (fun H locs hP hD hS => ?_)
          have hP : va_P D vwCl ([(s, .inr (4, [.int (nI (stI q)), .int (nI (stN q)), .int (stO q), .int (stV q), .int (nI (stG q)), .int (nI (stS q)), .int (stM q), .ref ba, .ref ta])), (ba, .inl (cQ, Rb.length, .inr (.inr (.inr (.inr (qf (ad Rb))))))), (ta, .inl (cQ, Rt.length, .inr (.inr (.inr (.inr (qf (ad Rt))))))), (sz, .inl (cI, (stB q).length, .inl fs)), (q_1, .inl (cI, (stT q).length, .inl (upd fp i (nI (tkP ((stT q).getD i tk0)))))), (q_2, .inl (cZ, (stT q).length, .inl fz)), (q_3, .inl (cI, (stT q).length, .inl fu))] ++ ((sT cI (Rb.map bq) (Rt.map tq)) ++ ((xA cI x a b f q) ++ ((xB cI b g4 q4) ++ [])))) H := hP
          have hD : va_D A ([(s, .inr (4, [.int (nI (stI q)), .int (nI (stN q)), .int (stO q), .int (stV q), .int (nI (stG q)), .int (nI (stS q)), .int (stM q), .ref ba, .ref ta])), (ba, .inl (cQ, Rb.length, .inr (.inr (.inr (.inr (qf (ad Rb))))))), (ta, .inl (cQ, Rt.length, .inr (.inr (.inr (.inr (qf (ad Rt))))))), (sz, .inl (cI, (stB q).length, .inl fs)), (q_1, .inl (cI, (stT q).length, .inl (upd fp i (nI (tkP ((stT q).getD i tk0)))))), (q_2, .inl (cZ, (stT q).length, .inl fz)), (q_3, .inl (cI, (stT q).length, .inl fu))] ++ ((sT cI (Rb.map bq) (Rt.map tq)) ++ ((xA cI x a b f q) ++ ((xB cI b g4 q4) ++ [])))) := hD
          refine lv_aload hx hb dL_law_363 (lv_at hl 15 rfl) ?_
          refine lv_iload hx hb dL_law_365 (lv_at hl 17 rfl) ?_
          refine lv_aload_n hx hb dL_law_367 rfl (lv_at hl 1 rfl) ?_
          refine lv_iload hx hb dL_law_368 (lv_at hl 17 rfl) ?_
          refine kz_callX (As := [.int (nI i)]) (rest := [.int (nI i), .ref q_2]) F (c_ZX3_isPresent l D cI x a b f q i hR c_349) gL_law_X3_isPresent rfl (nA := 1) (by decide +kernel) rfl ⟨Nat.le_of_ble_eq_true rfl, Nat.le_of_ble_eq_true rfl⟩ hK hP hD hS hA hG (ci := 3) (q0 := 0) rfl rfl rfl zp_pn [0] rfl rfl hl.1 (Nat.le_of_ble_eq_true rfl) dL_law_370 ⟨(show c0 + 1 + 1 + 1 + 0 ≤ 908051 by omega), (show s0 + ((stT q).length) + ((stT q).length) + ((stT q).length) + 0 ≤ 6377315 by omega)⟩ (fun r_9 u H locs hr_370 hP hD hS => ?_)
          try dsimp only at hr_370
          have hP := z_PS z_pnb hP
          have hD := z_DS z_pnb hD
          have hP : va_P D vwCl ([(s, .inr (4, [.int (nI (stI q)), .int (nI (stN q)), .int (stO q), .int (stV q), .int (nI (stG q)), .int (nI (stS q)), .int (stM q), .ref ba, .ref ta])), (ba, .inl (cQ, Rb.length, .inr (.inr (.inr (.inr (qf (ad Rb))))))), (ta, .inl (cQ, Rt.length, .inr (.inr (.inr (.inr (qf (ad Rt))))))), (sz, .inl (cI, (stB q).length, .inl fs)), (q_1, .inl (cI, (stT q).length, .inl (upd fp i (nI (tkP ((stT q).getD i tk0)))))), (q_2, .inl (cZ, (stT q).length, .inl fz)), (q_3, .inl (cI, (stT q).length, .inl fu))] ++ ((sT cI (Rb.map bq) (Rt.map tq)) ++ ((xA cI x a b f q) ++ ((xB cI b g4 q4) ++ [])))) H := hP
          have hD : va_D A ([(s, .inr (4, [.int (nI (stI q)), .int (nI (stN q)), .int (stO q), .int (stV q), .int (nI (stG q)), .int (nI (stS q)), .int (stM q), .ref ba, .ref ta])), (ba, .inl (cQ, Rb.length, .inr (.inr (.inr (.inr (qf (ad Rb))))))), (ta, .inl (cQ, Rt.length, .inr (.inr (.inr (.inr (qf (ad Rt))))))), (sz, .inl (cI, (stB q).length, .inl fs)), (q_1, .inl (cI, (stT q).length, .inl (upd fp i (nI (tkP ((stT q).getD i tk0)))))), (q_2, .inl (cZ, (stT q).length, .inl fz)), (q_3, .inl (cI, (stT q).length, .inl fu))] ++ ((sT cI (Rb.map bq) (Rt.map tq)) ++ ((xA cI x a b f q) ++ ((xB cI b g4 q4) ++ [])))) := hD
          refine W.eq (g2 := F0 m 373 ls [.int r_9, .int (nI i), .ref q_2]) rfl ?_
          refine W.widen (k := c0 + 1 + 1 + 1) (n := s0 + ((stT q).length) + ((stT q).length) + ((stT q).length)) (Nat.le_refl _) (Nat.le_refl _) ?_
          refine k_top (v := nI 0) (hr_370.trans (if_neg hx9)) ?_
          refine k_zast hx hb hK hP hD hS 5 2 rfl rfl i rfl (by omega) (by omega) (by decide) dL_law_373 (fun H locs hP hD hS => ?_)
          have hP : va_P D vwCl ([(s, .inr (4, [.int (nI (stI q)), .int (nI (stN q)), .int (stO q), .int (stV q), .int (nI (stG q)), .int (nI (stS q)), .int (stM q), .ref ba, .ref ta])), (ba, .inl (cQ, Rb.length, .inr (.inr (.inr (.inr (qf (ad Rb))))))), (ta, .inl (cQ, Rt.length, .inr (.inr (.inr (.inr (qf (ad Rt))))))), (sz, .inl (cI, (stB q).length, .inl fs)), (q_1, .inl (cI, (stT q).length, .inl (upd fp i (nI (tkP ((stT q).getD i tk0)))))), (q_2, .inl (cZ, (stT q).length, .inl (upd fz i (nI 0)))), (q_3, .inl (cI, (stT q).length, .inl fu))] ++ ((sT cI (Rb.map bq) (Rt.map tq)) ++ ((xA cI x a b f q) ++ ((xB cI b g4 q4) ++ [])))) H := hP
          have hD : va_D A ([(s, .inr (4, [.int (nI (stI q)), .int (nI (stN q)), .int (stO q), .int (stV q), .int (nI (stG q)), .int (nI (stS q)), .int (stM q), .ref ba, .ref ta])), (ba, .inl (cQ, Rb.length, .inr (.inr (.inr (.inr (qf (ad Rb))))))), (ta, .inl (cQ, Rt.length, .inr (.inr (.inr (.inr (qf (ad Rt))))))), (sz, .inl (cI, (stB q).length, .inl fs)), (q_1, .inl (cI, (stT q).length, .inl (upd fp i (nI (tkP ((stT q).getD i tk0)))))), (q_2, .inl (cZ, (stT q).length, .inl (upd fz i (nI 0)))), (q_3, .inl (cI, (stT q).length, .inl fu))] ++ ((sT cI (Rb.map bq) (Rt.map tq)) ++ ((xA cI x a b f q) ++ ((xB cI b g4 q4) ++ [])))) := hD
          refine lv_aload hx hb dL_law_374 (lv_at hl 16 rfl) ?_
          refine lv_iload hx hb dL_law_376 (lv_at hl 17 rfl) ?_
          refine lv_aload_n hx hb dL_law_378 rfl (lv_at hl 1 rfl) ?_
          refine lv_iload hx hb dL_law_379 (lv_at hl 17 rfl) ?_
          refine kz_callX (As := [.int (nI i)]) (rest := [.int (nI i), .ref q_3]) F (c_ZX3_minutesUntilExit l D cI x a b f g4 q q4 i hR hO c_349) gL_law_X3_minutesUntilExit rfl (nA := 1) (by decide +kernel) rfl ⟨Nat.le_of_ble_eq_true rfl, Nat.le_of_ble_eq_true rfl⟩ hK hP hD hS hA hG (ci := 3) (q0 := 0) rfl rfl rfl zp_pf [0] rfl rfl hl.1 (Nat.le_of_ble_eq_true rfl) dL_law_381 ⟨(show c0 + 1 + 1 + 1 + 0 ≤ 908051 by omega), (show s0 + ((stT q).length) + ((stT q).length) + ((stT q).length) + 0 ≤ 6377315 by omega)⟩ (fun r9 u H locs hr_381 hP hD hS => ?_)
          obtain ⟨g5, q5⟩ := u
          try dsimp only at hr_381
          have hP := z_PS z_pfb hP
          have hD := z_DS z_pfb hD
          have hP : va_P D vwCl ([(s, .inr (4, [.int (nI (stI q)), .int (nI (stN q)), .int (stO q), .int (stV q), .int (nI (stG q)), .int (nI (stS q)), .int (stM q), .ref ba, .ref ta])), (ba, .inl (cQ, Rb.length, .inr (.inr (.inr (.inr (qf (ad Rb))))))), (ta, .inl (cQ, Rt.length, .inr (.inr (.inr (.inr (qf (ad Rt))))))), (sz, .inl (cI, (stB q).length, .inl fs)), (q_1, .inl (cI, (stT q).length, .inl (upd fp i (nI (tkP ((stT q).getD i tk0)))))), (q_2, .inl (cZ, (stT q).length, .inl (upd fz i (nI 0)))), (q_3, .inl (cI, (stT q).length, .inl fu))] ++ ((sT cI (Rb.map bq) (Rt.map tq)) ++ ((xA cI x a b f q) ++ ((xB cI b g5 q5) ++ [])))) H := hP
          have hD : va_D A ([(s, .inr (4, [.int (nI (stI q)), .int (nI (stN q)), .int (stO q), .int (stV q), .int (nI (stG q)), .int (nI (stS q)), .int (stM q), .ref ba, .ref ta])), (ba, .inl (cQ, Rb.length, .inr (.inr (.inr (.inr (qf (ad Rb))))))), (ta, .inl (cQ, Rt.length, .inr (.inr (.inr (.inr (qf (ad Rt))))))), (sz, .inl (cI, (stB q).length, .inl fs)), (q_1, .inl (cI, (stT q).length, .inl (upd fp i (nI (tkP ((stT q).getD i tk0)))))), (q_2, .inl (cZ, (stT q).length, .inl (upd fz i (nI 0)))), (q_3, .inl (cI, (stT q).length, .inl fu))] ++ ((sT cI (Rb.map bq) (Rt.map tq)) ++ ((xA cI x a b f q) ++ ((xB cI b g5 q5) ++ [])))) := hD
          refine W.eq (g2 := F0 m 384 ls [.int r9, .int (nI i), .ref q_3]) rfl ?_
          refine W.widen (k := c0 + 1 + 1 + 1) (n := s0 + ((stT q).length) + ((stT q).length) + ((stT q).length)) (Nat.le_refl _) (Nat.le_refl _) ?_
          have hu0 := fst_eq hr_381 hx9
          refine k_iast hx hb hK hP hD hS 6 0 rfl rfl i (rfl) (by omega) (by omega) dL_law_384 (fun H locs hP hD hS => ?_)
          have hP : va_P D vwCl ([(s, .inr (4, [.int (nI (stI q)), .int (nI (stN q)), .int (stO q), .int (stV q), .int (nI (stG q)), .int (nI (stS q)), .int (stM q), .ref ba, .ref ta])), (ba, .inl (cQ, Rb.length, .inr (.inr (.inr (.inr (qf (ad Rb))))))), (ta, .inl (cQ, Rt.length, .inr (.inr (.inr (.inr (qf (ad Rt))))))), (sz, .inl (cI, (stB q).length, .inl fs)), (q_1, .inl (cI, (stT q).length, .inl (upd fp i (nI (tkP ((stT q).getD i tk0)))))), (q_2, .inl (cZ, (stT q).length, .inl (upd fz i (nI 0)))), (q_3, .inl (cI, (stT q).length, .inl (upd fu i r9)))] ++ ((sT cI (Rb.map bq) (Rt.map tq)) ++ ((xA cI x a b f q) ++ ((xB cI b g5 q5) ++ [])))) H := hP
          have hD : va_D A ([(s, .inr (4, [.int (nI (stI q)), .int (nI (stN q)), .int (stO q), .int (stV q), .int (nI (stG q)), .int (nI (stS q)), .int (stM q), .ref ba, .ref ta])), (ba, .inl (cQ, Rb.length, .inr (.inr (.inr (.inr (qf (ad Rb))))))), (ta, .inl (cQ, Rt.length, .inr (.inr (.inr (.inr (qf (ad Rt))))))), (sz, .inl (cI, (stB q).length, .inl fs)), (q_1, .inl (cI, (stT q).length, .inl (upd fp i (nI (tkP ((stT q).getD i tk0)))))), (q_2, .inl (cZ, (stT q).length, .inl (upd fz i (nI 0)))), (q_3, .inl (cI, (stT q).length, .inl (upd fu i r9)))] ++ ((sT cI (Rb.map bq) (Rt.map tq)) ++ ((xA cI x a b f q) ++ ((xB cI b g5 q5) ++ [])))) := hD
          refine lv_iload hx hb dL_law_385 (lv_at hl 11 rfl) ?_
          refine lv_aload hx hb dL_law_387 (lv_at hl 15 rfl) ?_
          refine lv_iload hx hb dL_law_389 (lv_at hl 17 rfl) ?_
          refine k_zald hx hb hK hP 5 2 rfl rfl i rfl (by omega) (by omega) dL_law_391 ?_
          refine k_top (v := nI 0) (pk_us) ?_
          refine k_if_eq (tgt := 399) hx hb 0 rfl (by omega) dL_law_392 (by decide) (fun c_392 => ?_) (fun c_392 => ?_)
          · skip
            refine lv_iconst (v := nI 0) hx hb dL_law_399 (by decide +kernel) ?_
            refine k_iadd hx hb (nI (cnN (isT (stT q)) (i + 1))) (by rw [cn_f (isT_f hx9)]; exact nI_add _ _) dL_law_400 ?_
            refine lv_istore (lv' := [(13, .int (nI (cnN (isT (stT q)) (i + 1)))), (0, .ref sc), (1, .ref x), (2, .ref s), (3, .int (nI t)), (4, .int v), (5, .long (dgS q)), (7, .int (nI ((stB q).length))), (8, .int (nI (ns (stB q)))), (10, .int (nI (mxN (stB q) (stB q).length))), (11, .ref sz), (12, .int (nI ((stT q).length))), (14, .int (nI (spA (stT q) i))), (15, .int (nI (ltP (stT q) i))), (16, .ref q_1), (17, .ref q_2), (18, .ref q_3), (19, .int (nI i))]) hx hb dL_law_401 hl (by decide) rfl (fun ls hl => ?_)
            refine lv_iload hx hb dL_law_403 (lv_at hl 12 rfl) ?_
            refine lv_aload hx hb dL_law_405 (lv_at hl 14 rfl) ?_
            refine lv_iload hx hb dL_law_407 (lv_at hl 17 rfl) ?_
            refine k_iald hx hb hK hP 4 0 rfl rfl i (rfl) (by omega) (by omega) dL_law_409 ?_
            refine k_top (v := nI (tkP ((stT q).getD i tk0))) (pk_us) ?_
            refine k_iadd hx hb (nI (spA (stT q) (i + 1))) (nI_add _ _) dL_law_410 ?_
            refine lv_istore (lv' := [(14, .int (nI (spA (stT q) (i + 1)))), (13, .int (nI (cnN (isT (stT q)) (i + 1)))), (0, .ref sc), (1, .ref x), (2, .ref s), (3, .int (nI t)), (4, .int v), (5, .long (dgS q)), (7, .int (nI ((stB q).length))), (8, .int (nI (ns (stB q)))), (10, .int (nI (mxN (stB q) (stB q).length))), (11, .ref sz), (12, .int (nI ((stT q).length))), (15, .int (nI (ltP (stT q) i))), (16, .ref q_1), (17, .ref q_2), (18, .ref q_3), (19, .int (nI i))]) hx hb dL_law_411 hl (by decide) rfl (fun ls hl => ?_)
            refine lv_aload hx hb dL_law_413 (lv_at hl 15 rfl) ?_
            refine lv_iload hx hb dL_law_415 (lv_at hl 17 rfl) ?_
            refine k_zald hx hb hK hP 5 2 rfl rfl i rfl (by omega) (by omega) dL_law_417 ?_
            refine k_top (v := nI 0) (pk_us) ?_
            refine k_if_eq (tgt := 434) hx hb 0 rfl (by omega) dL_law_418 (by decide) (fun c_418 => ?_) (fun c_418 => ?_)
            · skip
              refine lv_iload hx hb dL_law_434 (lv_at hl 13 rfl) ?_
              refine k_top (v := nI (ltP (stT q) (i + 1))) (congrArg nI (ltP_f hx9).symm) ?_
              refine lv_istore (lv' := [(15, .int (nI (ltP (stT q) (i + 1)))), (14, .int (nI (spA (stT q) (i + 1)))), (13, .int (nI (cnN (isT (stT q)) (i + 1)))), (0, .ref sc), (1, .ref x), (2, .ref s), (3, .int (nI t)), (4, .int v), (5, .long (dgS q)), (7, .int (nI ((stB q).length))), (8, .int (nI (ns (stB q)))), (10, .int (nI (mxN (stB q) (stB q).length))), (11, .ref sz), (12, .int (nI ((stT q).length))), (16, .ref q_1), (17, .ref q_2), (18, .ref q_3), (19, .int (nI i))]) hx hb dL_law_436 hl (by decide) rfl (fun ls hl => ?_)
              refine lv_aload hx hb dL_law_438 (lv_at hl 14 rfl) ?_
              refine lv_iload hx hb dL_law_440 (lv_at hl 17 rfl) ?_
              refine k_iald hx hb hK hP 4 0 rfl rfl i (rfl) (by omega) (by omega) dL_law_442 ?_
              refine k_top (v := nI (tkP ((stT q).getD i tk0))) (pk_us) ?_
              refine k_if_lt (tgt := 533) hx hb (tkP ((stT q).getD i tk0)) rfl (by omega) dL_law_443 (by decide) (fun c_443 => ?_) (fun c_443 => ?_)
              · exact c_443.elim
              · skip
                refine lv_aload hx hb dL_law_446 (lv_at hl 14 rfl) ?_
                refine lv_iload hx hb dL_law_448 (lv_at hl 17 rfl) ?_
                refine k_iald hx hb hK hP 4 0 rfl rfl i (rfl) (by omega) (by omega) dL_law_450 ?_
                refine k_top (v := nI (tkP ((stT q).getD i tk0))) (pk_us) ?_
                refine lv_bipush (v := nI 30) hx hb dL_law_451 (by decide +kernel) ?_
                refine k_cmp_gt (tgt := 533) hx hb (tkP ((stT q).getD i tk0)) 30 rfl rfl (by omega) (by omega) dL_law_453 (by decide) (fun c_453 => ?_) (fun c_453 => ?_)
                · skip
                  exact absurd c_453 (by omega)
                · skip
                  refine lv_aload hx hb dL_law_456 (lv_at hl 15 rfl) ?_
                  refine lv_iload hx hb dL_law_458 (lv_at hl 17 rfl) ?_
                  refine k_zald hx hb hK hP 5 2 rfl rfl i rfl (by omega) (by omega) dL_law_460 ?_
                  refine k_top (v := nI 0) (pk_us) ?_
                  refine lv_aload hx hb dL_law_461 (lv_at hl 14 rfl) ?_
                  refine lv_iload hx hb dL_law_463 (lv_at hl 17 rfl) ?_
                  refine k_iald hx hb hK hP 4 0 rfl rfl i (rfl) (by omega) (by omega) dL_law_465 ?_
                  refine k_top (v := nI (tkP ((stT q).getD i tk0))) (pk_us) ?_
                  refine k_if_le (tgt := 473) hx hb (tkP ((stT q).getD i tk0)) rfl (by omega) dL_law_466 (by decide) (fun c_466 => ?_) (fun c_466 => ?_)
                  · skip
                    refine lv_iconst (v := nI 0) hx hb dL_law_473 (by decide +kernel) ?_
                    refine k_cmp_ne (tgt := 533) hx hb 0 0 rfl rfl (by omega) (by omega) dL_law_474 (by decide) (fun c_474 => ?_) (fun c_474 => ?_)
                    · exact absurd c_474 (by omega)
                    · skip
                      refine lv_aload hx hb dL_law_477 (lv_at hl 15 rfl) ?_
                      refine lv_iload hx hb dL_law_479 (lv_at hl 17 rfl) ?_
                      refine k_zald hx hb hK hP 5 2 rfl rfl i rfl (by omega) (by omega) dL_law_481 ?_
                      refine k_top (v := nI 0) (pk_us) ?_
                      refine lv_aload_n hx hb dL_law_482 rfl (lv_at hl 4 rfl) ?_
                      refine lv_iload hx hb dL_law_483 (lv_at hl 17 rfl) ?_
                      refine kz_callX (As := [.int (nI i)]) (rest := [.int (nI 0)]) F (c_ZX3_exitOf l D cI x a b f q i hR c_349) gL_law_X3_exitOf rfl (nA := 1) (by decide +kernel) rfl ⟨Nat.le_of_ble_eq_true rfl, Nat.le_of_ble_eq_true rfl⟩ hK hP hD hS hA hG (ci := 3) (q0 := 0) rfl rfl rfl zp_pn [0] rfl rfl hl.1 (Nat.le_of_ble_eq_true rfl) dL_law_485 ⟨(show c0 + 1 + 1 + 1 + 0 ≤ 908051 by omega), (show s0 + ((stT q).length) + ((stT q).length) + ((stT q).length) + 0 ≤ 6377315 by omega)⟩ (fun r_10 u H locs hr_485 hP hD hS => ?_)
                      try dsimp only at hr_485
                      have hP := z_PS z_pnb hP
                      have hD := z_DS z_pnb hD
                      have hP : va_P D vwCl ([(s, .inr (4, [.int (nI (stI q)), .int (nI (stN q)), .int (stO q), .int (stV q), .int (nI (stG q)), .int (nI (stS q)), .int (stM q), .ref ba, .ref ta])), (ba, .inl (cQ, Rb.length, .inr (.inr (.inr (.inr (qf (ad Rb))))))), (ta, .inl (cQ, Rt.length, .inr (.inr (.inr (.inr (qf (ad Rt))))))), (sz, .inl (cI, (stB q).length, .inl fs)), (q_1, .inl (cI, (stT q).length, .inl (upd fp i (nI (tkP ((stT q).getD i tk0)))))), (q_2, .inl (cZ, (stT q).length, .inl (upd fz i (nI 0)))), (q_3, .inl (cI, (stT q).length, .inl (upd fu i r9)))] ++ ((sT cI (Rb.map bq) (Rt.map tq)) ++ ((xA cI x a b f q) ++ ((xB cI b g5 q5) ++ [])))) H := hP
                      have hD : va_D A ([(s, .inr (4, [.int (nI (stI q)), .int (nI (stN q)), .int (stO q), .int (stV q), .int (nI (stG q)), .int (nI (stS q)), .int (stM q), .ref ba, .ref ta])), (ba, .inl (cQ, Rb.length, .inr (.inr (.inr (.inr (qf (ad Rb))))))), (ta, .inl (cQ, Rt.length, .inr (.inr (.inr (.inr (qf (ad Rt))))))), (sz, .inl (cI, (stB q).length, .inl fs)), (q_1, .inl (cI, (stT q).length, .inl (upd fp i (nI (tkP ((stT q).getD i tk0)))))), (q_2, .inl (cZ, (stT q).length, .inl (upd fz i (nI 0)))), (q_3, .inl (cI, (stT q).length, .inl (upd fu i r9)))] ++ ((sT cI (Rb.map bq) (Rt.map tq)) ++ ((xA cI x a b f q) ++ ((xB cI b g5 q5) ++ [])))) := hD
                      refine W.eq (g2 := F0 m 488 ls [.int r_10, .int (nI 0)]) rfl ?_
                      refine W.widen (k := c0 + 1 + 1 + 1) (n := s0 + ((stT q).length) + ((stT q).length) + ((stT q).length)) (Nat.le_refl _) (Nat.le_refl _) ?_
                      refine k_top (v := nI m9) (hr_485.trans ex9) ?_
                      refine k_if_ge (tgt := 495) hx hb m9 rfl (by omega) dL_law_488 (by decide) (fun c_488 => ?_) (fun c_488 => ?_)
                      · skip
                        refine lv_iconst (v := nI 0) hx hb dL_law_495 (by decide +kernel) ?_
                        refine k_cmp_ne (tgt := 533) hx hb 0 0 rfl rfl (by omega) (by omega) dL_law_496 (by decide) (fun c_496 => ?_) (fun c_496 => ?_)
                        · exact absurd c_496 (by omega)
                        · skip
                          refine lv_aload_n hx hb dL_law_499 rfl (lv_at hl 4 rfl) ?_
                          refine lv_iload hx hb dL_law_500 (lv_at hl 17 rfl) ?_
                          refine kz_callX (As := [.int (nI i)]) (rest := []) F (c_ZX3_exitOf l D cI x a b f q i hR c_349) gL_law_X3_exitOf rfl (nA := 1) (by decide +kernel) rfl ⟨Nat.le_of_ble_eq_true rfl, Nat.le_of_ble_eq_true rfl⟩ hK hP hD hS hA hG (ci := 3) (q0 := 0) rfl rfl rfl zp_pn [0] rfl rfl hl.1 (Nat.le_of_ble_eq_true rfl) dL_law_502 ⟨(show c0 + 1 + 1 + 1 + 0 ≤ 908051 by omega), (show s0 + ((stT q).length) + ((stT q).length) + ((stT q).length) + 0 ≤ 6377315 by omega)⟩ (fun r_11 u H locs hr_502 hP hD hS => ?_)
                          try dsimp only at hr_502
                          have hP := z_PS z_pnb hP
                          have hD := z_DS z_pnb hD
                          have hP : va_P D vwCl ([(s, .inr (4, [.int (nI (stI q)), .int (nI (stN q)), .int (stO q), .int (stV q), .int (nI (stG q)), .int (nI (stS q)), .int (stM q), .ref ba, .ref ta])), (ba, .inl (cQ, Rb.length, .inr (.inr (.inr (.inr (qf (ad Rb))))))), (ta, .inl (cQ, Rt.length, .inr (.inr (.inr (.inr (qf (ad Rt))))))), (sz, .inl (cI, (stB q).length, .inl fs)), (q_1, .inl (cI, (stT q).length, .inl (upd fp i (nI (tkP ((stT q).getD i tk0)))))), (q_2, .inl (cZ, (stT q).length, .inl (upd fz i (nI 0)))), (q_3, .inl (cI, (stT q).length, .inl (upd fu i r9)))] ++ ((sT cI (Rb.map bq) (Rt.map tq)) ++ ((xA cI x a b f q) ++ ((xB cI b g5 q5) ++ [])))) H := hP
                          have hD : va_D A ([(s, .inr (4, [.int (nI (stI q)), .int (nI (stN q)), .int (stO q), .int (stV q), .int (nI (stG q)), .int (nI (stS q)), .int (stM q), .ref ba, .ref ta])), (ba, .inl (cQ, Rb.length, .inr (.inr (.inr (.inr (qf (ad Rb))))))), (ta, .inl (cQ, Rt.length, .inr (.inr (.inr (.inr (qf (ad Rt))))))), (sz, .inl (cI, (stB q).length, .inl fs)), (q_1, .inl (cI, (stT q).length, .inl (upd fp i (nI (tkP ((stT q).getD i tk0)))))), (q_2, .inl (cZ, (stT q).length, .inl (upd fz i (nI 0)))), (q_3, .inl (cI, (stT q).length, .inl (upd fu i r9)))] ++ ((sT cI (Rb.map bq) (Rt.map tq)) ++ ((xA cI x a b f q) ++ ((xB cI b g5 q5) ++ [])))) := hD
                          refine W.eq (g2 := F0 m 505 ls [.int r_11]) rfl ?_
                          refine W.widen (k := c0 + 1 + 1 + 1) (n := s0 + ((stT q).length) + ((stT q).length) + ((stT q).length)) (Nat.le_refl _) (Nat.le_refl _) ?_
                          refine k_top (v := nI m9) (hr_502.trans ex9) ?_
                          refine lv_aload_n hx hb dL_law_505 rfl (lv_at hl 4 rfl) ?_
                          refine kz_callX (As := []) (rest := [.int (nI m9)]) F (c_ZX3_minute l D cI x a b f q ) gL_law_X3_minute rfl (nA := 0) (by decide +kernel) rfl ⟨Nat.le_of_ble_eq_true rfl, Nat.le_of_ble_eq_true rfl⟩ hK hP hD hS hA hG (ci := 3) (q0 := 0) rfl rfl rfl zp_pn [0] rfl rfl hl.1 (Nat.le_of_ble_eq_true rfl) dL_law_506 ⟨(show c0 + 1 + 1 + 1 + 0 ≤ 908051 by omega), (show s0 + ((stT q).length) + ((stT q).length) + ((stT q).length) + 0 ≤ 6377315 by omega)⟩ (fun r_12 u H locs hr_506 hP hD hS => ?_)
                          try dsimp only at hr_506
                          have hP := z_PS z_pnb hP
                          have hD := z_DS z_pnb hD
                          have hP : va_P D vwCl ([(s, .inr (4, [.int (nI (stI q)), .int (nI (stN q)), .int (stO q), .int (stV q), .int (nI (stG q)), .int (nI (stS q)), .int (stM q), .ref ba, .ref ta])), (ba, .inl (cQ, Rb.length, .inr (.inr (.inr (.inr (qf (ad Rb))))))), (ta, .inl (cQ, Rt.length, .inr (.inr (.inr (.inr (qf (ad Rt))))))), (sz, .inl (cI, (stB q).length, .inl fs)), (q_1, .inl (cI, (stT q).length, .inl (upd fp i (nI (tkP ((stT q).getD i tk0)))))), (q_2, .inl (cZ, (stT q).length, .inl (upd fz i (nI 0)))), (q_3, .inl (cI, (stT q).length, .inl (upd fu i r9)))] ++ ((sT cI (Rb.map bq) (Rt.map tq)) ++ ((xA cI x a b f q) ++ ((xB cI b g5 q5) ++ [])))) H := hP
                          have hD : va_D A ([(s, .inr (4, [.int (nI (stI q)), .int (nI (stN q)), .int (stO q), .int (stV q), .int (nI (stG q)), .int (nI (stS q)), .int (stM q), .ref ba, .ref ta])), (ba, .inl (cQ, Rb.length, .inr (.inr (.inr (.inr (qf (ad Rb))))))), (ta, .inl (cQ, Rt.length, .inr (.inr (.inr (.inr (qf (ad Rt))))))), (sz, .inl (cI, (stB q).length, .inl fs)), (q_1, .inl (cI, (stT q).length, .inl (upd fp i (nI (tkP ((stT q).getD i tk0)))))), (q_2, .inl (cZ, (stT q).length, .inl (upd fz i (nI 0)))), (q_3, .inl (cI, (stT q).length, .inl (upd fu i r9)))] ++ ((sT cI (Rb.map bq) (Rt.map tq)) ++ ((xA cI x a b f q) ++ ((xB cI b g5 q5) ++ [])))) := hD
                          refine W.eq (g2 := F0 m 509 ls [.int r_12, .int (nI m9)]) rfl ?_
                          refine W.widen (k := c0 + 1 + 1 + 1) (n := s0 + ((stT q).length) + ((stT q).length) + ((stT q).length)) (Nat.le_refl _) (Nat.le_refl _) ?_
                          refine k_top (v := nI (stI q)) (hr_506) ?_
                          refine k_cmp_ge (tgt := 533) hx hb m9 (stI q) rfl rfl (by omega) (by omega) dL_law_509 (by decide) (fun c_509 => ?_) (fun c_509 => ?_)
                          · skip
                            exact absurd c_509 (by omega)
                          · skip
                            refine lv_aload hx hb dL_law_512 (lv_at hl 16 rfl) ?_
                            refine lv_iload hx hb dL_law_514 (lv_at hl 17 rfl) ?_
                            refine k_iald hx hb hK hP 6 0 rfl rfl i (rfl) (by omega) (by omega) dL_law_516 ?_
                            refine k_top (v := r9) (pk_us) ?_
                            refine lv_if_ne (tgt := 524) hx hb dL_law_517 (by decide) (fun c_517 => ?_) (fun c_517 => ?_)
                            · skip
                              exact absurd hu0 c_517
                            · skip
                              refine lv_iconst (v := nI 1) hx hb dL_law_520 (by decide +kernel) ?_
                              refine lv_goto (tgt := 525) hx hb dL_law_521 (by decide) ?_
                              refine lv_aload hx hb dL_law_525 (lv_at hl 15 rfl) ?_
                              refine lv_iload hx hb dL_law_527 (lv_at hl 17 rfl) ?_
                              refine k_zald hx hb hK hP 5 2 rfl rfl i rfl (by omega) (by omega) dL_law_529 ?_
                              refine k_top (v := nI 0) (pk_us) ?_
                              refine k_cmp_ne (tgt := 535) hx hb 1 0 rfl rfl (by omega) (by omega) dL_law_530 (by decide) (fun c_530 => ?_) (fun c_530 => ?_)
                              · skip
                                refine lv_iinc (v := nI (i + 1)) (lv' := [(19, .int (nI (i + 1))), (15, .int (nI (ltP (stT q) (i + 1)))), (14, .int (nI (spA (stT q) (i + 1)))), (13, .int (nI (cnN (isT (stT q)) (i + 1)))), (0, .ref sc), (1, .ref x), (2, .ref s), (3, .int (nI t)), (4, .int v), (5, .long (dgS q)), (7, .int (nI ((stB q).length))), (8, .int (nI (ns (stB q)))), (10, .int (nI (mxN (stB q) (stB q).length))), (11, .ref sz), (12, .int (nI ((stT q).length))), (16, .ref q_1), (17, .ref q_2), (18, .ref q_3)]) hx hb dL_law_535 hl (k := 17) rfl (nI_1 _) (by decide) rfl (fun ls hl => ?_)
                                refine lv_goto (tgt := 345) hx hb dL_law_538 (by decide) ?_
                                exact ih (i + 1) (upd fp i (nI (tkP ((stT q).getD i tk0)))) (upd fz i (nI 0)) (upd fu i r9) g5 q5 (by omega) (upd_all (F := fun j => nI (tkP ((stT q).getD j tk0))) hfp rfl) (upd_all (F := fun j => if tkX ((stT q).getD j tk0) = -1 then 1 else 0) hfz (if_neg hx9).symm) (upd_allP (F := fun j r => fstR (fun k => ¬ tkX ((stT (itS q k)).getD j tk0) = -1) r) hfu hr_381) (by omega) _ _ (z_subP hP [0, 1, 2, 3, 4, 5, 6] (rfl)) (z_subD hD [0, 1, 2, 3, 4, 5, 6] (by decide) (rfl)) hS _ (lv_sub hl [4, 5, 6, 7, 8, 9, 10, 11, 12, 13, 14, 3, 2, 1, 15, 16, 17, 0] (rfl))
                              · exact absurd c_530 (by omega)
                      · exact c_488.elim
                  · skip
                    exact absurd c_466 (by omega)
            · exact absurd c_418 (by omega)
          · exact absurd c_392 (by omega)
  exact loop_2 (((stT q).length) + 1) 0 (fun _ => 0) (fun _ => 0) (fun _ => 0) g q2 (Nat.zero_le _) (fun _ h => absurd h (by omega)) (fun _ h => absurd h (by omega)) (fun _ h => absurd h (by omega)) (by omega) _ _ (z_subP hP [0, 1, 2, 3, 4, 5, 6] (rfl)) (z_subD hD [0, 1, 2, 3, 4, 5, 6] (by decide) (rfl)) hS _ (lv_sub hl [8, 9, 10, 11, 12, 13, 14, 15, 16, 17, 7, 6, 5, 4, 3, 2, 1, 0] (rfl))
