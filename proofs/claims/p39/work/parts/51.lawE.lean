set_option maxHeartbeats 4000000 in
set_option maxRecDepth 100000 in
theorem law_E {p : Program} {l : Launch} {e : Env} {ss : State} {m : MethodId} {args : Array Value} {below : List Frame} {meth : Method} {c : Code} {D : va_G} {cI cQ cZ : ClassId} {sc LL : Nat} {xs : Nat → Int32} {A : Nat → Prop} (hl0 : l.stackTraces = false) (F : CallFix p m c cL_law 31 ss args wsL_law RL) (hK : va_K D vwCl [(cI, .int), (cQ, .array .int), (cZ, .boolean)] ss) (hG : kG A ss) (hA : ∀ q, ss.heap.size ≤ q → A q) (hX : va_X sc LL xs ss ss.heap) (hbl : sc < ss.heap.size) (hbA : ¬ A sc) (hLL : LL ≤ 260) {x : Nat} {a b : Nat → Nat} {s : Nat} {t : Nat} {v : Int32} (ht : t < 10) (Q : State → Prop)
    (K : ∀ (c1 s1 : Nat) (f : Nat → Nat → Int32) (g : Nat → Nat → Int32) (q : St) (q2 : St) (ba : Nat) (ta : Nat) (Rb : List (Nat × Tp)) (Rt : List (Nat × Tk)) (sz : Nat) (fs : Nat → Int32), c1 ≤ 100 + 18000 * t + 4801 → s1 ≤ 1000 + 180000 * t + 45012 → stI q ≤ 181 * t + 180 → (rR f q) → (rQ q Rb Rt) → (okQ q) → (szR (stB q) (stB q).length fs) → ∀ (H : Heap) (locs : List Loc), va_P D vwCl ([(s, .inr (4, [.int (nI (stI q)), .int (nI (stN q)), .int (stO q), .int (stV q), .int (nI (stG q)), .int (nI (stS q)), .int (stM q), .ref ba, .ref ta])), (ba, .inl (cQ, Rb.length, .inr (.inr (.inr (.inr (qf (ad Rb))))))), (ta, .inl (cQ, Rt.length, .inr (.inr (.inr (.inr (qf (ad Rt))))))), (sz, .inl (cI, (stB q).length, .inl fs))] ++ ((sT cI (Rb.map bq) (Rt.map tq)) ++ ((xA cI x a b f q) ++ ((xB cI b g q2) ++ [])))) H → va_D A ([(s, .inr (4, [.int (nI (stI q)), .int (nI (stN q)), .int (stO q), .int (stV q), .int (nI (stG q)), .int (nI (stS q)), .int (stM q), .ref ba, .ref ta])), (ba, .inl (cQ, Rb.length, .inr (.inr (.inr (.inr (qf (ad Rb))))))), (ta, .inl (cQ, Rt.length, .inr (.inr (.inr (.inr (qf (ad Rt))))))), (sz, .inl (cI, (stB q).length, .inl fs))] ++ ((sT cI (Rb.map bq) (Rt.map tq)) ++ ((xA cI x a b f q) ++ ((xB cI b g q2) ++ [])))) → va_S A ss.heap H locs → ∀ ls : Array Slot, lv_has ls 31 [(0, .ref sc), (1, .ref x), (2, .ref s), (3, .int (nI t)), (4, .int v), (5, .long (dgS q)), (7, .int (nI ((stB q).length))), (8, .int (nI (ns (stB q)))), (10, .int (nI (mxN (stB q) (stB q).length))), (11, .ref sz)] → W p l e room_1 ss m args below meth c H locs c1 s1 Q (F0 m 308 ls [])) :
    ∀ (c0 s0 : Nat) (f : Nat → Nat → Int32) (g : Nat → Nat → Int32) (q : St) (q2 : St) (ba : Nat) (ta : Nat) (Rb : List (Nat × Tp)) (Rt : List (Nat × Tk)), c0 ≤ 100 + 18000 * t + 4800 → s0 ≤ 1000 + 180000 * t + 45000 → stI q ≤ 181 * t + 180 → (rR f q) → (rQ q Rb Rt) → (okQ q) → ∀ (H : Heap) (locs : List Loc), va_P D vwCl ([(s, .inr (4, [.int (nI (stI q)), .int (nI (stN q)), .int (stO q), .int (stV q), .int (nI (stG q)), .int (nI (stS q)), .int (stM q), .ref ba, .ref ta])), (ba, .inl (cQ, Rb.length, .inr (.inr (.inr (.inr (qf (ad Rb))))))), (ta, .inl (cQ, Rt.length, .inr (.inr (.inr (.inr (qf (ad Rt)))))))] ++ ((sT cI (Rb.map bq) (Rt.map tq)) ++ ((xA cI x a b f q) ++ ((xB cI b g q2) ++ [])))) H → va_D A ([(s, .inr (4, [.int (nI (stI q)), .int (nI (stN q)), .int (stO q), .int (stV q), .int (nI (stG q)), .int (nI (stS q)), .int (stM q), .ref ba, .ref ta])), (ba, .inl (cQ, Rb.length, .inr (.inr (.inr (.inr (qf (ad Rb))))))), (ta, .inl (cQ, Rt.length, .inr (.inr (.inr (.inr (qf (ad Rt)))))))] ++ ((sT cI (Rb.map bq) (Rt.map tq)) ++ ((xA cI x a b f q) ++ ((xB cI b g q2) ++ [])))) → va_S A ss.heap H locs → ∀ ls : Array Slot, lv_has ls 31 [(0, .ref sc), (1, .ref x), (2, .ref s), (3, .int (nI t)), (4, .int v)] → W p l e room_1 ss m args below meth c H locs c0 s0 Q (F0 m 82 ls []) := by
  intro c0 s0 f g q q2 ba ta Rb Rt hcl hsl hI0 hR hq hok H locs hP hD hS ls hl
  obtain ⟨hx, hb, hml, hown, hts⟩ := id F
  have hO := hok.1
  have hI : stI q < 900000 := by omega
  have hX9 := okQ_X hok (by omega)
  have hn12 := hO.2.1
  have hn6 := hO.2.2.2.1
  have hct := ctT_le hO
  have hsp := spT_le hO
  have o7 := hO.2.2.2.2.2.2
  have hns := ns_le hO.1 hO.2.1
  have hlB : Rb.length = (stB q).length := by rw [hq.1, sn_len]
  have hlT : Rt.length = (stT q).length := by rw [hq.2, sn_len]
  have o5 := hO.2.2.2.2.1
  refine lv_aload_n hx hb dL_law_82 rfl (lv_at hl 1 rfl) ?_
  refine kz_callX (As := []) (rest := []) F (c_ZX3_digest l D cI x a b f g q q2 hR hO) gL_law_X3_digest rfl (nA := 0) (by decide +kernel) rfl ⟨Nat.le_of_ble_eq_true rfl, Nat.le_of_ble_eq_true rfl⟩ hK hP hD hS hA hG (ci := 3) (q0 := 0) rfl rfl rfl zp_pf [0] rfl rfl hl.1 (Nat.le_of_ble_eq_true rfl) dL_law_83 ⟨(show c0 + 0 ≤ 908051 by omega), (show s0 + 0 ≤ 6377315 by omega)⟩ (fun r_1 u H locs hr_83 hP hD hS => ?_)
  obtain ⟨g1, q3⟩ := u
  try dsimp only at hr_83
  have hP := z_PS z_pfb hP
  have hD := z_DS z_pfb hD
  have hP : va_P D vwCl ([(s, .inr (4, [.int (nI (stI q)), .int (nI (stN q)), .int (stO q), .int (stV q), .int (nI (stG q)), .int (nI (stS q)), .int (stM q), .ref ba, .ref ta])), (ba, .inl (cQ, Rb.length, .inr (.inr (.inr (.inr (qf (ad Rb))))))), (ta, .inl (cQ, Rt.length, .inr (.inr (.inr (.inr (qf (ad Rt)))))))] ++ ((sT cI (Rb.map bq) (Rt.map tq)) ++ ((xA cI x a b f q) ++ ((xB cI b g1 q3) ++ [])))) H := hP
  have hD : va_D A ([(s, .inr (4, [.int (nI (stI q)), .int (nI (stN q)), .int (stO q), .int (stV q), .int (nI (stG q)), .int (nI (stS q)), .int (stM q), .ref ba, .ref ta])), (ba, .inl (cQ, Rb.length, .inr (.inr (.inr (.inr (qf (ad Rb))))))), (ta, .inl (cQ, Rt.length, .inr (.inr (.inr (.inr (qf (ad Rt)))))))] ++ ((sT cI (Rb.map bq) (Rt.map tq)) ++ ((xA cI x a b f q) ++ ((xB cI b g1 q3) ++ [])))) := hD
  refine W.eq (g2 := F0 m 86 ls [.long r_1]) rfl ?_
  refine W.widen (k := c0) (n := s0) (Nat.le_refl _) (Nat.le_refl _) ?_
  refine k_topL (v := dgS q) (hr_83) ?_
  refine lv_lstore (lv' := [(5, .long (dgS q)), (0, .ref sc), (1, .ref x), (2, .ref s), (3, .int (nI t)), (4, .int v)]) hx hb dL_law_86 hl (by decide) rfl (fun ls hl => ?_)
  refine lv_aload_n hx hb dL_law_88 rfl (lv_at hl 2 rfl) ?_
  refine kz_callX (As := []) (rest := []) F (c_ZX3_topics l D cI x a b f q ) gL_law_X3_topics rfl (nA := 0) (by decide +kernel) rfl ⟨Nat.le_of_ble_eq_true rfl, Nat.le_of_ble_eq_true rfl⟩ hK hP hD hS hA hG (ci := 3) (q0 := 0) rfl rfl rfl zp_pn [0] rfl rfl hl.1 (Nat.le_of_ble_eq_true rfl) dL_law_89 ⟨(show c0 + 0 ≤ 908051 by omega), (show s0 + 0 ≤ 6377315 by omega)⟩ (fun r_2 u H locs hr_89 hP hD hS => ?_)
  try dsimp only at hr_89
  have hP := z_PS z_pnb hP
  have hD := z_DS z_pnb hD
  have hP : va_P D vwCl ([(s, .inr (4, [.int (nI (stI q)), .int (nI (stN q)), .int (stO q), .int (stV q), .int (nI (stG q)), .int (nI (stS q)), .int (stM q), .ref ba, .ref ta])), (ba, .inl (cQ, Rb.length, .inr (.inr (.inr (.inr (qf (ad Rb))))))), (ta, .inl (cQ, Rt.length, .inr (.inr (.inr (.inr (qf (ad Rt)))))))] ++ ((sT cI (Rb.map bq) (Rt.map tq)) ++ ((xA cI x a b f q) ++ ((xB cI b g1 q3) ++ [])))) H := hP
  have hD : va_D A ([(s, .inr (4, [.int (nI (stI q)), .int (nI (stN q)), .int (stO q), .int (stV q), .int (nI (stG q)), .int (nI (stS q)), .int (stM q), .ref ba, .ref ta])), (ba, .inl (cQ, Rb.length, .inr (.inr (.inr (.inr (qf (ad Rb))))))), (ta, .inl (cQ, Rt.length, .inr (.inr (.inr (.inr (qf (ad Rt)))))))] ++ ((sT cI (Rb.map bq) (Rt.map tq)) ++ ((xA cI x a b f q) ++ ((xB cI b g1 q3) ++ [])))) := hD
  refine W.eq (g2 := F0 m 92 ls [.int r_2]) rfl ?_
  refine W.widen (k := c0) (n := s0) (Nat.le_refl _) (Nat.le_refl _) ?_
  refine k_top (v := nI ((stB q).length)) (hr_89) ?_
  refine lv_istore (lv' := [(7, .int (nI ((stB q).length))), (5, .long (dgS q)), (0, .ref sc), (1, .ref x), (2, .ref s), (3, .int (nI t)), (4, .int v)]) hx hb dL_law_92 hl (by decide) rfl (fun ls hl => ?_)
  refine lv_iconst (v := nI 0) hx hb dL_law_94 (by decide +kernel) ?_
  refine lv_istore (lv' := [(8, .int (nI 0)), (7, .int (nI ((stB q).length))), (5, .long (dgS q)), (0, .ref sc), (1, .ref x), (2, .ref s), (3, .int (nI t)), (4, .int v)]) hx hb dL_law_95 hl (by decide) rfl (fun ls hl => ?_)
  refine lv_iconst (v := nI 0) hx hb dL_law_97 (by decide +kernel) ?_
  refine lv_istore (lv' := [(9, .int (nI 0)), (8, .int (nI 0)), (7, .int (nI ((stB q).length))), (5, .long (dgS q)), (0, .ref sc), (1, .ref x), (2, .ref s), (3, .int (nI t)), (4, .int v)]) hx hb dL_law_98 hl (by decide) rfl (fun ls hl => ?_)
  refine lv_iconst (v := nI 0) hx hb dL_law_100 (by decide +kernel) ?_
  refine lv_istore (lv' := [(10, .int (nI 0)), (9, .int (nI 0)), (8, .int (nI 0)), (7, .int (nI ((stB q).length))), (5, .long (dgS q)), (0, .ref sc), (1, .ref x), (2, .ref s), (3, .int (nI t)), (4, .int v)]) hx hb dL_law_101 hl (by decide) rfl (fun ls hl => ?_)
  refine lv_iload hx hb dL_law_103 (lv_at hl 3 rfl) ?_
  refine z_newa hx hb (hts (.arrayClass .int) (by decide +kernel)) hK 0 rfl hP hD hS hA ((stB q).length) rfl (by omega) ((show c0 + 1 ≤ 908051 by omega)) ((show s0 + ((stB q).length) ≤ 6377315 by omega)) dL_law_105 (fun q_1 H hP hD hS => ?_)
  have hP : va_P D vwCl ([(s, .inr (4, [.int (nI (stI q)), .int (nI (stN q)), .int (stO q), .int (stV q), .int (nI (stG q)), .int (nI (stS q)), .int (stM q), .ref ba, .ref ta])), (ba, .inl (cQ, Rb.length, .inr (.inr (.inr (.inr (qf (ad Rb))))))), (ta, .inl (cQ, Rt.length, .inr (.inr (.inr (.inr (qf (ad Rt))))))), (q_1, .inl (cI, (stB q).length, .inl (fun _ => 0)))] ++ ((sT cI (Rb.map bq) (Rt.map tq)) ++ ((xA cI x a b f q) ++ ((xB cI b g1 q3) ++ [])))) H := hP
  have hD : va_D A ([(s, .inr (4, [.int (nI (stI q)), .int (nI (stN q)), .int (stO q), .int (stV q), .int (nI (stG q)), .int (nI (stS q)), .int (stM q), .ref ba, .ref ta])), (ba, .inl (cQ, Rb.length, .inr (.inr (.inr (.inr (qf (ad Rb))))))), (ta, .inl (cQ, Rt.length, .inr (.inr (.inr (.inr (qf (ad Rt))))))), (q_1, .inl (cI, (stB q).length, .inl (fun _ => 0)))] ++ ((sT cI (Rb.map bq) (Rt.map tq)) ++ ((xA cI x a b f q) ++ ((xB cI b g1 q3) ++ [])))) := hD
  refine lv_astore (lv' := [(11, .ref q_1), (10, .int (nI 0)), (9, .int (nI 0)), (8, .int (nI 0)), (7, .int (nI ((stB q).length))), (5, .long (dgS q)), (0, .ref sc), (1, .ref x), (2, .ref s), (3, .int (nI t)), (4, .int v)]) hx hb dL_law_107 hl (by decide) rfl (fun ls hl => ?_)
  refine lv_iconst (v := nI 0) hx hb dL_law_109 (by decide +kernel) ?_
  refine lv_istore (lv' := [(12, .int (nI 0)), (11, .ref q_1), (10, .int (nI 0)), (9, .int (nI 0)), (8, .int (nI 0)), (7, .int (nI ((stB q).length))), (5, .long (dgS q)), (0, .ref sc), (1, .ref x), (2, .ref s), (3, .int (nI t)), (4, .int v)]) hx hb dL_law_110 hl (by decide) rfl (fun ls hl => ?_)
  have loop_3 : ∀ (n : Nat) (i : Nat) (fs : Nat → Int32), (i ≤ (stB q).length) → (szR (stB q) i fs) → (stB q).length - i < n → ∀ (H : Heap) (locs : List Loc), va_P D vwCl ([(s, .inr (4, [.int (nI (stI q)), .int (nI (stN q)), .int (stO q), .int (stV q), .int (nI (stG q)), .int (nI (stS q)), .int (stM q), .ref ba, .ref ta])), (ba, .inl (cQ, Rb.length, .inr (.inr (.inr (.inr (qf (ad Rb))))))), (ta, .inl (cQ, Rt.length, .inr (.inr (.inr (.inr (qf (ad Rt))))))), (q_1, .inl (cI, (stB q).length, .inl fs))] ++ ((sT cI (Rb.map bq) (Rt.map tq)) ++ ((xA cI x a b f q) ++ ((xB cI b g1 q3) ++ [])))) H → va_D A ([(s, .inr (4, [.int (nI (stI q)), .int (nI (stN q)), .int (stO q), .int (stV q), .int (nI (stG q)), .int (nI (stS q)), .int (stM q), .ref ba, .ref ta])), (ba, .inl (cQ, Rb.length, .inr (.inr (.inr (.inr (qf (ad Rb))))))), (ta, .inl (cQ, Rt.length, .inr (.inr (.inr (.inr (qf (ad Rt))))))), (q_1, .inl (cI, (stB q).length, .inl fs))] ++ ((sT cI (Rb.map bq) (Rt.map tq)) ++ ((xA cI x a b f q) ++ ((xB cI b g1 q3) ++ [])))) → va_S A ss.heap H locs → ∀ ls : Array Slot, lv_has ls 31 [(0, .ref sc), (1, .ref x), (2, .ref s), (3, .int (nI t)), (4, .int v), (5, .long (dgS q)), (7, .int (nI ((stB q).length))), (8, .int (nI (nsN (stB q) i))), (9, .int (nI 0)), (10, .int (nI (mxN (stB q) i))), (11, .ref q_1), (12, .int (nI i))] → W p l e room_1 ss m args below meth c H locs (c0 + 1) (s0 + ((stB q).length)) Q (F0 m 112 ls []) := by
    intro n
    induction n with
    | zero => intro i fs hi hfs hn; exact absurd hn (by omega)
    | succ n ih =>
      intro i fs hi hfs hn H locs hP hD hS ls hl
      refine lv_iload hx hb dL_law_112 (lv_at hl 11 rfl) ?_
      refine lv_iload hx hb dL_law_114 (lv_at hl 6 rfl) ?_
      refine k_cmp_ge (tgt := 200) hx hb i ((stB q).length) rfl rfl (by omega) (by omega) dL_law_116 (by decide) (fun c_116 => ?_) (fun c_116 => ?_)
      · skip
        obtain rfl : i = (stB q).length := by omega
        refine lv_iconst (v := nI 0) hx hb dL_law_200 (by decide +kernel) ?_
        refine lv_istore (lv' := [(12, .int (nI 0)), (0, .ref sc), (1, .ref x), (2, .ref s), (3, .int (nI t)), (4, .int v), (5, .long (dgS q)), (7, .int (nI ((stB q).length))), (8, .int (nI (nsN (stB q) ((stB q).length)))), (9, .int (nI 0)), (10, .int (nI (mxN (stB q) ((stB q).length)))), (11, .ref q_1)]) hx hb dL_law_201 hl (by decide) rfl (fun ls hl => ?_)
        have loop_4 : ∀ (n : Nat) (i : Nat), (i ≤ 5) → 5 - i < n → ∀ (H : Heap) (locs : List Loc), va_P D vwCl ([(s, .inr (4, [.int (nI (stI q)), .int (nI (stN q)), .int (stO q), .int (stV q), .int (nI (stG q)), .int (nI (stS q)), .int (stM q), .ref ba, .ref ta])), (ba, .inl (cQ, Rb.length, .inr (.inr (.inr (.inr (qf (ad Rb))))))), (ta, .inl (cQ, Rt.length, .inr (.inr (.inr (.inr (qf (ad Rt))))))), (q_1, .inl (cI, (stB q).length, .inl fs))] ++ ((sT cI (Rb.map bq) (Rt.map tq)) ++ ((xA cI x a b f q) ++ ((xB cI b g1 q3) ++ [])))) H → va_D A ([(s, .inr (4, [.int (nI (stI q)), .int (nI (stN q)), .int (stO q), .int (stV q), .int (nI (stG q)), .int (nI (stS q)), .int (stM q), .ref ba, .ref ta])), (ba, .inl (cQ, Rb.length, .inr (.inr (.inr (.inr (qf (ad Rb))))))), (ta, .inl (cQ, Rt.length, .inr (.inr (.inr (.inr (qf (ad Rt))))))), (q_1, .inl (cI, (stB q).length, .inl fs))] ++ ((sT cI (Rb.map bq) (Rt.map tq)) ++ ((xA cI x a b f q) ++ ((xB cI b g1 q3) ++ [])))) → va_S A ss.heap H locs → ∀ ls : Array Slot, lv_has ls 31 [(0, .ref sc), (1, .ref x), (2, .ref s), (3, .int (nI t)), (4, .int v), (5, .long (dgS q)), (7, .int (nI ((stB q).length))), (8, .int (nI (ns (stB q)))), (9, .int (nI (kN (stB q) i))), (10, .int (nI (mxN (stB q) (stB q).length))), (11, .ref q_1), (12, .int (nI i))] → W p l e room_1 ss m args below meth c H locs (c0 + 1) (s0 + ((stB q).length)) Q (F0 m 203 ls []) := by
          intro n
          induction n with
          | zero => intro i hi hn; exact absurd hn (by omega)
          | succ n ih =>
            intro i hi hn H locs hP hD hS ls hl
            refine lv_iload hx hb dL_law_203 (lv_at hl 11 rfl) ?_
            refine lv_iconst (v := nI 5) hx hb dL_law_205 (by decide +kernel) ?_
            refine k_cmp_ge (tgt := 226) hx hb i 5 rfl rfl (by omega) (by omega) dL_law_206 (by decide) (fun c_206 => ?_) (fun c_206 => ?_)
            · skip
              obtain rfl : i = 5 := by omega
              rcases Nat.eq_zero_or_pos (stB q).length with hn0 | hn0
              · skip
                refine lv_iload hx hb dL_law_226 (lv_at hl 6 rfl) ?_
                refine lv_bipush (v := nI 12) hx hb dL_law_228 (by decide +kernel) ?_
                refine k_cmp_gt (tgt := 306) hx hb ((stB q).length) 12 rfl rfl (by omega) (by omega) dL_law_230 (by decide) (fun c_230 => ?_) (fun c_230 => ?_)
                · skip
                  exact absurd c_230 (by omega)
                · skip
                  refine lv_iload hx hb dL_law_233 (lv_at hl 7 rfl) ?_
                  refine lv_aload_n hx hb dL_law_235 rfl (lv_at hl 1 rfl) ?_
                  refine kz_callX (As := []) (rest := [.int (nI (ns (stB q)))]) F (c_ZX3_noise l D cI x a b f q hR) gL_law_X3_noise rfl (nA := 0) (by decide +kernel) rfl ⟨Nat.le_of_ble_eq_true rfl, Nat.le_of_ble_eq_true rfl⟩ hK hP hD hS hA hG (ci := 3) (q0 := 0) rfl rfl rfl zp_pn [0] rfl rfl hl.1 (Nat.le_of_ble_eq_true rfl) dL_law_236 ⟨(show c0 + 1 + 0 ≤ 908051 by omega), (show s0 + ((stB q).length) + 0 ≤ 6377315 by omega)⟩ (fun r_5 u H locs hr_236 hP hD hS => ?_)
                  try dsimp only at hr_236
                  have hP := z_PS z_pnb hP
                  have hD := z_DS z_pnb hD
                  have hP : va_P D vwCl ([(s, .inr (4, [.int (nI (stI q)), .int (nI (stN q)), .int (stO q), .int (stV q), .int (nI (stG q)), .int (nI (stS q)), .int (stM q), .ref ba, .ref ta])), (ba, .inl (cQ, Rb.length, .inr (.inr (.inr (.inr (qf (ad Rb))))))), (ta, .inl (cQ, Rt.length, .inr (.inr (.inr (.inr (qf (ad Rt))))))), (q_1, .inl (cI, (stB q).length, .inl fs))] ++ ((sT cI (Rb.map bq) (Rt.map tq)) ++ ((xA cI x a b f q) ++ ((xB cI b g1 q3) ++ [])))) H := hP
                  have hD : va_D A ([(s, .inr (4, [.int (nI (stI q)), .int (nI (stN q)), .int (stO q), .int (stV q), .int (nI (stG q)), .int (nI (stS q)), .int (stM q), .ref ba, .ref ta])), (ba, .inl (cQ, Rb.length, .inr (.inr (.inr (.inr (qf (ad Rb))))))), (ta, .inl (cQ, Rt.length, .inr (.inr (.inr (.inr (qf (ad Rt))))))), (q_1, .inl (cI, (stB q).length, .inl fs))] ++ ((sT cI (Rb.map bq) (Rt.map tq)) ++ ((xA cI x a b f q) ++ ((xB cI b g1 q3) ++ [])))) := hD
                  refine W.eq (g2 := F0 m 239 ls [.int r_5, .int (nI (ns (stB q)))]) rfl ?_
                  refine W.widen (k := c0 + 1) (n := s0 + ((stB q).length)) (Nat.le_refl _) (Nat.le_refl _) ?_
                  refine k_top (v := nI (ns (stB q))) (hr_236) ?_
                  refine k_cmp_ne (tgt := 306) hx hb (ns (stB q)) (ns (stB q)) rfl rfl (by omega) (by omega) dL_law_239 (by decide) (fun c_239 => ?_) (fun c_239 => ?_)
                  · skip
                    exact absurd rfl c_239
                  · skip
                    refine lv_iload hx hb dL_law_242 (lv_at hl 8 rfl) ?_
                    refine k_top (v := nI ((stB q).length)) (congrArg nI (kN_5 hok.2.1)) ?_
                    refine lv_iload hx hb dL_law_244 (lv_at hl 6 rfl) ?_
                    refine k_cmp_ne (tgt := 306) hx hb ((stB q).length) ((stB q).length) rfl rfl (by omega) (by omega) dL_law_246 (by decide) (fun c_246 => ?_) (fun c_246 => ?_)
                    · skip
                      exact absurd rfl c_246
                    · skip
                      refine lv_aload_n hx hb dL_law_249 rfl (lv_at hl 1 rfl) ?_
                      refine kz_callX (As := []) (rest := []) F (c_ZX3_largest l D cI x a b f q hR hO) gL_law_X3_largest rfl (nA := 0) (by decide +kernel) rfl ⟨Nat.le_of_ble_eq_true rfl, Nat.le_of_ble_eq_true rfl⟩ hK hP hD hS hA hG (ci := 3) (q0 := 0) rfl rfl rfl zp_pn [0] rfl rfl hl.1 (Nat.le_of_ble_eq_true rfl) dL_law_250 ⟨(show c0 + 1 + 0 ≤ 908051 by omega), (show s0 + ((stB q).length) + 0 ≤ 6377315 by omega)⟩ (fun r_6 u H locs hr_250 hP hD hS => ?_)
                      try dsimp only at hr_250
                      have hP := z_PS z_pnb hP
                      have hD := z_DS z_pnb hD
                      have hP : va_P D vwCl ([(s, .inr (4, [.int (nI (stI q)), .int (nI (stN q)), .int (stO q), .int (stV q), .int (nI (stG q)), .int (nI (stS q)), .int (stM q), .ref ba, .ref ta])), (ba, .inl (cQ, Rb.length, .inr (.inr (.inr (.inr (qf (ad Rb))))))), (ta, .inl (cQ, Rt.length, .inr (.inr (.inr (.inr (qf (ad Rt))))))), (q_1, .inl (cI, (stB q).length, .inl fs))] ++ ((sT cI (Rb.map bq) (Rt.map tq)) ++ ((xA cI x a b f q) ++ ((xB cI b g1 q3) ++ [])))) H := hP
                      have hD : va_D A ([(s, .inr (4, [.int (nI (stI q)), .int (nI (stN q)), .int (stO q), .int (stV q), .int (nI (stG q)), .int (nI (stS q)), .int (stM q), .ref ba, .ref ta])), (ba, .inl (cQ, Rb.length, .inr (.inr (.inr (.inr (qf (ad Rb))))))), (ta, .inl (cQ, Rt.length, .inr (.inr (.inr (.inr (qf (ad Rt))))))), (q_1, .inl (cI, (stB q).length, .inl fs))] ++ ((sT cI (Rb.map bq) (Rt.map tq)) ++ ((xA cI x a b f q) ++ ((xB cI b g1 q3) ++ [])))) := hD
                      refine W.eq (g2 := F0 m 253 ls [.int r_6]) rfl ?_
                      refine W.widen (k := c0 + 1) (n := s0 + ((stB q).length)) (Nat.le_refl _) (Nat.le_refl _) ?_
                      refine k_top (v := -1) (hr_250.trans (by rw [lg_zero hn0]; rfl)) ?_
                      refine lv_if_ge (tgt := 260) hx hb dL_law_253 (by decide) (fun c_253 => ?_) (fun c_253 => ?_)
                      · skip
                        exact absurd c_253 (by decide)
                      · skip
                        refine lv_iconst (v := nI 1) hx hb dL_law_256 (by decide +kernel) ?_
                        refine lv_goto (tgt := 261) hx hb dL_law_257 (by decide) ?_
                        refine lv_iload hx hb dL_law_261 (lv_at hl 6 rfl) ?_
                        refine k_if_ne (tgt := 270) hx hb ((stB q).length) rfl (by omega) dL_law_263 (by decide) (fun c_263 => ?_) (fun c_263 => ?_)
                        · skip
                          exact absurd hn0 (by omega)
                        · skip
                          refine lv_iconst (v := nI 1) hx hb dL_law_266 (by decide +kernel) ?_
                          refine lv_goto (tgt := 271) hx hb dL_law_267 (by decide) ?_
                          refine k_cmp_ne (tgt := 306) hx hb 1 1 rfl rfl (by omega) (by omega) dL_law_271 (by decide) (fun c_271 => ?_) (fun c_271 => ?_)
                          · exact absurd c_271 (by omega)
                          · skip
                            refine lv_iload hx hb dL_law_274 (lv_at hl 6 rfl) ?_
                            refine k_if_le (tgt := 291) hx hb ((stB q).length) rfl (by omega) dL_law_276 (by decide) (fun c_276 => ?_) (fun c_276 => ?_)
                            · skip
                              refine lv_aload_n hx hb dL_law_291 rfl (lv_at hl 1 rfl) ?_
                              refine kz_callX (As := []) (rest := []) F (c_ZX3_nods l D cI x a b f q ) gL_law_X3_nods rfl (nA := 0) (by decide +kernel) rfl ⟨Nat.le_of_ble_eq_true rfl, Nat.le_of_ble_eq_true rfl⟩ hK hP hD hS hA hG (ci := 3) (q0 := 0) rfl rfl rfl zp_pn [0] rfl rfl hl.1 (Nat.le_of_ble_eq_true rfl) dL_law_292 ⟨(show c0 + 1 + 0 ≤ 908051 by omega), (show s0 + ((stB q).length) + 0 ≤ 6377315 by omega)⟩ (fun r_7 u H locs hr_292 hP hD hS => ?_)
                              try dsimp only at hr_292
                              have hP := z_PS z_pnb hP
                              have hD := z_DS z_pnb hD
                              have hP : va_P D vwCl ([(s, .inr (4, [.int (nI (stI q)), .int (nI (stN q)), .int (stO q), .int (stV q), .int (nI (stG q)), .int (nI (stS q)), .int (stM q), .ref ba, .ref ta])), (ba, .inl (cQ, Rb.length, .inr (.inr (.inr (.inr (qf (ad Rb))))))), (ta, .inl (cQ, Rt.length, .inr (.inr (.inr (.inr (qf (ad Rt))))))), (q_1, .inl (cI, (stB q).length, .inl fs))] ++ ((sT cI (Rb.map bq) (Rt.map tq)) ++ ((xA cI x a b f q) ++ ((xB cI b g1 q3) ++ [])))) H := hP
                              have hD : va_D A ([(s, .inr (4, [.int (nI (stI q)), .int (nI (stN q)), .int (stO q), .int (stV q), .int (nI (stG q)), .int (nI (stS q)), .int (stM q), .ref ba, .ref ta])), (ba, .inl (cQ, Rb.length, .inr (.inr (.inr (.inr (qf (ad Rb))))))), (ta, .inl (cQ, Rt.length, .inr (.inr (.inr (.inr (qf (ad Rt))))))), (q_1, .inl (cI, (stB q).length, .inl fs))] ++ ((sT cI (Rb.map bq) (Rt.map tq)) ++ ((xA cI x a b f q) ++ ((xB cI b g1 q3) ++ [])))) := hD
                              refine W.eq (g2 := F0 m 295 ls [.int r_7]) rfl ?_
                              refine W.widen (k := c0 + 1) (n := s0 + ((stB q).length)) (Nat.le_refl _) (Nat.le_refl _) ?_
                              refine k_top (v := nI (stN q)) (hr_292) ?_
                              refine k_if_lt (tgt := 306) hx hb (stN q) rfl (by omega) dL_law_295 (by decide) (fun c_295 => ?_) (fun c_295 => ?_)
                              · exact c_295.elim
                              · skip
                                refine lv_aload_n hx hb dL_law_298 rfl (lv_at hl 1 rfl) ?_
                                refine kz_callX (As := []) (rest := []) F (c_ZX3_nods l D cI x a b f q ) gL_law_X3_nods rfl (nA := 0) (by decide +kernel) rfl ⟨Nat.le_of_ble_eq_true rfl, Nat.le_of_ble_eq_true rfl⟩ hK hP hD hS hA hG (ci := 3) (q0 := 0) rfl rfl rfl zp_pn [0] rfl rfl hl.1 (Nat.le_of_ble_eq_true rfl) dL_law_299 ⟨(show c0 + 1 + 0 ≤ 908051 by omega), (show s0 + ((stB q).length) + 0 ≤ 6377315 by omega)⟩ (fun r_8 u H locs hr_299 hP hD hS => ?_)
                                try dsimp only at hr_299
                                have hP := z_PS z_pnb hP
                                have hD := z_DS z_pnb hD
                                have hP : va_P D vwCl ([(s, .inr (4, [.int (nI (stI q)), .int (nI (stN q)), .int (stO q), .int (stV q), .int (nI (stG q)), .int (nI (stS q)), .int (stM q), .ref ba, .ref ta])), (ba, .inl (cQ, Rb.length, .inr (.inr (.inr (.inr (qf (ad Rb))))))), (ta, .inl (cQ, Rt.length, .inr (.inr (.inr (.inr (qf (ad Rt))))))), (q_1, .inl (cI, (stB q).length, .inl fs))] ++ ((sT cI (Rb.map bq) (Rt.map tq)) ++ ((xA cI x a b f q) ++ ((xB cI b g1 q3) ++ [])))) H := hP
                                have hD : va_D A ([(s, .inr (4, [.int (nI (stI q)), .int (nI (stN q)), .int (stO q), .int (stV q), .int (nI (stG q)), .int (nI (stS q)), .int (stM q), .ref ba, .ref ta])), (ba, .inl (cQ, Rb.length, .inr (.inr (.inr (.inr (qf (ad Rb))))))), (ta, .inl (cQ, Rt.length, .inr (.inr (.inr (.inr (qf (ad Rt))))))), (q_1, .inl (cI, (stB q).length, .inl fs))] ++ ((sT cI (Rb.map bq) (Rt.map tq)) ++ ((xA cI x a b f q) ++ ((xB cI b g1 q3) ++ [])))) := hD
                                refine W.eq (g2 := F0 m 302 ls [.int r_8]) rfl ?_
                                refine W.widen (k := c0 + 1) (n := s0 + ((stB q).length)) (Nat.le_refl _) (Nat.le_refl _) ?_
                                refine k_top (v := nI (stN q)) (hr_299) ?_
                                refine lv_iconst (v := nI 5) hx hb dL_law_302 (by decide +kernel) ?_
                                refine k_cmp_le (tgt := 308) hx hb (stN q) 5 rfl rfl (by omega) (by omega) dL_law_303 (by decide) (fun c_303 => ?_) (fun c_303 => ?_)
                                · skip
                                  exact K (c0 + 1) (s0 + ((stB q).length)) f g1 q q3 ba ta Rb Rt q_1 fs (by omega) (by omega) (by omega) hR hq hok hfs _ _ (z_subP hP [0, 1, 2, 3] (rfl)) (z_subD hD [0, 1, 2, 3] (by decide) (rfl)) hS _ (lv_sub hl [0, 1, 2, 3, 4, 5, 6, 7, 9, 10] (rfl))
                                · skip
                                  exact absurd c_303 (by omega)
                            · skip
                              exact absurd hn0 (by omega)
              · skip
                refine lv_iload hx hb dL_law_226 (lv_at hl 6 rfl) ?_
                refine lv_bipush (v := nI 12) hx hb dL_law_228 (by decide +kernel) ?_
                refine k_cmp_gt (tgt := 306) hx hb ((stB q).length) 12 rfl rfl (by omega) (by omega) dL_law_230 (by decide) (fun c_230 => ?_) (fun c_230 => ?_)
                · skip
                  exact absurd c_230 (by omega)
                · skip
                  refine lv_iload hx hb dL_law_233 (lv_at hl 7 rfl) ?_
                  refine lv_aload_n hx hb dL_law_235 rfl (lv_at hl 1 rfl) ?_
                  refine kz_callX (As := []) (rest := [.int (nI (ns (stB q)))]) F (c_ZX3_noise l D cI x a b f q hR) gL_law_X3_noise rfl (nA := 0) (by decide +kernel) rfl ⟨Nat.le_of_ble_eq_true rfl, Nat.le_of_ble_eq_true rfl⟩ hK hP hD hS hA hG (ci := 3) (q0 := 0) rfl rfl rfl zp_pn [0] rfl rfl hl.1 (Nat.le_of_ble_eq_true rfl) dL_law_236 ⟨(show c0 + 1 + 0 ≤ 908051 by omega), (show s0 + ((stB q).length) + 0 ≤ 6377315 by omega)⟩ (fun r_9 u H locs hr_236 hP hD hS => ?_)
                  try dsimp only at hr_236
                  have hP := z_PS z_pnb hP
                  have hD := z_DS z_pnb hD
                  have hP : va_P D vwCl ([(s, .inr (4, [.int (nI (stI q)), .int (nI (stN q)), .int (stO q), .int (stV q), .int (nI (stG q)), .int (nI (stS q)), .int (stM q), .ref ba, .ref ta])), (ba, .inl (cQ, Rb.length, .inr (.inr (.inr (.inr (qf (ad Rb))))))), (ta, .inl (cQ, Rt.length, .inr (.inr (.inr (.inr (qf (ad Rt))))))), (q_1, .inl (cI, (stB q).length, .inl fs))] ++ ((sT cI (Rb.map bq) (Rt.map tq)) ++ ((xA cI x a b f q) ++ ((xB cI b g1 q3) ++ [])))) H := hP
                  have hD : va_D A ([(s, .inr (4, [.int (nI (stI q)), .int (nI (stN q)), .int (stO q), .int (stV q), .int (nI (stG q)), .int (nI (stS q)), .int (stM q), .ref ba, .ref ta])), (ba, .inl (cQ, Rb.length, .inr (.inr (.inr (.inr (qf (ad Rb))))))), (ta, .inl (cQ, Rt.length, .inr (.inr (.inr (.inr (qf (ad Rt))))))), (q_1, .inl (cI, (stB q).length, .inl fs))] ++ ((sT cI (Rb.map bq) (Rt.map tq)) ++ ((xA cI x a b f q) ++ ((xB cI b g1 q3) ++ [])))) := hD
                  refine W.eq (g2 := F0 m 239 ls [.int r_9, .int (nI (ns (stB q)))]) rfl ?_
                  refine W.widen (k := c0 + 1) (n := s0 + ((stB q).length)) (Nat.le_refl _) (Nat.le_refl _) ?_
                  refine k_top (v := nI (ns (stB q))) (hr_236) ?_
                  refine k_cmp_ne (tgt := 306) hx hb (ns (stB q)) (ns (stB q)) rfl rfl (by omega) (by omega) dL_law_239 (by decide) (fun c_239 => ?_) (fun c_239 => ?_)
                  · skip
                    exact absurd rfl c_239
                  · skip
                    refine lv_iload hx hb dL_law_242 (lv_at hl 8 rfl) ?_
                    refine k_top (v := nI ((stB q).length)) (congrArg nI (kN_5 hok.2.1)) ?_
                    refine lv_iload hx hb dL_law_244 (lv_at hl 6 rfl) ?_
                    refine k_cmp_ne (tgt := 306) hx hb ((stB q).length) ((stB q).length) rfl rfl (by omega) (by omega) dL_law_246 (by decide) (fun c_246 => ?_) (fun c_246 => ?_)
                    · skip
                      exact absurd rfl c_246
                    · skip
                      refine lv_aload_n hx hb dL_law_249 rfl (lv_at hl 1 rfl) ?_
                      refine kz_callX (As := []) (rest := []) F (c_ZX3_largest l D cI x a b f q hR hO) gL_law_X3_largest rfl (nA := 0) (by decide +kernel) rfl ⟨Nat.le_of_ble_eq_true rfl, Nat.le_of_ble_eq_true rfl⟩ hK hP hD hS hA hG (ci := 3) (q0 := 0) rfl rfl rfl zp_pn [0] rfl rfl hl.1 (Nat.le_of_ble_eq_true rfl) dL_law_250 ⟨(show c0 + 1 + 0 ≤ 908051 by omega), (show s0 + ((stB q).length) + 0 ≤ 6377315 by omega)⟩ (fun r_10 u H locs hr_250 hP hD hS => ?_)
                      try dsimp only at hr_250
                      have hP := z_PS z_pnb hP
                      have hD := z_DS z_pnb hD
                      have hP : va_P D vwCl ([(s, .inr (4, [.int (nI (stI q)), .int (nI (stN q)), .int (stO q), .int (stV q), .int (nI (stG q)), .int (nI (stS q)), .int (stM q), .ref ba, .ref ta])), (ba, .inl (cQ, Rb.length, .inr (.inr (.inr (.inr (qf (ad Rb))))))), (ta, .inl (cQ, Rt.length, .inr (.inr (.inr (.inr (qf (ad Rt))))))), (q_1, .inl (cI, (stB q).length, .inl fs))] ++ ((sT cI (Rb.map bq) (Rt.map tq)) ++ ((xA cI x a b f q) ++ ((xB cI b g1 q3) ++ [])))) H := hP
                      have hD : va_D A ([(s, .inr (4, [.int (nI (stI q)), .int (nI (stN q)), .int (stO q), .int (stV q), .int (nI (stG q)), .int (nI (stS q)), .int (stM q), .ref ba, .ref ta])), (ba, .inl (cQ, Rb.length, .inr (.inr (.inr (.inr (qf (ad Rb))))))), (ta, .inl (cQ, Rt.length, .inr (.inr (.inr (.inr (qf (ad Rt))))))), (q_1, .inl (cI, (stB q).length, .inl fs))] ++ ((sT cI (Rb.map bq) (Rt.map tq)) ++ ((xA cI x a b f q) ++ ((xB cI b g1 q3) ++ [])))) := hD
                      refine W.eq (g2 := F0 m 253 ls [.int r_10]) rfl ?_
                      refine W.widen (k := c0 + 1) (n := s0 + ((stB q).length)) (Nat.le_refl _) (Nat.le_refl _) ?_
                      obtain ⟨b9, hb9, eb9, hm9⟩ := lg_spec hO.1 hn0
                      refine k_top (v := nI b9) (hr_250.trans (by rw [eb9]; rfl)) ?_
                      refine k_if_ge (tgt := 260) hx hb b9 rfl (by omega) dL_law_253 (by decide) (fun c_253 => ?_) (fun c_253 => ?_)
                      · skip
                        refine lv_iconst (v := nI 0) hx hb dL_law_260 (by decide +kernel) ?_
                        refine lv_iload hx hb dL_law_261 (lv_at hl 6 rfl) ?_
                        refine k_if_ne (tgt := 270) hx hb ((stB q).length) rfl (by omega) dL_law_263 (by decide) (fun c_263 => ?_) (fun c_263 => ?_)
                        · skip
                          refine lv_iconst (v := nI 0) hx hb dL_law_270 (by decide +kernel) ?_
                          refine k_cmp_ne (tgt := 306) hx hb 0 0 rfl rfl (by omega) (by omega) dL_law_271 (by decide) (fun c_271 => ?_) (fun c_271 => ?_)
                          · exact absurd c_271 (by omega)
                          · skip
                            refine lv_iload hx hb dL_law_274 (lv_at hl 6 rfl) ?_
                            refine k_if_le (tgt := 291) hx hb ((stB q).length) rfl (by omega) dL_law_276 (by decide) (fun c_276 => ?_) (fun c_276 => ?_)
                            · skip
                              exact absurd hn0 (by omega)
                            · skip
                              refine lv_aload hx hb dL_law_279 (lv_at hl 10 rfl) ?_
                              refine lv_aload_n hx hb dL_law_281 rfl (lv_at hl 1 rfl) ?_
                              refine kz_callX (As := []) (rest := [.ref q_1]) F (c_ZX3_largest l D cI x a b f q hR hO) gL_law_X3_largest rfl (nA := 0) (by decide +kernel) rfl ⟨Nat.le_of_ble_eq_true rfl, Nat.le_of_ble_eq_true rfl⟩ hK hP hD hS hA hG (ci := 3) (q0 := 0) rfl rfl rfl zp_pn [0] rfl rfl hl.1 (Nat.le_of_ble_eq_true rfl) dL_law_282 ⟨(show c0 + 1 + 0 ≤ 908051 by omega), (show s0 + ((stB q).length) + 0 ≤ 6377315 by omega)⟩ (fun r_11 u H locs hr_282 hP hD hS => ?_)
                              try dsimp only at hr_282
                              have hP := z_PS z_pnb hP
                              have hD := z_DS z_pnb hD
                              have hP : va_P D vwCl ([(s, .inr (4, [.int (nI (stI q)), .int (nI (stN q)), .int (stO q), .int (stV q), .int (nI (stG q)), .int (nI (stS q)), .int (stM q), .ref ba, .ref ta])), (ba, .inl (cQ, Rb.length, .inr (.inr (.inr (.inr (qf (ad Rb))))))), (ta, .inl (cQ, Rt.length, .inr (.inr (.inr (.inr (qf (ad Rt))))))), (q_1, .inl (cI, (stB q).length, .inl fs))] ++ ((sT cI (Rb.map bq) (Rt.map tq)) ++ ((xA cI x a b f q) ++ ((xB cI b g1 q3) ++ [])))) H := hP
                              have hD : va_D A ([(s, .inr (4, [.int (nI (stI q)), .int (nI (stN q)), .int (stO q), .int (stV q), .int (nI (stG q)), .int (nI (stS q)), .int (stM q), .ref ba, .ref ta])), (ba, .inl (cQ, Rb.length, .inr (.inr (.inr (.inr (qf (ad Rb))))))), (ta, .inl (cQ, Rt.length, .inr (.inr (.inr (.inr (qf (ad Rt))))))), (q_1, .inl (cI, (stB q).length, .inl fs))] ++ ((sT cI (Rb.map bq) (Rt.map tq)) ++ ((xA cI x a b f q) ++ ((xB cI b g1 q3) ++ [])))) := hD
                              refine W.eq (g2 := F0 m 285 ls [.int r_11, .ref q_1]) rfl ?_
                              refine W.widen (k := c0 + 1) (n := s0 + ((stB q).length)) (Nat.le_refl _) (Nat.le_refl _) ?_
                              refine k_top (v := nI b9) (hr_282.trans (by rw [eb9]; rfl)) ?_
                              refine k_iald hx hb hK hP 3 0 rfl rfl b9 (rfl) (by omega) (by omega) dL_law_285 ?_
                              refine k_top (v := nI (mxN (stB q) (stB q).length)) ((hfs b9 hb9).trans (by rw [hm9])) ?_
                              refine lv_iload hx hb dL_law_286 (lv_at hl 9 rfl) ?_
                              refine k_cmp_ne (tgt := 306) hx hb (mxN (stB q) (stB q).length) (mxN (stB q) (stB q).length) rfl rfl (by have := mxN_le hO.1 (stB q).length (Nat.le_refl _); omega) (by have := mxN_le hO.1 (stB q).length (Nat.le_refl _); omega) dL_law_288 (by decide) (fun c_288 => ?_) (fun c_288 => ?_)
                              · skip
                                exact absurd rfl c_288
                              · skip
                                refine lv_aload_n hx hb dL_law_291 rfl (lv_at hl 1 rfl) ?_
                                refine kz_callX (As := []) (rest := []) F (c_ZX3_nods l D cI x a b f q ) gL_law_X3_nods rfl (nA := 0) (by decide +kernel) rfl ⟨Nat.le_of_ble_eq_true rfl, Nat.le_of_ble_eq_true rfl⟩ hK hP hD hS hA hG (ci := 3) (q0 := 0) rfl rfl rfl zp_pn [0] rfl rfl hl.1 (Nat.le_of_ble_eq_true rfl) dL_law_292 ⟨(show c0 + 1 + 0 ≤ 908051 by omega), (show s0 + ((stB q).length) + 0 ≤ 6377315 by omega)⟩ (fun r_12 u H locs hr_292 hP hD hS => ?_)
                                try dsimp only at hr_292
                                have hP := z_PS z_pnb hP
                                have hD := z_DS z_pnb hD
                                have hP : va_P D vwCl ([(s, .inr (4, [.int (nI (stI q)), .int (nI (stN q)), .int (stO q), .int (stV q), .int (nI (stG q)), .int (nI (stS q)), .int (stM q), .ref ba, .ref ta])), (ba, .inl (cQ, Rb.length, .inr (.inr (.inr (.inr (qf (ad Rb))))))), (ta, .inl (cQ, Rt.length, .inr (.inr (.inr (.inr (qf (ad Rt))))))), (q_1, .inl (cI, (stB q).length, .inl fs))] ++ ((sT cI (Rb.map bq) (Rt.map tq)) ++ ((xA cI x a b f q) ++ ((xB cI b g1 q3) ++ [])))) H := hP
                                have hD : va_D A ([(s, .inr (4, [.int (nI (stI q)), .int (nI (stN q)), .int (stO q), .int (stV q), .int (nI (stG q)), .int (nI (stS q)), .int (stM q), .ref ba, .ref ta])), (ba, .inl (cQ, Rb.length, .inr (.inr (.inr (.inr (qf (ad Rb))))))), (ta, .inl (cQ, Rt.length, .inr (.inr (.inr (.inr (qf (ad Rt))))))), (q_1, .inl (cI, (stB q).length, .inl fs))] ++ ((sT cI (Rb.map bq) (Rt.map tq)) ++ ((xA cI x a b f q) ++ ((xB cI b g1 q3) ++ [])))) := hD
                                refine W.eq (g2 := F0 m 295 ls [.int r_12]) rfl ?_
                                refine W.widen (k := c0 + 1) (n := s0 + ((stB q).length)) (Nat.le_refl _) (Nat.le_refl _) ?_
                                refine k_top (v := nI (stN q)) (hr_292) ?_
                                refine k_if_lt (tgt := 306) hx hb (stN q) rfl (by omega) dL_law_295 (by decide) (fun c_295 => ?_) (fun c_295 => ?_)
                                · exact c_295.elim
                                · skip
                                  refine lv_aload_n hx hb dL_law_298 rfl (lv_at hl 1 rfl) ?_
                                  refine kz_callX (As := []) (rest := []) F (c_ZX3_nods l D cI x a b f q ) gL_law_X3_nods rfl (nA := 0) (by decide +kernel) rfl ⟨Nat.le_of_ble_eq_true rfl, Nat.le_of_ble_eq_true rfl⟩ hK hP hD hS hA hG (ci := 3) (q0 := 0) rfl rfl rfl zp_pn [0] rfl rfl hl.1 (Nat.le_of_ble_eq_true rfl) dL_law_299 ⟨(show c0 + 1 + 0 ≤ 908051 by omega), (show s0 + ((stB q).length) + 0 ≤ 6377315 by omega)⟩ (fun r_13 u H locs hr_299 hP hD hS => ?_)
                                  try dsimp only at hr_299
                                  have hP := z_PS z_pnb hP
                                  have hD := z_DS z_pnb hD
                                  have hP : va_P D vwCl ([(s, .inr (4, [.int (nI (stI q)), .int (nI (stN q)), .int (stO q), .int (stV q), .int (nI (stG q)), .int (nI (stS q)), .int (stM q), .ref ba, .ref ta])), (ba, .inl (cQ, Rb.length, .inr (.inr (.inr (.inr (qf (ad Rb))))))), (ta, .inl (cQ, Rt.length, .inr (.inr (.inr (.inr (qf (ad Rt))))))), (q_1, .inl (cI, (stB q).length, .inl fs))] ++ ((sT cI (Rb.map bq) (Rt.map tq)) ++ ((xA cI x a b f q) ++ ((xB cI b g1 q3) ++ [])))) H := hP
                                  have hD : va_D A ([(s, .inr (4, [.int (nI (stI q)), .int (nI (stN q)), .int (stO q), .int (stV q), .int (nI (stG q)), .int (nI (stS q)), .int (stM q), .ref ba, .ref ta])), (ba, .inl (cQ, Rb.length, .inr (.inr (.inr (.inr (qf (ad Rb))))))), (ta, .inl (cQ, Rt.length, .inr (.inr (.inr (.inr (qf (ad Rt))))))), (q_1, .inl (cI, (stB q).length, .inl fs))] ++ ((sT cI (Rb.map bq) (Rt.map tq)) ++ ((xA cI x a b f q) ++ ((xB cI b g1 q3) ++ [])))) := hD
                                  refine W.eq (g2 := F0 m 302 ls [.int r_13]) rfl ?_
                                  refine W.widen (k := c0 + 1) (n := s0 + ((stB q).length)) (Nat.le_refl _) (Nat.le_refl _) ?_
                                  refine k_top (v := nI (stN q)) (hr_299) ?_
                                  refine lv_iconst (v := nI 5) hx hb dL_law_302 (by decide +kernel) ?_
                                  refine k_cmp_le (tgt := 308) hx hb (stN q) 5 rfl rfl (by omega) (by omega) dL_law_303 (by decide) (fun c_303 => ?_) (fun c_303 => ?_)
                                  · skip
                                    exact K (c0 + 1) (s0 + ((stB q).length)) f g1 q q3 ba ta Rb Rt q_1 fs (by omega) (by omega) (by omega) hR hq hok hfs _ _ (z_subP hP [0, 1, 2, 3] (rfl)) (z_subD hD [0, 1, 2, 3] (by decide) (rfl)) hS _ (lv_sub hl [0, 1, 2, 3, 4, 5, 6, 7, 9, 10] (rfl))
                                  · skip
                                    exact absurd c_303 (by omega)
                        · skip
                          exact absurd hn0 (by omega)
                      · exact c_253.elim
            · skip
              refine lv_iload hx hb dL_law_209 (lv_at hl 8 rfl) ?_
              refine lv_aload_n hx hb dL_law_211 rfl (lv_at hl 1 rfl) ?_
              refine lv_iload hx hb dL_law_212 (lv_at hl 11 rfl) ?_
              refine kz_callX (As := [.int (nI i)]) (rest := [.int (nI (kN (stB q) i))]) F (c_ZX3_topicsOf l D cI x a b f q i hR c_206) gL_law_X3_topicsOf rfl (nA := 1) (by decide +kernel) rfl ⟨Nat.le_of_ble_eq_true rfl, Nat.le_of_ble_eq_true rfl⟩ hK hP hD hS hA hG (ci := 3) (q0 := 0) rfl rfl rfl zp_pn [0] rfl rfl hl.1 (Nat.le_of_ble_eq_true rfl) dL_law_214 ⟨(show c0 + 1 + 0 ≤ 908051 by omega), (show s0 + ((stB q).length) + 0 ≤ 6377315 by omega)⟩ (fun r_14 u H locs hr_214 hP hD hS => ?_)
              try dsimp only at hr_214
              have hP := z_PS z_pnb hP
              have hD := z_DS z_pnb hD
              have hP : va_P D vwCl ([(s, .inr (4, [.int (nI (stI q)), .int (nI (stN q)), .int (stO q), .int (stV q), .int (nI (stG q)), .int (nI (stS q)), .int (stM q), .ref ba, .ref ta])), (ba, .inl (cQ, Rb.length, .inr (.inr (.inr (.inr (qf (ad Rb))))))), (ta, .inl (cQ, Rt.length, .inr (.inr (.inr (.inr (qf (ad Rt))))))), (q_1, .inl (cI, (stB q).length, .inl fs))] ++ ((sT cI (Rb.map bq) (Rt.map tq)) ++ ((xA cI x a b f q) ++ ((xB cI b g1 q3) ++ [])))) H := hP
              have hD : va_D A ([(s, .inr (4, [.int (nI (stI q)), .int (nI (stN q)), .int (stO q), .int (stV q), .int (nI (stG q)), .int (nI (stS q)), .int (stM q), .ref ba, .ref ta])), (ba, .inl (cQ, Rb.length, .inr (.inr (.inr (.inr (qf (ad Rb))))))), (ta, .inl (cQ, Rt.length, .inr (.inr (.inr (.inr (qf (ad Rt))))))), (q_1, .inl (cI, (stB q).length, .inl fs))] ++ ((sT cI (Rb.map bq) (Rt.map tq)) ++ ((xA cI x a b f q) ++ ((xB cI b g1 q3) ++ [])))) := hD
              refine W.eq (g2 := F0 m 217 ls [.int r_14, .int (nI (kN (stB q) i))]) rfl ?_
              refine W.widen (k := c0 + 1) (n := s0 + ((stB q).length)) (Nat.le_refl _) (Nat.le_refl _) ?_
              refine k_top (v := nI (ctB (nI i) (stB q))) (hr_214) ?_
              refine k_iadd hx hb (nI (kN (stB q) (i + 1))) (nI_add _ _) dL_law_217 ?_
              refine lv_istore (lv' := [(9, .int (nI (kN (stB q) (i + 1)))), (0, .ref sc), (1, .ref x), (2, .ref s), (3, .int (nI t)), (4, .int v), (5, .long (dgS q)), (7, .int (nI ((stB q).length))), (8, .int (nI (ns (stB q)))), (10, .int (nI (mxN (stB q) (stB q).length))), (11, .ref q_1), (12, .int (nI i))]) hx hb dL_law_218 hl (by decide) rfl (fun ls hl => ?_)
              refine lv_iinc (v := nI (i + 1)) (lv' := [(12, .int (nI (i + 1))), (9, .int (nI (kN (stB q) (i + 1)))), (0, .ref sc), (1, .ref x), (2, .ref s), (3, .int (nI t)), (4, .int v), (5, .long (dgS q)), (7, .int (nI ((stB q).length))), (8, .int (nI (ns (stB q)))), (10, .int (nI (mxN (stB q) (stB q).length))), (11, .ref q_1)]) hx hb dL_law_220 hl (k := 11) rfl (nI_1 _) (by decide) rfl (fun ls hl => ?_)
              refine lv_goto (tgt := 203) hx hb dL_law_223 (by decide) ?_
              exact ih (i + 1) (by omega) (by omega) _ _ (z_subP hP [0, 1, 2, 3] (rfl)) (z_subD hD [0, 1, 2, 3] (by decide) (rfl)) hS _ (lv_sub hl [2, 3, 4, 5, 6, 7, 8, 9, 1, 10, 11, 0] (rfl))
        exact loop_4 (5 + 1) 0 (by omega) (by omega) _ _ (z_subP hP [0, 1, 2, 3] (rfl)) (z_subD hD [0, 1, 2, 3] (by decide) (rfl)) hS _ (lv_sub hl [1, 2, 3, 4, 5, 6, 7, 8, 9, 10, 11, 0] (rfl))
      · skip
        have h99 := hO.1 i c_116
        have hm99 := mxN_le hO.1 i (by omega)
        have hnsi := nsN_le hO.1 i (by omega)
        refine lv_aload hx hb dL_law_119 (lv_at hl 10 rfl) ?_
        refine lv_iload hx hb dL_law_121 (lv_at hl 11 rfl) ?_
        refine lv_aload_n hx hb dL_law_123 rfl (lv_at hl 1 rfl) ?_
        refine lv_iload hx hb dL_law_124 (lv_at hl 11 rfl) ?_
        refine kz_callX (As := [.int (nI i)]) (rest := [.int (nI i), .ref q_1]) F (c_ZX3_sizeAt l D cI x a b f q i hR c_116) gL_law_X3_sizeAt rfl (nA := 1) (by decide +kernel) rfl ⟨Nat.le_of_ble_eq_true rfl, Nat.le_of_ble_eq_true rfl⟩ hK hP hD hS hA hG (ci := 3) (q0 := 0) rfl rfl rfl zp_pn [0] rfl rfl hl.1 (Nat.le_of_ble_eq_true rfl) dL_law_126 ⟨(show c0 + 1 + 0 ≤ 908051 by omega), (show s0 + ((stB q).length) + 0 ≤ 6377315 by omega)⟩ (fun r_15 u H locs hr_126 hP hD hS => ?_)
        try dsimp only at hr_126
        have hP := z_PS z_pnb hP
        have hD := z_DS z_pnb hD
        have hP : va_P D vwCl ([(s, .inr (4, [.int (nI (stI q)), .int (nI (stN q)), .int (stO q), .int (stV q), .int (nI (stG q)), .int (nI (stS q)), .int (stM q), .ref ba, .ref ta])), (ba, .inl (cQ, Rb.length, .inr (.inr (.inr (.inr (qf (ad Rb))))))), (ta, .inl (cQ, Rt.length, .inr (.inr (.inr (.inr (qf (ad Rt))))))), (q_1, .inl (cI, (stB q).length, .inl fs))] ++ ((sT cI (Rb.map bq) (Rt.map tq)) ++ ((xA cI x a b f q) ++ ((xB cI b g1 q3) ++ [])))) H := hP
        have hD : va_D A ([(s, .inr (4, [.int (nI (stI q)), .int (nI (stN q)), .int (stO q), .int (stV q), .int (nI (stG q)), .int (nI (stS q)), .int (stM q), .ref ba, .ref ta])), (ba, .inl (cQ, Rb.length, .inr (.inr (.inr (.inr (qf (ad Rb))))))), (ta, .inl (cQ, Rt.length, .inr (.inr (.inr (.inr (qf (ad Rt))))))), (q_1, .inl (cI, (stB q).length, .inl fs))] ++ ((sT cI (Rb.map bq) (Rt.map tq)) ++ ((xA cI x a b f q) ++ ((xB cI b g1 q3) ++ [])))) := hD
        refine W.eq (g2 := F0 m 129 ls [.int r_15, .int (nI i), .ref q_1]) rfl ?_
        refine W.widen (k := c0 + 1) (n := s0 + ((stB q).length)) (Nat.le_refl _) (Nat.le_refl _) ?_
        refine k_top (v := nI (((stB q).getD i tp0).2)) (hr_126) ?_
        refine k_iast hx hb hK hP hD hS 3 0 rfl rfl i (rfl) (by omega) (by omega) dL_law_129 (fun H locs hP hD hS => ?_)
        have hP : va_P D vwCl ([(s, .inr (4, [.int (nI (stI q)), .int (nI (stN q)), .int (stO q), .int (stV q), .int (nI (stG q)), .int (nI (stS q)), .int (stM q), .ref ba, .ref ta])), (ba, .inl (cQ, Rb.length, .inr (.inr (.inr (.inr (qf (ad Rb))))))), (ta, .inl (cQ, Rt.length, .inr (.inr (.inr (.inr (qf (ad Rt))))))), (q_1, .inl (cI, (stB q).length, .inl (upd fs i (nI (((stB q).getD i tp0).2)))))] ++ ((sT cI (Rb.map bq) (Rt.map tq)) ++ ((xA cI x a b f q) ++ ((xB cI b g1 q3) ++ [])))) H := hP
        have hD : va_D A ([(s, .inr (4, [.int (nI (stI q)), .int (nI (stN q)), .int (stO q), .int (stV q), .int (nI (stG q)), .int (nI (stS q)), .int (stM q), .ref ba, .ref ta])), (ba, .inl (cQ, Rb.length, .inr (.inr (.inr (.inr (qf (ad Rb))))))), (ta, .inl (cQ, Rt.length, .inr (.inr (.inr (.inr (qf (ad Rt))))))), (q_1, .inl (cI, (stB q).length, .inl (upd fs i (nI (((stB q).getD i tp0).2)))))] ++ ((sT cI (Rb.map bq) (Rt.map tq)) ++ ((xA cI x a b f q) ++ ((xB cI b g1 q3) ++ [])))) := hD
        refine lv_iload hx hb dL_law_130 (lv_at hl 7 rfl) ?_
        refine lv_aload hx hb dL_law_132 (lv_at hl 10 rfl) ?_
        refine lv_iload hx hb dL_law_134 (lv_at hl 11 rfl) ?_
        refine k_iald hx hb hK hP 3 0 rfl rfl i (rfl) (by omega) (by omega) dL_law_136 ?_
        refine k_top (v := nI (((stB q).getD i tp0).2)) (pk_us) ?_
        refine k_iadd hx hb (nI (nsN (stB q) (i + 1))) (nI_add _ _) dL_law_137 ?_
        refine lv_istore (lv' := [(8, .int (nI (nsN (stB q) (i + 1)))), (0, .ref sc), (1, .ref x), (2, .ref s), (3, .int (nI t)), (4, .int v), (5, .long (dgS q)), (7, .int (nI ((stB q).length))), (9, .int (nI 0)), (10, .int (nI (mxN (stB q) i))), (11, .ref q_1), (12, .int (nI i))]) hx hb dL_law_138 hl (by decide) rfl (fun ls hl => ?_)
        refine lv_iload hx hb dL_law_140 (lv_at hl 9 rfl) ?_
        refine lv_aload hx hb dL_law_142 (lv_at hl 10 rfl) ?_
        refine lv_iload hx hb dL_law_144 (lv_at hl 11 rfl) ?_
        refine k_iald hx hb hK hP 3 0 rfl rfl i (rfl) (by omega) (by omega) dL_law_146 ?_
        refine k_top (v := nI (((stB q).getD i tp0).2)) (pk_us) ?_
        refine va_mmax hx hb (hml.trans hl.1.symm) hown (hts (.methodLink RL 100 Lib.Math.max.name) (by decide +kernel)) (hts (.static Lib.Math.max.name) (by decide +kernel)) (hts (.initialized "java/lang/Math") (by decide +kernel)) (hts (.code Lib.Math.max.name Lib.Math.max.code 2 (some .int)) (by decide +kernel)) (Nat.le_of_ble_eq_true rfl) (Nat.le_of_ble_eq_true rfl) ((show c0 + 1 ≤ 908051 by omega)) ((show s0 + ((stB q).length) ≤ 6377315 by omega)) dL_law_147 ?_
        refine k_top (v := nI (mxN (stB q) (i + 1))) (mx_if (by omega) (by omega)) ?_
        refine lv_istore (lv' := [(10, .int (nI (mxN (stB q) (i + 1)))), (8, .int (nI (nsN (stB q) (i + 1)))), (0, .ref sc), (1, .ref x), (2, .ref s), (3, .int (nI t)), (4, .int v), (5, .long (dgS q)), (7, .int (nI ((stB q).length))), (9, .int (nI 0)), (11, .ref q_1), (12, .int (nI i))]) hx hb dL_law_150 hl (by decide) rfl (fun ls hl => ?_)
        refine lv_aload hx hb dL_law_152 (lv_at hl 10 rfl) ?_
        refine lv_iload hx hb dL_law_154 (lv_at hl 11 rfl) ?_
        refine k_iald hx hb hK hP 3 0 rfl rfl i (rfl) (by omega) (by omega) dL_law_156 ?_
        refine k_top (v := nI (((stB q).getD i tp0).2)) (pk_us) ?_
        refine lv_iconst (v := nI 2) hx hb dL_law_157 (by decide +kernel) ?_
        refine k_cmp_lt (tgt := 192) hx hb (((stB q).getD i tp0).2) 2 rfl rfl (by omega) (by omega) dL_law_158 (by decide) (fun c_158 => ?_) (fun c_158 => ?_)
        · skip
          exact absurd c_158 (by omega)
        · skip
          refine lv_aload hx hb dL_law_161 (lv_at hl 10 rfl) ?_
          refine lv_iload hx hb dL_law_163 (lv_at hl 11 rfl) ?_
          refine k_iald hx hb hK hP 3 0 rfl rfl i (rfl) (by omega) (by omega) dL_law_165 ?_
          refine k_top (v := nI (((stB q).getD i tp0).2)) (pk_us) ?_
          refine lv_bipush (v := nI 99) hx hb dL_law_166 (by decide +kernel) ?_
          refine k_cmp_gt (tgt := 192) hx hb (((stB q).getD i tp0).2) 99 rfl rfl (by omega) (by omega) dL_law_168 (by decide) (fun c_168 => ?_) (fun c_168 => ?_)
          · skip
            exact absurd c_168 (by omega)
          · skip
            refine lv_aload_n hx hb dL_law_171 rfl (lv_at hl 3 rfl) ?_
            refine lv_iload hx hb dL_law_172 (lv_at hl 11 rfl) ?_
            refine kz_callX (As := [.int (nI i)]) (rest := []) F (c_ZX3_turnsToNod l D cI x a b f q i hR hO c_116) gL_law_X3_turnsToNod rfl (nA := 1) (by decide +kernel) rfl ⟨Nat.le_of_ble_eq_true rfl, Nat.le_of_ble_eq_true rfl⟩ hK hP hD hS hA hG (ci := 3) (q0 := 0) rfl rfl rfl zp_pn [0] rfl rfl hl.1 (Nat.le_of_ble_eq_true rfl) dL_law_174 ⟨(show c0 + 1 + 0 ≤ 908051 by omega), (show s0 + ((stB q).length) + 0 ≤ 6377315 by omega)⟩ (fun r_16 u H locs hr_174 hP hD hS => ?_)
            try dsimp only at hr_174
            have hP := z_PS z_pnb hP
            have hD := z_DS z_pnb hD
            have hP : va_P D vwCl ([(s, .inr (4, [.int (nI (stI q)), .int (nI (stN q)), .int (stO q), .int (stV q), .int (nI (stG q)), .int (nI (stS q)), .int (stM q), .ref ba, .ref ta])), (ba, .inl (cQ, Rb.length, .inr (.inr (.inr (.inr (qf (ad Rb))))))), (ta, .inl (cQ, Rt.length, .inr (.inr (.inr (.inr (qf (ad Rt))))))), (q_1, .inl (cI, (stB q).length, .inl (upd fs i (nI (((stB q).getD i tp0).2)))))] ++ ((sT cI (Rb.map bq) (Rt.map tq)) ++ ((xA cI x a b f q) ++ ((xB cI b g1 q3) ++ [])))) H := hP
            have hD : va_D A ([(s, .inr (4, [.int (nI (stI q)), .int (nI (stN q)), .int (stO q), .int (stV q), .int (nI (stG q)), .int (nI (stS q)), .int (stM q), .ref ba, .ref ta])), (ba, .inl (cQ, Rb.length, .inr (.inr (.inr (.inr (qf (ad Rb))))))), (ta, .inl (cQ, Rt.length, .inr (.inr (.inr (.inr (qf (ad Rt))))))), (q_1, .inl (cI, (stB q).length, .inl (upd fs i (nI (((stB q).getD i tp0).2)))))] ++ ((sT cI (Rb.map bq) (Rt.map tq)) ++ ((xA cI x a b f q) ++ ((xB cI b g1 q3) ++ [])))) := hD
            refine W.eq (g2 := F0 m 177 ls [.int r_16]) rfl ?_
            refine W.widen (k := c0 + 1) (n := s0 + ((stB q).length)) (Nat.le_refl _) (Nat.le_refl _) ?_
            obtain ⟨k174, hk174a, hk174b, ek174⟩ := tnR_rng o5.1 (hO.1 i c_116) hr_174
            refine k_top (v := nI k174) (ek174) ?_
            refine lv_iconst (v := nI 1) hx hb dL_law_177 (by decide +kernel) ?_
            refine k_cmp_lt (tgt := 192) hx hb k174 1 rfl rfl (by omega) (by omega) dL_law_178 (by decide) (fun c_178 => ?_) (fun c_178 => ?_)
            · skip
              exact absurd c_178 (by omega)
            · skip
              refine lv_aload_n hx hb dL_law_181 rfl (lv_at hl 3 rfl) ?_
              refine lv_iload hx hb dL_law_182 (lv_at hl 11 rfl) ?_
              refine kz_callX (As := [.int (nI i)]) (rest := []) F (c_ZX3_turnsToNod l D cI x a b f q i hR hO c_116) gL_law_X3_turnsToNod rfl (nA := 1) (by decide +kernel) rfl ⟨Nat.le_of_ble_eq_true rfl, Nat.le_of_ble_eq_true rfl⟩ hK hP hD hS hA hG (ci := 3) (q0 := 0) rfl rfl rfl zp_pn [0] rfl rfl hl.1 (Nat.le_of_ble_eq_true rfl) dL_law_184 ⟨(show c0 + 1 + 0 ≤ 908051 by omega), (show s0 + ((stB q).length) + 0 ≤ 6377315 by omega)⟩ (fun r_17 u H locs hr_184 hP hD hS => ?_)
              try dsimp only at hr_184
              have hP := z_PS z_pnb hP
              have hD := z_DS z_pnb hD
              have hP : va_P D vwCl ([(s, .inr (4, [.int (nI (stI q)), .int (nI (stN q)), .int (stO q), .int (stV q), .int (nI (stG q)), .int (nI (stS q)), .int (stM q), .ref ba, .ref ta])), (ba, .inl (cQ, Rb.length, .inr (.inr (.inr (.inr (qf (ad Rb))))))), (ta, .inl (cQ, Rt.length, .inr (.inr (.inr (.inr (qf (ad Rt))))))), (q_1, .inl (cI, (stB q).length, .inl (upd fs i (nI (((stB q).getD i tp0).2)))))] ++ ((sT cI (Rb.map bq) (Rt.map tq)) ++ ((xA cI x a b f q) ++ ((xB cI b g1 q3) ++ [])))) H := hP
              have hD : va_D A ([(s, .inr (4, [.int (nI (stI q)), .int (nI (stN q)), .int (stO q), .int (stV q), .int (nI (stG q)), .int (nI (stS q)), .int (stM q), .ref ba, .ref ta])), (ba, .inl (cQ, Rb.length, .inr (.inr (.inr (.inr (qf (ad Rb))))))), (ta, .inl (cQ, Rt.length, .inr (.inr (.inr (.inr (qf (ad Rt))))))), (q_1, .inl (cI, (stB q).length, .inl (upd fs i (nI (((stB q).getD i tp0).2)))))] ++ ((sT cI (Rb.map bq) (Rt.map tq)) ++ ((xA cI x a b f q) ++ ((xB cI b g1 q3) ++ [])))) := hD
              refine W.eq (g2 := F0 m 187 ls [.int r_17]) rfl ?_
              refine W.widen (k := c0 + 1) (n := s0 + ((stB q).length)) (Nat.le_refl _) (Nat.le_refl _) ?_
              obtain ⟨k184, hk184a, hk184b, ek184⟩ := tnR_rng o5.1 (hO.1 i c_116) hr_184
              refine k_top (v := nI k184) (ek184) ?_
              refine lv_bipush (v := nI 6) hx hb dL_law_187 (by decide +kernel) ?_
              refine k_cmp_le (tgt := 194) hx hb k184 6 rfl rfl (by omega) (by omega) dL_law_189 (by decide) (fun c_189 => ?_) (fun c_189 => ?_)
              · skip
                refine lv_iinc (v := nI (i + 1)) (lv' := [(12, .int (nI (i + 1))), (10, .int (nI (mxN (stB q) (i + 1)))), (8, .int (nI (nsN (stB q) (i + 1)))), (0, .ref sc), (1, .ref x), (2, .ref s), (3, .int (nI t)), (4, .int v), (5, .long (dgS q)), (7, .int (nI ((stB q).length))), (9, .int (nI 0)), (11, .ref q_1)]) hx hb dL_law_194 hl (k := 11) rfl (nI_1 _) (by decide) rfl (fun ls hl => ?_)
                refine lv_goto (tgt := 112) hx hb dL_law_197 (by decide) ?_
                exact ih (i + 1) (upd fs i (nI (((stB q).getD i tp0).2))) (by omega) (upd_all (F := fun j => nI ((stB q).getD j tp0).2) hfs rfl) (by omega) _ _ (z_subP hP [0, 1, 2, 3] (rfl)) (z_subD hD [0, 1, 2, 3] (by decide) (rfl)) hS _ (lv_sub hl [3, 4, 5, 6, 7, 8, 9, 2, 10, 1, 11, 0] (rfl))
              · skip
                exact absurd c_189 (by omega)
  exact loop_3 (((stB q).length) + 1) 0 (fun _ => 0) (Nat.zero_le _) (fun _ h => absurd h (by omega)) (by omega) _ _ (z_subP hP [0, 1, 2, 3] (rfl)) (z_subD hD [0, 1, 2, 3] (by decide) (rfl)) hS _ (lv_sub hl [7, 8, 9, 10, 11, 6, 5, 4, 3, 2, 1, 0] (rfl))
