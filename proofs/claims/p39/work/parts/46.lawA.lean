set_option maxHeartbeats 4000000 in
set_option maxRecDepth 100000 in
theorem law_A {p : Program} {l : Launch} {e : Env} {ss : State} {m : MethodId} {args : Array Value} {below : List Frame} {meth : Method} {c : Code} {D : va_G} {cI cQ cZ : ClassId} {sc LL : Nat} {xs : Nat → Int32} {A : Nat → Prop} (hl0 : l.stackTraces = false) (F : CallFix p m c cL_law 31 ss args wsL_law RL) (hK : va_K D vwCl [(cI, .int), (cQ, .array .int), (cZ, .boolean)] ss) (hG : kG A ss) (hA : ∀ q, ss.heap.size ≤ q → A q) (hX : va_X sc LL xs ss ss.heap) (hbl : sc < ss.heap.size) (hbA : ¬ A sc) (hLL : LL ≤ 260) {x : Nat} {a b : Nat → Nat} {s : Nat} {t : Nat} {v : Int32} (ht : t < 10) (Q : State → Prop)
    (K : ∀ (c1 s1 : Nat) (f : Nat → Nat → Int32) (g : Nat → Nat → Int32) (q : St) (q2 : St) (ba : Nat) (ta : Nat) (Rb : List (Nat × Tp)) (Rt : List (Nat × Tk)), c1 ≤ 100 + 18000 * (t + 1) + 0 → s1 ≤ 1000 + 180000 * (t + 1) + 0 → stI q ≤ 181 * (t + 1) + 0 → (rR f q) → (rQ q Rb Rt) → (okQ q) → ∀ (H : Heap) (locs : List Loc), va_P D vwCl ([(s, .inr (4, [.int (nI (stI q)), .int (nI (stN q)), .int (stO q), .int (stV q), .int (nI (stG q)), .int (nI (stS q)), .int (stM q), .ref ba, .ref ta])), (ba, .inl (cQ, Rb.length, .inr (.inr (.inr (.inr (qf (ad Rb))))))), (ta, .inl (cQ, Rt.length, .inr (.inr (.inr (.inr (qf (ad Rt)))))))] ++ ((sT cI (Rb.map bq) (Rt.map tq)) ++ ((xA cI x a b f q) ++ ((xB cI b g q2) ++ [])))) H → va_D A ([(s, .inr (4, [.int (nI (stI q)), .int (nI (stN q)), .int (stO q), .int (stV q), .int (nI (stG q)), .int (nI (stS q)), .int (stM q), .ref ba, .ref ta])), (ba, .inl (cQ, Rb.length, .inr (.inr (.inr (.inr (qf (ad Rb))))))), (ta, .inl (cQ, Rt.length, .inr (.inr (.inr (.inr (qf (ad Rt)))))))] ++ ((sT cI (Rb.map bq) (Rt.map tq)) ++ ((xA cI x a b f q) ++ ((xB cI b g q2) ++ [])))) → va_S A ss.heap H locs → ∀ ls : Array Slot, lv_has ls 31 [(0, .ref sc), (1, .ref x), (2, .ref s), (3, .int (nI (t + 1)))] → W p l e room_1 ss m args below meth c H locs c1 s1 Q (F0 m 22 ls [])) :
    ∀ (c0 s0 : Nat) (f : Nat → Nat → Int32) (g : Nat → Nat → Int32) (q : St) (q2 : St) (ba : Nat) (ta : Nat) (Rb : List (Nat × Tp)) (Rt : List (Nat × Tk)) (pt : Nat) (zt : Nat) (ut : Nat) (fp : Nat → Int32) (fz : Nat → Int32) (fu : Nat → Int32) (M : Nat), c0 ≤ 100 + 18000 * t + 17493 → s0 ≤ 1000 + 180000 * t + 168647 → stI q ≤ 181 * t + 180 → (rR f q) → (rQ q Rb Rt) → (okQ q) → (ptR (stT q) (stT q).length fp) → (zzR (stT q) (stT q).length fz) → (uuR q (stT q).length fu) → (M ≤ 99 ∧ ∀ j, j < (stB q).length → ((stB q).getD j tp0).2 ≤ M) → ∀ (H : Heap) (locs : List Loc), va_P D vwCl ([(s, .inr (4, [.int (nI (stI q)), .int (nI (stN q)), .int (stO q), .int (stV q), .int (nI (stG q)), .int (nI (stS q)), .int (stM q), .ref ba, .ref ta])), (ba, .inl (cQ, Rb.length, .inr (.inr (.inr (.inr (qf (ad Rb))))))), (ta, .inl (cQ, Rt.length, .inr (.inr (.inr (.inr (qf (ad Rt))))))), (pt, .inl (cI, (stT q).length, .inl fp)), (zt, .inl (cZ, (stT q).length, .inl fz)), (ut, .inl (cI, (stT q).length, .inl fu))] ++ ((sT cI (Rb.map bq) (Rt.map tq)) ++ ((xA cI x a b f q) ++ ((xB cI b g q2) ++ [])))) H → va_D A ([(s, .inr (4, [.int (nI (stI q)), .int (nI (stN q)), .int (stO q), .int (stV q), .int (nI (stG q)), .int (nI (stS q)), .int (stM q), .ref ba, .ref ta])), (ba, .inl (cQ, Rb.length, .inr (.inr (.inr (.inr (qf (ad Rb))))))), (ta, .inl (cQ, Rt.length, .inr (.inr (.inr (.inr (qf (ad Rt))))))), (pt, .inl (cI, (stT q).length, .inl fp)), (zt, .inl (cZ, (stT q).length, .inl fz)), (ut, .inl (cI, (stT q).length, .inl fu))] ++ ((sT cI (Rb.map bq) (Rt.map tq)) ++ ((xA cI x a b f q) ++ ((xB cI b g q2) ++ [])))) → va_S A ss.heap H locs → ∀ ls : Array Slot, lv_has ls 31 [(0, .ref sc), (1, .ref x), (2, .ref s), (3, .int (nI t)), (7, .int (nI ((stB q).length))), (10, .int (nI M)), (12, .int (nI ((stT q).length))), (13, .int (nI (ctT (stT q)))), (16, .ref pt), (17, .ref zt), (18, .ref ut)] → W p l e room_1 ss m args below meth c H locs c0 s0 Q (F0 m 902 ls []) := by
  intro c0 s0 f g q q2 ba ta Rb Rt pt zt ut fp fz fu M hcl hsl hI0 hR hq hok hfp hfz hfu hM H locs hP hD hS ls hl
  obtain ⟨hx, hb, hml, hown, hts⟩ := id F
  have hO := hok.1
  have hI : stI q < 900000 := by omega
  have hX9 := okQ_X hok (by omega)
  have hn12 := hO.2.1
  have hn6 := hO.2.2.2.1
  have hct := ctT_le hO
  have hsp := spT_le hO
  have o7 := hO.2.2.2.2.2.2
  have hns := ns_le hO.1 hO.2.1
  have hlB : Rb.length = (stB q).length := by rw [hq.1, sn_len]
  have hlT : Rt.length = (stT q).length := by rw [hq.2, sn_len]
  obtain ⟨oo, hoo, eo⟩ := hok.2.2.2.2.1
  obtain ⟨vv, hvv, evv⟩ := hok.2.2.2.2.2
  have hz9 : ns (mB2 q) ≤ 1188 := ns_le (okB2 hO) (lenB2 hO)
  have hsk := lw_sk q
  have hm1 := mN1_le hO
  have hB2l := lenB2 hO
  have hB1 : (mB1 q).length ≤ (stB q).length := gnd_len _ _ _
  have hB2 : (mB2 q).length ≤ (mB1 q).length := sft_len _ _
  have hct1 : ctT (stT (itS q 1)) ≤ ctT (stT q) := ctT_it q 1
  have hns1 := ns_it hO 1
  refine lv_aload_n hx hb dL_law_902 rfl (lv_at hl 1 rfl) ?_
  refine lv_iconst (v := nI 1) hx hb dL_law_903 (by decide +kernel) ?_
  refine kz_callX (As := [.int (nI 1)]) (rest := []) F (c_ZX3_noiseIn l D cI x a b f g q q2 1 hR hO (by decide)) gL_law_X3_noiseIn rfl (nA := 1) (by decide +kernel) rfl ⟨Nat.le_of_ble_eq_true rfl, Nat.le_of_ble_eq_true rfl⟩ hK hP hD hS hA hG (ci := 3) (q0 := 0) rfl rfl rfl zp_pf [0] rfl rfl hl.1 (Nat.le_of_ble_eq_true rfl) dL_law_904 ⟨(show c0 + 0 ≤ 908051 by omega), (show s0 + 0 ≤ 6377315 by omega)⟩ (fun r_1 u H locs hr_904 hP hD hS => ?_)
  obtain ⟨g5, rfl⟩ : ∃ z, z = u := ⟨_, rfl⟩
  try dsimp only at hr_904
  have hP := z_PS z_pfb hP
  have hD := z_DS z_pfb hD
  have hP : va_P D vwCl ([(s, .inr (4, [.int (nI (stI q)), .int (nI (stN q)), .int (stO q), .int (stV q), .int (nI (stG q)), .int (nI (stS q)), .int (stM q), .ref ba, .ref ta])), (ba, .inl (cQ, Rb.length, .inr (.inr (.inr (.inr (qf (ad Rb))))))), (ta, .inl (cQ, Rt.length, .inr (.inr (.inr (.inr (qf (ad Rt))))))), (pt, .inl (cI, (stT q).length, .inl fp)), (zt, .inl (cZ, (stT q).length, .inl fz)), (ut, .inl (cI, (stT q).length, .inl fu))] ++ ((sT cI (Rb.map bq) (Rt.map tq)) ++ ((xA cI x a b f q) ++ ((xB cI b g5 (itS q 1)) ++ [])))) H := hP
  have hD : va_D A ([(s, .inr (4, [.int (nI (stI q)), .int (nI (stN q)), .int (stO q), .int (stV q), .int (nI (stG q)), .int (nI (stS q)), .int (stM q), .ref ba, .ref ta])), (ba, .inl (cQ, Rb.length, .inr (.inr (.inr (.inr (qf (ad Rb))))))), (ta, .inl (cQ, Rt.length, .inr (.inr (.inr (.inr (qf (ad Rt))))))), (pt, .inl (cI, (stT q).length, .inl fp)), (zt, .inl (cZ, (stT q).length, .inl fz)), (ut, .inl (cI, (stT q).length, .inl fu))] ++ ((sT cI (Rb.map bq) (Rt.map tq)) ++ ((xA cI x a b f q) ++ ((xB cI b g5 (itS q 1)) ++ [])))) := hD
  refine W.eq (g2 := F0 m 907 ls [.int r_1]) rfl ?_
  refine W.widen (k := c0) (n := s0) (Nat.le_refl _) (Nat.le_refl _) ?_
  refine k_top (v := nI (ns (stB (itS q 1)))) (hr_904) ?_
  refine lv_istore (lv' := [(22, .int (nI (ns (stB (itS q 1))))), (0, .ref sc), (1, .ref x), (2, .ref s), (3, .int (nI t)), (7, .int (nI ((stB q).length))), (10, .int (nI M)), (12, .int (nI ((stT q).length))), (13, .int (nI (ctT (stT q)))), (16, .ref pt), (17, .ref zt), (18, .ref ut)]) hx hb dL_law_907 hl (by decide) rfl (fun ls hl => ?_)
  refine lv_aload_n hx hb dL_law_909 rfl (lv_at hl 2 rfl) ?_
  refine lv_iconst (v := nI 1) hx hb dL_law_910 (by decide +kernel) ?_
  refine kz_callX (As := [.int (nI 1)]) (rest := []) F (c_ZX3_bottlesIn l D cI x a b f g5 q (itS q 1) 1 hR hO (by decide)) gL_law_X3_bottlesIn rfl (nA := 1) (by decide +kernel) rfl ⟨Nat.le_of_ble_eq_true rfl, Nat.le_of_ble_eq_true rfl⟩ hK hP hD hS hA hG (ci := 3) (q0 := 0) rfl rfl rfl zp_pf [0] rfl rfl hl.1 (Nat.le_of_ble_eq_true rfl) dL_law_911 ⟨(show c0 + 0 ≤ 908051 by omega), (show s0 + 0 ≤ 6377315 by omega)⟩ (fun r_2 u H locs hr_911 hP hD hS => ?_)
  obtain ⟨g6, rfl⟩ : ∃ z, z = u := ⟨_, rfl⟩
  try dsimp only at hr_911
  have hP := z_PS z_pfb hP
  have hD := z_DS z_pfb hD
  have hP : va_P D vwCl ([(s, .inr (4, [.int (nI (stI q)), .int (nI (stN q)), .int (stO q), .int (stV q), .int (nI (stG q)), .int (nI (stS q)), .int (stM q), .ref ba, .ref ta])), (ba, .inl (cQ, Rb.length, .inr (.inr (.inr (.inr (qf (ad Rb))))))), (ta, .inl (cQ, Rt.length, .inr (.inr (.inr (.inr (qf (ad Rt))))))), (pt, .inl (cI, (stT q).length, .inl fp)), (zt, .inl (cZ, (stT q).length, .inl fz)), (ut, .inl (cI, (stT q).length, .inl fu))] ++ ((sT cI (Rb.map bq) (Rt.map tq)) ++ ((xA cI x a b f q) ++ ((xB cI b g6 (itS q 1)) ++ [])))) H := hP
  have hD : va_D A ([(s, .inr (4, [.int (nI (stI q)), .int (nI (stN q)), .int (stO q), .int (stV q), .int (nI (stG q)), .int (nI (stS q)), .int (stM q), .ref ba, .ref ta])), (ba, .inl (cQ, Rb.length, .inr (.inr (.inr (.inr (qf (ad Rb))))))), (ta, .inl (cQ, Rt.length, .inr (.inr (.inr (.inr (qf (ad Rt))))))), (pt, .inl (cI, (stT q).length, .inl fp)), (zt, .inl (cZ, (stT q).length, .inl fz)), (ut, .inl (cI, (stT q).length, .inl fu))] ++ ((sT cI (Rb.map bq) (Rt.map tq)) ++ ((xA cI x a b f q) ++ ((xB cI b g6 (itS q 1)) ++ [])))) := hD
  refine W.eq (g2 := F0 m 914 ls [.int r_2]) rfl ?_
  refine W.widen (k := c0) (n := s0) (Nat.le_refl _) (Nat.le_refl _) ?_
  refine k_top (v := stO (itS q 1)) (hr_911) ?_
  refine lv_istore (lv' := [(23, .int (stO (itS q 1))), (22, .int (nI (ns (stB (itS q 1))))), (0, .ref sc), (1, .ref x), (2, .ref s), (3, .int (nI t)), (7, .int (nI ((stB q).length))), (10, .int (nI M)), (12, .int (nI ((stT q).length))), (13, .int (nI (ctT (stT q)))), (16, .ref pt), (17, .ref zt), (18, .ref ut)]) hx hb dL_law_914 hl (by decide) rfl (fun ls hl => ?_)
  refine lv_aload_n hx hb dL_law_916 rfl (lv_at hl 3 rfl) ?_
  refine kz_callX (As := []) (rest := []) F (c_ZX3_nods l D cI x a b f q ) gL_law_X3_nods rfl (nA := 0) (by decide +kernel) rfl ⟨Nat.le_of_ble_eq_true rfl, Nat.le_of_ble_eq_true rfl⟩ hK hP hD hS hA hG (ci := 3) (q0 := 0) rfl rfl rfl zp_pn [0] rfl rfl hl.1 (Nat.le_of_ble_eq_true rfl) dL_law_917 ⟨(show c0 + 0 ≤ 908051 by omega), (show s0 + 0 ≤ 6377315 by omega)⟩ (fun r_3 u H locs hr_917 hP hD hS => ?_)
  try dsimp only at hr_917
  have hP := z_PS z_pnb hP
  have hD := z_DS z_pnb hD
  have hP : va_P D vwCl ([(s, .inr (4, [.int (nI (stI q)), .int (nI (stN q)), .int (stO q), .int (stV q), .int (nI (stG q)), .int (nI (stS q)), .int (stM q), .ref ba, .ref ta])), (ba, .inl (cQ, Rb.length, .inr (.inr (.inr (.inr (qf (ad Rb))))))), (ta, .inl (cQ, Rt.length, .inr (.inr (.inr (.inr (qf (ad Rt))))))), (pt, .inl (cI, (stT q).length, .inl fp)), (zt, .inl (cZ, (stT q).length, .inl fz)), (ut, .inl (cI, (stT q).length, .inl fu))] ++ ((sT cI (Rb.map bq) (Rt.map tq)) ++ ((xA cI x a b f q) ++ ((xB cI b g6 (itS q 1)) ++ [])))) H := hP
  have hD : va_D A ([(s, .inr (4, [.int (nI (stI q)), .int (nI (stN q)), .int (stO q), .int (stV q), .int (nI (stG q)), .int (nI (stS q)), .int (stM q), .ref ba, .ref ta])), (ba, .inl (cQ, Rb.length, .inr (.inr (.inr (.inr (qf (ad Rb))))))), (ta, .inl (cQ, Rt.length, .inr (.inr (.inr (.inr (qf (ad Rt))))))), (pt, .inl (cI, (stT q).length, .inl fp)), (zt, .inl (cZ, (stT q).length, .inl fz)), (ut, .inl (cI, (stT q).length, .inl fu))] ++ ((sT cI (Rb.map bq) (Rt.map tq)) ++ ((xA cI x a b f q) ++ ((xB cI b g6 (itS q 1)) ++ [])))) := hD
  refine W.eq (g2 := F0 m 920 ls [.int r_3]) rfl ?_
  refine W.widen (k := c0) (n := s0) (Nat.le_refl _) (Nat.le_refl _) ?_
  refine k_top (v := nI (stN q)) (hr_917) ?_
  refine lv_bipush (v := nI 6) hx hb dL_law_920 (by decide +kernel) ?_
  refine lv_aload_n hx hb dL_law_922 rfl (lv_at hl 3 rfl) ?_
  refine kz_callX (As := []) (rest := [.int (nI 6), .int (nI (stN q))]) F (c_ZX3_bottles l D cI x a b f q ) gL_law_X3_bottles rfl (nA := 0) (by decide +kernel) rfl ⟨Nat.le_of_ble_eq_true rfl, Nat.le_of_ble_eq_true rfl⟩ hK hP hD hS hA hG (ci := 3) (q0 := 0) rfl rfl rfl zp_pn [0] rfl rfl hl.1 (Nat.le_of_ble_eq_true rfl) dL_law_923 ⟨(show c0 + 0 ≤ 908051 by omega), (show s0 + 0 ≤ 6377315 by omega)⟩ (fun r_4 u H locs hr_923 hP hD hS => ?_)
  try dsimp only at hr_923
  have hP := z_PS z_pnb hP
  have hD := z_DS z_pnb hD
  have hP : va_P D vwCl ([(s, .inr (4, [.int (nI (stI q)), .int (nI (stN q)), .int (stO q), .int (stV q), .int (nI (stG q)), .int (nI (stS q)), .int (stM q), .ref ba, .ref ta])), (ba, .inl (cQ, Rb.length, .inr (.inr (.inr (.inr (qf (ad Rb))))))), (ta, .inl (cQ, Rt.length, .inr (.inr (.inr (.inr (qf (ad Rt))))))), (pt, .inl (cI, (stT q).length, .inl fp)), (zt, .inl (cZ, (stT q).length, .inl fz)), (ut, .inl (cI, (stT q).length, .inl fu))] ++ ((sT cI (Rb.map bq) (Rt.map tq)) ++ ((xA cI x a b f q) ++ ((xB cI b g6 (itS q 1)) ++ [])))) H := hP
  have hD : va_D A ([(s, .inr (4, [.int (nI (stI q)), .int (nI (stN q)), .int (stO q), .int (stV q), .int (nI (stG q)), .int (nI (stS q)), .int (stM q), .ref ba, .ref ta])), (ba, .inl (cQ, Rb.length, .inr (.inr (.inr (.inr (qf (ad Rb))))))), (ta, .inl (cQ, Rt.length, .inr (.inr (.inr (.inr (qf (ad Rt))))))), (pt, .inl (cI, (stT q).length, .inl fp)), (zt, .inl (cZ, (stT q).length, .inl fz)), (ut, .inl (cI, (stT q).length, .inl fu))] ++ ((sT cI (Rb.map bq) (Rt.map tq)) ++ ((xA cI x a b f q) ++ ((xB cI b g6 (itS q 1)) ++ [])))) := hD
  refine W.eq (g2 := F0 m 926 ls [.int r_4, .int (nI 6), .int (nI (stN q))]) rfl ?_
  refine W.widen (k := c0) (n := s0) (Nat.le_refl _) (Nat.le_refl _) ?_
  refine k_top (v := nI oo) (hr_923.trans eo) ?_
  refine lv_imul hx hb dL_law_926 ?_
  refine k_top (v := nI (6 * oo)) (pk_mul _ _) ?_
  refine k_iadd hx hb (nI (stN q + (6 * oo))) (nI_add _ _) dL_law_927 ?_
  refine lv_aload_n hx hb dL_law_928 rfl (lv_at hl 3 rfl) ?_
  refine kz_callX (As := []) (rest := [.int (nI (stN q + (6 * oo)))]) F (c_ZX3_sieved l D cI x a b f q ) gL_law_X3_sieved rfl (nA := 0) (by decide +kernel) rfl ⟨Nat.le_of_ble_eq_true rfl, Nat.le_of_ble_eq_true rfl⟩ hK hP hD hS hA hG (ci := 3) (q0 := 0) rfl rfl rfl zp_pn [0] rfl rfl hl.1 (Nat.le_of_ble_eq_true rfl) dL_law_929 ⟨(show c0 + 0 ≤ 908051 by omega), (show s0 + 0 ≤ 6377315 by omega)⟩ (fun r_5 u H locs hr_929 hP hD hS => ?_)
  try dsimp only at hr_929
  have hP := z_PS z_pnb hP
  have hD := z_DS z_pnb hD
  have hP : va_P D vwCl ([(s, .inr (4, [.int (nI (stI q)), .int (nI (stN q)), .int (stO q), .int (stV q), .int (nI (stG q)), .int (nI (stS q)), .int (stM q), .ref ba, .ref ta])), (ba, .inl (cQ, Rb.length, .inr (.inr (.inr (.inr (qf (ad Rb))))))), (ta, .inl (cQ, Rt.length, .inr (.inr (.inr (.inr (qf (ad Rt))))))), (pt, .inl (cI, (stT q).length, .inl fp)), (zt, .inl (cZ, (stT q).length, .inl fz)), (ut, .inl (cI, (stT q).length, .inl fu))] ++ ((sT cI (Rb.map bq) (Rt.map tq)) ++ ((xA cI x a b f q) ++ ((xB cI b g6 (itS q 1)) ++ [])))) H := hP
  have hD : va_D A ([(s, .inr (4, [.int (nI (stI q)), .int (nI (stN q)), .int (stO q), .int (stV q), .int (nI (stG q)), .int (nI (stS q)), .int (stM q), .ref ba, .ref ta])), (ba, .inl (cQ, Rb.length, .inr (.inr (.inr (.inr (qf (ad Rb))))))), (ta, .inl (cQ, Rt.length, .inr (.inr (.inr (.inr (qf (ad Rt))))))), (pt, .inl (cI, (stT q).length, .inl fp)), (zt, .inl (cZ, (stT q).length, .inl fz)), (ut, .inl (cI, (stT q).length, .inl fu))] ++ ((sT cI (Rb.map bq) (Rt.map tq)) ++ ((xA cI x a b f q) ++ ((xB cI b g6 (itS q 1)) ++ [])))) := hD
  refine W.eq (g2 := F0 m 932 ls [.int r_5, .int (nI (stN q + (6 * oo)))]) rfl ?_
  refine W.widen (k := c0) (n := s0) (Nat.le_refl _) (Nat.le_refl _) ?_
  refine k_top (v := nI vv) (hr_929.trans evv) ?_
  refine k_iadd hx hb (nI ((stN q + (6 * oo)) + vv)) (nI_add _ _) dL_law_932 ?_
  refine lv_istore (lv' := [(24, .int (nI ((stN q + (6 * oo)) + vv))), (23, .int (stO (itS q 1))), (22, .int (nI (ns (stB (itS q 1))))), (0, .ref sc), (1, .ref x), (2, .ref s), (3, .int (nI t)), (7, .int (nI ((stB q).length))), (10, .int (nI M)), (12, .int (nI ((stT q).length))), (13, .int (nI (ctT (stT q)))), (16, .ref pt), (17, .ref zt), (18, .ref ut)]) hx hb dL_law_933 hl (by decide) rfl (fun ls hl => ?_)
  refine lv_aload_n hx hb dL_law_935 rfl (lv_at hl 4 rfl) ?_
  refine lv_iconst (v := nI 1) hx hb dL_law_936 (by decide +kernel) ?_
  refine kz_callX (As := [.int (nI 1)]) (rest := []) F (c_ZX3_pass l D cI x a b f q 1 hR hO (by decide)) gL_law_X3_pass rfl (nA := 1) (by decide +kernel) rfl ⟨Nat.le_of_ble_eq_true rfl, Nat.le_of_ble_eq_true rfl⟩ hK hP hD hS hA hG (ci := 3) (q0 := 0) rfl rfl rfl zp_pn [0] rfl rfl hl.1 (Nat.le_of_ble_eq_true rfl) dL_law_937 ⟨(show c0 + 0 ≤ 908051 by omega), (show s0 + 0 ≤ 6377315 by omega)⟩ (fun r_6 u H locs hr_937 hP hD hS => ?_)
  obtain ⟨f5, rfl⟩ : ∃ z, z = u := ⟨_, rfl⟩
  try dsimp only at hr_937
  have hP := z_PS z_pnb hP
  have hD := z_DS z_pnb hD
  have hP : va_P D vwCl ([(s, .inr (4, [.int (nI (stI q)), .int (nI (stN q)), .int (stO q), .int (stV q), .int (nI (stG q)), .int (nI (stS q)), .int (stM q), .ref ba, .ref ta])), (ba, .inl (cQ, Rb.length, .inr (.inr (.inr (.inr (qf (ad Rb))))))), (ta, .inl (cQ, Rt.length, .inr (.inr (.inr (.inr (qf (ad Rt))))))), (pt, .inl (cI, (stT q).length, .inl fp)), (zt, .inl (cZ, (stT q).length, .inl fz)), (ut, .inl (cI, (stT q).length, .inl fu))] ++ ((sT cI (Rb.map bq) (Rt.map tq)) ++ ((xA cI x a b f5 (itS q 1)) ++ ((xB cI b g6 (itS q 1)) ++ [])))) H := hP
  have hD : va_D A ([(s, .inr (4, [.int (nI (stI q)), .int (nI (stN q)), .int (stO q), .int (stV q), .int (nI (stG q)), .int (nI (stS q)), .int (stM q), .ref ba, .ref ta])), (ba, .inl (cQ, Rb.length, .inr (.inr (.inr (.inr (qf (ad Rb))))))), (ta, .inl (cQ, Rt.length, .inr (.inr (.inr (.inr (qf (ad Rt))))))), (pt, .inl (cI, (stT q).length, .inl fp)), (zt, .inl (cZ, (stT q).length, .inl fz)), (ut, .inl (cI, (stT q).length, .inl fu))] ++ ((sT cI (Rb.map bq) (Rt.map tq)) ++ ((xA cI x a b f5 (itS q 1)) ++ ((xB cI b g6 (itS q 1)) ++ [])))) := hD
  refine W.eq (g2 := F0 m 940 ls [.int r_6]) rfl ?_
  refine W.widen (k := c0) (n := s0) (Nat.le_refl _) (Nat.le_refl _) ?_
  refine k_top (v := nI (ctT (stT q) - ctT (stT (itS q 1)))) (hr_937.1) ?_
  refine lv_istore (lv' := [(25, .int (nI (ctT (stT q) - ctT (stT (itS q 1))))), (24, .int (nI ((stN q + (6 * oo)) + vv))), (23, .int (stO (itS q 1))), (22, .int (nI (ns (stB (itS q 1))))), (0, .ref sc), (1, .ref x), (2, .ref s), (3, .int (nI t)), (7, .int (nI ((stB q).length))), (10, .int (nI M)), (12, .int (nI ((stT q).length))), (13, .int (nI (ctT (stT q)))), (16, .ref pt), (17, .ref zt), (18, .ref ut)]) hx hb dL_law_940 hl (by decide) rfl (fun ls hl => ?_)
  refine lv_iload hx hb dL_law_942 (lv_at hl 0 rfl) ?_
  refine lv_aload_n hx hb dL_law_944 rfl (lv_at hl 6 rfl) ?_
  refine kz_callV (As := []) (rest := [.int (nI (ctT (stT q) - ctT (stT (itS q 1))))]) (wp := [(s, .inr (4, [.int (nI (stI q)), .int (nI (stN q)), .int (stO q), .int (stV q), .int (nI (stG q)), .int (nI (stS q)), .int (stM q), .ref ba, .ref ta])), (ba, .inl (cQ, Rb.length, .inr (.inr (.inr (.inr (qf (ad Rb))))))), (ta, .inl (cQ, Rt.length, .inr (.inr (.inr (.inr (qf (ad Rt))))))), (pt, .inl (cI, (stT q).length, .inl fp)), (zt, .inl (cZ, (stT q).length, .inl fz)), (ut, .inl (cI, (stT q).length, .inl fu))]) (wc := [(s, .inr (4, [.int (nI (stI q)), .int (nI (stN q)), .int (stO q), .int (stV q), .int (nI (stG q)), .int (nI (stS q)), .int (stM q), .ref ba, .ref ta])), (ba, .inl (cQ, Rb.length, .inr (.inr (.inr (.inr (qf (ad Rb))))))), (ta, .inl (cQ, Rt.length, .inr (.inr (.inr (.inr (qf (ad Rt)))))))]) (wr := [(pt, .inl (cI, (stT q).length, .inl fp)), (zt, .inl (cZ, (stT q).length, .inl fz)), (ut, .inl (cI, (stT q).length, .inl fu))]) (Z := ((sT cI (Rb.map bq) (Rt.map tq)) ++ ((xA cI x a b f5 (itS q 1)) ++ ((xB cI b g6 (itS q 1)) ++ [])))) (X0 := sT cI (Rb.map bq) (Rt.map tq)) (Y := ((xA cI x a b f5 (itS q 1)) ++ ((xB cI b g6 (itS q 1)) ++ []))) (wc1 := (fun (u : Nat × (List (Nat × Tp)) × (List (Nat × Tk))) => [(s, .inr (4, [.int (nI (stI (mnt q))), .int (nI (stN (mnt q))), .int (stO (mnt q)), .int (stV (mnt q)), .int (nI (stG (mnt q))), .int (nI (stS (mnt q))), .int (stM (mnt q)), .ref u.1, .ref ta])), (u.1, .inl (cQ, u.2.1.length, .inr (.inr (.inr (.inr (qf (ad u.2.1))))))), (ta, .inl (cQ, u.2.2.length, .inr (.inr (.inr (.inr (qf (ad u.2.2)))))))])) (X1 := (fun (u : Nat × (List (Nat × Tp)) × (List (Nat × Tk))) => (sT cI (u.2.1.map bq) (u.2.2.map tq)))) F (c_X4_pass l D cI cQ s ba ta q Rb Rt hq hO hX9 (by omega)) gL_law_X4_pass rfl (nA := 0) (by decide +kernel) rfl ⟨Nat.le_of_ble_eq_true rfl, Nat.le_of_ble_eq_true rfl⟩ hK hP hD hS hA hG (ci := 4) (q0 := 0) rfl rfl rfl [0, 1, 2] [3, 4, 5] rfl (by decide) (List.Perm.refl _) (by rw [List.append_nil]) (fun u => by simp only [List.append_nil]) [0, 1] rfl rfl hl.1 (Nat.le_of_ble_eq_true rfl) dL_law_945 ⟨(show c0 + 25 ≤ 908051 by omega), (show s0 + 246 ≤ 6377315 by omega)⟩ (fun r_7 u H locs hr_945 hP hD hS => ?_)
  obtain ⟨b5, R5, T5⟩ := u
  try dsimp only at hr_945
  have hP : va_P D vwCl ([(pt, .inl (cI, (stT q).length, .inl fp)), (zt, .inl (cZ, (stT q).length, .inl fz)), (ut, .inl (cI, (stT q).length, .inl fu)), (s, .inr (4, [.int (nI (stI (mnt q))), .int (nI (stN (mnt q))), .int (stO (mnt q)), .int (stV (mnt q)), .int (nI (stG (mnt q))), .int (nI (stS (mnt q))), .int (stM (mnt q)), .ref b5, .ref ta])), (b5, .inl (cQ, R5.length, .inr (.inr (.inr (.inr (qf (ad R5))))))), (ta, .inl (cQ, T5.length, .inr (.inr (.inr (.inr (qf (ad T5)))))))] ++ ((sT cI (R5.map bq) (T5.map tq)) ++ ((xA cI x a b f5 (itS q 1)) ++ ((xB cI b g6 (itS q 1)) ++ [])))) H := hP
  have hD : va_D A ([(pt, .inl (cI, (stT q).length, .inl fp)), (zt, .inl (cZ, (stT q).length, .inl fz)), (ut, .inl (cI, (stT q).length, .inl fu)), (s, .inr (4, [.int (nI (stI (mnt q))), .int (nI (stN (mnt q))), .int (stO (mnt q)), .int (stV (mnt q)), .int (nI (stG (mnt q))), .int (nI (stS (mnt q))), .int (stM (mnt q)), .ref b5, .ref ta])), (b5, .inl (cQ, R5.length, .inr (.inr (.inr (.inr (qf (ad R5))))))), (ta, .inl (cQ, T5.length, .inr (.inr (.inr (.inr (qf (ad T5)))))))] ++ ((sT cI (R5.map bq) (T5.map tq)) ++ ((xA cI x a b f5 (itS q 1)) ++ ((xB cI b g6 (itS q 1)) ++ [])))) := hD
  refine W.eq (g2 := F0 m 948 ls [.int r_7, .int (nI (ctT (stT q) - ctT (stT (itS q 1))))]) rfl ?_
  refine W.widen (k := c0 + 25) (n := s0 + 246) (Nat.le_refl _) (Nat.le_refl _) ?_
  refine k_top (v := nI (ctT (stT q) - ctT (stT (itS q 1)))) (hr_945.1) ?_
  refine k_cmp_ne (tgt := 981) hx hb (ctT (stT q) - ctT (stT (itS q 1))) (ctT (stT q) - ctT (stT (itS q 1))) rfl rfl (by omega) (by omega) dL_law_948 (by decide) (fun c_948 => ?_) (fun c_948 => ?_)
  · skip
    exact absurd rfl c_948
  · skip
    refine lv_aload_n hx hb dL_law_951 rfl (lv_at hl 5 rfl) ?_
    refine kz_callX (As := []) (rest := []) F (c_ZX3_noise l D cI x a b f5 (itS q 1) hr_937.2) gL_law_X3_noise rfl (nA := 0) (by decide +kernel) rfl ⟨Nat.le_of_ble_eq_true rfl, Nat.le_of_ble_eq_true rfl⟩ hK hP hD hS hA hG (ci := 3) (q0 := 0) rfl rfl rfl zp_pn [0] rfl rfl hl.1 (Nat.le_of_ble_eq_true rfl) dL_law_952 ⟨(show c0 + 25 + 0 ≤ 908051 by omega), (show s0 + 246 + 0 ≤ 6377315 by omega)⟩ (fun r_8 u H locs hr_952 hP hD hS => ?_)
    try dsimp only at hr_952
    have hP := z_PS z_pnb hP
    have hD := z_DS z_pnb hD
    have hP : va_P D vwCl ([(pt, .inl (cI, (stT q).length, .inl fp)), (zt, .inl (cZ, (stT q).length, .inl fz)), (ut, .inl (cI, (stT q).length, .inl fu)), (s, .inr (4, [.int (nI (stI (mnt q))), .int (nI (stN (mnt q))), .int (stO (mnt q)), .int (stV (mnt q)), .int (nI (stG (mnt q))), .int (nI (stS (mnt q))), .int (stM (mnt q)), .ref b5, .ref ta])), (b5, .inl (cQ, R5.length, .inr (.inr (.inr (.inr (qf (ad R5))))))), (ta, .inl (cQ, T5.length, .inr (.inr (.inr (.inr (qf (ad T5)))))))] ++ ((sT cI (R5.map bq) (T5.map tq)) ++ ((xA cI x a b f5 (itS q 1)) ++ ((xB cI b g6 (itS q 1)) ++ [])))) H := hP
    have hD : va_D A ([(pt, .inl (cI, (stT q).length, .inl fp)), (zt, .inl (cZ, (stT q).length, .inl fz)), (ut, .inl (cI, (stT q).length, .inl fu)), (s, .inr (4, [.int (nI (stI (mnt q))), .int (nI (stN (mnt q))), .int (stO (mnt q)), .int (stV (mnt q)), .int (nI (stG (mnt q))), .int (nI (stS (mnt q))), .int (stM (mnt q)), .ref b5, .ref ta])), (b5, .inl (cQ, R5.length, .inr (.inr (.inr (.inr (qf (ad R5))))))), (ta, .inl (cQ, T5.length, .inr (.inr (.inr (.inr (qf (ad T5)))))))] ++ ((sT cI (R5.map bq) (T5.map tq)) ++ ((xA cI x a b f5 (itS q 1)) ++ ((xB cI b g6 (itS q 1)) ++ [])))) := hD
    refine W.eq (g2 := F0 m 955 ls [.int r_8]) rfl ?_
    refine W.widen (k := c0 + 25) (n := s0 + 246) (Nat.le_refl _) (Nat.le_refl _) ?_
    refine k_top (v := nI (ns (stB (itS q 1)))) (hr_952) ?_
    refine lv_iload hx hb dL_law_955 (lv_at hl 3 rfl) ?_
    refine k_cmp_ne (tgt := 981) hx hb (ns (stB (itS q 1))) (ns (stB (itS q 1))) rfl rfl (by omega) (by omega) dL_law_957 (by decide) (fun c_957 => ?_) (fun c_957 => ?_)
    · skip
      exact absurd rfl c_957
    · skip
      refine lv_aload_n hx hb dL_law_960 rfl (lv_at hl 5 rfl) ?_
      refine kz_callX (As := []) (rest := []) F (c_ZX3_bottles l D cI x a b f5 (itS q 1) ) gL_law_X3_bottles rfl (nA := 0) (by decide +kernel) rfl ⟨Nat.le_of_ble_eq_true rfl, Nat.le_of_ble_eq_true rfl⟩ hK hP hD hS hA hG (ci := 3) (q0 := 0) rfl rfl rfl zp_pn [0] rfl rfl hl.1 (Nat.le_of_ble_eq_true rfl) dL_law_961 ⟨(show c0 + 25 + 0 ≤ 908051 by omega), (show s0 + 246 + 0 ≤ 6377315 by omega)⟩ (fun r_9 u H locs hr_961 hP hD hS => ?_)
      try dsimp only at hr_961
      have hP := z_PS z_pnb hP
      have hD := z_DS z_pnb hD
      have hP : va_P D vwCl ([(pt, .inl (cI, (stT q).length, .inl fp)), (zt, .inl (cZ, (stT q).length, .inl fz)), (ut, .inl (cI, (stT q).length, .inl fu)), (s, .inr (4, [.int (nI (stI (mnt q))), .int (nI (stN (mnt q))), .int (stO (mnt q)), .int (stV (mnt q)), .int (nI (stG (mnt q))), .int (nI (stS (mnt q))), .int (stM (mnt q)), .ref b5, .ref ta])), (b5, .inl (cQ, R5.length, .inr (.inr (.inr (.inr (qf (ad R5))))))), (ta, .inl (cQ, T5.length, .inr (.inr (.inr (.inr (qf (ad T5)))))))] ++ ((sT cI (R5.map bq) (T5.map tq)) ++ ((xA cI x a b f5 (itS q 1)) ++ ((xB cI b g6 (itS q 1)) ++ [])))) H := hP
      have hD : va_D A ([(pt, .inl (cI, (stT q).length, .inl fp)), (zt, .inl (cZ, (stT q).length, .inl fz)), (ut, .inl (cI, (stT q).length, .inl fu)), (s, .inr (4, [.int (nI (stI (mnt q))), .int (nI (stN (mnt q))), .int (stO (mnt q)), .int (stV (mnt q)), .int (nI (stG (mnt q))), .int (nI (stS (mnt q))), .int (stM (mnt q)), .ref b5, .ref ta])), (b5, .inl (cQ, R5.length, .inr (.inr (.inr (.inr (qf (ad R5))))))), (ta, .inl (cQ, T5.length, .inr (.inr (.inr (.inr (qf (ad T5)))))))] ++ ((sT cI (R5.map bq) (T5.map tq)) ++ ((xA cI x a b f5 (itS q 1)) ++ ((xB cI b g6 (itS q 1)) ++ [])))) := hD
      refine W.eq (g2 := F0 m 964 ls [.int r_9]) rfl ?_
      refine W.widen (k := c0 + 25) (n := s0 + 246) (Nat.le_refl _) (Nat.le_refl _) ?_
      refine k_top (v := stO (itS q 1)) (hr_961) ?_
      refine lv_iload hx hb dL_law_964 (lv_at hl 2 rfl) ?_
      refine lv_icmp_ne (tgt := 981) hx hb dL_law_966 (by decide) (fun c_966 => ?_) (fun c_966 => ?_)
      · skip
        exact absurd rfl c_966
      · skip
        refine lv_iload hx hb dL_law_969 (lv_at hl 0 rfl) ?_
        refine k_if_lt (tgt := 981) hx hb (ctT (stT q) - ctT (stT (itS q 1))) rfl (by omega) dL_law_971 (by decide) (fun c_971 => ?_) (fun c_971 => ?_)
        · exact c_971.elim
        · skip
          refine lv_iload hx hb dL_law_974 (lv_at hl 0 rfl) ?_
          refine lv_iload hx hb dL_law_976 (lv_at hl 11 rfl) ?_
          refine k_cmp_le (tgt := 983) hx hb (ctT (stT q) - ctT (stT (itS q 1))) (ctT (stT q)) rfl rfl (by omega) (by omega) dL_law_978 (by decide) (fun c_978 => ?_) (fun c_978 => ?_)
          · skip
            refine lv_aload_n hx hb dL_law_983 rfl (lv_at hl 5 rfl) ?_
            refine kz_callX (As := []) (rest := []) F (c_ZX3_nods l D cI x a b f5 (itS q 1) ) gL_law_X3_nods rfl (nA := 0) (by decide +kernel) rfl ⟨Nat.le_of_ble_eq_true rfl, Nat.le_of_ble_eq_true rfl⟩ hK hP hD hS hA hG (ci := 3) (q0 := 0) rfl rfl rfl zp_pn [0] rfl rfl hl.1 (Nat.le_of_ble_eq_true rfl) dL_law_984 ⟨(show c0 + 25 + 0 ≤ 908051 by omega), (show s0 + 246 + 0 ≤ 6377315 by omega)⟩ (fun r_10 u H locs hr_984 hP hD hS => ?_)
            try dsimp only at hr_984
            have hP := z_PS z_pnb hP
            have hD := z_DS z_pnb hD
            have hP : va_P D vwCl ([(pt, .inl (cI, (stT q).length, .inl fp)), (zt, .inl (cZ, (stT q).length, .inl fz)), (ut, .inl (cI, (stT q).length, .inl fu)), (s, .inr (4, [.int (nI (stI (mnt q))), .int (nI (stN (mnt q))), .int (stO (mnt q)), .int (stV (mnt q)), .int (nI (stG (mnt q))), .int (nI (stS (mnt q))), .int (stM (mnt q)), .ref b5, .ref ta])), (b5, .inl (cQ, R5.length, .inr (.inr (.inr (.inr (qf (ad R5))))))), (ta, .inl (cQ, T5.length, .inr (.inr (.inr (.inr (qf (ad T5)))))))] ++ ((sT cI (R5.map bq) (T5.map tq)) ++ ((xA cI x a b f5 (itS q 1)) ++ ((xB cI b g6 (itS q 1)) ++ [])))) H := hP
            have hD : va_D A ([(pt, .inl (cI, (stT q).length, .inl fp)), (zt, .inl (cZ, (stT q).length, .inl fz)), (ut, .inl (cI, (stT q).length, .inl fu)), (s, .inr (4, [.int (nI (stI (mnt q))), .int (nI (stN (mnt q))), .int (stO (mnt q)), .int (stV (mnt q)), .int (nI (stG (mnt q))), .int (nI (stS (mnt q))), .int (stM (mnt q)), .ref b5, .ref ta])), (b5, .inl (cQ, R5.length, .inr (.inr (.inr (.inr (qf (ad R5))))))), (ta, .inl (cQ, T5.length, .inr (.inr (.inr (.inr (qf (ad T5)))))))] ++ ((sT cI (R5.map bq) (T5.map tq)) ++ ((xA cI x a b f5 (itS q 1)) ++ ((xB cI b g6 (itS q 1)) ++ [])))) := hD
            refine W.eq (g2 := F0 m 987 ls [.int r_10]) rfl ?_
            refine W.widen (k := c0 + 25) (n := s0 + 246) (Nat.le_refl _) (Nat.le_refl _) ?_
            refine k_top (v := nI (mN1 q % 6)) (hr_984) ?_
            refine lv_bipush (v := nI 6) hx hb dL_law_987 (by decide +kernel) ?_
            refine lv_aload_n hx hb dL_law_989 rfl (lv_at hl 5 rfl) ?_
            refine kz_callX (As := []) (rest := [.int (nI 6), .int (nI (mN1 q % 6))]) F (c_ZX3_bottles l D cI x a b f5 (itS q 1) ) gL_law_X3_bottles rfl (nA := 0) (by decide +kernel) rfl ⟨Nat.le_of_ble_eq_true rfl, Nat.le_of_ble_eq_true rfl⟩ hK hP hD hS hA hG (ci := 3) (q0 := 0) rfl rfl rfl zp_pn [0] rfl rfl hl.1 (Nat.le_of_ble_eq_true rfl) dL_law_990 ⟨(show c0 + 25 + 0 ≤ 908051 by omega), (show s0 + 246 + 0 ≤ 6377315 by omega)⟩ (fun r_11 u H locs hr_990 hP hD hS => ?_)
            try dsimp only at hr_990
            have hP := z_PS z_pnb hP
            have hD := z_DS z_pnb hD
            have hP : va_P D vwCl ([(pt, .inl (cI, (stT q).length, .inl fp)), (zt, .inl (cZ, (stT q).length, .inl fz)), (ut, .inl (cI, (stT q).length, .inl fu)), (s, .inr (4, [.int (nI (stI (mnt q))), .int (nI (stN (mnt q))), .int (stO (mnt q)), .int (stV (mnt q)), .int (nI (stG (mnt q))), .int (nI (stS (mnt q))), .int (stM (mnt q)), .ref b5, .ref ta])), (b5, .inl (cQ, R5.length, .inr (.inr (.inr (.inr (qf (ad R5))))))), (ta, .inl (cQ, T5.length, .inr (.inr (.inr (.inr (qf (ad T5)))))))] ++ ((sT cI (R5.map bq) (T5.map tq)) ++ ((xA cI x a b f5 (itS q 1)) ++ ((xB cI b g6 (itS q 1)) ++ [])))) H := hP
            have hD : va_D A ([(pt, .inl (cI, (stT q).length, .inl fp)), (zt, .inl (cZ, (stT q).length, .inl fz)), (ut, .inl (cI, (stT q).length, .inl fu)), (s, .inr (4, [.int (nI (stI (mnt q))), .int (nI (stN (mnt q))), .int (stO (mnt q)), .int (stV (mnt q)), .int (nI (stG (mnt q))), .int (nI (stS (mnt q))), .int (stM (mnt q)), .ref b5, .ref ta])), (b5, .inl (cQ, R5.length, .inr (.inr (.inr (.inr (qf (ad R5))))))), (ta, .inl (cQ, T5.length, .inr (.inr (.inr (.inr (qf (ad T5)))))))] ++ ((sT cI (R5.map bq) (T5.map tq)) ++ ((xA cI x a b f5 (itS q 1)) ++ ((xB cI b g6 (itS q 1)) ++ [])))) := hD
            refine W.eq (g2 := F0 m 993 ls [.int r_11, .int (nI 6), .int (nI (mN1 q % 6))]) rfl ?_
            refine W.widen (k := c0 + 25) (n := s0 + 246) (Nat.le_refl _) (Nat.le_refl _) ?_
            refine k_top (v := nI (oo + mN1 q / 6)) (hr_990.trans (show stO q + nI (mN1 q / 6) = _ by rw [eo, nI_add])) ?_
            refine lv_imul hx hb dL_law_993 ?_
            refine k_top (v := nI (6 * (oo + mN1 q / 6))) (pk_mul _ _) ?_
            refine k_iadd hx hb (nI ((mN1 q % 6) + (6 * (oo + mN1 q / 6)))) (nI_add _ _) dL_law_994 ?_
            refine lv_aload_n hx hb dL_law_995 rfl (lv_at hl 5 rfl) ?_
            refine kz_callX (As := []) (rest := [.int (nI ((mN1 q % 6) + (6 * (oo + mN1 q / 6))))]) F (c_ZX3_sieved l D cI x a b f5 (itS q 1) ) gL_law_X3_sieved rfl (nA := 0) (by decide +kernel) rfl ⟨Nat.le_of_ble_eq_true rfl, Nat.le_of_ble_eq_true rfl⟩ hK hP hD hS hA hG (ci := 3) (q0 := 0) rfl rfl rfl zp_pn [0] rfl rfl hl.1 (Nat.le_of_ble_eq_true rfl) dL_law_996 ⟨(show c0 + 25 + 0 ≤ 908051 by omega), (show s0 + 246 + 0 ≤ 6377315 by omega)⟩ (fun r_12 u H locs hr_996 hP hD hS => ?_)
            try dsimp only at hr_996
            have hP := z_PS z_pnb hP
            have hD := z_DS z_pnb hD
            have hP : va_P D vwCl ([(pt, .inl (cI, (stT q).length, .inl fp)), (zt, .inl (cZ, (stT q).length, .inl fz)), (ut, .inl (cI, (stT q).length, .inl fu)), (s, .inr (4, [.int (nI (stI (mnt q))), .int (nI (stN (mnt q))), .int (stO (mnt q)), .int (stV (mnt q)), .int (nI (stG (mnt q))), .int (nI (stS (mnt q))), .int (stM (mnt q)), .ref b5, .ref ta])), (b5, .inl (cQ, R5.length, .inr (.inr (.inr (.inr (qf (ad R5))))))), (ta, .inl (cQ, T5.length, .inr (.inr (.inr (.inr (qf (ad T5)))))))] ++ ((sT cI (R5.map bq) (T5.map tq)) ++ ((xA cI x a b f5 (itS q 1)) ++ ((xB cI b g6 (itS q 1)) ++ [])))) H := hP
            have hD : va_D A ([(pt, .inl (cI, (stT q).length, .inl fp)), (zt, .inl (cZ, (stT q).length, .inl fz)), (ut, .inl (cI, (stT q).length, .inl fu)), (s, .inr (4, [.int (nI (stI (mnt q))), .int (nI (stN (mnt q))), .int (stO (mnt q)), .int (stV (mnt q)), .int (nI (stG (mnt q))), .int (nI (stS (mnt q))), .int (stM (mnt q)), .ref b5, .ref ta])), (b5, .inl (cQ, R5.length, .inr (.inr (.inr (.inr (qf (ad R5))))))), (ta, .inl (cQ, T5.length, .inr (.inr (.inr (.inr (qf (ad T5)))))))] ++ ((sT cI (R5.map bq) (T5.map tq)) ++ ((xA cI x a b f5 (itS q 1)) ++ ((xB cI b g6 (itS q 1)) ++ [])))) := hD
            refine W.eq (g2 := F0 m 999 ls [.int r_12, .int (nI ((mN1 q % 6) + (6 * (oo + mN1 q / 6))))]) rfl ?_
            refine W.widen (k := c0 + 25) (n := s0 + 246) (Nat.le_refl _) (Nat.le_refl _) ?_
            refine k_top (v := nI (vv + ((mB1 q).length - (mB2 q).length))) (hr_996.trans (show stV q + nI ((mB1 q).length - (mB2 q).length) = _ by rw [evv, nI_add])) ?_
            refine k_iadd hx hb (nI (((mN1 q % 6) + (6 * (oo + mN1 q / 6))) + (vv + ((mB1 q).length - (mB2 q).length)))) (nI_add _ _) dL_law_999 ?_
            refine lv_iload hx hb dL_law_1000 (lv_at hl 1 rfl) ?_
            refine k_isub hx hb (nI ((stB q).length - (mB2 q).length)) (by rw [pk_sub (mn_out (o := oo) (v := vv) hO).2, (mn_out (o := oo) (v := vv) hO).1]) dL_law_1002 ?_
            refine lv_istore (lv' := [(26, .int (nI ((stB q).length - (mB2 q).length))), (25, .int (nI (ctT (stT q) - ctT (stT (itS q 1))))), (24, .int (nI ((stN q + (6 * oo)) + vv))), (23, .int (stO (itS q 1))), (22, .int (nI (ns (stB (itS q 1))))), (0, .ref sc), (1, .ref x), (2, .ref s), (3, .int (nI t)), (7, .int (nI ((stB q).length))), (10, .int (nI M)), (12, .int (nI ((stT q).length))), (13, .int (nI (ctT (stT q)))), (16, .ref pt), (17, .ref zt), (18, .ref ut)]) hx hb dL_law_1003 hl (by decide) rfl (fun ls hl => ?_)
            refine lv_iload hx hb dL_law_1005 (lv_at hl 9 rfl) ?_
            refine lv_iload hx hb dL_law_1007 (lv_at hl 0 rfl) ?_
            refine k_isub hx hb (nI ((mB2 q).length)) (by rw [pk_sub (Nat.sub_le _ _)]; congr 1; omega) dL_law_1009 ?_
            refine lv_istore (lv' := [(27, .int (nI ((mB2 q).length))), (26, .int (nI ((stB q).length - (mB2 q).length))), (25, .int (nI (ctT (stT q) - ctT (stT (itS q 1))))), (24, .int (nI ((stN q + (6 * oo)) + vv))), (23, .int (stO (itS q 1))), (22, .int (nI (ns (stB (itS q 1))))), (0, .ref sc), (1, .ref x), (2, .ref s), (3, .int (nI t)), (7, .int (nI ((stB q).length))), (10, .int (nI M)), (12, .int (nI ((stT q).length))), (13, .int (nI (ctT (stT q)))), (16, .ref pt), (17, .ref zt), (18, .ref ut)]) hx hb dL_law_1010 hl (by decide) rfl (fun ls hl => ?_)
            refine lv_iconst (v := nI 0) hx hb dL_law_1012 (by decide +kernel) ?_
            refine lv_istore (lv' := [(28, .int (nI 0)), (27, .int (nI ((mB2 q).length))), (26, .int (nI ((stB q).length - (mB2 q).length))), (25, .int (nI (ctT (stT q) - ctT (stT (itS q 1))))), (24, .int (nI ((stN q + (6 * oo)) + vv))), (23, .int (stO (itS q 1))), (22, .int (nI (ns (stB (itS q 1))))), (0, .ref sc), (1, .ref x), (2, .ref s), (3, .int (nI t)), (7, .int (nI ((stB q).length))), (10, .int (nI M)), (12, .int (nI ((stT q).length))), (13, .int (nI (ctT (stT q)))), (16, .ref pt), (17, .ref zt), (18, .ref ut)]) hx hb dL_law_1013 hl (by decide) rfl (fun ls hl => ?_)
            refine lv_iload hx hb dL_law_1015 (lv_at hl 2 rfl) ?_
            refine k_if_lt (tgt := 1046) hx hb ((stB q).length - (mB2 q).length) rfl (by omega) dL_law_1017 (by decide) (fun c_1017 => ?_) (fun c_1017 => ?_)
            · exact c_1017.elim
            · skip
              refine lv_iload hx hb dL_law_1020 (lv_at hl 1 rfl) ?_
              refine k_if_lt (tgt := 1046) hx hb ((mB2 q).length) rfl (by omega) dL_law_1022 (by decide) (fun c_1022 => ?_) (fun c_1022 => ?_)
              · exact c_1022.elim
              · skip
                refine lv_aload_n hx hb dL_law_1025 rfl (lv_at hl 8 rfl) ?_
                refine kz_callX (As := []) (rest := []) F (c_ZX3_topics l D cI x a b f5 (itS q 1) ) gL_law_X3_topics rfl (nA := 0) (by decide +kernel) rfl ⟨Nat.le_of_ble_eq_true rfl, Nat.le_of_ble_eq_true rfl⟩ hK hP hD hS hA hG (ci := 3) (q0 := 0) rfl rfl rfl zp_pn [0] rfl rfl hl.1 (Nat.le_of_ble_eq_true rfl) dL_law_1026 ⟨(show c0 + 25 + 0 ≤ 908051 by omega), (show s0 + 246 + 0 ≤ 6377315 by omega)⟩ (fun r_13 u H locs hr_1026 hP hD hS => ?_)
                try dsimp only at hr_1026
                have hP := z_PS z_pnb hP
                have hD := z_DS z_pnb hD
                have hP : va_P D vwCl ([(pt, .inl (cI, (stT q).length, .inl fp)), (zt, .inl (cZ, (stT q).length, .inl fz)), (ut, .inl (cI, (stT q).length, .inl fu)), (s, .inr (4, [.int (nI (stI (mnt q))), .int (nI (stN (mnt q))), .int (stO (mnt q)), .int (stV (mnt q)), .int (nI (stG (mnt q))), .int (nI (stS (mnt q))), .int (stM (mnt q)), .ref b5, .ref ta])), (b5, .inl (cQ, R5.length, .inr (.inr (.inr (.inr (qf (ad R5))))))), (ta, .inl (cQ, T5.length, .inr (.inr (.inr (.inr (qf (ad T5)))))))] ++ ((sT cI (R5.map bq) (T5.map tq)) ++ ((xA cI x a b f5 (itS q 1)) ++ ((xB cI b g6 (itS q 1)) ++ [])))) H := hP
                have hD : va_D A ([(pt, .inl (cI, (stT q).length, .inl fp)), (zt, .inl (cZ, (stT q).length, .inl fz)), (ut, .inl (cI, (stT q).length, .inl fu)), (s, .inr (4, [.int (nI (stI (mnt q))), .int (nI (stN (mnt q))), .int (stO (mnt q)), .int (stV (mnt q)), .int (nI (stG (mnt q))), .int (nI (stS (mnt q))), .int (stM (mnt q)), .ref b5, .ref ta])), (b5, .inl (cQ, R5.length, .inr (.inr (.inr (.inr (qf (ad R5))))))), (ta, .inl (cQ, T5.length, .inr (.inr (.inr (.inr (qf (ad T5)))))))] ++ ((sT cI (R5.map bq) (T5.map tq)) ++ ((xA cI x a b f5 (itS q 1)) ++ ((xB cI b g6 (itS q 1)) ++ [])))) := hD
                refine W.eq (g2 := F0 m 1029 ls [.int r_13]) rfl ?_
                refine W.widen (k := c0 + 25) (n := s0 + 246) (Nat.le_refl _) (Nat.le_refl _) ?_
                refine k_top (v := nI ((stB (itS q 1)).length)) (hr_1026) ?_
                refine lv_iload hx hb dL_law_1029 (lv_at hl 1 rfl) ?_
                refine k_cmp_lt (tgt := 1046) hx hb ((stB (itS q 1)).length) ((mB2 q).length) rfl rfl (by omega) (by omega) dL_law_1031 (by decide) (fun c_1031 => ?_) (fun c_1031 => ?_)
                · skip
                  exact absurd c_1031 (by omega)
                · skip
                  refine lv_aload_n hx hb dL_law_1034 rfl (lv_at hl 8 rfl) ?_
                  refine kz_callX (As := []) (rest := []) F (c_ZX3_topics l D cI x a b f5 (itS q 1) ) gL_law_X3_topics rfl (nA := 0) (by decide +kernel) rfl ⟨Nat.le_of_ble_eq_true rfl, Nat.le_of_ble_eq_true rfl⟩ hK hP hD hS hA hG (ci := 3) (q0 := 0) rfl rfl rfl zp_pn [0] rfl rfl hl.1 (Nat.le_of_ble_eq_true rfl) dL_law_1035 ⟨(show c0 + 25 + 0 ≤ 908051 by omega), (show s0 + 246 + 0 ≤ 6377315 by omega)⟩ (fun r_14 u H locs hr_1035 hP hD hS => ?_)
                  try dsimp only at hr_1035
                  have hP := z_PS z_pnb hP
                  have hD := z_DS z_pnb hD
                  have hP : va_P D vwCl ([(pt, .inl (cI, (stT q).length, .inl fp)), (zt, .inl (cZ, (stT q).length, .inl fz)), (ut, .inl (cI, (stT q).length, .inl fu)), (s, .inr (4, [.int (nI (stI (mnt q))), .int (nI (stN (mnt q))), .int (stO (mnt q)), .int (stV (mnt q)), .int (nI (stG (mnt q))), .int (nI (stS (mnt q))), .int (stM (mnt q)), .ref b5, .ref ta])), (b5, .inl (cQ, R5.length, .inr (.inr (.inr (.inr (qf (ad R5))))))), (ta, .inl (cQ, T5.length, .inr (.inr (.inr (.inr (qf (ad T5)))))))] ++ ((sT cI (R5.map bq) (T5.map tq)) ++ ((xA cI x a b f5 (itS q 1)) ++ ((xB cI b g6 (itS q 1)) ++ [])))) H := hP
                  have hD : va_D A ([(pt, .inl (cI, (stT q).length, .inl fp)), (zt, .inl (cZ, (stT q).length, .inl fz)), (ut, .inl (cI, (stT q).length, .inl fu)), (s, .inr (4, [.int (nI (stI (mnt q))), .int (nI (stN (mnt q))), .int (stO (mnt q)), .int (stV (mnt q)), .int (nI (stG (mnt q))), .int (nI (stS (mnt q))), .int (stM (mnt q)), .ref b5, .ref ta])), (b5, .inl (cQ, R5.length, .inr (.inr (.inr (.inr (qf (ad R5))))))), (ta, .inl (cQ, T5.length, .inr (.inr (.inr (.inr (qf (ad T5)))))))] ++ ((sT cI (R5.map bq) (T5.map tq)) ++ ((xA cI x a b f5 (itS q 1)) ++ ((xB cI b g6 (itS q 1)) ++ [])))) := hD
                  refine W.eq (g2 := F0 m 1038 ls [.int r_14]) rfl ?_
                  refine W.widen (k := c0 + 25) (n := s0 + 246) (Nat.le_refl _) (Nat.le_refl _) ?_
                  refine k_top (v := nI ((stB (itS q 1)).length)) (hr_1035) ?_
                  refine lv_iload hx hb dL_law_1038 (lv_at hl 1 rfl) ?_
                  refine lv_iload hx hb dL_law_1040 (lv_at hl 13 rfl) ?_
                  refine k_iadd hx hb (nI (((mB2 q).length) + ((stT q).length))) (nI_add _ _) dL_law_1042 ?_
                  refine k_cmp_le (tgt := 1048) hx hb ((stB (itS q 1)).length) (((mB2 q).length) + ((stT q).length)) rfl rfl (by omega) (by omega) dL_law_1043 (by decide) (fun c_1043 => ?_) (fun c_1043 => ?_)
                  · skip
                    refine lv_iconst (v := nI 0) hx hb dL_law_1048 (by decide +kernel) ?_
                    refine lv_istore (lv' := [(29, .int (nI 0)), (28, .int (nI 0)), (27, .int (nI ((mB2 q).length))), (26, .int (nI ((stB q).length - (mB2 q).length))), (25, .int (nI (ctT (stT q) - ctT (stT (itS q 1))))), (24, .int (nI ((stN q + (6 * oo)) + vv))), (23, .int (stO (itS q 1))), (22, .int (nI (ns (stB (itS q 1))))), (0, .ref sc), (1, .ref x), (2, .ref s), (3, .int (nI t)), (7, .int (nI ((stB q).length))), (10, .int (nI M)), (12, .int (nI ((stT q).length))), (13, .int (nI (ctT (stT q)))), (16, .ref pt), (17, .ref zt), (18, .ref ut)]) hx hb dL_law_1049 hl (by decide) rfl (fun ls hl => ?_)
                    have loop_15 : ∀ (n : Nat) (i : Nat), (i ≤ (mB2 q).length) → (mB2 q).length - i < n → ∀ (H : Heap) (locs : List Loc), va_P D vwCl ([(pt, .inl (cI, (stT q).length, .inl fp)), (zt, .inl (cZ, (stT q).length, .inl fz)), (ut, .inl (cI, (stT q).length, .inl fu)), (s, .inr (4, [.int (nI (stI (mnt q))), .int (nI (stN (mnt q))), .int (stO (mnt q)), .int (stV (mnt q)), .int (nI (stG (mnt q))), .int (nI (stS (mnt q))), .int (stM (mnt q)), .ref b5, .ref ta])), (b5, .inl (cQ, R5.length, .inr (.inr (.inr (.inr (qf (ad R5))))))), (ta, .inl (cQ, T5.length, .inr (.inr (.inr (.inr (qf (ad T5)))))))] ++ ((sT cI (R5.map bq) (T5.map tq)) ++ ((xA cI x a b f5 (itS q 1)) ++ ((xB cI b g6 (itS q 1)) ++ [])))) H → va_D A ([(pt, .inl (cI, (stT q).length, .inl fp)), (zt, .inl (cZ, (stT q).length, .inl fz)), (ut, .inl (cI, (stT q).length, .inl fu)), (s, .inr (4, [.int (nI (stI (mnt q))), .int (nI (stN (mnt q))), .int (stO (mnt q)), .int (stV (mnt q)), .int (nI (stG (mnt q))), .int (nI (stS (mnt q))), .int (stM (mnt q)), .ref b5, .ref ta])), (b5, .inl (cQ, R5.length, .inr (.inr (.inr (.inr (qf (ad R5))))))), (ta, .inl (cQ, T5.length, .inr (.inr (.inr (.inr (qf (ad T5)))))))] ++ ((sT cI (R5.map bq) (T5.map tq)) ++ ((xA cI x a b f5 (itS q 1)) ++ ((xB cI b g6 (itS q 1)) ++ [])))) → va_S A ss.heap H locs → ∀ ls : Array Slot, lv_has ls 31 [(0, .ref sc), (1, .ref x), (2, .ref s), (3, .int (nI t)), (7, .int (nI ((stB q).length))), (10, .int (nI M)), (12, .int (nI ((stT q).length))), (13, .int (nI (ctT (stT q)))), (16, .ref pt), (17, .ref zt), (18, .ref ut), (25, .int (nI (ctT (stT q) - ctT (stT (itS q 1))))), (27, .int (nI ((mB2 q).length))), (28, .int (nI (nsN (mB2 q) i))), (29, .int (nI i))] → W p l e room_1 ss m args below meth c H locs (c0 + 25) (s0 + 246) Q (F0 m 1051 ls []) := by
                      intro n
                      induction n with
                      | zero => intro i hi hn; exact absurd hn (by omega)
                      | succ n ih =>
                        intro i hi hn H locs hP hD hS ls hl
                        refine lv_iload hx hb dL_law_1051 (lv_at hl 14 rfl) ?_
                        refine lv_iload hx hb dL_law_1053 (lv_at hl 12 rfl) ?_
                        refine k_cmp_ge (tgt := 1088) hx hb i ((mB2 q).length) rfl rfl (by omega) (by omega) dL_law_1055 (by decide) (fun c_1055 => ?_) (fun c_1055 => ?_)
                        · skip
                          obtain rfl : i = (mB2 q).length := by omega
                          refine lv_iconst (v := nI 0) hx hb dL_law_1088 (by decide +kernel) ?_
                          refine lv_istore (lv' := [(29, .int (nI 0)), (0, .ref sc), (1, .ref x), (2, .ref s), (3, .int (nI t)), (7, .int (nI ((stB q).length))), (10, .int (nI M)), (12, .int (nI ((stT q).length))), (13, .int (nI (ctT (stT q)))), (16, .ref pt), (17, .ref zt), (18, .ref ut), (25, .int (nI (ctT (stT q) - ctT (stT (itS q 1))))), (27, .int (nI ((mB2 q).length))), (28, .int (nI (nsN (mB2 q) ((mB2 q).length))))]) hx hb dL_law_1089 hl (by decide) rfl (fun ls hl => ?_)
                          have loop_16 : ∀ (n : Nat) (i : Nat), (i ≤ (stT q).length) → (stT q).length - i < n → ∀ (H : Heap) (locs : List Loc), va_P D vwCl ([(pt, .inl (cI, (stT q).length, .inl fp)), (zt, .inl (cZ, (stT q).length, .inl fz)), (ut, .inl (cI, (stT q).length, .inl fu)), (s, .inr (4, [.int (nI (stI (mnt q))), .int (nI (stN (mnt q))), .int (stO (mnt q)), .int (stV (mnt q)), .int (nI (stG (mnt q))), .int (nI (stS (mnt q))), .int (stM (mnt q)), .ref b5, .ref ta])), (b5, .inl (cQ, R5.length, .inr (.inr (.inr (.inr (qf (ad R5))))))), (ta, .inl (cQ, T5.length, .inr (.inr (.inr (.inr (qf (ad T5)))))))] ++ ((sT cI (R5.map bq) (T5.map tq)) ++ ((xA cI x a b f5 (itS q 1)) ++ ((xB cI b g6 (itS q 1)) ++ [])))) H → va_D A ([(pt, .inl (cI, (stT q).length, .inl fp)), (zt, .inl (cZ, (stT q).length, .inl fz)), (ut, .inl (cI, (stT q).length, .inl fu)), (s, .inr (4, [.int (nI (stI (mnt q))), .int (nI (stN (mnt q))), .int (stO (mnt q)), .int (stV (mnt q)), .int (nI (stG (mnt q))), .int (nI (stS (mnt q))), .int (stM (mnt q)), .ref b5, .ref ta])), (b5, .inl (cQ, R5.length, .inr (.inr (.inr (.inr (qf (ad R5))))))), (ta, .inl (cQ, T5.length, .inr (.inr (.inr (.inr (qf (ad T5)))))))] ++ ((sT cI (R5.map bq) (T5.map tq)) ++ ((xA cI x a b f5 (itS q 1)) ++ ((xB cI b g6 (itS q 1)) ++ [])))) → va_S A ss.heap H locs → ∀ ls : Array Slot, lv_has ls 31 [(0, .ref sc), (1, .ref x), (2, .ref s), (3, .int (nI t)), (7, .int (nI ((stB q).length))), (10, .int (nI M)), (12, .int (nI ((stT q).length))), (13, .int (nI (ctT (stT q)))), (16, .ref pt), (17, .ref zt), (18, .ref ut), (25, .int (nI (ctT (stT q) - ctT (stT (itS q 1))))), (28, .int (nI (ns (mB2 q)))), (29, .int (nI i))] → W p l e room_1 ss m args below meth c H locs (c0 + 25) (s0 + 246) Q (F0 m 1091 ls []) := by
                            intro n
                            induction n with
                            | zero => intro i hi hn; exact absurd hn (by omega)
                            | succ n ih =>
                              intro i hi hn H locs hP hD hS ls hl
                              refine lv_iload hx hb dL_law_1091 (lv_at hl 13 rfl) ?_
                              refine lv_iload hx hb dL_law_1093 (lv_at hl 6 rfl) ?_
                              refine k_cmp_ge (tgt := 1262) hx hb i ((stT q).length) rfl rfl (by omega) (by omega) dL_law_1095 (by decide) (fun c_1095 => ?_) (fun c_1095 => ?_)
                              · skip
                                obtain rfl : i = (stT q).length := by omega
                                refine lv_aload_n hx hb dL_law_1262 rfl (lv_at hl 1 rfl) ?_
                                refine kz_callX (As := []) (rest := []) F (c_ZX3_present l D cI x a b f5 (itS q 1) hr_937.2) gL_law_X3_present rfl (nA := 0) (by decide +kernel) rfl ⟨Nat.le_of_ble_eq_true rfl, Nat.le_of_ble_eq_true rfl⟩ hK hP hD hS hA hG (ci := 3) (q0 := 0) rfl rfl rfl zp_pn [0] rfl rfl hl.1 (Nat.le_of_ble_eq_true rfl) dL_law_1263 ⟨(show c0 + 25 + 0 ≤ 908051 by omega), (show s0 + 246 + 0 ≤ 6377315 by omega)⟩ (fun r_17 u H locs hr_1263 hP hD hS => ?_)
                                try dsimp only at hr_1263
                                have hP := z_PS z_pnb hP
                                have hD := z_DS z_pnb hD
                                have hP : va_P D vwCl ([(pt, .inl (cI, (stT q).length, .inl fp)), (zt, .inl (cZ, (stT q).length, .inl fz)), (ut, .inl (cI, (stT q).length, .inl fu)), (s, .inr (4, [.int (nI (stI (mnt q))), .int (nI (stN (mnt q))), .int (stO (mnt q)), .int (stV (mnt q)), .int (nI (stG (mnt q))), .int (nI (stS (mnt q))), .int (stM (mnt q)), .ref b5, .ref ta])), (b5, .inl (cQ, R5.length, .inr (.inr (.inr (.inr (qf (ad R5))))))), (ta, .inl (cQ, T5.length, .inr (.inr (.inr (.inr (qf (ad T5)))))))] ++ ((sT cI (R5.map bq) (T5.map tq)) ++ ((xA cI x a b f5 (itS q 1)) ++ ((xB cI b g6 (itS q 1)) ++ [])))) H := hP
                                have hD : va_D A ([(pt, .inl (cI, (stT q).length, .inl fp)), (zt, .inl (cZ, (stT q).length, .inl fz)), (ut, .inl (cI, (stT q).length, .inl fu)), (s, .inr (4, [.int (nI (stI (mnt q))), .int (nI (stN (mnt q))), .int (stO (mnt q)), .int (stV (mnt q)), .int (nI (stG (mnt q))), .int (nI (stS (mnt q))), .int (stM (mnt q)), .ref b5, .ref ta])), (b5, .inl (cQ, R5.length, .inr (.inr (.inr (.inr (qf (ad R5))))))), (ta, .inl (cQ, T5.length, .inr (.inr (.inr (.inr (qf (ad T5)))))))] ++ ((sT cI (R5.map bq) (T5.map tq)) ++ ((xA cI x a b f5 (itS q 1)) ++ ((xB cI b g6 (itS q 1)) ++ [])))) := hD
                                refine W.eq (g2 := F0 m 1266 ls [.int r_17]) rfl ?_
                                refine W.widen (k := c0 + 25) (n := s0 + 246) (Nat.le_refl _) (Nat.le_refl _) ?_
                                refine k_top (v := nI (ctT (stT (itS q 1)))) (hr_1263) ?_
                                refine lv_iload hx hb dL_law_1266 (lv_at hl 7 rfl) ?_
                                refine lv_iload hx hb dL_law_1268 (lv_at hl 11 rfl) ?_
                                refine k_isub hx hb (nI (ctT (stT (itS q 1)))) (by rw [pk_sub (Nat.sub_le _ _)]; congr 1; omega) dL_law_1270 ?_
                                refine k_cmp_eq (tgt := 1276) hx hb (ctT (stT (itS q 1))) (ctT (stT (itS q 1))) rfl rfl (by omega) (by omega) dL_law_1271 (by decide) (fun c_1271 => ?_) (fun c_1271 => ?_)
                                · skip
                                  refine lv_iinc (v := nI (t + 1)) (lv' := [(3, .int (nI (t + 1))), (0, .ref sc), (1, .ref x), (2, .ref s), (7, .int (nI ((stB q).length))), (10, .int (nI M)), (12, .int (nI ((stT q).length))), (13, .int (nI (ctT (stT q)))), (16, .ref pt), (17, .ref zt), (18, .ref ut), (25, .int (nI (ctT (stT q) - ctT (stT (itS q 1))))), (28, .int (nI (ns (mB2 q)))), (29, .int (nI ((stT q).length)))]) hx hb dL_law_1276 hl (k := 3) rfl (nI_1 _) (by decide) rfl (fun ls hl => ?_)
                                  refine lv_goto (tgt := 22) hx hb dL_law_1279 (by decide) ?_
                                  exact K (c0 + 25) (s0 + 246) f5 g6 (itS q 1) (itS q 1) b5 ta R5 T5 (by omega) (by omega) (by rw [stI_it]; omega) hr_937.2 hr_945.2 (okQ_it hok 1) _ _ (z_subP hP [3, 4, 5] (rfl)) (z_subD hD [3, 4, 5] (by decide) (rfl)) hS _ (lv_sub hl [1, 2, 3, 0] (rfl))
                                · skip
                                  exact absurd rfl c_1271
                              · skip
                                have hi1 : i < (stT (itS q 1)).length := by rw [stT_len]; exact c_1095
                                rcases (hok.2.2.1 _ (gd_mem (d := tk0) c_1095)).2.2 with ⟨hx9, hp9⟩ | ⟨m9, hm9, ex9, ep9⟩
                                · skip
                                  have hp30 := (hO.2.2.1 i c_1095).2.2.2
                                  have hh30 := hrP_le (ns (mB2 q)) hp30
                                  refine lv_aload hx hb dL_law_1098 (lv_at hl 9 rfl) ?_
                                  refine lv_iload hx hb dL_law_1100 (lv_at hl 13 rfl) ?_
                                  refine k_zald hx hb hK hP 1 2 rfl rfl i rfl (by omega) (by omega) dL_law_1102 ?_
                                  refine k_top (v := nI 1) ((hfz i c_1095).trans (if_pos hx9)) ?_
                                  refine k_if_ne (tgt := 1114) hx hb 1 rfl (by omega) dL_law_1103 (by decide) (fun c_1103 => ?_) (fun c_1103 => ?_)
                                  · skip
                                    refine lv_iload hx hb dL_law_1114 (lv_at hl 12 rfl) ?_
                                    refine k_if_ne (tgt := 1134) hx hb (ns (mB2 q)) rfl (by omega) dL_law_1116 (by decide) (fun c_1116 => ?_) (fun c_1116 => ?_)
                                    · skip
                                      refine lv_iconst (v := nI 0) hx hb dL_law_1134 (by decide +kernel) ?_
                                      refine lv_aload hx hb dL_law_1135 (lv_at hl 8 rfl) ?_
                                      refine lv_iload hx hb dL_law_1137 (lv_at hl 13 rfl) ?_
                                      refine k_iald hx hb hK hP 0 0 rfl rfl i (rfl) (by omega) (by omega) dL_law_1139 ?_
                                      refine k_top (v := nI (tkP ((stT q).getD i tk0))) (hfp i c_1095) ?_
                                      refine lv_iload hx hb dL_law_1140 (lv_at hl 12 rfl) ?_
                                      refine lv_bipush (v := nI 20) hx hb dL_law_1142 (by decide +kernel) ?_
                                      refine k_idiv hx hb (nI ((ns (mB2 q)) / 20)) (by decide +kernel) (pk_div (by omega) (by omega) (by omega)) dL_law_1144 ?_
                                      refine k_isub hx hb (nI (tkP ((stT q).getD i tk0)) - nI (ns (mB2 q) / 20)) (rfl) dL_law_1145 ?_
                                      refine lv_iconst (v := nI 1) hx hb dL_law_1146 (by decide +kernel) ?_
                                      refine k_isub hx hb (nI (tkP ((stT q).getD i tk0)) - nI (ns (mB2 q) / 20) - nI 1) (rfl) dL_law_1147 ?_
                                      refine va_mmax hx hb (hml.trans hl.1.symm) hown (hts (.methodLink RL 100 Lib.Math.max.name) (by decide +kernel)) (hts (.static Lib.Math.max.name) (by decide +kernel)) (hts (.initialized "java/lang/Math") (by decide +kernel)) (hts (.code Lib.Math.max.name Lib.Math.max.code 2 (some .int)) (by decide +kernel)) (Nat.le_of_ble_eq_true rfl) (Nat.le_of_ble_eq_true rfl) ((show c0 + 25 ≤ 908051 by omega)) ((show s0 + 246 ≤ 6377315 by omega)) dL_law_1148 ?_
                                      refine k_top (v := nI (hrP (ns (mB2 q)) (tkP ((stT q).getD i tk0)))) (du_y c_1116 hz9 hp30) ?_
                                      refine lv_istore (lv' := [(30, .int (nI (hrP (ns (mB2 q)) (tkP ((stT q).getD i tk0))))), (0, .ref sc), (1, .ref x), (2, .ref s), (3, .int (nI t)), (7, .int (nI ((stB q).length))), (10, .int (nI M)), (12, .int (nI ((stT q).length))), (13, .int (nI (ctT (stT q)))), (16, .ref pt), (17, .ref zt), (18, .ref ut), (25, .int (nI (ctT (stT q) - ctT (stT (itS q 1))))), (28, .int (nI (ns (mB2 q)))), (29, .int (nI i))]) hx hb dL_law_1151 hl (by decide) rfl (fun ls hl => ?_)
                                      rcases Nat.eq_zero_or_pos (hrP (ns (mB2 q)) (tkP ((stT q).getD i tk0))) with hz0 | hz0
                                      · skip
                                        have hg1 := lw_gone c_1095 hx9 hz0
                                        have hP1 : ¬ tkX ((stT (itS q 1)).getD i tk0) = -1 := by rw [hg1]; exact nI_nm1 (by omega)
                                        refine lv_aload_n hx hb dL_law_1153 rfl (lv_at hl 2 rfl) ?_
                                        refine lv_iload hx hb dL_law_1154 (lv_at hl 14 rfl) ?_
                                        refine kz_callX (As := [.int (nI i)]) (rest := []) F (c_ZX3_patienceOf l D cI x a b f5 (itS q 1) i hr_937.2 hi1) gL_law_X3_patienceOf rfl (nA := 1) (by decide +kernel) rfl ⟨Nat.le_of_ble_eq_true rfl, Nat.le_of_ble_eq_true rfl⟩ hK hP hD hS hA hG (ci := 3) (q0 := 0) rfl rfl rfl zp_pn [0] rfl rfl hl.1 (Nat.le_of_ble_eq_true rfl) dL_law_1156 ⟨(show c0 + 25 + 0 ≤ 908051 by omega), (show s0 + 246 + 0 ≤ 6377315 by omega)⟩ (fun r_18 u H locs hr_1156 hP hD hS => ?_)
                                        try dsimp only at hr_1156
                                        have hP := z_PS z_pnb hP
                                        have hD := z_DS z_pnb hD
                                        have hP : va_P D vwCl ([(pt, .inl (cI, (stT q).length, .inl fp)), (zt, .inl (cZ, (stT q).length, .inl fz)), (ut, .inl (cI, (stT q).length, .inl fu)), (s, .inr (4, [.int (nI (stI (mnt q))), .int (nI (stN (mnt q))), .int (stO (mnt q)), .int (stV (mnt q)), .int (nI (stG (mnt q))), .int (nI (stS (mnt q))), .int (stM (mnt q)), .ref b5, .ref ta])), (b5, .inl (cQ, R5.length, .inr (.inr (.inr (.inr (qf (ad R5))))))), (ta, .inl (cQ, T5.length, .inr (.inr (.inr (.inr (qf (ad T5)))))))] ++ ((sT cI (R5.map bq) (T5.map tq)) ++ ((xA cI x a b f5 (itS q 1)) ++ ((xB cI b g6 (itS q 1)) ++ [])))) H := hP
                                        have hD : va_D A ([(pt, .inl (cI, (stT q).length, .inl fp)), (zt, .inl (cZ, (stT q).length, .inl fz)), (ut, .inl (cI, (stT q).length, .inl fu)), (s, .inr (4, [.int (nI (stI (mnt q))), .int (nI (stN (mnt q))), .int (stO (mnt q)), .int (stV (mnt q)), .int (nI (stG (mnt q))), .int (nI (stS (mnt q))), .int (stM (mnt q)), .ref b5, .ref ta])), (b5, .inl (cQ, R5.length, .inr (.inr (.inr (.inr (qf (ad R5))))))), (ta, .inl (cQ, T5.length, .inr (.inr (.inr (.inr (qf (ad T5)))))))] ++ ((sT cI (R5.map bq) (T5.map tq)) ++ ((xA cI x a b f5 (itS q 1)) ++ ((xB cI b g6 (itS q 1)) ++ [])))) := hD
                                        refine W.eq (g2 := F0 m 1159 ls [.int r_18]) rfl ?_
                                        refine W.widen (k := c0 + 25) (n := s0 + 246) (Nat.le_refl _) (Nat.le_refl _) ?_
                                        refine k_top (v := nI (hrP (ns (mB2 q)) (tkP ((stT q).getD i tk0)))) (hr_1156.trans (by rw [lw_pat c_1095 hx9])) ?_
                                        refine lv_iload hx hb dL_law_1159 (lv_at hl 0 rfl) ?_
                                        refine k_cmp_ne (tgt := 1254) hx hb (hrP (ns (mB2 q)) (tkP ((stT q).getD i tk0))) (hrP (ns (mB2 q)) (tkP ((stT q).getD i tk0))) rfl rfl (by omega) (by omega) dL_law_1161 (by decide) (fun c_1161 => ?_) (fun c_1161 => ?_)
                                        · skip
                                          exact absurd rfl c_1161
                                        · skip
                                          refine lv_aload_n hx hb dL_law_1164 rfl (lv_at hl 2 rfl) ?_
                                          refine lv_iload hx hb dL_law_1165 (lv_at hl 14 rfl) ?_
                                          refine kz_callX (As := [.int (nI i)]) (rest := []) F (c_ZX3_isPresent l D cI x a b f5 (itS q 1) i hr_937.2 hi1) gL_law_X3_isPresent rfl (nA := 1) (by decide +kernel) rfl ⟨Nat.le_of_ble_eq_true rfl, Nat.le_of_ble_eq_true rfl⟩ hK hP hD hS hA hG (ci := 3) (q0 := 0) rfl rfl rfl zp_pn [0] rfl rfl hl.1 (Nat.le_of_ble_eq_true rfl) dL_law_1167 ⟨(show c0 + 25 + 0 ≤ 908051 by omega), (show s0 + 246 + 0 ≤ 6377315 by omega)⟩ (fun r_19 u H locs hr_1167 hP hD hS => ?_)
                                          try dsimp only at hr_1167
                                          have hP := z_PS z_pnb hP
                                          have hD := z_DS z_pnb hD
                                          have hP : va_P D vwCl ([(pt, .inl (cI, (stT q).length, .inl fp)), (zt, .inl (cZ, (stT q).length, .inl fz)), (ut, .inl (cI, (stT q).length, .inl fu)), (s, .inr (4, [.int (nI (stI (mnt q))), .int (nI (stN (mnt q))), .int (stO (mnt q)), .int (stV (mnt q)), .int (nI (stG (mnt q))), .int (nI (stS (mnt q))), .int (stM (mnt q)), .ref b5, .ref ta])), (b5, .inl (cQ, R5.length, .inr (.inr (.inr (.inr (qf (ad R5))))))), (ta, .inl (cQ, T5.length, .inr (.inr (.inr (.inr (qf (ad T5)))))))] ++ ((sT cI (R5.map bq) (T5.map tq)) ++ ((xA cI x a b f5 (itS q 1)) ++ ((xB cI b g6 (itS q 1)) ++ [])))) H := hP
                                          have hD : va_D A ([(pt, .inl (cI, (stT q).length, .inl fp)), (zt, .inl (cZ, (stT q).length, .inl fz)), (ut, .inl (cI, (stT q).length, .inl fu)), (s, .inr (4, [.int (nI (stI (mnt q))), .int (nI (stN (mnt q))), .int (stO (mnt q)), .int (stV (mnt q)), .int (nI (stG (mnt q))), .int (nI (stS (mnt q))), .int (stM (mnt q)), .ref b5, .ref ta])), (b5, .inl (cQ, R5.length, .inr (.inr (.inr (.inr (qf (ad R5))))))), (ta, .inl (cQ, T5.length, .inr (.inr (.inr (.inr (qf (ad T5)))))))] ++ ((sT cI (R5.map bq) (T5.map tq)) ++ ((xA cI x a b f5 (itS q 1)) ++ ((xB cI b g6 (itS q 1)) ++ [])))) := hD
                                          refine W.eq (g2 := F0 m 1170 ls [.int r_19]) rfl ?_
                                          refine W.widen (k := c0 + 25) (n := s0 + 246) (Nat.le_refl _) (Nat.le_refl _) ?_
                                          refine k_top (v := nI 0) (hr_1167.trans (if_neg hP1)) ?_
                                          refine lv_iload hx hb dL_law_1170 (lv_at hl 0 rfl) ?_
                                          refine k_if_le (tgt := 1179) hx hb (hrP (ns (mB2 q)) (tkP ((stT q).getD i tk0))) rfl (by omega) dL_law_1172 (by decide) (fun c_1172 => ?_) (fun c_1172 => ?_)
                                          · skip
                                            refine lv_iconst (v := nI 0) hx hb dL_law_1179 (by decide +kernel) ?_
                                            refine k_cmp_ne (tgt := 1254) hx hb 0 0 rfl rfl (by omega) (by omega) dL_law_1180 (by decide) (fun c_1180 => ?_) (fun c_1180 => ?_)
                                            · exact absurd c_1180 (by omega)
                                            · skip
                                              refine lv_aload hx hb dL_law_1183 (lv_at hl 10 rfl) ?_
                                              refine lv_iload hx hb dL_law_1185 (lv_at hl 14 rfl) ?_
                                              refine k_zald hx hb hK hP 1 2 rfl rfl i rfl (by omega) (by omega) dL_law_1187 ?_
                                              refine k_top (v := nI 1) ((hfz i c_1095).trans (if_pos hx9)) ?_
                                              refine k_if_eq (tgt := 1222) hx hb 1 rfl (by omega) dL_law_1188 (by decide) (fun c_1188 => ?_) (fun c_1188 => ?_)
                                              · exact absurd c_1188 (by omega)
                                              · skip
                                                refine lv_aload_n hx hb dL_law_1191 rfl (lv_at hl 2 rfl) ?_
                                                refine lv_iload hx hb dL_law_1192 (lv_at hl 14 rfl) ?_
                                                refine kz_callX (As := [.int (nI i)]) (rest := []) F (c_ZX3_isPresent l D cI x a b f5 (itS q 1) i hr_937.2 hi1) gL_law_X3_isPresent rfl (nA := 1) (by decide +kernel) rfl ⟨Nat.le_of_ble_eq_true rfl, Nat.le_of_ble_eq_true rfl⟩ hK hP hD hS hA hG (ci := 3) (q0 := 0) rfl rfl rfl zp_pn [0] rfl rfl hl.1 (Nat.le_of_ble_eq_true rfl) dL_law_1194 ⟨(show c0 + 25 + 0 ≤ 908051 by omega), (show s0 + 246 + 0 ≤ 6377315 by omega)⟩ (fun r_20 u H locs hr_1194 hP hD hS => ?_)
                                                try dsimp only at hr_1194
                                                have hP := z_PS z_pnb hP
                                                have hD := z_DS z_pnb hD
                                                have hP : va_P D vwCl ([(pt, .inl (cI, (stT q).length, .inl fp)), (zt, .inl (cZ, (stT q).length, .inl fz)), (ut, .inl (cI, (stT q).length, .inl fu)), (s, .inr (4, [.int (nI (stI (mnt q))), .int (nI (stN (mnt q))), .int (stO (mnt q)), .int (stV (mnt q)), .int (nI (stG (mnt q))), .int (nI (stS (mnt q))), .int (stM (mnt q)), .ref b5, .ref ta])), (b5, .inl (cQ, R5.length, .inr (.inr (.inr (.inr (qf (ad R5))))))), (ta, .inl (cQ, T5.length, .inr (.inr (.inr (.inr (qf (ad T5)))))))] ++ ((sT cI (R5.map bq) (T5.map tq)) ++ ((xA cI x a b f5 (itS q 1)) ++ ((xB cI b g6 (itS q 1)) ++ [])))) H := hP
                                                have hD : va_D A ([(pt, .inl (cI, (stT q).length, .inl fp)), (zt, .inl (cZ, (stT q).length, .inl fz)), (ut, .inl (cI, (stT q).length, .inl fu)), (s, .inr (4, [.int (nI (stI (mnt q))), .int (nI (stN (mnt q))), .int (stO (mnt q)), .int (stV (mnt q)), .int (nI (stG (mnt q))), .int (nI (stS (mnt q))), .int (stM (mnt q)), .ref b5, .ref ta])), (b5, .inl (cQ, R5.length, .inr (.inr (.inr (.inr (qf (ad R5))))))), (ta, .inl (cQ, T5.length, .inr (.inr (.inr (.inr (qf (ad T5)))))))] ++ ((sT cI (R5.map bq) (T5.map tq)) ++ ((xA cI x a b f5 (itS q 1)) ++ ((xB cI b g6 (itS q 1)) ++ [])))) := hD
                                                refine W.eq (g2 := F0 m 1197 ls [.int r_20]) rfl ?_
                                                refine W.widen (k := c0 + 25) (n := s0 + 246) (Nat.le_refl _) (Nat.le_refl _) ?_
                                                refine k_top (v := nI 0) (hr_1194.trans (if_neg hP1)) ?_
                                                refine k_if_ne (tgt := 1204) hx hb 0 rfl (by omega) dL_law_1197 (by decide) (fun c_1197 => ?_) (fun c_1197 => ?_)
                                                · exact absurd c_1197 (by omega)
                                                · skip
                                                  refine lv_iconst (v := nI 1) hx hb dL_law_1200 (by decide +kernel) ?_
                                                  refine lv_goto (tgt := 1205) hx hb dL_law_1201 (by decide) ?_
                                                  refine lv_aload hx hb dL_law_1205 (lv_at hl 11 rfl) ?_
                                                  refine lv_iload hx hb dL_law_1207 (lv_at hl 14 rfl) ?_
                                                  refine k_iald hx hb hK hP 2 0 rfl rfl i (rfl) (by omega) (by omega) dL_law_1209 ?_
                                                  refine k_top (v := nI 1) (fst_one (hfu i c_1095) (fun h => h hx9) hP1) ?_
                                                  refine lv_iconst (v := nI 1) hx hb dL_law_1210 (by decide +kernel) ?_
                                                  refine k_cmp_ne (tgt := 1218) hx hb 1 1 rfl rfl (by omega) (by omega) dL_law_1211 (by decide) (fun c_1211 => ?_) (fun c_1211 => ?_)
                                                  · exact absurd c_1211 (by omega)
                                                  · skip
                                                    refine lv_iconst (v := nI 1) hx hb dL_law_1214 (by decide +kernel) ?_
                                                    refine lv_goto (tgt := 1219) hx hb dL_law_1215 (by decide) ?_
                                                    refine k_cmp_ne (tgt := 1254) hx hb 1 1 rfl rfl (by omega) (by omega) dL_law_1219 (by decide) (fun c_1219 => ?_) (fun c_1219 => ?_)
                                                    · exact absurd c_1219 (by omega)
                                                    · skip
                                                      refine lv_aload hx hb dL_law_1222 (lv_at hl 10 rfl) ?_
                                                      refine lv_iload hx hb dL_law_1224 (lv_at hl 14 rfl) ?_
                                                      refine k_zald hx hb hK hP 1 2 rfl rfl i rfl (by omega) (by omega) dL_law_1226 ?_
                                                      refine k_top (v := nI 1) ((hfz i c_1095).trans (if_pos hx9)) ?_
                                                      refine k_if_eq (tgt := 1256) hx hb 1 rfl (by omega) dL_law_1227 (by decide) (fun c_1227 => ?_) (fun c_1227 => ?_)
                                                      · exact absurd c_1227 (by omega)
                                                      · skip
                                                        refine lv_aload_n hx hb dL_law_1230 rfl (lv_at hl 2 rfl) ?_
                                                        refine lv_iload hx hb dL_law_1231 (lv_at hl 14 rfl) ?_
                                                        refine kz_callX (As := [.int (nI i)]) (rest := []) F (c_ZX3_isPresent l D cI x a b f5 (itS q 1) i hr_937.2 hi1) gL_law_X3_isPresent rfl (nA := 1) (by decide +kernel) rfl ⟨Nat.le_of_ble_eq_true rfl, Nat.le_of_ble_eq_true rfl⟩ hK hP hD hS hA hG (ci := 3) (q0 := 0) rfl rfl rfl zp_pn [0] rfl rfl hl.1 (Nat.le_of_ble_eq_true rfl) dL_law_1233 ⟨(show c0 + 25 + 0 ≤ 908051 by omega), (show s0 + 246 + 0 ≤ 6377315 by omega)⟩ (fun r_21 u H locs hr_1233 hP hD hS => ?_)
                                                        try dsimp only at hr_1233
                                                        have hP := z_PS z_pnb hP
                                                        have hD := z_DS z_pnb hD
                                                        have hP : va_P D vwCl ([(pt, .inl (cI, (stT q).length, .inl fp)), (zt, .inl (cZ, (stT q).length, .inl fz)), (ut, .inl (cI, (stT q).length, .inl fu)), (s, .inr (4, [.int (nI (stI (mnt q))), .int (nI (stN (mnt q))), .int (stO (mnt q)), .int (stV (mnt q)), .int (nI (stG (mnt q))), .int (nI (stS (mnt q))), .int (stM (mnt q)), .ref b5, .ref ta])), (b5, .inl (cQ, R5.length, .inr (.inr (.inr (.inr (qf (ad R5))))))), (ta, .inl (cQ, T5.length, .inr (.inr (.inr (.inr (qf (ad T5)))))))] ++ ((sT cI (R5.map bq) (T5.map tq)) ++ ((xA cI x a b f5 (itS q 1)) ++ ((xB cI b g6 (itS q 1)) ++ [])))) H := hP
                                                        have hD : va_D A ([(pt, .inl (cI, (stT q).length, .inl fp)), (zt, .inl (cZ, (stT q).length, .inl fz)), (ut, .inl (cI, (stT q).length, .inl fu)), (s, .inr (4, [.int (nI (stI (mnt q))), .int (nI (stN (mnt q))), .int (stO (mnt q)), .int (stV (mnt q)), .int (nI (stG (mnt q))), .int (nI (stS (mnt q))), .int (stM (mnt q)), .ref b5, .ref ta])), (b5, .inl (cQ, R5.length, .inr (.inr (.inr (.inr (qf (ad R5))))))), (ta, .inl (cQ, T5.length, .inr (.inr (.inr (.inr (qf (ad T5)))))))] ++ ((sT cI (R5.map bq) (T5.map tq)) ++ ((xA cI x a b f5 (itS q 1)) ++ ((xB cI b g6 (itS q 1)) ++ [])))) := hD
                                                        refine W.eq (g2 := F0 m 1236 ls [.int r_21]) rfl ?_
                                                        refine W.widen (k := c0 + 25) (n := s0 + 246) (Nat.le_refl _) (Nat.le_refl _) ?_
                                                        refine k_top (v := nI 0) (hr_1233.trans (if_neg hP1)) ?_
                                                        refine k_if_ne (tgt := 1256) hx hb 0 rfl (by omega) dL_law_1236 (by decide) (fun c_1236 => ?_) (fun c_1236 => ?_)
                                                        · exact absurd c_1236 (by omega)
                                                        · skip
                                                          refine lv_aload_n hx hb dL_law_1239 rfl (lv_at hl 2 rfl) ?_
                                                          refine lv_iload hx hb dL_law_1240 (lv_at hl 14 rfl) ?_
                                                          refine kz_callX (As := [.int (nI i)]) (rest := []) F (c_ZX3_exitOf l D cI x a b f5 (itS q 1) i hr_937.2 hi1) gL_law_X3_exitOf rfl (nA := 1) (by decide +kernel) rfl ⟨Nat.le_of_ble_eq_true rfl, Nat.le_of_ble_eq_true rfl⟩ hK hP hD hS hA hG (ci := 3) (q0 := 0) rfl rfl rfl zp_pn [0] rfl rfl hl.1 (Nat.le_of_ble_eq_true rfl) dL_law_1242 ⟨(show c0 + 25 + 0 ≤ 908051 by omega), (show s0 + 246 + 0 ≤ 6377315 by omega)⟩ (fun r_22 u H locs hr_1242 hP hD hS => ?_)
                                                          try dsimp only at hr_1242
                                                          have hP := z_PS z_pnb hP
                                                          have hD := z_DS z_pnb hD
                                                          have hP : va_P D vwCl ([(pt, .inl (cI, (stT q).length, .inl fp)), (zt, .inl (cZ, (stT q).length, .inl fz)), (ut, .inl (cI, (stT q).length, .inl fu)), (s, .inr (4, [.int (nI (stI (mnt q))), .int (nI (stN (mnt q))), .int (stO (mnt q)), .int (stV (mnt q)), .int (nI (stG (mnt q))), .int (nI (stS (mnt q))), .int (stM (mnt q)), .ref b5, .ref ta])), (b5, .inl (cQ, R5.length, .inr (.inr (.inr (.inr (qf (ad R5))))))), (ta, .inl (cQ, T5.length, .inr (.inr (.inr (.inr (qf (ad T5)))))))] ++ ((sT cI (R5.map bq) (T5.map tq)) ++ ((xA cI x a b f5 (itS q 1)) ++ ((xB cI b g6 (itS q 1)) ++ [])))) H := hP
                                                          have hD : va_D A ([(pt, .inl (cI, (stT q).length, .inl fp)), (zt, .inl (cZ, (stT q).length, .inl fz)), (ut, .inl (cI, (stT q).length, .inl fu)), (s, .inr (4, [.int (nI (stI (mnt q))), .int (nI (stN (mnt q))), .int (stO (mnt q)), .int (stV (mnt q)), .int (nI (stG (mnt q))), .int (nI (stS (mnt q))), .int (stM (mnt q)), .ref b5, .ref ta])), (b5, .inl (cQ, R5.length, .inr (.inr (.inr (.inr (qf (ad R5))))))), (ta, .inl (cQ, T5.length, .inr (.inr (.inr (.inr (qf (ad T5)))))))] ++ ((sT cI (R5.map bq) (T5.map tq)) ++ ((xA cI x a b f5 (itS q 1)) ++ ((xB cI b g6 (itS q 1)) ++ [])))) := hD
                                                          refine W.eq (g2 := F0 m 1245 ls [.int r_22]) rfl ?_
                                                          refine W.widen (k := c0 + 25) (n := s0 + 246) (Nat.le_refl _) (Nat.le_refl _) ?_
                                                          refine k_top (v := nI (stI q)) (hr_1242.trans hg1) ?_
                                                          refine lv_aload_n hx hb dL_law_1245 rfl (lv_at hl 2 rfl) ?_
                                                          refine kz_callX (As := []) (rest := [.int (nI (stI q))]) F (c_ZX3_minute l D cI x a b f5 (itS q 1) ) gL_law_X3_minute rfl (nA := 0) (by decide +kernel) rfl ⟨Nat.le_of_ble_eq_true rfl, Nat.le_of_ble_eq_true rfl⟩ hK hP hD hS hA hG (ci := 3) (q0 := 0) rfl rfl rfl zp_pn [0] rfl rfl hl.1 (Nat.le_of_ble_eq_true rfl) dL_law_1246 ⟨(show c0 + 25 + 0 ≤ 908051 by omega), (show s0 + 246 + 0 ≤ 6377315 by omega)⟩ (fun r_23 u H locs hr_1246 hP hD hS => ?_)
                                                          try dsimp only at hr_1246
                                                          have hP := z_PS z_pnb hP
                                                          have hD := z_DS z_pnb hD
                                                          have hP : va_P D vwCl ([(pt, .inl (cI, (stT q).length, .inl fp)), (zt, .inl (cZ, (stT q).length, .inl fz)), (ut, .inl (cI, (stT q).length, .inl fu)), (s, .inr (4, [.int (nI (stI (mnt q))), .int (nI (stN (mnt q))), .int (stO (mnt q)), .int (stV (mnt q)), .int (nI (stG (mnt q))), .int (nI (stS (mnt q))), .int (stM (mnt q)), .ref b5, .ref ta])), (b5, .inl (cQ, R5.length, .inr (.inr (.inr (.inr (qf (ad R5))))))), (ta, .inl (cQ, T5.length, .inr (.inr (.inr (.inr (qf (ad T5)))))))] ++ ((sT cI (R5.map bq) (T5.map tq)) ++ ((xA cI x a b f5 (itS q 1)) ++ ((xB cI b g6 (itS q 1)) ++ [])))) H := hP
                                                          have hD : va_D A ([(pt, .inl (cI, (stT q).length, .inl fp)), (zt, .inl (cZ, (stT q).length, .inl fz)), (ut, .inl (cI, (stT q).length, .inl fu)), (s, .inr (4, [.int (nI (stI (mnt q))), .int (nI (stN (mnt q))), .int (stO (mnt q)), .int (stV (mnt q)), .int (nI (stG (mnt q))), .int (nI (stS (mnt q))), .int (stM (mnt q)), .ref b5, .ref ta])), (b5, .inl (cQ, R5.length, .inr (.inr (.inr (.inr (qf (ad R5))))))), (ta, .inl (cQ, T5.length, .inr (.inr (.inr (.inr (qf (ad T5)))))))] ++ ((sT cI (R5.map bq) (T5.map tq)) ++ ((xA cI x a b f5 (itS q 1)) ++ ((xB cI b g6 (itS q 1)) ++ [])))) := hD
                                                          refine W.eq (g2 := F0 m 1249 ls [.int r_23, .int (nI (stI q))]) rfl ?_
                                                          refine W.widen (k := c0 + 25) (n := s0 + 246) (Nat.le_refl _) (Nat.le_refl _) ?_
                                                          refine k_top (v := nI (stI q + 1)) (hr_1246) ?_
                                                          refine lv_iconst (v := nI 1) hx hb dL_law_1249 (by decide +kernel) ?_
                                                          refine k_isub hx hb (nI (stI q)) (k_subN _ _) dL_law_1250 ?_
                                                          refine k_cmp_eq (tgt := 1256) hx hb (stI q) (stI q) rfl rfl (by omega) (by omega) dL_law_1251 (by decide) (fun c_1251 => ?_) (fun c_1251 => ?_)
                                                          · skip
                                                            refine lv_iinc (v := nI (i + 1)) (lv' := [(29, .int (nI (i + 1))), (30, .int (nI (hrP (ns (mB2 q)) (tkP ((stT q).getD i tk0))))), (0, .ref sc), (1, .ref x), (2, .ref s), (3, .int (nI t)), (7, .int (nI ((stB q).length))), (10, .int (nI M)), (12, .int (nI ((stT q).length))), (13, .int (nI (ctT (stT q)))), (16, .ref pt), (17, .ref zt), (18, .ref ut), (25, .int (nI (ctT (stT q) - ctT (stT (itS q 1))))), (28, .int (nI (ns (mB2 q))))]) hx hb dL_law_1256 hl (k := 14) rfl (nI_1 _) (by decide) rfl (fun ls hl => ?_)
                                                            refine lv_goto (tgt := 1091) hx hb dL_law_1259 (by decide) ?_
                                                            exact ih (i + 1) (by omega) (by omega) _ _ (z_subP hP [0, 1, 2, 3, 4, 5] (rfl)) (z_subD hD [0, 1, 2, 3, 4, 5] (by decide) (rfl)) hS _ (lv_sub hl [2, 3, 4, 5, 6, 7, 8, 9, 10, 11, 12, 13, 14, 0] (rfl))
                                                          · skip
                                                            exact absurd rfl c_1251
                                          · skip
                                            exact absurd c_1172 (by omega)
                                      · skip
                                        have hP1 : tkX ((stT (itS q 1)).getD i tk0) = -1 := lw_stay c_1095 hx9 hz0
                                        refine lv_aload_n hx hb dL_law_1153 rfl (lv_at hl 2 rfl) ?_
                                        refine lv_iload hx hb dL_law_1154 (lv_at hl 14 rfl) ?_
                                        refine kz_callX (As := [.int (nI i)]) (rest := []) F (c_ZX3_patienceOf l D cI x a b f5 (itS q 1) i hr_937.2 hi1) gL_law_X3_patienceOf rfl (nA := 1) (by decide +kernel) rfl ⟨Nat.le_of_ble_eq_true rfl, Nat.le_of_ble_eq_true rfl⟩ hK hP hD hS hA hG (ci := 3) (q0 := 0) rfl rfl rfl zp_pn [0] rfl rfl hl.1 (Nat.le_of_ble_eq_true rfl) dL_law_1156 ⟨(show c0 + 25 + 0 ≤ 908051 by omega), (show s0 + 246 + 0 ≤ 6377315 by omega)⟩ (fun r_24 u H locs hr_1156 hP hD hS => ?_)
                                        try dsimp only at hr_1156
                                        have hP := z_PS z_pnb hP
                                        have hD := z_DS z_pnb hD
                                        have hP : va_P D vwCl ([(pt, .inl (cI, (stT q).length, .inl fp)), (zt, .inl (cZ, (stT q).length, .inl fz)), (ut, .inl (cI, (stT q).length, .inl fu)), (s, .inr (4, [.int (nI (stI (mnt q))), .int (nI (stN (mnt q))), .int (stO (mnt q)), .int (stV (mnt q)), .int (nI (stG (mnt q))), .int (nI (stS (mnt q))), .int (stM (mnt q)), .ref b5, .ref ta])), (b5, .inl (cQ, R5.length, .inr (.inr (.inr (.inr (qf (ad R5))))))), (ta, .inl (cQ, T5.length, .inr (.inr (.inr (.inr (qf (ad T5)))))))] ++ ((sT cI (R5.map bq) (T5.map tq)) ++ ((xA cI x a b f5 (itS q 1)) ++ ((xB cI b g6 (itS q 1)) ++ [])))) H := hP
                                        have hD : va_D A ([(pt, .inl (cI, (stT q).length, .inl fp)), (zt, .inl (cZ, (stT q).length, .inl fz)), (ut, .inl (cI, (stT q).length, .inl fu)), (s, .inr (4, [.int (nI (stI (mnt q))), .int (nI (stN (mnt q))), .int (stO (mnt q)), .int (stV (mnt q)), .int (nI (stG (mnt q))), .int (nI (stS (mnt q))), .int (stM (mnt q)), .ref b5, .ref ta])), (b5, .inl (cQ, R5.length, .inr (.inr (.inr (.inr (qf (ad R5))))))), (ta, .inl (cQ, T5.length, .inr (.inr (.inr (.inr (qf (ad T5)))))))] ++ ((sT cI (R5.map bq) (T5.map tq)) ++ ((xA cI x a b f5 (itS q 1)) ++ ((xB cI b g6 (itS q 1)) ++ [])))) := hD
                                        refine W.eq (g2 := F0 m 1159 ls [.int r_24]) rfl ?_
                                        refine W.widen (k := c0 + 25) (n := s0 + 246) (Nat.le_refl _) (Nat.le_refl _) ?_
                                        refine k_top (v := nI (hrP (ns (mB2 q)) (tkP ((stT q).getD i tk0)))) (hr_1156.trans (by rw [lw_pat c_1095 hx9])) ?_
                                        refine lv_iload hx hb dL_law_1159 (lv_at hl 0 rfl) ?_
                                        refine k_cmp_ne (tgt := 1254) hx hb (hrP (ns (mB2 q)) (tkP ((stT q).getD i tk0))) (hrP (ns (mB2 q)) (tkP ((stT q).getD i tk0))) rfl rfl (by omega) (by omega) dL_law_1161 (by decide) (fun c_1161 => ?_) (fun c_1161 => ?_)
                                        · skip
                                          exact absurd rfl c_1161
                                        · skip
                                          refine lv_aload_n hx hb dL_law_1164 rfl (lv_at hl 2 rfl) ?_
                                          refine lv_iload hx hb dL_law_1165 (lv_at hl 14 rfl) ?_
                                          refine kz_callX (As := [.int (nI i)]) (rest := []) F (c_ZX3_isPresent l D cI x a b f5 (itS q 1) i hr_937.2 hi1) gL_law_X3_isPresent rfl (nA := 1) (by decide +kernel) rfl ⟨Nat.le_of_ble_eq_true rfl, Nat.le_of_ble_eq_true rfl⟩ hK hP hD hS hA hG (ci := 3) (q0 := 0) rfl rfl rfl zp_pn [0] rfl rfl hl.1 (Nat.le_of_ble_eq_true rfl) dL_law_1167 ⟨(show c0 + 25 + 0 ≤ 908051 by omega), (show s0 + 246 + 0 ≤ 6377315 by omega)⟩ (fun r_25 u H locs hr_1167 hP hD hS => ?_)
                                          try dsimp only at hr_1167
                                          have hP := z_PS z_pnb hP
                                          have hD := z_DS z_pnb hD
                                          have hP : va_P D vwCl ([(pt, .inl (cI, (stT q).length, .inl fp)), (zt, .inl (cZ, (stT q).length, .inl fz)), (ut, .inl (cI, (stT q).length, .inl fu)), (s, .inr (4, [.int (nI (stI (mnt q))), .int (nI (stN (mnt q))), .int (stO (mnt q)), .int (stV (mnt q)), .int (nI (stG (mnt q))), .int (nI (stS (mnt q))), .int (stM (mnt q)), .ref b5, .ref ta])), (b5, .inl (cQ, R5.length, .inr (.inr (.inr (.inr (qf (ad R5))))))), (ta, .inl (cQ, T5.length, .inr (.inr (.inr (.inr (qf (ad T5)))))))] ++ ((sT cI (R5.map bq) (T5.map tq)) ++ ((xA cI x a b f5 (itS q 1)) ++ ((xB cI b g6 (itS q 1)) ++ [])))) H := hP
                                          have hD : va_D A ([(pt, .inl (cI, (stT q).length, .inl fp)), (zt, .inl (cZ, (stT q).length, .inl fz)), (ut, .inl (cI, (stT q).length, .inl fu)), (s, .inr (4, [.int (nI (stI (mnt q))), .int (nI (stN (mnt q))), .int (stO (mnt q)), .int (stV (mnt q)), .int (nI (stG (mnt q))), .int (nI (stS (mnt q))), .int (stM (mnt q)), .ref b5, .ref ta])), (b5, .inl (cQ, R5.length, .inr (.inr (.inr (.inr (qf (ad R5))))))), (ta, .inl (cQ, T5.length, .inr (.inr (.inr (.inr (qf (ad T5)))))))] ++ ((sT cI (R5.map bq) (T5.map tq)) ++ ((xA cI x a b f5 (itS q 1)) ++ ((xB cI b g6 (itS q 1)) ++ [])))) := hD
                                          refine W.eq (g2 := F0 m 1170 ls [.int r_25]) rfl ?_
                                          refine W.widen (k := c0 + 25) (n := s0 + 246) (Nat.le_refl _) (Nat.le_refl _) ?_
                                          refine k_top (v := nI 1) (hr_1167.trans (if_pos hP1)) ?_
                                          refine lv_iload hx hb dL_law_1170 (lv_at hl 0 rfl) ?_
                                          refine k_if_le (tgt := 1179) hx hb (hrP (ns (mB2 q)) (tkP ((stT q).getD i tk0))) rfl (by omega) dL_law_1172 (by decide) (fun c_1172 => ?_) (fun c_1172 => ?_)
                                          · skip
                                            exact absurd c_1172 (by omega)
                                          · skip
                                            refine lv_iconst (v := nI 1) hx hb dL_law_1175 (by decide +kernel) ?_
                                            refine lv_goto (tgt := 1180) hx hb dL_law_1176 (by decide) ?_
                                            refine k_cmp_ne (tgt := 1254) hx hb 1 1 rfl rfl (by omega) (by omega) dL_law_1180 (by decide) (fun c_1180 => ?_) (fun c_1180 => ?_)
                                            · exact absurd c_1180 (by omega)
                                            · skip
                                              refine lv_aload hx hb dL_law_1183 (lv_at hl 10 rfl) ?_
                                              refine lv_iload hx hb dL_law_1185 (lv_at hl 14 rfl) ?_
                                              refine k_zald hx hb hK hP 1 2 rfl rfl i rfl (by omega) (by omega) dL_law_1187 ?_
                                              refine k_top (v := nI 1) ((hfz i c_1095).trans (if_pos hx9)) ?_
                                              refine k_if_eq (tgt := 1222) hx hb 1 rfl (by omega) dL_law_1188 (by decide) (fun c_1188 => ?_) (fun c_1188 => ?_)
                                              · exact absurd c_1188 (by omega)
                                              · skip
                                                refine lv_aload_n hx hb dL_law_1191 rfl (lv_at hl 2 rfl) ?_
                                                refine lv_iload hx hb dL_law_1192 (lv_at hl 14 rfl) ?_
                                                refine kz_callX (As := [.int (nI i)]) (rest := []) F (c_ZX3_isPresent l D cI x a b f5 (itS q 1) i hr_937.2 hi1) gL_law_X3_isPresent rfl (nA := 1) (by decide +kernel) rfl ⟨Nat.le_of_ble_eq_true rfl, Nat.le_of_ble_eq_true rfl⟩ hK hP hD hS hA hG (ci := 3) (q0 := 0) rfl rfl rfl zp_pn [0] rfl rfl hl.1 (Nat.le_of_ble_eq_true rfl) dL_law_1194 ⟨(show c0 + 25 + 0 ≤ 908051 by omega), (show s0 + 246 + 0 ≤ 6377315 by omega)⟩ (fun r_26 u H locs hr_1194 hP hD hS => ?_)
                                                try dsimp only at hr_1194
                                                have hP := z_PS z_pnb hP
                                                have hD := z_DS z_pnb hD
                                                have hP : va_P D vwCl ([(pt, .inl (cI, (stT q).length, .inl fp)), (zt, .inl (cZ, (stT q).length, .inl fz)), (ut, .inl (cI, (stT q).length, .inl fu)), (s, .inr (4, [.int (nI (stI (mnt q))), .int (nI (stN (mnt q))), .int (stO (mnt q)), .int (stV (mnt q)), .int (nI (stG (mnt q))), .int (nI (stS (mnt q))), .int (stM (mnt q)), .ref b5, .ref ta])), (b5, .inl (cQ, R5.length, .inr (.inr (.inr (.inr (qf (ad R5))))))), (ta, .inl (cQ, T5.length, .inr (.inr (.inr (.inr (qf (ad T5)))))))] ++ ((sT cI (R5.map bq) (T5.map tq)) ++ ((xA cI x a b f5 (itS q 1)) ++ ((xB cI b g6 (itS q 1)) ++ [])))) H := hP
                                                have hD : va_D A ([(pt, .inl (cI, (stT q).length, .inl fp)), (zt, .inl (cZ, (stT q).length, .inl fz)), (ut, .inl (cI, (stT q).length, .inl fu)), (s, .inr (4, [.int (nI (stI (mnt q))), .int (nI (stN (mnt q))), .int (stO (mnt q)), .int (stV (mnt q)), .int (nI (stG (mnt q))), .int (nI (stS (mnt q))), .int (stM (mnt q)), .ref b5, .ref ta])), (b5, .inl (cQ, R5.length, .inr (.inr (.inr (.inr (qf (ad R5))))))), (ta, .inl (cQ, T5.length, .inr (.inr (.inr (.inr (qf (ad T5)))))))] ++ ((sT cI (R5.map bq) (T5.map tq)) ++ ((xA cI x a b f5 (itS q 1)) ++ ((xB cI b g6 (itS q 1)) ++ [])))) := hD
                                                refine W.eq (g2 := F0 m 1197 ls [.int r_26]) rfl ?_
                                                refine W.widen (k := c0 + 25) (n := s0 + 246) (Nat.le_refl _) (Nat.le_refl _) ?_
                                                refine k_top (v := nI 1) (hr_1194.trans (if_pos hP1)) ?_
                                                refine k_if_ne (tgt := 1204) hx hb 1 rfl (by omega) dL_law_1197 (by decide) (fun c_1197 => ?_) (fun c_1197 => ?_)
                                                · skip
                                                  refine lv_iconst (v := nI 0) hx hb dL_law_1204 (by decide +kernel) ?_
                                                  refine lv_aload hx hb dL_law_1205 (lv_at hl 11 rfl) ?_
                                                  refine lv_iload hx hb dL_law_1207 (lv_at hl 14 rfl) ?_
                                                  refine k_iald hx hb hK hP 2 0 rfl rfl i (rfl) (by omega) (by omega) dL_law_1209 ?_
                                                  refine lv_iconst (v := nI 1) hx hb dL_law_1210 (by decide +kernel) ?_
                                                  refine lv_icmp_ne (tgt := 1218) hx hb dL_law_1211 (by decide) (fun c_1211 => ?_) (fun c_1211 => ?_)
                                                  · skip
                                                    refine lv_iconst (v := nI 0) hx hb dL_law_1218 (by decide +kernel) ?_
                                                    refine k_cmp_ne (tgt := 1254) hx hb 0 0 rfl rfl (by omega) (by omega) dL_law_1219 (by decide) (fun c_1219 => ?_) (fun c_1219 => ?_)
                                                    · exact absurd c_1219 (by omega)
                                                    · skip
                                                      refine lv_aload hx hb dL_law_1222 (lv_at hl 10 rfl) ?_
                                                      refine lv_iload hx hb dL_law_1224 (lv_at hl 14 rfl) ?_
                                                      refine k_zald hx hb hK hP 1 2 rfl rfl i rfl (by omega) (by omega) dL_law_1226 ?_
                                                      refine k_top (v := nI 1) ((hfz i c_1095).trans (if_pos hx9)) ?_
                                                      refine k_if_eq (tgt := 1256) hx hb 1 rfl (by omega) dL_law_1227 (by decide) (fun c_1227 => ?_) (fun c_1227 => ?_)
                                                      · exact absurd c_1227 (by omega)
                                                      · skip
                                                        refine lv_aload_n hx hb dL_law_1230 rfl (lv_at hl 2 rfl) ?_
                                                        refine lv_iload hx hb dL_law_1231 (lv_at hl 14 rfl) ?_
                                                        refine kz_callX (As := [.int (nI i)]) (rest := []) F (c_ZX3_isPresent l D cI x a b f5 (itS q 1) i hr_937.2 hi1) gL_law_X3_isPresent rfl (nA := 1) (by decide +kernel) rfl ⟨Nat.le_of_ble_eq_true rfl, Nat.le_of_ble_eq_true rfl⟩ hK hP hD hS hA hG (ci := 3) (q0 := 0) rfl rfl rfl zp_pn [0] rfl rfl hl.1 (Nat.le_of_ble_eq_true rfl) dL_law_1233 ⟨(show c0 + 25 + 0 ≤ 908051 by omega), (show s0 + 246 + 0 ≤ 6377315 by omega)⟩ (fun r_27 u H locs hr_1233 hP hD hS => ?_)
                                                        try dsimp only at hr_1233
                                                        have hP := z_PS z_pnb hP
                                                        have hD := z_DS z_pnb hD
                                                        have hP : va_P D vwCl ([(pt, .inl (cI, (stT q).length, .inl fp)), (zt, .inl (cZ, (stT q).length, .inl fz)), (ut, .inl (cI, (stT q).length, .inl fu)), (s, .inr (4, [.int (nI (stI (mnt q))), .int (nI (stN (mnt q))), .int (stO (mnt q)), .int (stV (mnt q)), .int (nI (stG (mnt q))), .int (nI (stS (mnt q))), .int (stM (mnt q)), .ref b5, .ref ta])), (b5, .inl (cQ, R5.length, .inr (.inr (.inr (.inr (qf (ad R5))))))), (ta, .inl (cQ, T5.length, .inr (.inr (.inr (.inr (qf (ad T5)))))))] ++ ((sT cI (R5.map bq) (T5.map tq)) ++ ((xA cI x a b f5 (itS q 1)) ++ ((xB cI b g6 (itS q 1)) ++ [])))) H := hP
                                                        have hD : va_D A ([(pt, .inl (cI, (stT q).length, .inl fp)), (zt, .inl (cZ, (stT q).length, .inl fz)), (ut, .inl (cI, (stT q).length, .inl fu)), (s, .inr (4, [.int (nI (stI (mnt q))), .int (nI (stN (mnt q))), .int (stO (mnt q)), .int (stV (mnt q)), .int (nI (stG (mnt q))), .int (nI (stS (mnt q))), .int (stM (mnt q)), .ref b5, .ref ta])), (b5, .inl (cQ, R5.length, .inr (.inr (.inr (.inr (qf (ad R5))))))), (ta, .inl (cQ, T5.length, .inr (.inr (.inr (.inr (qf (ad T5)))))))] ++ ((sT cI (R5.map bq) (T5.map tq)) ++ ((xA cI x a b f5 (itS q 1)) ++ ((xB cI b g6 (itS q 1)) ++ [])))) := hD
                                                        refine W.eq (g2 := F0 m 1236 ls [.int r_27]) rfl ?_
                                                        refine W.widen (k := c0 + 25) (n := s0 + 246) (Nat.le_refl _) (Nat.le_refl _) ?_
                                                        refine k_top (v := nI 1) (hr_1233.trans (if_pos hP1)) ?_
                                                        refine k_if_ne (tgt := 1256) hx hb 1 rfl (by omega) dL_law_1236 (by decide) (fun c_1236 => ?_) (fun c_1236 => ?_)
                                                        · skip
                                                          refine lv_iinc (v := nI (i + 1)) (lv' := [(29, .int (nI (i + 1))), (30, .int (nI (hrP (ns (mB2 q)) (tkP ((stT q).getD i tk0))))), (0, .ref sc), (1, .ref x), (2, .ref s), (3, .int (nI t)), (7, .int (nI ((stB q).length))), (10, .int (nI M)), (12, .int (nI ((stT q).length))), (13, .int (nI (ctT (stT q)))), (16, .ref pt), (17, .ref zt), (18, .ref ut), (25, .int (nI (ctT (stT q) - ctT (stT (itS q 1))))), (28, .int (nI (ns (mB2 q))))]) hx hb dL_law_1256 hl (k := 14) rfl (nI_1 _) (by decide) rfl (fun ls hl => ?_)
                                                          refine lv_goto (tgt := 1091) hx hb dL_law_1259 (by decide) ?_
                                                          exact ih (i + 1) (by omega) (by omega) _ _ (z_subP hP [0, 1, 2, 3, 4, 5] (rfl)) (z_subD hD [0, 1, 2, 3, 4, 5] (by decide) (rfl)) hS _ (lv_sub hl [2, 3, 4, 5, 6, 7, 8, 9, 10, 11, 12, 13, 14, 0] (rfl))
                                                        · exact absurd c_1236 (by omega)
                                                  · skip
                                                    exact absurd c_1211 (fst_not (hfu i c_1095) (fun h => h hP1))
                                                · exact absurd c_1197 (by omega)
                                    · skip
                                      refine lv_bipush (v := nI 30) hx hb dL_law_1119 (by decide +kernel) ?_
                                      refine lv_aload hx hb dL_law_1121 (lv_at hl 8 rfl) ?_
                                      refine lv_iload hx hb dL_law_1123 (lv_at hl 13 rfl) ?_
                                      refine k_iald hx hb hK hP 0 0 rfl rfl i (rfl) (by omega) (by omega) dL_law_1125 ?_
                                      refine k_top (v := nI (tkP ((stT q).getD i tk0))) (hfp i c_1095) ?_
                                      refine lv_iconst (v := nI 1) hx hb dL_law_1126 (by decide +kernel) ?_
                                      refine k_iadd hx hb (nI ((tkP ((stT q).getD i tk0)) + 1)) (nI_add _ _) dL_law_1127 ?_
                                      refine va_mmin hx hb (hml.trans hl.1.symm) hown (hts (.methodLink RL 132 Lib.Math.min.name) (by decide +kernel)) (hts (.static Lib.Math.min.name) (by decide +kernel)) (hts (.initialized "java/lang/Math") (by decide +kernel)) (hts (.code Lib.Math.min.name Lib.Math.min.code 2 (some .int)) (by decide +kernel)) (Nat.le_of_ble_eq_true rfl) (Nat.le_of_ble_eq_true rfl) ((show c0 + 25 ≤ 908051 by omega)) ((show s0 + 246 ≤ 6377315 by omega)) dL_law_1128 ?_
                                      refine k_top (v := nI (hrP (ns (mB2 q)) (tkP ((stT q).getD i tk0)))) ((du_n hp30).trans (by rw [c_1116])) ?_
                                      refine lv_goto (tgt := 1151) hx hb dL_law_1131 (by decide) ?_
                                      refine lv_istore (lv' := [(30, .int (nI (hrP (ns (mB2 q)) (tkP ((stT q).getD i tk0))))), (0, .ref sc), (1, .ref x), (2, .ref s), (3, .int (nI t)), (7, .int (nI ((stB q).length))), (10, .int (nI M)), (12, .int (nI ((stT q).length))), (13, .int (nI (ctT (stT q)))), (16, .ref pt), (17, .ref zt), (18, .ref ut), (25, .int (nI (ctT (stT q) - ctT (stT (itS q 1))))), (28, .int (nI (ns (mB2 q)))), (29, .int (nI i))]) hx hb dL_law_1151 hl (by decide) rfl (fun ls hl => ?_)
                                      rcases Nat.eq_zero_or_pos (hrP (ns (mB2 q)) (tkP ((stT q).getD i tk0))) with hz0 | hz0
                                      · skip
                                        have hg1 := lw_gone c_1095 hx9 hz0
                                        have hP1 : ¬ tkX ((stT (itS q 1)).getD i tk0) = -1 := by rw [hg1]; exact nI_nm1 (by omega)
                                        refine lv_aload_n hx hb dL_law_1153 rfl (lv_at hl 2 rfl) ?_
                                        refine lv_iload hx hb dL_law_1154 (lv_at hl 14 rfl) ?_
                                        refine kz_callX (As := [.int (nI i)]) (rest := []) F (c_ZX3_patienceOf l D cI x a b f5 (itS q 1) i hr_937.2 hi1) gL_law_X3_patienceOf rfl (nA := 1) (by decide +kernel) rfl ⟨Nat.le_of_ble_eq_true rfl, Nat.le_of_ble_eq_true rfl⟩ hK hP hD hS hA hG (ci := 3) (q0 := 0) rfl rfl rfl zp_pn [0] rfl rfl hl.1 (Nat.le_of_ble_eq_true rfl) dL_law_1156 ⟨(show c0 + 25 + 0 ≤ 908051 by omega), (show s0 + 246 + 0 ≤ 6377315 by omega)⟩ (fun r_28 u H locs hr_1156 hP hD hS => ?_)
                                        try dsimp only at hr_1156
                                        have hP := z_PS z_pnb hP
                                        have hD := z_DS z_pnb hD
                                        have hP : va_P D vwCl ([(pt, .inl (cI, (stT q).length, .inl fp)), (zt, .inl (cZ, (stT q).length, .inl fz)), (ut, .inl (cI, (stT q).length, .inl fu)), (s, .inr (4, [.int (nI (stI (mnt q))), .int (nI (stN (mnt q))), .int (stO (mnt q)), .int (stV (mnt q)), .int (nI (stG (mnt q))), .int (nI (stS (mnt q))), .int (stM (mnt q)), .ref b5, .ref ta])), (b5, .inl (cQ, R5.length, .inr (.inr (.inr (.inr (qf (ad R5))))))), (ta, .inl (cQ, T5.length, .inr (.inr (.inr (.inr (qf (ad T5)))))))] ++ ((sT cI (R5.map bq) (T5.map tq)) ++ ((xA cI x a b f5 (itS q 1)) ++ ((xB cI b g6 (itS q 1)) ++ [])))) H := hP
                                        have hD : va_D A ([(pt, .inl (cI, (stT q).length, .inl fp)), (zt, .inl (cZ, (stT q).length, .inl fz)), (ut, .inl (cI, (stT q).length, .inl fu)), (s, .inr (4, [.int (nI (stI (mnt q))), .int (nI (stN (mnt q))), .int (stO (mnt q)), .int (stV (mnt q)), .int (nI (stG (mnt q))), .int (nI (stS (mnt q))), .int (stM (mnt q)), .ref b5, .ref ta])), (b5, .inl (cQ, R5.length, .inr (.inr (.inr (.inr (qf (ad R5))))))), (ta, .inl (cQ, T5.length, .inr (.inr (.inr (.inr (qf (ad T5)))))))] ++ ((sT cI (R5.map bq) (T5.map tq)) ++ ((xA cI x a b f5 (itS q 1)) ++ ((xB cI b g6 (itS q 1)) ++ [])))) := hD
                                        refine W.eq (g2 := F0 m 1159 ls [.int r_28]) rfl ?_
                                        refine W.widen (k := c0 + 25) (n := s0 + 246) (Nat.le_refl _) (Nat.le_refl _) ?_
                                        refine k_top (v := nI (hrP (ns (mB2 q)) (tkP ((stT q).getD i tk0)))) (hr_1156.trans (by rw [lw_pat c_1095 hx9])) ?_
                                        refine lv_iload hx hb dL_law_1159 (lv_at hl 0 rfl) ?_
                                        refine k_cmp_ne (tgt := 1254) hx hb (hrP (ns (mB2 q)) (tkP ((stT q).getD i tk0))) (hrP (ns (mB2 q)) (tkP ((stT q).getD i tk0))) rfl rfl (by omega) (by omega) dL_law_1161 (by decide) (fun c_1161 => ?_) (fun c_1161 => ?_)
                                        · skip
                                          exact absurd rfl c_1161
                                        · skip
                                          refine lv_aload_n hx hb dL_law_1164 rfl (lv_at hl 2 rfl) ?_
                                          refine lv_iload hx hb dL_law_1165 (lv_at hl 14 rfl) ?_
                                          refine kz_callX (As := [.int (nI i)]) (rest := []) F (c_ZX3_isPresent l D cI x a b f5 (itS q 1) i hr_937.2 hi1) gL_law_X3_isPresent rfl (nA := 1) (by decide +kernel) rfl ⟨Nat.le_of_ble_eq_true rfl, Nat.le_of_ble_eq_true rfl⟩ hK hP hD hS hA hG (ci := 3) (q0 := 0) rfl rfl rfl zp_pn [0] rfl rfl hl.1 (Nat.le_of_ble_eq_true rfl) dL_law_1167 ⟨(show c0 + 25 + 0 ≤ 908051 by omega), (show s0 + 246 + 0 ≤ 6377315 by omega)⟩ (fun r_29 u H locs hr_1167 hP hD hS => ?_)
                                          try dsimp only at hr_1167
                                          have hP := z_PS z_pnb hP
                                          have hD := z_DS z_pnb hD
                                          have hP : va_P D vwCl ([(pt, .inl (cI, (stT q).length, .inl fp)), (zt, .inl (cZ, (stT q).length, .inl fz)), (ut, .inl (cI, (stT q).length, .inl fu)), (s, .inr (4, [.int (nI (stI (mnt q))), .int (nI (stN (mnt q))), .int (stO (mnt q)), .int (stV (mnt q)), .int (nI (stG (mnt q))), .int (nI (stS (mnt q))), .int (stM (mnt q)), .ref b5, .ref ta])), (b5, .inl (cQ, R5.length, .inr (.inr (.inr (.inr (qf (ad R5))))))), (ta, .inl (cQ, T5.length, .inr (.inr (.inr (.inr (qf (ad T5)))))))] ++ ((sT cI (R5.map bq) (T5.map tq)) ++ ((xA cI x a b f5 (itS q 1)) ++ ((xB cI b g6 (itS q 1)) ++ [])))) H := hP
                                          have hD : va_D A ([(pt, .inl (cI, (stT q).length, .inl fp)), (zt, .inl (cZ, (stT q).length, .inl fz)), (ut, .inl (cI, (stT q).length, .inl fu)), (s, .inr (4, [.int (nI (stI (mnt q))), .int (nI (stN (mnt q))), .int (stO (mnt q)), .int (stV (mnt q)), .int (nI (stG (mnt q))), .int (nI (stS (mnt q))), .int (stM (mnt q)), .ref b5, .ref ta])), (b5, .inl (cQ, R5.length, .inr (.inr (.inr (.inr (qf (ad R5))))))), (ta, .inl (cQ, T5.length, .inr (.inr (.inr (.inr (qf (ad T5)))))))] ++ ((sT cI (R5.map bq) (T5.map tq)) ++ ((xA cI x a b f5 (itS q 1)) ++ ((xB cI b g6 (itS q 1)) ++ [])))) := hD
                                          refine W.eq (g2 := F0 m 1170 ls [.int r_29]) rfl ?_
                                          refine W.widen (k := c0 + 25) (n := s0 + 246) (Nat.le_refl _) (Nat.le_refl _) ?_
                                          refine k_top (v := nI 0) (hr_1167.trans (if_neg hP1)) ?_
                                          refine lv_iload hx hb dL_law_1170 (lv_at hl 0 rfl) ?_
                                          refine k_if_le (tgt := 1179) hx hb (hrP (ns (mB2 q)) (tkP ((stT q).getD i tk0))) rfl (by omega) dL_law_1172 (by decide) (fun c_1172 => ?_) (fun c_1172 => ?_)
                                          · skip
                                            refine lv_iconst (v := nI 0) hx hb dL_law_1179 (by decide +kernel) ?_
                                            refine k_cmp_ne (tgt := 1254) hx hb 0 0 rfl rfl (by omega) (by omega) dL_law_1180 (by decide) (fun c_1180 => ?_) (fun c_1180 => ?_)
                                            · exact absurd c_1180 (by omega)
                                            · skip
                                              refine lv_aload hx hb dL_law_1183 (lv_at hl 10 rfl) ?_
                                              refine lv_iload hx hb dL_law_1185 (lv_at hl 14 rfl) ?_
                                              refine k_zald hx hb hK hP 1 2 rfl rfl i rfl (by omega) (by omega) dL_law_1187 ?_
                                              refine k_top (v := nI 1) ((hfz i c_1095).trans (if_pos hx9)) ?_
                                              refine k_if_eq (tgt := 1222) hx hb 1 rfl (by omega) dL_law_1188 (by decide) (fun c_1188 => ?_) (fun c_1188 => ?_)
                                              · exact absurd c_1188 (by omega)
                                              · skip
                                                refine lv_aload_n hx hb dL_law_1191 rfl (lv_at hl 2 rfl) ?_
                                                refine lv_iload hx hb dL_law_1192 (lv_at hl 14 rfl) ?_
                                                refine kz_callX (As := [.int (nI i)]) (rest := []) F (c_ZX3_isPresent l D cI x a b f5 (itS q 1) i hr_937.2 hi1) gL_law_X3_isPresent rfl (nA := 1) (by decide +kernel) rfl ⟨Nat.le_of_ble_eq_true rfl, Nat.le_of_ble_eq_true rfl⟩ hK hP hD hS hA hG (ci := 3) (q0 := 0) rfl rfl rfl zp_pn [0] rfl rfl hl.1 (Nat.le_of_ble_eq_true rfl) dL_law_1194 ⟨(show c0 + 25 + 0 ≤ 908051 by omega), (show s0 + 246 + 0 ≤ 6377315 by omega)⟩ (fun r_30 u H locs hr_1194 hP hD hS => ?_)
                                                try dsimp only at hr_1194
                                                have hP := z_PS z_pnb hP
                                                have hD := z_DS z_pnb hD
                                                have hP : va_P D vwCl ([(pt, .inl (cI, (stT q).length, .inl fp)), (zt, .inl (cZ, (stT q).length, .inl fz)), (ut, .inl (cI, (stT q).length, .inl fu)), (s, .inr (4, [.int (nI (stI (mnt q))), .int (nI (stN (mnt q))), .int (stO (mnt q)), .int (stV (mnt q)), .int (nI (stG (mnt q))), .int (nI (stS (mnt q))), .int (stM (mnt q)), .ref b5, .ref ta])), (b5, .inl (cQ, R5.length, .inr (.inr (.inr (.inr (qf (ad R5))))))), (ta, .inl (cQ, T5.length, .inr (.inr (.inr (.inr (qf (ad T5)))))))] ++ ((sT cI (R5.map bq) (T5.map tq)) ++ ((xA cI x a b f5 (itS q 1)) ++ ((xB cI b g6 (itS q 1)) ++ [])))) H := hP
                                                have hD : va_D A ([(pt, .inl (cI, (stT q).length, .inl fp)), (zt, .inl (cZ, (stT q).length, .inl fz)), (ut, .inl (cI, (stT q).length, .inl fu)), (s, .inr (4, [.int (nI (stI (mnt q))), .int (nI (stN (mnt q))), .int (stO (mnt q)), .int (stV (mnt q)), .int (nI (stG (mnt q))), .int (nI (stS (mnt q))), .int (stM (mnt q)), .ref b5, .ref ta])), (b5, .inl (cQ, R5.length, .inr (.inr (.inr (.inr (qf (ad R5))))))), (ta, .inl (cQ, T5.length, .inr (.inr (.inr (.inr (qf (ad T5)))))))] ++ ((sT cI (R5.map bq) (T5.map tq)) ++ ((xA cI x a b f5 (itS q 1)) ++ ((xB cI b g6 (itS q 1)) ++ [])))) := hD
                                                refine W.eq (g2 := F0 m 1197 ls [.int r_30]) rfl ?_
                                                refine W.widen (k := c0 + 25) (n := s0 + 246) (Nat.le_refl _) (Nat.le_refl _) ?_
                                                refine k_top (v := nI 0) (hr_1194.trans (if_neg hP1)) ?_
                                                refine k_if_ne (tgt := 1204) hx hb 0 rfl (by omega) dL_law_1197 (by decide) (fun c_1197 => ?_) (fun c_1197 => ?_)
                                                · exact absurd c_1197 (by omega)
                                                · skip
                                                  refine lv_iconst (v := nI 1) hx hb dL_law_1200 (by decide +kernel) ?_
                                                  refine lv_goto (tgt := 1205) hx hb dL_law_1201 (by decide) ?_
                                                  refine lv_aload hx hb dL_law_1205 (lv_at hl 11 rfl) ?_
                                                  refine lv_iload hx hb dL_law_1207 (lv_at hl 14 rfl) ?_
                                                  refine k_iald hx hb hK hP 2 0 rfl rfl i (rfl) (by omega) (by omega) dL_law_1209 ?_
                                                  refine k_top (v := nI 1) (fst_one (hfu i c_1095) (fun h => h hx9) hP1) ?_
                                                  refine lv_iconst (v := nI 1) hx hb dL_law_1210 (by decide +kernel) ?_
                                                  refine k_cmp_ne (tgt := 1218) hx hb 1 1 rfl rfl (by omega) (by omega) dL_law_1211 (by decide) (fun c_1211 => ?_) (fun c_1211 => ?_)
                                                  · exact absurd c_1211 (by omega)
                                                  · skip
                                                    refine lv_iconst (v := nI 1) hx hb dL_law_1214 (by decide +kernel) ?_
                                                    refine lv_goto (tgt := 1219) hx hb dL_law_1215 (by decide) ?_
                                                    refine k_cmp_ne (tgt := 1254) hx hb 1 1 rfl rfl (by omega) (by omega) dL_law_1219 (by decide) (fun c_1219 => ?_) (fun c_1219 => ?_)
                                                    · exact absurd c_1219 (by omega)
                                                    · skip
                                                      refine lv_aload hx hb dL_law_1222 (lv_at hl 10 rfl) ?_
                                                      refine lv_iload hx hb dL_law_1224 (lv_at hl 14 rfl) ?_
                                                      refine k_zald hx hb hK hP 1 2 rfl rfl i rfl (by omega) (by omega) dL_law_1226 ?_
                                                      refine k_top (v := nI 1) ((hfz i c_1095).trans (if_pos hx9)) ?_
                                                      refine k_if_eq (tgt := 1256) hx hb 1 rfl (by omega) dL_law_1227 (by decide) (fun c_1227 => ?_) (fun c_1227 => ?_)
                                                      · exact absurd c_1227 (by omega)
                                                      · skip
                                                        refine lv_aload_n hx hb dL_law_1230 rfl (lv_at hl 2 rfl) ?_
                                                        refine lv_iload hx hb dL_law_1231 (lv_at hl 14 rfl) ?_
                                                        refine kz_callX (As := [.int (nI i)]) (rest := []) F (c_ZX3_isPresent l D cI x a b f5 (itS q 1) i hr_937.2 hi1) gL_law_X3_isPresent rfl (nA := 1) (by decide +kernel) rfl ⟨Nat.le_of_ble_eq_true rfl, Nat.le_of_ble_eq_true rfl⟩ hK hP hD hS hA hG (ci := 3) (q0 := 0) rfl rfl rfl zp_pn [0] rfl rfl hl.1 (Nat.le_of_ble_eq_true rfl) dL_law_1233 ⟨(show c0 + 25 + 0 ≤ 908051 by omega), (show s0 + 246 + 0 ≤ 6377315 by omega)⟩ (fun r_31 u H locs hr_1233 hP hD hS => ?_)
                                                        try dsimp only at hr_1233
                                                        have hP := z_PS z_pnb hP
                                                        have hD := z_DS z_pnb hD
                                                        have hP : va_P D vwCl ([(pt, .inl (cI, (stT q).length, .inl fp)), (zt, .inl (cZ, (stT q).length, .inl fz)), (ut, .inl (cI, (stT q).length, .inl fu)), (s, .inr (4, [.int (nI (stI (mnt q))), .int (nI (stN (mnt q))), .int (stO (mnt q)), .int (stV (mnt q)), .int (nI (stG (mnt q))), .int (nI (stS (mnt q))), .int (stM (mnt q)), .ref b5, .ref ta])), (b5, .inl (cQ, R5.length, .inr (.inr (.inr (.inr (qf (ad R5))))))), (ta, .inl (cQ, T5.length, .inr (.inr (.inr (.inr (qf (ad T5)))))))] ++ ((sT cI (R5.map bq) (T5.map tq)) ++ ((xA cI x a b f5 (itS q 1)) ++ ((xB cI b g6 (itS q 1)) ++ [])))) H := hP
                                                        have hD : va_D A ([(pt, .inl (cI, (stT q).length, .inl fp)), (zt, .inl (cZ, (stT q).length, .inl fz)), (ut, .inl (cI, (stT q).length, .inl fu)), (s, .inr (4, [.int (nI (stI (mnt q))), .int (nI (stN (mnt q))), .int (stO (mnt q)), .int (stV (mnt q)), .int (nI (stG (mnt q))), .int (nI (stS (mnt q))), .int (stM (mnt q)), .ref b5, .ref ta])), (b5, .inl (cQ, R5.length, .inr (.inr (.inr (.inr (qf (ad R5))))))), (ta, .inl (cQ, T5.length, .inr (.inr (.inr (.inr (qf (ad T5)))))))] ++ ((sT cI (R5.map bq) (T5.map tq)) ++ ((xA cI x a b f5 (itS q 1)) ++ ((xB cI b g6 (itS q 1)) ++ [])))) := hD
                                                        refine W.eq (g2 := F0 m 1236 ls [.int r_31]) rfl ?_
                                                        refine W.widen (k := c0 + 25) (n := s0 + 246) (Nat.le_refl _) (Nat.le_refl _) ?_
                                                        refine k_top (v := nI 0) (hr_1233.trans (if_neg hP1)) ?_
                                                        refine k_if_ne (tgt := 1256) hx hb 0 rfl (by omega) dL_law_1236 (by decide) (fun c_1236 => ?_) (fun c_1236 => ?_)
                                                        · exact absurd c_1236 (by omega)
                                                        · skip
                                                          refine lv_aload_n hx hb dL_law_1239 rfl (lv_at hl 2 rfl) ?_
                                                          refine lv_iload hx hb dL_law_1240 (lv_at hl 14 rfl) ?_
                                                          refine kz_callX (As := [.int (nI i)]) (rest := []) F (c_ZX3_exitOf l D cI x a b f5 (itS q 1) i hr_937.2 hi1) gL_law_X3_exitOf rfl (nA := 1) (by decide +kernel) rfl ⟨Nat.le_of_ble_eq_true rfl, Nat.le_of_ble_eq_true rfl⟩ hK hP hD hS hA hG (ci := 3) (q0 := 0) rfl rfl rfl zp_pn [0] rfl rfl hl.1 (Nat.le_of_ble_eq_true rfl) dL_law_1242 ⟨(show c0 + 25 + 0 ≤ 908051 by omega), (show s0 + 246 + 0 ≤ 6377315 by omega)⟩ (fun r_32 u H locs hr_1242 hP hD hS => ?_)
                                                          try dsimp only at hr_1242
                                                          have hP := z_PS z_pnb hP
                                                          have hD := z_DS z_pnb hD
                                                          have hP : va_P D vwCl ([(pt, .inl (cI, (stT q).length, .inl fp)), (zt, .inl (cZ, (stT q).length, .inl fz)), (ut, .inl (cI, (stT q).length, .inl fu)), (s, .inr (4, [.int (nI (stI (mnt q))), .int (nI (stN (mnt q))), .int (stO (mnt q)), .int (stV (mnt q)), .int (nI (stG (mnt q))), .int (nI (stS (mnt q))), .int (stM (mnt q)), .ref b5, .ref ta])), (b5, .inl (cQ, R5.length, .inr (.inr (.inr (.inr (qf (ad R5))))))), (ta, .inl (cQ, T5.length, .inr (.inr (.inr (.inr (qf (ad T5)))))))] ++ ((sT cI (R5.map bq) (T5.map tq)) ++ ((xA cI x a b f5 (itS q 1)) ++ ((xB cI b g6 (itS q 1)) ++ [])))) H := hP
                                                          have hD : va_D A ([(pt, .inl (cI, (stT q).length, .inl fp)), (zt, .inl (cZ, (stT q).length, .inl fz)), (ut, .inl (cI, (stT q).length, .inl fu)), (s, .inr (4, [.int (nI (stI (mnt q))), .int (nI (stN (mnt q))), .int (stO (mnt q)), .int (stV (mnt q)), .int (nI (stG (mnt q))), .int (nI (stS (mnt q))), .int (stM (mnt q)), .ref b5, .ref ta])), (b5, .inl (cQ, R5.length, .inr (.inr (.inr (.inr (qf (ad R5))))))), (ta, .inl (cQ, T5.length, .inr (.inr (.inr (.inr (qf (ad T5)))))))] ++ ((sT cI (R5.map bq) (T5.map tq)) ++ ((xA cI x a b f5 (itS q 1)) ++ ((xB cI b g6 (itS q 1)) ++ [])))) := hD
                                                          refine W.eq (g2 := F0 m 1245 ls [.int r_32]) rfl ?_
                                                          refine W.widen (k := c0 + 25) (n := s0 + 246) (Nat.le_refl _) (Nat.le_refl _) ?_
                                                          refine k_top (v := nI (stI q)) (hr_1242.trans hg1) ?_
                                                          refine lv_aload_n hx hb dL_law_1245 rfl (lv_at hl 2 rfl) ?_
                                                          refine kz_callX (As := []) (rest := [.int (nI (stI q))]) F (c_ZX3_minute l D cI x a b f5 (itS q 1) ) gL_law_X3_minute rfl (nA := 0) (by decide +kernel) rfl ⟨Nat.le_of_ble_eq_true rfl, Nat.le_of_ble_eq_true rfl⟩ hK hP hD hS hA hG (ci := 3) (q0 := 0) rfl rfl rfl zp_pn [0] rfl rfl hl.1 (Nat.le_of_ble_eq_true rfl) dL_law_1246 ⟨(show c0 + 25 + 0 ≤ 908051 by omega), (show s0 + 246 + 0 ≤ 6377315 by omega)⟩ (fun r_33 u H locs hr_1246 hP hD hS => ?_)
                                                          try dsimp only at hr_1246
                                                          have hP := z_PS z_pnb hP
                                                          have hD := z_DS z_pnb hD
                                                          have hP : va_P D vwCl ([(pt, .inl (cI, (stT q).length, .inl fp)), (zt, .inl (cZ, (stT q).length, .inl fz)), (ut, .inl (cI, (stT q).length, .inl fu)), (s, .inr (4, [.int (nI (stI (mnt q))), .int (nI (stN (mnt q))), .int (stO (mnt q)), .int (stV (mnt q)), .int (nI (stG (mnt q))), .int (nI (stS (mnt q))), .int (stM (mnt q)), .ref b5, .ref ta])), (b5, .inl (cQ, R5.length, .inr (.inr (.inr (.inr (qf (ad R5))))))), (ta, .inl (cQ, T5.length, .inr (.inr (.inr (.inr (qf (ad T5)))))))] ++ ((sT cI (R5.map bq) (T5.map tq)) ++ ((xA cI x a b f5 (itS q 1)) ++ ((xB cI b g6 (itS q 1)) ++ [])))) H := hP
                                                          have hD : va_D A ([(pt, .inl (cI, (stT q).length, .inl fp)), (zt, .inl (cZ, (stT q).length, .inl fz)), (ut, .inl (cI, (stT q).length, .inl fu)), (s, .inr (4, [.int (nI (stI (mnt q))), .int (nI (stN (mnt q))), .int (stO (mnt q)), .int (stV (mnt q)), .int (nI (stG (mnt q))), .int (nI (stS (mnt q))), .int (stM (mnt q)), .ref b5, .ref ta])), (b5, .inl (cQ, R5.length, .inr (.inr (.inr (.inr (qf (ad R5))))))), (ta, .inl (cQ, T5.length, .inr (.inr (.inr (.inr (qf (ad T5)))))))] ++ ((sT cI (R5.map bq) (T5.map tq)) ++ ((xA cI x a b f5 (itS q 1)) ++ ((xB cI b g6 (itS q 1)) ++ [])))) := hD
                                                          refine W.eq (g2 := F0 m 1249 ls [.int r_33, .int (nI (stI q))]) rfl ?_
                                                          refine W.widen (k := c0 + 25) (n := s0 + 246) (Nat.le_refl _) (Nat.le_refl _) ?_
                                                          refine k_top (v := nI (stI q + 1)) (hr_1246) ?_
                                                          refine lv_iconst (v := nI 1) hx hb dL_law_1249 (by decide +kernel) ?_
                                                          refine k_isub hx hb (nI (stI q)) (k_subN _ _) dL_law_1250 ?_
                                                          refine k_cmp_eq (tgt := 1256) hx hb (stI q) (stI q) rfl rfl (by omega) (by omega) dL_law_1251 (by decide) (fun c_1251 => ?_) (fun c_1251 => ?_)
                                                          · skip
                                                            refine lv_iinc (v := nI (i + 1)) (lv' := [(29, .int (nI (i + 1))), (30, .int (nI (hrP (ns (mB2 q)) (tkP ((stT q).getD i tk0))))), (0, .ref sc), (1, .ref x), (2, .ref s), (3, .int (nI t)), (7, .int (nI ((stB q).length))), (10, .int (nI M)), (12, .int (nI ((stT q).length))), (13, .int (nI (ctT (stT q)))), (16, .ref pt), (17, .ref zt), (18, .ref ut), (25, .int (nI (ctT (stT q) - ctT (stT (itS q 1))))), (28, .int (nI (ns (mB2 q))))]) hx hb dL_law_1256 hl (k := 14) rfl (nI_1 _) (by decide) rfl (fun ls hl => ?_)
                                                            refine lv_goto (tgt := 1091) hx hb dL_law_1259 (by decide) ?_
                                                            exact ih (i + 1) (by omega) (by omega) _ _ (z_subP hP [0, 1, 2, 3, 4, 5] (rfl)) (z_subD hD [0, 1, 2, 3, 4, 5] (by decide) (rfl)) hS _ (lv_sub hl [2, 3, 4, 5, 6, 7, 8, 9, 10, 11, 12, 13, 14, 0] (rfl))
                                                          · skip
                                                            exact absurd rfl c_1251
                                          · skip
                                            exact absurd c_1172 (by omega)
                                      · skip
                                        have hP1 : tkX ((stT (itS q 1)).getD i tk0) = -1 := lw_stay c_1095 hx9 hz0
                                        refine lv_aload_n hx hb dL_law_1153 rfl (lv_at hl 2 rfl) ?_
                                        refine lv_iload hx hb dL_law_1154 (lv_at hl 14 rfl) ?_
                                        refine kz_callX (As := [.int (nI i)]) (rest := []) F (c_ZX3_patienceOf l D cI x a b f5 (itS q 1) i hr_937.2 hi1) gL_law_X3_patienceOf rfl (nA := 1) (by decide +kernel) rfl ⟨Nat.le_of_ble_eq_true rfl, Nat.le_of_ble_eq_true rfl⟩ hK hP hD hS hA hG (ci := 3) (q0 := 0) rfl rfl rfl zp_pn [0] rfl rfl hl.1 (Nat.le_of_ble_eq_true rfl) dL_law_1156 ⟨(show c0 + 25 + 0 ≤ 908051 by omega), (show s0 + 246 + 0 ≤ 6377315 by omega)⟩ (fun r_34 u H locs hr_1156 hP hD hS => ?_)
                                        try dsimp only at hr_1156
                                        have hP := z_PS z_pnb hP
                                        have hD := z_DS z_pnb hD
                                        have hP : va_P D vwCl ([(pt, .inl (cI, (stT q).length, .inl fp)), (zt, .inl (cZ, (stT q).length, .inl fz)), (ut, .inl (cI, (stT q).length, .inl fu)), (s, .inr (4, [.int (nI (stI (mnt q))), .int (nI (stN (mnt q))), .int (stO (mnt q)), .int (stV (mnt q)), .int (nI (stG (mnt q))), .int (nI (stS (mnt q))), .int (stM (mnt q)), .ref b5, .ref ta])), (b5, .inl (cQ, R5.length, .inr (.inr (.inr (.inr (qf (ad R5))))))), (ta, .inl (cQ, T5.length, .inr (.inr (.inr (.inr (qf (ad T5)))))))] ++ ((sT cI (R5.map bq) (T5.map tq)) ++ ((xA cI x a b f5 (itS q 1)) ++ ((xB cI b g6 (itS q 1)) ++ [])))) H := hP
                                        have hD : va_D A ([(pt, .inl (cI, (stT q).length, .inl fp)), (zt, .inl (cZ, (stT q).length, .inl fz)), (ut, .inl (cI, (stT q).length, .inl fu)), (s, .inr (4, [.int (nI (stI (mnt q))), .int (nI (stN (mnt q))), .int (stO (mnt q)), .int (stV (mnt q)), .int (nI (stG (mnt q))), .int (nI (stS (mnt q))), .int (stM (mnt q)), .ref b5, .ref ta])), (b5, .inl (cQ, R5.length, .inr (.inr (.inr (.inr (qf (ad R5))))))), (ta, .inl (cQ, T5.length, .inr (.inr (.inr (.inr (qf (ad T5)))))))] ++ ((sT cI (R5.map bq) (T5.map tq)) ++ ((xA cI x a b f5 (itS q 1)) ++ ((xB cI b g6 (itS q 1)) ++ [])))) := hD
                                        refine W.eq (g2 := F0 m 1159 ls [.int r_34]) rfl ?_
                                        refine W.widen (k := c0 + 25) (n := s0 + 246) (Nat.le_refl _) (Nat.le_refl _) ?_
                                        refine k_top (v := nI (hrP (ns (mB2 q)) (tkP ((stT q).getD i tk0)))) (hr_1156.trans (by rw [lw_pat c_1095 hx9])) ?_
                                        refine lv_iload hx hb dL_law_1159 (lv_at hl 0 rfl) ?_
                                        refine k_cmp_ne (tgt := 1254) hx hb (hrP (ns (mB2 q)) (tkP ((stT q).getD i tk0))) (hrP (ns (mB2 q)) (tkP ((stT q).getD i tk0))) rfl rfl (by omega) (by omega) dL_law_1161 (by decide) (fun c_1161 => ?_) (fun c_1161 => ?_)
                                        · skip
                                          exact absurd rfl c_1161
                                        · skip
                                          refine lv_aload_n hx hb dL_law_1164 rfl (lv_at hl 2 rfl) ?_
                                          refine lv_iload hx hb dL_law_1165 (lv_at hl 14 rfl) ?_
                                          refine kz_callX (As := [.int (nI i)]) (rest := []) F (c_ZX3_isPresent l D cI x a b f5 (itS q 1) i hr_937.2 hi1) gL_law_X3_isPresent rfl (nA := 1) (by decide +kernel) rfl ⟨Nat.le_of_ble_eq_true rfl, Nat.le_of_ble_eq_true rfl⟩ hK hP hD hS hA hG (ci := 3) (q0 := 0) rfl rfl rfl zp_pn [0] rfl rfl hl.1 (Nat.le_of_ble_eq_true rfl) dL_law_1167 ⟨(show c0 + 25 + 0 ≤ 908051 by omega), (show s0 + 246 + 0 ≤ 6377315 by omega)⟩ (fun r_35 u H locs hr_1167 hP hD hS => ?_)
                                          try dsimp only at hr_1167
                                          have hP := z_PS z_pnb hP
                                          have hD := z_DS z_pnb hD
                                          have hP : va_P D vwCl ([(pt, .inl (cI, (stT q).length, .inl fp)), (zt, .inl (cZ, (stT q).length, .inl fz)), (ut, .inl (cI, (stT q).length, .inl fu)), (s, .inr (4, [.int (nI (stI (mnt q))), .int (nI (stN (mnt q))), .int (stO (mnt q)), .int (stV (mnt q)), .int (nI (stG (mnt q))), .int (nI (stS (mnt q))), .int (stM (mnt q)), .ref b5, .ref ta])), (b5, .inl (cQ, R5.length, .inr (.inr (.inr (.inr (qf (ad R5))))))), (ta, .inl (cQ, T5.length, .inr (.inr (.inr (.inr (qf (ad T5)))))))] ++ ((sT cI (R5.map bq) (T5.map tq)) ++ ((xA cI x a b f5 (itS q 1)) ++ ((xB cI b g6 (itS q 1)) ++ [])))) H := hP
                                          have hD : va_D A ([(pt, .inl (cI, (stT q).length, .inl fp)), (zt, .inl (cZ, (stT q).length, .inl fz)), (ut, .inl (cI, (stT q).length, .inl fu)), (s, .inr (4, [.int (nI (stI (mnt q))), .int (nI (stN (mnt q))), .int (stO (mnt q)), .int (stV (mnt q)), .int (nI (stG (mnt q))), .int (nI (stS (mnt q))), .int (stM (mnt q)), .ref b5, .ref ta])), (b5, .inl (cQ, R5.length, .inr (.inr (.inr (.inr (qf (ad R5))))))), (ta, .inl (cQ, T5.length, .inr (.inr (.inr (.inr (qf (ad T5)))))))] ++ ((sT cI (R5.map bq) (T5.map tq)) ++ ((xA cI x a b f5 (itS q 1)) ++ ((xB cI b g6 (itS q 1)) ++ [])))) := hD
                                          refine W.eq (g2 := F0 m 1170 ls [.int r_35]) rfl ?_
                                          refine W.widen (k := c0 + 25) (n := s0 + 246) (Nat.le_refl _) (Nat.le_refl _) ?_
                                          refine k_top (v := nI 1) (hr_1167.trans (if_pos hP1)) ?_
                                          refine lv_iload hx hb dL_law_1170 (lv_at hl 0 rfl) ?_
                                          refine k_if_le (tgt := 1179) hx hb (hrP (ns (mB2 q)) (tkP ((stT q).getD i tk0))) rfl (by omega) dL_law_1172 (by decide) (fun c_1172 => ?_) (fun c_1172 => ?_)
                                          · skip
                                            exact absurd c_1172 (by omega)
                                          · skip
                                            refine lv_iconst (v := nI 1) hx hb dL_law_1175 (by decide +kernel) ?_
                                            refine lv_goto (tgt := 1180) hx hb dL_law_1176 (by decide) ?_
                                            refine k_cmp_ne (tgt := 1254) hx hb 1 1 rfl rfl (by omega) (by omega) dL_law_1180 (by decide) (fun c_1180 => ?_) (fun c_1180 => ?_)
                                            · exact absurd c_1180 (by omega)
                                            · skip
                                              refine lv_aload hx hb dL_law_1183 (lv_at hl 10 rfl) ?_
                                              refine lv_iload hx hb dL_law_1185 (lv_at hl 14 rfl) ?_
                                              refine k_zald hx hb hK hP 1 2 rfl rfl i rfl (by omega) (by omega) dL_law_1187 ?_
                                              refine k_top (v := nI 1) ((hfz i c_1095).trans (if_pos hx9)) ?_
                                              refine k_if_eq (tgt := 1222) hx hb 1 rfl (by omega) dL_law_1188 (by decide) (fun c_1188 => ?_) (fun c_1188 => ?_)
                                              · exact absurd c_1188 (by omega)
                                              · skip
                                                refine lv_aload_n hx hb dL_law_1191 rfl (lv_at hl 2 rfl) ?_
                                                refine lv_iload hx hb dL_law_1192 (lv_at hl 14 rfl) ?_
                                                refine kz_callX (As := [.int (nI i)]) (rest := []) F (c_ZX3_isPresent l D cI x a b f5 (itS q 1) i hr_937.2 hi1) gL_law_X3_isPresent rfl (nA := 1) (by decide +kernel) rfl ⟨Nat.le_of_ble_eq_true rfl, Nat.le_of_ble_eq_true rfl⟩ hK hP hD hS hA hG (ci := 3) (q0 := 0) rfl rfl rfl zp_pn [0] rfl rfl hl.1 (Nat.le_of_ble_eq_true rfl) dL_law_1194 ⟨(show c0 + 25 + 0 ≤ 908051 by omega), (show s0 + 246 + 0 ≤ 6377315 by omega)⟩ (fun r_36 u H locs hr_1194 hP hD hS => ?_)
                                                try dsimp only at hr_1194
                                                have hP := z_PS z_pnb hP
                                                have hD := z_DS z_pnb hD
                                                have hP : va_P D vwCl ([(pt, .inl (cI, (stT q).length, .inl fp)), (zt, .inl (cZ, (stT q).length, .inl fz)), (ut, .inl (cI, (stT q).length, .inl fu)), (s, .inr (4, [.int (nI (stI (mnt q))), .int (nI (stN (mnt q))), .int (stO (mnt q)), .int (stV (mnt q)), .int (nI (stG (mnt q))), .int (nI (stS (mnt q))), .int (stM (mnt q)), .ref b5, .ref ta])), (b5, .inl (cQ, R5.length, .inr (.inr (.inr (.inr (qf (ad R5))))))), (ta, .inl (cQ, T5.length, .inr (.inr (.inr (.inr (qf (ad T5)))))))] ++ ((sT cI (R5.map bq) (T5.map tq)) ++ ((xA cI x a b f5 (itS q 1)) ++ ((xB cI b g6 (itS q 1)) ++ [])))) H := hP
                                                have hD : va_D A ([(pt, .inl (cI, (stT q).length, .inl fp)), (zt, .inl (cZ, (stT q).length, .inl fz)), (ut, .inl (cI, (stT q).length, .inl fu)), (s, .inr (4, [.int (nI (stI (mnt q))), .int (nI (stN (mnt q))), .int (stO (mnt q)), .int (stV (mnt q)), .int (nI (stG (mnt q))), .int (nI (stS (mnt q))), .int (stM (mnt q)), .ref b5, .ref ta])), (b5, .inl (cQ, R5.length, .inr (.inr (.inr (.inr (qf (ad R5))))))), (ta, .inl (cQ, T5.length, .inr (.inr (.inr (.inr (qf (ad T5)))))))] ++ ((sT cI (R5.map bq) (T5.map tq)) ++ ((xA cI x a b f5 (itS q 1)) ++ ((xB cI b g6 (itS q 1)) ++ [])))) := hD
                                                refine W.eq (g2 := F0 m 1197 ls [.int r_36]) rfl ?_
                                                refine W.widen (k := c0 + 25) (n := s0 + 246) (Nat.le_refl _) (Nat.le_refl _) ?_
                                                refine k_top (v := nI 1) (hr_1194.trans (if_pos hP1)) ?_
                                                refine k_if_ne (tgt := 1204) hx hb 1 rfl (by omega) dL_law_1197 (by decide) (fun c_1197 => ?_) (fun c_1197 => ?_)
                                                · skip
                                                  refine lv_iconst (v := nI 0) hx hb dL_law_1204 (by decide +kernel) ?_
                                                  refine lv_aload hx hb dL_law_1205 (lv_at hl 11 rfl) ?_
                                                  refine lv_iload hx hb dL_law_1207 (lv_at hl 14 rfl) ?_
                                                  refine k_iald hx hb hK hP 2 0 rfl rfl i (rfl) (by omega) (by omega) dL_law_1209 ?_
                                                  refine lv_iconst (v := nI 1) hx hb dL_law_1210 (by decide +kernel) ?_
                                                  refine lv_icmp_ne (tgt := 1218) hx hb dL_law_1211 (by decide) (fun c_1211 => ?_) (fun c_1211 => ?_)
                                                  · skip
                                                    refine lv_iconst (v := nI 0) hx hb dL_law_1218 (by decide +kernel) ?_
                                                    refine k_cmp_ne (tgt := 1254) hx hb 0 0 rfl rfl (by omega) (by omega) dL_law_1219 (by decide) (fun c_1219 => ?_) (fun c_1219 => ?_)
                                                    · exact absurd c_1219 (by omega)
                                                    · skip
                                                      refine lv_aload hx hb dL_law_1222 (lv_at hl 10 rfl) ?_
                                                      refine lv_iload hx hb dL_law_1224 (lv_at hl 14 rfl) ?_
                                                      refine k_zald hx hb hK hP 1 2 rfl rfl i rfl (by omega) (by omega) dL_law_1226 ?_
                                                      refine k_top (v := nI 1) ((hfz i c_1095).trans (if_pos hx9)) ?_
                                                      refine k_if_eq (tgt := 1256) hx hb 1 rfl (by omega) dL_law_1227 (by decide) (fun c_1227 => ?_) (fun c_1227 => ?_)
                                                      · exact absurd c_1227 (by omega)
                                                      · skip
                                                        refine lv_aload_n hx hb dL_law_1230 rfl (lv_at hl 2 rfl) ?_
                                                        refine lv_iload hx hb dL_law_1231 (lv_at hl 14 rfl) ?_
                                                        refine kz_callX (As := [.int (nI i)]) (rest := []) F (c_ZX3_isPresent l D cI x a b f5 (itS q 1) i hr_937.2 hi1) gL_law_X3_isPresent rfl (nA := 1) (by decide +kernel) rfl ⟨Nat.le_of_ble_eq_true rfl, Nat.le_of_ble_eq_true rfl⟩ hK hP hD hS hA hG (ci := 3) (q0 := 0) rfl rfl rfl zp_pn [0] rfl rfl hl.1 (Nat.le_of_ble_eq_true rfl) dL_law_1233 ⟨(show c0 + 25 + 0 ≤ 908051 by omega), (show s0 + 246 + 0 ≤ 6377315 by omega)⟩ (fun r_37 u H locs hr_1233 hP hD hS => ?_)
                                                        try dsimp only at hr_1233
                                                        have hP := z_PS z_pnb hP
                                                        have hD := z_DS z_pnb hD
                                                        have hP : va_P D vwCl ([(pt, .inl (cI, (stT q).length, .inl fp)), (zt, .inl (cZ, (stT q).length, .inl fz)), (ut, .inl (cI, (stT q).length, .inl fu)), (s, .inr (4, [.int (nI (stI (mnt q))), .int (nI (stN (mnt q))), .int (stO (mnt q)), .int (stV (mnt q)), .int (nI (stG (mnt q))), .int (nI (stS (mnt q))), .int (stM (mnt q)), .ref b5, .ref ta])), (b5, .inl (cQ, R5.length, .inr (.inr (.inr (.inr (qf (ad R5))))))), (ta, .inl (cQ, T5.length, .inr (.inr (.inr (.inr (qf (ad T5)))))))] ++ ((sT cI (R5.map bq) (T5.map tq)) ++ ((xA cI x a b f5 (itS q 1)) ++ ((xB cI b g6 (itS q 1)) ++ [])))) H := hP
                                                        have hD : va_D A ([(pt, .inl (cI, (stT q).length, .inl fp)), (zt, .inl (cZ, (stT q).length, .inl fz)), (ut, .inl (cI, (stT q).length, .inl fu)), (s, .inr (4, [.int (nI (stI (mnt q))), .int (nI (stN (mnt q))), .int (stO (mnt q)), .int (stV (mnt q)), .int (nI (stG (mnt q))), .int (nI (stS (mnt q))), .int (stM (mnt q)), .ref b5, .ref ta])), (b5, .inl (cQ, R5.length, .inr (.inr (.inr (.inr (qf (ad R5))))))), (ta, .inl (cQ, T5.length, .inr (.inr (.inr (.inr (qf (ad T5)))))))] ++ ((sT cI (R5.map bq) (T5.map tq)) ++ ((xA cI x a b f5 (itS q 1)) ++ ((xB cI b g6 (itS q 1)) ++ [])))) := hD
                                                        refine W.eq (g2 := F0 m 1236 ls [.int r_37]) rfl ?_
                                                        refine W.widen (k := c0 + 25) (n := s0 + 246) (Nat.le_refl _) (Nat.le_refl _) ?_
                                                        refine k_top (v := nI 1) (hr_1233.trans (if_pos hP1)) ?_
                                                        refine k_if_ne (tgt := 1256) hx hb 1 rfl (by omega) dL_law_1236 (by decide) (fun c_1236 => ?_) (fun c_1236 => ?_)
                                                        · skip
                                                          refine lv_iinc (v := nI (i + 1)) (lv' := [(29, .int (nI (i + 1))), (30, .int (nI (hrP (ns (mB2 q)) (tkP ((stT q).getD i tk0))))), (0, .ref sc), (1, .ref x), (2, .ref s), (3, .int (nI t)), (7, .int (nI ((stB q).length))), (10, .int (nI M)), (12, .int (nI ((stT q).length))), (13, .int (nI (ctT (stT q)))), (16, .ref pt), (17, .ref zt), (18, .ref ut), (25, .int (nI (ctT (stT q) - ctT (stT (itS q 1))))), (28, .int (nI (ns (mB2 q))))]) hx hb dL_law_1256 hl (k := 14) rfl (nI_1 _) (by decide) rfl (fun ls hl => ?_)
                                                          refine lv_goto (tgt := 1091) hx hb dL_law_1259 (by decide) ?_
                                                          exact ih (i + 1) (by omega) (by omega) _ _ (z_subP hP [0, 1, 2, 3, 4, 5] (rfl)) (z_subD hD [0, 1, 2, 3, 4, 5] (by decide) (rfl)) hS _ (lv_sub hl [2, 3, 4, 5, 6, 7, 8, 9, 10, 11, 12, 13, 14, 0] (rfl))
                                                        · exact absurd c_1236 (by omega)
                                                  · skip
                                                    exact absurd c_1211 (fst_not (hfu i c_1095) (fun h => h hP1))
                                                · exact absurd c_1197 (by omega)
                                  · exact absurd c_1103 (by omega)
                                · skip
                                  have hx9 : ¬ tkX ((stT q).getD i tk0) = -1 := by rw [ex9]; exact nI_nm1 (by omega)
                                  have hp30 := (hO.2.2.1 i c_1095).2.2.2
                                  have eoff := lw_off c_1095 hx9
                                  refine lv_aload hx hb dL_law_1098 (lv_at hl 9 rfl) ?_
                                  refine lv_iload hx hb dL_law_1100 (lv_at hl 13 rfl) ?_
                                  refine k_zald hx hb hK hP 1 2 rfl rfl i rfl (by omega) (by omega) dL_law_1102 ?_
                                  refine k_top (v := nI 0) ((hfz i c_1095).trans (if_neg hx9)) ?_
                                  refine k_if_ne (tgt := 1114) hx hb 0 rfl (by omega) dL_law_1103 (by decide) (fun c_1103 => ?_) (fun c_1103 => ?_)
                                  · exact absurd c_1103 (by omega)
                                  · skip
                                    refine lv_aload hx hb dL_law_1106 (lv_at hl 8 rfl) ?_
                                    refine lv_iload hx hb dL_law_1108 (lv_at hl 13 rfl) ?_
                                    refine k_iald hx hb hK hP 0 0 rfl rfl i (rfl) (by omega) (by omega) dL_law_1110 ?_
                                    refine k_top (v := nI (tkP ((stT q).getD i tk0))) (hfp i c_1095) ?_
                                    refine lv_goto (tgt := 1151) hx hb dL_law_1111 (by decide) ?_
                                    refine lv_istore (lv' := [(30, .int (nI (tkP ((stT q).getD i tk0)))), (0, .ref sc), (1, .ref x), (2, .ref s), (3, .int (nI t)), (7, .int (nI ((stB q).length))), (10, .int (nI M)), (12, .int (nI ((stT q).length))), (13, .int (nI (ctT (stT q)))), (16, .ref pt), (17, .ref zt), (18, .ref ut), (25, .int (nI (ctT (stT q) - ctT (stT (itS q 1))))), (28, .int (nI (ns (mB2 q)))), (29, .int (nI i))]) hx hb dL_law_1151 hl (by decide) rfl (fun ls hl => ?_)
                                    skip
                                    · skip
                                      refine lv_aload_n hx hb dL_law_1153 rfl (lv_at hl 2 rfl) ?_
                                      refine lv_iload hx hb dL_law_1154 (lv_at hl 14 rfl) ?_
                                      refine kz_callX (As := [.int (nI i)]) (rest := []) F (c_ZX3_patienceOf l D cI x a b f5 (itS q 1) i hr_937.2 hi1) gL_law_X3_patienceOf rfl (nA := 1) (by decide +kernel) rfl ⟨Nat.le_of_ble_eq_true rfl, Nat.le_of_ble_eq_true rfl⟩ hK hP hD hS hA hG (ci := 3) (q0 := 0) rfl rfl rfl zp_pn [0] rfl rfl hl.1 (Nat.le_of_ble_eq_true rfl) dL_law_1156 ⟨(show c0 + 25 + 0 ≤ 908051 by omega), (show s0 + 246 + 0 ≤ 6377315 by omega)⟩ (fun r_38 u H locs hr_1156 hP hD hS => ?_)
                                      try dsimp only at hr_1156
                                      have hP := z_PS z_pnb hP
                                      have hD := z_DS z_pnb hD
                                      have hP : va_P D vwCl ([(pt, .inl (cI, (stT q).length, .inl fp)), (zt, .inl (cZ, (stT q).length, .inl fz)), (ut, .inl (cI, (stT q).length, .inl fu)), (s, .inr (4, [.int (nI (stI (mnt q))), .int (nI (stN (mnt q))), .int (stO (mnt q)), .int (stV (mnt q)), .int (nI (stG (mnt q))), .int (nI (stS (mnt q))), .int (stM (mnt q)), .ref b5, .ref ta])), (b5, .inl (cQ, R5.length, .inr (.inr (.inr (.inr (qf (ad R5))))))), (ta, .inl (cQ, T5.length, .inr (.inr (.inr (.inr (qf (ad T5)))))))] ++ ((sT cI (R5.map bq) (T5.map tq)) ++ ((xA cI x a b f5 (itS q 1)) ++ ((xB cI b g6 (itS q 1)) ++ [])))) H := hP
                                      have hD : va_D A ([(pt, .inl (cI, (stT q).length, .inl fp)), (zt, .inl (cZ, (stT q).length, .inl fz)), (ut, .inl (cI, (stT q).length, .inl fu)), (s, .inr (4, [.int (nI (stI (mnt q))), .int (nI (stN (mnt q))), .int (stO (mnt q)), .int (stV (mnt q)), .int (nI (stG (mnt q))), .int (nI (stS (mnt q))), .int (stM (mnt q)), .ref b5, .ref ta])), (b5, .inl (cQ, R5.length, .inr (.inr (.inr (.inr (qf (ad R5))))))), (ta, .inl (cQ, T5.length, .inr (.inr (.inr (.inr (qf (ad T5)))))))] ++ ((sT cI (R5.map bq) (T5.map tq)) ++ ((xA cI x a b f5 (itS q 1)) ++ ((xB cI b g6 (itS q 1)) ++ [])))) := hD
                                      refine W.eq (g2 := F0 m 1159 ls [.int r_38]) rfl ?_
                                      refine W.widen (k := c0 + 25) (n := s0 + 246) (Nat.le_refl _) (Nat.le_refl _) ?_
                                      refine k_top (v := nI (tkP ((stT q).getD i tk0))) (hr_1156.trans (by rw [eoff])) ?_
                                      refine lv_iload hx hb dL_law_1159 (lv_at hl 0 rfl) ?_
                                      refine k_cmp_ne (tgt := 1254) hx hb (tkP ((stT q).getD i tk0)) (tkP ((stT q).getD i tk0)) rfl rfl (by omega) (by omega) dL_law_1161 (by decide) (fun c_1161 => ?_) (fun c_1161 => ?_)
                                      · skip
                                        exact absurd rfl c_1161
                                      · skip
                                        refine lv_aload_n hx hb dL_law_1164 rfl (lv_at hl 2 rfl) ?_
                                        refine lv_iload hx hb dL_law_1165 (lv_at hl 14 rfl) ?_
                                        refine kz_callX (As := [.int (nI i)]) (rest := []) F (c_ZX3_isPresent l D cI x a b f5 (itS q 1) i hr_937.2 hi1) gL_law_X3_isPresent rfl (nA := 1) (by decide +kernel) rfl ⟨Nat.le_of_ble_eq_true rfl, Nat.le_of_ble_eq_true rfl⟩ hK hP hD hS hA hG (ci := 3) (q0 := 0) rfl rfl rfl zp_pn [0] rfl rfl hl.1 (Nat.le_of_ble_eq_true rfl) dL_law_1167 ⟨(show c0 + 25 + 0 ≤ 908051 by omega), (show s0 + 246 + 0 ≤ 6377315 by omega)⟩ (fun r_39 u H locs hr_1167 hP hD hS => ?_)
                                        try dsimp only at hr_1167
                                        have hP := z_PS z_pnb hP
                                        have hD := z_DS z_pnb hD
                                        have hP : va_P D vwCl ([(pt, .inl (cI, (stT q).length, .inl fp)), (zt, .inl (cZ, (stT q).length, .inl fz)), (ut, .inl (cI, (stT q).length, .inl fu)), (s, .inr (4, [.int (nI (stI (mnt q))), .int (nI (stN (mnt q))), .int (stO (mnt q)), .int (stV (mnt q)), .int (nI (stG (mnt q))), .int (nI (stS (mnt q))), .int (stM (mnt q)), .ref b5, .ref ta])), (b5, .inl (cQ, R5.length, .inr (.inr (.inr (.inr (qf (ad R5))))))), (ta, .inl (cQ, T5.length, .inr (.inr (.inr (.inr (qf (ad T5)))))))] ++ ((sT cI (R5.map bq) (T5.map tq)) ++ ((xA cI x a b f5 (itS q 1)) ++ ((xB cI b g6 (itS q 1)) ++ [])))) H := hP
                                        have hD : va_D A ([(pt, .inl (cI, (stT q).length, .inl fp)), (zt, .inl (cZ, (stT q).length, .inl fz)), (ut, .inl (cI, (stT q).length, .inl fu)), (s, .inr (4, [.int (nI (stI (mnt q))), .int (nI (stN (mnt q))), .int (stO (mnt q)), .int (stV (mnt q)), .int (nI (stG (mnt q))), .int (nI (stS (mnt q))), .int (stM (mnt q)), .ref b5, .ref ta])), (b5, .inl (cQ, R5.length, .inr (.inr (.inr (.inr (qf (ad R5))))))), (ta, .inl (cQ, T5.length, .inr (.inr (.inr (.inr (qf (ad T5)))))))] ++ ((sT cI (R5.map bq) (T5.map tq)) ++ ((xA cI x a b f5 (itS q 1)) ++ ((xB cI b g6 (itS q 1)) ++ [])))) := hD
                                        refine W.eq (g2 := F0 m 1170 ls [.int r_39]) rfl ?_
                                        refine W.widen (k := c0 + 25) (n := s0 + 246) (Nat.le_refl _) (Nat.le_refl _) ?_
                                        refine k_top (v := nI 0) (hr_1167.trans (by rw [eoff]; exact if_neg hx9)) ?_
                                        refine lv_iload hx hb dL_law_1170 (lv_at hl 0 rfl) ?_
                                        refine k_if_le (tgt := 1179) hx hb (tkP ((stT q).getD i tk0)) rfl (by omega) dL_law_1172 (by decide) (fun c_1172 => ?_) (fun c_1172 => ?_)
                                        · skip
                                          refine lv_iconst (v := nI 0) hx hb dL_law_1179 (by decide +kernel) ?_
                                          refine k_cmp_ne (tgt := 1254) hx hb 0 0 rfl rfl (by omega) (by omega) dL_law_1180 (by decide) (fun c_1180 => ?_) (fun c_1180 => ?_)
                                          · exact absurd c_1180 (by omega)
                                          · skip
                                            refine lv_aload hx hb dL_law_1183 (lv_at hl 10 rfl) ?_
                                            refine lv_iload hx hb dL_law_1185 (lv_at hl 14 rfl) ?_
                                            refine k_zald hx hb hK hP 1 2 rfl rfl i rfl (by omega) (by omega) dL_law_1187 ?_
                                            refine k_top (v := nI 0) ((hfz i c_1095).trans (if_neg hx9)) ?_
                                            refine k_if_eq (tgt := 1222) hx hb 0 rfl (by omega) dL_law_1188 (by decide) (fun c_1188 => ?_) (fun c_1188 => ?_)
                                            · skip
                                              refine lv_aload hx hb dL_law_1222 (lv_at hl 10 rfl) ?_
                                              refine lv_iload hx hb dL_law_1224 (lv_at hl 14 rfl) ?_
                                              refine k_zald hx hb hK hP 1 2 rfl rfl i rfl (by omega) (by omega) dL_law_1226 ?_
                                              refine k_top (v := nI 0) ((hfz i c_1095).trans (if_neg hx9)) ?_
                                              refine k_if_eq (tgt := 1256) hx hb 0 rfl (by omega) dL_law_1227 (by decide) (fun c_1227 => ?_) (fun c_1227 => ?_)
                                              · skip
                                                refine lv_iinc (v := nI (i + 1)) (lv' := [(29, .int (nI (i + 1))), (30, .int (nI (tkP ((stT q).getD i tk0)))), (0, .ref sc), (1, .ref x), (2, .ref s), (3, .int (nI t)), (7, .int (nI ((stB q).length))), (10, .int (nI M)), (12, .int (nI ((stT q).length))), (13, .int (nI (ctT (stT q)))), (16, .ref pt), (17, .ref zt), (18, .ref ut), (25, .int (nI (ctT (stT q) - ctT (stT (itS q 1))))), (28, .int (nI (ns (mB2 q))))]) hx hb dL_law_1256 hl (k := 14) rfl (nI_1 _) (by decide) rfl (fun ls hl => ?_)
                                                refine lv_goto (tgt := 1091) hx hb dL_law_1259 (by decide) ?_
                                                exact ih (i + 1) (by omega) (by omega) _ _ (z_subP hP [0, 1, 2, 3, 4, 5] (rfl)) (z_subD hD [0, 1, 2, 3, 4, 5] (by decide) (rfl)) hS _ (lv_sub hl [2, 3, 4, 5, 6, 7, 8, 9, 10, 11, 12, 13, 14, 0] (rfl))
                                              · exact absurd c_1227 (by omega)
                                            · exact absurd c_1188 (by omega)
                                        · skip
                                          exact absurd c_1172 (by omega)
                          exact loop_16 (((stT q).length) + 1) 0 (Nat.zero_le _) (by omega) _ _ (z_subP hP [0, 1, 2, 3, 4, 5] (rfl)) (z_subD hD [0, 1, 2, 3, 4, 5] (by decide) (rfl)) hS _ (lv_sub hl [1, 2, 3, 4, 5, 6, 7, 8, 9, 10, 11, 12, 14, 0] (rfl))
                        · skip
                          have hmx := mB2_mx hM.2 i c_1055
                          have hnsi := nsN_le (okB2 hO) i (by omega)
                          refine lv_iload hx hb dL_law_1058 (lv_at hl 13 rfl) ?_
                          refine lv_aload_n hx hb dL_law_1060 rfl (lv_at hl 1 rfl) ?_
                          refine lv_iload hx hb dL_law_1061 (lv_at hl 14 rfl) ?_
                          refine kz_callX (As := [.int (nI i)]) (rest := [.int (nI (nsN (mB2 q) i))]) F (c_ZX3_sizeAt l D cI x a b f5 (itS q 1) i hr_937.2 (by omega)) gL_law_X3_sizeAt rfl (nA := 1) (by decide +kernel) rfl ⟨Nat.le_of_ble_eq_true rfl, Nat.le_of_ble_eq_true rfl⟩ hK hP hD hS hA hG (ci := 3) (q0 := 0) rfl rfl rfl zp_pn [0] rfl rfl hl.1 (Nat.le_of_ble_eq_true rfl) dL_law_1063 ⟨(show c0 + 25 + 0 ≤ 908051 by omega), (show s0 + 246 + 0 ≤ 6377315 by omega)⟩ (fun r_40 u H locs hr_1063 hP hD hS => ?_)
                          try dsimp only at hr_1063
                          have hP := z_PS z_pnb hP
                          have hD := z_DS z_pnb hD
                          have hP : va_P D vwCl ([(pt, .inl (cI, (stT q).length, .inl fp)), (zt, .inl (cZ, (stT q).length, .inl fz)), (ut, .inl (cI, (stT q).length, .inl fu)), (s, .inr (4, [.int (nI (stI (mnt q))), .int (nI (stN (mnt q))), .int (stO (mnt q)), .int (stV (mnt q)), .int (nI (stG (mnt q))), .int (nI (stS (mnt q))), .int (stM (mnt q)), .ref b5, .ref ta])), (b5, .inl (cQ, R5.length, .inr (.inr (.inr (.inr (qf (ad R5))))))), (ta, .inl (cQ, T5.length, .inr (.inr (.inr (.inr (qf (ad T5)))))))] ++ ((sT cI (R5.map bq) (T5.map tq)) ++ ((xA cI x a b f5 (itS q 1)) ++ ((xB cI b g6 (itS q 1)) ++ [])))) H := hP
                          have hD : va_D A ([(pt, .inl (cI, (stT q).length, .inl fp)), (zt, .inl (cZ, (stT q).length, .inl fz)), (ut, .inl (cI, (stT q).length, .inl fu)), (s, .inr (4, [.int (nI (stI (mnt q))), .int (nI (stN (mnt q))), .int (stO (mnt q)), .int (stV (mnt q)), .int (nI (stG (mnt q))), .int (nI (stS (mnt q))), .int (stM (mnt q)), .ref b5, .ref ta])), (b5, .inl (cQ, R5.length, .inr (.inr (.inr (.inr (qf (ad R5))))))), (ta, .inl (cQ, T5.length, .inr (.inr (.inr (.inr (qf (ad T5)))))))] ++ ((sT cI (R5.map bq) (T5.map tq)) ++ ((xA cI x a b f5 (itS q 1)) ++ ((xB cI b g6 (itS q 1)) ++ [])))) := hD
                          refine W.eq (g2 := F0 m 1066 ls [.int r_40, .int (nI (nsN (mB2 q) i))]) rfl ?_
                          refine W.widen (k := c0 + 25) (n := s0 + 246) (Nat.le_refl _) (Nat.le_refl _) ?_
                          refine k_top (v := nI (((mB2 q).getD i tp0).2)) (hr_1063.trans (by rw [lw_pre c_1055])) ?_
                          refine k_iadd hx hb (nI (nsN (mB2 q) (i + 1))) (nI_add _ _) dL_law_1066 ?_
                          refine lv_istore (lv' := [(28, .int (nI (nsN (mB2 q) (i + 1)))), (0, .ref sc), (1, .ref x), (2, .ref s), (3, .int (nI t)), (7, .int (nI ((stB q).length))), (10, .int (nI M)), (12, .int (nI ((stT q).length))), (13, .int (nI (ctT (stT q)))), (16, .ref pt), (17, .ref zt), (18, .ref ut), (25, .int (nI (ctT (stT q) - ctT (stT (itS q 1))))), (27, .int (nI ((mB2 q).length))), (29, .int (nI i))]) hx hb dL_law_1067 hl (by decide) rfl (fun ls hl => ?_)
                          refine lv_aload_n hx hb dL_law_1069 rfl (lv_at hl 2 rfl) ?_
                          refine lv_iload hx hb dL_law_1070 (lv_at hl 14 rfl) ?_
                          refine kz_callX (As := [.int (nI i)]) (rest := []) F (c_ZX3_sizeAt l D cI x a b f5 (itS q 1) i hr_937.2 (by omega)) gL_law_X3_sizeAt rfl (nA := 1) (by decide +kernel) rfl ⟨Nat.le_of_ble_eq_true rfl, Nat.le_of_ble_eq_true rfl⟩ hK hP hD hS hA hG (ci := 3) (q0 := 0) rfl rfl rfl zp_pn [0] rfl rfl hl.1 (Nat.le_of_ble_eq_true rfl) dL_law_1072 ⟨(show c0 + 25 + 0 ≤ 908051 by omega), (show s0 + 246 + 0 ≤ 6377315 by omega)⟩ (fun r_41 u H locs hr_1072 hP hD hS => ?_)
                          try dsimp only at hr_1072
                          have hP := z_PS z_pnb hP
                          have hD := z_DS z_pnb hD
                          have hP : va_P D vwCl ([(pt, .inl (cI, (stT q).length, .inl fp)), (zt, .inl (cZ, (stT q).length, .inl fz)), (ut, .inl (cI, (stT q).length, .inl fu)), (s, .inr (4, [.int (nI (stI (mnt q))), .int (nI (stN (mnt q))), .int (stO (mnt q)), .int (stV (mnt q)), .int (nI (stG (mnt q))), .int (nI (stS (mnt q))), .int (stM (mnt q)), .ref b5, .ref ta])), (b5, .inl (cQ, R5.length, .inr (.inr (.inr (.inr (qf (ad R5))))))), (ta, .inl (cQ, T5.length, .inr (.inr (.inr (.inr (qf (ad T5)))))))] ++ ((sT cI (R5.map bq) (T5.map tq)) ++ ((xA cI x a b f5 (itS q 1)) ++ ((xB cI b g6 (itS q 1)) ++ [])))) H := hP
                          have hD : va_D A ([(pt, .inl (cI, (stT q).length, .inl fp)), (zt, .inl (cZ, (stT q).length, .inl fz)), (ut, .inl (cI, (stT q).length, .inl fu)), (s, .inr (4, [.int (nI (stI (mnt q))), .int (nI (stN (mnt q))), .int (stO (mnt q)), .int (stV (mnt q)), .int (nI (stG (mnt q))), .int (nI (stS (mnt q))), .int (stM (mnt q)), .ref b5, .ref ta])), (b5, .inl (cQ, R5.length, .inr (.inr (.inr (.inr (qf (ad R5))))))), (ta, .inl (cQ, T5.length, .inr (.inr (.inr (.inr (qf (ad T5)))))))] ++ ((sT cI (R5.map bq) (T5.map tq)) ++ ((xA cI x a b f5 (itS q 1)) ++ ((xB cI b g6 (itS q 1)) ++ [])))) := hD
                          refine W.eq (g2 := F0 m 1075 ls [.int r_41]) rfl ?_
                          refine W.widen (k := c0 + 25) (n := s0 + 246) (Nat.le_refl _) (Nat.le_refl _) ?_
                          refine k_top (v := nI (((mB2 q).getD i tp0).2)) (hr_1072.trans (by rw [lw_pre c_1055])) ?_
                          refine lv_iload hx hb dL_law_1075 (lv_at hl 6 rfl) ?_
                          refine k_cmp_le (tgt := 1082) hx hb (((mB2 q).getD i tp0).2) M rfl rfl (by omega) (by omega) dL_law_1077 (by decide) (fun c_1077 => ?_) (fun c_1077 => ?_)
                          · skip
                            refine lv_iinc (v := nI (i + 1)) (lv' := [(29, .int (nI (i + 1))), (28, .int (nI (nsN (mB2 q) (i + 1)))), (0, .ref sc), (1, .ref x), (2, .ref s), (3, .int (nI t)), (7, .int (nI ((stB q).length))), (10, .int (nI M)), (12, .int (nI ((stT q).length))), (13, .int (nI (ctT (stT q)))), (16, .ref pt), (17, .ref zt), (18, .ref ut), (25, .int (nI (ctT (stT q) - ctT (stT (itS q 1))))), (27, .int (nI ((mB2 q).length)))]) hx hb dL_law_1082 hl (k := 14) rfl (nI_1 _) (by decide) rfl (fun ls hl => ?_)
                            refine lv_goto (tgt := 1051) hx hb dL_law_1085 (by decide) ?_
                            exact ih (i + 1) (by omega) (by omega) _ _ (z_subP hP [0, 1, 2, 3, 4, 5] (rfl)) (z_subD hD [0, 1, 2, 3, 4, 5] (by decide) (rfl)) hS _ (lv_sub hl [2, 3, 4, 5, 6, 7, 8, 9, 10, 11, 12, 13, 14, 1, 0] (rfl))
                          · skip
                            exact absurd c_1077 (by omega)
                    exact loop_15 (((mB2 q).length) + 1) 0 (Nat.zero_le _) (by omega) _ _ (z_subP hP [0, 1, 2, 3, 4, 5] (rfl)) (z_subD hD [0, 1, 2, 3, 4, 5] (by decide) (rfl)) hS _ (lv_sub hl [8, 9, 10, 11, 12, 13, 14, 15, 16, 17, 18, 4, 2, 1, 0] (rfl))
                  · skip
                    exact absurd c_1043 (by omega)
          · skip
            exact absurd c_978 (by omega)
