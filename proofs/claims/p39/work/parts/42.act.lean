abbrev rm_L_act : Room := { frames := 7, cells := 1600, slots := 15000, locals := 129 }
set_option maxHeartbeats 4000000 in
set_option maxRecDepth 100000 in
theorem c_L_act (l : Launch) (D : va_G) (cI : ClassId) (cQ : ClassId) (hl0 : l.stackTraces = false) (x : Nat) (a : Nat → Nat) (b : Nat → Nat) (f : Nat → Nat → Int32) (g : Nat → Nat → Int32) (q : St) (q2 : St) (s : Nat) (ba : Nat) (ta : Nat) (v : Int32) (Rb : List (Nat × Tp)) (Rt : List (Nat × Tk)) (hR : rR f q) (hq : rQ q Rb Rt) (hok : okQ q) (hI : stI q < 900000) : kM kri l yL_act wsL_act rm_L_act D [(cI, .int), (cQ, .array .int)] [.ref x, .ref s, .int v] ([(s, .inr (4, [.int (nI (stI q)), .int (nI (stN q)), .int (stO q), .int (stV q), .int (nI (stG q)), .int (nI (stS q)), .int (stM q), .ref ba, .ref ta])), (ba, .inl (cQ, Rb.length, .inr (.inr (.inr (.inr (qf (ad Rb))))))), (ta, .inl (cQ, Rt.length, .inr (.inr (.inr (.inr (qf (ad Rt)))))))] ++ ((sT cI (Rb.map bq) (Rt.map tq)) ++ ((xA cI x a b f q) ++ ((xB cI b g q2) ++ [])))) (fun (r : Int32) (u : (Nat → Nat → Int32) × St × Nat × Nat × (List (Nat × Tp)) × (List (Nat × Tk))) => r = 1 ∧ rR u.1 u.2.1 ∧ rQ u.2.1 u.2.2.2.2.1 u.2.2.2.2.2 ∧ okQ u.2.1 ∧ stI u.2.1 ≤ stI q + 60) (fun (u : (Nat → Nat → Int32) × St × Nat × Nat × (List (Nat × Tp)) × (List (Nat × Tk))) => ([(s, .inr (4, [.int (nI (stI u.2.1)), .int (nI (stN u.2.1)), .int (stO u.2.1), .int (stV u.2.1), .int (nI (stG u.2.1)), .int (nI (stS u.2.1)), .int (stM u.2.1), .ref u.2.2.1, .ref u.2.2.2.1])), (u.2.2.1, .inl (cQ, u.2.2.2.2.1.length, .inr (.inr (.inr (.inr (qf (ad u.2.2.2.2.1))))))), (u.2.2.2.1, .inl (cQ, u.2.2.2.2.2.length, .inr (.inr (.inr (.inr (qf (ad u.2.2.2.2.2)))))))] ++ ((sT cI (u.2.2.2.2.1.map bq) (u.2.2.2.2.2.map tq)) ++ ((xA cI x a b u.1 u.2.1) ++ ((xB cI b g q2) ++ []))))) := by
  refine k_bodyZW (hh := [(26, 173, 526, 73), (174, 179, 526, 73), (180, 208, 526, 73), (209, 214, 526, 73), (215, 238, 526, 73), (239, 277, 526, 73), (278, 315, 526, 73), (316, 352, 526, 73), (353, 477, 526, 73), (478, 525, 526, 73)]) (cc := cL_act) (maxL := 9) (by decide) rfl (Nat.le_of_ble_eq_true rfl) ?_
  intro p e ss m args below meth c A Q F htab hA hG hK hP hD hS ret ls hl
  obtain ⟨hx, hb, hml, hown, hts⟩ := id F
  have hP : va_P D vwCl ([(s, .inr (4, [.int (nI (stI q)), .int (nI (stN q)), .int (stO q), .int (stV q), .int (nI (stG q)), .int (nI (stS q)), .int (stM q), .ref ba, .ref ta])), (ba, .inl (cQ, Rb.length, .inr (.inr (.inr (.inr (qf (ad Rb))))))), (ta, .inl (cQ, Rt.length, .inr (.inr (.inr (.inr (qf (ad Rt)))))))] ++ ((sT cI (Rb.map bq) (Rt.map tq)) ++ ((xA cI x a b f q) ++ ((xB cI b g q2) ++ [])))) ss.heap := hP
  have hD : va_D A ([(s, .inr (4, [.int (nI (stI q)), .int (nI (stN q)), .int (stO q), .int (stV q), .int (nI (stG q)), .int (nI (stS q)), .int (stM q), .ref ba, .ref ta])), (ba, .inl (cQ, Rb.length, .inr (.inr (.inr (.inr (qf (ad Rb))))))), (ta, .inl (cQ, Rt.length, .inr (.inr (.inr (.inr (qf (ad Rt)))))))] ++ ((sT cI (Rb.map bq) (Rt.map tq)) ++ ((xA cI x a b f q) ++ ((xB cI b g q2) ++ [])))) := hD
  have hl : lv_has ls 9 [(0, .ref x), (1, .ref s), (2, .int v)] := hl
  have iX4 : ∀ w ∈ u_ws RX4 TX4 9, w ∈ wsL_act := by decide +kernel
  have f9 := hts (.fieldLink RL 9 "SmallerTalkLaw$Sim" "belt" "[[I") (by decide +kernel)
  have f43 := hts (.fieldLink RL 43 "SmallerTalkLaw$Sim" "gear" "I") (by decide +kernel)
  have f50 := hts (.fieldLink RL 50 "SmallerTalkLaw$Sim" "stones" "I") (by decide +kernel)
  have f56 := hts (.fieldLink RL 56 "SmallerTalkLaw$Sim" "mesh" "I") (by decide +kernel)
  have f62 := hts (.fieldLink RL 62 "SmallerTalkLaw$Sim" "talkers" "[[I") (by decide +kernel)
  have hO := hok.1
  have hX := okQ_X hok (by omega)
  have hlB : Rb.length = (stB q).length := by rw [hq.1, sn_len]
  have hlT : Rt.length = (stT q).length := by rw [hq.2, sn_len]
  have o5 := hO.2.2.2.2.1
  have o6 := hO.2.2.2.2.2.1
  have hct := ctT_le hO
  have hb12 : Rb.length ≤ 12 := by have := hO.2.1; omega
  have ht6 : Rt.length ≤ 6 := by have := hO.2.2.2.1; omega
  refine lv_aload_n hx hb dL_act_0 rfl (lv_at hl 1 rfl) ?_
  refine va_get (D := D) (ci := 4) (v := .ref ba) (C := RX4) (T := TX4) (N := 9) hx hb hts iX4 hown hK hP 0 rfl rfl 7 (by decide) f9 (fun _ h9 => h9) rfl dL_act_1 ?_
  refine va_alen hx hb hK hP 1 1 rfl rfl (v := nI Rb.length) rfl dL_act_4 ?_
  refine lv_istore_n (lv' := [(3, .int (nI Rb.length)), (0, .ref x), (1, .ref s), (2, .int v)]) hx hb dL_act_5 rfl hl (by decide) rfl (fun ls hl => ?_)
  have cut_23 : ∀ (pl : Nat), ((0 < Rb.length → pl < Rb.length) ∧ pl < 1000) → ∀ (H : Heap) (locs : List Loc), va_P D vwCl ([(s, .inr (4, [.int (nI (stI q)), .int (nI (stN q)), .int (stO q), .int (stV q), .int (nI (stG q)), .int (nI (stS q)), .int (stM q), .ref ba, .ref ta])), (ba, .inl (cQ, Rb.length, .inr (.inr (.inr (.inr (qf (ad Rb))))))), (ta, .inl (cQ, Rt.length, .inr (.inr (.inr (.inr (qf (ad Rt)))))))] ++ ((sT cI (Rb.map bq) (Rt.map tq)) ++ ((xA cI x a b f q) ++ ((xB cI b g q2) ++ [])))) H → va_D A ([(s, .inr (4, [.int (nI (stI q)), .int (nI (stN q)), .int (stO q), .int (stV q), .int (nI (stG q)), .int (nI (stS q)), .int (stM q), .ref ba, .ref ta])), (ba, .inl (cQ, Rb.length, .inr (.inr (.inr (.inr (qf (ad Rb))))))), (ta, .inl (cQ, Rt.length, .inr (.inr (.inr (.inr (qf (ad Rt)))))))] ++ ((sT cI (Rb.map bq) (Rt.map tq)) ++ ((xA cI x a b f q) ++ ((xB cI b g q2) ++ [])))) → va_S A ss.heap H locs → ∀ ls : Array Slot, lv_has ls 9 [(0, .ref x), (1, .ref s), (2, .int v), (3, .int (nI Rb.length)), (4, .int (nI pl))] → W p l e rm_L_act ss m args below meth c H locs 0 0 Q (F0 m 23 ls []) := by
    intro pl hpl H locs hP hD hS ls hl
    refine lv_iconst (v := nI 1) hx hb dL_act_23 (by decide +kernel) ?_
    refine lv_istore (lv' := [(5, .int (nI 1)), (0, .ref x), (1, .ref s), (2, .int v), (3, .int (nI Rb.length)), (4, .int (nI pl))]) hx hb dL_act_24 hl (by decide) rfl (fun ls hl => ?_)
    refine lv_iload_n hx hb dL_act_26 rfl (lv_at hl 3 rfl) ?_
    refine lv_bipush (v := nI 14) hx hb dL_act_27 (by decide +kernel) ?_
    obtain ⟨cs, hcs, bcs⟩ : ∃ z, bw v 14 = z ∧ (z < 14) := ⟨_, rfl, by have := bw_lt v (n := 14) (by decide); omega⟩
    refine kz_callS (As := [.int v, .int (nI 14)]) (rest := []) (wp := [(s, .inr (4, [.int (nI (stI q)), .int (nI (stN q)), .int (stO q), .int (stV q), .int (nI (stG q)), .int (nI (stS q)), .int (stM q), .ref ba, .ref ta])), (ba, .inl (cQ, Rb.length, .inr (.inr (.inr (.inr (qf (ad Rb))))))), (ta, .inl (cQ, Rt.length, .inr (.inr (.inr (.inr (qf (ad Rt)))))))]) (wc := []) (wr := [(s, .inr (4, [.int (nI (stI q)), .int (nI (stN q)), .int (stO q), .int (stV q), .int (nI (stG q)), .int (nI (stS q)), .int (stM q), .ref ba, .ref ta])), (ba, .inl (cQ, Rb.length, .inr (.inr (.inr (.inr (qf (ad Rb))))))), (ta, .inl (cQ, Rt.length, .inr (.inr (.inr (.inr (qf (ad Rt)))))))]) (Z := ((sT cI (Rb.map bq) (Rt.map tq)) ++ ((xA cI x a b f q) ++ ((xB cI b g q2) ++ [])))) (X0 := []) (Y := ((sT cI (Rb.map bq) (Rt.map tq)) ++ ((xA cI x a b f q) ++ ((xB cI b g q2) ++ [])))) (wc1 := (fun (u : Unit) => [])) (X1 := (fun (u : Unit) => [])) F (c_L_below l D cI v 14 (by decide)) gL_act_L_below rfl (nA := 2) (by decide +kernel) rfl ⟨Nat.le_of_ble_eq_true rfl, Nat.le_of_ble_eq_true rfl⟩ hK hP hD hS hA hG [] [0, 1, 2] rfl (by decide) (List.Perm.refl _) (List.append_nil _).symm (fun _ => (List.append_nil _).symm) [0] rfl rfl hl.1 (Nat.le_of_ble_eq_true rfl) dL_act_29 ⟨Nat.le_of_ble_eq_true rfl, Nat.le_of_ble_eq_true rfl⟩ (fun r_1 u H locs hr_29 hP hD hS => ?_)
    try dsimp only at hr_29
    have hP : va_P D vwCl ([(s, .inr (4, [.int (nI (stI q)), .int (nI (stN q)), .int (stO q), .int (stV q), .int (nI (stG q)), .int (nI (stS q)), .int (stM q), .ref ba, .ref ta])), (ba, .inl (cQ, Rb.length, .inr (.inr (.inr (.inr (qf (ad Rb))))))), (ta, .inl (cQ, Rt.length, .inr (.inr (.inr (.inr (qf (ad Rt)))))))] ++ ((sT cI (Rb.map bq) (Rt.map tq)) ++ ((xA cI x a b f q) ++ ((xB cI b g q2) ++ [])))) H := hP
    have hD : va_D A ([(s, .inr (4, [.int (nI (stI q)), .int (nI (stN q)), .int (stO q), .int (stV q), .int (nI (stG q)), .int (nI (stS q)), .int (stM q), .ref ba, .ref ta])), (ba, .inl (cQ, Rb.length, .inr (.inr (.inr (.inr (qf (ad Rb))))))), (ta, .inl (cQ, Rt.length, .inr (.inr (.inr (.inr (qf (ad Rt)))))))] ++ ((sT cI (Rb.map bq) (Rt.map tq)) ++ ((xA cI x a b f q) ++ ((xB cI b g q2) ++ [])))) := hD
    refine W.eq (g2 := F0 m 32 ls [.int r_1]) rfl ?_
    refine W.widen (k := 0) (n := 0) (Nat.le_refl _) (Nat.le_refl _) ?_
    refine k_top (v := nI cs) (by rw [hr_29, hcs]) ?_
    have cut_88 : ∀ (_ : Unit), ∀ (H : Heap) (locs : List Loc), va_P D vwCl ([(s, .inr (4, [.int (nI (stI q)), .int (nI (stN q)), .int (stO q), .int (stV q), .int (nI (stG q)), .int (nI (stS q)), .int (stM q), .ref ba, .ref ta])), (ba, .inl (cQ, Rb.length, .inr (.inr (.inr (.inr (qf (ad Rb))))))), (ta, .inl (cQ, Rt.length, .inr (.inr (.inr (.inr (qf (ad Rt)))))))] ++ ((sT cI (Rb.map bq) (Rt.map tq)) ++ ((xA cI x a b f q) ++ ((xB cI b g q2) ++ [])))) H → va_D A ([(s, .inr (4, [.int (nI (stI q)), .int (nI (stN q)), .int (stO q), .int (stV q), .int (nI (stG q)), .int (nI (stS q)), .int (stM q), .ref ba, .ref ta])), (ba, .inl (cQ, Rb.length, .inr (.inr (.inr (.inr (qf (ad Rb))))))), (ta, .inl (cQ, Rt.length, .inr (.inr (.inr (.inr (qf (ad Rt)))))))] ++ ((sT cI (Rb.map bq) (Rt.map tq)) ++ ((xA cI x a b f q) ++ ((xB cI b g q2) ++ [])))) → va_S A ss.heap H locs → ∀ ls : Array Slot, lv_has ls 9 [(0, .ref x), (1, .ref s), (2, .int v), (3, .int (nI Rb.length)), (4, .int (nI pl)), (5, .int (nI 1))] → W p l e rm_L_act ss m args below meth c H locs 0 0 Q (F0 m 88 ls []) := by
      intro _  H locs hP hD hS ls hl
      refine lv_iload_n hx hb dL_act_88 rfl (lv_at hl 3 rfl) ?_
      refine lv_bipush (v := nI 12) hx hb dL_act_89 (by decide +kernel) ?_
      refine k_cmp_ge (tgt := 98) hx hb Rb.length 12 rfl rfl (by omega) (by omega) dL_act_91 (by decide) (fun c_91 => ?_) (fun c_91 => ?_)
      · skip
        refine lv_iconst (v := nI 0) hx hb dL_act_98 (by decide +kernel) ?_
        refine lv_istore (lv' := [(5, .int (nI 0)), (0, .ref x), (1, .ref s), (2, .int v), (3, .int (nI Rb.length)), (4, .int (nI pl))]) hx hb dL_act_99 hl (by decide) rfl (fun ls hl => ?_)
        refine lv_iload_n hx hb dL_act_101 rfl (lv_at hl 3 rfl) ?_
        refine lv_iconst (v := nI 3) hx hb dL_act_102 (by decide +kernel) ?_
        refine lv_ishr hx hb dL_act_103 ?_
        refine lv_iconst (v := nI 5) hx hb dL_act_104 (by decide +kernel) ?_
        obtain ⟨kd, hkd, bkd⟩ : ∃ z, bw (v >>> ((nI 3) &&& 31)) 5 = z ∧ (z < 5) := ⟨_, rfl, by have := bw_lt (v >>> ((nI 3) &&& 31)) (n := 5) (by decide); omega⟩
        refine kz_callS (As := [.int (v >>> ((nI 3) &&& 31)), .int (nI 5)]) (rest := []) (wp := [(s, .inr (4, [.int (nI (stI q)), .int (nI (stN q)), .int (stO q), .int (stV q), .int (nI (stG q)), .int (nI (stS q)), .int (stM q), .ref ba, .ref ta])), (ba, .inl (cQ, Rb.length, .inr (.inr (.inr (.inr (qf (ad Rb))))))), (ta, .inl (cQ, Rt.length, .inr (.inr (.inr (.inr (qf (ad Rt)))))))]) (wc := []) (wr := [(s, .inr (4, [.int (nI (stI q)), .int (nI (stN q)), .int (stO q), .int (stV q), .int (nI (stG q)), .int (nI (stS q)), .int (stM q), .ref ba, .ref ta])), (ba, .inl (cQ, Rb.length, .inr (.inr (.inr (.inr (qf (ad Rb))))))), (ta, .inl (cQ, Rt.length, .inr (.inr (.inr (.inr (qf (ad Rt)))))))]) (Z := ((sT cI (Rb.map bq) (Rt.map tq)) ++ ((xA cI x a b f q) ++ ((xB cI b g q2) ++ [])))) (X0 := []) (Y := ((sT cI (Rb.map bq) (Rt.map tq)) ++ ((xA cI x a b f q) ++ ((xB cI b g q2) ++ [])))) (wc1 := (fun (u : Unit) => [])) (X1 := (fun (u : Unit) => [])) F (c_L_below l D cI (v >>> ((nI 3) &&& 31)) 5 (by decide)) gL_act_L_below rfl (nA := 2) (by decide +kernel) rfl ⟨Nat.le_of_ble_eq_true rfl, Nat.le_of_ble_eq_true rfl⟩ hK hP hD hS hA hG [] [0, 1, 2] rfl (by decide) (List.Perm.refl _) (List.append_nil _).symm (fun _ => (List.append_nil _).symm) [0] rfl rfl hl.1 (Nat.le_of_ble_eq_true rfl) dL_act_105 ⟨Nat.le_of_ble_eq_true rfl, Nat.le_of_ble_eq_true rfl⟩ (fun r_2 u H locs hr_105 hP hD hS => ?_)
        try dsimp only at hr_105
        have hP : va_P D vwCl ([(s, .inr (4, [.int (nI (stI q)), .int (nI (stN q)), .int (stO q), .int (stV q), .int (nI (stG q)), .int (nI (stS q)), .int (stM q), .ref ba, .ref ta])), (ba, .inl (cQ, Rb.length, .inr (.inr (.inr (.inr (qf (ad Rb))))))), (ta, .inl (cQ, Rt.length, .inr (.inr (.inr (.inr (qf (ad Rt)))))))] ++ ((sT cI (Rb.map bq) (Rt.map tq)) ++ ((xA cI x a b f q) ++ ((xB cI b g q2) ++ [])))) H := hP
        have hD : va_D A ([(s, .inr (4, [.int (nI (stI q)), .int (nI (stN q)), .int (stO q), .int (stV q), .int (nI (stG q)), .int (nI (stS q)), .int (stM q), .ref ba, .ref ta])), (ba, .inl (cQ, Rb.length, .inr (.inr (.inr (.inr (qf (ad Rb))))))), (ta, .inl (cQ, Rt.length, .inr (.inr (.inr (.inr (qf (ad Rt)))))))] ++ ((sT cI (Rb.map bq) (Rt.map tq)) ++ ((xA cI x a b f q) ++ ((xB cI b g q2) ++ [])))) := hD
        refine W.eq (g2 := F0 m 108 ls [.int r_2]) rfl ?_
        refine W.widen (k := 0) (n := 0) (Nat.le_refl _) (Nat.le_refl _) ?_
        refine k_top (v := nI kd) (by rw [hr_105, hkd]) ?_
        refine lv_istore (lv' := [(6, .int (nI kd)), (5, .int (nI 0)), (0, .ref x), (1, .ref s), (2, .int v), (3, .int (nI Rb.length)), (4, .int (nI pl))]) hx hb dL_act_108 hl (by decide) rfl (fun ls hl => ?_)
        refine lv_iconst (v := nI 2) hx hb dL_act_110 (by decide +kernel) ?_
        refine lv_iload_n hx hb dL_act_111 rfl (lv_at hl 4 rfl) ?_
        refine lv_iconst (v := nI 5) hx hb dL_act_112 (by decide +kernel) ?_
        refine lv_ishr hx hb dL_act_113 ?_
        refine lv_bipush (v := nI 98) hx hb dL_act_114 (by decide +kernel) ?_
        refine kz_callS (As := [.int (v >>> ((nI 5) &&& 31)), .int (nI 98)]) (rest := [.int (nI 2)]) (wp := [(s, .inr (4, [.int (nI (stI q)), .int (nI (stN q)), .int (stO q), .int (stV q), .int (nI (stG q)), .int (nI (stS q)), .int (stM q), .ref ba, .ref ta])), (ba, .inl (cQ, Rb.length, .inr (.inr (.inr (.inr (qf (ad Rb))))))), (ta, .inl (cQ, Rt.length, .inr (.inr (.inr (.inr (qf (ad Rt)))))))]) (wc := []) (wr := [(s, .inr (4, [.int (nI (stI q)), .int (nI (stN q)), .int (stO q), .int (stV q), .int (nI (stG q)), .int (nI (stS q)), .int (stM q), .ref ba, .ref ta])), (ba, .inl (cQ, Rb.length, .inr (.inr (.inr (.inr (qf (ad Rb))))))), (ta, .inl (cQ, Rt.length, .inr (.inr (.inr (.inr (qf (ad Rt)))))))]) (Z := ((sT cI (Rb.map bq) (Rt.map tq)) ++ ((xA cI x a b f q) ++ ((xB cI b g q2) ++ [])))) (X0 := []) (Y := ((sT cI (Rb.map bq) (Rt.map tq)) ++ ((xA cI x a b f q) ++ ((xB cI b g q2) ++ [])))) (wc1 := (fun (u : Unit) => [])) (X1 := (fun (u : Unit) => [])) F (c_L_below l D cI (v >>> ((nI 5) &&& 31)) 98 (by decide)) gL_act_L_below rfl (nA := 2) (by decide +kernel) rfl ⟨Nat.le_of_ble_eq_true rfl, Nat.le_of_ble_eq_true rfl⟩ hK hP hD hS hA hG [] [0, 1, 2] rfl (by decide) (List.Perm.refl _) (List.append_nil _).symm (fun _ => (List.append_nil _).symm) [0] rfl rfl hl.1 (Nat.le_of_ble_eq_true rfl) dL_act_116 ⟨Nat.le_of_ble_eq_true rfl, Nat.le_of_ble_eq_true rfl⟩ (fun r_3 u H locs hr_116 hP hD hS => ?_)
        try dsimp only at hr_116
        have hP : va_P D vwCl ([(s, .inr (4, [.int (nI (stI q)), .int (nI (stN q)), .int (stO q), .int (stV q), .int (nI (stG q)), .int (nI (stS q)), .int (stM q), .ref ba, .ref ta])), (ba, .inl (cQ, Rb.length, .inr (.inr (.inr (.inr (qf (ad Rb))))))), (ta, .inl (cQ, Rt.length, .inr (.inr (.inr (.inr (qf (ad Rt)))))))] ++ ((sT cI (Rb.map bq) (Rt.map tq)) ++ ((xA cI x a b f q) ++ ((xB cI b g q2) ++ [])))) H := hP
        have hD : va_D A ([(s, .inr (4, [.int (nI (stI q)), .int (nI (stN q)), .int (stO q), .int (stV q), .int (nI (stG q)), .int (nI (stS q)), .int (stM q), .ref ba, .ref ta])), (ba, .inl (cQ, Rb.length, .inr (.inr (.inr (.inr (qf (ad Rb))))))), (ta, .inl (cQ, Rt.length, .inr (.inr (.inr (.inr (qf (ad Rt)))))))] ++ ((sT cI (Rb.map bq) (Rt.map tq)) ++ ((xA cI x a b f q) ++ ((xB cI b g q2) ++ [])))) := hD
        refine W.eq (g2 := F0 m 119 ls [.int r_3, .int (nI 2)]) rfl ?_
        refine W.widen (k := 0) (n := 0) (Nat.le_refl _) (Nat.le_refl _) ?_
        refine k_top (v := nI (bw (v >>> ((nI 5) &&& 31)) 98)) (hr_116) ?_
        obtain ⟨zz, hzz, bzz⟩ : ∃ z, 2 + (bw (v >>> ((nI 5) &&& 31)) 98) = z ∧ (2 ≤ z ∧ z ≤ 99) := ⟨_, rfl, by have := bw_lt (v >>> ((nI 5) &&& 31)) (n := 98) (by decide); omega⟩
        refine k_iadd hx hb (nI zz) (by rw [nI_add, hzz]) dL_act_119 ?_
        refine lv_istore (lv' := [(7, .int (nI zz)), (6, .int (nI kd)), (5, .int (nI 0)), (0, .ref x), (1, .ref s), (2, .int v), (3, .int (nI Rb.length)), (4, .int (nI pl))]) hx hb dL_act_120 hl (by decide) rfl (fun ls hl => ?_)
        refine lv_iload hx hb dL_act_122 (lv_at hl 2 rfl) ?_
        refine k_if_eq (tgt := 151) hx hb 0 rfl (by omega) dL_act_124 (by decide) (fun c_124 => ?_) (fun c_124 => ?_)
        · skip
          refine lv_aload_n hx hb dL_act_151 rfl (lv_at hl 3 rfl) ?_
          refine lv_iload hx hb dL_act_152 (lv_at hl 1 rfl) ?_
          refine lv_iload hx hb dL_act_154 (lv_at hl 0 rfl) ?_
          refine kzX_callX (As := [.int (nI kd), .int (nI zz)]) (rest := []) F (c_ZX3_put_full l D cI hl0 x a b f q kd zz hR bkd bzz (by omega)) gL_act_X3_put rfl (nA := 2) (by decide +kernel) rfl ⟨Nat.le_of_ble_eq_true rfl, Nat.le_of_ble_eq_true rfl⟩ hK hP hD hS hA hG (ci := 3) (q0 := 0) rfl rfl rfl zp_pn [0] rfl rfl hl.1 (Nat.le_of_ble_eq_true rfl) dL_act_156 ⟨Nat.le_of_ble_eq_true rfl, Nat.le_of_ble_eq_true rfl⟩ (fun H locs q9 ce9 hP hD hS hce hcv hcl => ?_)
          have hP := z_PS z_pnb hP
          have hD := z_DS z_pnb hD
          have hP : va_P D vwCl ([(s, .inr (4, [.int (nI (stI q)), .int (nI (stN q)), .int (stO q), .int (stV q), .int (nI (stG q)), .int (nI (stS q)), .int (stM q), .ref ba, .ref ta])), (ba, .inl (cQ, Rb.length, .inr (.inr (.inr (.inr (qf (ad Rb))))))), (ta, .inl (cQ, Rt.length, .inr (.inr (.inr (.inr (qf (ad Rt)))))))] ++ ((sT cI (Rb.map bq) (Rt.map tq)) ++ ((xA cI x a b f q) ++ ((xB cI b g q2) ++ [])))) H := hP
          have hD : va_D A ([(s, .inr (4, [.int (nI (stI q)), .int (nI (stN q)), .int (stO q), .int (stV q), .int (nI (stG q)), .int (nI (stS q)), .int (stM q), .ref ba, .ref ta])), (ba, .inl (cQ, Rb.length, .inr (.inr (.inr (.inr (qf (ad Rb))))))), (ta, .inl (cQ, Rt.length, .inr (.inr (.inr (.inr (qf (ad Rt)))))))] ++ ((sT cI (Rb.map bq) (Rt.map tq)) ++ ((xA cI x a b f q) ++ ((xB cI b g q2) ++ [])))) := hD
          refine vx_catch (name := eIS) hown [] ⟨26, 173, 526, 73⟩ [⟨174, 179, 526, 73⟩, ⟨180, 208, 526, 73⟩, ⟨209, 214, 526, 73⟩, ⟨215, 238, 526, 73⟩, ⟨239, 277, 526, 73⟩, ⟨278, 315, 526, 73⟩, ⟨316, 352, 526, 73⟩, ⟨353, 477, 526, 73⟩, ⟨478, 525, 526, 73⟩] htab (fun z hz => nomatch hz) rfl (by decide) (hts (.classLink RL 73 eIS) (by decide +kernel)) (va_Nw.use rfl hG.2.2.1.2.2.2.2.1) hce hcv hcl ?_
          refine lv_astore (lv' := [(6, .ref q9), (7, .int (nI zz)), (5, .int (nI 0)), (0, .ref x), (1, .ref s), (2, .int v), (3, .int (nI Rb.length)), (4, .int (nI pl))]) hx hb dL_act_526 hl (by decide) rfl (fun ls hl => ?_)
          refine lv_iload hx hb dL_act_528 (lv_at hl 2 rfl) ?_
          refine k_if_ne (tgt := 537) hx hb 0 rfl (by omega) dL_act_530 (by decide) (fun c_530 => ?_) (fun c_530 => ?_)
          · exact absurd c_530 (by omega)
          · skip
            refine lv_iconst (v := nI 1) hx hb dL_act_533 (by decide +kernel) ?_
            refine lv_goto (tgt := 538) hx hb dL_act_534 (by decide) ?_
            exact ret (nI 1) ⟨f, q, ba, ta, Rb, Rt⟩ _ _ _ _ _ _ rfl (⟨rfl, hR, hq, hok, (Nat.le_add_right _ _)⟩) (z_subP hP [0, 1, 2] (rfl)) (z_subD hD [0, 1, 2] (by decide) (rfl)) hS (Nat.le_of_ble_eq_true rfl) (Nat.le_of_ble_eq_true rfl) dL_act_538
        · exact absurd c_124 (by omega)
      · skip
        refine lv_iconst (v := nI 1) hx hb dL_act_94 (by decide +kernel) ?_
        refine lv_goto (tgt := 99) hx hb dL_act_95 (by decide) ?_
        refine lv_istore (lv' := [(5, .int (nI 1)), (0, .ref x), (1, .ref s), (2, .int v), (3, .int (nI Rb.length)), (4, .int (nI pl))]) hx hb dL_act_99 hl (by decide) rfl (fun ls hl => ?_)
        refine lv_iload_n hx hb dL_act_101 rfl (lv_at hl 3 rfl) ?_
        refine lv_iconst (v := nI 3) hx hb dL_act_102 (by decide +kernel) ?_
        refine lv_ishr hx hb dL_act_103 ?_
        refine lv_iconst (v := nI 5) hx hb dL_act_104 (by decide +kernel) ?_
        obtain ⟨kd, hkd, bkd⟩ : ∃ z, bw (v >>> ((nI 3) &&& 31)) 5 = z ∧ (z < 5) := ⟨_, rfl, by have := bw_lt (v >>> ((nI 3) &&& 31)) (n := 5) (by decide); omega⟩
        refine kz_callS (As := [.int (v >>> ((nI 3) &&& 31)), .int (nI 5)]) (rest := []) (wp := [(s, .inr (4, [.int (nI (stI q)), .int (nI (stN q)), .int (stO q), .int (stV q), .int (nI (stG q)), .int (nI (stS q)), .int (stM q), .ref ba, .ref ta])), (ba, .inl (cQ, Rb.length, .inr (.inr (.inr (.inr (qf (ad Rb))))))), (ta, .inl (cQ, Rt.length, .inr (.inr (.inr (.inr (qf (ad Rt)))))))]) (wc := []) (wr := [(s, .inr (4, [.int (nI (stI q)), .int (nI (stN q)), .int (stO q), .int (stV q), .int (nI (stG q)), .int (nI (stS q)), .int (stM q), .ref ba, .ref ta])), (ba, .inl (cQ, Rb.length, .inr (.inr (.inr (.inr (qf (ad Rb))))))), (ta, .inl (cQ, Rt.length, .inr (.inr (.inr (.inr (qf (ad Rt)))))))]) (Z := ((sT cI (Rb.map bq) (Rt.map tq)) ++ ((xA cI x a b f q) ++ ((xB cI b g q2) ++ [])))) (X0 := []) (Y := ((sT cI (Rb.map bq) (Rt.map tq)) ++ ((xA cI x a b f q) ++ ((xB cI b g q2) ++ [])))) (wc1 := (fun (u : Unit) => [])) (X1 := (fun (u : Unit) => [])) F (c_L_below l D cI (v >>> ((nI 3) &&& 31)) 5 (by decide)) gL_act_L_below rfl (nA := 2) (by decide +kernel) rfl ⟨Nat.le_of_ble_eq_true rfl, Nat.le_of_ble_eq_true rfl⟩ hK hP hD hS hA hG [] [0, 1, 2] rfl (by decide) (List.Perm.refl _) (List.append_nil _).symm (fun _ => (List.append_nil _).symm) [0] rfl rfl hl.1 (Nat.le_of_ble_eq_true rfl) dL_act_105 ⟨Nat.le_of_ble_eq_true rfl, Nat.le_of_ble_eq_true rfl⟩ (fun r_5 u H locs hr_105 hP hD hS => ?_)
        try dsimp only at hr_105
        have hP : va_P D vwCl ([(s, .inr (4, [.int (nI (stI q)), .int (nI (stN q)), .int (stO q), .int (stV q), .int (nI (stG q)), .int (nI (stS q)), .int (stM q), .ref ba, .ref ta])), (ba, .inl (cQ, Rb.length, .inr (.inr (.inr (.inr (qf (ad Rb))))))), (ta, .inl (cQ, Rt.length, .inr (.inr (.inr (.inr (qf (ad Rt)))))))] ++ ((sT cI (Rb.map bq) (Rt.map tq)) ++ ((xA cI x a b f q) ++ ((xB cI b g q2) ++ [])))) H := hP
        have hD : va_D A ([(s, .inr (4, [.int (nI (stI q)), .int (nI (stN q)), .int (stO q), .int (stV q), .int (nI (stG q)), .int (nI (stS q)), .int (stM q), .ref ba, .ref ta])), (ba, .inl (cQ, Rb.length, .inr (.inr (.inr (.inr (qf (ad Rb))))))), (ta, .inl (cQ, Rt.length, .inr (.inr (.inr (.inr (qf (ad Rt)))))))] ++ ((sT cI (Rb.map bq) (Rt.map tq)) ++ ((xA cI x a b f q) ++ ((xB cI b g q2) ++ [])))) := hD
        refine W.eq (g2 := F0 m 108 ls [.int r_5]) rfl ?_
        refine W.widen (k := 0) (n := 0) (Nat.le_refl _) (Nat.le_refl _) ?_
        refine k_top (v := nI kd) (by rw [hr_105, hkd]) ?_
        refine lv_istore (lv' := [(6, .int (nI kd)), (5, .int (nI 1)), (0, .ref x), (1, .ref s), (2, .int v), (3, .int (nI Rb.length)), (4, .int (nI pl))]) hx hb dL_act_108 hl (by decide) rfl (fun ls hl => ?_)
        refine lv_iconst (v := nI 2) hx hb dL_act_110 (by decide +kernel) ?_
        refine lv_iload_n hx hb dL_act_111 rfl (lv_at hl 4 rfl) ?_
        refine lv_iconst (v := nI 5) hx hb dL_act_112 (by decide +kernel) ?_
        refine lv_ishr hx hb dL_act_113 ?_
        refine lv_bipush (v := nI 98) hx hb dL_act_114 (by decide +kernel) ?_
        refine kz_callS (As := [.int (v >>> ((nI 5) &&& 31)), .int (nI 98)]) (rest := [.int (nI 2)]) (wp := [(s, .inr (4, [.int (nI (stI q)), .int (nI (stN q)), .int (stO q), .int (stV q), .int (nI (stG q)), .int (nI (stS q)), .int (stM q), .ref ba, .ref ta])), (ba, .inl (cQ, Rb.length, .inr (.inr (.inr (.inr (qf (ad Rb))))))), (ta, .inl (cQ, Rt.length, .inr (.inr (.inr (.inr (qf (ad Rt)))))))]) (wc := []) (wr := [(s, .inr (4, [.int (nI (stI q)), .int (nI (stN q)), .int (stO q), .int (stV q), .int (nI (stG q)), .int (nI (stS q)), .int (stM q), .ref ba, .ref ta])), (ba, .inl (cQ, Rb.length, .inr (.inr (.inr (.inr (qf (ad Rb))))))), (ta, .inl (cQ, Rt.length, .inr (.inr (.inr (.inr (qf (ad Rt)))))))]) (Z := ((sT cI (Rb.map bq) (Rt.map tq)) ++ ((xA cI x a b f q) ++ ((xB cI b g q2) ++ [])))) (X0 := []) (Y := ((sT cI (Rb.map bq) (Rt.map tq)) ++ ((xA cI x a b f q) ++ ((xB cI b g q2) ++ [])))) (wc1 := (fun (u : Unit) => [])) (X1 := (fun (u : Unit) => [])) F (c_L_below l D cI (v >>> ((nI 5) &&& 31)) 98 (by decide)) gL_act_L_below rfl (nA := 2) (by decide +kernel) rfl ⟨Nat.le_of_ble_eq_true rfl, Nat.le_of_ble_eq_true rfl⟩ hK hP hD hS hA hG [] [0, 1, 2] rfl (by decide) (List.Perm.refl _) (List.append_nil _).symm (fun _ => (List.append_nil _).symm) [0] rfl rfl hl.1 (Nat.le_of_ble_eq_true rfl) dL_act_116 ⟨Nat.le_of_ble_eq_true rfl, Nat.le_of_ble_eq_true rfl⟩ (fun r_6 u H locs hr_116 hP hD hS => ?_)
        try dsimp only at hr_116
        have hP : va_P D vwCl ([(s, .inr (4, [.int (nI (stI q)), .int (nI (stN q)), .int (stO q), .int (stV q), .int (nI (stG q)), .int (nI (stS q)), .int (stM q), .ref ba, .ref ta])), (ba, .inl (cQ, Rb.length, .inr (.inr (.inr (.inr (qf (ad Rb))))))), (ta, .inl (cQ, Rt.length, .inr (.inr (.inr (.inr (qf (ad Rt)))))))] ++ ((sT cI (Rb.map bq) (Rt.map tq)) ++ ((xA cI x a b f q) ++ ((xB cI b g q2) ++ [])))) H := hP
        have hD : va_D A ([(s, .inr (4, [.int (nI (stI q)), .int (nI (stN q)), .int (stO q), .int (stV q), .int (nI (stG q)), .int (nI (stS q)), .int (stM q), .ref ba, .ref ta])), (ba, .inl (cQ, Rb.length, .inr (.inr (.inr (.inr (qf (ad Rb))))))), (ta, .inl (cQ, Rt.length, .inr (.inr (.inr (.inr (qf (ad Rt)))))))] ++ ((sT cI (Rb.map bq) (Rt.map tq)) ++ ((xA cI x a b f q) ++ ((xB cI b g q2) ++ [])))) := hD
        refine W.eq (g2 := F0 m 119 ls [.int r_6, .int (nI 2)]) rfl ?_
        refine W.widen (k := 0) (n := 0) (Nat.le_refl _) (Nat.le_refl _) ?_
        refine k_top (v := nI (bw (v >>> ((nI 5) &&& 31)) 98)) (hr_116) ?_
        obtain ⟨zz, hzz, bzz⟩ : ∃ z, 2 + (bw (v >>> ((nI 5) &&& 31)) 98) = z ∧ (2 ≤ z ∧ z ≤ 99) := ⟨_, rfl, by have := bw_lt (v >>> ((nI 5) &&& 31)) (n := 98) (by decide); omega⟩
        refine k_iadd hx hb (nI zz) (by rw [nI_add, hzz]) dL_act_119 ?_
        refine lv_istore (lv' := [(7, .int (nI zz)), (6, .int (nI kd)), (5, .int (nI 1)), (0, .ref x), (1, .ref s), (2, .int v), (3, .int (nI Rb.length)), (4, .int (nI pl))]) hx hb dL_act_120 hl (by decide) rfl (fun ls hl => ?_)
        refine lv_iload hx hb dL_act_122 (lv_at hl 2 rfl) ?_
        refine k_if_eq (tgt := 151) hx hb 1 rfl (by omega) dL_act_124 (by decide) (fun c_124 => ?_) (fun c_124 => ?_)
        · exact absurd c_124 (by omega)
        · skip
          refine lv_aload_n hx hb dL_act_127 rfl (lv_at hl 4 rfl) ?_
          refine lv_aload_n hx hb dL_act_128 rfl (lv_at hl 4 rfl) ?_
          refine va_get (D := D) (ci := 4) (v := .ref ba) (C := RX4) (T := TX4) (N := 9) hx hb hts iX4 hown hK hP 0 rfl rfl 7 (by decide) f9 (fun _ h9 => h9) rfl dL_act_129 ?_
          refine lv_iconst (v := nI 2) hx hb dL_act_132 (by decide +kernel) ?_
          refine z_newa hx hb (hts (.arrayClass .int) (by decide +kernel)) hK 0 rfl hP hD hS hA 2 rfl (by omega) (Nat.le_of_ble_eq_true rfl) (Nat.le_of_ble_eq_true rfl) dL_act_133 (fun q_7 H hP hD hS => ?_)
          have hP : va_P D vwCl ([(s, .inr (4, [.int (nI (stI q)), .int (nI (stN q)), .int (stO q), .int (stV q), .int (nI (stG q)), .int (nI (stS q)), .int (stM q), .ref ba, .ref ta])), (ba, .inl (cQ, Rb.length, .inr (.inr (.inr (.inr (qf (ad Rb))))))), (ta, .inl (cQ, Rt.length, .inr (.inr (.inr (.inr (qf (ad Rt))))))), (q_7, .inl (cI, 2, .inl (fun _ => 0)))] ++ ((sT cI (Rb.map bq) (Rt.map tq)) ++ ((xA cI x a b f q) ++ ((xB cI b g q2) ++ [])))) H := hP
          have hD : va_D A ([(s, .inr (4, [.int (nI (stI q)), .int (nI (stN q)), .int (stO q), .int (stV q), .int (nI (stG q)), .int (nI (stS q)), .int (stM q), .ref ba, .ref ta])), (ba, .inl (cQ, Rb.length, .inr (.inr (.inr (.inr (qf (ad Rb))))))), (ta, .inl (cQ, Rt.length, .inr (.inr (.inr (.inr (qf (ad Rt))))))), (q_7, .inl (cI, 2, .inl (fun _ => 0)))] ++ ((sT cI (Rb.map bq) (Rt.map tq)) ++ ((xA cI x a b f q) ++ ((xB cI b g q2) ++ [])))) := hD
          refine lv_dup hx hb dL_act_135 rfl ?_
          refine lv_iconst (v := nI 0) hx hb dL_act_136 (by decide +kernel) ?_
          refine lv_iload hx hb dL_act_137 (lv_at hl 0 rfl) ?_
          refine k_iast hx hb hK hP hD hS 3 0 rfl rfl 0 (rfl) (by omega) (by decide) dL_act_139 (fun H locs hP hD hS => ?_)
          have hP : va_P D vwCl ([(s, .inr (4, [.int (nI (stI q)), .int (nI (stN q)), .int (stO q), .int (stV q), .int (nI (stG q)), .int (nI (stS q)), .int (stM q), .ref ba, .ref ta])), (ba, .inl (cQ, Rb.length, .inr (.inr (.inr (.inr (qf (ad Rb))))))), (ta, .inl (cQ, Rt.length, .inr (.inr (.inr (.inr (qf (ad Rt))))))), (q_7, .inl (cI, 2, .inl (upd (fun _ => 0) 0 (nI zz))))] ++ ((sT cI (Rb.map bq) (Rt.map tq)) ++ ((xA cI x a b f q) ++ ((xB cI b g q2) ++ [])))) H := hP
          have hD : va_D A ([(s, .inr (4, [.int (nI (stI q)), .int (nI (stN q)), .int (stO q), .int (stV q), .int (nI (stG q)), .int (nI (stS q)), .int (stM q), .ref ba, .ref ta])), (ba, .inl (cQ, Rb.length, .inr (.inr (.inr (.inr (qf (ad Rb))))))), (ta, .inl (cQ, Rt.length, .inr (.inr (.inr (.inr (qf (ad Rt))))))), (q_7, .inl (cI, 2, .inl (upd (fun _ => 0) 0 (nI zz))))] ++ ((sT cI (Rb.map bq) (Rt.map tq)) ++ ((xA cI x a b f q) ++ ((xB cI b g q2) ++ [])))) := hD
          refine lv_dup hx hb dL_act_140 rfl ?_
          refine lv_iconst (v := nI 1) hx hb dL_act_141 (by decide +kernel) ?_
          refine lv_iload hx hb dL_act_142 (lv_at hl 1 rfl) ?_
          refine k_iast hx hb hK hP hD hS 3 0 rfl rfl 1 (rfl) (by omega) (by decide) dL_act_144 (fun H locs hP hD hS => ?_)
          have hP : va_P D vwCl ([(s, .inr (4, [.int (nI (stI q)), .int (nI (stN q)), .int (stO q), .int (stV q), .int (nI (stG q)), .int (nI (stS q)), .int (stM q), .ref ba, .ref ta])), (ba, .inl (cQ, Rb.length, .inr (.inr (.inr (.inr (qf (ad Rb))))))), (ta, .inl (cQ, Rt.length, .inr (.inr (.inr (.inr (qf (ad Rt))))))), (q_7, .inl (cI, 2, .inl (upd (upd (fun _ => 0) 0 (nI zz)) 1 (nI kd))))] ++ ((sT cI (Rb.map bq) (Rt.map tq)) ++ ((xA cI x a b f q) ++ ((xB cI b g q2) ++ [])))) H := hP
          have hD : va_D A ([(s, .inr (4, [.int (nI (stI q)), .int (nI (stN q)), .int (stO q), .int (stV q), .int (nI (stG q)), .int (nI (stS q)), .int (stM q), .ref ba, .ref ta])), (ba, .inl (cQ, Rb.length, .inr (.inr (.inr (.inr (qf (ad Rb))))))), (ta, .inl (cQ, Rt.length, .inr (.inr (.inr (.inr (qf (ad Rt))))))), (q_7, .inl (cI, 2, .inl (upd (upd (fun _ => 0) 0 (nI zz)) 1 (nI kd))))] ++ ((sT cI (Rb.map bq) (Rt.map tq)) ++ ((xA cI x a b f q) ++ ((xB cI b g q2) ++ [])))) := hD
          have eN : upd (upd (fun _ => 0) 0 (nI zz)) 1 (nI kd) = bf (nI kd, zz) := bf_new
          rw [eN] at hP hD
          have hP := z_PS (z_absBq (P := [(s, .inr (4, [.int (nI (stI q)), .int (nI (stN q)), .int (stO q), .int (stV q), .int (nI (stG q)), .int (nI (stS q)), .int (stM q), .ref ba, .ref ta])), (ba, .inl (cQ, Rb.length, .inr (.inr (.inr (.inr (qf (ad Rb))))))), (ta, .inl (cQ, Rt.length, .inr (.inr (.inr (.inr (qf (ad Rt)))))))]) (cI := cI) (v := q_7) (Rb := Rb) (RT := Rt.map tq) (Y := ((xA cI x a b f q) ++ ((xB cI b g q2) ++ []))) (t := (nI kd, zz))) hP
          have hD := z_DS (z_absBq (P := [(s, .inr (4, [.int (nI (stI q)), .int (nI (stN q)), .int (stO q), .int (stV q), .int (nI (stG q)), .int (nI (stS q)), .int (stM q), .ref ba, .ref ta])), (ba, .inl (cQ, Rb.length, .inr (.inr (.inr (.inr (qf (ad Rb))))))), (ta, .inl (cQ, Rt.length, .inr (.inr (.inr (.inr (qf (ad Rt)))))))]) (cI := cI) (v := q_7) (Rb := Rb) (RT := Rt.map tq) (Y := ((xA cI x a b f q) ++ ((xB cI b g q2) ++ []))) (t := (nI kd, zz))) hD
          have hP : va_P D vwCl ([(s, .inr (4, [.int (nI (stI q)), .int (nI (stN q)), .int (stO q), .int (stV q), .int (nI (stG q)), .int (nI (stS q)), .int (stM q), .ref ba, .ref ta])), (ba, .inl (cQ, Rb.length, .inr (.inr (.inr (.inr (qf (ad Rb))))))), (ta, .inl (cQ, Rt.length, .inr (.inr (.inr (.inr (qf (ad Rt)))))))] ++ ((sT cI ((Rb ++ [(q_7, (nI kd, zz))]).map bq) (Rt.map tq)) ++ ((xA cI x a b f q) ++ ((xB cI b g q2) ++ [])))) H := hP
          have hD : va_D A ([(s, .inr (4, [.int (nI (stI q)), .int (nI (stN q)), .int (stO q), .int (stV q), .int (nI (stG q)), .int (nI (stS q)), .int (stM q), .ref ba, .ref ta])), (ba, .inl (cQ, Rb.length, .inr (.inr (.inr (.inr (qf (ad Rb))))))), (ta, .inl (cQ, Rt.length, .inr (.inr (.inr (.inr (qf (ad Rt)))))))] ++ ((sT cI ((Rb ++ [(q_7, (nI kd, zz))]).map bq) (Rt.map tq)) ++ ((xA cI x a b f q) ++ ((xB cI b g q2) ++ [])))) := hD
          refine kz_callS (As := [.ref ba, .ref q_7]) (rest := [.ref s]) (wp := [(s, .inr (4, [.int (nI (stI q)), .int (nI (stN q)), .int (stO q), .int (stV q), .int (nI (stG q)), .int (nI (stS q)), .int (stM q), .ref ba, .ref ta])), (ba, .inl (cQ, Rb.length, .inr (.inr (.inr (.inr (qf (ad Rb))))))), (ta, .inl (cQ, Rt.length, .inr (.inr (.inr (.inr (qf (ad Rt)))))))]) (wc := [(ba, .inl (cQ, Rb.length, .inr (.inr (.inr (.inr (qf (ad Rb)))))))]) (wr := [(s, .inr (4, [.int (nI (stI q)), .int (nI (stN q)), .int (stO q), .int (stV q), .int (nI (stG q)), .int (nI (stS q)), .int (stM q), .ref ba, .ref ta])), (ta, .inl (cQ, Rt.length, .inr (.inr (.inr (.inr (qf (ad Rt)))))))]) (Z := ((sT cI ((Rb ++ [(q_7, (nI kd, zz))]).map bq) (Rt.map tq)) ++ ((xA cI x a b f q) ++ ((xB cI b g q2) ++ [])))) (X0 := ((sT cI ((Rb ++ [(q_7, (nI kd, zz))]).map bq) (Rt.map tq)) ++ ((xA cI x a b f q) ++ ((xB cI b g q2) ++ [])))) (Y := []) (wc1 := (fun (u : Nat) => [(ba, .inl (cQ, Rb.length, .inr (.inr (.inr (.inr (qf (ad Rb))))))), (u, .inl (cQ, Rb.length + 1, .inr (.inr (.inr (.inr (qf ((ad Rb) ++ [q_7])))))))])) (X1 := (fun (u : Nat) => ((sT cI ((Rb ++ [(q_7, (nI kd, zz))]).map bq) (Rt.map tq)) ++ ((xA cI x a b f q) ++ ((xB cI b g q2) ++ []))))) F (c_X4_with l D cI cQ ba q_7 Rb.length (ad Rb) ((sT cI ((Rb ++ [(q_7, (nI kd, zz))]).map bq) (Rt.map tq)) ++ ((xA cI x a b f q) ++ ((xB cI b g q2) ++ []))) ((zL_Bq (Rb := (Rb ++ [(q_7, (nI kd, zz))]))).sub app_mem) ((ad_len _).symm) (by rw [ad_len]; omega)) gL_act_X4_with rfl (nA := 2) (by decide +kernel) rfl ⟨Nat.le_of_ble_eq_true rfl, Nat.le_of_ble_eq_true rfl⟩ hK hP hD hS hA hG [1] [0, 2] rfl (by decide) z_permnil rfl (fun _ => rfl) [0, 1] rfl rfl hl.1 (Nat.le_of_ble_eq_true rfl) dL_act_145 ⟨Nat.le_of_ble_eq_true rfl, Nat.le_of_ble_eq_true rfl⟩ (fun r_8 u H locs hr_145 hP hD hS => ?_)
          obtain ⟨na_145, rfl⟩ : ∃ z, z = u := ⟨_, rfl⟩
          try dsimp only at hr_145
          have hP := z_PS z_nil hP
          have hD := z_DS z_nil hD
          have hP : va_P D vwCl ([(s, .inr (4, [.int (nI (stI q)), .int (nI (stN q)), .int (stO q), .int (stV q), .int (nI (stG q)), .int (nI (stS q)), .int (stM q), .ref ba, .ref ta])), (ta, .inl (cQ, Rt.length, .inr (.inr (.inr (.inr (qf (ad Rt))))))), (ba, .inl (cQ, Rb.length, .inr (.inr (.inr (.inr (qf (ad Rb))))))), (na_145, .inl (cQ, Rb.length + 1, .inr (.inr (.inr (.inr (qf ((ad Rb) ++ [q_7])))))))] ++ ((sT cI ((Rb ++ [(q_7, (nI kd, zz))]).map bq) (Rt.map tq)) ++ ((xA cI x a b f q) ++ ((xB cI b g q2) ++ [])))) H := hP
          have hD : va_D A ([(s, .inr (4, [.int (nI (stI q)), .int (nI (stN q)), .int (stO q), .int (stV q), .int (nI (stG q)), .int (nI (stS q)), .int (stM q), .ref ba, .ref ta])), (ta, .inl (cQ, Rt.length, .inr (.inr (.inr (.inr (qf (ad Rt))))))), (ba, .inl (cQ, Rb.length, .inr (.inr (.inr (.inr (qf (ad Rb))))))), (na_145, .inl (cQ, Rb.length + 1, .inr (.inr (.inr (.inr (qf ((ad Rb) ++ [q_7])))))))] ++ ((sT cI ((Rb ++ [(q_7, (nI kd, zz))]).map bq) (Rt.map tq)) ++ ((xA cI x a b f q) ++ ((xB cI b g q2) ++ [])))) := hD
          refine W.eq (g2 := F0 m 148 ls [.ref r_8, .ref s]) rfl ?_
          refine W.widen (k := 2) (n := 15) (Nat.le_refl _) (Nat.le_refl _) ?_
          refine k_topR (v := na_145) hr_145 ?_
          refine va_put (D := D) (ci := 4) (v := .ref na_145) (ty := (.array (.array .int))) (C := RX4) (T := TX4) (N := 9) hx hb hts iX4 tyX4 tyX4_ok nmX4 hown hK hP hD hS 0 rfl rfl 7 (by decide) f9 (fun _ h9 => h9) rfl (by decide +kernel) rfl rfl (Nat.le_of_ble_eq_true rfl) dL_act_148 (fun H locs hP hD hS => ?_)
          have hP : va_P D vwCl ([(s, .inr (4, [.int (nI (stI q)), .int (nI (stN q)), .int (stO q), .int (stV q), .int (nI (stG q)), .int (nI (stS q)), .int (stM q), .ref na_145, .ref ta])), (ta, .inl (cQ, Rt.length, .inr (.inr (.inr (.inr (qf (ad Rt))))))), (ba, .inl (cQ, Rb.length, .inr (.inr (.inr (.inr (qf (ad Rb))))))), (na_145, .inl (cQ, Rb.length + 1, .inr (.inr (.inr (.inr (qf ((ad Rb) ++ [q_7])))))))] ++ ((sT cI ((Rb ++ [(q_7, (nI kd, zz))]).map bq) (Rt.map tq)) ++ ((xA cI x a b f q) ++ ((xB cI b g q2) ++ [])))) H := hP
          have hD : va_D A ([(s, .inr (4, [.int (nI (stI q)), .int (nI (stN q)), .int (stO q), .int (stV q), .int (nI (stG q)), .int (nI (stS q)), .int (stM q), .ref na_145, .ref ta])), (ta, .inl (cQ, Rt.length, .inr (.inr (.inr (.inr (qf (ad Rt))))))), (ba, .inl (cQ, Rb.length, .inr (.inr (.inr (.inr (qf (ad Rb))))))), (na_145, .inl (cQ, Rb.length + 1, .inr (.inr (.inr (.inr (qf ((ad Rb) ++ [q_7])))))))] ++ ((sT cI ((Rb ++ [(q_7, (nI kd, zz))]).map bq) (Rt.map tq)) ++ ((xA cI x a b f q) ++ ((xB cI b g q2) ++ [])))) := hD
          refine lv_aload_n hx hb dL_act_151 rfl (lv_at hl 3 rfl) ?_
          refine lv_iload hx hb dL_act_152 (lv_at hl 1 rfl) ?_
          refine lv_iload hx hb dL_act_154 (lv_at hl 0 rfl) ?_
          refine kz_callX (As := [.int (nI kd), .int (nI zz)]) (rest := []) F (c_ZX3_put l D cI x a b f q kd zz hR bkd bzz (by omega)) gL_act_X3_put rfl (nA := 2) (by decide +kernel) rfl ⟨Nat.le_of_ble_eq_true rfl, Nat.le_of_ble_eq_true rfl⟩ hK hP hD hS hA hG (ci := 3) (q0 := 0) rfl rfl rfl zp_pn [0] rfl rfl hl.1 (Nat.le_of_ble_eq_true rfl) dL_act_156 ⟨Nat.le_of_ble_eq_true rfl, Nat.le_of_ble_eq_true rfl⟩ (fun r_9 u H locs hr_156 hP hD hS => ?_)
          obtain ⟨f2, rfl⟩ : ∃ z, z = u := ⟨_, rfl⟩
          try dsimp only at hr_156
          have hP := z_PS z_pnb hP
          have hD := z_DS z_pnb hD
          have hP : va_P D vwCl ([(s, .inr (4, [.int (nI (stI q)), .int (nI (stN q)), .int (stO q), .int (stV q), .int (nI (stG q)), .int (nI (stS q)), .int (stM q), .ref na_145, .ref ta])), (ta, .inl (cQ, Rt.length, .inr (.inr (.inr (.inr (qf (ad Rt))))))), (ba, .inl (cQ, Rb.length, .inr (.inr (.inr (.inr (qf (ad Rb))))))), (na_145, .inl (cQ, Rb.length + 1, .inr (.inr (.inr (.inr (qf ((ad Rb) ++ [q_7])))))))] ++ ((sT cI ((Rb ++ [(q_7, (nI kd, zz))]).map bq) (Rt.map tq)) ++ ((xA cI x a b f2 (setB q (app (stB q) (nI kd, zz)))) ++ ((xB cI b g q2) ++ [])))) H := hP
          have hD : va_D A ([(s, .inr (4, [.int (nI (stI q)), .int (nI (stN q)), .int (stO q), .int (stV q), .int (nI (stG q)), .int (nI (stS q)), .int (stM q), .ref na_145, .ref ta])), (ta, .inl (cQ, Rt.length, .inr (.inr (.inr (.inr (qf (ad Rt))))))), (ba, .inl (cQ, Rb.length, .inr (.inr (.inr (.inr (qf (ad Rb))))))), (na_145, .inl (cQ, Rb.length + 1, .inr (.inr (.inr (.inr (qf ((ad Rb) ++ [q_7])))))))] ++ ((sT cI ((Rb ++ [(q_7, (nI kd, zz))]).map bq) (Rt.map tq)) ++ ((xA cI x a b f2 (setB q (app (stB q) (nI kd, zz)))) ++ ((xB cI b g q2) ++ [])))) := hD
          refine W.eq (g2 := F0 m 159 ls [.int r_9]) rfl ?_
          refine W.widen (k := 2) (n := 15) (Nat.le_refl _) (Nat.le_refl _) ?_
          refine k_top (v := nI Rb.length) (hr_156.1.trans (by rw [hlB])) ?_
          refine lv_iload_n hx hb dL_act_159 rfl (lv_at hl 6 rfl) ?_
          refine k_cmp_ne (tgt := 172) hx hb Rb.length Rb.length rfl rfl (by omega) (by omega) dL_act_160 (by decide) (fun c_160 => ?_) (fun c_160 => ?_)
          · skip
            exact absurd rfl c_160
          · skip
            refine lv_iload hx hb dL_act_163 (lv_at hl 2 rfl) ?_
            refine k_if_eq (tgt := 172) hx hb 1 rfl (by omega) dL_act_165 (by decide) (fun c_165 => ?_) (fun c_165 => ?_)
            · exact absurd c_165 (by omega)
            · skip
              refine lv_iconst (v := nI 1) hx hb dL_act_168 (by decide +kernel) ?_
              refine lv_goto (tgt := 173) hx hb dL_act_169 (by decide) ?_
              exact ret (nI 1) ⟨f2, (setB q (app (stB q) (nI kd, zz))), na_145, ta, (Rb ++ [(q_7, (nI kd, zz))]), Rt⟩ _ _ _ _ _ _ rfl (⟨rfl, hr_156.2, (rQ_put hq (by omega)), (okQ_put hok bkd bzz), (Nat.le_add_right _ _)⟩) (z_subP hP [0, 3, 1] (by rw [ad_app, List.length_append]; rfl)) (z_subD hD [0, 3, 1] (by decide) (by rw [ad_app, List.length_append]; rfl)) hS (Nat.le_of_ble_eq_true rfl) (Nat.le_of_ble_eq_true rfl) dL_act_173
    rcases (show cs = 0 ∨ cs = 1 ∨ cs = 2 ∨ cs = 3 ∨ cs = 4 ∨ cs = 5 ∨ cs = 6 ∨ cs = 7 ∨ cs = 8 ∨ cs = 9 ∨ 10 ≤ cs by omega) with h9s | h9s | h9s | h9s | h9s | h9s | h9s | h9s | h9s | h9s | h9s
    · skip
      rw [h9s]
      refine lv_tableIn (x := nI 0) (off := 56) (tgt := 88) hx hb dL_act_32 (by decide +kernel) (by decide +kernel) (by decide +kernel) (by decide) ?_
      exact cut_88 () _ _ (z_subP hP [0, 1, 2] (rfl)) (z_subD hD [0, 1, 2] (by decide) (rfl)) hS _ (lv_sub hl [1, 2, 3, 4, 5, 0] (rfl))
    · skip
      rw [h9s]
      refine lv_tableIn (x := nI 1) (off := 56) (tgt := 88) hx hb dL_act_32 (by decide +kernel) (by decide +kernel) (by decide +kernel) (by decide) ?_
      exact cut_88 () _ _ (z_subP hP [0, 1, 2] (rfl)) (z_subD hD [0, 1, 2] (by decide) (rfl)) hS _ (lv_sub hl [1, 2, 3, 4, 5, 0] (rfl))
    · skip
      rw [h9s]
      refine lv_tableIn (x := nI 2) (off := 56) (tgt := 88) hx hb dL_act_32 (by decide +kernel) (by decide +kernel) (by decide +kernel) (by decide) ?_
      exact cut_88 () _ _ (z_subP hP [0, 1, 2] (rfl)) (z_subD hD [0, 1, 2] (by decide) (rfl)) hS _ (lv_sub hl [1, 2, 3, 4, 5, 0] (rfl))
    · skip
      rw [h9s]
      refine lv_tableIn (x := nI 3) (off := 56) (tgt := 88) hx hb dL_act_32 (by decide +kernel) (by decide +kernel) (by decide +kernel) (by decide) ?_
      exact cut_88 () _ _ (z_subP hP [0, 1, 2] (rfl)) (z_subD hD [0, 1, 2] (by decide) (rfl)) hS _ (lv_sub hl [1, 2, 3, 4, 5, 0] (rfl))
    · skip
      rw [h9s]
      refine lv_tableIn (x := nI 4) (off := 142) (tgt := 174) hx hb dL_act_32 (by decide +kernel) (by decide +kernel) (by decide +kernel) (by decide) ?_
      refine lv_iload_n hx hb dL_act_174 rfl (lv_at hl 4 rfl) ?_
      refine k_if_ne (tgt := 180) hx hb Rb.length rfl (by omega) dL_act_175 (by decide) (fun c_175 => ?_) (fun c_175 => ?_)
      · skip
        have hp9 := hpl.1 c_175
        have hpb : pl < (stB q).length := by omega
        have hml9 := mtq_len hp9
        have h99 := stB_okB hq.1 hO hp9
        refine lv_aload_n hx hb dL_act_180 rfl (lv_at hl 2 rfl) ?_
        refine lv_iload hx hb dL_act_181 (lv_at hl 5 rfl) ?_
        refine kz_callV (As := [.int (nI pl)]) (rest := []) (wp := [(s, .inr (4, [.int (nI (stI q)), .int (nI (stN q)), .int (stO q), .int (stV q), .int (nI (stG q)), .int (nI (stS q)), .int (stM q), .ref ba, .ref ta])), (ba, .inl (cQ, Rb.length, .inr (.inr (.inr (.inr (qf (ad Rb))))))), (ta, .inl (cQ, Rt.length, .inr (.inr (.inr (.inr (qf (ad Rt)))))))]) (wc := [(s, .inr (4, [.int (nI (stI q)), .int (nI (stN q)), .int (stO q), .int (stV q), .int (nI (stG q)), .int (nI (stS q)), .int (stM q), .ref ba, .ref ta])), (ba, .inl (cQ, Rb.length, .inr (.inr (.inr (.inr (qf (ad Rb)))))))]) (wr := [(ta, .inl (cQ, Rt.length, .inr (.inr (.inr (.inr (qf (ad Rt)))))))]) (Z := ((sT cI (Rb.map bq) (Rt.map tq)) ++ ((xA cI x a b f q) ++ ((xB cI b g q2) ++ [])))) (X0 := sT cI (Rb.map bq) (Rt.map tq)) (Y := ((xA cI x a b f q) ++ ((xB cI b g q2) ++ []))) (wc1 := (fun (u : Nat) => [(s, .inr (4, [.int (nI (stI q)), .int (nI (stN q)), .int (stO q), .int (stV q), .int (nI (stG q)), .int (nI (stS q)), .int (stM q), .ref u, .ref ta])), (u, .inl (cQ, (mtq Rb pl).length, .inr (.inr (.inr (.inr (qf (ad (mtq Rb pl))))))))])) (X1 := (fun (u : Nat) => (sT cI ((mtq Rb pl).map bq) (Rt.map tq)))) F (c_X4_push l D cI cQ s ba ta (nI (stI q)) (nI (stN q)) (stO q) (stV q) (nI (stG q)) (nI (stS q)) (stM q) Rb Rt pl hp9 hb12) gL_act_X4_push rfl (nA := 1) (by decide +kernel) rfl ⟨Nat.le_of_ble_eq_true rfl, Nat.le_of_ble_eq_true rfl⟩ hK hP hD hS hA hG (ci := 4) (q0 := 0) rfl rfl rfl [0, 1] [2] rfl (by decide) (List.Perm.refl _) (by rw [List.append_nil]) (fun u => by simp only [List.append_nil]) [0, 1] rfl rfl hl.1 (Nat.le_of_ble_eq_true rfl) dL_act_183 ⟨Nat.le_of_ble_eq_true rfl, Nat.le_of_ble_eq_true rfl⟩ (fun r_10 u H locs hr_183 hP hD hS => ?_)
        obtain ⟨b5, rfl⟩ : ∃ z, z = u := ⟨_, rfl⟩
        try dsimp only at hr_183
        have hP : va_P D vwCl ([(ta, .inl (cQ, Rt.length, .inr (.inr (.inr (.inr (qf (ad Rt))))))), (s, .inr (4, [.int (nI (stI q)), .int (nI (stN q)), .int (stO q), .int (stV q), .int (nI (stG q)), .int (nI (stS q)), .int (stM q), .ref b5, .ref ta])), (b5, .inl (cQ, (mtq Rb pl).length, .inr (.inr (.inr (.inr (qf (ad (mtq Rb pl))))))))] ++ ((sT cI ((mtq Rb pl).map bq) (Rt.map tq)) ++ ((xA cI x a b f q) ++ ((xB cI b g q2) ++ [])))) H := hP
        have hD : va_D A ([(ta, .inl (cQ, Rt.length, .inr (.inr (.inr (.inr (qf (ad Rt))))))), (s, .inr (4, [.int (nI (stI q)), .int (nI (stN q)), .int (stO q), .int (stV q), .int (nI (stG q)), .int (nI (stS q)), .int (stM q), .ref b5, .ref ta])), (b5, .inl (cQ, (mtq Rb pl).length, .inr (.inr (.inr (.inr (qf (ad (mtq Rb pl))))))))] ++ ((sT cI ((mtq Rb pl).map bq) (Rt.map tq)) ++ ((xA cI x a b f q) ++ ((xB cI b g q2) ++ [])))) := hD
        refine W.widen (k := 13) (n := 157) (Nat.le_refl _) (Nat.le_refl _) ?_
        refine lv_aload_n hx hb dL_act_186 rfl (lv_at hl 1 rfl) ?_
        refine lv_iload hx hb dL_act_187 (lv_at hl 5 rfl) ?_
        refine kz_callX (As := [.int (nI pl)]) (rest := []) F (c_ZX3_pushToFront l D cI x a b f q pl hR hpb) gL_act_X3_pushToFront rfl (nA := 1) (by decide +kernel) rfl ⟨Nat.le_of_ble_eq_true rfl, Nat.le_of_ble_eq_true rfl⟩ hK hP hD hS hA hG (ci := 3) (q0 := 0) rfl rfl rfl zp_pn [0] rfl rfl hl.1 (Nat.le_of_ble_eq_true rfl) dL_act_189 ⟨Nat.le_of_ble_eq_true rfl, Nat.le_of_ble_eq_true rfl⟩ (fun r_11 u H locs hr_189 hP hD hS => ?_)
        obtain ⟨f2, rfl⟩ : ∃ z, z = u := ⟨_, rfl⟩
        try dsimp only at hr_189
        have hP := z_PS z_pnb hP
        have hD := z_DS z_pnb hD
        have hP : va_P D vwCl ([(ta, .inl (cQ, Rt.length, .inr (.inr (.inr (.inr (qf (ad Rt))))))), (s, .inr (4, [.int (nI (stI q)), .int (nI (stN q)), .int (stO q), .int (stV q), .int (nI (stG q)), .int (nI (stS q)), .int (stM q), .ref b5, .ref ta])), (b5, .inl (cQ, (mtq Rb pl).length, .inr (.inr (.inr (.inr (qf (ad (mtq Rb pl))))))))] ++ ((sT cI ((mtq Rb pl).map bq) (Rt.map tq)) ++ ((xA cI x a b f2 (setB q (mtf (stB q) pl))) ++ ((xB cI b g q2) ++ [])))) H := hP
        have hD : va_D A ([(ta, .inl (cQ, Rt.length, .inr (.inr (.inr (.inr (qf (ad Rt))))))), (s, .inr (4, [.int (nI (stI q)), .int (nI (stN q)), .int (stO q), .int (stV q), .int (nI (stG q)), .int (nI (stS q)), .int (stM q), .ref b5, .ref ta])), (b5, .inl (cQ, (mtq Rb pl).length, .inr (.inr (.inr (.inr (qf (ad (mtq Rb pl))))))))] ++ ((sT cI ((mtq Rb pl).map bq) (Rt.map tq)) ++ ((xA cI x a b f2 (setB q (mtf (stB q) pl))) ++ ((xB cI b g q2) ++ [])))) := hD
        refine W.eq (g2 := F0 m 192 ls [.int r_11]) rfl ?_
        refine W.widen (k := 13) (n := 157) (Nat.le_refl _) (Nat.le_refl _) ?_
        refine k_top (v := nI ((Rb.getD pl bd).2.2)) (hr_189.1.trans (by rw [hq.1, sn_gd])) ?_
        refine lv_aload_n hx hb dL_act_192 rfl (lv_at hl 2 rfl) ?_
        refine va_get (D := D) (ci := 4) (v := .ref b5) (C := RX4) (T := TX4) (N := 9) hx hb hts iX4 hown hK hP 1 rfl rfl 7 (by decide) f9 (fun _ h9 => h9) rfl dL_act_193 ?_
        refine lv_iconst (v := nI 0) hx hb dL_act_196 (by decide +kernel) ?_
        refine z_qld hx hb hK hP 2 1 rfl rfl 0 rfl ((by rw [mtq_len hp9]; omega)) (by omega) (((mtq Rb pl).getD 0 bd).1) (ad_q (by rw [mtq_len hp9]; omega)) dL_act_197 ?_
        refine lv_iconst (v := nI 0) hx hb dL_act_198 (by decide +kernel) ?_
        refine z_bld hx hb hK hP 0 rfl 0 (mp_len (by rw [mtq_len hp9]; omega)) (bq_1 (by rw [mtq_len hp9]; omega)) 0 rfl (by decide) (nI ((Rb.getD pl bd).2.2)) (bq_s (R := mtq Rb pl) (i := 0) (by rw [mtq_len hp9]; omega)) dL_act_199 ?_
        refine k_cmp_ne (tgt := 207) hx hb ((Rb.getD pl bd).2.2) ((Rb.getD pl bd).2.2) rfl rfl (by omega) (by omega) dL_act_200 (by decide) (fun c_200 => ?_) (fun c_200 => ?_)
        · skip
          exact absurd rfl c_200
        · skip
          refine lv_iconst (v := nI 1) hx hb dL_act_203 (by decide +kernel) ?_
          refine lv_goto (tgt := 208) hx hb dL_act_204 (by decide) ?_
          exact ret (nI 1) ⟨f2, (setB q (mtf (stB q) pl)), b5, ta, mtq Rb pl, Rt⟩ _ _ _ _ _ _ rfl (⟨rfl, hr_189.2, (rQ_mtf hq), (okQ_mtf hok hpb), (Nat.le_add_right _ _)⟩) (z_subP hP [1, 2, 0] (rfl)) (z_subD hD [1, 2, 0] (by decide) (rfl)) hS (Nat.le_of_ble_eq_true rfl) (Nat.le_of_ble_eq_true rfl) dL_act_208
      · skip
        refine lv_iconst (v := nI 1) hx hb dL_act_178 (by decide +kernel) ?_
        exact ret (nI 1) ⟨f, q, ba, ta, Rb, Rt⟩ _ _ _ _ _ _ rfl (⟨rfl, hR, hq, hok, (Nat.le_add_right _ _)⟩) (z_subP hP [0, 1, 2] (rfl)) (z_subD hD [0, 1, 2] (by decide) (rfl)) hS (Nat.le_of_ble_eq_true rfl) (Nat.le_of_ble_eq_true rfl) dL_act_179
    · skip
      rw [h9s]
      refine lv_tableIn (x := nI 5) (off := 177) (tgt := 209) hx hb dL_act_32 (by decide +kernel) (by decide +kernel) (by decide +kernel) (by decide) ?_
      refine lv_iload_n hx hb dL_act_209 rfl (lv_at hl 4 rfl) ?_
      refine k_if_ne (tgt := 215) hx hb Rb.length rfl (by omega) dL_act_210 (by decide) (fun c_210 => ?_) (fun c_210 => ?_)
      · skip
        have hp9 := hpl.1 c_210
        have hpb : pl < (stB q).length := by omega
        refine lv_aload_n hx hb dL_act_215 rfl (lv_at hl 2 rfl) ?_
        refine lv_iload hx hb dL_act_216 (lv_at hl 5 rfl) ?_
        refine kz_callV (As := [.int (nI pl)]) (rest := []) (wp := [(s, .inr (4, [.int (nI (stI q)), .int (nI (stN q)), .int (stO q), .int (stV q), .int (nI (stG q)), .int (nI (stS q)), .int (stM q), .ref ba, .ref ta])), (ba, .inl (cQ, Rb.length, .inr (.inr (.inr (.inr (qf (ad Rb))))))), (ta, .inl (cQ, Rt.length, .inr (.inr (.inr (.inr (qf (ad Rt)))))))]) (wc := [(s, .inr (4, [.int (nI (stI q)), .int (nI (stN q)), .int (stO q), .int (stV q), .int (nI (stG q)), .int (nI (stS q)), .int (stM q), .ref ba, .ref ta])), (ba, .inl (cQ, Rb.length, .inr (.inr (.inr (.inr (qf (ad Rb)))))))]) (wr := [(ta, .inl (cQ, Rt.length, .inr (.inr (.inr (.inr (qf (ad Rt)))))))]) (Z := ((sT cI (Rb.map bq) (Rt.map tq)) ++ ((xA cI x a b f q) ++ ((xB cI b g q2) ++ [])))) (X0 := sT cI (Rb.map bq) (Rt.map tq)) (Y := ((xA cI x a b f q) ++ ((xB cI b g q2) ++ []))) (wc1 := (fun (u : Nat) => [(s, .inr (4, [.int (nI (stI q)), .int (nI (stN q)), .int (stO q), .int (stV q), .int (nI (stG q)), .int (nI (stS q)), .int (stM q), .ref u, .ref ta])), (u, .inl (cQ, (Rb.eraseIdx pl).length, .inr (.inr (.inr (.inr (qf (ad (Rb.eraseIdx pl))))))))])) (X1 := (fun (u : Nat) => (sT cI ((Rb.eraseIdx pl).map bq) (Rt.map tq)))) F (c_X4_drop l D cI cQ s ba ta (nI (stI q)) (nI (stN q)) (stO q) (stV q) (nI (stG q)) (nI (stS q)) (stM q) Rb Rt pl hp9 hb12) gL_act_X4_drop rfl (nA := 1) (by decide +kernel) rfl ⟨Nat.le_of_ble_eq_true rfl, Nat.le_of_ble_eq_true rfl⟩ hK hP hD hS hA hG (ci := 4) (q0 := 0) rfl rfl rfl [0, 1] [2] rfl (by decide) (List.Perm.refl _) (by rw [List.append_nil]) (fun u => by simp only [List.append_nil]) [0, 1] rfl rfl hl.1 (Nat.le_of_ble_eq_true rfl) dL_act_218 ⟨Nat.le_of_ble_eq_true rfl, Nat.le_of_ble_eq_true rfl⟩ (fun r_12 u H locs hr_218 hP hD hS => ?_)
        obtain ⟨b5, rfl⟩ : ∃ z, z = u := ⟨_, rfl⟩
        try dsimp only at hr_218
        have hP : va_P D vwCl ([(ta, .inl (cQ, Rt.length, .inr (.inr (.inr (.inr (qf (ad Rt))))))), (s, .inr (4, [.int (nI (stI q)), .int (nI (stN q)), .int (stO q), .int (stV q), .int (nI (stG q)), .int (nI (stS q)), .int (stM q), .ref b5, .ref ta])), (b5, .inl (cQ, (Rb.eraseIdx pl).length, .inr (.inr (.inr (.inr (qf (ad (Rb.eraseIdx pl))))))))] ++ ((sT cI ((Rb.eraseIdx pl).map bq) (Rt.map tq)) ++ ((xA cI x a b f q) ++ ((xB cI b g q2) ++ [])))) H := hP
        have hD : va_D A ([(ta, .inl (cQ, Rt.length, .inr (.inr (.inr (.inr (qf (ad Rt))))))), (s, .inr (4, [.int (nI (stI q)), .int (nI (stN q)), .int (stO q), .int (stV q), .int (nI (stG q)), .int (nI (stS q)), .int (stM q), .ref b5, .ref ta])), (b5, .inl (cQ, (Rb.eraseIdx pl).length, .inr (.inr (.inr (.inr (qf (ad (Rb.eraseIdx pl))))))))] ++ ((sT cI ((Rb.eraseIdx pl).map bq) (Rt.map tq)) ++ ((xA cI x a b f q) ++ ((xB cI b g q2) ++ [])))) := hD
        refine W.widen (k := 13) (n := 157) (Nat.le_refl _) (Nat.le_refl _) ?_
        refine lv_aload_n hx hb dL_act_221 rfl (lv_at hl 1 rfl) ?_
        refine lv_iload hx hb dL_act_222 (lv_at hl 5 rfl) ?_
        refine kz_callX (As := [.int (nI pl)]) (rest := []) F (c_ZX3_drop l D cI x a b f q pl hR hpb) gL_act_X3_drop rfl (nA := 1) (by decide +kernel) rfl ⟨Nat.le_of_ble_eq_true rfl, Nat.le_of_ble_eq_true rfl⟩ hK hP hD hS hA hG (ci := 3) (q0 := 0) rfl rfl rfl zp_pn [0] rfl rfl hl.1 (Nat.le_of_ble_eq_true rfl) dL_act_224 ⟨Nat.le_of_ble_eq_true rfl, Nat.le_of_ble_eq_true rfl⟩ (fun r_13 u H locs hr_224 hP hD hS => ?_)
        obtain ⟨f2, rfl⟩ : ∃ z, z = u := ⟨_, rfl⟩
        try dsimp only at hr_224
        have hP := z_PS z_pnb hP
        have hD := z_DS z_pnb hD
        have hP : va_P D vwCl ([(ta, .inl (cQ, Rt.length, .inr (.inr (.inr (.inr (qf (ad Rt))))))), (s, .inr (4, [.int (nI (stI q)), .int (nI (stN q)), .int (stO q), .int (stV q), .int (nI (stG q)), .int (nI (stS q)), .int (stM q), .ref b5, .ref ta])), (b5, .inl (cQ, (Rb.eraseIdx pl).length, .inr (.inr (.inr (.inr (qf (ad (Rb.eraseIdx pl))))))))] ++ ((sT cI ((Rb.eraseIdx pl).map bq) (Rt.map tq)) ++ ((xA cI x a b f2 (setB q ((stB q).eraseIdx pl))) ++ ((xB cI b g q2) ++ [])))) H := hP
        have hD : va_D A ([(ta, .inl (cQ, Rt.length, .inr (.inr (.inr (.inr (qf (ad Rt))))))), (s, .inr (4, [.int (nI (stI q)), .int (nI (stN q)), .int (stO q), .int (stV q), .int (nI (stG q)), .int (nI (stS q)), .int (stM q), .ref b5, .ref ta])), (b5, .inl (cQ, (Rb.eraseIdx pl).length, .inr (.inr (.inr (.inr (qf (ad (Rb.eraseIdx pl))))))))] ++ ((sT cI ((Rb.eraseIdx pl).map bq) (Rt.map tq)) ++ ((xA cI x a b f2 (setB q ((stB q).eraseIdx pl))) ++ ((xB cI b g q2) ++ [])))) := hD
        refine W.eq (g2 := F0 m 227 ls [.int r_13]) rfl ?_
        refine W.widen (k := 13) (n := 157) (Nat.le_refl _) (Nat.le_refl _) ?_
        refine k_top (v := nI (Rb.length - 1)) (hr_224.1.trans (by rw [er_len hpb, hlB])) ?_
        refine lv_iload_n hx hb dL_act_227 rfl (lv_at hl 4 rfl) ?_
        refine lv_iconst (v := nI 1) hx hb dL_act_228 (by decide +kernel) ?_
        refine k_isub hx hb (nI (Rb.length - 1)) (pk_sub (by omega)) dL_act_229 ?_
        refine k_cmp_ne (tgt := 237) hx hb (Rb.length - 1) (Rb.length - 1) rfl rfl (by omega) (by omega) dL_act_230 (by decide) (fun c_230 => ?_) (fun c_230 => ?_)
        · skip
          exact absurd rfl c_230
        · skip
          refine lv_iconst (v := nI 1) hx hb dL_act_233 (by decide +kernel) ?_
          refine lv_goto (tgt := 238) hx hb dL_act_234 (by decide) ?_
          exact ret (nI 1) ⟨f2, (setB q ((stB q).eraseIdx pl)), b5, ta, Rb.eraseIdx pl, Rt⟩ _ _ _ _ _ _ rfl (⟨rfl, hr_224.2, (rQ_er hq), (okQ_er hok hpb), (Nat.le_add_right _ _)⟩) (z_subP hP [1, 2, 0] (rfl)) (z_subD hD [1, 2, 0] (by decide) (rfl)) hS (Nat.le_of_ble_eq_true rfl) (Nat.le_of_ble_eq_true rfl) dL_act_238
      · skip
        refine lv_iconst (v := nI 1) hx hb dL_act_213 (by decide +kernel) ?_
        exact ret (nI 1) ⟨f, q, ba, ta, Rb, Rt⟩ _ _ _ _ _ _ rfl (⟨rfl, hR, hq, hok, (Nat.le_add_right _ _)⟩) (z_subP hP [0, 1, 2] (rfl)) (z_subD hD [0, 1, 2] (by decide) (rfl)) hS (Nat.le_of_ble_eq_true rfl) (Nat.le_of_ble_eq_true rfl) dL_act_214
    · skip
      rw [h9s]
      refine lv_tableIn (x := nI 6) (off := 207) (tgt := 239) hx hb dL_act_32 (by decide +kernel) (by decide +kernel) (by decide +kernel) (by decide) ?_
      refine lv_aload_n hx hb dL_act_239 rfl (lv_at hl 2 rfl) ?_
      refine va_get (D := D) (ci := 4) (v := .int (nI (stG q))) (C := RX4) (T := TX4) (N := 9) hx hb hts iX4 hown hK hP 0 rfl rfl 4 (by decide) f43 (fun _ h9 => h9) rfl dL_act_240 ?_
      refine lv_istore (lv' := [(6, .int (nI (stG q))), (5, .int (nI 1)), (0, .ref x), (1, .ref s), (2, .int v), (3, .int (nI Rb.length)), (4, .int (nI pl))]) hx hb dL_act_243 hl (by decide) rfl (fun ls hl => ?_)
      refine lv_aload_n hx hb dL_act_245 rfl (lv_at hl 3 rfl) ?_
      refine lv_iconst (v := nI 2) hx hb dL_act_246 (by decide +kernel) ?_
      refine lv_iload_n hx hb dL_act_247 rfl (lv_at hl 4 rfl) ?_
      refine lv_iconst (v := nI 4) hx hb dL_act_248 (by decide +kernel) ?_
      refine lv_ishr hx hb dL_act_249 ?_
      refine lv_bipush (v := nI 8) hx hb dL_act_250 (by decide +kernel) ?_
      refine kz_callS (As := [.int (v >>> ((nI 4) &&& 31)), .int (nI 8)]) (rest := [.int (nI 2), .ref s]) (wp := [(s, .inr (4, [.int (nI (stI q)), .int (nI (stN q)), .int (stO q), .int (stV q), .int (nI (stG q)), .int (nI (stS q)), .int (stM q), .ref ba, .ref ta])), (ba, .inl (cQ, Rb.length, .inr (.inr (.inr (.inr (qf (ad Rb))))))), (ta, .inl (cQ, Rt.length, .inr (.inr (.inr (.inr (qf (ad Rt)))))))]) (wc := []) (wr := [(s, .inr (4, [.int (nI (stI q)), .int (nI (stN q)), .int (stO q), .int (stV q), .int (nI (stG q)), .int (nI (stS q)), .int (stM q), .ref ba, .ref ta])), (ba, .inl (cQ, Rb.length, .inr (.inr (.inr (.inr (qf (ad Rb))))))), (ta, .inl (cQ, Rt.length, .inr (.inr (.inr (.inr (qf (ad Rt)))))))]) (Z := ((sT cI (Rb.map bq) (Rt.map tq)) ++ ((xA cI x a b f q) ++ ((xB cI b g q2) ++ [])))) (X0 := []) (Y := ((sT cI (Rb.map bq) (Rt.map tq)) ++ ((xA cI x a b f q) ++ ((xB cI b g q2) ++ [])))) (wc1 := (fun (u : Unit) => [])) (X1 := (fun (u : Unit) => [])) F (c_L_below l D cI (v >>> ((nI 4) &&& 31)) 8 (by decide)) gL_act_L_below rfl (nA := 2) (by decide +kernel) rfl ⟨Nat.le_of_ble_eq_true rfl, Nat.le_of_ble_eq_true rfl⟩ hK hP hD hS hA hG [] [0, 1, 2] rfl (by decide) (List.Perm.refl _) (List.append_nil _).symm (fun _ => (List.append_nil _).symm) [0] rfl rfl hl.1 (Nat.le_of_ble_eq_true rfl) dL_act_252 ⟨Nat.le_of_ble_eq_true rfl, Nat.le_of_ble_eq_true rfl⟩ (fun r_14 u H locs hr_252 hP hD hS => ?_)
      try dsimp only at hr_252
      have hP : va_P D vwCl ([(s, .inr (4, [.int (nI (stI q)), .int (nI (stN q)), .int (stO q), .int (stV q), .int (nI (stG q)), .int (nI (stS q)), .int (stM q), .ref ba, .ref ta])), (ba, .inl (cQ, Rb.length, .inr (.inr (.inr (.inr (qf (ad Rb))))))), (ta, .inl (cQ, Rt.length, .inr (.inr (.inr (.inr (qf (ad Rt)))))))] ++ ((sT cI (Rb.map bq) (Rt.map tq)) ++ ((xA cI x a b f q) ++ ((xB cI b g q2) ++ [])))) H := hP
      have hD : va_D A ([(s, .inr (4, [.int (nI (stI q)), .int (nI (stN q)), .int (stO q), .int (stV q), .int (nI (stG q)), .int (nI (stS q)), .int (stM q), .ref ba, .ref ta])), (ba, .inl (cQ, Rb.length, .inr (.inr (.inr (.inr (qf (ad Rb))))))), (ta, .inl (cQ, Rt.length, .inr (.inr (.inr (.inr (qf (ad Rt)))))))] ++ ((sT cI (Rb.map bq) (Rt.map tq)) ++ ((xA cI x a b f q) ++ ((xB cI b g q2) ++ [])))) := hD
      refine W.eq (g2 := F0 m 255 ls [.int r_14, .int (nI 2), .ref s]) rfl ?_
      refine W.widen (k := 0) (n := 0) (Nat.le_refl _) (Nat.le_refl _) ?_
      refine k_top (v := nI (bw (v >>> ((nI 4) &&& 31)) 8)) (hr_252) ?_
      obtain ⟨gg, hgg, bgg⟩ : ∃ z, 2 + (bw (v >>> ((nI 4) &&& 31)) 8) = z ∧ (2 ≤ z ∧ z ≤ 9) := ⟨_, rfl, by have := bw_lt (v >>> ((nI 4) &&& 31)) (n := 8) (by decide); omega⟩
      refine k_iadd hx hb (nI gg) (by rw [nI_add, hgg]) dL_act_255 ?_
      refine va_put (D := D) (ci := 4) (v := .int (nI gg)) (ty := .int) (C := RX4) (T := TX4) (N := 9) hx hb hts iX4 tyX4 tyX4_ok nmX4 hown hK hP hD hS 0 rfl rfl 4 (by decide) f43 (fun _ h9 => h9) rfl (by decide +kernel) rfl rfl (Nat.le_of_ble_eq_true rfl) dL_act_256 (fun H locs hP hD hS => ?_)
      have hP : va_P D vwCl ([(s, .inr (4, [.int (nI (stI q)), .int (nI (stN q)), .int (stO q), .int (stV q), .int (nI gg), .int (nI (stS q)), .int (stM q), .ref ba, .ref ta])), (ba, .inl (cQ, Rb.length, .inr (.inr (.inr (.inr (qf (ad Rb))))))), (ta, .inl (cQ, Rt.length, .inr (.inr (.inr (.inr (qf (ad Rt)))))))] ++ ((sT cI (Rb.map bq) (Rt.map tq)) ++ ((xA cI x a b f q) ++ ((xB cI b g q2) ++ [])))) H := hP
      have hD : va_D A ([(s, .inr (4, [.int (nI (stI q)), .int (nI (stN q)), .int (stO q), .int (stV q), .int (nI gg), .int (nI (stS q)), .int (stM q), .ref ba, .ref ta])), (ba, .inl (cQ, Rb.length, .inr (.inr (.inr (.inr (qf (ad Rb))))))), (ta, .inl (cQ, Rt.length, .inr (.inr (.inr (.inr (qf (ad Rt)))))))] ++ ((sT cI (Rb.map bq) (Rt.map tq)) ++ ((xA cI x a b f q) ++ ((xB cI b g q2) ++ [])))) := hD
      refine lv_aload_n hx hb dL_act_259 rfl (lv_at hl 2 rfl) ?_
      refine lv_aload_n hx hb dL_act_260 rfl (lv_at hl 3 rfl) ?_
      refine va_get (D := D) (ci := 4) (v := .int (nI gg)) (C := RX4) (T := TX4) (N := 9) hx hb hts iX4 hown hK hP 0 rfl rfl 4 (by decide) f43 (fun _ h9 => h9) rfl dL_act_261 ?_
      refine kz_callX (As := [.int (nI gg)]) (rest := []) F (c_ZX3_setGear l D cI x a b f q gg bgg) gL_act_X3_setGear rfl (nA := 1) (by decide +kernel) rfl ⟨Nat.le_of_ble_eq_true rfl, Nat.le_of_ble_eq_true rfl⟩ hK hP hD hS hA hG (ci := 3) (q0 := 0) rfl rfl rfl zp_pn [0] rfl rfl hl.1 (Nat.le_of_ble_eq_true rfl) dL_act_264 ⟨Nat.le_of_ble_eq_true rfl, Nat.le_of_ble_eq_true rfl⟩ (fun r_15 u H locs hr_264 hP hD hS => ?_)
      try dsimp only at hr_264
      have hP := z_PS z_pnb hP
      have hD := z_DS z_pnb hD
      have hP : va_P D vwCl ([(s, .inr (4, [.int (nI (stI q)), .int (nI (stN q)), .int (stO q), .int (stV q), .int (nI gg), .int (nI (stS q)), .int (stM q), .ref ba, .ref ta])), (ba, .inl (cQ, Rb.length, .inr (.inr (.inr (.inr (qf (ad Rb))))))), (ta, .inl (cQ, Rt.length, .inr (.inr (.inr (.inr (qf (ad Rt)))))))] ++ ((sT cI (Rb.map bq) (Rt.map tq)) ++ ((xA cI x a b f (setG q gg)) ++ ((xB cI b g q2) ++ [])))) H := hP
      have hD : va_D A ([(s, .inr (4, [.int (nI (stI q)), .int (nI (stN q)), .int (stO q), .int (stV q), .int (nI gg), .int (nI (stS q)), .int (stM q), .ref ba, .ref ta])), (ba, .inl (cQ, Rb.length, .inr (.inr (.inr (.inr (qf (ad Rb))))))), (ta, .inl (cQ, Rt.length, .inr (.inr (.inr (.inr (qf (ad Rt)))))))] ++ ((sT cI (Rb.map bq) (Rt.map tq)) ++ ((xA cI x a b f (setG q gg)) ++ ((xB cI b g q2) ++ [])))) := hD
      refine W.eq (g2 := F0 m 267 ls [.int r_15]) rfl ?_
      refine W.widen (k := 0) (n := 0) (Nat.le_refl _) (Nat.le_refl _) ?_
      refine k_top (v := nI (stG q)) (hr_264) ?_
      refine lv_iload hx hb dL_act_267 (lv_at hl 0 rfl) ?_
      refine k_cmp_ne (tgt := 276) hx hb (stG q) (stG q) rfl rfl (by omega) (by omega) dL_act_269 (by decide) (fun c_269 => ?_) (fun c_269 => ?_)
      · skip
        exact absurd rfl c_269
      · skip
        refine lv_iconst (v := nI 1) hx hb dL_act_272 (by decide +kernel) ?_
        refine lv_goto (tgt := 277) hx hb dL_act_273 (by decide) ?_
        exact ret (nI 1) ⟨f, (setG q gg), ba, ta, Rb, Rt⟩ _ _ _ _ _ _ rfl (⟨rfl, hR, hq, (okQ_setG hok bgg), (Nat.le_add_right _ _)⟩) (z_subP hP [0, 1, 2] (rfl)) (z_subD hD [0, 1, 2] (by decide) (rfl)) hS (Nat.le_of_ble_eq_true rfl) (Nat.le_of_ble_eq_true rfl) dL_act_277
    · skip
      rw [h9s]
      refine lv_tableIn (x := nI 7) (off := 246) (tgt := 278) hx hb dL_act_32 (by decide +kernel) (by decide +kernel) (by decide +kernel) (by decide) ?_
      refine lv_aload_n hx hb dL_act_278 rfl (lv_at hl 2 rfl) ?_
      refine va_get (D := D) (ci := 4) (v := .int (nI (stS q))) (C := RX4) (T := TX4) (N := 9) hx hb hts iX4 hown hK hP 0 rfl rfl 5 (by decide) f50 (fun _ h9 => h9) rfl dL_act_279 ?_
      refine lv_istore (lv' := [(6, .int (nI (stS q))), (5, .int (nI 1)), (0, .ref x), (1, .ref s), (2, .int v), (3, .int (nI Rb.length)), (4, .int (nI pl))]) hx hb dL_act_282 hl (by decide) rfl (fun ls hl => ?_)
      refine lv_aload_n hx hb dL_act_284 rfl (lv_at hl 3 rfl) ?_
      refine lv_iconst (v := nI 1) hx hb dL_act_285 (by decide +kernel) ?_
      refine lv_iload_n hx hb dL_act_286 rfl (lv_at hl 4 rfl) ?_
      refine lv_iconst (v := nI 4) hx hb dL_act_287 (by decide +kernel) ?_
      refine lv_ishr hx hb dL_act_288 ?_
      refine lv_iconst (v := nI 4) hx hb dL_act_289 (by decide +kernel) ?_
      refine kz_callS (As := [.int (v >>> ((nI 4) &&& 31)), .int (nI 4)]) (rest := [.int (nI 1), .ref s]) (wp := [(s, .inr (4, [.int (nI (stI q)), .int (nI (stN q)), .int (stO q), .int (stV q), .int (nI (stG q)), .int (nI (stS q)), .int (stM q), .ref ba, .ref ta])), (ba, .inl (cQ, Rb.length, .inr (.inr (.inr (.inr (qf (ad Rb))))))), (ta, .inl (cQ, Rt.length, .inr (.inr (.inr (.inr (qf (ad Rt)))))))]) (wc := []) (wr := [(s, .inr (4, [.int (nI (stI q)), .int (nI (stN q)), .int (stO q), .int (stV q), .int (nI (stG q)), .int (nI (stS q)), .int (stM q), .ref ba, .ref ta])), (ba, .inl (cQ, Rb.length, .inr (.inr (.inr (.inr (qf (ad Rb))))))), (ta, .inl (cQ, Rt.length, .inr (.inr (.inr (.inr (qf (ad Rt)))))))]) (Z := ((sT cI (Rb.map bq) (Rt.map tq)) ++ ((xA cI x a b f q) ++ ((xB cI b g q2) ++ [])))) (X0 := []) (Y := ((sT cI (Rb.map bq) (Rt.map tq)) ++ ((xA cI x a b f q) ++ ((xB cI b g q2) ++ [])))) (wc1 := (fun (u : Unit) => [])) (X1 := (fun (u : Unit) => [])) F (c_L_below l D cI (v >>> ((nI 4) &&& 31)) 4 (by decide)) gL_act_L_below rfl (nA := 2) (by decide +kernel) rfl ⟨Nat.le_of_ble_eq_true rfl, Nat.le_of_ble_eq_true rfl⟩ hK hP hD hS hA hG [] [0, 1, 2] rfl (by decide) (List.Perm.refl _) (List.append_nil _).symm (fun _ => (List.append_nil _).symm) [0] rfl rfl hl.1 (Nat.le_of_ble_eq_true rfl) dL_act_290 ⟨Nat.le_of_ble_eq_true rfl, Nat.le_of_ble_eq_true rfl⟩ (fun r_16 u H locs hr_290 hP hD hS => ?_)
      try dsimp only at hr_290
      have hP : va_P D vwCl ([(s, .inr (4, [.int (nI (stI q)), .int (nI (stN q)), .int (stO q), .int (stV q), .int (nI (stG q)), .int (nI (stS q)), .int (stM q), .ref ba, .ref ta])), (ba, .inl (cQ, Rb.length, .inr (.inr (.inr (.inr (qf (ad Rb))))))), (ta, .inl (cQ, Rt.length, .inr (.inr (.inr (.inr (qf (ad Rt)))))))] ++ ((sT cI (Rb.map bq) (Rt.map tq)) ++ ((xA cI x a b f q) ++ ((xB cI b g q2) ++ [])))) H := hP
      have hD : va_D A ([(s, .inr (4, [.int (nI (stI q)), .int (nI (stN q)), .int (stO q), .int (stV q), .int (nI (stG q)), .int (nI (stS q)), .int (stM q), .ref ba, .ref ta])), (ba, .inl (cQ, Rb.length, .inr (.inr (.inr (.inr (qf (ad Rb))))))), (ta, .inl (cQ, Rt.length, .inr (.inr (.inr (.inr (qf (ad Rt)))))))] ++ ((sT cI (Rb.map bq) (Rt.map tq)) ++ ((xA cI x a b f q) ++ ((xB cI b g q2) ++ [])))) := hD
      refine W.eq (g2 := F0 m 293 ls [.int r_16, .int (nI 1), .ref s]) rfl ?_
      refine W.widen (k := 0) (n := 0) (Nat.le_refl _) (Nat.le_refl _) ?_
      refine k_top (v := nI (bw (v >>> ((nI 4) &&& 31)) 4)) (hr_290) ?_
      obtain ⟨so, hso, bso⟩ : ∃ z, 1 + (bw (v >>> ((nI 4) &&& 31)) 4) = z ∧ (1 ≤ z ∧ z ≤ 4) := ⟨_, rfl, by have := bw_lt (v >>> ((nI 4) &&& 31)) (n := 4) (by decide); omega⟩
      refine k_iadd hx hb (nI so) (by rw [nI_add, hso]) dL_act_293 ?_
      refine va_put (D := D) (ci := 4) (v := .int (nI so)) (ty := .int) (C := RX4) (T := TX4) (N := 9) hx hb hts iX4 tyX4 tyX4_ok nmX4 hown hK hP hD hS 0 rfl rfl 5 (by decide) f50 (fun _ h9 => h9) rfl (by decide +kernel) rfl rfl (Nat.le_of_ble_eq_true rfl) dL_act_294 (fun H locs hP hD hS => ?_)
      have hP : va_P D vwCl ([(s, .inr (4, [.int (nI (stI q)), .int (nI (stN q)), .int (stO q), .int (stV q), .int (nI (stG q)), .int (nI so), .int (stM q), .ref ba, .ref ta])), (ba, .inl (cQ, Rb.length, .inr (.inr (.inr (.inr (qf (ad Rb))))))), (ta, .inl (cQ, Rt.length, .inr (.inr (.inr (.inr (qf (ad Rt)))))))] ++ ((sT cI (Rb.map bq) (Rt.map tq)) ++ ((xA cI x a b f q) ++ ((xB cI b g q2) ++ [])))) H := hP
      have hD : va_D A ([(s, .inr (4, [.int (nI (stI q)), .int (nI (stN q)), .int (stO q), .int (stV q), .int (nI (stG q)), .int (nI so), .int (stM q), .ref ba, .ref ta])), (ba, .inl (cQ, Rb.length, .inr (.inr (.inr (.inr (qf (ad Rb))))))), (ta, .inl (cQ, Rt.length, .inr (.inr (.inr (.inr (qf (ad Rt)))))))] ++ ((sT cI (Rb.map bq) (Rt.map tq)) ++ ((xA cI x a b f q) ++ ((xB cI b g q2) ++ [])))) := hD
      refine lv_aload_n hx hb dL_act_297 rfl (lv_at hl 2 rfl) ?_
      refine lv_aload_n hx hb dL_act_298 rfl (lv_at hl 3 rfl) ?_
      refine va_get (D := D) (ci := 4) (v := .int (nI so)) (C := RX4) (T := TX4) (N := 9) hx hb hts iX4 hown hK hP 0 rfl rfl 5 (by decide) f50 (fun _ h9 => h9) rfl dL_act_299 ?_
      refine kz_callX (As := [.int (nI so)]) (rest := []) F (c_ZX3_setStones l D cI x a b f q so bso) gL_act_X3_setStones rfl (nA := 1) (by decide +kernel) rfl ⟨Nat.le_of_ble_eq_true rfl, Nat.le_of_ble_eq_true rfl⟩ hK hP hD hS hA hG (ci := 3) (q0 := 0) rfl rfl rfl zp_pn [0] rfl rfl hl.1 (Nat.le_of_ble_eq_true rfl) dL_act_302 ⟨Nat.le_of_ble_eq_true rfl, Nat.le_of_ble_eq_true rfl⟩ (fun r_17 u H locs hr_302 hP hD hS => ?_)
      try dsimp only at hr_302
      have hP := z_PS z_pnb hP
      have hD := z_DS z_pnb hD
      have hP : va_P D vwCl ([(s, .inr (4, [.int (nI (stI q)), .int (nI (stN q)), .int (stO q), .int (stV q), .int (nI (stG q)), .int (nI so), .int (stM q), .ref ba, .ref ta])), (ba, .inl (cQ, Rb.length, .inr (.inr (.inr (.inr (qf (ad Rb))))))), (ta, .inl (cQ, Rt.length, .inr (.inr (.inr (.inr (qf (ad Rt)))))))] ++ ((sT cI (Rb.map bq) (Rt.map tq)) ++ ((xA cI x a b f (setS q so)) ++ ((xB cI b g q2) ++ [])))) H := hP
      have hD : va_D A ([(s, .inr (4, [.int (nI (stI q)), .int (nI (stN q)), .int (stO q), .int (stV q), .int (nI (stG q)), .int (nI so), .int (stM q), .ref ba, .ref ta])), (ba, .inl (cQ, Rb.length, .inr (.inr (.inr (.inr (qf (ad Rb))))))), (ta, .inl (cQ, Rt.length, .inr (.inr (.inr (.inr (qf (ad Rt)))))))] ++ ((sT cI (Rb.map bq) (Rt.map tq)) ++ ((xA cI x a b f (setS q so)) ++ ((xB cI b g q2) ++ [])))) := hD
      refine W.eq (g2 := F0 m 305 ls [.int r_17]) rfl ?_
      refine W.widen (k := 0) (n := 0) (Nat.le_refl _) (Nat.le_refl _) ?_
      refine k_top (v := nI (stS q)) (hr_302) ?_
      refine lv_iload hx hb dL_act_305 (lv_at hl 0 rfl) ?_
      refine k_cmp_ne (tgt := 314) hx hb (stS q) (stS q) rfl rfl (by omega) (by omega) dL_act_307 (by decide) (fun c_307 => ?_) (fun c_307 => ?_)
      · skip
        exact absurd rfl c_307
      · skip
        refine lv_iconst (v := nI 1) hx hb dL_act_310 (by decide +kernel) ?_
        refine lv_goto (tgt := 315) hx hb dL_act_311 (by decide) ?_
        exact ret (nI 1) ⟨f, (setS q so), ba, ta, Rb, Rt⟩ _ _ _ _ _ _ rfl (⟨rfl, hR, hq, (okQ_setS hok bso), (Nat.le_add_right _ _)⟩) (z_subP hP [0, 1, 2] (rfl)) (z_subD hD [0, 1, 2] (by decide) (rfl)) hS (Nat.le_of_ble_eq_true rfl) (Nat.le_of_ble_eq_true rfl) dL_act_315
    · skip
      rw [h9s]
      refine lv_tableIn (x := nI 8) (off := 284) (tgt := 316) hx hb dL_act_32 (by decide +kernel) (by decide +kernel) (by decide +kernel) (by decide) ?_
      refine lv_aload_n hx hb dL_act_316 rfl (lv_at hl 2 rfl) ?_
      refine va_get (D := D) (ci := 4) (v := .int (stM q)) (C := RX4) (T := TX4) (N := 9) hx hb hts iX4 hown hK hP 0 rfl rfl 6 (by decide) f56 (fun _ h9 => h9) rfl dL_act_317 ?_
      refine lv_istore (lv' := [(6, .int (stM q)), (5, .int (nI 1)), (0, .ref x), (1, .ref s), (2, .int v), (3, .int (nI Rb.length)), (4, .int (nI pl))]) hx hb dL_act_320 hl (by decide) rfl (fun ls hl => ?_)
      refine lv_aload_n hx hb dL_act_322 rfl (lv_at hl 3 rfl) ?_
      refine lv_iload_n hx hb dL_act_323 rfl (lv_at hl 4 rfl) ?_
      refine lv_iconst (v := nI 4) hx hb dL_act_324 (by decide +kernel) ?_
      refine lv_ishr hx hb dL_act_325 ?_
      refine lv_bipush (v := nI 21) hx hb dL_act_326 (by decide +kernel) ?_
      obtain ⟨me, hme, bme⟩ : ∃ z, bw (v >>> ((nI 4) &&& 31)) 21 = z ∧ (z ≤ 20) := ⟨_, rfl, by have := bw_lt (v >>> ((nI 4) &&& 31)) (n := 21) (by decide); omega⟩
      refine kz_callS (As := [.int (v >>> ((nI 4) &&& 31)), .int (nI 21)]) (rest := [.ref s]) (wp := [(s, .inr (4, [.int (nI (stI q)), .int (nI (stN q)), .int (stO q), .int (stV q), .int (nI (stG q)), .int (nI (stS q)), .int (stM q), .ref ba, .ref ta])), (ba, .inl (cQ, Rb.length, .inr (.inr (.inr (.inr (qf (ad Rb))))))), (ta, .inl (cQ, Rt.length, .inr (.inr (.inr (.inr (qf (ad Rt)))))))]) (wc := []) (wr := [(s, .inr (4, [.int (nI (stI q)), .int (nI (stN q)), .int (stO q), .int (stV q), .int (nI (stG q)), .int (nI (stS q)), .int (stM q), .ref ba, .ref ta])), (ba, .inl (cQ, Rb.length, .inr (.inr (.inr (.inr (qf (ad Rb))))))), (ta, .inl (cQ, Rt.length, .inr (.inr (.inr (.inr (qf (ad Rt)))))))]) (Z := ((sT cI (Rb.map bq) (Rt.map tq)) ++ ((xA cI x a b f q) ++ ((xB cI b g q2) ++ [])))) (X0 := []) (Y := ((sT cI (Rb.map bq) (Rt.map tq)) ++ ((xA cI x a b f q) ++ ((xB cI b g q2) ++ [])))) (wc1 := (fun (u : Unit) => [])) (X1 := (fun (u : Unit) => [])) F (c_L_below l D cI (v >>> ((nI 4) &&& 31)) 21 (by decide)) gL_act_L_below rfl (nA := 2) (by decide +kernel) rfl ⟨Nat.le_of_ble_eq_true rfl, Nat.le_of_ble_eq_true rfl⟩ hK hP hD hS hA hG [] [0, 1, 2] rfl (by decide) (List.Perm.refl _) (List.append_nil _).symm (fun _ => (List.append_nil _).symm) [0] rfl rfl hl.1 (Nat.le_of_ble_eq_true rfl) dL_act_328 ⟨Nat.le_of_ble_eq_true rfl, Nat.le_of_ble_eq_true rfl⟩ (fun r_18 u H locs hr_328 hP hD hS => ?_)
      try dsimp only at hr_328
      have hP : va_P D vwCl ([(s, .inr (4, [.int (nI (stI q)), .int (nI (stN q)), .int (stO q), .int (stV q), .int (nI (stG q)), .int (nI (stS q)), .int (stM q), .ref ba, .ref ta])), (ba, .inl (cQ, Rb.length, .inr (.inr (.inr (.inr (qf (ad Rb))))))), (ta, .inl (cQ, Rt.length, .inr (.inr (.inr (.inr (qf (ad Rt)))))))] ++ ((sT cI (Rb.map bq) (Rt.map tq)) ++ ((xA cI x a b f q) ++ ((xB cI b g q2) ++ [])))) H := hP
      have hD : va_D A ([(s, .inr (4, [.int (nI (stI q)), .int (nI (stN q)), .int (stO q), .int (stV q), .int (nI (stG q)), .int (nI (stS q)), .int (stM q), .ref ba, .ref ta])), (ba, .inl (cQ, Rb.length, .inr (.inr (.inr (.inr (qf (ad Rb))))))), (ta, .inl (cQ, Rt.length, .inr (.inr (.inr (.inr (qf (ad Rt)))))))] ++ ((sT cI (Rb.map bq) (Rt.map tq)) ++ ((xA cI x a b f q) ++ ((xB cI b g q2) ++ [])))) := hD
      refine W.eq (g2 := F0 m 331 ls [.int r_18, .ref s]) rfl ?_
      refine W.widen (k := 0) (n := 0) (Nat.le_refl _) (Nat.le_refl _) ?_
      refine k_top (v := nI me) (by rw [hr_328, hme]) ?_
      refine va_put (D := D) (ci := 4) (v := .int (nI me)) (ty := .int) (C := RX4) (T := TX4) (N := 9) hx hb hts iX4 tyX4 tyX4_ok nmX4 hown hK hP hD hS 0 rfl rfl 6 (by decide) f56 (fun _ h9 => h9) rfl (by decide +kernel) rfl rfl (Nat.le_of_ble_eq_true rfl) dL_act_331 (fun H locs hP hD hS => ?_)
      have hP : va_P D vwCl ([(s, .inr (4, [.int (nI (stI q)), .int (nI (stN q)), .int (stO q), .int (stV q), .int (nI (stG q)), .int (nI (stS q)), .int (nI me), .ref ba, .ref ta])), (ba, .inl (cQ, Rb.length, .inr (.inr (.inr (.inr (qf (ad Rb))))))), (ta, .inl (cQ, Rt.length, .inr (.inr (.inr (.inr (qf (ad Rt)))))))] ++ ((sT cI (Rb.map bq) (Rt.map tq)) ++ ((xA cI x a b f q) ++ ((xB cI b g q2) ++ [])))) H := hP
      have hD : va_D A ([(s, .inr (4, [.int (nI (stI q)), .int (nI (stN q)), .int (stO q), .int (stV q), .int (nI (stG q)), .int (nI (stS q)), .int (nI me), .ref ba, .ref ta])), (ba, .inl (cQ, Rb.length, .inr (.inr (.inr (.inr (qf (ad Rb))))))), (ta, .inl (cQ, Rt.length, .inr (.inr (.inr (.inr (qf (ad Rt)))))))] ++ ((sT cI (Rb.map bq) (Rt.map tq)) ++ ((xA cI x a b f q) ++ ((xB cI b g q2) ++ [])))) := hD
      refine lv_aload_n hx hb dL_act_334 rfl (lv_at hl 2 rfl) ?_
      refine lv_aload_n hx hb dL_act_335 rfl (lv_at hl 3 rfl) ?_
      refine va_get (D := D) (ci := 4) (v := .int (nI me)) (C := RX4) (T := TX4) (N := 9) hx hb hts iX4 hown hK hP 0 rfl rfl 6 (by decide) f56 (fun _ h9 => h9) rfl dL_act_336 ?_
      refine kz_callX (As := [.int (nI me)]) (rest := []) F (c_ZX3_setMesh l D cI x a b f q me bme) gL_act_X3_setMesh rfl (nA := 1) (by decide +kernel) rfl ⟨Nat.le_of_ble_eq_true rfl, Nat.le_of_ble_eq_true rfl⟩ hK hP hD hS hA hG (ci := 3) (q0 := 0) rfl rfl rfl zp_pn [0] rfl rfl hl.1 (Nat.le_of_ble_eq_true rfl) dL_act_339 ⟨Nat.le_of_ble_eq_true rfl, Nat.le_of_ble_eq_true rfl⟩ (fun r_19 u H locs hr_339 hP hD hS => ?_)
      try dsimp only at hr_339
      have hP := z_PS z_pnb hP
      have hD := z_DS z_pnb hD
      have hP : va_P D vwCl ([(s, .inr (4, [.int (nI (stI q)), .int (nI (stN q)), .int (stO q), .int (stV q), .int (nI (stG q)), .int (nI (stS q)), .int (nI me), .ref ba, .ref ta])), (ba, .inl (cQ, Rb.length, .inr (.inr (.inr (.inr (qf (ad Rb))))))), (ta, .inl (cQ, Rt.length, .inr (.inr (.inr (.inr (qf (ad Rt)))))))] ++ ((sT cI (Rb.map bq) (Rt.map tq)) ++ ((xA cI x a b f (setM q (nI me))) ++ ((xB cI b g q2) ++ [])))) H := hP
      have hD : va_D A ([(s, .inr (4, [.int (nI (stI q)), .int (nI (stN q)), .int (stO q), .int (stV q), .int (nI (stG q)), .int (nI (stS q)), .int (nI me), .ref ba, .ref ta])), (ba, .inl (cQ, Rb.length, .inr (.inr (.inr (.inr (qf (ad Rb))))))), (ta, .inl (cQ, Rt.length, .inr (.inr (.inr (.inr (qf (ad Rt)))))))] ++ ((sT cI (Rb.map bq) (Rt.map tq)) ++ ((xA cI x a b f (setM q (nI me))) ++ ((xB cI b g q2) ++ [])))) := hD
      refine W.eq (g2 := F0 m 342 ls [.int r_19]) rfl ?_
      refine W.widen (k := 0) (n := 0) (Nat.le_refl _) (Nat.le_refl _) ?_
      refine k_top (v := stM q) (hr_339) ?_
      refine lv_iload hx hb dL_act_342 (lv_at hl 0 rfl) ?_
      refine lv_icmp_ne (tgt := 351) hx hb dL_act_344 (by decide) (fun c_344 => ?_) (fun c_344 => ?_)
      · skip
        exact absurd rfl c_344
      · skip
        refine lv_iconst (v := nI 1) hx hb dL_act_347 (by decide +kernel) ?_
        refine lv_goto (tgt := 352) hx hb dL_act_348 (by decide) ?_
        exact ret (nI 1) ⟨f, (setM q (nI me)), ba, ta, Rb, Rt⟩ _ _ _ _ _ _ rfl (⟨rfl, hR, hq, (okQ_setM hok bme), (Nat.le_add_right _ _)⟩) (z_subP hP [0, 1, 2] (rfl)) (z_subD hD [0, 1, 2] (by decide) (rfl)) hS (Nat.le_of_ble_eq_true rfl) (Nat.le_of_ble_eq_true rfl) dL_act_352
    · skip
      rw [h9s]
      refine lv_tableIn (x := nI 9) (off := 321) (tgt := 353) hx hb dL_act_32 (by decide +kernel) (by decide +kernel) (by decide +kernel) (by decide) ?_
      refine lv_aload_n hx hb dL_act_353 rfl (lv_at hl 2 rfl) ?_
      refine va_get (D := D) (ci := 4) (v := .ref ta) (C := RX4) (T := TX4) (N := 9) hx hb hts iX4 hown hK hP 0 rfl rfl 8 (by decide) f62 (fun _ h9 => h9) rfl dL_act_354 ?_
      refine va_alen hx hb hK hP 2 1 rfl rfl (v := nI Rt.length) rfl dL_act_357 ?_
      refine lv_bipush (v := nI 6) hx hb dL_act_358 (by decide +kernel) ?_
      refine k_cmp_ge (tgt := 367) hx hb Rt.length 6 rfl rfl (by omega) (by omega) dL_act_360 (by decide) (fun c_360 => ?_) (fun c_360 => ?_)
      · skip
        refine lv_iconst (v := nI 0) hx hb dL_act_367 (by decide +kernel) ?_
        refine lv_istore (lv' := [(5, .int (nI 0)), (0, .ref x), (1, .ref s), (2, .int v), (3, .int (nI Rb.length)), (4, .int (nI pl))]) hx hb dL_act_368 hl (by decide) rfl (fun ls hl => ?_)
        refine lv_iload_n hx hb dL_act_370 rfl (lv_at hl 3 rfl) ?_
        refine lv_iconst (v := nI 3) hx hb dL_act_371 (by decide +kernel) ?_
        refine lv_ishr hx hb dL_act_372 ?_
        refine lv_iconst (v := nI 5) hx hb dL_act_373 (by decide +kernel) ?_
        obtain ⟨kd, hkd, bkd⟩ : ∃ z, bw (v >>> ((nI 3) &&& 31)) 5 = z ∧ (z < 5) := ⟨_, rfl, by have := bw_lt (v >>> ((nI 3) &&& 31)) (n := 5) (by decide); omega⟩
        refine kz_callS (As := [.int (v >>> ((nI 3) &&& 31)), .int (nI 5)]) (rest := []) (wp := [(s, .inr (4, [.int (nI (stI q)), .int (nI (stN q)), .int (stO q), .int (stV q), .int (nI (stG q)), .int (nI (stS q)), .int (stM q), .ref ba, .ref ta])), (ba, .inl (cQ, Rb.length, .inr (.inr (.inr (.inr (qf (ad Rb))))))), (ta, .inl (cQ, Rt.length, .inr (.inr (.inr (.inr (qf (ad Rt)))))))]) (wc := []) (wr := [(s, .inr (4, [.int (nI (stI q)), .int (nI (stN q)), .int (stO q), .int (stV q), .int (nI (stG q)), .int (nI (stS q)), .int (stM q), .ref ba, .ref ta])), (ba, .inl (cQ, Rb.length, .inr (.inr (.inr (.inr (qf (ad Rb))))))), (ta, .inl (cQ, Rt.length, .inr (.inr (.inr (.inr (qf (ad Rt)))))))]) (Z := ((sT cI (Rb.map bq) (Rt.map tq)) ++ ((xA cI x a b f q) ++ ((xB cI b g q2) ++ [])))) (X0 := []) (Y := ((sT cI (Rb.map bq) (Rt.map tq)) ++ ((xA cI x a b f q) ++ ((xB cI b g q2) ++ [])))) (wc1 := (fun (u : Unit) => [])) (X1 := (fun (u : Unit) => [])) F (c_L_below l D cI (v >>> ((nI 3) &&& 31)) 5 (by decide)) gL_act_L_below rfl (nA := 2) (by decide +kernel) rfl ⟨Nat.le_of_ble_eq_true rfl, Nat.le_of_ble_eq_true rfl⟩ hK hP hD hS hA hG [] [0, 1, 2] rfl (by decide) (List.Perm.refl _) (List.append_nil _).symm (fun _ => (List.append_nil _).symm) [0] rfl rfl hl.1 (Nat.le_of_ble_eq_true rfl) dL_act_374 ⟨Nat.le_of_ble_eq_true rfl, Nat.le_of_ble_eq_true rfl⟩ (fun r_20 u H locs hr_374 hP hD hS => ?_)
        try dsimp only at hr_374
        have hP : va_P D vwCl ([(s, .inr (4, [.int (nI (stI q)), .int (nI (stN q)), .int (stO q), .int (stV q), .int (nI (stG q)), .int (nI (stS q)), .int (stM q), .ref ba, .ref ta])), (ba, .inl (cQ, Rb.length, .inr (.inr (.inr (.inr (qf (ad Rb))))))), (ta, .inl (cQ, Rt.length, .inr (.inr (.inr (.inr (qf (ad Rt)))))))] ++ ((sT cI (Rb.map bq) (Rt.map tq)) ++ ((xA cI x a b f q) ++ ((xB cI b g q2) ++ [])))) H := hP
        have hD : va_D A ([(s, .inr (4, [.int (nI (stI q)), .int (nI (stN q)), .int (stO q), .int (stV q), .int (nI (stG q)), .int (nI (stS q)), .int (stM q), .ref ba, .ref ta])), (ba, .inl (cQ, Rb.length, .inr (.inr (.inr (.inr (qf (ad Rb))))))), (ta, .inl (cQ, Rt.length, .inr (.inr (.inr (.inr (qf (ad Rt)))))))] ++ ((sT cI (Rb.map bq) (Rt.map tq)) ++ ((xA cI x a b f q) ++ ((xB cI b g q2) ++ [])))) := hD
        refine W.eq (g2 := F0 m 377 ls [.int r_20]) rfl ?_
        refine W.widen (k := 0) (n := 0) (Nat.le_refl _) (Nat.le_refl _) ?_
        refine k_top (v := nI kd) (by rw [hr_374, hkd]) ?_
        refine lv_istore (lv' := [(6, .int (nI kd)), (5, .int (nI 0)), (0, .ref x), (1, .ref s), (2, .int v), (3, .int (nI Rb.length)), (4, .int (nI pl))]) hx hb dL_act_377 hl (by decide) rfl (fun ls hl => ?_)
        refine lv_iconst (v := nI 2) hx hb dL_act_379 (by decide +kernel) ?_
        refine lv_iload_n hx hb dL_act_380 rfl (lv_at hl 4 rfl) ?_
        refine lv_iconst (v := nI 5) hx hb dL_act_381 (by decide +kernel) ?_
        refine lv_ishr hx hb dL_act_382 ?_
        refine lv_bipush (v := nI 98) hx hb dL_act_383 (by decide +kernel) ?_
        refine kz_callS (As := [.int (v >>> ((nI 5) &&& 31)), .int (nI 98)]) (rest := [.int (nI 2)]) (wp := [(s, .inr (4, [.int (nI (stI q)), .int (nI (stN q)), .int (stO q), .int (stV q), .int (nI (stG q)), .int (nI (stS q)), .int (stM q), .ref ba, .ref ta])), (ba, .inl (cQ, Rb.length, .inr (.inr (.inr (.inr (qf (ad Rb))))))), (ta, .inl (cQ, Rt.length, .inr (.inr (.inr (.inr (qf (ad Rt)))))))]) (wc := []) (wr := [(s, .inr (4, [.int (nI (stI q)), .int (nI (stN q)), .int (stO q), .int (stV q), .int (nI (stG q)), .int (nI (stS q)), .int (stM q), .ref ba, .ref ta])), (ba, .inl (cQ, Rb.length, .inr (.inr (.inr (.inr (qf (ad Rb))))))), (ta, .inl (cQ, Rt.length, .inr (.inr (.inr (.inr (qf (ad Rt)))))))]) (Z := ((sT cI (Rb.map bq) (Rt.map tq)) ++ ((xA cI x a b f q) ++ ((xB cI b g q2) ++ [])))) (X0 := []) (Y := ((sT cI (Rb.map bq) (Rt.map tq)) ++ ((xA cI x a b f q) ++ ((xB cI b g q2) ++ [])))) (wc1 := (fun (u : Unit) => [])) (X1 := (fun (u : Unit) => [])) F (c_L_below l D cI (v >>> ((nI 5) &&& 31)) 98 (by decide)) gL_act_L_below rfl (nA := 2) (by decide +kernel) rfl ⟨Nat.le_of_ble_eq_true rfl, Nat.le_of_ble_eq_true rfl⟩ hK hP hD hS hA hG [] [0, 1, 2] rfl (by decide) (List.Perm.refl _) (List.append_nil _).symm (fun _ => (List.append_nil _).symm) [0] rfl rfl hl.1 (Nat.le_of_ble_eq_true rfl) dL_act_385 ⟨Nat.le_of_ble_eq_true rfl, Nat.le_of_ble_eq_true rfl⟩ (fun r_21 u H locs hr_385 hP hD hS => ?_)
        try dsimp only at hr_385
        have hP : va_P D vwCl ([(s, .inr (4, [.int (nI (stI q)), .int (nI (stN q)), .int (stO q), .int (stV q), .int (nI (stG q)), .int (nI (stS q)), .int (stM q), .ref ba, .ref ta])), (ba, .inl (cQ, Rb.length, .inr (.inr (.inr (.inr (qf (ad Rb))))))), (ta, .inl (cQ, Rt.length, .inr (.inr (.inr (.inr (qf (ad Rt)))))))] ++ ((sT cI (Rb.map bq) (Rt.map tq)) ++ ((xA cI x a b f q) ++ ((xB cI b g q2) ++ [])))) H := hP
        have hD : va_D A ([(s, .inr (4, [.int (nI (stI q)), .int (nI (stN q)), .int (stO q), .int (stV q), .int (nI (stG q)), .int (nI (stS q)), .int (stM q), .ref ba, .ref ta])), (ba, .inl (cQ, Rb.length, .inr (.inr (.inr (.inr (qf (ad Rb))))))), (ta, .inl (cQ, Rt.length, .inr (.inr (.inr (.inr (qf (ad Rt)))))))] ++ ((sT cI (Rb.map bq) (Rt.map tq)) ++ ((xA cI x a b f q) ++ ((xB cI b g q2) ++ [])))) := hD
        refine W.eq (g2 := F0 m 388 ls [.int r_21, .int (nI 2)]) rfl ?_
        refine W.widen (k := 0) (n := 0) (Nat.le_refl _) (Nat.le_refl _) ?_
        refine k_top (v := nI (bw (v >>> ((nI 5) &&& 31)) 98)) (hr_385) ?_
        obtain ⟨zz, hzz, bzz⟩ : ∃ z, 2 + (bw (v >>> ((nI 5) &&& 31)) 98) = z ∧ (2 ≤ z ∧ z ≤ 99) := ⟨_, rfl, by have := bw_lt (v >>> ((nI 5) &&& 31)) (n := 98) (by decide); omega⟩
        refine k_iadd hx hb (nI zz) (by rw [nI_add, hzz]) dL_act_388 ?_
        refine lv_istore (lv' := [(7, .int (nI zz)), (6, .int (nI kd)), (5, .int (nI 0)), (0, .ref x), (1, .ref s), (2, .int v), (3, .int (nI Rb.length)), (4, .int (nI pl))]) hx hb dL_act_389 hl (by decide) rfl (fun ls hl => ?_)
        refine lv_iconst (v := nI 1) hx hb dL_act_391 (by decide +kernel) ?_
        refine lv_iload_n hx hb dL_act_392 rfl (lv_at hl 5 rfl) ?_
        refine lv_bipush (v := nI 6) hx hb dL_act_393 (by decide +kernel) ?_
        refine lv_ishr hx hb dL_act_395 ?_
        refine lv_bipush (v := nI 9) hx hb dL_act_396 (by decide +kernel) ?_
        refine kz_callS (As := [.int (v >>> ((nI 6) &&& 31)), .int (nI 9)]) (rest := [.int (nI 1)]) (wp := [(s, .inr (4, [.int (nI (stI q)), .int (nI (stN q)), .int (stO q), .int (stV q), .int (nI (stG q)), .int (nI (stS q)), .int (stM q), .ref ba, .ref ta])), (ba, .inl (cQ, Rb.length, .inr (.inr (.inr (.inr (qf (ad Rb))))))), (ta, .inl (cQ, Rt.length, .inr (.inr (.inr (.inr (qf (ad Rt)))))))]) (wc := []) (wr := [(s, .inr (4, [.int (nI (stI q)), .int (nI (stN q)), .int (stO q), .int (stV q), .int (nI (stG q)), .int (nI (stS q)), .int (stM q), .ref ba, .ref ta])), (ba, .inl (cQ, Rb.length, .inr (.inr (.inr (.inr (qf (ad Rb))))))), (ta, .inl (cQ, Rt.length, .inr (.inr (.inr (.inr (qf (ad Rt)))))))]) (Z := ((sT cI (Rb.map bq) (Rt.map tq)) ++ ((xA cI x a b f q) ++ ((xB cI b g q2) ++ [])))) (X0 := []) (Y := ((sT cI (Rb.map bq) (Rt.map tq)) ++ ((xA cI x a b f q) ++ ((xB cI b g q2) ++ [])))) (wc1 := (fun (u : Unit) => [])) (X1 := (fun (u : Unit) => [])) F (c_L_below l D cI (v >>> ((nI 6) &&& 31)) 9 (by decide)) gL_act_L_below rfl (nA := 2) (by decide +kernel) rfl ⟨Nat.le_of_ble_eq_true rfl, Nat.le_of_ble_eq_true rfl⟩ hK hP hD hS hA hG [] [0, 1, 2] rfl (by decide) (List.Perm.refl _) (List.append_nil _).symm (fun _ => (List.append_nil _).symm) [0] rfl rfl hl.1 (Nat.le_of_ble_eq_true rfl) dL_act_398 ⟨Nat.le_of_ble_eq_true rfl, Nat.le_of_ble_eq_true rfl⟩ (fun r_22 u H locs hr_398 hP hD hS => ?_)
        try dsimp only at hr_398
        have hP : va_P D vwCl ([(s, .inr (4, [.int (nI (stI q)), .int (nI (stN q)), .int (stO q), .int (stV q), .int (nI (stG q)), .int (nI (stS q)), .int (stM q), .ref ba, .ref ta])), (ba, .inl (cQ, Rb.length, .inr (.inr (.inr (.inr (qf (ad Rb))))))), (ta, .inl (cQ, Rt.length, .inr (.inr (.inr (.inr (qf (ad Rt)))))))] ++ ((sT cI (Rb.map bq) (Rt.map tq)) ++ ((xA cI x a b f q) ++ ((xB cI b g q2) ++ [])))) H := hP
        have hD : va_D A ([(s, .inr (4, [.int (nI (stI q)), .int (nI (stN q)), .int (stO q), .int (stV q), .int (nI (stG q)), .int (nI (stS q)), .int (stM q), .ref ba, .ref ta])), (ba, .inl (cQ, Rb.length, .inr (.inr (.inr (.inr (qf (ad Rb))))))), (ta, .inl (cQ, Rt.length, .inr (.inr (.inr (.inr (qf (ad Rt)))))))] ++ ((sT cI (Rb.map bq) (Rt.map tq)) ++ ((xA cI x a b f q) ++ ((xB cI b g q2) ++ [])))) := hD
        refine W.eq (g2 := F0 m 401 ls [.int r_22, .int (nI 1)]) rfl ?_
        refine W.widen (k := 0) (n := 0) (Nat.le_refl _) (Nat.le_refl _) ?_
        refine k_top (v := nI (bw (v >>> ((nI 6) &&& 31)) 9)) (hr_398) ?_
        obtain ⟨ea, hea, bea⟩ : ∃ z, 1 + (bw (v >>> ((nI 6) &&& 31)) 9) = z ∧ (1 ≤ z ∧ z ≤ 9) := ⟨_, rfl, by have := bw_lt (v >>> ((nI 6) &&& 31)) (n := 9) (by decide); omega⟩
        refine k_iadd hx hb (nI ea) (by rw [nI_add, hea]) dL_act_401 ?_
        refine lv_istore (lv' := [(8, .int (nI ea)), (7, .int (nI zz)), (6, .int (nI kd)), (5, .int (nI 0)), (0, .ref x), (1, .ref s), (2, .int v), (3, .int (nI Rb.length)), (4, .int (nI pl))]) hx hb dL_act_402 hl (by decide) rfl (fun ls hl => ?_)
        refine lv_iload hx hb dL_act_404 (lv_at hl 3 rfl) ?_
        refine k_if_eq (tgt := 447) hx hb 0 rfl (by omega) dL_act_406 (by decide) (fun c_406 => ?_) (fun c_406 => ?_)
        · skip
          refine lv_aload_n hx hb dL_act_447 rfl (lv_at hl 4 rfl) ?_
          refine lv_iload hx hb dL_act_448 (lv_at hl 2 rfl) ?_
          refine lv_iload hx hb dL_act_450 (lv_at hl 1 rfl) ?_
          refine lv_iload hx hb dL_act_452 (lv_at hl 0 rfl) ?_
          refine kzX_callX (As := [.int (nI kd), .int (nI zz), .int (nI ea)]) (rest := []) F (c_ZX3_addTalker_full l D cI hl0 x a b f q kd zz ea hR bkd bzz bea (by omega)) gL_act_X3_addTalker rfl (nA := 3) (by decide +kernel) rfl ⟨Nat.le_of_ble_eq_true rfl, Nat.le_of_ble_eq_true rfl⟩ hK hP hD hS hA hG (ci := 3) (q0 := 0) rfl rfl rfl zp_pn [0] rfl rfl hl.1 (Nat.le_of_ble_eq_true rfl) dL_act_454 ⟨Nat.le_of_ble_eq_true rfl, Nat.le_of_ble_eq_true rfl⟩ (fun H locs q9 ce9 hP hD hS hce hcv hcl => ?_)
          have hP := z_PS z_pnb hP
          have hD := z_DS z_pnb hD
          have hP : va_P D vwCl ([(s, .inr (4, [.int (nI (stI q)), .int (nI (stN q)), .int (stO q), .int (stV q), .int (nI (stG q)), .int (nI (stS q)), .int (stM q), .ref ba, .ref ta])), (ba, .inl (cQ, Rb.length, .inr (.inr (.inr (.inr (qf (ad Rb))))))), (ta, .inl (cQ, Rt.length, .inr (.inr (.inr (.inr (qf (ad Rt)))))))] ++ ((sT cI (Rb.map bq) (Rt.map tq)) ++ ((xA cI x a b f q) ++ ((xB cI b g q2) ++ [])))) H := hP
          have hD : va_D A ([(s, .inr (4, [.int (nI (stI q)), .int (nI (stN q)), .int (stO q), .int (stV q), .int (nI (stG q)), .int (nI (stS q)), .int (stM q), .ref ba, .ref ta])), (ba, .inl (cQ, Rb.length, .inr (.inr (.inr (.inr (qf (ad Rb))))))), (ta, .inl (cQ, Rt.length, .inr (.inr (.inr (.inr (qf (ad Rt)))))))] ++ ((sT cI (Rb.map bq) (Rt.map tq)) ++ ((xA cI x a b f q) ++ ((xB cI b g q2) ++ [])))) := hD
          refine vx_catch (name := eIS) hown [⟨26, 173, 526, 73⟩, ⟨174, 179, 526, 73⟩, ⟨180, 208, 526, 73⟩, ⟨209, 214, 526, 73⟩, ⟨215, 238, 526, 73⟩, ⟨239, 277, 526, 73⟩, ⟨278, 315, 526, 73⟩, ⟨316, 352, 526, 73⟩] ⟨353, 477, 526, 73⟩ [⟨478, 525, 526, 73⟩] htab (fun z hz => Or.inl (by simp only [List.mem_cons, List.not_mem_nil, or_false] at hz; rcases hz with rfl | rfl | rfl | rfl | rfl | rfl | rfl | rfl <;> decide)) rfl (by decide) (hts (.classLink RL 73 eIS) (by decide +kernel)) (va_Nw.use rfl hG.2.2.1.2.2.2.2.1) hce hcv hcl ?_
          refine lv_astore (lv' := [(6, .ref q9), (8, .int (nI ea)), (7, .int (nI zz)), (5, .int (nI 0)), (0, .ref x), (1, .ref s), (2, .int v), (3, .int (nI Rb.length)), (4, .int (nI pl))]) hx hb dL_act_526 hl (by decide) rfl (fun ls hl => ?_)
          refine lv_iload hx hb dL_act_528 (lv_at hl 3 rfl) ?_
          refine k_if_ne (tgt := 537) hx hb 0 rfl (by omega) dL_act_530 (by decide) (fun c_530 => ?_) (fun c_530 => ?_)
          · exact absurd c_530 (by omega)
          · skip
            refine lv_iconst (v := nI 1) hx hb dL_act_533 (by decide +kernel) ?_
            refine lv_goto (tgt := 538) hx hb dL_act_534 (by decide) ?_
            exact ret (nI 1) ⟨f, q, ba, ta, Rb, Rt⟩ _ _ _ _ _ _ rfl (⟨rfl, hR, hq, hok, (Nat.le_add_right _ _)⟩) (z_subP hP [0, 1, 2] (rfl)) (z_subD hD [0, 1, 2] (by decide) (rfl)) hS (Nat.le_of_ble_eq_true rfl) (Nat.le_of_ble_eq_true rfl) dL_act_538
        · exact absurd c_406 (by omega)
      · skip
        refine lv_iconst (v := nI 1) hx hb dL_act_363 (by decide +kernel) ?_
        refine lv_goto (tgt := 368) hx hb dL_act_364 (by decide) ?_
        refine lv_istore (lv' := [(5, .int (nI 1)), (0, .ref x), (1, .ref s), (2, .int v), (3, .int (nI Rb.length)), (4, .int (nI pl))]) hx hb dL_act_368 hl (by decide) rfl (fun ls hl => ?_)
        refine lv_iload_n hx hb dL_act_370 rfl (lv_at hl 3 rfl) ?_
        refine lv_iconst (v := nI 3) hx hb dL_act_371 (by decide +kernel) ?_
        refine lv_ishr hx hb dL_act_372 ?_
        refine lv_iconst (v := nI 5) hx hb dL_act_373 (by decide +kernel) ?_
        obtain ⟨kd, hkd, bkd⟩ : ∃ z, bw (v >>> ((nI 3) &&& 31)) 5 = z ∧ (z < 5) := ⟨_, rfl, by have := bw_lt (v >>> ((nI 3) &&& 31)) (n := 5) (by decide); omega⟩
        refine kz_callS (As := [.int (v >>> ((nI 3) &&& 31)), .int (nI 5)]) (rest := []) (wp := [(s, .inr (4, [.int (nI (stI q)), .int (nI (stN q)), .int (stO q), .int (stV q), .int (nI (stG q)), .int (nI (stS q)), .int (stM q), .ref ba, .ref ta])), (ba, .inl (cQ, Rb.length, .inr (.inr (.inr (.inr (qf (ad Rb))))))), (ta, .inl (cQ, Rt.length, .inr (.inr (.inr (.inr (qf (ad Rt)))))))]) (wc := []) (wr := [(s, .inr (4, [.int (nI (stI q)), .int (nI (stN q)), .int (stO q), .int (stV q), .int (nI (stG q)), .int (nI (stS q)), .int (stM q), .ref ba, .ref ta])), (ba, .inl (cQ, Rb.length, .inr (.inr (.inr (.inr (qf (ad Rb))))))), (ta, .inl (cQ, Rt.length, .inr (.inr (.inr (.inr (qf (ad Rt)))))))]) (Z := ((sT cI (Rb.map bq) (Rt.map tq)) ++ ((xA cI x a b f q) ++ ((xB cI b g q2) ++ [])))) (X0 := []) (Y := ((sT cI (Rb.map bq) (Rt.map tq)) ++ ((xA cI x a b f q) ++ ((xB cI b g q2) ++ [])))) (wc1 := (fun (u : Unit) => [])) (X1 := (fun (u : Unit) => [])) F (c_L_below l D cI (v >>> ((nI 3) &&& 31)) 5 (by decide)) gL_act_L_below rfl (nA := 2) (by decide +kernel) rfl ⟨Nat.le_of_ble_eq_true rfl, Nat.le_of_ble_eq_true rfl⟩ hK hP hD hS hA hG [] [0, 1, 2] rfl (by decide) (List.Perm.refl _) (List.append_nil _).symm (fun _ => (List.append_nil _).symm) [0] rfl rfl hl.1 (Nat.le_of_ble_eq_true rfl) dL_act_374 ⟨Nat.le_of_ble_eq_true rfl, Nat.le_of_ble_eq_true rfl⟩ (fun r_24 u H locs hr_374 hP hD hS => ?_)
        try dsimp only at hr_374
        have hP : va_P D vwCl ([(s, .inr (4, [.int (nI (stI q)), .int (nI (stN q)), .int (stO q), .int (stV q), .int (nI (stG q)), .int (nI (stS q)), .int (stM q), .ref ba, .ref ta])), (ba, .inl (cQ, Rb.length, .inr (.inr (.inr (.inr (qf (ad Rb))))))), (ta, .inl (cQ, Rt.length, .inr (.inr (.inr (.inr (qf (ad Rt)))))))] ++ ((sT cI (Rb.map bq) (Rt.map tq)) ++ ((xA cI x a b f q) ++ ((xB cI b g q2) ++ [])))) H := hP
        have hD : va_D A ([(s, .inr (4, [.int (nI (stI q)), .int (nI (stN q)), .int (stO q), .int (stV q), .int (nI (stG q)), .int (nI (stS q)), .int (stM q), .ref ba, .ref ta])), (ba, .inl (cQ, Rb.length, .inr (.inr (.inr (.inr (qf (ad Rb))))))), (ta, .inl (cQ, Rt.length, .inr (.inr (.inr (.inr (qf (ad Rt)))))))] ++ ((sT cI (Rb.map bq) (Rt.map tq)) ++ ((xA cI x a b f q) ++ ((xB cI b g q2) ++ [])))) := hD
        refine W.eq (g2 := F0 m 377 ls [.int r_24]) rfl ?_
        refine W.widen (k := 0) (n := 0) (Nat.le_refl _) (Nat.le_refl _) ?_
        refine k_top (v := nI kd) (by rw [hr_374, hkd]) ?_
        refine lv_istore (lv' := [(6, .int (nI kd)), (5, .int (nI 1)), (0, .ref x), (1, .ref s), (2, .int v), (3, .int (nI Rb.length)), (4, .int (nI pl))]) hx hb dL_act_377 hl (by decide) rfl (fun ls hl => ?_)
        refine lv_iconst (v := nI 2) hx hb dL_act_379 (by decide +kernel) ?_
        refine lv_iload_n hx hb dL_act_380 rfl (lv_at hl 4 rfl) ?_
        refine lv_iconst (v := nI 5) hx hb dL_act_381 (by decide +kernel) ?_
        refine lv_ishr hx hb dL_act_382 ?_
        refine lv_bipush (v := nI 98) hx hb dL_act_383 (by decide +kernel) ?_
        refine kz_callS (As := [.int (v >>> ((nI 5) &&& 31)), .int (nI 98)]) (rest := [.int (nI 2)]) (wp := [(s, .inr (4, [.int (nI (stI q)), .int (nI (stN q)), .int (stO q), .int (stV q), .int (nI (stG q)), .int (nI (stS q)), .int (stM q), .ref ba, .ref ta])), (ba, .inl (cQ, Rb.length, .inr (.inr (.inr (.inr (qf (ad Rb))))))), (ta, .inl (cQ, Rt.length, .inr (.inr (.inr (.inr (qf (ad Rt)))))))]) (wc := []) (wr := [(s, .inr (4, [.int (nI (stI q)), .int (nI (stN q)), .int (stO q), .int (stV q), .int (nI (stG q)), .int (nI (stS q)), .int (stM q), .ref ba, .ref ta])), (ba, .inl (cQ, Rb.length, .inr (.inr (.inr (.inr (qf (ad Rb))))))), (ta, .inl (cQ, Rt.length, .inr (.inr (.inr (.inr (qf (ad Rt)))))))]) (Z := ((sT cI (Rb.map bq) (Rt.map tq)) ++ ((xA cI x a b f q) ++ ((xB cI b g q2) ++ [])))) (X0 := []) (Y := ((sT cI (Rb.map bq) (Rt.map tq)) ++ ((xA cI x a b f q) ++ ((xB cI b g q2) ++ [])))) (wc1 := (fun (u : Unit) => [])) (X1 := (fun (u : Unit) => [])) F (c_L_below l D cI (v >>> ((nI 5) &&& 31)) 98 (by decide)) gL_act_L_below rfl (nA := 2) (by decide +kernel) rfl ⟨Nat.le_of_ble_eq_true rfl, Nat.le_of_ble_eq_true rfl⟩ hK hP hD hS hA hG [] [0, 1, 2] rfl (by decide) (List.Perm.refl _) (List.append_nil _).symm (fun _ => (List.append_nil _).symm) [0] rfl rfl hl.1 (Nat.le_of_ble_eq_true rfl) dL_act_385 ⟨Nat.le_of_ble_eq_true rfl, Nat.le_of_ble_eq_true rfl⟩ (fun r_25 u H locs hr_385 hP hD hS => ?_)
        try dsimp only at hr_385
        have hP : va_P D vwCl ([(s, .inr (4, [.int (nI (stI q)), .int (nI (stN q)), .int (stO q), .int (stV q), .int (nI (stG q)), .int (nI (stS q)), .int (stM q), .ref ba, .ref ta])), (ba, .inl (cQ, Rb.length, .inr (.inr (.inr (.inr (qf (ad Rb))))))), (ta, .inl (cQ, Rt.length, .inr (.inr (.inr (.inr (qf (ad Rt)))))))] ++ ((sT cI (Rb.map bq) (Rt.map tq)) ++ ((xA cI x a b f q) ++ ((xB cI b g q2) ++ [])))) H := hP
        have hD : va_D A ([(s, .inr (4, [.int (nI (stI q)), .int (nI (stN q)), .int (stO q), .int (stV q), .int (nI (stG q)), .int (nI (stS q)), .int (stM q), .ref ba, .ref ta])), (ba, .inl (cQ, Rb.length, .inr (.inr (.inr (.inr (qf (ad Rb))))))), (ta, .inl (cQ, Rt.length, .inr (.inr (.inr (.inr (qf (ad Rt)))))))] ++ ((sT cI (Rb.map bq) (Rt.map tq)) ++ ((xA cI x a b f q) ++ ((xB cI b g q2) ++ [])))) := hD
        refine W.eq (g2 := F0 m 388 ls [.int r_25, .int (nI 2)]) rfl ?_
        refine W.widen (k := 0) (n := 0) (Nat.le_refl _) (Nat.le_refl _) ?_
        refine k_top (v := nI (bw (v >>> ((nI 5) &&& 31)) 98)) (hr_385) ?_
        obtain ⟨zz, hzz, bzz⟩ : ∃ z, 2 + (bw (v >>> ((nI 5) &&& 31)) 98) = z ∧ (2 ≤ z ∧ z ≤ 99) := ⟨_, rfl, by have := bw_lt (v >>> ((nI 5) &&& 31)) (n := 98) (by decide); omega⟩
        refine k_iadd hx hb (nI zz) (by rw [nI_add, hzz]) dL_act_388 ?_
        refine lv_istore (lv' := [(7, .int (nI zz)), (6, .int (nI kd)), (5, .int (nI 1)), (0, .ref x), (1, .ref s), (2, .int v), (3, .int (nI Rb.length)), (4, .int (nI pl))]) hx hb dL_act_389 hl (by decide) rfl (fun ls hl => ?_)
        refine lv_iconst (v := nI 1) hx hb dL_act_391 (by decide +kernel) ?_
        refine lv_iload_n hx hb dL_act_392 rfl (lv_at hl 5 rfl) ?_
        refine lv_bipush (v := nI 6) hx hb dL_act_393 (by decide +kernel) ?_
        refine lv_ishr hx hb dL_act_395 ?_
        refine lv_bipush (v := nI 9) hx hb dL_act_396 (by decide +kernel) ?_
        refine kz_callS (As := [.int (v >>> ((nI 6) &&& 31)), .int (nI 9)]) (rest := [.int (nI 1)]) (wp := [(s, .inr (4, [.int (nI (stI q)), .int (nI (stN q)), .int (stO q), .int (stV q), .int (nI (stG q)), .int (nI (stS q)), .int (stM q), .ref ba, .ref ta])), (ba, .inl (cQ, Rb.length, .inr (.inr (.inr (.inr (qf (ad Rb))))))), (ta, .inl (cQ, Rt.length, .inr (.inr (.inr (.inr (qf (ad Rt)))))))]) (wc := []) (wr := [(s, .inr (4, [.int (nI (stI q)), .int (nI (stN q)), .int (stO q), .int (stV q), .int (nI (stG q)), .int (nI (stS q)), .int (stM q), .ref ba, .ref ta])), (ba, .inl (cQ, Rb.length, .inr (.inr (.inr (.inr (qf (ad Rb))))))), (ta, .inl (cQ, Rt.length, .inr (.inr (.inr (.inr (qf (ad Rt)))))))]) (Z := ((sT cI (Rb.map bq) (Rt.map tq)) ++ ((xA cI x a b f q) ++ ((xB cI b g q2) ++ [])))) (X0 := []) (Y := ((sT cI (Rb.map bq) (Rt.map tq)) ++ ((xA cI x a b f q) ++ ((xB cI b g q2) ++ [])))) (wc1 := (fun (u : Unit) => [])) (X1 := (fun (u : Unit) => [])) F (c_L_below l D cI (v >>> ((nI 6) &&& 31)) 9 (by decide)) gL_act_L_below rfl (nA := 2) (by decide +kernel) rfl ⟨Nat.le_of_ble_eq_true rfl, Nat.le_of_ble_eq_true rfl⟩ hK hP hD hS hA hG [] [0, 1, 2] rfl (by decide) (List.Perm.refl _) (List.append_nil _).symm (fun _ => (List.append_nil _).symm) [0] rfl rfl hl.1 (Nat.le_of_ble_eq_true rfl) dL_act_398 ⟨Nat.le_of_ble_eq_true rfl, Nat.le_of_ble_eq_true rfl⟩ (fun r_26 u H locs hr_398 hP hD hS => ?_)
        try dsimp only at hr_398
        have hP : va_P D vwCl ([(s, .inr (4, [.int (nI (stI q)), .int (nI (stN q)), .int (stO q), .int (stV q), .int (nI (stG q)), .int (nI (stS q)), .int (stM q), .ref ba, .ref ta])), (ba, .inl (cQ, Rb.length, .inr (.inr (.inr (.inr (qf (ad Rb))))))), (ta, .inl (cQ, Rt.length, .inr (.inr (.inr (.inr (qf (ad Rt)))))))] ++ ((sT cI (Rb.map bq) (Rt.map tq)) ++ ((xA cI x a b f q) ++ ((xB cI b g q2) ++ [])))) H := hP
        have hD : va_D A ([(s, .inr (4, [.int (nI (stI q)), .int (nI (stN q)), .int (stO q), .int (stV q), .int (nI (stG q)), .int (nI (stS q)), .int (stM q), .ref ba, .ref ta])), (ba, .inl (cQ, Rb.length, .inr (.inr (.inr (.inr (qf (ad Rb))))))), (ta, .inl (cQ, Rt.length, .inr (.inr (.inr (.inr (qf (ad Rt)))))))] ++ ((sT cI (Rb.map bq) (Rt.map tq)) ++ ((xA cI x a b f q) ++ ((xB cI b g q2) ++ [])))) := hD
        refine W.eq (g2 := F0 m 401 ls [.int r_26, .int (nI 1)]) rfl ?_
        refine W.widen (k := 0) (n := 0) (Nat.le_refl _) (Nat.le_refl _) ?_
        refine k_top (v := nI (bw (v >>> ((nI 6) &&& 31)) 9)) (hr_398) ?_
        obtain ⟨ea, hea, bea⟩ : ∃ z, 1 + (bw (v >>> ((nI 6) &&& 31)) 9) = z ∧ (1 ≤ z ∧ z ≤ 9) := ⟨_, rfl, by have := bw_lt (v >>> ((nI 6) &&& 31)) (n := 9) (by decide); omega⟩
        refine k_iadd hx hb (nI ea) (by rw [nI_add, hea]) dL_act_401 ?_
        refine lv_istore (lv' := [(8, .int (nI ea)), (7, .int (nI zz)), (6, .int (nI kd)), (5, .int (nI 1)), (0, .ref x), (1, .ref s), (2, .int v), (3, .int (nI Rb.length)), (4, .int (nI pl))]) hx hb dL_act_402 hl (by decide) rfl (fun ls hl => ?_)
        refine lv_iload hx hb dL_act_404 (lv_at hl 3 rfl) ?_
        refine k_if_eq (tgt := 447) hx hb 1 rfl (by omega) dL_act_406 (by decide) (fun c_406 => ?_) (fun c_406 => ?_)
        · exact absurd c_406 (by omega)
        · skip
          refine lv_aload_n hx hb dL_act_409 rfl (lv_at hl 5 rfl) ?_
          refine lv_aload_n hx hb dL_act_410 rfl (lv_at hl 5 rfl) ?_
          refine va_get (D := D) (ci := 4) (v := .ref ta) (C := RX4) (T := TX4) (N := 9) hx hb hts iX4 hown hK hP 0 rfl rfl 8 (by decide) f62 (fun _ h9 => h9) rfl dL_act_411 ?_
          refine lv_iconst (v := nI 5) hx hb dL_act_414 (by decide +kernel) ?_
          refine z_newa hx hb (hts (.arrayClass .int) (by decide +kernel)) hK 0 rfl hP hD hS hA 5 rfl (by omega) (Nat.le_of_ble_eq_true rfl) (Nat.le_of_ble_eq_true rfl) dL_act_415 (fun q_27 H hP hD hS => ?_)
          have hP : va_P D vwCl ([(s, .inr (4, [.int (nI (stI q)), .int (nI (stN q)), .int (stO q), .int (stV q), .int (nI (stG q)), .int (nI (stS q)), .int (stM q), .ref ba, .ref ta])), (ba, .inl (cQ, Rb.length, .inr (.inr (.inr (.inr (qf (ad Rb))))))), (ta, .inl (cQ, Rt.length, .inr (.inr (.inr (.inr (qf (ad Rt))))))), (q_27, .inl (cI, 5, .inl (fun _ => 0)))] ++ ((sT cI (Rb.map bq) (Rt.map tq)) ++ ((xA cI x a b f q) ++ ((xB cI b g q2) ++ [])))) H := hP
          have hD : va_D A ([(s, .inr (4, [.int (nI (stI q)), .int (nI (stN q)), .int (stO q), .int (stV q), .int (nI (stG q)), .int (nI (stS q)), .int (stM q), .ref ba, .ref ta])), (ba, .inl (cQ, Rb.length, .inr (.inr (.inr (.inr (qf (ad Rb))))))), (ta, .inl (cQ, Rt.length, .inr (.inr (.inr (.inr (qf (ad Rt))))))), (q_27, .inl (cI, 5, .inl (fun _ => 0)))] ++ ((sT cI (Rb.map bq) (Rt.map tq)) ++ ((xA cI x a b f q) ++ ((xB cI b g q2) ++ [])))) := hD
          refine lv_dup hx hb dL_act_417 rfl ?_
          refine lv_iconst (v := nI 0) hx hb dL_act_418 (by decide +kernel) ?_
          refine lv_bipush (v := nI 30) hx hb dL_act_419 (by decide +kernel) ?_
          refine k_iast hx hb hK hP hD hS 3 0 rfl rfl 0 (rfl) (by omega) (by decide) dL_act_421 (fun H locs hP hD hS => ?_)
          have hP : va_P D vwCl ([(s, .inr (4, [.int (nI (stI q)), .int (nI (stN q)), .int (stO q), .int (stV q), .int (nI (stG q)), .int (nI (stS q)), .int (stM q), .ref ba, .ref ta])), (ba, .inl (cQ, Rb.length, .inr (.inr (.inr (.inr (qf (ad Rb))))))), (ta, .inl (cQ, Rt.length, .inr (.inr (.inr (.inr (qf (ad Rt))))))), (q_27, .inl (cI, 5, .inl (upd (fun _ => 0) 0 (nI 30))))] ++ ((sT cI (Rb.map bq) (Rt.map tq)) ++ ((xA cI x a b f q) ++ ((xB cI b g q2) ++ [])))) H := hP
          have hD : va_D A ([(s, .inr (4, [.int (nI (stI q)), .int (nI (stN q)), .int (stO q), .int (stV q), .int (nI (stG q)), .int (nI (stS q)), .int (stM q), .ref ba, .ref ta])), (ba, .inl (cQ, Rb.length, .inr (.inr (.inr (.inr (qf (ad Rb))))))), (ta, .inl (cQ, Rt.length, .inr (.inr (.inr (.inr (qf (ad Rt))))))), (q_27, .inl (cI, 5, .inl (upd (fun _ => 0) 0 (nI 30))))] ++ ((sT cI (Rb.map bq) (Rt.map tq)) ++ ((xA cI x a b f q) ++ ((xB cI b g q2) ++ [])))) := hD
          refine lv_dup hx hb dL_act_422 rfl ?_
          refine lv_iconst (v := nI 1) hx hb dL_act_423 (by decide +kernel) ?_
          refine lv_iconst (v := -1) hx hb dL_act_424 (by decide +kernel) ?_
          refine k_iast hx hb hK hP hD hS 3 0 rfl rfl 1 (rfl) (by omega) (by decide) dL_act_425 (fun H locs hP hD hS => ?_)
          have hP : va_P D vwCl ([(s, .inr (4, [.int (nI (stI q)), .int (nI (stN q)), .int (stO q), .int (stV q), .int (nI (stG q)), .int (nI (stS q)), .int (stM q), .ref ba, .ref ta])), (ba, .inl (cQ, Rb.length, .inr (.inr (.inr (.inr (qf (ad Rb))))))), (ta, .inl (cQ, Rt.length, .inr (.inr (.inr (.inr (qf (ad Rt))))))), (q_27, .inl (cI, 5, .inl (upd (upd (fun _ => 0) 0 (nI 30)) 1 (-1))))] ++ ((sT cI (Rb.map bq) (Rt.map tq)) ++ ((xA cI x a b f q) ++ ((xB cI b g q2) ++ [])))) H := hP
          have hD : va_D A ([(s, .inr (4, [.int (nI (stI q)), .int (nI (stN q)), .int (stO q), .int (stV q), .int (nI (stG q)), .int (nI (stS q)), .int (stM q), .ref ba, .ref ta])), (ba, .inl (cQ, Rb.length, .inr (.inr (.inr (.inr (qf (ad Rb))))))), (ta, .inl (cQ, Rt.length, .inr (.inr (.inr (.inr (qf (ad Rt))))))), (q_27, .inl (cI, 5, .inl (upd (upd (fun _ => 0) 0 (nI 30)) 1 (-1))))] ++ ((sT cI (Rb.map bq) (Rt.map tq)) ++ ((xA cI x a b f q) ++ ((xB cI b g q2) ++ [])))) := hD
          refine lv_dup hx hb dL_act_426 rfl ?_
          refine lv_iconst (v := nI 2) hx hb dL_act_427 (by decide +kernel) ?_
          refine lv_iload hx hb dL_act_428 (lv_at hl 2 rfl) ?_
          refine k_iast hx hb hK hP hD hS 3 0 rfl rfl 2 (rfl) (by omega) (by decide) dL_act_430 (fun H locs hP hD hS => ?_)
          have hP : va_P D vwCl ([(s, .inr (4, [.int (nI (stI q)), .int (nI (stN q)), .int (stO q), .int (stV q), .int (nI (stG q)), .int (nI (stS q)), .int (stM q), .ref ba, .ref ta])), (ba, .inl (cQ, Rb.length, .inr (.inr (.inr (.inr (qf (ad Rb))))))), (ta, .inl (cQ, Rt.length, .inr (.inr (.inr (.inr (qf (ad Rt))))))), (q_27, .inl (cI, 5, .inl (upd (upd (upd (fun _ => 0) 0 (nI 30)) 1 (-1)) 2 (nI kd))))] ++ ((sT cI (Rb.map bq) (Rt.map tq)) ++ ((xA cI x a b f q) ++ ((xB cI b g q2) ++ [])))) H := hP
          have hD : va_D A ([(s, .inr (4, [.int (nI (stI q)), .int (nI (stN q)), .int (stO q), .int (stV q), .int (nI (stG q)), .int (nI (stS q)), .int (stM q), .ref ba, .ref ta])), (ba, .inl (cQ, Rb.length, .inr (.inr (.inr (.inr (qf (ad Rb))))))), (ta, .inl (cQ, Rt.length, .inr (.inr (.inr (.inr (qf (ad Rt))))))), (q_27, .inl (cI, 5, .inl (upd (upd (upd (fun _ => 0) 0 (nI 30)) 1 (-1)) 2 (nI kd))))] ++ ((sT cI (Rb.map bq) (Rt.map tq)) ++ ((xA cI x a b f q) ++ ((xB cI b g q2) ++ [])))) := hD
          refine lv_dup hx hb dL_act_431 rfl ?_
          refine lv_iconst (v := nI 3) hx hb dL_act_432 (by decide +kernel) ?_
          refine lv_iload hx hb dL_act_433 (lv_at hl 1 rfl) ?_
          refine k_iast hx hb hK hP hD hS 3 0 rfl rfl 3 (rfl) (by omega) (by decide) dL_act_435 (fun H locs hP hD hS => ?_)
          have hP : va_P D vwCl ([(s, .inr (4, [.int (nI (stI q)), .int (nI (stN q)), .int (stO q), .int (stV q), .int (nI (stG q)), .int (nI (stS q)), .int (stM q), .ref ba, .ref ta])), (ba, .inl (cQ, Rb.length, .inr (.inr (.inr (.inr (qf (ad Rb))))))), (ta, .inl (cQ, Rt.length, .inr (.inr (.inr (.inr (qf (ad Rt))))))), (q_27, .inl (cI, 5, .inl (upd (upd (upd (upd (fun _ => 0) 0 (nI 30)) 1 (-1)) 2 (nI kd)) 3 (nI zz))))] ++ ((sT cI (Rb.map bq) (Rt.map tq)) ++ ((xA cI x a b f q) ++ ((xB cI b g q2) ++ [])))) H := hP
          have hD : va_D A ([(s, .inr (4, [.int (nI (stI q)), .int (nI (stN q)), .int (stO q), .int (stV q), .int (nI (stG q)), .int (nI (stS q)), .int (stM q), .ref ba, .ref ta])), (ba, .inl (cQ, Rb.length, .inr (.inr (.inr (.inr (qf (ad Rb))))))), (ta, .inl (cQ, Rt.length, .inr (.inr (.inr (.inr (qf (ad Rt))))))), (q_27, .inl (cI, 5, .inl (upd (upd (upd (upd (fun _ => 0) 0 (nI 30)) 1 (-1)) 2 (nI kd)) 3 (nI zz))))] ++ ((sT cI (Rb.map bq) (Rt.map tq)) ++ ((xA cI x a b f q) ++ ((xB cI b g q2) ++ [])))) := hD
          refine lv_dup hx hb dL_act_436 rfl ?_
          refine lv_iconst (v := nI 4) hx hb dL_act_437 (by decide +kernel) ?_
          refine lv_iload hx hb dL_act_438 (lv_at hl 0 rfl) ?_
          refine k_iast hx hb hK hP hD hS 3 0 rfl rfl 4 (rfl) (by omega) (by decide) dL_act_440 (fun H locs hP hD hS => ?_)
          have hP : va_P D vwCl ([(s, .inr (4, [.int (nI (stI q)), .int (nI (stN q)), .int (stO q), .int (stV q), .int (nI (stG q)), .int (nI (stS q)), .int (stM q), .ref ba, .ref ta])), (ba, .inl (cQ, Rb.length, .inr (.inr (.inr (.inr (qf (ad Rb))))))), (ta, .inl (cQ, Rt.length, .inr (.inr (.inr (.inr (qf (ad Rt))))))), (q_27, .inl (cI, 5, .inl (upd (upd (upd (upd (upd (fun _ => 0) 0 (nI 30)) 1 (-1)) 2 (nI kd)) 3 (nI zz)) 4 (nI ea))))] ++ ((sT cI (Rb.map bq) (Rt.map tq)) ++ ((xA cI x a b f q) ++ ((xB cI b g q2) ++ [])))) H := hP
          have hD : va_D A ([(s, .inr (4, [.int (nI (stI q)), .int (nI (stN q)), .int (stO q), .int (stV q), .int (nI (stG q)), .int (nI (stS q)), .int (stM q), .ref ba, .ref ta])), (ba, .inl (cQ, Rb.length, .inr (.inr (.inr (.inr (qf (ad Rb))))))), (ta, .inl (cQ, Rt.length, .inr (.inr (.inr (.inr (qf (ad Rt))))))), (q_27, .inl (cI, 5, .inl (upd (upd (upd (upd (upd (fun _ => 0) 0 (nI 30)) 1 (-1)) 2 (nI kd)) 3 (nI zz)) 4 (nI ea))))] ++ ((sT cI (Rb.map bq) (Rt.map tq)) ++ ((xA cI x a b f q) ++ ((xB cI b g q2) ++ [])))) := hD
          have eN : upd (upd (upd (upd (upd (fun _ => 0) 0 (nI 30)) 1 (-1)) 2 (nI kd)) 3 (nI zz)) 4 (nI ea) = tf (nI kd, zz, nI ea, 30, -1) := tf_new
          rw [eN] at hP hD
          have hP := z_PS (z_absTq (P := [(s, .inr (4, [.int (nI (stI q)), .int (nI (stN q)), .int (stO q), .int (stV q), .int (nI (stG q)), .int (nI (stS q)), .int (stM q), .ref ba, .ref ta])), (ba, .inl (cQ, Rb.length, .inr (.inr (.inr (.inr (qf (ad Rb))))))), (ta, .inl (cQ, Rt.length, .inr (.inr (.inr (.inr (qf (ad Rt)))))))]) (cI := cI) (v := q_27) (RB := Rb.map bq) (Rt := Rt) (Y := ((xA cI x a b f q) ++ ((xB cI b g q2) ++ []))) (t := (nI kd, zz, nI ea, 30, -1))) hP
          have hD := z_DS (z_absTq (P := [(s, .inr (4, [.int (nI (stI q)), .int (nI (stN q)), .int (stO q), .int (stV q), .int (nI (stG q)), .int (nI (stS q)), .int (stM q), .ref ba, .ref ta])), (ba, .inl (cQ, Rb.length, .inr (.inr (.inr (.inr (qf (ad Rb))))))), (ta, .inl (cQ, Rt.length, .inr (.inr (.inr (.inr (qf (ad Rt)))))))]) (cI := cI) (v := q_27) (RB := Rb.map bq) (Rt := Rt) (Y := ((xA cI x a b f q) ++ ((xB cI b g q2) ++ []))) (t := (nI kd, zz, nI ea, 30, -1))) hD
          have hP : va_P D vwCl ([(s, .inr (4, [.int (nI (stI q)), .int (nI (stN q)), .int (stO q), .int (stV q), .int (nI (stG q)), .int (nI (stS q)), .int (stM q), .ref ba, .ref ta])), (ba, .inl (cQ, Rb.length, .inr (.inr (.inr (.inr (qf (ad Rb))))))), (ta, .inl (cQ, Rt.length, .inr (.inr (.inr (.inr (qf (ad Rt)))))))] ++ ((sT cI (Rb.map bq) ((Rt ++ [(q_27, (nI kd, zz, nI ea, 30, -1))]).map tq)) ++ ((xA cI x a b f q) ++ ((xB cI b g q2) ++ [])))) H := hP
          have hD : va_D A ([(s, .inr (4, [.int (nI (stI q)), .int (nI (stN q)), .int (stO q), .int (stV q), .int (nI (stG q)), .int (nI (stS q)), .int (stM q), .ref ba, .ref ta])), (ba, .inl (cQ, Rb.length, .inr (.inr (.inr (.inr (qf (ad Rb))))))), (ta, .inl (cQ, Rt.length, .inr (.inr (.inr (.inr (qf (ad Rt)))))))] ++ ((sT cI (Rb.map bq) ((Rt ++ [(q_27, (nI kd, zz, nI ea, 30, -1))]).map tq)) ++ ((xA cI x a b f q) ++ ((xB cI b g q2) ++ [])))) := hD
          refine kz_callS (As := [.ref ta, .ref q_27]) (rest := [.ref s]) (wp := [(s, .inr (4, [.int (nI (stI q)), .int (nI (stN q)), .int (stO q), .int (stV q), .int (nI (stG q)), .int (nI (stS q)), .int (stM q), .ref ba, .ref ta])), (ba, .inl (cQ, Rb.length, .inr (.inr (.inr (.inr (qf (ad Rb))))))), (ta, .inl (cQ, Rt.length, .inr (.inr (.inr (.inr (qf (ad Rt)))))))]) (wc := [(ta, .inl (cQ, Rt.length, .inr (.inr (.inr (.inr (qf (ad Rt)))))))]) (wr := [(s, .inr (4, [.int (nI (stI q)), .int (nI (stN q)), .int (stO q), .int (stV q), .int (nI (stG q)), .int (nI (stS q)), .int (stM q), .ref ba, .ref ta])), (ba, .inl (cQ, Rb.length, .inr (.inr (.inr (.inr (qf (ad Rb)))))))]) (Z := ((sT cI (Rb.map bq) ((Rt ++ [(q_27, (nI kd, zz, nI ea, 30, -1))]).map tq)) ++ ((xA cI x a b f q) ++ ((xB cI b g q2) ++ [])))) (X0 := ((sT cI (Rb.map bq) ((Rt ++ [(q_27, (nI kd, zz, nI ea, 30, -1))]).map tq)) ++ ((xA cI x a b f q) ++ ((xB cI b g q2) ++ [])))) (Y := []) (wc1 := (fun (u : Nat) => [(ta, .inl (cQ, Rt.length, .inr (.inr (.inr (.inr (qf (ad Rt))))))), (u, .inl (cQ, Rt.length + 1, .inr (.inr (.inr (.inr (qf ((ad Rt) ++ [q_27])))))))])) (X1 := (fun (u : Nat) => ((sT cI (Rb.map bq) ((Rt ++ [(q_27, (nI kd, zz, nI ea, 30, -1))]).map tq)) ++ ((xA cI x a b f q) ++ ((xB cI b g q2) ++ []))))) F (c_X4_with l D cI cQ ta q_27 Rt.length (ad Rt) ((sT cI (Rb.map bq) ((Rt ++ [(q_27, (nI kd, zz, nI ea, 30, -1))]).map tq)) ++ ((xA cI x a b f q) ++ ((xB cI b g q2) ++ []))) ((zL_Tq (Rt := (Rt ++ [(q_27, (nI kd, zz, nI ea, 30, -1))]))).sub app_mem) ((ad_len _).symm) (by rw [ad_len]; omega)) gL_act_X4_with rfl (nA := 2) (by decide +kernel) rfl ⟨Nat.le_of_ble_eq_true rfl, Nat.le_of_ble_eq_true rfl⟩ hK hP hD hS hA hG [2] [0, 1] rfl (by decide) z_permnil rfl (fun _ => rfl) [0, 1] rfl rfl hl.1 (Nat.le_of_ble_eq_true rfl) dL_act_441 ⟨Nat.le_of_ble_eq_true rfl, Nat.le_of_ble_eq_true rfl⟩ (fun r_28 u H locs hr_441 hP hD hS => ?_)
          obtain ⟨na_441, rfl⟩ : ∃ z, z = u := ⟨_, rfl⟩
          try dsimp only at hr_441
          have hP := z_PS z_nil hP
          have hD := z_DS z_nil hD
          have hP : va_P D vwCl ([(s, .inr (4, [.int (nI (stI q)), .int (nI (stN q)), .int (stO q), .int (stV q), .int (nI (stG q)), .int (nI (stS q)), .int (stM q), .ref ba, .ref ta])), (ba, .inl (cQ, Rb.length, .inr (.inr (.inr (.inr (qf (ad Rb))))))), (ta, .inl (cQ, Rt.length, .inr (.inr (.inr (.inr (qf (ad Rt))))))), (na_441, .inl (cQ, Rt.length + 1, .inr (.inr (.inr (.inr (qf ((ad Rt) ++ [q_27])))))))] ++ ((sT cI (Rb.map bq) ((Rt ++ [(q_27, (nI kd, zz, nI ea, 30, -1))]).map tq)) ++ ((xA cI x a b f q) ++ ((xB cI b g q2) ++ [])))) H := hP
          have hD : va_D A ([(s, .inr (4, [.int (nI (stI q)), .int (nI (stN q)), .int (stO q), .int (stV q), .int (nI (stG q)), .int (nI (stS q)), .int (stM q), .ref ba, .ref ta])), (ba, .inl (cQ, Rb.length, .inr (.inr (.inr (.inr (qf (ad Rb))))))), (ta, .inl (cQ, Rt.length, .inr (.inr (.inr (.inr (qf (ad Rt))))))), (na_441, .inl (cQ, Rt.length + 1, .inr (.inr (.inr (.inr (qf ((ad Rt) ++ [q_27])))))))] ++ ((sT cI (Rb.map bq) ((Rt ++ [(q_27, (nI kd, zz, nI ea, 30, -1))]).map tq)) ++ ((xA cI x a b f q) ++ ((xB cI b g q2) ++ [])))) := hD
          refine W.eq (g2 := F0 m 444 ls [.ref r_28, .ref s]) rfl ?_
          refine W.widen (k := 2) (n := 18) (Nat.le_refl _) (Nat.le_refl _) ?_
          refine k_topR (v := na_441) hr_441 ?_
          refine va_put (D := D) (ci := 4) (v := .ref na_441) (ty := (.array (.array .int))) (C := RX4) (T := TX4) (N := 9) hx hb hts iX4 tyX4 tyX4_ok nmX4 hown hK hP hD hS 0 rfl rfl 8 (by decide) f62 (fun _ h9 => h9) rfl (by decide +kernel) rfl rfl (Nat.le_of_ble_eq_true rfl) dL_act_444 (fun H locs hP hD hS => ?_)
          have hP : va_P D vwCl ([(s, .inr (4, [.int (nI (stI q)), .int (nI (stN q)), .int (stO q), .int (stV q), .int (nI (stG q)), .int (nI (stS q)), .int (stM q), .ref ba, .ref na_441])), (ba, .inl (cQ, Rb.length, .inr (.inr (.inr (.inr (qf (ad Rb))))))), (ta, .inl (cQ, Rt.length, .inr (.inr (.inr (.inr (qf (ad Rt))))))), (na_441, .inl (cQ, Rt.length + 1, .inr (.inr (.inr (.inr (qf ((ad Rt) ++ [q_27])))))))] ++ ((sT cI (Rb.map bq) ((Rt ++ [(q_27, (nI kd, zz, nI ea, 30, -1))]).map tq)) ++ ((xA cI x a b f q) ++ ((xB cI b g q2) ++ [])))) H := hP
          have hD : va_D A ([(s, .inr (4, [.int (nI (stI q)), .int (nI (stN q)), .int (stO q), .int (stV q), .int (nI (stG q)), .int (nI (stS q)), .int (stM q), .ref ba, .ref na_441])), (ba, .inl (cQ, Rb.length, .inr (.inr (.inr (.inr (qf (ad Rb))))))), (ta, .inl (cQ, Rt.length, .inr (.inr (.inr (.inr (qf (ad Rt))))))), (na_441, .inl (cQ, Rt.length + 1, .inr (.inr (.inr (.inr (qf ((ad Rt) ++ [q_27])))))))] ++ ((sT cI (Rb.map bq) ((Rt ++ [(q_27, (nI kd, zz, nI ea, 30, -1))]).map tq)) ++ ((xA cI x a b f q) ++ ((xB cI b g q2) ++ [])))) := hD
          refine lv_aload_n hx hb dL_act_447 rfl (lv_at hl 4 rfl) ?_
          refine lv_iload hx hb dL_act_448 (lv_at hl 2 rfl) ?_
          refine lv_iload hx hb dL_act_450 (lv_at hl 1 rfl) ?_
          refine lv_iload hx hb dL_act_452 (lv_at hl 0 rfl) ?_
          refine kz_callX (As := [.int (nI kd), .int (nI zz), .int (nI ea)]) (rest := []) F (c_ZX3_addTalker l D cI x a b f q kd zz ea hR bkd bzz bea (by omega)) gL_act_X3_addTalker rfl (nA := 3) (by decide +kernel) rfl ⟨Nat.le_of_ble_eq_true rfl, Nat.le_of_ble_eq_true rfl⟩ hK hP hD hS hA hG (ci := 3) (q0 := 0) rfl rfl rfl zp_pn [0] rfl rfl hl.1 (Nat.le_of_ble_eq_true rfl) dL_act_454 ⟨Nat.le_of_ble_eq_true rfl, Nat.le_of_ble_eq_true rfl⟩ (fun r_29 u H locs hr_454 hP hD hS => ?_)
          obtain ⟨f2, rfl⟩ : ∃ z, z = u := ⟨_, rfl⟩
          try dsimp only at hr_454
          have hP := z_PS z_pnb hP
          have hD := z_DS z_pnb hD
          have hP : va_P D vwCl ([(s, .inr (4, [.int (nI (stI q)), .int (nI (stN q)), .int (stO q), .int (stV q), .int (nI (stG q)), .int (nI (stS q)), .int (stM q), .ref ba, .ref na_441])), (ba, .inl (cQ, Rb.length, .inr (.inr (.inr (.inr (qf (ad Rb))))))), (ta, .inl (cQ, Rt.length, .inr (.inr (.inr (.inr (qf (ad Rt))))))), (na_441, .inl (cQ, Rt.length + 1, .inr (.inr (.inr (.inr (qf ((ad Rt) ++ [q_27])))))))] ++ ((sT cI (Rb.map bq) ((Rt ++ [(q_27, (nI kd, zz, nI ea, 30, -1))]).map tq)) ++ ((xA cI x a b f2 (setT q (stT q ++ [(nI kd, zz, nI ea, 30, -1)]))) ++ ((xB cI b g q2) ++ [])))) H := hP
          have hD : va_D A ([(s, .inr (4, [.int (nI (stI q)), .int (nI (stN q)), .int (stO q), .int (stV q), .int (nI (stG q)), .int (nI (stS q)), .int (stM q), .ref ba, .ref na_441])), (ba, .inl (cQ, Rb.length, .inr (.inr (.inr (.inr (qf (ad Rb))))))), (ta, .inl (cQ, Rt.length, .inr (.inr (.inr (.inr (qf (ad Rt))))))), (na_441, .inl (cQ, Rt.length + 1, .inr (.inr (.inr (.inr (qf ((ad Rt) ++ [q_27])))))))] ++ ((sT cI (Rb.map bq) ((Rt ++ [(q_27, (nI kd, zz, nI ea, 30, -1))]).map tq)) ++ ((xA cI x a b f2 (setT q (stT q ++ [(nI kd, zz, nI ea, 30, -1)]))) ++ ((xB cI b g q2) ++ [])))) := hD
          refine W.eq (g2 := F0 m 457 ls [.int r_29]) rfl ?_
          refine W.widen (k := 2) (n := 18) (Nat.le_refl _) (Nat.le_refl _) ?_
          refine k_top (v := nI Rt.length) (hr_454.1.trans (by rw [hlT])) ?_
          refine lv_aload_n hx hb dL_act_457 rfl (lv_at hl 5 rfl) ?_
          refine va_get (D := D) (ci := 4) (v := .ref na_441) (C := RX4) (T := TX4) (N := 9) hx hb hts iX4 hown hK hP 0 rfl rfl 8 (by decide) f62 (fun _ h9 => h9) rfl dL_act_458 ?_
          refine va_alen hx hb hK hP 3 1 rfl rfl (v := nI (Rt.length + 1)) rfl dL_act_461 ?_
          refine lv_iconst (v := nI 1) hx hb dL_act_462 (by decide +kernel) ?_
          refine k_isub hx hb (nI Rt.length) (k_subN _ _) dL_act_463 ?_
          refine k_cmp_ne (tgt := 476) hx hb Rt.length Rt.length rfl rfl (by omega) (by omega) dL_act_464 (by decide) (fun c_464 => ?_) (fun c_464 => ?_)
          · skip
            exact absurd rfl c_464
          · skip
            refine lv_iload hx hb dL_act_467 (lv_at hl 3 rfl) ?_
            refine k_if_eq (tgt := 476) hx hb 1 rfl (by omega) dL_act_469 (by decide) (fun c_469 => ?_) (fun c_469 => ?_)
            · exact absurd c_469 (by omega)
            · skip
              refine lv_iconst (v := nI 1) hx hb dL_act_472 (by decide +kernel) ?_
              refine lv_goto (tgt := 477) hx hb dL_act_473 (by decide) ?_
              exact ret (nI 1) ⟨f2, (setT q (stT q ++ [(nI kd, zz, nI ea, 30, -1)])), ba, na_441, Rb, (Rt ++ [(q_27, (nI kd, zz, nI ea, 30, -1))])⟩ _ _ _ _ _ _ rfl (⟨rfl, hr_454.2, (rQ_add hq), (okQ_add hok bkd bzz bea (by omega)), (Nat.le_add_right _ _)⟩) (z_subP hP [0, 1, 3] (by rw [ad_app, List.length_append]; rfl)) (z_subD hD [0, 1, 3] (by decide) (by rw [ad_app, List.length_append]; rfl)) hS (Nat.le_of_ble_eq_true rfl) (Nat.le_of_ble_eq_true rfl) dL_act_477
    · skip
      refine lv_tableOut (x := nI cs) (tgt := 478) hx hb dL_act_32 (Or.inr (by rw [nI_toInt (by omega)]; omega)) (by decide) ?_
      refine lv_iconst (v := nI 1) hx hb dL_act_478 (by decide +kernel) ?_
      refine lv_iload_n hx hb dL_act_479 rfl (lv_at hl 3 rfl) ?_
      refine lv_iconst (v := nI 4) hx hb dL_act_480 (by decide +kernel) ?_
      refine lv_ishr hx hb dL_act_481 ?_
      refine lv_iload_n hx hb dL_act_482 rfl (lv_at hl 3 rfl) ?_
      refine lv_bipush (v := nI 7) hx hb dL_act_483 (by decide +kernel) ?_
      refine lv_ishr hx hb dL_act_485 ?_
      refine lv_iconst (v := nI 5) hx hb dL_act_486 (by decide +kernel) ?_
      refine kz_callS (As := [.int (v >>> ((nI 7) &&& 31)), .int (nI 5)]) (rest := [.int (v >>> ((nI 4) &&& 31)), .int (nI 1)]) (wp := [(s, .inr (4, [.int (nI (stI q)), .int (nI (stN q)), .int (stO q), .int (stV q), .int (nI (stG q)), .int (nI (stS q)), .int (stM q), .ref ba, .ref ta])), (ba, .inl (cQ, Rb.length, .inr (.inr (.inr (.inr (qf (ad Rb))))))), (ta, .inl (cQ, Rt.length, .inr (.inr (.inr (.inr (qf (ad Rt)))))))]) (wc := []) (wr := [(s, .inr (4, [.int (nI (stI q)), .int (nI (stN q)), .int (stO q), .int (stV q), .int (nI (stG q)), .int (nI (stS q)), .int (stM q), .ref ba, .ref ta])), (ba, .inl (cQ, Rb.length, .inr (.inr (.inr (.inr (qf (ad Rb))))))), (ta, .inl (cQ, Rt.length, .inr (.inr (.inr (.inr (qf (ad Rt)))))))]) (Z := ((sT cI (Rb.map bq) (Rt.map tq)) ++ ((xA cI x a b f q) ++ ((xB cI b g q2) ++ [])))) (X0 := []) (Y := ((sT cI (Rb.map bq) (Rt.map tq)) ++ ((xA cI x a b f q) ++ ((xB cI b g q2) ++ [])))) (wc1 := (fun (u : Unit) => [])) (X1 := (fun (u : Unit) => [])) F (c_L_below l D cI (v >>> ((nI 7) &&& 31)) 5 (by decide)) gL_act_L_below rfl (nA := 2) (by decide +kernel) rfl ⟨Nat.le_of_ble_eq_true rfl, Nat.le_of_ble_eq_true rfl⟩ hK hP hD hS hA hG [] [0, 1, 2] rfl (by decide) (List.Perm.refl _) (List.append_nil _).symm (fun _ => (List.append_nil _).symm) [0] rfl rfl hl.1 (Nat.le_of_ble_eq_true rfl) dL_act_487 ⟨Nat.le_of_ble_eq_true rfl, Nat.le_of_ble_eq_true rfl⟩ (fun r_30 u H locs hr_487 hP hD hS => ?_)
      try dsimp only at hr_487
      have hP : va_P D vwCl ([(s, .inr (4, [.int (nI (stI q)), .int (nI (stN q)), .int (stO q), .int (stV q), .int (nI (stG q)), .int (nI (stS q)), .int (stM q), .ref ba, .ref ta])), (ba, .inl (cQ, Rb.length, .inr (.inr (.inr (.inr (qf (ad Rb))))))), (ta, .inl (cQ, Rt.length, .inr (.inr (.inr (.inr (qf (ad Rt)))))))] ++ ((sT cI (Rb.map bq) (Rt.map tq)) ++ ((xA cI x a b f q) ++ ((xB cI b g q2) ++ [])))) H := hP
      have hD : va_D A ([(s, .inr (4, [.int (nI (stI q)), .int (nI (stN q)), .int (stO q), .int (stV q), .int (nI (stG q)), .int (nI (stS q)), .int (stM q), .ref ba, .ref ta])), (ba, .inl (cQ, Rb.length, .inr (.inr (.inr (.inr (qf (ad Rb))))))), (ta, .inl (cQ, Rt.length, .inr (.inr (.inr (.inr (qf (ad Rt)))))))] ++ ((sT cI (Rb.map bq) (Rt.map tq)) ++ ((xA cI x a b f q) ++ ((xB cI b g q2) ++ [])))) := hD
      refine W.eq (g2 := F0 m 490 ls [.int r_30, .int (v >>> ((nI 4) &&& 31)), .int (nI 1)]) rfl ?_
      refine W.widen (k := 0) (n := 0) (Nat.le_refl _) (Nat.le_refl _) ?_
      refine k_top (v := nI (bw (v >>> ((nI 7) &&& 31)) 5)) (hr_487) ?_
      refine k_if_ne (tgt := 498) hx hb (bw (v >>> ((nI 7) &&& 31)) 5) rfl (by have := bw_lt (v >>> (nI 7 &&& 31)) (n := 5) (by decide); omega) dL_act_490 (by decide) (fun c_490 => ?_) (fun c_490 => ?_)
      · skip
        refine lv_iconst (v := nI 4) hx hb dL_act_498 (by decide +kernel) ?_
        refine kz_callS (As := [.int (v >>> ((nI 4) &&& 31)), .int (nI 4)]) (rest := [.int (nI 1)]) (wp := [(s, .inr (4, [.int (nI (stI q)), .int (nI (stN q)), .int (stO q), .int (stV q), .int (nI (stG q)), .int (nI (stS q)), .int (stM q), .ref ba, .ref ta])), (ba, .inl (cQ, Rb.length, .inr (.inr (.inr (.inr (qf (ad Rb))))))), (ta, .inl (cQ, Rt.length, .inr (.inr (.inr (.inr (qf (ad Rt)))))))]) (wc := []) (wr := [(s, .inr (4, [.int (nI (stI q)), .int (nI (stN q)), .int (stO q), .int (stV q), .int (nI (stG q)), .int (nI (stS q)), .int (stM q), .ref ba, .ref ta])), (ba, .inl (cQ, Rb.length, .inr (.inr (.inr (.inr (qf (ad Rb))))))), (ta, .inl (cQ, Rt.length, .inr (.inr (.inr (.inr (qf (ad Rt)))))))]) (Z := ((sT cI (Rb.map bq) (Rt.map tq)) ++ ((xA cI x a b f q) ++ ((xB cI b g q2) ++ [])))) (X0 := []) (Y := ((sT cI (Rb.map bq) (Rt.map tq)) ++ ((xA cI x a b f q) ++ ((xB cI b g q2) ++ [])))) (wc1 := (fun (u : Unit) => [])) (X1 := (fun (u : Unit) => [])) F (c_L_below l D cI (v >>> ((nI 4) &&& 31)) 4 (by decide)) gL_act_L_below rfl (nA := 2) (by decide +kernel) rfl ⟨Nat.le_of_ble_eq_true rfl, Nat.le_of_ble_eq_true rfl⟩ hK hP hD hS hA hG [] [0, 1, 2] rfl (by decide) (List.Perm.refl _) (List.append_nil _).symm (fun _ => (List.append_nil _).symm) [0] rfl rfl hl.1 (Nat.le_of_ble_eq_true rfl) dL_act_499 ⟨Nat.le_of_ble_eq_true rfl, Nat.le_of_ble_eq_true rfl⟩ (fun r_31 u H locs hr_499 hP hD hS => ?_)
        try dsimp only at hr_499
        have hP : va_P D vwCl ([(s, .inr (4, [.int (nI (stI q)), .int (nI (stN q)), .int (stO q), .int (stV q), .int (nI (stG q)), .int (nI (stS q)), .int (stM q), .ref ba, .ref ta])), (ba, .inl (cQ, Rb.length, .inr (.inr (.inr (.inr (qf (ad Rb))))))), (ta, .inl (cQ, Rt.length, .inr (.inr (.inr (.inr (qf (ad Rt)))))))] ++ ((sT cI (Rb.map bq) (Rt.map tq)) ++ ((xA cI x a b f q) ++ ((xB cI b g q2) ++ [])))) H := hP
        have hD : va_D A ([(s, .inr (4, [.int (nI (stI q)), .int (nI (stN q)), .int (stO q), .int (stV q), .int (nI (stG q)), .int (nI (stS q)), .int (stM q), .ref ba, .ref ta])), (ba, .inl (cQ, Rb.length, .inr (.inr (.inr (.inr (qf (ad Rb))))))), (ta, .inl (cQ, Rt.length, .inr (.inr (.inr (.inr (qf (ad Rt)))))))] ++ ((sT cI (Rb.map bq) (Rt.map tq)) ++ ((xA cI x a b f q) ++ ((xB cI b g q2) ++ [])))) := hD
        refine W.eq (g2 := F0 m 502 ls [.int r_31, .int (nI 1)]) rfl ?_
        refine W.widen (k := 0) (n := 0) (Nat.le_refl _) (Nat.le_refl _) ?_
        refine k_top (v := nI (bw (v >>> ((nI 4) &&& 31)) 4)) (hr_499) ?_
        obtain ⟨mm, hmm, bmm⟩ : ∃ z, 1 + (bw (v >>> ((nI 4) &&& 31)) 4) = z ∧ (1 ≤ z ∧ z ≤ 60) := ⟨_, rfl, by have := bw_lt (v >>> ((nI 4) &&& 31)) (n := 4) (by decide); omega⟩
        refine k_iadd hx hb (nI mm) (by rw [nI_add, hmm]) dL_act_502 ?_
        refine lv_istore (lv' := [(6, .int (nI mm)), (5, .int (nI 1)), (0, .ref x), (1, .ref s), (2, .int v), (3, .int (nI Rb.length)), (4, .int (nI pl))]) hx hb dL_act_503 hl (by decide) rfl (fun ls hl => ?_)
        refine lv_aload_n hx hb dL_act_505 rfl (lv_at hl 2 rfl) ?_
        refine lv_iload hx hb dL_act_506 (lv_at hl 0 rfl) ?_
        refine kz_callX (As := [.int (nI mm)]) (rest := []) F (c_ZX3_pass l D cI x a b f q mm hR hO bmm) gL_act_X3_pass rfl (nA := 1) (by decide +kernel) rfl ⟨Nat.le_of_ble_eq_true rfl, Nat.le_of_ble_eq_true rfl⟩ hK hP hD hS hA hG (ci := 3) (q0 := 0) rfl rfl rfl zp_pn [0] rfl rfl hl.1 (Nat.le_of_ble_eq_true rfl) dL_act_508 ⟨Nat.le_of_ble_eq_true rfl, Nat.le_of_ble_eq_true rfl⟩ (fun r_32 u H locs hr_508 hP hD hS => ?_)
        obtain ⟨f2, rfl⟩ : ∃ z, z = u := ⟨_, rfl⟩
        try dsimp only at hr_508
        have hP := z_PS z_pnb hP
        have hD := z_DS z_pnb hD
        have hP : va_P D vwCl ([(s, .inr (4, [.int (nI (stI q)), .int (nI (stN q)), .int (stO q), .int (stV q), .int (nI (stG q)), .int (nI (stS q)), .int (stM q), .ref ba, .ref ta])), (ba, .inl (cQ, Rb.length, .inr (.inr (.inr (.inr (qf (ad Rb))))))), (ta, .inl (cQ, Rt.length, .inr (.inr (.inr (.inr (qf (ad Rt)))))))] ++ ((sT cI (Rb.map bq) (Rt.map tq)) ++ ((xA cI x a b f2 (itS q mm)) ++ ((xB cI b g q2) ++ [])))) H := hP
        have hD : va_D A ([(s, .inr (4, [.int (nI (stI q)), .int (nI (stN q)), .int (stO q), .int (stV q), .int (nI (stG q)), .int (nI (stS q)), .int (stM q), .ref ba, .ref ta])), (ba, .inl (cQ, Rb.length, .inr (.inr (.inr (.inr (qf (ad Rb))))))), (ta, .inl (cQ, Rt.length, .inr (.inr (.inr (.inr (qf (ad Rt)))))))] ++ ((sT cI (Rb.map bq) (Rt.map tq)) ++ ((xA cI x a b f2 (itS q mm)) ++ ((xB cI b g q2) ++ [])))) := hD
        refine W.eq (g2 := F0 m 511 ls [.int r_32]) rfl ?_
        refine W.widen (k := 0) (n := 0) (Nat.le_refl _) (Nat.le_refl _) ?_
        refine k_top (v := nI (ctT (stT q) - ctT (stT (itS q mm)))) (hr_508.1) ?_
        refine lv_aload_n hx hb dL_act_511 rfl (lv_at hl 3 rfl) ?_
        refine lv_iload hx hb dL_act_512 (lv_at hl 0 rfl) ?_
        refine kz_callV (As := [.int (nI mm)]) (rest := [.int (nI (ctT (stT q) - ctT (stT (itS q mm))))]) (wp := [(s, .inr (4, [.int (nI (stI q)), .int (nI (stN q)), .int (stO q), .int (stV q), .int (nI (stG q)), .int (nI (stS q)), .int (stM q), .ref ba, .ref ta])), (ba, .inl (cQ, Rb.length, .inr (.inr (.inr (.inr (qf (ad Rb))))))), (ta, .inl (cQ, Rt.length, .inr (.inr (.inr (.inr (qf (ad Rt)))))))]) (wc := [(s, .inr (4, [.int (nI (stI q)), .int (nI (stN q)), .int (stO q), .int (stV q), .int (nI (stG q)), .int (nI (stS q)), .int (stM q), .ref ba, .ref ta])), (ba, .inl (cQ, Rb.length, .inr (.inr (.inr (.inr (qf (ad Rb))))))), (ta, .inl (cQ, Rt.length, .inr (.inr (.inr (.inr (qf (ad Rt)))))))]) (wr := []) (Z := ((sT cI (Rb.map bq) (Rt.map tq)) ++ ((xA cI x a b f2 (itS q mm)) ++ ((xB cI b g q2) ++ [])))) (X0 := sT cI (Rb.map bq) (Rt.map tq)) (Y := ((xA cI x a b f2 (itS q mm)) ++ ((xB cI b g q2) ++ []))) (wc1 := (fun (u : Nat × (List (Nat × Tp)) × (List (Nat × Tk))) => [(s, .inr (4, [.int (nI (stI (itS q mm))), .int (nI (stN (itS q mm))), .int (stO (itS q mm)), .int (stV (itS q mm)), .int (nI (stG (itS q mm))), .int (nI (stS (itS q mm))), .int (stM (itS q mm)), .ref u.1, .ref ta])), (u.1, .inl (cQ, u.2.1.length, .inr (.inr (.inr (.inr (qf (ad u.2.1))))))), (ta, .inl (cQ, u.2.2.length, .inr (.inr (.inr (.inr (qf (ad u.2.2)))))))])) (X1 := (fun (u : Nat × (List (Nat × Tp)) × (List (Nat × Tk))) => (sT cI (u.2.1.map bq) (u.2.2.map tq)))) F (c_X4_pass_ l D cI cQ s ba ta q mm Rb Rt hq hO hX (by omega) bmm.2) gL_act_X4_pass_ rfl (nA := 1) (by decide +kernel) rfl ⟨Nat.le_of_ble_eq_true rfl, Nat.le_of_ble_eq_true rfl⟩ hK hP hD hS hA hG (ci := 4) (q0 := 0) rfl rfl rfl [0, 1, 2] [] rfl (by decide) (List.Perm.refl _) (by rw [List.append_nil]) (fun u => by simp only [List.append_nil]) [0, 1] rfl rfl hl.1 (Nat.le_of_ble_eq_true rfl) dL_act_514 ⟨Nat.le_of_ble_eq_true rfl, Nat.le_of_ble_eq_true rfl⟩ (fun r_33 u H locs hr_514 hP hD hS => ?_)
        obtain ⟨b5, R5, R6⟩ := u
        try dsimp only at hr_514
        have hP : va_P D vwCl ([(s, .inr (4, [.int (nI (stI (itS q mm))), .int (nI (stN (itS q mm))), .int (stO (itS q mm)), .int (stV (itS q mm)), .int (nI (stG (itS q mm))), .int (nI (stS (itS q mm))), .int (stM (itS q mm)), .ref b5, .ref ta])), (b5, .inl (cQ, R5.length, .inr (.inr (.inr (.inr (qf (ad R5))))))), (ta, .inl (cQ, R6.length, .inr (.inr (.inr (.inr (qf (ad R6)))))))] ++ ((sT cI (R5.map bq) (R6.map tq)) ++ ((xA cI x a b f2 (itS q mm)) ++ ((xB cI b g q2) ++ [])))) H := hP
        have hD : va_D A ([(s, .inr (4, [.int (nI (stI (itS q mm))), .int (nI (stN (itS q mm))), .int (stO (itS q mm)), .int (stV (itS q mm)), .int (nI (stG (itS q mm))), .int (nI (stS (itS q mm))), .int (stM (itS q mm)), .ref b5, .ref ta])), (b5, .inl (cQ, R5.length, .inr (.inr (.inr (.inr (qf (ad R5))))))), (ta, .inl (cQ, R6.length, .inr (.inr (.inr (.inr (qf (ad R6)))))))] ++ ((sT cI (R5.map bq) (R6.map tq)) ++ ((xA cI x a b f2 (itS q mm)) ++ ((xB cI b g q2) ++ [])))) := hD
        refine W.eq (g2 := F0 m 517 ls [.int r_33, .int (nI (ctT (stT q) - ctT (stT (itS q mm))))]) rfl ?_
        refine W.widen (k := 1500) (n := 14760) (Nat.le_refl _) (Nat.le_refl _) ?_
        refine k_top (v := nI (ctT (stT q) - ctT (stT (itS q mm)))) (hr_514.1) ?_
        refine k_cmp_ne (tgt := 524) hx hb (ctT (stT q) - ctT (stT (itS q mm))) (ctT (stT q) - ctT (stT (itS q mm))) rfl rfl (by omega) (by omega) dL_act_517 (by decide) (fun c_517 => ?_) (fun c_517 => ?_)
        · skip
          exact absurd rfl c_517
        · skip
          refine lv_iconst (v := nI 1) hx hb dL_act_520 (by decide +kernel) ?_
          refine lv_goto (tgt := 525) hx hb dL_act_521 (by decide) ?_
          exact ret (nI 1) ⟨f2, (itS q mm), b5, ta, R5, R6⟩ _ _ _ _ _ _ rfl (⟨rfl, hr_508.2, hr_514.2, (okQ_it hok mm), (by rw [stI_it]; omega)⟩) (z_subP hP [0, 1, 2] (rfl)) (z_subD hD [0, 1, 2] (by decide) (rfl)) hS (Nat.le_of_ble_eq_true rfl) (Nat.le_of_ble_eq_true rfl) dL_act_525
      · skip
        refine lv_bipush (v := nI 60) hx hb dL_act_493 (by decide +kernel) ?_
        refine lv_goto (tgt := 499) hx hb dL_act_495 (by decide) ?_
        refine kz_callS (As := [.int (v >>> ((nI 4) &&& 31)), .int (nI 60)]) (rest := [.int (nI 1)]) (wp := [(s, .inr (4, [.int (nI (stI q)), .int (nI (stN q)), .int (stO q), .int (stV q), .int (nI (stG q)), .int (nI (stS q)), .int (stM q), .ref ba, .ref ta])), (ba, .inl (cQ, Rb.length, .inr (.inr (.inr (.inr (qf (ad Rb))))))), (ta, .inl (cQ, Rt.length, .inr (.inr (.inr (.inr (qf (ad Rt)))))))]) (wc := []) (wr := [(s, .inr (4, [.int (nI (stI q)), .int (nI (stN q)), .int (stO q), .int (stV q), .int (nI (stG q)), .int (nI (stS q)), .int (stM q), .ref ba, .ref ta])), (ba, .inl (cQ, Rb.length, .inr (.inr (.inr (.inr (qf (ad Rb))))))), (ta, .inl (cQ, Rt.length, .inr (.inr (.inr (.inr (qf (ad Rt)))))))]) (Z := ((sT cI (Rb.map bq) (Rt.map tq)) ++ ((xA cI x a b f q) ++ ((xB cI b g q2) ++ [])))) (X0 := []) (Y := ((sT cI (Rb.map bq) (Rt.map tq)) ++ ((xA cI x a b f q) ++ ((xB cI b g q2) ++ [])))) (wc1 := (fun (u : Unit) => [])) (X1 := (fun (u : Unit) => [])) F (c_L_below l D cI (v >>> ((nI 4) &&& 31)) 60 (by decide)) gL_act_L_below rfl (nA := 2) (by decide +kernel) rfl ⟨Nat.le_of_ble_eq_true rfl, Nat.le_of_ble_eq_true rfl⟩ hK hP hD hS hA hG [] [0, 1, 2] rfl (by decide) (List.Perm.refl _) (List.append_nil _).symm (fun _ => (List.append_nil _).symm) [0] rfl rfl hl.1 (Nat.le_of_ble_eq_true rfl) dL_act_499 ⟨Nat.le_of_ble_eq_true rfl, Nat.le_of_ble_eq_true rfl⟩ (fun r_34 u H locs hr_499 hP hD hS => ?_)
        try dsimp only at hr_499
        have hP : va_P D vwCl ([(s, .inr (4, [.int (nI (stI q)), .int (nI (stN q)), .int (stO q), .int (stV q), .int (nI (stG q)), .int (nI (stS q)), .int (stM q), .ref ba, .ref ta])), (ba, .inl (cQ, Rb.length, .inr (.inr (.inr (.inr (qf (ad Rb))))))), (ta, .inl (cQ, Rt.length, .inr (.inr (.inr (.inr (qf (ad Rt)))))))] ++ ((sT cI (Rb.map bq) (Rt.map tq)) ++ ((xA cI x a b f q) ++ ((xB cI b g q2) ++ [])))) H := hP
        have hD : va_D A ([(s, .inr (4, [.int (nI (stI q)), .int (nI (stN q)), .int (stO q), .int (stV q), .int (nI (stG q)), .int (nI (stS q)), .int (stM q), .ref ba, .ref ta])), (ba, .inl (cQ, Rb.length, .inr (.inr (.inr (.inr (qf (ad Rb))))))), (ta, .inl (cQ, Rt.length, .inr (.inr (.inr (.inr (qf (ad Rt)))))))] ++ ((sT cI (Rb.map bq) (Rt.map tq)) ++ ((xA cI x a b f q) ++ ((xB cI b g q2) ++ [])))) := hD
        refine W.eq (g2 := F0 m 502 ls [.int r_34, .int (nI 1)]) rfl ?_
        refine W.widen (k := 0) (n := 0) (Nat.le_refl _) (Nat.le_refl _) ?_
        refine k_top (v := nI (bw (v >>> ((nI 4) &&& 31)) 60)) (hr_499) ?_
        obtain ⟨mm, hmm, bmm⟩ : ∃ z, 1 + (bw (v >>> ((nI 4) &&& 31)) 60) = z ∧ (1 ≤ z ∧ z ≤ 60) := ⟨_, rfl, by have := bw_lt (v >>> ((nI 4) &&& 31)) (n := 60) (by decide); omega⟩
        refine k_iadd hx hb (nI mm) (by rw [nI_add, hmm]) dL_act_502 ?_
        refine lv_istore (lv' := [(6, .int (nI mm)), (5, .int (nI 1)), (0, .ref x), (1, .ref s), (2, .int v), (3, .int (nI Rb.length)), (4, .int (nI pl))]) hx hb dL_act_503 hl (by decide) rfl (fun ls hl => ?_)
        refine lv_aload_n hx hb dL_act_505 rfl (lv_at hl 2 rfl) ?_
        refine lv_iload hx hb dL_act_506 (lv_at hl 0 rfl) ?_
        refine kz_callX (As := [.int (nI mm)]) (rest := []) F (c_ZX3_pass l D cI x a b f q mm hR hO bmm) gL_act_X3_pass rfl (nA := 1) (by decide +kernel) rfl ⟨Nat.le_of_ble_eq_true rfl, Nat.le_of_ble_eq_true rfl⟩ hK hP hD hS hA hG (ci := 3) (q0 := 0) rfl rfl rfl zp_pn [0] rfl rfl hl.1 (Nat.le_of_ble_eq_true rfl) dL_act_508 ⟨Nat.le_of_ble_eq_true rfl, Nat.le_of_ble_eq_true rfl⟩ (fun r_35 u H locs hr_508 hP hD hS => ?_)
        obtain ⟨f2, rfl⟩ : ∃ z, z = u := ⟨_, rfl⟩
        try dsimp only at hr_508
        have hP := z_PS z_pnb hP
        have hD := z_DS z_pnb hD
        have hP : va_P D vwCl ([(s, .inr (4, [.int (nI (stI q)), .int (nI (stN q)), .int (stO q), .int (stV q), .int (nI (stG q)), .int (nI (stS q)), .int (stM q), .ref ba, .ref ta])), (ba, .inl (cQ, Rb.length, .inr (.inr (.inr (.inr (qf (ad Rb))))))), (ta, .inl (cQ, Rt.length, .inr (.inr (.inr (.inr (qf (ad Rt)))))))] ++ ((sT cI (Rb.map bq) (Rt.map tq)) ++ ((xA cI x a b f2 (itS q mm)) ++ ((xB cI b g q2) ++ [])))) H := hP
        have hD : va_D A ([(s, .inr (4, [.int (nI (stI q)), .int (nI (stN q)), .int (stO q), .int (stV q), .int (nI (stG q)), .int (nI (stS q)), .int (stM q), .ref ba, .ref ta])), (ba, .inl (cQ, Rb.length, .inr (.inr (.inr (.inr (qf (ad Rb))))))), (ta, .inl (cQ, Rt.length, .inr (.inr (.inr (.inr (qf (ad Rt)))))))] ++ ((sT cI (Rb.map bq) (Rt.map tq)) ++ ((xA cI x a b f2 (itS q mm)) ++ ((xB cI b g q2) ++ [])))) := hD
        refine W.eq (g2 := F0 m 511 ls [.int r_35]) rfl ?_
        refine W.widen (k := 0) (n := 0) (Nat.le_refl _) (Nat.le_refl _) ?_
        refine k_top (v := nI (ctT (stT q) - ctT (stT (itS q mm)))) (hr_508.1) ?_
        refine lv_aload_n hx hb dL_act_511 rfl (lv_at hl 3 rfl) ?_
        refine lv_iload hx hb dL_act_512 (lv_at hl 0 rfl) ?_
        refine kz_callV (As := [.int (nI mm)]) (rest := [.int (nI (ctT (stT q) - ctT (stT (itS q mm))))]) (wp := [(s, .inr (4, [.int (nI (stI q)), .int (nI (stN q)), .int (stO q), .int (stV q), .int (nI (stG q)), .int (nI (stS q)), .int (stM q), .ref ba, .ref ta])), (ba, .inl (cQ, Rb.length, .inr (.inr (.inr (.inr (qf (ad Rb))))))), (ta, .inl (cQ, Rt.length, .inr (.inr (.inr (.inr (qf (ad Rt)))))))]) (wc := [(s, .inr (4, [.int (nI (stI q)), .int (nI (stN q)), .int (stO q), .int (stV q), .int (nI (stG q)), .int (nI (stS q)), .int (stM q), .ref ba, .ref ta])), (ba, .inl (cQ, Rb.length, .inr (.inr (.inr (.inr (qf (ad Rb))))))), (ta, .inl (cQ, Rt.length, .inr (.inr (.inr (.inr (qf (ad Rt)))))))]) (wr := []) (Z := ((sT cI (Rb.map bq) (Rt.map tq)) ++ ((xA cI x a b f2 (itS q mm)) ++ ((xB cI b g q2) ++ [])))) (X0 := sT cI (Rb.map bq) (Rt.map tq)) (Y := ((xA cI x a b f2 (itS q mm)) ++ ((xB cI b g q2) ++ []))) (wc1 := (fun (u : Nat × (List (Nat × Tp)) × (List (Nat × Tk))) => [(s, .inr (4, [.int (nI (stI (itS q mm))), .int (nI (stN (itS q mm))), .int (stO (itS q mm)), .int (stV (itS q mm)), .int (nI (stG (itS q mm))), .int (nI (stS (itS q mm))), .int (stM (itS q mm)), .ref u.1, .ref ta])), (u.1, .inl (cQ, u.2.1.length, .inr (.inr (.inr (.inr (qf (ad u.2.1))))))), (ta, .inl (cQ, u.2.2.length, .inr (.inr (.inr (.inr (qf (ad u.2.2)))))))])) (X1 := (fun (u : Nat × (List (Nat × Tp)) × (List (Nat × Tk))) => (sT cI (u.2.1.map bq) (u.2.2.map tq)))) F (c_X4_pass_ l D cI cQ s ba ta q mm Rb Rt hq hO hX (by omega) bmm.2) gL_act_X4_pass_ rfl (nA := 1) (by decide +kernel) rfl ⟨Nat.le_of_ble_eq_true rfl, Nat.le_of_ble_eq_true rfl⟩ hK hP hD hS hA hG (ci := 4) (q0 := 0) rfl rfl rfl [0, 1, 2] [] rfl (by decide) (List.Perm.refl _) (by rw [List.append_nil]) (fun u => by simp only [List.append_nil]) [0, 1] rfl rfl hl.1 (Nat.le_of_ble_eq_true rfl) dL_act_514 ⟨Nat.le_of_ble_eq_true rfl, Nat.le_of_ble_eq_true rfl⟩ (fun r_36 u H locs hr_514 hP hD hS => ?_)
        obtain ⟨b5, R5, R6⟩ := u
        try dsimp only at hr_514
        have hP : va_P D vwCl ([(s, .inr (4, [.int (nI (stI (itS q mm))), .int (nI (stN (itS q mm))), .int (stO (itS q mm)), .int (stV (itS q mm)), .int (nI (stG (itS q mm))), .int (nI (stS (itS q mm))), .int (stM (itS q mm)), .ref b5, .ref ta])), (b5, .inl (cQ, R5.length, .inr (.inr (.inr (.inr (qf (ad R5))))))), (ta, .inl (cQ, R6.length, .inr (.inr (.inr (.inr (qf (ad R6)))))))] ++ ((sT cI (R5.map bq) (R6.map tq)) ++ ((xA cI x a b f2 (itS q mm)) ++ ((xB cI b g q2) ++ [])))) H := hP
        have hD : va_D A ([(s, .inr (4, [.int (nI (stI (itS q mm))), .int (nI (stN (itS q mm))), .int (stO (itS q mm)), .int (stV (itS q mm)), .int (nI (stG (itS q mm))), .int (nI (stS (itS q mm))), .int (stM (itS q mm)), .ref b5, .ref ta])), (b5, .inl (cQ, R5.length, .inr (.inr (.inr (.inr (qf (ad R5))))))), (ta, .inl (cQ, R6.length, .inr (.inr (.inr (.inr (qf (ad R6)))))))] ++ ((sT cI (R5.map bq) (R6.map tq)) ++ ((xA cI x a b f2 (itS q mm)) ++ ((xB cI b g q2) ++ [])))) := hD
        refine W.eq (g2 := F0 m 517 ls [.int r_36, .int (nI (ctT (stT q) - ctT (stT (itS q mm))))]) rfl ?_
        refine W.widen (k := 1500) (n := 14760) (Nat.le_refl _) (Nat.le_refl _) ?_
        refine k_top (v := nI (ctT (stT q) - ctT (stT (itS q mm)))) (hr_514.1) ?_
        refine k_cmp_ne (tgt := 524) hx hb (ctT (stT q) - ctT (stT (itS q mm))) (ctT (stT q) - ctT (stT (itS q mm))) rfl rfl (by omega) (by omega) dL_act_517 (by decide) (fun c_517 => ?_) (fun c_517 => ?_)
        · skip
          exact absurd rfl c_517
        · skip
          refine lv_iconst (v := nI 1) hx hb dL_act_520 (by decide +kernel) ?_
          refine lv_goto (tgt := 525) hx hb dL_act_521 (by decide) ?_
          exact ret (nI 1) ⟨f2, (itS q mm), b5, ta, R5, R6⟩ _ _ _ _ _ _ rfl (⟨rfl, hr_508.2, hr_514.2, (okQ_it hok mm), (by rw [stI_it]; omega)⟩) (z_subP hP [0, 1, 2] (rfl)) (z_subD hD [0, 1, 2] (by decide) (rfl)) hS (Nat.le_of_ble_eq_true rfl) (Nat.le_of_ble_eq_true rfl) dL_act_525
  refine lv_iload_n hx hb dL_act_6 rfl (lv_at hl 0 rfl) ?_
  refine k_if_ne (tgt := 14) hx hb Rb.length rfl (by omega) dL_act_7 (by decide) (fun c_7 => ?_) (fun c_7 => ?_)
  · skip
    refine lv_iload_n hx hb dL_act_14 rfl (lv_at hl 3 rfl) ?_
    refine lv_iconst (v := nI 4) hx hb dL_act_15 (by decide +kernel) ?_
    refine lv_ishr hx hb dL_act_16 ?_
    refine lv_iload_n hx hb dL_act_17 rfl (lv_at hl 0 rfl) ?_
    refine kz_callS (As := [.int (v >>> ((nI 4) &&& 31)), .int (nI Rb.length)]) (rest := []) (wp := [(s, .inr (4, [.int (nI (stI q)), .int (nI (stN q)), .int (stO q), .int (stV q), .int (nI (stG q)), .int (nI (stS q)), .int (stM q), .ref ba, .ref ta])), (ba, .inl (cQ, Rb.length, .inr (.inr (.inr (.inr (qf (ad Rb))))))), (ta, .inl (cQ, Rt.length, .inr (.inr (.inr (.inr (qf (ad Rt)))))))]) (wc := []) (wr := [(s, .inr (4, [.int (nI (stI q)), .int (nI (stN q)), .int (stO q), .int (stV q), .int (nI (stG q)), .int (nI (stS q)), .int (stM q), .ref ba, .ref ta])), (ba, .inl (cQ, Rb.length, .inr (.inr (.inr (.inr (qf (ad Rb))))))), (ta, .inl (cQ, Rt.length, .inr (.inr (.inr (.inr (qf (ad Rt)))))))]) (Z := ((sT cI (Rb.map bq) (Rt.map tq)) ++ ((xA cI x a b f q) ++ ((xB cI b g q2) ++ [])))) (X0 := []) (Y := ((sT cI (Rb.map bq) (Rt.map tq)) ++ ((xA cI x a b f q) ++ ((xB cI b g q2) ++ [])))) (wc1 := (fun (u : Unit) => [])) (X1 := (fun (u : Unit) => [])) F (c_L_below l D cI (v >>> ((nI 4) &&& 31)) Rb.length (by omega)) gL_act_L_below rfl (nA := 2) (by decide +kernel) rfl ⟨Nat.le_of_ble_eq_true rfl, Nat.le_of_ble_eq_true rfl⟩ hK hP hD hS hA hG [] [0, 1, 2] rfl (by decide) (List.Perm.refl _) (List.append_nil _).symm (fun _ => (List.append_nil _).symm) [0] rfl rfl hl.1 (Nat.le_of_ble_eq_true rfl) dL_act_18 ⟨Nat.le_of_ble_eq_true rfl, Nat.le_of_ble_eq_true rfl⟩ (fun r_37 u H locs hr_18 hP hD hS => ?_)
    try dsimp only at hr_18
    have hP : va_P D vwCl ([(s, .inr (4, [.int (nI (stI q)), .int (nI (stN q)), .int (stO q), .int (stV q), .int (nI (stG q)), .int (nI (stS q)), .int (stM q), .ref ba, .ref ta])), (ba, .inl (cQ, Rb.length, .inr (.inr (.inr (.inr (qf (ad Rb))))))), (ta, .inl (cQ, Rt.length, .inr (.inr (.inr (.inr (qf (ad Rt)))))))] ++ ((sT cI (Rb.map bq) (Rt.map tq)) ++ ((xA cI x a b f q) ++ ((xB cI b g q2) ++ [])))) H := hP
    have hD : va_D A ([(s, .inr (4, [.int (nI (stI q)), .int (nI (stN q)), .int (stO q), .int (stV q), .int (nI (stG q)), .int (nI (stS q)), .int (stM q), .ref ba, .ref ta])), (ba, .inl (cQ, Rb.length, .inr (.inr (.inr (.inr (qf (ad Rb))))))), (ta, .inl (cQ, Rt.length, .inr (.inr (.inr (.inr (qf (ad Rt)))))))] ++ ((sT cI (Rb.map bq) (Rt.map tq)) ++ ((xA cI x a b f q) ++ ((xB cI b g q2) ++ [])))) := hD
    refine W.eq (g2 := F0 m 21 ls [.int r_37]) rfl ?_
    refine W.widen (k := 0) (n := 0) (Nat.le_refl _) (Nat.le_refl _) ?_
    refine k_top (v := nI (bw (v >>> (nI 4 &&& 31)) Rb.length)) (hr_18) ?_
    refine lv_istore (lv' := [(4, .int (nI (bw (v >>> (nI 4 &&& 31)) Rb.length))), (3, .int (nI Rb.length)), (0, .ref x), (1, .ref s), (2, .int v)]) hx hb dL_act_21 hl (by decide) rfl (fun ls hl => ?_)
    exact cut_23 (bw (v >>> (nI 4 &&& 31)) Rb.length) (⟨fun _ => bw_lt _ (by omega), (by have := bw_lt (v >>> (nI 4 &&& 31)) (n := Rb.length) (by omega); omega)⟩) _ _ (z_subP hP [0, 1, 2] (rfl)) (z_subD hD [0, 1, 2] (by decide) (rfl)) hS _ (lv_sub hl [2, 3, 4, 1, 0] (rfl))
  · skip
    refine lv_iconst (v := nI 0) hx hb dL_act_10 (by decide +kernel) ?_
    refine lv_goto (tgt := 21) hx hb dL_act_11 (by decide) ?_
    refine lv_istore (lv' := [(4, .int (nI 0)), (3, .int (nI Rb.length)), (0, .ref x), (1, .ref s), (2, .int v)]) hx hb dL_act_21 hl (by decide) rfl (fun ls hl => ?_)
    exact cut_23 0 (⟨fun h => by omega, by decide⟩) _ _ (z_subP hP [0, 1, 2] (rfl)) (z_subD hD [0, 1, 2] (by decide) (rfl)) hS _ (lv_sub hl [2, 3, 4, 1, 0] (rfl))

