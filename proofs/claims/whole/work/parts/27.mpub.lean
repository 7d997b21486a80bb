abbrev rm_X4_minute : Room := { frames := 1, cells := 0, slots := 0, locals := 21 }
set_option maxHeartbeats 4000000 in
set_option maxRecDepth 100000 in
theorem c_X4_minute (l : Launch) (D : va_G) (cI : ClassId) (mo : Nat) (qi : Nat) (qs : Nat) (qe : Nat) (qn : Nat) (qk : Nat) (tw : Int32) (gi : Nat → Int32) (gs : Nat → Int32) (ge : Nat → Int32) (w : Nat → Int32) (q : St) (hN : rN gi gs ge w q) : kM kri l yX4_minute wsX4_minute rm_X4_minute D [(cI, .int)] [.ref mo] [(mo, .inr (4, [.int tw, .int (nI (stS q)), .int (stM q), .int (nI ((stT q).length)), .ref qi, .ref qs, .ref qe, .ref qn, .ref qk])), (qi, .inl (cI, 6, .inl gi)), (qs, .inl (cI, 6, .inl gs)), (qe, .inl (cI, 6, .inl ge)), (qn, .inl (cI, 42, .inl w))] (fun (r : Int32) (u : Unit) => r = nI (stI q)) (fun (u : Unit) => [(mo, .inr (4, [.int (nI 0), .int (nI (stS q)), .int (stM q), .int (nI ((stT q).length)), .ref qi, .ref qs, .ref qe, .ref qn, .ref qk])), (qi, .inl (cI, 6, .inl gi)), (qs, .inl (cI, 6, .inl gs)), (qe, .inl (cI, 6, .inl ge)), (qn, .inl (cI, 42, .inl w))]) := by
  refine k_bodyI (cc := cX4_minute) (maxL := 1) (by decide) rfl (Nat.le_of_ble_eq_true rfl) ?_
  intro p e ss m args below meth c A Q F hname hA hG hK hP hD hS ret ls hl
  obtain ⟨hx, hb, hml, hown, hts⟩ := id F
  have hP : va_P D vwCl [(mo, .inr (4, [.int tw, .int (nI (stS q)), .int (stM q), .int (nI ((stT q).length)), .ref qi, .ref qs, .ref qe, .ref qn, .ref qk])), (qi, .inl (cI, 6, .inl gi)), (qs, .inl (cI, 6, .inl gs)), (qe, .inl (cI, 6, .inl ge)), (qn, .inl (cI, 42, .inl w))] ss.heap := hP
  have hD : va_D A [(mo, .inr (4, [.int tw, .int (nI (stS q)), .int (stM q), .int (nI ((stT q).length)), .ref qi, .ref qs, .ref qe, .ref qn, .ref qk])), (qi, .inl (cI, 6, .inl gi)), (qs, .inl (cI, 6, .inl gs)), (qe, .inl (cI, 6, .inl ge)), (qn, .inl (cI, 42, .inl w))] := hD
  have hl : lv_has ls 1 [(0, .ref mo)] := hl
  have iX4 : ∀ w ∈ u_ws RX4 TX4 9, w ∈ wsX4_minute := by decide +kernel
  have f26 := hts (.fieldLink RX4 26 "SmallerTalkModel" "now" "[I") (by decide +kernel)
  obtain ⟨n0, n1, n2, n3, n4, n5, nB, nT⟩ := id hN
  refine lv_aload_n hx hb dX4_minute_0 rfl (lv_at hl 0 rfl) ?_
  refine lv_aload_n hx hb dX4_minute_1 rfl (lv_at hl 0 rfl) ?_
  refine va_get (D := D) (ci := 4) (v := .ref qn) (C := RX4) (T := TX4) (N := 9) hx hb hts iX4 hown hK hP 0 rfl rfl 7 (by decide) f26 (fun _ h9 => h9) rfl dX4_minute_2 ?_
  refine lv_iconst (v := nI 0) hx hb dX4_minute_5 (by decide +kernel) ?_
  refine k_iald hx hb hK hP 4 0 rfl rfl 0 (rfl) (by omega) (by decide) dX4_minute_6 ?_
  refine k_top (v := nI (stI q)) (n0) ?_
  refine k_callV (As := [.int (nI (stI q))]) (rest := []) (wr := [(qi, .inl (cI, 6, .inl gi)), (qs, .inl (cI, 6, .inl gs)), (qe, .inl (cI, 6, .inl ge)), (qn, .inl (cI, 42, .inl w))]) F (c_X4_ok l D cI mo qi qs qe qn qk tw (nI (stS q)) (stM q) (nI ((stT q).length)) (nI (stI q)) ) gX4_minute_X4_ok rfl (nA := 1) (by decide +kernel) rfl ⟨Nat.le_of_ble_eq_true rfl, Nat.le_of_ble_eq_true rfl⟩ hK hP hD hS hA hG (ci := 4) (q0 := 0) rfl rfl rfl [0] [1, 2, 3, 4] rfl (by decide) rfl (by decide) (by decide) [0] rfl rfl hl.1 (Nat.le_of_ble_eq_true rfl) dX4_minute_7 ⟨Nat.le_of_ble_eq_true rfl, Nat.le_of_ble_eq_true rfl⟩ (fun r_1 u H locs hr_7 hP hD hS => ?_)
  try dsimp only at hr_7
  have hP : va_P D vwCl [(qi, .inl (cI, 6, .inl gi)), (qs, .inl (cI, 6, .inl gs)), (qe, .inl (cI, 6, .inl ge)), (qn, .inl (cI, 42, .inl w)), (mo, .inr (4, [.int (nI 0), .int (nI (stS q)), .int (stM q), .int (nI ((stT q).length)), .ref qi, .ref qs, .ref qe, .ref qn, .ref qk]))] H := hP
  have hD : va_D A [(qi, .inl (cI, 6, .inl gi)), (qs, .inl (cI, 6, .inl gs)), (qe, .inl (cI, 6, .inl ge)), (qn, .inl (cI, 42, .inl w)), (mo, .inr (4, [.int (nI 0), .int (nI (stS q)), .int (stM q), .int (nI ((stT q).length)), .ref qi, .ref qs, .ref qe, .ref qn, .ref qk]))] := hD
  refine W.eq (g2 := F0 m 10 ls [.int r_1]) rfl ?_
  refine W.widen (k := 0) (n := 0) (Nat.le_of_ble_eq_true rfl) (Nat.le_of_ble_eq_true rfl) ?_
  refine k_top (v := nI (stI q)) (hr_7) ?_
  exact ret (nI (stI q)) () _ _ _ _ _ _ (rfl) (hP.sub [4, 0, 1, 2, 3] (rfl)) (hD.sub [4, 0, 1, 2, 3] (by decide) (rfl)) hS (Nat.le_of_ble_eq_true rfl) (Nat.le_of_ble_eq_true rfl) dX4_minute_10

abbrev rm_X4_topics : Room := { frames := 1, cells := 0, slots := 0, locals := 21 }
set_option maxHeartbeats 4000000 in
set_option maxRecDepth 100000 in
theorem c_X4_topics (l : Launch) (D : va_G) (cI : ClassId) (mo : Nat) (qi : Nat) (qs : Nat) (qe : Nat) (qn : Nat) (qk : Nat) (tw : Int32) (gi : Nat → Int32) (gs : Nat → Int32) (ge : Nat → Int32) (w : Nat → Int32) (q : St) (hN : rN gi gs ge w q) : kM kri l yX4_topics wsX4_topics rm_X4_topics D [(cI, .int)] [.ref mo] [(mo, .inr (4, [.int tw, .int (nI (stS q)), .int (stM q), .int (nI ((stT q).length)), .ref qi, .ref qs, .ref qe, .ref qn, .ref qk])), (qi, .inl (cI, 6, .inl gi)), (qs, .inl (cI, 6, .inl gs)), (qe, .inl (cI, 6, .inl ge)), (qn, .inl (cI, 42, .inl w))] (fun (r : Int32) (u : Unit) => r = nI (stB q).length) (fun (u : Unit) => [(mo, .inr (4, [.int (nI 0), .int (nI (stS q)), .int (stM q), .int (nI ((stT q).length)), .ref qi, .ref qs, .ref qe, .ref qn, .ref qk])), (qi, .inl (cI, 6, .inl gi)), (qs, .inl (cI, 6, .inl gs)), (qe, .inl (cI, 6, .inl ge)), (qn, .inl (cI, 42, .inl w))]) := by
  refine k_bodyI (cc := cX4_topics) (maxL := 1) (by decide) rfl (Nat.le_of_ble_eq_true rfl) ?_
  intro p e ss m args below meth c A Q F hname hA hG hK hP hD hS ret ls hl
  obtain ⟨hx, hb, hml, hown, hts⟩ := id F
  have hP : va_P D vwCl [(mo, .inr (4, [.int tw, .int (nI (stS q)), .int (stM q), .int (nI ((stT q).length)), .ref qi, .ref qs, .ref qe, .ref qn, .ref qk])), (qi, .inl (cI, 6, .inl gi)), (qs, .inl (cI, 6, .inl gs)), (qe, .inl (cI, 6, .inl ge)), (qn, .inl (cI, 42, .inl w))] ss.heap := hP
  have hD : va_D A [(mo, .inr (4, [.int tw, .int (nI (stS q)), .int (stM q), .int (nI ((stT q).length)), .ref qi, .ref qs, .ref qe, .ref qn, .ref qk])), (qi, .inl (cI, 6, .inl gi)), (qs, .inl (cI, 6, .inl gs)), (qe, .inl (cI, 6, .inl ge)), (qn, .inl (cI, 42, .inl w))] := hD
  have hl : lv_has ls 1 [(0, .ref mo)] := hl
  have iX4 : ∀ w ∈ u_ws RX4 TX4 9, w ∈ wsX4_topics := by decide +kernel
  have f26 := hts (.fieldLink RX4 26 "SmallerTalkModel" "now" "[I") (by decide +kernel)
  obtain ⟨n0, n1, n2, n3, n4, n5, nB, nT⟩ := id hN
  refine lv_aload_n hx hb dX4_topics_0 rfl (lv_at hl 0 rfl) ?_
  refine lv_aload_n hx hb dX4_topics_1 rfl (lv_at hl 0 rfl) ?_
  refine va_get (D := D) (ci := 4) (v := .ref qn) (C := RX4) (T := TX4) (N := 9) hx hb hts iX4 hown hK hP 0 rfl rfl 7 (by decide) f26 (fun _ h9 => h9) rfl dX4_topics_2 ?_
  refine lv_iconst (v := nI 1) hx hb dX4_topics_5 (by decide +kernel) ?_
  refine k_iald hx hb hK hP 4 0 rfl rfl 1 (rfl) (by omega) (by decide) dX4_topics_6 ?_
  refine k_top (v := nI ((stB q).length)) (n1) ?_
  refine k_callV (As := [.int (nI ((stB q).length))]) (rest := []) (wr := [(qi, .inl (cI, 6, .inl gi)), (qs, .inl (cI, 6, .inl gs)), (qe, .inl (cI, 6, .inl ge)), (qn, .inl (cI, 42, .inl w))]) F (c_X4_ok l D cI mo qi qs qe qn qk tw (nI (stS q)) (stM q) (nI ((stT q).length)) (nI ((stB q).length)) ) gX4_topics_X4_ok rfl (nA := 1) (by decide +kernel) rfl ⟨Nat.le_of_ble_eq_true rfl, Nat.le_of_ble_eq_true rfl⟩ hK hP hD hS hA hG (ci := 4) (q0 := 0) rfl rfl rfl [0] [1, 2, 3, 4] rfl (by decide) rfl (by decide) (by decide) [0] rfl rfl hl.1 (Nat.le_of_ble_eq_true rfl) dX4_topics_7 ⟨Nat.le_of_ble_eq_true rfl, Nat.le_of_ble_eq_true rfl⟩ (fun r_1 u H locs hr_7 hP hD hS => ?_)
  try dsimp only at hr_7
  have hP : va_P D vwCl [(qi, .inl (cI, 6, .inl gi)), (qs, .inl (cI, 6, .inl gs)), (qe, .inl (cI, 6, .inl ge)), (qn, .inl (cI, 42, .inl w)), (mo, .inr (4, [.int (nI 0), .int (nI (stS q)), .int (stM q), .int (nI ((stT q).length)), .ref qi, .ref qs, .ref qe, .ref qn, .ref qk]))] H := hP
  have hD : va_D A [(qi, .inl (cI, 6, .inl gi)), (qs, .inl (cI, 6, .inl gs)), (qe, .inl (cI, 6, .inl ge)), (qn, .inl (cI, 42, .inl w)), (mo, .inr (4, [.int (nI 0), .int (nI (stS q)), .int (stM q), .int (nI ((stT q).length)), .ref qi, .ref qs, .ref qe, .ref qn, .ref qk]))] := hD
  refine W.eq (g2 := F0 m 10 ls [.int r_1]) rfl ?_
  refine W.widen (k := 0) (n := 0) (Nat.le_of_ble_eq_true rfl) (Nat.le_of_ble_eq_true rfl) ?_
  refine k_top (v := nI ((stB q).length)) (hr_7) ?_
  exact ret (nI ((stB q).length)) () _ _ _ _ _ _ (rfl) (hP.sub [4, 0, 1, 2, 3] (rfl)) (hD.sub [4, 0, 1, 2, 3] (by decide) (rfl)) hS (Nat.le_of_ble_eq_true rfl) (Nat.le_of_ble_eq_true rfl) dX4_topics_10

abbrev rm_X4_nods : Room := { frames := 1, cells := 0, slots := 0, locals := 21 }
set_option maxHeartbeats 4000000 in
set_option maxRecDepth 100000 in
theorem c_X4_nods (l : Launch) (D : va_G) (cI : ClassId) (mo : Nat) (qi : Nat) (qs : Nat) (qe : Nat) (qn : Nat) (qk : Nat) (tw : Int32) (gi : Nat → Int32) (gs : Nat → Int32) (ge : Nat → Int32) (w : Nat → Int32) (q : St) (hN : rN gi gs ge w q) : kM kri l yX4_nods wsX4_nods rm_X4_nods D [(cI, .int)] [.ref mo] [(mo, .inr (4, [.int tw, .int (nI (stS q)), .int (stM q), .int (nI ((stT q).length)), .ref qi, .ref qs, .ref qe, .ref qn, .ref qk])), (qi, .inl (cI, 6, .inl gi)), (qs, .inl (cI, 6, .inl gs)), (qe, .inl (cI, 6, .inl ge)), (qn, .inl (cI, 42, .inl w))] (fun (r : Int32) (u : Unit) => r = nI (stN q)) (fun (u : Unit) => [(mo, .inr (4, [.int (nI 0), .int (nI (stS q)), .int (stM q), .int (nI ((stT q).length)), .ref qi, .ref qs, .ref qe, .ref qn, .ref qk])), (qi, .inl (cI, 6, .inl gi)), (qs, .inl (cI, 6, .inl gs)), (qe, .inl (cI, 6, .inl ge)), (qn, .inl (cI, 42, .inl w))]) := by
  refine k_bodyI (cc := cX4_nods) (maxL := 1) (by decide) rfl (Nat.le_of_ble_eq_true rfl) ?_
  intro p e ss m args below meth c A Q F hname hA hG hK hP hD hS ret ls hl
  obtain ⟨hx, hb, hml, hown, hts⟩ := id F
  have hP : va_P D vwCl [(mo, .inr (4, [.int tw, .int (nI (stS q)), .int (stM q), .int (nI ((stT q).length)), .ref qi, .ref qs, .ref qe, .ref qn, .ref qk])), (qi, .inl (cI, 6, .inl gi)), (qs, .inl (cI, 6, .inl gs)), (qe, .inl (cI, 6, .inl ge)), (qn, .inl (cI, 42, .inl w))] ss.heap := hP
  have hD : va_D A [(mo, .inr (4, [.int tw, .int (nI (stS q)), .int (stM q), .int (nI ((stT q).length)), .ref qi, .ref qs, .ref qe, .ref qn, .ref qk])), (qi, .inl (cI, 6, .inl gi)), (qs, .inl (cI, 6, .inl gs)), (qe, .inl (cI, 6, .inl ge)), (qn, .inl (cI, 42, .inl w))] := hD
  have hl : lv_has ls 1 [(0, .ref mo)] := hl
  have iX4 : ∀ w ∈ u_ws RX4 TX4 9, w ∈ wsX4_nods := by decide +kernel
  have f26 := hts (.fieldLink RX4 26 "SmallerTalkModel" "now" "[I") (by decide +kernel)
  obtain ⟨n0, n1, n2, n3, n4, n5, nB, nT⟩ := id hN
  refine lv_aload_n hx hb dX4_nods_0 rfl (lv_at hl 0 rfl) ?_
  refine lv_aload_n hx hb dX4_nods_1 rfl (lv_at hl 0 rfl) ?_
  refine va_get (D := D) (ci := 4) (v := .ref qn) (C := RX4) (T := TX4) (N := 9) hx hb hts iX4 hown hK hP 0 rfl rfl 7 (by decide) f26 (fun _ h9 => h9) rfl dX4_nods_2 ?_
  refine lv_iconst (v := nI 2) hx hb dX4_nods_5 (by decide +kernel) ?_
  refine k_iald hx hb hK hP 4 0 rfl rfl 2 (rfl) (by omega) (by decide) dX4_nods_6 ?_
  refine k_top (v := nI (stN q)) (n2) ?_
  refine k_callV (As := [.int (nI (stN q))]) (rest := []) (wr := [(qi, .inl (cI, 6, .inl gi)), (qs, .inl (cI, 6, .inl gs)), (qe, .inl (cI, 6, .inl ge)), (qn, .inl (cI, 42, .inl w))]) F (c_X4_ok l D cI mo qi qs qe qn qk tw (nI (stS q)) (stM q) (nI ((stT q).length)) (nI (stN q)) ) gX4_nods_X4_ok rfl (nA := 1) (by decide +kernel) rfl ⟨Nat.le_of_ble_eq_true rfl, Nat.le_of_ble_eq_true rfl⟩ hK hP hD hS hA hG (ci := 4) (q0 := 0) rfl rfl rfl [0] [1, 2, 3, 4] rfl (by decide) rfl (by decide) (by decide) [0] rfl rfl hl.1 (Nat.le_of_ble_eq_true rfl) dX4_nods_7 ⟨Nat.le_of_ble_eq_true rfl, Nat.le_of_ble_eq_true rfl⟩ (fun r_1 u H locs hr_7 hP hD hS => ?_)
  try dsimp only at hr_7
  have hP : va_P D vwCl [(qi, .inl (cI, 6, .inl gi)), (qs, .inl (cI, 6, .inl gs)), (qe, .inl (cI, 6, .inl ge)), (qn, .inl (cI, 42, .inl w)), (mo, .inr (4, [.int (nI 0), .int (nI (stS q)), .int (stM q), .int (nI ((stT q).length)), .ref qi, .ref qs, .ref qe, .ref qn, .ref qk]))] H := hP
  have hD : va_D A [(qi, .inl (cI, 6, .inl gi)), (qs, .inl (cI, 6, .inl gs)), (qe, .inl (cI, 6, .inl ge)), (qn, .inl (cI, 42, .inl w)), (mo, .inr (4, [.int (nI 0), .int (nI (stS q)), .int (stM q), .int (nI ((stT q).length)), .ref qi, .ref qs, .ref qe, .ref qn, .ref qk]))] := hD
  refine W.eq (g2 := F0 m 10 ls [.int r_1]) rfl ?_
  refine W.widen (k := 0) (n := 0) (Nat.le_of_ble_eq_true rfl) (Nat.le_of_ble_eq_true rfl) ?_
  refine k_top (v := nI (stN q)) (hr_7) ?_
  exact ret (nI (stN q)) () _ _ _ _ _ _ (rfl) (hP.sub [4, 0, 1, 2, 3] (rfl)) (hD.sub [4, 0, 1, 2, 3] (by decide) (rfl)) hS (Nat.le_of_ble_eq_true rfl) (Nat.le_of_ble_eq_true rfl) dX4_nods_10

abbrev rm_X4_bottles : Room := { frames := 1, cells := 0, slots := 0, locals := 21 }
set_option maxHeartbeats 4000000 in
set_option maxRecDepth 100000 in
theorem c_X4_bottles (l : Launch) (D : va_G) (cI : ClassId) (mo : Nat) (qi : Nat) (qs : Nat) (qe : Nat) (qn : Nat) (qk : Nat) (tw : Int32) (gi : Nat → Int32) (gs : Nat → Int32) (ge : Nat → Int32) (w : Nat → Int32) (q : St) (hN : rN gi gs ge w q) : kM kri l yX4_bottles wsX4_bottles rm_X4_bottles D [(cI, .int)] [.ref mo] [(mo, .inr (4, [.int tw, .int (nI (stS q)), .int (stM q), .int (nI ((stT q).length)), .ref qi, .ref qs, .ref qe, .ref qn, .ref qk])), (qi, .inl (cI, 6, .inl gi)), (qs, .inl (cI, 6, .inl gs)), (qe, .inl (cI, 6, .inl ge)), (qn, .inl (cI, 42, .inl w))] (fun (r : Int32) (u : Unit) => r = stO q) (fun (u : Unit) => [(mo, .inr (4, [.int (nI 0), .int (nI (stS q)), .int (stM q), .int (nI ((stT q).length)), .ref qi, .ref qs, .ref qe, .ref qn, .ref qk])), (qi, .inl (cI, 6, .inl gi)), (qs, .inl (cI, 6, .inl gs)), (qe, .inl (cI, 6, .inl ge)), (qn, .inl (cI, 42, .inl w))]) := by
  refine k_bodyI (cc := cX4_bottles) (maxL := 1) (by decide) rfl (Nat.le_of_ble_eq_true rfl) ?_
  intro p e ss m args below meth c A Q F hname hA hG hK hP hD hS ret ls hl
  obtain ⟨hx, hb, hml, hown, hts⟩ := id F
  have hP : va_P D vwCl [(mo, .inr (4, [.int tw, .int (nI (stS q)), .int (stM q), .int (nI ((stT q).length)), .ref qi, .ref qs, .ref qe, .ref qn, .ref qk])), (qi, .inl (cI, 6, .inl gi)), (qs, .inl (cI, 6, .inl gs)), (qe, .inl (cI, 6, .inl ge)), (qn, .inl (cI, 42, .inl w))] ss.heap := hP
  have hD : va_D A [(mo, .inr (4, [.int tw, .int (nI (stS q)), .int (stM q), .int (nI ((stT q).length)), .ref qi, .ref qs, .ref qe, .ref qn, .ref qk])), (qi, .inl (cI, 6, .inl gi)), (qs, .inl (cI, 6, .inl gs)), (qe, .inl (cI, 6, .inl ge)), (qn, .inl (cI, 42, .inl w))] := hD
  have hl : lv_has ls 1 [(0, .ref mo)] := hl
  have iX4 : ∀ w ∈ u_ws RX4 TX4 9, w ∈ wsX4_bottles := by decide +kernel
  have f26 := hts (.fieldLink RX4 26 "SmallerTalkModel" "now" "[I") (by decide +kernel)
  obtain ⟨n0, n1, n2, n3, n4, n5, nB, nT⟩ := id hN
  refine lv_aload_n hx hb dX4_bottles_0 rfl (lv_at hl 0 rfl) ?_
  refine lv_aload_n hx hb dX4_bottles_1 rfl (lv_at hl 0 rfl) ?_
  refine va_get (D := D) (ci := 4) (v := .ref qn) (C := RX4) (T := TX4) (N := 9) hx hb hts iX4 hown hK hP 0 rfl rfl 7 (by decide) f26 (fun _ h9 => h9) rfl dX4_bottles_2 ?_
  refine lv_iconst (v := nI 3) hx hb dX4_bottles_5 (by decide +kernel) ?_
  refine k_iald hx hb hK hP 4 0 rfl rfl 3 (rfl) (by omega) (by decide) dX4_bottles_6 ?_
  refine k_top (v := stO q) (n3) ?_
  refine k_callV (As := [.int (stO q)]) (rest := []) (wr := [(qi, .inl (cI, 6, .inl gi)), (qs, .inl (cI, 6, .inl gs)), (qe, .inl (cI, 6, .inl ge)), (qn, .inl (cI, 42, .inl w))]) F (c_X4_ok l D cI mo qi qs qe qn qk tw (nI (stS q)) (stM q) (nI ((stT q).length)) (stO q) ) gX4_bottles_X4_ok rfl (nA := 1) (by decide +kernel) rfl ⟨Nat.le_of_ble_eq_true rfl, Nat.le_of_ble_eq_true rfl⟩ hK hP hD hS hA hG (ci := 4) (q0 := 0) rfl rfl rfl [0] [1, 2, 3, 4] rfl (by decide) rfl (by decide) (by decide) [0] rfl rfl hl.1 (Nat.le_of_ble_eq_true rfl) dX4_bottles_7 ⟨Nat.le_of_ble_eq_true rfl, Nat.le_of_ble_eq_true rfl⟩ (fun r_1 u H locs hr_7 hP hD hS => ?_)
  try dsimp only at hr_7
  have hP : va_P D vwCl [(qi, .inl (cI, 6, .inl gi)), (qs, .inl (cI, 6, .inl gs)), (qe, .inl (cI, 6, .inl ge)), (qn, .inl (cI, 42, .inl w)), (mo, .inr (4, [.int (nI 0), .int (nI (stS q)), .int (stM q), .int (nI ((stT q).length)), .ref qi, .ref qs, .ref qe, .ref qn, .ref qk]))] H := hP
  have hD : va_D A [(qi, .inl (cI, 6, .inl gi)), (qs, .inl (cI, 6, .inl gs)), (qe, .inl (cI, 6, .inl ge)), (qn, .inl (cI, 42, .inl w)), (mo, .inr (4, [.int (nI 0), .int (nI (stS q)), .int (stM q), .int (nI ((stT q).length)), .ref qi, .ref qs, .ref qe, .ref qn, .ref qk]))] := hD
  refine W.eq (g2 := F0 m 10 ls [.int r_1]) rfl ?_
  refine W.widen (k := 0) (n := 0) (Nat.le_of_ble_eq_true rfl) (Nat.le_of_ble_eq_true rfl) ?_
  refine k_top (v := stO q) (hr_7) ?_
  exact ret (stO q) () _ _ _ _ _ _ (rfl) (hP.sub [4, 0, 1, 2, 3] (rfl)) (hD.sub [4, 0, 1, 2, 3] (by decide) (rfl)) hS (Nat.le_of_ble_eq_true rfl) (Nat.le_of_ble_eq_true rfl) dX4_bottles_10

abbrev rm_X4_sieved : Room := { frames := 1, cells := 0, slots := 0, locals := 21 }
set_option maxHeartbeats 4000000 in
set_option maxRecDepth 100000 in
theorem c_X4_sieved (l : Launch) (D : va_G) (cI : ClassId) (mo : Nat) (qi : Nat) (qs : Nat) (qe : Nat) (qn : Nat) (qk : Nat) (tw : Int32) (gi : Nat → Int32) (gs : Nat → Int32) (ge : Nat → Int32) (w : Nat → Int32) (q : St) (hN : rN gi gs ge w q) : kM kri l yX4_sieved wsX4_sieved rm_X4_sieved D [(cI, .int)] [.ref mo] [(mo, .inr (4, [.int tw, .int (nI (stS q)), .int (stM q), .int (nI ((stT q).length)), .ref qi, .ref qs, .ref qe, .ref qn, .ref qk])), (qi, .inl (cI, 6, .inl gi)), (qs, .inl (cI, 6, .inl gs)), (qe, .inl (cI, 6, .inl ge)), (qn, .inl (cI, 42, .inl w))] (fun (r : Int32) (u : Unit) => r = stV q) (fun (u : Unit) => [(mo, .inr (4, [.int (nI 0), .int (nI (stS q)), .int (stM q), .int (nI ((stT q).length)), .ref qi, .ref qs, .ref qe, .ref qn, .ref qk])), (qi, .inl (cI, 6, .inl gi)), (qs, .inl (cI, 6, .inl gs)), (qe, .inl (cI, 6, .inl ge)), (qn, .inl (cI, 42, .inl w))]) := by
  refine k_bodyI (cc := cX4_sieved) (maxL := 1) (by decide) rfl (Nat.le_of_ble_eq_true rfl) ?_
  intro p e ss m args below meth c A Q F hname hA hG hK hP hD hS ret ls hl
  obtain ⟨hx, hb, hml, hown, hts⟩ := id F
  have hP : va_P D vwCl [(mo, .inr (4, [.int tw, .int (nI (stS q)), .int (stM q), .int (nI ((stT q).length)), .ref qi, .ref qs, .ref qe, .ref qn, .ref qk])), (qi, .inl (cI, 6, .inl gi)), (qs, .inl (cI, 6, .inl gs)), (qe, .inl (cI, 6, .inl ge)), (qn, .inl (cI, 42, .inl w))] ss.heap := hP
  have hD : va_D A [(mo, .inr (4, [.int tw, .int (nI (stS q)), .int (stM q), .int (nI ((stT q).length)), .ref qi, .ref qs, .ref qe, .ref qn, .ref qk])), (qi, .inl (cI, 6, .inl gi)), (qs, .inl (cI, 6, .inl gs)), (qe, .inl (cI, 6, .inl ge)), (qn, .inl (cI, 42, .inl w))] := hD
  have hl : lv_has ls 1 [(0, .ref mo)] := hl
  have iX4 : ∀ w ∈ u_ws RX4 TX4 9, w ∈ wsX4_sieved := by decide +kernel
  have f26 := hts (.fieldLink RX4 26 "SmallerTalkModel" "now" "[I") (by decide +kernel)
  obtain ⟨n0, n1, n2, n3, n4, n5, nB, nT⟩ := id hN
  refine lv_aload_n hx hb dX4_sieved_0 rfl (lv_at hl 0 rfl) ?_
  refine lv_aload_n hx hb dX4_sieved_1 rfl (lv_at hl 0 rfl) ?_
  refine va_get (D := D) (ci := 4) (v := .ref qn) (C := RX4) (T := TX4) (N := 9) hx hb hts iX4 hown hK hP 0 rfl rfl 7 (by decide) f26 (fun _ h9 => h9) rfl dX4_sieved_2 ?_
  refine lv_iconst (v := nI 4) hx hb dX4_sieved_5 (by decide +kernel) ?_
  refine k_iald hx hb hK hP 4 0 rfl rfl 4 (rfl) (by omega) (by decide) dX4_sieved_6 ?_
  refine k_top (v := stV q) (n4) ?_
  refine k_callV (As := [.int (stV q)]) (rest := []) (wr := [(qi, .inl (cI, 6, .inl gi)), (qs, .inl (cI, 6, .inl gs)), (qe, .inl (cI, 6, .inl ge)), (qn, .inl (cI, 42, .inl w))]) F (c_X4_ok l D cI mo qi qs qe qn qk tw (nI (stS q)) (stM q) (nI ((stT q).length)) (stV q) ) gX4_sieved_X4_ok rfl (nA := 1) (by decide +kernel) rfl ⟨Nat.le_of_ble_eq_true rfl, Nat.le_of_ble_eq_true rfl⟩ hK hP hD hS hA hG (ci := 4) (q0 := 0) rfl rfl rfl [0] [1, 2, 3, 4] rfl (by decide) rfl (by decide) (by decide) [0] rfl rfl hl.1 (Nat.le_of_ble_eq_true rfl) dX4_sieved_7 ⟨Nat.le_of_ble_eq_true rfl, Nat.le_of_ble_eq_true rfl⟩ (fun r_1 u H locs hr_7 hP hD hS => ?_)
  try dsimp only at hr_7
  have hP : va_P D vwCl [(qi, .inl (cI, 6, .inl gi)), (qs, .inl (cI, 6, .inl gs)), (qe, .inl (cI, 6, .inl ge)), (qn, .inl (cI, 42, .inl w)), (mo, .inr (4, [.int (nI 0), .int (nI (stS q)), .int (stM q), .int (nI ((stT q).length)), .ref qi, .ref qs, .ref qe, .ref qn, .ref qk]))] H := hP
  have hD : va_D A [(qi, .inl (cI, 6, .inl gi)), (qs, .inl (cI, 6, .inl gs)), (qe, .inl (cI, 6, .inl ge)), (qn, .inl (cI, 42, .inl w)), (mo, .inr (4, [.int (nI 0), .int (nI (stS q)), .int (stM q), .int (nI ((stT q).length)), .ref qi, .ref qs, .ref qe, .ref qn, .ref qk]))] := hD
  refine W.eq (g2 := F0 m 10 ls [.int r_1]) rfl ?_
  refine W.widen (k := 0) (n := 0) (Nat.le_of_ble_eq_true rfl) (Nat.le_of_ble_eq_true rfl) ?_
  refine k_top (v := stV q) (hr_7) ?_
  exact ret (stV q) () _ _ _ _ _ _ (rfl) (hP.sub [4, 0, 1, 2, 3] (rfl)) (hD.sub [4, 0, 1, 2, 3] (by decide) (rfl)) hS (Nat.le_of_ble_eq_true rfl) (Nat.le_of_ble_eq_true rfl) dX4_sieved_10

abbrev rm_X4_gear : Room := { frames := 1, cells := 0, slots := 0, locals := 21 }
set_option maxHeartbeats 4000000 in
set_option maxRecDepth 100000 in
theorem c_X4_gear (l : Launch) (D : va_G) (cI : ClassId) (mo : Nat) (qi : Nat) (qs : Nat) (qe : Nat) (qn : Nat) (qk : Nat) (tw : Int32) (gi : Nat → Int32) (gs : Nat → Int32) (ge : Nat → Int32) (w : Nat → Int32) (q : St) (hN : rN gi gs ge w q) : kM kri l yX4_gear wsX4_gear rm_X4_gear D [(cI, .int)] [.ref mo] [(mo, .inr (4, [.int tw, .int (nI (stS q)), .int (stM q), .int (nI ((stT q).length)), .ref qi, .ref qs, .ref qe, .ref qn, .ref qk])), (qi, .inl (cI, 6, .inl gi)), (qs, .inl (cI, 6, .inl gs)), (qe, .inl (cI, 6, .inl ge)), (qn, .inl (cI, 42, .inl w))] (fun (r : Int32) (u : Unit) => r = nI (stG q)) (fun (u : Unit) => [(mo, .inr (4, [.int (nI 0), .int (nI (stS q)), .int (stM q), .int (nI ((stT q).length)), .ref qi, .ref qs, .ref qe, .ref qn, .ref qk])), (qi, .inl (cI, 6, .inl gi)), (qs, .inl (cI, 6, .inl gs)), (qe, .inl (cI, 6, .inl ge)), (qn, .inl (cI, 42, .inl w))]) := by
  refine k_bodyI (cc := cX4_gear) (maxL := 1) (by decide) rfl (Nat.le_of_ble_eq_true rfl) ?_
  intro p e ss m args below meth c A Q F hname hA hG hK hP hD hS ret ls hl
  obtain ⟨hx, hb, hml, hown, hts⟩ := id F
  have hP : va_P D vwCl [(mo, .inr (4, [.int tw, .int (nI (stS q)), .int (stM q), .int (nI ((stT q).length)), .ref qi, .ref qs, .ref qe, .ref qn, .ref qk])), (qi, .inl (cI, 6, .inl gi)), (qs, .inl (cI, 6, .inl gs)), (qe, .inl (cI, 6, .inl ge)), (qn, .inl (cI, 42, .inl w))] ss.heap := hP
  have hD : va_D A [(mo, .inr (4, [.int tw, .int (nI (stS q)), .int (stM q), .int (nI ((stT q).length)), .ref qi, .ref qs, .ref qe, .ref qn, .ref qk])), (qi, .inl (cI, 6, .inl gi)), (qs, .inl (cI, 6, .inl gs)), (qe, .inl (cI, 6, .inl ge)), (qn, .inl (cI, 42, .inl w))] := hD
  have hl : lv_has ls 1 [(0, .ref mo)] := hl
  have iX4 : ∀ w ∈ u_ws RX4 TX4 9, w ∈ wsX4_gear := by decide +kernel
  have f26 := hts (.fieldLink RX4 26 "SmallerTalkModel" "now" "[I") (by decide +kernel)
  obtain ⟨n0, n1, n2, n3, n4, n5, nB, nT⟩ := id hN
  refine lv_aload_n hx hb dX4_gear_0 rfl (lv_at hl 0 rfl) ?_
  refine lv_aload_n hx hb dX4_gear_1 rfl (lv_at hl 0 rfl) ?_
  refine va_get (D := D) (ci := 4) (v := .ref qn) (C := RX4) (T := TX4) (N := 9) hx hb hts iX4 hown hK hP 0 rfl rfl 7 (by decide) f26 (fun _ h9 => h9) rfl dX4_gear_2 ?_
  refine lv_iconst (v := nI 5) hx hb dX4_gear_5 (by decide +kernel) ?_
  refine k_iald hx hb hK hP 4 0 rfl rfl 5 (rfl) (by omega) (by decide) dX4_gear_6 ?_
  refine k_top (v := nI (stG q)) (n5) ?_
  refine k_callV (As := [.int (nI (stG q))]) (rest := []) (wr := [(qi, .inl (cI, 6, .inl gi)), (qs, .inl (cI, 6, .inl gs)), (qe, .inl (cI, 6, .inl ge)), (qn, .inl (cI, 42, .inl w))]) F (c_X4_ok l D cI mo qi qs qe qn qk tw (nI (stS q)) (stM q) (nI ((stT q).length)) (nI (stG q)) ) gX4_gear_X4_ok rfl (nA := 1) (by decide +kernel) rfl ⟨Nat.le_of_ble_eq_true rfl, Nat.le_of_ble_eq_true rfl⟩ hK hP hD hS hA hG (ci := 4) (q0 := 0) rfl rfl rfl [0] [1, 2, 3, 4] rfl (by decide) rfl (by decide) (by decide) [0] rfl rfl hl.1 (Nat.le_of_ble_eq_true rfl) dX4_gear_7 ⟨Nat.le_of_ble_eq_true rfl, Nat.le_of_ble_eq_true rfl⟩ (fun r_1 u H locs hr_7 hP hD hS => ?_)
  try dsimp only at hr_7
  have hP : va_P D vwCl [(qi, .inl (cI, 6, .inl gi)), (qs, .inl (cI, 6, .inl gs)), (qe, .inl (cI, 6, .inl ge)), (qn, .inl (cI, 42, .inl w)), (mo, .inr (4, [.int (nI 0), .int (nI (stS q)), .int (stM q), .int (nI ((stT q).length)), .ref qi, .ref qs, .ref qe, .ref qn, .ref qk]))] H := hP
  have hD : va_D A [(qi, .inl (cI, 6, .inl gi)), (qs, .inl (cI, 6, .inl gs)), (qe, .inl (cI, 6, .inl ge)), (qn, .inl (cI, 42, .inl w)), (mo, .inr (4, [.int (nI 0), .int (nI (stS q)), .int (stM q), .int (nI ((stT q).length)), .ref qi, .ref qs, .ref qe, .ref qn, .ref qk]))] := hD
  refine W.eq (g2 := F0 m 10 ls [.int r_1]) rfl ?_
  refine W.widen (k := 0) (n := 0) (Nat.le_of_ble_eq_true rfl) (Nat.le_of_ble_eq_true rfl) ?_
  refine k_top (v := nI (stG q)) (hr_7) ?_
  exact ret (nI (stG q)) () _ _ _ _ _ _ (rfl) (hP.sub [4, 0, 1, 2, 3] (rfl)) (hD.sub [4, 0, 1, 2, 3] (by decide) (rfl)) hS (Nat.le_of_ble_eq_true rfl) (Nat.le_of_ble_eq_true rfl) dX4_gear_10

abbrev rm_X4_stones : Room := { frames := 1, cells := 0, slots := 0, locals := 21 }
set_option maxHeartbeats 4000000 in
set_option maxRecDepth 100000 in
theorem c_X4_stones (l : Launch) (D : va_G) (cI : ClassId) (mo : Nat) (qi : Nat) (qs : Nat) (qe : Nat) (qn : Nat) (qk : Nat) (tw : Int32) (gi : Nat → Int32) (gs : Nat → Int32) (ge : Nat → Int32) (w : Nat → Int32) (q : St) (hN : rN gi gs ge w q) : kM kri l yX4_stones wsX4_stones rm_X4_stones D [(cI, .int)] [.ref mo] [(mo, .inr (4, [.int tw, .int (nI (stS q)), .int (stM q), .int (nI ((stT q).length)), .ref qi, .ref qs, .ref qe, .ref qn, .ref qk])), (qi, .inl (cI, 6, .inl gi)), (qs, .inl (cI, 6, .inl gs)), (qe, .inl (cI, 6, .inl ge)), (qn, .inl (cI, 42, .inl w))] (fun (r : Int32) (u : Unit) => r = nI (stS q)) (fun (u : Unit) => [(mo, .inr (4, [.int (nI 0), .int (nI (stS q)), .int (stM q), .int (nI ((stT q).length)), .ref qi, .ref qs, .ref qe, .ref qn, .ref qk])), (qi, .inl (cI, 6, .inl gi)), (qs, .inl (cI, 6, .inl gs)), (qe, .inl (cI, 6, .inl ge)), (qn, .inl (cI, 42, .inl w))]) := by
  refine k_bodyI (cc := cX4_stones) (maxL := 1) (by decide) rfl (Nat.le_of_ble_eq_true rfl) ?_
  intro p e ss m args below meth c A Q F hname hA hG hK hP hD hS ret ls hl
  obtain ⟨hx, hb, hml, hown, hts⟩ := id F
  have hP : va_P D vwCl [(mo, .inr (4, [.int tw, .int (nI (stS q)), .int (stM q), .int (nI ((stT q).length)), .ref qi, .ref qs, .ref qe, .ref qn, .ref qk])), (qi, .inl (cI, 6, .inl gi)), (qs, .inl (cI, 6, .inl gs)), (qe, .inl (cI, 6, .inl ge)), (qn, .inl (cI, 42, .inl w))] ss.heap := hP
  have hD : va_D A [(mo, .inr (4, [.int tw, .int (nI (stS q)), .int (stM q), .int (nI ((stT q).length)), .ref qi, .ref qs, .ref qe, .ref qn, .ref qk])), (qi, .inl (cI, 6, .inl gi)), (qs, .inl (cI, 6, .inl gs)), (qe, .inl (cI, 6, .inl ge)), (qn, .inl (cI, 42, .inl w))] := hD
  have hl : lv_has ls 1 [(0, .ref mo)] := hl
  have iX4 : ∀ w ∈ u_ws RX4 TX4 9, w ∈ wsX4_stones := by decide +kernel
  have f9 := hts (.fieldLink RX4 9 "SmallerTalkModel" "stones" "I") (by decide +kernel)
  obtain ⟨n0, n1, n2, n3, n4, n5, nB, nT⟩ := id hN
  refine lv_aload_n hx hb dX4_stones_0 rfl (lv_at hl 0 rfl) ?_
  refine lv_aload_n hx hb dX4_stones_1 rfl (lv_at hl 0 rfl) ?_
  refine va_get (D := D) (ci := 4) (v := .int (nI (stS q))) (C := RX4) (T := TX4) (N := 9) hx hb hts iX4 hown hK hP 0 rfl rfl 1 (by decide) f9 (fun _ h9 => h9) rfl dX4_stones_2 ?_
  refine k_callV (As := [.int (nI (stS q))]) (rest := []) (wr := [(qi, .inl (cI, 6, .inl gi)), (qs, .inl (cI, 6, .inl gs)), (qe, .inl (cI, 6, .inl ge)), (qn, .inl (cI, 42, .inl w))]) F (c_X4_ok l D cI mo qi qs qe qn qk tw (nI (stS q)) (stM q) (nI ((stT q).length)) (nI (stS q)) ) gX4_stones_X4_ok rfl (nA := 1) (by decide +kernel) rfl ⟨Nat.le_of_ble_eq_true rfl, Nat.le_of_ble_eq_true rfl⟩ hK hP hD hS hA hG (ci := 4) (q0 := 0) rfl rfl rfl [0] [1, 2, 3, 4] rfl (by decide) rfl (by decide) (by decide) [0] rfl rfl hl.1 (Nat.le_of_ble_eq_true rfl) dX4_stones_5 ⟨Nat.le_of_ble_eq_true rfl, Nat.le_of_ble_eq_true rfl⟩ (fun r_1 u H locs hr_5 hP hD hS => ?_)
  try dsimp only at hr_5
  have hP : va_P D vwCl [(qi, .inl (cI, 6, .inl gi)), (qs, .inl (cI, 6, .inl gs)), (qe, .inl (cI, 6, .inl ge)), (qn, .inl (cI, 42, .inl w)), (mo, .inr (4, [.int (nI 0), .int (nI (stS q)), .int (stM q), .int (nI ((stT q).length)), .ref qi, .ref qs, .ref qe, .ref qn, .ref qk]))] H := hP
  have hD : va_D A [(qi, .inl (cI, 6, .inl gi)), (qs, .inl (cI, 6, .inl gs)), (qe, .inl (cI, 6, .inl ge)), (qn, .inl (cI, 42, .inl w)), (mo, .inr (4, [.int (nI 0), .int (nI (stS q)), .int (stM q), .int (nI ((stT q).length)), .ref qi, .ref qs, .ref qe, .ref qn, .ref qk]))] := hD
  refine W.eq (g2 := F0 m 8 ls [.int r_1]) rfl ?_
  refine W.widen (k := 0) (n := 0) (Nat.le_of_ble_eq_true rfl) (Nat.le_of_ble_eq_true rfl) ?_
  refine k_top (v := nI (stS q)) (hr_5) ?_
  exact ret (nI (stS q)) () _ _ _ _ _ _ (rfl) (hP.sub [4, 0, 1, 2, 3] (rfl)) (hD.sub [4, 0, 1, 2, 3] (by decide) (rfl)) hS (Nat.le_of_ble_eq_true rfl) (Nat.le_of_ble_eq_true rfl) dX4_stones_8

abbrev rm_X4_mesh : Room := { frames := 1, cells := 0, slots := 0, locals := 21 }
set_option maxHeartbeats 4000000 in
set_option maxRecDepth 100000 in
theorem c_X4_mesh (l : Launch) (D : va_G) (cI : ClassId) (mo : Nat) (qi : Nat) (qs : Nat) (qe : Nat) (qn : Nat) (qk : Nat) (tw : Int32) (gi : Nat → Int32) (gs : Nat → Int32) (ge : Nat → Int32) (w : Nat → Int32) (q : St) (hN : rN gi gs ge w q) : kM kri l yX4_mesh wsX4_mesh rm_X4_mesh D [(cI, .int)] [.ref mo] [(mo, .inr (4, [.int tw, .int (nI (stS q)), .int (stM q), .int (nI ((stT q).length)), .ref qi, .ref qs, .ref qe, .ref qn, .ref qk])), (qi, .inl (cI, 6, .inl gi)), (qs, .inl (cI, 6, .inl gs)), (qe, .inl (cI, 6, .inl ge)), (qn, .inl (cI, 42, .inl w))] (fun (r : Int32) (u : Unit) => r = stM q) (fun (u : Unit) => [(mo, .inr (4, [.int (nI 0), .int (nI (stS q)), .int (stM q), .int (nI ((stT q).length)), .ref qi, .ref qs, .ref qe, .ref qn, .ref qk])), (qi, .inl (cI, 6, .inl gi)), (qs, .inl (cI, 6, .inl gs)), (qe, .inl (cI, 6, .inl ge)), (qn, .inl (cI, 42, .inl w))]) := by
  refine k_bodyI (cc := cX4_mesh) (maxL := 1) (by decide) rfl (Nat.le_of_ble_eq_true rfl) ?_
  intro p e ss m args below meth c A Q F hname hA hG hK hP hD hS ret ls hl
  obtain ⟨hx, hb, hml, hown, hts⟩ := id F
  have hP : va_P D vwCl [(mo, .inr (4, [.int tw, .int (nI (stS q)), .int (stM q), .int (nI ((stT q).length)), .ref qi, .ref qs, .ref qe, .ref qn, .ref qk])), (qi, .inl (cI, 6, .inl gi)), (qs, .inl (cI, 6, .inl gs)), (qe, .inl (cI, 6, .inl ge)), (qn, .inl (cI, 42, .inl w))] ss.heap := hP
  have hD : va_D A [(mo, .inr (4, [.int tw, .int (nI (stS q)), .int (stM q), .int (nI ((stT q).length)), .ref qi, .ref qs, .ref qe, .ref qn, .ref qk])), (qi, .inl (cI, 6, .inl gi)), (qs, .inl (cI, 6, .inl gs)), (qe, .inl (cI, 6, .inl ge)), (qn, .inl (cI, 42, .inl w))] := hD
  have hl : lv_has ls 1 [(0, .ref mo)] := hl
  have iX4 : ∀ w ∈ u_ws RX4 TX4 9, w ∈ wsX4_mesh := by decide +kernel
  have f13 := hts (.fieldLink RX4 13 "SmallerTalkModel" "mesh" "I") (by decide +kernel)
  obtain ⟨n0, n1, n2, n3, n4, n5, nB, nT⟩ := id hN
  refine lv_aload_n hx hb dX4_mesh_0 rfl (lv_at hl 0 rfl) ?_
  refine lv_aload_n hx hb dX4_mesh_1 rfl (lv_at hl 0 rfl) ?_
  refine va_get (D := D) (ci := 4) (v := .int (stM q)) (C := RX4) (T := TX4) (N := 9) hx hb hts iX4 hown hK hP 0 rfl rfl 2 (by decide) f13 (fun _ h9 => h9) rfl dX4_mesh_2 ?_
  refine k_callV (As := [.int (stM q)]) (rest := []) (wr := [(qi, .inl (cI, 6, .inl gi)), (qs, .inl (cI, 6, .inl gs)), (qe, .inl (cI, 6, .inl ge)), (qn, .inl (cI, 42, .inl w))]) F (c_X4_ok l D cI mo qi qs qe qn qk tw (nI (stS q)) (stM q) (nI ((stT q).length)) (stM q) ) gX4_mesh_X4_ok rfl (nA := 1) (by decide +kernel) rfl ⟨Nat.le_of_ble_eq_true rfl, Nat.le_of_ble_eq_true rfl⟩ hK hP hD hS hA hG (ci := 4) (q0 := 0) rfl rfl rfl [0] [1, 2, 3, 4] rfl (by decide) rfl (by decide) (by decide) [0] rfl rfl hl.1 (Nat.le_of_ble_eq_true rfl) dX4_mesh_5 ⟨Nat.le_of_ble_eq_true rfl, Nat.le_of_ble_eq_true rfl⟩ (fun r_1 u H locs hr_5 hP hD hS => ?_)
  try dsimp only at hr_5
  have hP : va_P D vwCl [(qi, .inl (cI, 6, .inl gi)), (qs, .inl (cI, 6, .inl gs)), (qe, .inl (cI, 6, .inl ge)), (qn, .inl (cI, 42, .inl w)), (mo, .inr (4, [.int (nI 0), .int (nI (stS q)), .int (stM q), .int (nI ((stT q).length)), .ref qi, .ref qs, .ref qe, .ref qn, .ref qk]))] H := hP
  have hD : va_D A [(qi, .inl (cI, 6, .inl gi)), (qs, .inl (cI, 6, .inl gs)), (qe, .inl (cI, 6, .inl ge)), (qn, .inl (cI, 42, .inl w)), (mo, .inr (4, [.int (nI 0), .int (nI (stS q)), .int (stM q), .int (nI ((stT q).length)), .ref qi, .ref qs, .ref qe, .ref qn, .ref qk]))] := hD
  refine W.eq (g2 := F0 m 8 ls [.int r_1]) rfl ?_
  refine W.widen (k := 0) (n := 0) (Nat.le_of_ble_eq_true rfl) (Nat.le_of_ble_eq_true rfl) ?_
  refine k_top (v := stM q) (hr_5) ?_
  exact ret (stM q) () _ _ _ _ _ _ (rfl) (hP.sub [4, 0, 1, 2, 3] (rfl)) (hD.sub [4, 0, 1, 2, 3] (by decide) (rfl)) hS (Nat.le_of_ble_eq_true rfl) (Nat.le_of_ble_eq_true rfl) dX4_mesh_8

abbrev rm_X4_talkers : Room := { frames := 1, cells := 0, slots := 0, locals := 21 }
set_option maxHeartbeats 4000000 in
set_option maxRecDepth 100000 in
theorem c_X4_talkers (l : Launch) (D : va_G) (cI : ClassId) (mo : Nat) (qi : Nat) (qs : Nat) (qe : Nat) (qn : Nat) (qk : Nat) (tw : Int32) (gi : Nat → Int32) (gs : Nat → Int32) (ge : Nat → Int32) (w : Nat → Int32) (q : St) (hN : rN gi gs ge w q) : kM kri l yX4_talkers wsX4_talkers rm_X4_talkers D [(cI, .int)] [.ref mo] [(mo, .inr (4, [.int tw, .int (nI (stS q)), .int (stM q), .int (nI ((stT q).length)), .ref qi, .ref qs, .ref qe, .ref qn, .ref qk])), (qi, .inl (cI, 6, .inl gi)), (qs, .inl (cI, 6, .inl gs)), (qe, .inl (cI, 6, .inl ge)), (qn, .inl (cI, 42, .inl w))] (fun (r : Int32) (u : Unit) => r = nI (stT q).length) (fun (u : Unit) => [(mo, .inr (4, [.int (nI 0), .int (nI (stS q)), .int (stM q), .int (nI ((stT q).length)), .ref qi, .ref qs, .ref qe, .ref qn, .ref qk])), (qi, .inl (cI, 6, .inl gi)), (qs, .inl (cI, 6, .inl gs)), (qe, .inl (cI, 6, .inl ge)), (qn, .inl (cI, 42, .inl w))]) := by
  refine k_bodyI (cc := cX4_talkers) (maxL := 1) (by decide) rfl (Nat.le_of_ble_eq_true rfl) ?_
  intro p e ss m args below meth c A Q F hname hA hG hK hP hD hS ret ls hl
  obtain ⟨hx, hb, hml, hown, hts⟩ := id F
  have hP : va_P D vwCl [(mo, .inr (4, [.int tw, .int (nI (stS q)), .int (stM q), .int (nI ((stT q).length)), .ref qi, .ref qs, .ref qe, .ref qn, .ref qk])), (qi, .inl (cI, 6, .inl gi)), (qs, .inl (cI, 6, .inl gs)), (qe, .inl (cI, 6, .inl ge)), (qn, .inl (cI, 42, .inl w))] ss.heap := hP
  have hD : va_D A [(mo, .inr (4, [.int tw, .int (nI (stS q)), .int (stM q), .int (nI ((stT q).length)), .ref qi, .ref qs, .ref qe, .ref qn, .ref qk])), (qi, .inl (cI, 6, .inl gi)), (qs, .inl (cI, 6, .inl gs)), (qe, .inl (cI, 6, .inl ge)), (qn, .inl (cI, 42, .inl w))] := hD
  have hl : lv_has ls 1 [(0, .ref mo)] := hl
  have iX4 : ∀ w ∈ u_ws RX4 TX4 9, w ∈ wsX4_talkers := by decide +kernel
  have f39 := hts (.fieldLink RX4 39 "SmallerTalkModel" "talkers" "I") (by decide +kernel)
  obtain ⟨n0, n1, n2, n3, n4, n5, nB, nT⟩ := id hN
  refine lv_aload_n hx hb dX4_talkers_0 rfl (lv_at hl 0 rfl) ?_
  refine lv_aload_n hx hb dX4_talkers_1 rfl (lv_at hl 0 rfl) ?_
  refine va_get (D := D) (ci := 4) (v := .int (nI ((stT q).length))) (C := RX4) (T := TX4) (N := 9) hx hb hts iX4 hown hK hP 0 rfl rfl 3 (by decide) f39 (fun _ h9 => h9) rfl dX4_talkers_2 ?_
  refine k_callV (As := [.int (nI ((stT q).length))]) (rest := []) (wr := [(qi, .inl (cI, 6, .inl gi)), (qs, .inl (cI, 6, .inl gs)), (qe, .inl (cI, 6, .inl ge)), (qn, .inl (cI, 42, .inl w))]) F (c_X4_ok l D cI mo qi qs qe qn qk tw (nI (stS q)) (stM q) (nI ((stT q).length)) (nI ((stT q).length)) ) gX4_talkers_X4_ok rfl (nA := 1) (by decide +kernel) rfl ⟨Nat.le_of_ble_eq_true rfl, Nat.le_of_ble_eq_true rfl⟩ hK hP hD hS hA hG (ci := 4) (q0 := 0) rfl rfl rfl [0] [1, 2, 3, 4] rfl (by decide) rfl (by decide) (by decide) [0] rfl rfl hl.1 (Nat.le_of_ble_eq_true rfl) dX4_talkers_5 ⟨Nat.le_of_ble_eq_true rfl, Nat.le_of_ble_eq_true rfl⟩ (fun r_1 u H locs hr_5 hP hD hS => ?_)
  try dsimp only at hr_5
  have hP : va_P D vwCl [(qi, .inl (cI, 6, .inl gi)), (qs, .inl (cI, 6, .inl gs)), (qe, .inl (cI, 6, .inl ge)), (qn, .inl (cI, 42, .inl w)), (mo, .inr (4, [.int (nI 0), .int (nI (stS q)), .int (stM q), .int (nI ((stT q).length)), .ref qi, .ref qs, .ref qe, .ref qn, .ref qk]))] H := hP
  have hD : va_D A [(qi, .inl (cI, 6, .inl gi)), (qs, .inl (cI, 6, .inl gs)), (qe, .inl (cI, 6, .inl ge)), (qn, .inl (cI, 42, .inl w)), (mo, .inr (4, [.int (nI 0), .int (nI (stS q)), .int (stM q), .int (nI ((stT q).length)), .ref qi, .ref qs, .ref qe, .ref qn, .ref qk]))] := hD
  refine W.eq (g2 := F0 m 8 ls [.int r_1]) rfl ?_
  refine W.widen (k := 0) (n := 0) (Nat.le_of_ble_eq_true rfl) (Nat.le_of_ble_eq_true rfl) ?_
  refine k_top (v := nI ((stT q).length)) (hr_5) ?_
  exact ret (nI ((stT q).length)) () _ _ _ _ _ _ (rfl) (hP.sub [4, 0, 1, 2, 3] (rfl)) (hD.sub [4, 0, 1, 2, 3] (by decide) (rfl)) hS (Nat.le_of_ble_eq_true rfl) (Nat.le_of_ble_eq_true rfl) dX4_talkers_8

abbrev rm_X4_noise : Room := { frames := 1, cells := 0, slots := 0, locals := 22 }
set_option maxHeartbeats 4000000 in
set_option maxRecDepth 100000 in
theorem c_X4_noise (l : Launch) (D : va_G) (cI : ClassId) (mo : Nat) (qi : Nat) (qs : Nat) (qe : Nat) (qn : Nat) (qk : Nat) (tw : Int32) (gi : Nat → Int32) (gs : Nat → Int32) (ge : Nat → Int32) (w : Nat → Int32) (q : St) (hN : rN gi gs ge w q) : kM kri l yX4_noise wsX4_noise rm_X4_noise D [(cI, .int)] [.ref mo] [(mo, .inr (4, [.int tw, .int (nI (stS q)), .int (stM q), .int (nI ((stT q).length)), .ref qi, .ref qs, .ref qe, .ref qn, .ref qk])), (qi, .inl (cI, 6, .inl gi)), (qs, .inl (cI, 6, .inl gs)), (qe, .inl (cI, 6, .inl ge)), (qn, .inl (cI, 42, .inl w))] (fun (r : Int32) (u : Unit) => r = nI (ns (stB q))) (fun (u : Unit) => [(mo, .inr (4, [.int (nI 0), .int (nI (stS q)), .int (stM q), .int (nI ((stT q).length)), .ref qi, .ref qs, .ref qe, .ref qn, .ref qk])), (qi, .inl (cI, 6, .inl gi)), (qs, .inl (cI, 6, .inl gs)), (qe, .inl (cI, 6, .inl ge)), (qn, .inl (cI, 42, .inl w))]) := by
  refine k_bodyI (cc := cX4_noise) (maxL := 1) (by decide) rfl (Nat.le_of_ble_eq_true rfl) ?_
  intro p e ss m args below meth c A Q F hname hA hG hK hP hD hS ret ls hl
  obtain ⟨hx, hb, hml, hown, hts⟩ := id F
  have hP : va_P D vwCl [(mo, .inr (4, [.int tw, .int (nI (stS q)), .int (stM q), .int (nI ((stT q).length)), .ref qi, .ref qs, .ref qe, .ref qn, .ref qk])), (qi, .inl (cI, 6, .inl gi)), (qs, .inl (cI, 6, .inl gs)), (qe, .inl (cI, 6, .inl ge)), (qn, .inl (cI, 42, .inl w))] ss.heap := hP
  have hD : va_D A [(mo, .inr (4, [.int tw, .int (nI (stS q)), .int (stM q), .int (nI ((stT q).length)), .ref qi, .ref qs, .ref qe, .ref qn, .ref qk])), (qi, .inl (cI, 6, .inl gi)), (qs, .inl (cI, 6, .inl gs)), (qe, .inl (cI, 6, .inl ge)), (qn, .inl (cI, 42, .inl w))] := hD
  have hl : lv_has ls 1 [(0, .ref mo)] := hl
  obtain ⟨n0, n1, n2, n3, n4, n5, nB, nT⟩ := id hN
  refine lv_aload_n hx hb dX4_noise_0 rfl (lv_at hl 0 rfl) ?_
  refine lv_aload_n hx hb dX4_noise_1 rfl (lv_at hl 0 rfl) ?_
  refine k_callV (As := []) (rest := [.ref mo]) (wr := [(qi, .inl (cI, 6, .inl gi)), (qs, .inl (cI, 6, .inl gs)), (qe, .inl (cI, 6, .inl ge))]) F (c_X4_noiseNow l D cI mo qi qs qe qn qk tw (nI (stS q)) (stM q) (nI ((stT q).length)) w (stB q) n1 nB) gX4_noise_X4_noiseNow rfl (nA := 0) (by decide +kernel) rfl ⟨Nat.le_of_ble_eq_true rfl, Nat.le_of_ble_eq_true rfl⟩ hK hP hD hS hA hG (ci := 4) (q0 := 0) rfl rfl rfl [0, 4] [1, 2, 3] rfl (by decide) rfl (by decide) (by decide) [0] rfl rfl hl.1 (Nat.le_of_ble_eq_true rfl) dX4_noise_2 ⟨Nat.le_of_ble_eq_true rfl, Nat.le_of_ble_eq_true rfl⟩ (fun r_1 u H locs hr_2 hP hD hS => ?_)
  try dsimp only at hr_2
  have hP : va_P D vwCl [(qi, .inl (cI, 6, .inl gi)), (qs, .inl (cI, 6, .inl gs)), (qe, .inl (cI, 6, .inl ge)), (mo, .inr (4, [.int tw, .int (nI (stS q)), .int (stM q), .int (nI ((stT q).length)), .ref qi, .ref qs, .ref qe, .ref qn, .ref qk])), (qn, .inl (cI, 42, .inl w))] H := hP
  have hD : va_D A [(qi, .inl (cI, 6, .inl gi)), (qs, .inl (cI, 6, .inl gs)), (qe, .inl (cI, 6, .inl ge)), (mo, .inr (4, [.int tw, .int (nI (stS q)), .int (stM q), .int (nI ((stT q).length)), .ref qi, .ref qs, .ref qe, .ref qn, .ref qk])), (qn, .inl (cI, 42, .inl w))] := hD
  refine W.eq (g2 := F0 m 5 ls [.int r_1, .ref mo]) rfl ?_
  refine W.widen (k := 0) (n := 0) (Nat.le_of_ble_eq_true rfl) (Nat.le_of_ble_eq_true rfl) ?_
  refine k_top (v := nI (ns (stB q))) (hr_2) ?_
  refine k_callV (As := [.int (nI (ns (stB q)))]) (rest := []) (wr := [(qi, .inl (cI, 6, .inl gi)), (qs, .inl (cI, 6, .inl gs)), (qe, .inl (cI, 6, .inl ge)), (qn, .inl (cI, 42, .inl w))]) F (c_X4_ok l D cI mo qi qs qe qn qk tw (nI (stS q)) (stM q) (nI ((stT q).length)) (nI (ns (stB q))) ) gX4_noise_X4_ok rfl (nA := 1) (by decide +kernel) rfl ⟨Nat.le_of_ble_eq_true rfl, Nat.le_of_ble_eq_true rfl⟩ hK hP hD hS hA hG (ci := 4) (q0 := 3) rfl rfl rfl [3] [0, 1, 2, 4] rfl (by decide) rfl (by decide) (by decide) [0] rfl rfl hl.1 (Nat.le_of_ble_eq_true rfl) dX4_noise_5 ⟨Nat.le_of_ble_eq_true rfl, Nat.le_of_ble_eq_true rfl⟩ (fun r_2 u H locs hr_5 hP hD hS => ?_)
  try dsimp only at hr_5
  have hP : va_P D vwCl [(qi, .inl (cI, 6, .inl gi)), (qs, .inl (cI, 6, .inl gs)), (qe, .inl (cI, 6, .inl ge)), (qn, .inl (cI, 42, .inl w)), (mo, .inr (4, [.int (nI 0), .int (nI (stS q)), .int (stM q), .int (nI ((stT q).length)), .ref qi, .ref qs, .ref qe, .ref qn, .ref qk]))] H := hP
  have hD : va_D A [(qi, .inl (cI, 6, .inl gi)), (qs, .inl (cI, 6, .inl gs)), (qe, .inl (cI, 6, .inl ge)), (qn, .inl (cI, 42, .inl w)), (mo, .inr (4, [.int (nI 0), .int (nI (stS q)), .int (stM q), .int (nI ((stT q).length)), .ref qi, .ref qs, .ref qe, .ref qn, .ref qk]))] := hD
  refine W.eq (g2 := F0 m 8 ls [.int r_2]) rfl ?_
  refine W.widen (k := 0) (n := 0) (Nat.le_of_ble_eq_true rfl) (Nat.le_of_ble_eq_true rfl) ?_
  refine k_top (v := nI (ns (stB q))) (hr_5) ?_
  exact ret (nI (ns (stB q))) () _ _ _ _ _ _ (rfl) (hP.sub [4, 0, 1, 2, 3] (rfl)) (hD.sub [4, 0, 1, 2, 3] (by decide) (rfl)) hS (Nat.le_of_ble_eq_true rfl) (Nat.le_of_ble_eq_true rfl) dX4_noise_8

abbrev rm_X4_there : Room := { frames := 1, cells := 0, slots := 0, locals := 21 }
set_option maxHeartbeats 4000000 in
set_option maxRecDepth 100000 in
theorem c_X4_there (l : Launch) (D : va_G) (cI : ClassId) (mo : Nat) (qi : Nat) (qs : Nat) (qe : Nat) (qn : Nat) (qk : Nat) (tw : Int32) (gi : Nat → Int32) (gs : Nat → Int32) (ge : Nat → Int32) (w : Nat → Int32) (q : St) (hN : rN gi gs ge w q) : kM kri l yX4_there wsX4_there rm_X4_there D [(cI, .int)] [.ref mo] [(mo, .inr (4, [.int tw, .int (nI (stS q)), .int (stM q), .int (nI ((stT q).length)), .ref qi, .ref qs, .ref qe, .ref qn, .ref qk])), (qi, .inl (cI, 6, .inl gi)), (qs, .inl (cI, 6, .inl gs)), (qe, .inl (cI, 6, .inl ge)), (qn, .inl (cI, 42, .inl w))] (fun (r : Int32) (u : Unit) => r = nI (ctT (stT q))) (fun (u : Unit) => [(mo, .inr (4, [.int tw, .int (nI (stS q)), .int (stM q), .int (nI ((stT q).length)), .ref qi, .ref qs, .ref qe, .ref qn, .ref qk])), (qi, .inl (cI, 6, .inl gi)), (qs, .inl (cI, 6, .inl gs)), (qe, .inl (cI, 6, .inl ge)), (qn, .inl (cI, 42, .inl w))]) := by
  refine k_bodyI (cc := cX4_there) (maxL := 3) (by decide) rfl (Nat.le_of_ble_eq_true rfl) ?_
  intro p e ss m args below meth c A Q F hname hA hG hK hP hD hS ret ls hl
  obtain ⟨hx, hb, hml, hown, hts⟩ := id F
  have hP : va_P D vwCl [(mo, .inr (4, [.int tw, .int (nI (stS q)), .int (stM q), .int (nI ((stT q).length)), .ref qi, .ref qs, .ref qe, .ref qn, .ref qk])), (qi, .inl (cI, 6, .inl gi)), (qs, .inl (cI, 6, .inl gs)), (qe, .inl (cI, 6, .inl ge)), (qn, .inl (cI, 42, .inl w))] ss.heap := hP
  have hD : va_D A [(mo, .inr (4, [.int tw, .int (nI (stS q)), .int (stM q), .int (nI ((stT q).length)), .ref qi, .ref qs, .ref qe, .ref qn, .ref qk])), (qi, .inl (cI, 6, .inl gi)), (qs, .inl (cI, 6, .inl gs)), (qe, .inl (cI, 6, .inl ge)), (qn, .inl (cI, 42, .inl w))] := hD
  have hl : lv_has ls 3 [(0, .ref mo)] := hl
  have iX4 : ∀ w ∈ u_ws RX4 TX4 9, w ∈ wsX4_there := by decide +kernel
  have f39 := hts (.fieldLink RX4 39 "SmallerTalkModel" "talkers" "I") (by decide +kernel)
  obtain ⟨n0, n1, n2, n3, n4, n5, nB, nT⟩ := id hN
  have h12 := nB.1
  have h6 := nT.1
  refine lv_iconst (v := nI 0) hx hb dX4_there_0 (by decide +kernel) ?_
  refine lv_istore_n (lv' := [(1, .int (nI 0)), (0, .ref mo)]) hx hb dX4_there_1 rfl hl (by decide) rfl (fun ls hl => ?_)
  refine lv_iconst (v := nI 0) hx hb dX4_there_2 (by decide +kernel) ?_
  refine lv_istore_n (lv' := [(2, .int (nI 0)), (1, .int (nI 0)), (0, .ref mo)]) hx hb dX4_there_3 rfl hl (by decide) rfl (fun ls hl => ?_)
  have loop_1 : ∀ (n : Nat) (i : Nat), (i ≤ (stT q).length) → (stT q).length - i < n → ∀ (H : Heap) (locs : List Loc), va_P D vwCl [(mo, .inr (4, [.int tw, .int (nI (stS q)), .int (stM q), .int (nI ((stT q).length)), .ref qi, .ref qs, .ref qe, .ref qn, .ref qk])), (qi, .inl (cI, 6, .inl gi)), (qs, .inl (cI, 6, .inl gs)), (qe, .inl (cI, 6, .inl ge)), (qn, .inl (cI, 42, .inl w))] H → va_D A [(mo, .inr (4, [.int tw, .int (nI (stS q)), .int (stM q), .int (nI ((stT q).length)), .ref qi, .ref qs, .ref qe, .ref qn, .ref qk])), (qi, .inl (cI, 6, .inl gi)), (qs, .inl (cI, 6, .inl gs)), (qe, .inl (cI, 6, .inl ge)), (qn, .inl (cI, 42, .inl w))] → va_S A ss.heap H locs → ∀ ls : Array Slot, lv_has ls 3 [(0, .ref mo), (1, .int (nI (cnN (isT (stT q)) i))), (2, .int (nI i))] → W p l e rm_X4_there ss m args below meth c H locs 0 0 Q (F0 m 4 ls []) := by
    intro n
    induction n with
    | zero => intro i hi hn; exact absurd hn (by omega)
    | succ n ih =>
      intro i hi hn H locs hP hD hS ls hl
      refine lv_iload_n hx hb dX4_there_4 rfl (lv_at hl 2 rfl) ?_
      refine lv_aload_n hx hb dX4_there_5 rfl (lv_at hl 0 rfl) ?_
      refine va_get (D := D) (ci := 4) (v := .int (nI ((stT q).length))) (C := RX4) (T := TX4) (N := 9) hx hb hts iX4 hown hK hP 0 rfl rfl 3 (by decide) f39 (fun _ h9 => h9) rfl dX4_there_6 ?_
      refine k_cmp_ge (tgt := 34) hx hb i ((stT q).length) rfl rfl (by omega) (by omega) dX4_there_9 (by decide) (fun c_9 => ?_) (fun c_9 => ?_)
      · skip
        obtain rfl : i = (stT q).length := by omega
        refine lv_iload_n hx hb dX4_there_34 rfl (lv_at hl 1 rfl) ?_
        exact ret (nI (cnN (isT (stT q)) ((stT q).length))) () _ _ _ _ _ _ (rfl) (hP.sub [0, 1, 2, 3, 4] (rfl)) (hD.sub [0, 1, 2, 3, 4] (by decide) (rfl)) hS (Nat.le_of_ble_eq_true rfl) (Nat.le_of_ble_eq_true rfl) dX4_there_35
      · skip
        refine lv_iload_n hx hb dX4_there_12 rfl (lv_at hl 1 rfl) ?_
        refine lv_aload_n hx hb dX4_there_13 rfl (lv_at hl 0 rfl) ?_
        refine lv_iload_n hx hb dX4_there_14 rfl (lv_at hl 2 rfl) ?_
        refine k_callV (As := [.int (nI i)]) (rest := [.int (nI (cnN (isT (stT q)) i))]) (wr := [(qi, .inl (cI, 6, .inl gi)), (qs, .inl (cI, 6, .inl gs)), (qe, .inl (cI, 6, .inl ge))]) F (c_X4_isThere l D cI mo qi qs qe qn qk tw (nI (stS q)) (stM q) (nI ((stT q).length)) w i (tkX ((stT q).getD i tk0)) ((nT.2 i c_9).2.2.2.2) (by omega)) gX4_there_X4_isThere rfl (nA := 1) (by decide +kernel) rfl ⟨Nat.le_of_ble_eq_true rfl, Nat.le_of_ble_eq_true rfl⟩ hK hP hD hS hA hG (ci := 4) (q0 := 0) rfl rfl rfl [0, 4] [1, 2, 3] rfl (by decide) rfl (by decide) (by decide) [0] rfl rfl hl.1 (Nat.le_of_ble_eq_true rfl) dX4_there_15 ⟨Nat.le_of_ble_eq_true rfl, Nat.le_of_ble_eq_true rfl⟩ (fun r_2 u H locs hr_15 hP hD hS => ?_)
        try dsimp only at hr_15
        have hP : va_P D vwCl [(qi, .inl (cI, 6, .inl gi)), (qs, .inl (cI, 6, .inl gs)), (qe, .inl (cI, 6, .inl ge)), (mo, .inr (4, [.int tw, .int (nI (stS q)), .int (stM q), .int (nI ((stT q).length)), .ref qi, .ref qs, .ref qe, .ref qn, .ref qk])), (qn, .inl (cI, 42, .inl w))] H := hP
        have hD : va_D A [(qi, .inl (cI, 6, .inl gi)), (qs, .inl (cI, 6, .inl gs)), (qe, .inl (cI, 6, .inl ge)), (mo, .inr (4, [.int tw, .int (nI (stS q)), .int (stM q), .int (nI ((stT q).length)), .ref qi, .ref qs, .ref qe, .ref qn, .ref qk])), (qn, .inl (cI, 42, .inl w))] := hD
        refine W.eq (g2 := F0 m 18 ls [.int r_2, .int (nI (cnN (isT (stT q)) i))]) rfl ?_
        refine W.widen (k := 0) (n := 0) (Nat.le_of_ble_eq_true rfl) (Nat.le_of_ble_eq_true rfl) ?_
        refine lv_if_eq (tgt := 25) hx hb dX4_there_18 (by decide) (fun c_18 => ?_) (fun c_18 => ?_)
        · skip
          refine lv_iconst (v := nI 0) hx hb dX4_there_25 (by decide +kernel) ?_
          refine k_iadd hx hb (nI ((cnN (isT (stT q)) i) + 0)) (nI_add _ _) dX4_there_26 ?_
          refine lv_istore_n (lv' := [(1, .int (nI ((cnN (isT (stT q)) i) + 0))), (0, .ref mo), (2, .int (nI i))]) hx hb dX4_there_27 rfl hl (by decide) rfl (fun ls hl => ?_)
          refine lv_iinc (v := nI (i + 1)) (lv' := [(2, .int (nI (i + 1))), (1, .int (nI ((cnN (isT (stT q)) i) + 0))), (0, .ref mo)]) hx hb dX4_there_28 hl (k := 2) rfl (nI_1 _) (by decide) rfl (fun ls hl => ?_)
          refine lv_goto (tgt := 4) hx hb dX4_there_31 (by decide) ?_
          exact ih (i + 1) (by omega) (by omega) _ _ (hP.sub [3, 0, 1, 2, 4] (rfl)) (hD.sub [3, 0, 1, 2, 4] (by decide) (rfl)) hS _ (lv_sub hl [2, 1, 0] (by rw [cn_f (isT_f (bI_eq0 hr_15 c_18))]; rfl))
        · skip
          refine lv_iconst (v := nI 1) hx hb dX4_there_21 (by decide +kernel) ?_
          refine lv_goto (tgt := 26) hx hb dX4_there_22 (by decide) ?_
          refine k_iadd hx hb (nI ((cnN (isT (stT q)) i) + 1)) (nI_add _ _) dX4_there_26 ?_
          refine lv_istore_n (lv' := [(1, .int (nI ((cnN (isT (stT q)) i) + 1))), (0, .ref mo), (2, .int (nI i))]) hx hb dX4_there_27 rfl hl (by decide) rfl (fun ls hl => ?_)
          refine lv_iinc (v := nI (i + 1)) (lv' := [(2, .int (nI (i + 1))), (1, .int (nI ((cnN (isT (stT q)) i) + 1))), (0, .ref mo)]) hx hb dX4_there_28 hl (k := 2) rfl (nI_1 _) (by decide) rfl (fun ls hl => ?_)
          refine lv_goto (tgt := 4) hx hb dX4_there_31 (by decide) ?_
          exact ih (i + 1) (by omega) (by omega) _ _ (hP.sub [3, 0, 1, 2, 4] (rfl)) (hD.sub [3, 0, 1, 2, 4] (by decide) (rfl)) hS _ (lv_sub hl [2, 1, 0] (by rw [cn_t (isT_t (bI_ne0 hr_15 c_18))]; rfl))
  exact loop_1 (((stT q).length) + 1) 0 (Nat.zero_le _) (by omega) _ _ (hP.sub [0, 1, 2, 3, 4] (rfl)) (hD.sub [0, 1, 2, 3, 4] (by decide) (rfl)) hS _ (lv_sub hl [2, 1, 0] (rfl))

abbrev rm_X4_present : Room := { frames := 2, cells := 0, slots := 0, locals := 43 }
set_option maxHeartbeats 4000000 in
set_option maxRecDepth 100000 in
theorem c_X4_present (l : Launch) (D : va_G) (cI : ClassId) (mo : Nat) (qi : Nat) (qs : Nat) (qe : Nat) (qn : Nat) (qk : Nat) (tw : Int32) (gi : Nat → Int32) (gs : Nat → Int32) (ge : Nat → Int32) (w : Nat → Int32) (q : St) (hN : rN gi gs ge w q) : kM kri l yX4_present wsX4_present rm_X4_present D [(cI, .int)] [.ref mo] [(mo, .inr (4, [.int tw, .int (nI (stS q)), .int (stM q), .int (nI ((stT q).length)), .ref qi, .ref qs, .ref qe, .ref qn, .ref qk])), (qi, .inl (cI, 6, .inl gi)), (qs, .inl (cI, 6, .inl gs)), (qe, .inl (cI, 6, .inl ge)), (qn, .inl (cI, 42, .inl w))] (fun (r : Int32) (u : Unit) => r = nI (ctT (stT q))) (fun (u : Unit) => [(mo, .inr (4, [.int (nI 0), .int (nI (stS q)), .int (stM q), .int (nI ((stT q).length)), .ref qi, .ref qs, .ref qe, .ref qn, .ref qk])), (qi, .inl (cI, 6, .inl gi)), (qs, .inl (cI, 6, .inl gs)), (qe, .inl (cI, 6, .inl ge)), (qn, .inl (cI, 42, .inl w))]) := by
  refine k_bodyI (cc := cX4_present) (maxL := 1) (by decide) rfl (Nat.le_of_ble_eq_true rfl) ?_
  intro p e ss m args below meth c A Q F hname hA hG hK hP hD hS ret ls hl
  obtain ⟨hx, hb, hml, hown, hts⟩ := id F
  have hP : va_P D vwCl [(mo, .inr (4, [.int tw, .int (nI (stS q)), .int (stM q), .int (nI ((stT q).length)), .ref qi, .ref qs, .ref qe, .ref qn, .ref qk])), (qi, .inl (cI, 6, .inl gi)), (qs, .inl (cI, 6, .inl gs)), (qe, .inl (cI, 6, .inl ge)), (qn, .inl (cI, 42, .inl w))] ss.heap := hP
  have hD : va_D A [(mo, .inr (4, [.int tw, .int (nI (stS q)), .int (stM q), .int (nI ((stT q).length)), .ref qi, .ref qs, .ref qe, .ref qn, .ref qk])), (qi, .inl (cI, 6, .inl gi)), (qs, .inl (cI, 6, .inl gs)), (qe, .inl (cI, 6, .inl ge)), (qn, .inl (cI, 42, .inl w))] := hD
  have hl : lv_has ls 1 [(0, .ref mo)] := hl
  obtain ⟨n0, n1, n2, n3, n4, n5, nB, nT⟩ := id hN
  refine lv_aload_n hx hb dX4_present_0 rfl (lv_at hl 0 rfl) ?_
  refine lv_aload_n hx hb dX4_present_1 rfl (lv_at hl 0 rfl) ?_
  refine k_callV (As := []) (rest := [.ref mo]) (wr := []) F (c_X4_there l D cI mo qi qs qe qn qk tw gi gs ge w q hN) gX4_present_X4_there rfl (nA := 0) (by decide +kernel) rfl ⟨Nat.le_of_ble_eq_true rfl, Nat.le_of_ble_eq_true rfl⟩ hK hP hD hS hA hG (ci := 4) (q0 := 0) rfl rfl rfl [0, 1, 2, 3, 4] [] rfl (by decide) rfl (by decide) (by decide) [0] rfl rfl hl.1 (Nat.le_of_ble_eq_true rfl) dX4_present_2 ⟨Nat.le_of_ble_eq_true rfl, Nat.le_of_ble_eq_true rfl⟩ (fun r_1 u H locs hr_2 hP hD hS => ?_)
  try dsimp only at hr_2
  have hP : va_P D vwCl [(mo, .inr (4, [.int tw, .int (nI (stS q)), .int (stM q), .int (nI ((stT q).length)), .ref qi, .ref qs, .ref qe, .ref qn, .ref qk])), (qi, .inl (cI, 6, .inl gi)), (qs, .inl (cI, 6, .inl gs)), (qe, .inl (cI, 6, .inl ge)), (qn, .inl (cI, 42, .inl w))] H := hP
  have hD : va_D A [(mo, .inr (4, [.int tw, .int (nI (stS q)), .int (stM q), .int (nI ((stT q).length)), .ref qi, .ref qs, .ref qe, .ref qn, .ref qk])), (qi, .inl (cI, 6, .inl gi)), (qs, .inl (cI, 6, .inl gs)), (qe, .inl (cI, 6, .inl ge)), (qn, .inl (cI, 42, .inl w))] := hD
  refine W.eq (g2 := F0 m 5 ls [.int r_1, .ref mo]) rfl ?_
  refine W.widen (k := 0) (n := 0) (Nat.le_of_ble_eq_true rfl) (Nat.le_of_ble_eq_true rfl) ?_
  refine k_top (v := nI (ctT (stT q))) (hr_2) ?_
  refine k_callV (As := [.int (nI (ctT (stT q)))]) (rest := []) (wr := [(qi, .inl (cI, 6, .inl gi)), (qs, .inl (cI, 6, .inl gs)), (qe, .inl (cI, 6, .inl ge)), (qn, .inl (cI, 42, .inl w))]) F (c_X4_ok l D cI mo qi qs qe qn qk tw (nI (stS q)) (stM q) (nI ((stT q).length)) (nI (ctT (stT q))) ) gX4_present_X4_ok rfl (nA := 1) (by decide +kernel) rfl ⟨Nat.le_of_ble_eq_true rfl, Nat.le_of_ble_eq_true rfl⟩ hK hP hD hS hA hG (ci := 4) (q0 := 0) rfl rfl rfl [0] [1, 2, 3, 4] rfl (by decide) rfl (by decide) (by decide) [0] rfl rfl hl.1 (Nat.le_of_ble_eq_true rfl) dX4_present_5 ⟨Nat.le_of_ble_eq_true rfl, Nat.le_of_ble_eq_true rfl⟩ (fun r_2 u H locs hr_5 hP hD hS => ?_)
  try dsimp only at hr_5
  have hP : va_P D vwCl [(qi, .inl (cI, 6, .inl gi)), (qs, .inl (cI, 6, .inl gs)), (qe, .inl (cI, 6, .inl ge)), (qn, .inl (cI, 42, .inl w)), (mo, .inr (4, [.int (nI 0), .int (nI (stS q)), .int (stM q), .int (nI ((stT q).length)), .ref qi, .ref qs, .ref qe, .ref qn, .ref qk]))] H := hP
  have hD : va_D A [(qi, .inl (cI, 6, .inl gi)), (qs, .inl (cI, 6, .inl gs)), (qe, .inl (cI, 6, .inl ge)), (qn, .inl (cI, 42, .inl w)), (mo, .inr (4, [.int (nI 0), .int (nI (stS q)), .int (stM q), .int (nI ((stT q).length)), .ref qi, .ref qs, .ref qe, .ref qn, .ref qk]))] := hD
  refine W.eq (g2 := F0 m 8 ls [.int r_2]) rfl ?_
  refine W.widen (k := 0) (n := 0) (Nat.le_of_ble_eq_true rfl) (Nat.le_of_ble_eq_true rfl) ?_
  refine k_top (v := nI (ctT (stT q))) (hr_5) ?_
  exact ret (nI (ctT (stT q))) () _ _ _ _ _ _ (rfl) (hP.sub [4, 0, 1, 2, 3] (rfl)) (hD.sub [4, 0, 1, 2, 3] (by decide) (rfl)) hS (Nat.le_of_ble_eq_true rfl) (Nat.le_of_ble_eq_true rfl) dX4_present_8

abbrev rm_X4_sizeAt : Room := { frames := 2, cells := 0, slots := 0, locals := 43 }
set_option maxHeartbeats 4000000 in
set_option maxRecDepth 100000 in
theorem c_X4_sizeAt (l : Launch) (D : va_G) (cI : ClassId) (mo : Nat) (qi : Nat) (qs : Nat) (qe : Nat) (qn : Nat) (qk : Nat) (tw : Int32) (gi : Nat → Int32) (gs : Nat → Int32) (ge : Nat → Int32) (w : Nat → Int32) (q : St) (j : Nat) (hN : rN gi gs ge w q) (hj : j < (stB q).length) : kM kri l yX4_sizeAt wsX4_sizeAt rm_X4_sizeAt D [(cI, .int)] [.ref mo, .int (nI j)] [(mo, .inr (4, [.int tw, .int (nI (stS q)), .int (stM q), .int (nI ((stT q).length)), .ref qi, .ref qs, .ref qe, .ref qn, .ref qk])), (qi, .inl (cI, 6, .inl gi)), (qs, .inl (cI, 6, .inl gs)), (qe, .inl (cI, 6, .inl ge)), (qn, .inl (cI, 42, .inl w))] (fun (r : Int32) (u : Unit) => r = nI ((stB q).getD j tp0).2) (fun (u : Unit) => [(mo, .inr (4, [.int (nI 0), .int (nI (stS q)), .int (stM q), .int (nI ((stT q).length)), .ref qi, .ref qs, .ref qe, .ref qn, .ref qk])), (qi, .inl (cI, 6, .inl gi)), (qs, .inl (cI, 6, .inl gs)), (qe, .inl (cI, 6, .inl ge)), (qn, .inl (cI, 42, .inl w))]) := by
  refine k_bodyI (cc := cX4_sizeAt) (maxL := 2) (by decide) rfl (Nat.le_of_ble_eq_true rfl) ?_
  intro p e ss m args below meth c A Q F hname hA hG hK hP hD hS ret ls hl
  obtain ⟨hx, hb, hml, hown, hts⟩ := id F
  have hP : va_P D vwCl [(mo, .inr (4, [.int tw, .int (nI (stS q)), .int (stM q), .int (nI ((stT q).length)), .ref qi, .ref qs, .ref qe, .ref qn, .ref qk])), (qi, .inl (cI, 6, .inl gi)), (qs, .inl (cI, 6, .inl gs)), (qe, .inl (cI, 6, .inl ge)), (qn, .inl (cI, 42, .inl w))] ss.heap := hP
  have hD : va_D A [(mo, .inr (4, [.int tw, .int (nI (stS q)), .int (stM q), .int (nI ((stT q).length)), .ref qi, .ref qs, .ref qe, .ref qn, .ref qk])), (qi, .inl (cI, 6, .inl gi)), (qs, .inl (cI, 6, .inl gs)), (qe, .inl (cI, 6, .inl ge)), (qn, .inl (cI, 42, .inl w))] := hD
  have hl : lv_has ls 2 [(0, .ref mo), (1, .int (nI j))] := hl
  have iX4 : ∀ w ∈ u_ws RX4 TX4 9, w ∈ wsX4_sizeAt := by decide +kernel
  have f26 := hts (.fieldLink RX4 26 "SmallerTalkModel" "now" "[I") (by decide +kernel)
  have f32 := hts (.fieldLink RX4 32 "SmallerTalkModel" "thrown" "I") (by decide +kernel)
  obtain ⟨n0, n1, n2, n3, n4, n5, nB, nT⟩ := id hN
  have h12 := nB.1
  have h6 := nT.1
  refine lv_aload_n hx hb dX4_sizeAt_0 rfl (lv_at hl 0 rfl) ?_
  refine lv_iconst (v := nI 0) hx hb dX4_sizeAt_1 (by decide +kernel) ?_
  refine va_put (D := D) (ci := 4) (v := .int (nI 0)) (ty := .int) (C := RX4) (T := TX4) (N := 9) hx hb hts iX4 tyX4 tyX4_ok nmX4 hown hK hP hD hS 0 rfl rfl 0 (by decide) f32 (fun _ h9 => h9) rfl (by decide +kernel) rfl rfl (Nat.le_of_ble_eq_true rfl) dX4_sizeAt_2 (fun H locs hP hD hS => ?_)
  have hP : va_P D vwCl [(mo, .inr (4, [.int (nI 0), .int (nI (stS q)), .int (stM q), .int (nI ((stT q).length)), .ref qi, .ref qs, .ref qe, .ref qn, .ref qk])), (qi, .inl (cI, 6, .inl gi)), (qs, .inl (cI, 6, .inl gs)), (qe, .inl (cI, 6, .inl ge)), (qn, .inl (cI, 42, .inl w))] H := hP
  have hD : va_D A [(mo, .inr (4, [.int (nI 0), .int (nI (stS q)), .int (stM q), .int (nI ((stT q).length)), .ref qi, .ref qs, .ref qe, .ref qn, .ref qk])), (qi, .inl (cI, 6, .inl gi)), (qs, .inl (cI, 6, .inl gs)), (qe, .inl (cI, 6, .inl ge)), (qn, .inl (cI, 42, .inl w))] := hD
  refine lv_aload_n hx hb dX4_sizeAt_5 rfl (lv_at hl 0 rfl) ?_
  refine lv_iload_n hx hb dX4_sizeAt_6 rfl (lv_at hl 1 rfl) ?_
  refine k_callV (As := [.int (nI j)]) (rest := []) (wr := [(qi, .inl (cI, 6, .inl gi)), (qs, .inl (cI, 6, .inl gs)), (qe, .inl (cI, 6, .inl ge))]) F (c_X4_isPlace l D cI mo qi qs qe qn qk (nI 0) (nI (stS q)) (stM q) (nI ((stT q).length)) w ((stB q).length) j n1 h12 hj) gX4_sizeAt_X4_isPlace rfl (nA := 1) (by decide +kernel) rfl ⟨Nat.le_of_ble_eq_true rfl, Nat.le_of_ble_eq_true rfl⟩ hK hP hD hS hA hG (ci := 4) (q0 := 0) rfl rfl rfl [0, 4] [1, 2, 3] rfl (by decide) rfl (by decide) (by decide) [0] rfl rfl hl.1 (Nat.le_of_ble_eq_true rfl) dX4_sizeAt_7 ⟨Nat.le_of_ble_eq_true rfl, Nat.le_of_ble_eq_true rfl⟩ (fun r_1 u H locs hr_7 hP hD hS => ?_)
  try dsimp only at hr_7
  have hP : va_P D vwCl [(qi, .inl (cI, 6, .inl gi)), (qs, .inl (cI, 6, .inl gs)), (qe, .inl (cI, 6, .inl ge)), (mo, .inr (4, [.int (nI 0), .int (nI (stS q)), .int (stM q), .int (nI ((stT q).length)), .ref qi, .ref qs, .ref qe, .ref qn, .ref qk])), (qn, .inl (cI, 42, .inl w))] H := hP
  have hD : va_D A [(qi, .inl (cI, 6, .inl gi)), (qs, .inl (cI, 6, .inl gs)), (qe, .inl (cI, 6, .inl ge)), (mo, .inr (4, [.int (nI 0), .int (nI (stS q)), .int (stM q), .int (nI ((stT q).length)), .ref qi, .ref qs, .ref qe, .ref qn, .ref qk])), (qn, .inl (cI, 42, .inl w))] := hD
  refine W.eq (g2 := F0 m 10 ls [.int r_1]) rfl ?_
  refine W.widen (k := 0) (n := 0) (Nat.le_of_ble_eq_true rfl) (Nat.le_of_ble_eq_true rfl) ?_
  refine k_top (v := nI 1) (hr_7) ?_
  refine k_if_eq (tgt := 25) hx hb 1 rfl (by omega) dX4_sizeAt_10 (by decide) (fun c_10 => ?_) (fun c_10 => ?_)
  · exact absurd c_10 (by omega)
  · skip
    refine lv_aload_n hx hb dX4_sizeAt_13 rfl (lv_at hl 0 rfl) ?_
    refine va_get (D := D) (ci := 4) (v := .ref qn) (C := RX4) (T := TX4) (N := 9) hx hb hts iX4 hown hK hP 3 rfl rfl 7 (by decide) f26 (fun _ h9 => h9) rfl dX4_sizeAt_14 ?_
    refine lv_bipush (v := nI 6) hx hb dX4_sizeAt_17 (by decide +kernel) ?_
    refine lv_iload_n hx hb dX4_sizeAt_19 rfl (lv_at hl 1 rfl) ?_
    refine k_iadd hx hb (nI (6 + j)) (nI_add _ _) dX4_sizeAt_20 ?_
    refine k_iald hx hb hK hP 4 0 rfl rfl (6 + j) (rfl) (by omega) (by decide) dX4_sizeAt_21 ?_
    refine k_top (v := nI (((stB q).getD j tp0).2)) ((nB.2 j hj).2) ?_
    refine lv_goto (tgt := 30) hx hb dX4_sizeAt_22 (by decide) ?_
    exact ret (nI (((stB q).getD j tp0).2)) () _ _ _ _ _ _ (rfl) (hP.sub [3, 0, 1, 2, 4] (rfl)) (hD.sub [3, 0, 1, 2, 4] (by decide) (rfl)) hS (Nat.le_of_ble_eq_true rfl) (Nat.le_of_ble_eq_true rfl) dX4_sizeAt_30

abbrev rm_X4_kindAt : Room := { frames := 2, cells := 0, slots := 0, locals := 43 }
set_option maxHeartbeats 4000000 in
set_option maxRecDepth 100000 in
theorem c_X4_kindAt (l : Launch) (D : va_G) (cI : ClassId) (mo : Nat) (qi : Nat) (qs : Nat) (qe : Nat) (qn : Nat) (qk : Nat) (tw : Int32) (gi : Nat → Int32) (gs : Nat → Int32) (ge : Nat → Int32) (w : Nat → Int32) (q : St) (j : Nat) (hN : rN gi gs ge w q) (hj : j < (stB q).length) : kM kri l yX4_kindAt wsX4_kindAt rm_X4_kindAt D [(cI, .int)] [.ref mo, .int (nI j)] [(mo, .inr (4, [.int tw, .int (nI (stS q)), .int (stM q), .int (nI ((stT q).length)), .ref qi, .ref qs, .ref qe, .ref qn, .ref qk])), (qi, .inl (cI, 6, .inl gi)), (qs, .inl (cI, 6, .inl gs)), (qe, .inl (cI, 6, .inl ge)), (qn, .inl (cI, 42, .inl w))] (fun (r : Int32) (u : Unit) => r = ((stB q).getD j tp0).1) (fun (u : Unit) => [(mo, .inr (4, [.int (nI 0), .int (nI (stS q)), .int (stM q), .int (nI ((stT q).length)), .ref qi, .ref qs, .ref qe, .ref qn, .ref qk])), (qi, .inl (cI, 6, .inl gi)), (qs, .inl (cI, 6, .inl gs)), (qe, .inl (cI, 6, .inl ge)), (qn, .inl (cI, 42, .inl w))]) := by
  refine k_bodyI (cc := cX4_kindAt) (maxL := 2) (by decide) rfl (Nat.le_of_ble_eq_true rfl) ?_
  intro p e ss m args below meth c A Q F hname hA hG hK hP hD hS ret ls hl
  obtain ⟨hx, hb, hml, hown, hts⟩ := id F
  have hP : va_P D vwCl [(mo, .inr (4, [.int tw, .int (nI (stS q)), .int (stM q), .int (nI ((stT q).length)), .ref qi, .ref qs, .ref qe, .ref qn, .ref qk])), (qi, .inl (cI, 6, .inl gi)), (qs, .inl (cI, 6, .inl gs)), (qe, .inl (cI, 6, .inl ge)), (qn, .inl (cI, 42, .inl w))] ss.heap := hP
  have hD : va_D A [(mo, .inr (4, [.int tw, .int (nI (stS q)), .int (stM q), .int (nI ((stT q).length)), .ref qi, .ref qs, .ref qe, .ref qn, .ref qk])), (qi, .inl (cI, 6, .inl gi)), (qs, .inl (cI, 6, .inl gs)), (qe, .inl (cI, 6, .inl ge)), (qn, .inl (cI, 42, .inl w))] := hD
  have hl : lv_has ls 2 [(0, .ref mo), (1, .int (nI j))] := hl
  have iX4 : ∀ w ∈ u_ws RX4 TX4 9, w ∈ wsX4_kindAt := by decide +kernel
  have f26 := hts (.fieldLink RX4 26 "SmallerTalkModel" "now" "[I") (by decide +kernel)
  have f32 := hts (.fieldLink RX4 32 "SmallerTalkModel" "thrown" "I") (by decide +kernel)
  obtain ⟨n0, n1, n2, n3, n4, n5, nB, nT⟩ := id hN
  have h12 := nB.1
  have h6 := nT.1
  refine lv_aload_n hx hb dX4_kindAt_0 rfl (lv_at hl 0 rfl) ?_
  refine lv_iconst (v := nI 0) hx hb dX4_kindAt_1 (by decide +kernel) ?_
  refine va_put (D := D) (ci := 4) (v := .int (nI 0)) (ty := .int) (C := RX4) (T := TX4) (N := 9) hx hb hts iX4 tyX4 tyX4_ok nmX4 hown hK hP hD hS 0 rfl rfl 0 (by decide) f32 (fun _ h9 => h9) rfl (by decide +kernel) rfl rfl (Nat.le_of_ble_eq_true rfl) dX4_kindAt_2 (fun H locs hP hD hS => ?_)
  have hP : va_P D vwCl [(mo, .inr (4, [.int (nI 0), .int (nI (stS q)), .int (stM q), .int (nI ((stT q).length)), .ref qi, .ref qs, .ref qe, .ref qn, .ref qk])), (qi, .inl (cI, 6, .inl gi)), (qs, .inl (cI, 6, .inl gs)), (qe, .inl (cI, 6, .inl ge)), (qn, .inl (cI, 42, .inl w))] H := hP
  have hD : va_D A [(mo, .inr (4, [.int (nI 0), .int (nI (stS q)), .int (stM q), .int (nI ((stT q).length)), .ref qi, .ref qs, .ref qe, .ref qn, .ref qk])), (qi, .inl (cI, 6, .inl gi)), (qs, .inl (cI, 6, .inl gs)), (qe, .inl (cI, 6, .inl ge)), (qn, .inl (cI, 42, .inl w))] := hD
  refine lv_aload_n hx hb dX4_kindAt_5 rfl (lv_at hl 0 rfl) ?_
  refine lv_iload_n hx hb dX4_kindAt_6 rfl (lv_at hl 1 rfl) ?_
  refine k_callV (As := [.int (nI j)]) (rest := []) (wr := [(qi, .inl (cI, 6, .inl gi)), (qs, .inl (cI, 6, .inl gs)), (qe, .inl (cI, 6, .inl ge))]) F (c_X4_isPlace l D cI mo qi qs qe qn qk (nI 0) (nI (stS q)) (stM q) (nI ((stT q).length)) w ((stB q).length) j n1 h12 hj) gX4_kindAt_X4_isPlace rfl (nA := 1) (by decide +kernel) rfl ⟨Nat.le_of_ble_eq_true rfl, Nat.le_of_ble_eq_true rfl⟩ hK hP hD hS hA hG (ci := 4) (q0 := 0) rfl rfl rfl [0, 4] [1, 2, 3] rfl (by decide) rfl (by decide) (by decide) [0] rfl rfl hl.1 (Nat.le_of_ble_eq_true rfl) dX4_kindAt_7 ⟨Nat.le_of_ble_eq_true rfl, Nat.le_of_ble_eq_true rfl⟩ (fun r_1 u H locs hr_7 hP hD hS => ?_)
  try dsimp only at hr_7
  have hP : va_P D vwCl [(qi, .inl (cI, 6, .inl gi)), (qs, .inl (cI, 6, .inl gs)), (qe, .inl (cI, 6, .inl ge)), (mo, .inr (4, [.int (nI 0), .int (nI (stS q)), .int (stM q), .int (nI ((stT q).length)), .ref qi, .ref qs, .ref qe, .ref qn, .ref qk])), (qn, .inl (cI, 42, .inl w))] H := hP
  have hD : va_D A [(qi, .inl (cI, 6, .inl gi)), (qs, .inl (cI, 6, .inl gs)), (qe, .inl (cI, 6, .inl ge)), (mo, .inr (4, [.int (nI 0), .int (nI (stS q)), .int (stM q), .int (nI ((stT q).length)), .ref qi, .ref qs, .ref qe, .ref qn, .ref qk])), (qn, .inl (cI, 42, .inl w))] := hD
  refine W.eq (g2 := F0 m 10 ls [.int r_1]) rfl ?_
  refine W.widen (k := 0) (n := 0) (Nat.le_of_ble_eq_true rfl) (Nat.le_of_ble_eq_true rfl) ?_
  refine k_top (v := nI 1) (hr_7) ?_
  refine k_if_eq (tgt := 25) hx hb 1 rfl (by omega) dX4_kindAt_10 (by decide) (fun c_10 => ?_) (fun c_10 => ?_)
  · exact absurd c_10 (by omega)
  · skip
    refine lv_aload_n hx hb dX4_kindAt_13 rfl (lv_at hl 0 rfl) ?_
    refine va_get (D := D) (ci := 4) (v := .ref qn) (C := RX4) (T := TX4) (N := 9) hx hb hts iX4 hown hK hP 3 rfl rfl 7 (by decide) f26 (fun _ h9 => h9) rfl dX4_kindAt_14 ?_
    refine lv_bipush (v := nI 18) hx hb dX4_kindAt_17 (by decide +kernel) ?_
    refine lv_iload_n hx hb dX4_kindAt_19 rfl (lv_at hl 1 rfl) ?_
    refine k_iadd hx hb (nI (18 + j)) (nI_add _ _) dX4_kindAt_20 ?_
    refine k_iald hx hb hK hP 4 0 rfl rfl (18 + j) (rfl) (by omega) (by decide) dX4_kindAt_21 ?_
    refine k_top (v := ((stB q).getD j tp0).1) ((nB.2 j hj).1) ?_
    refine lv_goto (tgt := 30) hx hb dX4_kindAt_22 (by decide) ?_
    exact ret (((stB q).getD j tp0).1) () _ _ _ _ _ _ (rfl) (hP.sub [3, 0, 1, 2, 4] (rfl)) (hD.sub [3, 0, 1, 2, 4] (by decide) (rfl)) hS (Nat.le_of_ble_eq_true rfl) (Nat.le_of_ble_eq_true rfl) dX4_kindAt_30

abbrev rm_X4_patienceOf : Room := { frames := 2, cells := 0, slots := 0, locals := 43 }
set_option maxHeartbeats 4000000 in
set_option maxRecDepth 100000 in
theorem c_X4_patienceOf (l : Launch) (D : va_G) (cI : ClassId) (mo : Nat) (qi : Nat) (qs : Nat) (qe : Nat) (qn : Nat) (qk : Nat) (tw : Int32) (gi : Nat → Int32) (gs : Nat → Int32) (ge : Nat → Int32) (w : Nat → Int32) (q : St) (j : Nat) (hN : rN gi gs ge w q) (hj : j < (stT q).length) : kM kri l yX4_patienceOf wsX4_patienceOf rm_X4_patienceOf D [(cI, .int)] [.ref mo, .int (nI j)] [(mo, .inr (4, [.int tw, .int (nI (stS q)), .int (stM q), .int (nI ((stT q).length)), .ref qi, .ref qs, .ref qe, .ref qn, .ref qk])), (qi, .inl (cI, 6, .inl gi)), (qs, .inl (cI, 6, .inl gs)), (qe, .inl (cI, 6, .inl ge)), (qn, .inl (cI, 42, .inl w))] (fun (r : Int32) (u : Unit) => r = nI (tkP ((stT q).getD j tk0))) (fun (u : Unit) => [(mo, .inr (4, [.int (nI 0), .int (nI (stS q)), .int (stM q), .int (nI ((stT q).length)), .ref qi, .ref qs, .ref qe, .ref qn, .ref qk])), (qi, .inl (cI, 6, .inl gi)), (qs, .inl (cI, 6, .inl gs)), (qe, .inl (cI, 6, .inl ge)), (qn, .inl (cI, 42, .inl w))]) := by
  refine k_bodyI (cc := cX4_patienceOf) (maxL := 2) (by decide) rfl (Nat.le_of_ble_eq_true rfl) ?_
  intro p e ss m args below meth c A Q F hname hA hG hK hP hD hS ret ls hl
  obtain ⟨hx, hb, hml, hown, hts⟩ := id F
  have hP : va_P D vwCl [(mo, .inr (4, [.int tw, .int (nI (stS q)), .int (stM q), .int (nI ((stT q).length)), .ref qi, .ref qs, .ref qe, .ref qn, .ref qk])), (qi, .inl (cI, 6, .inl gi)), (qs, .inl (cI, 6, .inl gs)), (qe, .inl (cI, 6, .inl ge)), (qn, .inl (cI, 42, .inl w))] ss.heap := hP
  have hD : va_D A [(mo, .inr (4, [.int tw, .int (nI (stS q)), .int (stM q), .int (nI ((stT q).length)), .ref qi, .ref qs, .ref qe, .ref qn, .ref qk])), (qi, .inl (cI, 6, .inl gi)), (qs, .inl (cI, 6, .inl gs)), (qe, .inl (cI, 6, .inl ge)), (qn, .inl (cI, 42, .inl w))] := hD
  have hl : lv_has ls 2 [(0, .ref mo), (1, .int (nI j))] := hl
  have iX4 : ∀ w ∈ u_ws RX4 TX4 9, w ∈ wsX4_patienceOf := by decide +kernel
  have f26 := hts (.fieldLink RX4 26 "SmallerTalkModel" "now" "[I") (by decide +kernel)
  have f32 := hts (.fieldLink RX4 32 "SmallerTalkModel" "thrown" "I") (by decide +kernel)
  obtain ⟨n0, n1, n2, n3, n4, n5, nB, nT⟩ := id hN
  have h12 := nB.1
  have h6 := nT.1
  refine lv_aload_n hx hb dX4_patienceOf_0 rfl (lv_at hl 0 rfl) ?_
  refine lv_iconst (v := nI 0) hx hb dX4_patienceOf_1 (by decide +kernel) ?_
  refine va_put (D := D) (ci := 4) (v := .int (nI 0)) (ty := .int) (C := RX4) (T := TX4) (N := 9) hx hb hts iX4 tyX4 tyX4_ok nmX4 hown hK hP hD hS 0 rfl rfl 0 (by decide) f32 (fun _ h9 => h9) rfl (by decide +kernel) rfl rfl (Nat.le_of_ble_eq_true rfl) dX4_patienceOf_2 (fun H locs hP hD hS => ?_)
  have hP : va_P D vwCl [(mo, .inr (4, [.int (nI 0), .int (nI (stS q)), .int (stM q), .int (nI ((stT q).length)), .ref qi, .ref qs, .ref qe, .ref qn, .ref qk])), (qi, .inl (cI, 6, .inl gi)), (qs, .inl (cI, 6, .inl gs)), (qe, .inl (cI, 6, .inl ge)), (qn, .inl (cI, 42, .inl w))] H := hP
  have hD : va_D A [(mo, .inr (4, [.int (nI 0), .int (nI (stS q)), .int (stM q), .int (nI ((stT q).length)), .ref qi, .ref qs, .ref qe, .ref qn, .ref qk])), (qi, .inl (cI, 6, .inl gi)), (qs, .inl (cI, 6, .inl gs)), (qe, .inl (cI, 6, .inl ge)), (qn, .inl (cI, 42, .inl w))] := hD
  refine lv_aload_n hx hb dX4_patienceOf_5 rfl (lv_at hl 0 rfl) ?_
  refine lv_iload_n hx hb dX4_patienceOf_6 rfl (lv_at hl 1 rfl) ?_
  refine k_callV (As := [.int (nI j)]) (rest := []) (wr := [(qi, .inl (cI, 6, .inl gi)), (qs, .inl (cI, 6, .inl gs)), (qe, .inl (cI, 6, .inl ge)), (qn, .inl (cI, 42, .inl w))]) F (c_X4_isTalker l D cI mo qi qs qe qn qk (nI 0) (nI (stS q)) (stM q) ((stT q).length) j h6 hj) gX4_patienceOf_X4_isTalker rfl (nA := 1) (by decide +kernel) rfl ⟨Nat.le_of_ble_eq_true rfl, Nat.le_of_ble_eq_true rfl⟩ hK hP hD hS hA hG (ci := 4) (q0 := 0) rfl rfl rfl [0] [1, 2, 3, 4] rfl (by decide) rfl (by decide) (by decide) [0] rfl rfl hl.1 (Nat.le_of_ble_eq_true rfl) dX4_patienceOf_7 ⟨Nat.le_of_ble_eq_true rfl, Nat.le_of_ble_eq_true rfl⟩ (fun r_1 u H locs hr_7 hP hD hS => ?_)
  try dsimp only at hr_7
  have hP : va_P D vwCl [(qi, .inl (cI, 6, .inl gi)), (qs, .inl (cI, 6, .inl gs)), (qe, .inl (cI, 6, .inl ge)), (qn, .inl (cI, 42, .inl w)), (mo, .inr (4, [.int (nI 0), .int (nI (stS q)), .int (stM q), .int (nI ((stT q).length)), .ref qi, .ref qs, .ref qe, .ref qn, .ref qk]))] H := hP
  have hD : va_D A [(qi, .inl (cI, 6, .inl gi)), (qs, .inl (cI, 6, .inl gs)), (qe, .inl (cI, 6, .inl ge)), (qn, .inl (cI, 42, .inl w)), (mo, .inr (4, [.int (nI 0), .int (nI (stS q)), .int (stM q), .int (nI ((stT q).length)), .ref qi, .ref qs, .ref qe, .ref qn, .ref qk]))] := hD
  refine W.eq (g2 := F0 m 10 ls [.int r_1]) rfl ?_
  refine W.widen (k := 0) (n := 0) (Nat.le_of_ble_eq_true rfl) (Nat.le_of_ble_eq_true rfl) ?_
  refine k_top (v := nI 1) (hr_7) ?_
  refine k_if_eq (tgt := 25) hx hb 1 rfl (by omega) dX4_patienceOf_10 (by decide) (fun c_10 => ?_) (fun c_10 => ?_)
  · exact absurd c_10 (by omega)
  · skip
    refine lv_aload_n hx hb dX4_patienceOf_13 rfl (lv_at hl 0 rfl) ?_
    refine va_get (D := D) (ci := 4) (v := .ref qn) (C := RX4) (T := TX4) (N := 9) hx hb hts iX4 hown hK hP 4 rfl rfl 7 (by decide) f26 (fun _ h9 => h9) rfl dX4_patienceOf_14 ?_
    refine lv_bipush (v := nI 30) hx hb dX4_patienceOf_17 (by decide +kernel) ?_
    refine lv_iload_n hx hb dX4_patienceOf_19 rfl (lv_at hl 1 rfl) ?_
    refine k_iadd hx hb (nI (30 + j)) (nI_add _ _) dX4_patienceOf_20 ?_
    refine k_iald hx hb hK hP 3 0 rfl rfl (30 + j) (rfl) (by omega) (by decide) dX4_patienceOf_21 ?_
    refine k_top (v := nI (tkP ((stT q).getD j tk0))) ((nT.2 j hj).2.2.2.1) ?_
    refine lv_goto (tgt := 30) hx hb dX4_patienceOf_22 (by decide) ?_
    exact ret (nI (tkP ((stT q).getD j tk0))) () _ _ _ _ _ _ (rfl) (hP.sub [4, 0, 1, 2, 3] (rfl)) (hD.sub [4, 0, 1, 2, 3] (by decide) (rfl)) hS (Nat.le_of_ble_eq_true rfl) (Nat.le_of_ble_eq_true rfl) dX4_patienceOf_30

abbrev rm_X4_exitOf : Room := { frames := 2, cells := 0, slots := 0, locals := 43 }
set_option maxHeartbeats 4000000 in
set_option maxRecDepth 100000 in
theorem c_X4_exitOf (l : Launch) (D : va_G) (cI : ClassId) (mo : Nat) (qi : Nat) (qs : Nat) (qe : Nat) (qn : Nat) (qk : Nat) (tw : Int32) (gi : Nat → Int32) (gs : Nat → Int32) (ge : Nat → Int32) (w : Nat → Int32) (q : St) (j : Nat) (hN : rN gi gs ge w q) (hj : j < (stT q).length) : kM kri l yX4_exitOf wsX4_exitOf rm_X4_exitOf D [(cI, .int)] [.ref mo, .int (nI j)] [(mo, .inr (4, [.int tw, .int (nI (stS q)), .int (stM q), .int (nI ((stT q).length)), .ref qi, .ref qs, .ref qe, .ref qn, .ref qk])), (qi, .inl (cI, 6, .inl gi)), (qs, .inl (cI, 6, .inl gs)), (qe, .inl (cI, 6, .inl ge)), (qn, .inl (cI, 42, .inl w))] (fun (r : Int32) (u : Unit) => r = tkX ((stT q).getD j tk0)) (fun (u : Unit) => [(mo, .inr (4, [.int (nI 0), .int (nI (stS q)), .int (stM q), .int (nI ((stT q).length)), .ref qi, .ref qs, .ref qe, .ref qn, .ref qk])), (qi, .inl (cI, 6, .inl gi)), (qs, .inl (cI, 6, .inl gs)), (qe, .inl (cI, 6, .inl ge)), (qn, .inl (cI, 42, .inl w))]) := by
  refine k_bodyI (cc := cX4_exitOf) (maxL := 2) (by decide) rfl (Nat.le_of_ble_eq_true rfl) ?_
  intro p e ss m args below meth c A Q F hname hA hG hK hP hD hS ret ls hl
  obtain ⟨hx, hb, hml, hown, hts⟩ := id F
  have hP : va_P D vwCl [(mo, .inr (4, [.int tw, .int (nI (stS q)), .int (stM q), .int (nI ((stT q).length)), .ref qi, .ref qs, .ref qe, .ref qn, .ref qk])), (qi, .inl (cI, 6, .inl gi)), (qs, .inl (cI, 6, .inl gs)), (qe, .inl (cI, 6, .inl ge)), (qn, .inl (cI, 42, .inl w))] ss.heap := hP
  have hD : va_D A [(mo, .inr (4, [.int tw, .int (nI (stS q)), .int (stM q), .int (nI ((stT q).length)), .ref qi, .ref qs, .ref qe, .ref qn, .ref qk])), (qi, .inl (cI, 6, .inl gi)), (qs, .inl (cI, 6, .inl gs)), (qe, .inl (cI, 6, .inl ge)), (qn, .inl (cI, 42, .inl w))] := hD
  have hl : lv_has ls 2 [(0, .ref mo), (1, .int (nI j))] := hl
  have iX4 : ∀ w ∈ u_ws RX4 TX4 9, w ∈ wsX4_exitOf := by decide +kernel
  have f26 := hts (.fieldLink RX4 26 "SmallerTalkModel" "now" "[I") (by decide +kernel)
  have f32 := hts (.fieldLink RX4 32 "SmallerTalkModel" "thrown" "I") (by decide +kernel)
  obtain ⟨n0, n1, n2, n3, n4, n5, nB, nT⟩ := id hN
  have h12 := nB.1
  have h6 := nT.1
  refine lv_aload_n hx hb dX4_exitOf_0 rfl (lv_at hl 0 rfl) ?_
  refine lv_iconst (v := nI 0) hx hb dX4_exitOf_1 (by decide +kernel) ?_
  refine va_put (D := D) (ci := 4) (v := .int (nI 0)) (ty := .int) (C := RX4) (T := TX4) (N := 9) hx hb hts iX4 tyX4 tyX4_ok nmX4 hown hK hP hD hS 0 rfl rfl 0 (by decide) f32 (fun _ h9 => h9) rfl (by decide +kernel) rfl rfl (Nat.le_of_ble_eq_true rfl) dX4_exitOf_2 (fun H locs hP hD hS => ?_)
  have hP : va_P D vwCl [(mo, .inr (4, [.int (nI 0), .int (nI (stS q)), .int (stM q), .int (nI ((stT q).length)), .ref qi, .ref qs, .ref qe, .ref qn, .ref qk])), (qi, .inl (cI, 6, .inl gi)), (qs, .inl (cI, 6, .inl gs)), (qe, .inl (cI, 6, .inl ge)), (qn, .inl (cI, 42, .inl w))] H := hP
  have hD : va_D A [(mo, .inr (4, [.int (nI 0), .int (nI (stS q)), .int (stM q), .int (nI ((stT q).length)), .ref qi, .ref qs, .ref qe, .ref qn, .ref qk])), (qi, .inl (cI, 6, .inl gi)), (qs, .inl (cI, 6, .inl gs)), (qe, .inl (cI, 6, .inl ge)), (qn, .inl (cI, 42, .inl w))] := hD
  refine lv_aload_n hx hb dX4_exitOf_5 rfl (lv_at hl 0 rfl) ?_
  refine lv_iload_n hx hb dX4_exitOf_6 rfl (lv_at hl 1 rfl) ?_
  refine k_callV (As := [.int (nI j)]) (rest := []) (wr := [(qi, .inl (cI, 6, .inl gi)), (qs, .inl (cI, 6, .inl gs)), (qe, .inl (cI, 6, .inl ge)), (qn, .inl (cI, 42, .inl w))]) F (c_X4_isTalker l D cI mo qi qs qe qn qk (nI 0) (nI (stS q)) (stM q) ((stT q).length) j h6 hj) gX4_exitOf_X4_isTalker rfl (nA := 1) (by decide +kernel) rfl ⟨Nat.le_of_ble_eq_true rfl, Nat.le_of_ble_eq_true rfl⟩ hK hP hD hS hA hG (ci := 4) (q0 := 0) rfl rfl rfl [0] [1, 2, 3, 4] rfl (by decide) rfl (by decide) (by decide) [0] rfl rfl hl.1 (Nat.le_of_ble_eq_true rfl) dX4_exitOf_7 ⟨Nat.le_of_ble_eq_true rfl, Nat.le_of_ble_eq_true rfl⟩ (fun r_1 u H locs hr_7 hP hD hS => ?_)
  try dsimp only at hr_7
  have hP : va_P D vwCl [(qi, .inl (cI, 6, .inl gi)), (qs, .inl (cI, 6, .inl gs)), (qe, .inl (cI, 6, .inl ge)), (qn, .inl (cI, 42, .inl w)), (mo, .inr (4, [.int (nI 0), .int (nI (stS q)), .int (stM q), .int (nI ((stT q).length)), .ref qi, .ref qs, .ref qe, .ref qn, .ref qk]))] H := hP
  have hD : va_D A [(qi, .inl (cI, 6, .inl gi)), (qs, .inl (cI, 6, .inl gs)), (qe, .inl (cI, 6, .inl ge)), (qn, .inl (cI, 42, .inl w)), (mo, .inr (4, [.int (nI 0), .int (nI (stS q)), .int (stM q), .int (nI ((stT q).length)), .ref qi, .ref qs, .ref qe, .ref qn, .ref qk]))] := hD
  refine W.eq (g2 := F0 m 10 ls [.int r_1]) rfl ?_
  refine W.widen (k := 0) (n := 0) (Nat.le_of_ble_eq_true rfl) (Nat.le_of_ble_eq_true rfl) ?_
  refine k_top (v := nI 1) (hr_7) ?_
  refine k_if_eq (tgt := 25) hx hb 1 rfl (by omega) dX4_exitOf_10 (by decide) (fun c_10 => ?_) (fun c_10 => ?_)
  · exact absurd c_10 (by omega)
  · skip
    refine lv_aload_n hx hb dX4_exitOf_13 rfl (lv_at hl 0 rfl) ?_
    refine va_get (D := D) (ci := 4) (v := .ref qn) (C := RX4) (T := TX4) (N := 9) hx hb hts iX4 hown hK hP 4 rfl rfl 7 (by decide) f26 (fun _ h9 => h9) rfl dX4_exitOf_14 ?_
    refine lv_bipush (v := nI 36) hx hb dX4_exitOf_17 (by decide +kernel) ?_
    refine lv_iload_n hx hb dX4_exitOf_19 rfl (lv_at hl 1 rfl) ?_
    refine k_iadd hx hb (nI (36 + j)) (nI_add _ _) dX4_exitOf_20 ?_
    refine k_iald hx hb hK hP 3 0 rfl rfl (36 + j) (rfl) (by omega) (by decide) dX4_exitOf_21 ?_
    refine k_top (v := tkX ((stT q).getD j tk0)) ((nT.2 j hj).2.2.2.2) ?_
    refine lv_goto (tgt := 30) hx hb dX4_exitOf_22 (by decide) ?_
    exact ret (tkX ((stT q).getD j tk0)) () _ _ _ _ _ _ (rfl) (hP.sub [4, 0, 1, 2, 3] (rfl)) (hD.sub [4, 0, 1, 2, 3] (by decide) (rfl)) hS (Nat.le_of_ble_eq_true rfl) (Nat.le_of_ble_eq_true rfl) dX4_exitOf_30

abbrev rm_X4_isPresent : Room := { frames := 2, cells := 0, slots := 0, locals := 43 }
set_option maxHeartbeats 4000000 in
set_option maxRecDepth 100000 in
theorem c_X4_isPresent (l : Launch) (D : va_G) (cI : ClassId) (mo : Nat) (qi : Nat) (qs : Nat) (qe : Nat) (qn : Nat) (qk : Nat) (tw : Int32) (gi : Nat → Int32) (gs : Nat → Int32) (ge : Nat → Int32) (w : Nat → Int32) (q : St) (j : Nat) (hN : rN gi gs ge w q) (hj : j < (stT q).length) : kM kri l yX4_isPresent wsX4_isPresent rm_X4_isPresent D [(cI, .int)] [.ref mo, .int (nI j)] [(mo, .inr (4, [.int tw, .int (nI (stS q)), .int (stM q), .int (nI ((stT q).length)), .ref qi, .ref qs, .ref qe, .ref qn, .ref qk])), (qi, .inl (cI, 6, .inl gi)), (qs, .inl (cI, 6, .inl gs)), (qe, .inl (cI, 6, .inl ge)), (qn, .inl (cI, 42, .inl w))] (fun (r : Int32) (u : Unit) => r = (if tkX ((stT q).getD j tk0) = -1 then 1 else 0)) (fun (u : Unit) => [(mo, .inr (4, [.int (nI 0), .int (nI (stS q)), .int (stM q), .int (nI ((stT q).length)), .ref qi, .ref qs, .ref qe, .ref qn, .ref qk])), (qi, .inl (cI, 6, .inl gi)), (qs, .inl (cI, 6, .inl gs)), (qe, .inl (cI, 6, .inl ge)), (qn, .inl (cI, 42, .inl w))]) := by
  refine k_bodyZ (cc := cX4_isPresent) (maxL := 2) (by decide) rfl (Nat.le_of_ble_eq_true rfl) ?_
  intro p e ss m args below meth c A Q F hname hA hG hK hP hD hS ret ls hl
  obtain ⟨hx, hb, hml, hown, hts⟩ := id F
  have hP : va_P D vwCl [(mo, .inr (4, [.int tw, .int (nI (stS q)), .int (stM q), .int (nI ((stT q).length)), .ref qi, .ref qs, .ref qe, .ref qn, .ref qk])), (qi, .inl (cI, 6, .inl gi)), (qs, .inl (cI, 6, .inl gs)), (qe, .inl (cI, 6, .inl ge)), (qn, .inl (cI, 42, .inl w))] ss.heap := hP
  have hD : va_D A [(mo, .inr (4, [.int tw, .int (nI (stS q)), .int (stM q), .int (nI ((stT q).length)), .ref qi, .ref qs, .ref qe, .ref qn, .ref qk])), (qi, .inl (cI, 6, .inl gi)), (qs, .inl (cI, 6, .inl gs)), (qe, .inl (cI, 6, .inl ge)), (qn, .inl (cI, 42, .inl w))] := hD
  have hl : lv_has ls 2 [(0, .ref mo), (1, .int (nI j))] := hl
  have iX4 : ∀ w ∈ u_ws RX4 TX4 9, w ∈ wsX4_isPresent := by decide +kernel
  have f32 := hts (.fieldLink RX4 32 "SmallerTalkModel" "thrown" "I") (by decide +kernel)
  obtain ⟨n0, n1, n2, n3, n4, n5, nB, nT⟩ := id hN
  have h12 := nB.1
  have h6 := nT.1
  refine lv_aload_n hx hb dX4_isPresent_0 rfl (lv_at hl 0 rfl) ?_
  refine lv_aload_n hx hb dX4_isPresent_1 rfl (lv_at hl 0 rfl) ?_
  refine lv_iload_n hx hb dX4_isPresent_2 rfl (lv_at hl 1 rfl) ?_
  refine k_callV (As := [.int (nI j)]) (rest := [.ref mo]) (wr := [(qi, .inl (cI, 6, .inl gi)), (qs, .inl (cI, 6, .inl gs)), (qe, .inl (cI, 6, .inl ge)), (qn, .inl (cI, 42, .inl w))]) F (c_X4_isTalker l D cI mo qi qs qe qn qk tw (nI (stS q)) (stM q) ((stT q).length) j h6 hj) gX4_isPresent_X4_isTalker rfl (nA := 1) (by decide +kernel) rfl ⟨Nat.le_of_ble_eq_true rfl, Nat.le_of_ble_eq_true rfl⟩ hK hP hD hS hA hG (ci := 4) (q0 := 0) rfl rfl rfl [0] [1, 2, 3, 4] rfl (by decide) rfl (by decide) (by decide) [0] rfl rfl hl.1 (Nat.le_of_ble_eq_true rfl) dX4_isPresent_3 ⟨Nat.le_of_ble_eq_true rfl, Nat.le_of_ble_eq_true rfl⟩ (fun r_1 u H locs hr_3 hP hD hS => ?_)
  try dsimp only at hr_3
  have hP : va_P D vwCl [(qi, .inl (cI, 6, .inl gi)), (qs, .inl (cI, 6, .inl gs)), (qe, .inl (cI, 6, .inl ge)), (qn, .inl (cI, 42, .inl w)), (mo, .inr (4, [.int tw, .int (nI (stS q)), .int (stM q), .int (nI ((stT q).length)), .ref qi, .ref qs, .ref qe, .ref qn, .ref qk]))] H := hP
  have hD : va_D A [(qi, .inl (cI, 6, .inl gi)), (qs, .inl (cI, 6, .inl gs)), (qe, .inl (cI, 6, .inl ge)), (qn, .inl (cI, 42, .inl w)), (mo, .inr (4, [.int tw, .int (nI (stS q)), .int (stM q), .int (nI ((stT q).length)), .ref qi, .ref qs, .ref qe, .ref qn, .ref qk]))] := hD
  refine W.eq (g2 := F0 m 6 ls [.int r_1, .ref mo]) rfl ?_
  refine W.widen (k := 0) (n := 0) (Nat.le_of_ble_eq_true rfl) (Nat.le_of_ble_eq_true rfl) ?_
  refine k_top (v := nI 1) (hr_3) ?_
  refine k_if_eq (tgt := 13) hx hb 1 rfl (by omega) dX4_isPresent_6 (by decide) (fun c_6 => ?_) (fun c_6 => ?_)
  · exact absurd c_6 (by omega)
  · skip
    refine lv_iconst (v := nI 0) hx hb dX4_isPresent_9 (by decide +kernel) ?_
    refine lv_goto (tgt := 14) hx hb dX4_isPresent_10 (by decide) ?_
    refine va_put (D := D) (ci := 4) (v := .int (nI 0)) (ty := .int) (C := RX4) (T := TX4) (N := 9) hx hb hts iX4 tyX4 tyX4_ok nmX4 hown hK hP hD hS 4 rfl rfl 0 (by decide) f32 (fun _ h9 => h9) rfl (by decide +kernel) rfl rfl (Nat.le_of_ble_eq_true rfl) dX4_isPresent_14 (fun H locs hP hD hS => ?_)
    have hP : va_P D vwCl [(qi, .inl (cI, 6, .inl gi)), (qs, .inl (cI, 6, .inl gs)), (qe, .inl (cI, 6, .inl ge)), (qn, .inl (cI, 42, .inl w)), (mo, .inr (4, [.int (nI 0), .int (nI (stS q)), .int (stM q), .int (nI ((stT q).length)), .ref qi, .ref qs, .ref qe, .ref qn, .ref qk]))] H := hP
    have hD : va_D A [(qi, .inl (cI, 6, .inl gi)), (qs, .inl (cI, 6, .inl gs)), (qe, .inl (cI, 6, .inl ge)), (qn, .inl (cI, 42, .inl w)), (mo, .inr (4, [.int (nI 0), .int (nI (stS q)), .int (stM q), .int (nI ((stT q).length)), .ref qi, .ref qs, .ref qe, .ref qn, .ref qk]))] := hD
    refine lv_aload_n hx hb dX4_isPresent_17 rfl (lv_at hl 0 rfl) ?_
    refine va_get (D := D) (ci := 4) (v := .int (nI 0)) (C := RX4) (T := TX4) (N := 9) hx hb hts iX4 hown hK hP 4 rfl rfl 0 (by decide) f32 (fun _ h9 => h9) rfl dX4_isPresent_18 ?_
    refine k_if_ne (tgt := 36) hx hb 0 rfl (by omega) dX4_isPresent_21 (by decide) (fun c_21 => ?_) (fun c_21 => ?_)
    · exact absurd c_21 (by omega)
    · skip
      refine lv_aload_n hx hb dX4_isPresent_24 rfl (lv_at hl 0 rfl) ?_
      refine lv_iload_n hx hb dX4_isPresent_25 rfl (lv_at hl 1 rfl) ?_
      refine k_callV (As := [.int (nI j)]) (rest := []) (wr := [(qi, .inl (cI, 6, .inl gi)), (qs, .inl (cI, 6, .inl gs)), (qe, .inl (cI, 6, .inl ge))]) F (c_X4_isThere l D cI mo qi qs qe qn qk (nI 0) (nI (stS q)) (stM q) (nI ((stT q).length)) w j (tkX ((stT q).getD j tk0)) ((nT.2 j hj).2.2.2.2) (by omega)) gX4_isPresent_X4_isThere rfl (nA := 1) (by decide +kernel) rfl ⟨Nat.le_of_ble_eq_true rfl, Nat.le_of_ble_eq_true rfl⟩ hK hP hD hS hA hG (ci := 4) (q0 := 4) rfl rfl rfl [4, 3] [0, 1, 2] rfl (by decide) rfl (by decide) (by decide) [0] rfl rfl hl.1 (Nat.le_of_ble_eq_true rfl) dX4_isPresent_26 ⟨Nat.le_of_ble_eq_true rfl, Nat.le_of_ble_eq_true rfl⟩ (fun r_2 u H locs hr_26 hP hD hS => ?_)
      try dsimp only at hr_26
      have hP : va_P D vwCl [(qi, .inl (cI, 6, .inl gi)), (qs, .inl (cI, 6, .inl gs)), (qe, .inl (cI, 6, .inl ge)), (mo, .inr (4, [.int (nI 0), .int (nI (stS q)), .int (stM q), .int (nI ((stT q).length)), .ref qi, .ref qs, .ref qe, .ref qn, .ref qk])), (qn, .inl (cI, 42, .inl w))] H := hP
      have hD : va_D A [(qi, .inl (cI, 6, .inl gi)), (qs, .inl (cI, 6, .inl gs)), (qe, .inl (cI, 6, .inl ge)), (mo, .inr (4, [.int (nI 0), .int (nI (stS q)), .int (stM q), .int (nI ((stT q).length)), .ref qi, .ref qs, .ref qe, .ref qn, .ref qk])), (qn, .inl (cI, 42, .inl w))] := hD
      refine W.eq (g2 := F0 m 29 ls [.int r_2]) rfl ?_
      refine W.widen (k := 0) (n := 0) (Nat.le_of_ble_eq_true rfl) (Nat.le_of_ble_eq_true rfl) ?_
      refine lv_if_eq (tgt := 36) hx hb dX4_isPresent_29 (by decide) (fun c_29 => ?_) (fun c_29 => ?_)
      · skip
        refine lv_iconst (v := nI 0) hx hb dX4_isPresent_36 (by decide +kernel) ?_
        exact ret (nI 0) () _ _ _ _ _ _ rfl (by rw [if_neg (bI_eq0 hr_26 c_29)]; rfl) (hP.sub [3, 0, 1, 2, 4] (rfl)) (hD.sub [3, 0, 1, 2, 4] (by decide) (rfl)) hS (Nat.le_of_ble_eq_true rfl) (Nat.le_of_ble_eq_true rfl) dX4_isPresent_37
      · skip
        refine lv_iconst (v := nI 1) hx hb dX4_isPresent_32 (by decide +kernel) ?_
        refine lv_goto (tgt := 37) hx hb dX4_isPresent_33 (by decide) ?_
        exact ret (nI 1) () _ _ _ _ _ _ rfl (by rw [if_pos (bI_ne0 hr_26 c_29)]; rfl) (hP.sub [3, 0, 1, 2, 4] (rfl)) (hD.sub [3, 0, 1, 2, 4] (by decide) (rfl)) hS (Nat.le_of_ble_eq_true rfl) (Nat.le_of_ble_eq_true rfl) dX4_isPresent_37

abbrev rm_X4_topicsOf : Room := { frames := 1, cells := 0, slots := 0, locals := 22 }
set_option maxHeartbeats 4000000 in
set_option maxRecDepth 100000 in
theorem c_X4_topicsOf (l : Launch) (D : va_G) (cI : ClassId) (mo : Nat) (qi : Nat) (qs : Nat) (qe : Nat) (qn : Nat) (qk : Nat) (tw : Int32) (gi : Nat → Int32) (gs : Nat → Int32) (ge : Nat → Int32) (w : Nat → Int32) (q : St) (kn : Nat) (hN : rN gi gs ge w q) (hk : kn < 5) : kM kri l yX4_topicsOf wsX4_topicsOf rm_X4_topicsOf D [(cI, .int)] [.ref mo, .int (nI kn)] [(mo, .inr (4, [.int tw, .int (nI (stS q)), .int (stM q), .int (nI ((stT q).length)), .ref qi, .ref qs, .ref qe, .ref qn, .ref qk])), (qi, .inl (cI, 6, .inl gi)), (qs, .inl (cI, 6, .inl gs)), (qe, .inl (cI, 6, .inl ge)), (qn, .inl (cI, 42, .inl w))] (fun (r : Int32) (u : Unit) => r = nI (ctB (nI kn) (stB q))) (fun (u : Unit) => [(mo, .inr (4, [.int (nI 0), .int (nI (stS q)), .int (stM q), .int (nI ((stT q).length)), .ref qi, .ref qs, .ref qe, .ref qn, .ref qk])), (qi, .inl (cI, 6, .inl gi)), (qs, .inl (cI, 6, .inl gs)), (qe, .inl (cI, 6, .inl ge)), (qn, .inl (cI, 42, .inl w))]) := by
  refine k_bodyI (cc := cX4_topicsOf) (maxL := 4) (by decide) rfl (Nat.le_of_ble_eq_true rfl) ?_
  intro p e ss m args below meth c A Q F hname hA hG hK hP hD hS ret ls hl
  obtain ⟨hx, hb, hml, hown, hts⟩ := id F
  have hP : va_P D vwCl [(mo, .inr (4, [.int tw, .int (nI (stS q)), .int (stM q), .int (nI ((stT q).length)), .ref qi, .ref qs, .ref qe, .ref qn, .ref qk])), (qi, .inl (cI, 6, .inl gi)), (qs, .inl (cI, 6, .inl gs)), (qe, .inl (cI, 6, .inl ge)), (qn, .inl (cI, 42, .inl w))] ss.heap := hP
  have hD : va_D A [(mo, .inr (4, [.int tw, .int (nI (stS q)), .int (stM q), .int (nI ((stT q).length)), .ref qi, .ref qs, .ref qe, .ref qn, .ref qk])), (qi, .inl (cI, 6, .inl gi)), (qs, .inl (cI, 6, .inl gs)), (qe, .inl (cI, 6, .inl ge)), (qn, .inl (cI, 42, .inl w))] := hD
  have hl : lv_has ls 4 [(0, .ref mo), (1, .int (nI kn))] := hl
  have iX4 : ∀ w ∈ u_ws RX4 TX4 9, w ∈ wsX4_topicsOf := by decide +kernel
  have f26 := hts (.fieldLink RX4 26 "SmallerTalkModel" "now" "[I") (by decide +kernel)
  have f32 := hts (.fieldLink RX4 32 "SmallerTalkModel" "thrown" "I") (by decide +kernel)
  obtain ⟨n0, n1, n2, n3, n4, n5, nB, nT⟩ := id hN
  have h12 := nB.1
  have h6 := nT.1
  refine lv_aload_n hx hb dX4_topicsOf_0 rfl (lv_at hl 0 rfl) ?_
  refine lv_iconst (v := nI 0) hx hb dX4_topicsOf_1 (by decide +kernel) ?_
  refine va_put (D := D) (ci := 4) (v := .int (nI 0)) (ty := .int) (C := RX4) (T := TX4) (N := 9) hx hb hts iX4 tyX4 tyX4_ok nmX4 hown hK hP hD hS 0 rfl rfl 0 (by decide) f32 (fun _ h9 => h9) rfl (by decide +kernel) rfl rfl (Nat.le_of_ble_eq_true rfl) dX4_topicsOf_2 (fun H locs hP hD hS => ?_)
  have hP : va_P D vwCl [(mo, .inr (4, [.int (nI 0), .int (nI (stS q)), .int (stM q), .int (nI ((stT q).length)), .ref qi, .ref qs, .ref qe, .ref qn, .ref qk])), (qi, .inl (cI, 6, .inl gi)), (qs, .inl (cI, 6, .inl gs)), (qe, .inl (cI, 6, .inl ge)), (qn, .inl (cI, 42, .inl w))] H := hP
  have hD : va_D A [(mo, .inr (4, [.int (nI 0), .int (nI (stS q)), .int (stM q), .int (nI ((stT q).length)), .ref qi, .ref qs, .ref qe, .ref qn, .ref qk])), (qi, .inl (cI, 6, .inl gi)), (qs, .inl (cI, 6, .inl gs)), (qe, .inl (cI, 6, .inl ge)), (qn, .inl (cI, 42, .inl w))] := hD
  refine lv_iload_n hx hb dX4_topicsOf_5 rfl (lv_at hl 1 rfl) ?_
  refine lv_iconst (v := nI 0) hx hb dX4_topicsOf_6 (by decide +kernel) ?_
  refine lv_iconst (v := nI 4) hx hb dX4_topicsOf_7 (by decide +kernel) ?_
  refine k_callS (As := [.int (nI kn), .int (nI 0), .int (nI 4)]) (rest := []) (wr := [(mo, .inr (4, [.int (nI 0), .int (nI (stS q)), .int (stM q), .int (nI ((stT q).length)), .ref qi, .ref qs, .ref qe, .ref qn, .ref qk])), (qi, .inl (cI, 6, .inl gi)), (qs, .inl (cI, 6, .inl gs)), (qe, .inl (cI, 6, .inl ge)), (qn, .inl (cI, 42, .inl w))]) F (c_X4_isIn l D cI kn 0 4 (by omega) (by omega)) gX4_topicsOf_X4_isIn rfl (nA := 3) (by decide +kernel) rfl ⟨Nat.le_of_ble_eq_true rfl, Nat.le_of_ble_eq_true rfl⟩ hK hP hD hS hA hG [] [0, 1, 2, 3, 4] rfl (by decide) rfl (by decide) (by decide) [0] rfl rfl hl.1 (Nat.le_of_ble_eq_true rfl) dX4_topicsOf_8 ⟨Nat.le_of_ble_eq_true rfl, Nat.le_of_ble_eq_true rfl⟩ (fun r_1 u H locs hr_8 hP hD hS => ?_)
  try dsimp only at hr_8
  have hP : va_P D vwCl [(mo, .inr (4, [.int (nI 0), .int (nI (stS q)), .int (stM q), .int (nI ((stT q).length)), .ref qi, .ref qs, .ref qe, .ref qn, .ref qk])), (qi, .inl (cI, 6, .inl gi)), (qs, .inl (cI, 6, .inl gs)), (qe, .inl (cI, 6, .inl ge)), (qn, .inl (cI, 42, .inl w))] H := hP
  have hD : va_D A [(mo, .inr (4, [.int (nI 0), .int (nI (stS q)), .int (stM q), .int (nI ((stT q).length)), .ref qi, .ref qs, .ref qe, .ref qn, .ref qk])), (qi, .inl (cI, 6, .inl gi)), (qs, .inl (cI, 6, .inl gs)), (qe, .inl (cI, 6, .inl ge)), (qn, .inl (cI, 42, .inl w))] := hD
  refine W.eq (g2 := F0 m 11 ls [.int r_1]) rfl ?_
  refine W.widen (k := 0) (n := 0) (Nat.le_of_ble_eq_true rfl) (Nat.le_of_ble_eq_true rfl) ?_
  refine k_top (v := nI 1) (hr_8) ?_
  refine k_if_ne (tgt := 20) hx hb 1 rfl (by omega) dX4_topicsOf_11 (by decide) (fun c_11 => ?_) (fun c_11 => ?_)
  · skip
    refine lv_iconst (v := nI 0) hx hb dX4_topicsOf_20 (by decide +kernel) ?_
    refine lv_istore_n (lv' := [(2, .int (nI 0)), (0, .ref mo), (1, .int (nI kn))]) hx hb dX4_topicsOf_21 rfl hl (by decide) rfl (fun ls hl => ?_)
    refine lv_iconst (v := nI 0) hx hb dX4_topicsOf_22 (by decide +kernel) ?_
    refine lv_istore_n (lv' := [(3, .int (nI 0)), (2, .int (nI 0)), (0, .ref mo), (1, .int (nI kn))]) hx hb dX4_topicsOf_23 rfl hl (by decide) rfl (fun ls hl => ?_)
    have loop_2 : ∀ (n : Nat) (i : Nat), (i ≤ (stB q).length) → (stB q).length - i < n → ∀ (H : Heap) (locs : List Loc), va_P D vwCl [(mo, .inr (4, [.int (nI 0), .int (nI (stS q)), .int (stM q), .int (nI ((stT q).length)), .ref qi, .ref qs, .ref qe, .ref qn, .ref qk])), (qi, .inl (cI, 6, .inl gi)), (qs, .inl (cI, 6, .inl gs)), (qe, .inl (cI, 6, .inl ge)), (qn, .inl (cI, 42, .inl w))] H → va_D A [(mo, .inr (4, [.int (nI 0), .int (nI (stS q)), .int (stM q), .int (nI ((stT q).length)), .ref qi, .ref qs, .ref qe, .ref qn, .ref qk])), (qi, .inl (cI, 6, .inl gi)), (qs, .inl (cI, 6, .inl gs)), (qe, .inl (cI, 6, .inl ge)), (qn, .inl (cI, 42, .inl w))] → va_S A ss.heap H locs → ∀ ls : Array Slot, lv_has ls 4 [(0, .ref mo), (1, .int (nI kn)), (2, .int (nI (cnN (isK (nI kn) (stB q)) i))), (3, .int (nI i))] → W p l e rm_X4_topicsOf ss m args below meth c H locs 0 0 Q (F0 m 24 ls []) := by
      intro n
      induction n with
      | zero => intro i hi hn; exact absurd hn (by omega)
      | succ n ih =>
        intro i hi hn H locs hP hD hS ls hl
        refine lv_iload_n hx hb dX4_topicsOf_24 rfl (lv_at hl 3 rfl) ?_
        refine lv_aload_n hx hb dX4_topicsOf_25 rfl (lv_at hl 0 rfl) ?_
        refine va_get (D := D) (ci := 4) (v := .ref qn) (C := RX4) (T := TX4) (N := 9) hx hb hts iX4 hown hK hP 0 rfl rfl 7 (by decide) f26 (fun _ h9 => h9) rfl dX4_topicsOf_26 ?_
        refine lv_iconst (v := nI 1) hx hb dX4_topicsOf_29 (by decide +kernel) ?_
        refine k_iald hx hb hK hP 4 0 rfl rfl 1 (rfl) (by omega) (by decide) dX4_topicsOf_30 ?_
        refine k_top (v := nI ((stB q).length)) (n1) ?_
        refine k_cmp_ge (tgt := 61) hx hb i ((stB q).length) rfl rfl (by omega) (by omega) dX4_topicsOf_31 (by decide) (fun c_31 => ?_) (fun c_31 => ?_)
        · skip
          obtain rfl : i = (stB q).length := by omega
          refine lv_iload_n hx hb dX4_topicsOf_61 rfl (lv_at hl 2 rfl) ?_
          exact ret (nI (cnN (isK (nI kn) (stB q)) ((stB q).length))) () _ _ _ _ _ _ (rfl) (hP.sub [0, 1, 2, 3, 4] (rfl)) (hD.sub [0, 1, 2, 3, 4] (by decide) (rfl)) hS (Nat.le_of_ble_eq_true rfl) (Nat.le_of_ble_eq_true rfl) dX4_topicsOf_62
        · skip
          refine lv_iload_n hx hb dX4_topicsOf_34 rfl (lv_at hl 2 rfl) ?_
          refine lv_aload_n hx hb dX4_topicsOf_35 rfl (lv_at hl 0 rfl) ?_
          refine va_get (D := D) (ci := 4) (v := .ref qn) (C := RX4) (T := TX4) (N := 9) hx hb hts iX4 hown hK hP 0 rfl rfl 7 (by decide) f26 (fun _ h9 => h9) rfl dX4_topicsOf_36 ?_
          refine lv_bipush (v := nI 18) hx hb dX4_topicsOf_39 (by decide +kernel) ?_
          refine lv_iload_n hx hb dX4_topicsOf_41 rfl (lv_at hl 3 rfl) ?_
          refine k_iadd hx hb (nI (18 + i)) (nI_add _ _) dX4_topicsOf_42 ?_
          refine k_iald hx hb hK hP 4 0 rfl rfl (18 + i) (rfl) (by omega) (by decide) dX4_topicsOf_43 ?_
          refine k_top (v := ((stB q).getD i tp0).1) ((nB.2 i c_31).1) ?_
          refine lv_iload_n hx hb dX4_topicsOf_44 rfl (lv_at hl 1 rfl) ?_
          refine lv_icmp_ne (tgt := 52) hx hb dX4_topicsOf_45 (by decide) (fun c_45 => ?_) (fun c_45 => ?_)
          · skip
            refine lv_iconst (v := nI 0) hx hb dX4_topicsOf_52 (by decide +kernel) ?_
            refine k_iadd hx hb (nI ((cnN (isK (nI kn) (stB q)) i) + 0)) (nI_add _ _) dX4_topicsOf_53 ?_
            refine lv_istore_n (lv' := [(2, .int (nI ((cnN (isK (nI kn) (stB q)) i) + 0))), (0, .ref mo), (1, .int (nI kn)), (3, .int (nI i))]) hx hb dX4_topicsOf_54 rfl hl (by decide) rfl (fun ls hl => ?_)
            refine lv_iinc (v := nI (i + 1)) (lv' := [(3, .int (nI (i + 1))), (2, .int (nI ((cnN (isK (nI kn) (stB q)) i) + 0))), (0, .ref mo), (1, .int (nI kn))]) hx hb dX4_topicsOf_55 hl (k := 3) rfl (nI_1 _) (by decide) rfl (fun ls hl => ?_)
            refine lv_goto (tgt := 24) hx hb dX4_topicsOf_58 (by decide) ?_
            exact ih (i + 1) (by omega) (by omega) _ _ (hP.sub [0, 1, 2, 3, 4] (rfl)) (hD.sub [0, 1, 2, 3, 4] (by decide) (rfl)) hS _ (lv_sub hl [2, 3, 1, 0] (by rw [cn_f (decide_eq_false c_45)]; rfl))
          · skip
            refine lv_iconst (v := nI 1) hx hb dX4_topicsOf_48 (by decide +kernel) ?_
            refine lv_goto (tgt := 53) hx hb dX4_topicsOf_49 (by decide) ?_
            refine k_iadd hx hb (nI ((cnN (isK (nI kn) (stB q)) i) + 1)) (nI_add _ _) dX4_topicsOf_53 ?_
            refine lv_istore_n (lv' := [(2, .int (nI ((cnN (isK (nI kn) (stB q)) i) + 1))), (0, .ref mo), (1, .int (nI kn)), (3, .int (nI i))]) hx hb dX4_topicsOf_54 rfl hl (by decide) rfl (fun ls hl => ?_)
            refine lv_iinc (v := nI (i + 1)) (lv' := [(3, .int (nI (i + 1))), (2, .int (nI ((cnN (isK (nI kn) (stB q)) i) + 1))), (0, .ref mo), (1, .int (nI kn))]) hx hb dX4_topicsOf_55 hl (k := 3) rfl (nI_1 _) (by decide) rfl (fun ls hl => ?_)
            refine lv_goto (tgt := 24) hx hb dX4_topicsOf_58 (by decide) ?_
            exact ih (i + 1) (by omega) (by omega) _ _ (hP.sub [0, 1, 2, 3, 4] (rfl)) (hD.sub [0, 1, 2, 3, 4] (by decide) (rfl)) hS _ (lv_sub hl [2, 3, 1, 0] (by rw [cn_t (decide_eq_true c_45)]; rfl))
    exact loop_2 (((stB q).length) + 1) 0 (Nat.zero_le _) (by omega) _ _ (hP.sub [0, 1, 2, 3, 4] (rfl)) (hD.sub [0, 1, 2, 3, 4] (by decide) (rfl)) hS _ (lv_sub hl [2, 3, 1, 0] (rfl))
  · exact absurd c_11 (by omega)

abbrev rm_X4_turnsToNod : Room := { frames := 2, cells := 0, slots := 0, locals := 43 }
set_option maxHeartbeats 4000000 in
set_option maxRecDepth 100000 in
theorem c_X4_turnsToNod (l : Launch) (D : va_G) (cI : ClassId) (mo : Nat) (qi : Nat) (qs : Nat) (qe : Nat) (qn : Nat) (qk : Nat) (tw : Int32) (gi : Nat → Int32) (gs : Nat → Int32) (ge : Nat → Int32) (w : Nat → Int32) (q : St) (j : Nat) (hN : rN gi gs ge w q) (hO : okS q) (hj : j < (stB q).length) : kM kri l yX4_turnsToNod wsX4_turnsToNod rm_X4_turnsToNod D [(cI, .int)] [.ref mo, .int (nI j)] [(mo, .inr (4, [.int tw, .int (nI (stS q)), .int (stM q), .int (nI ((stT q).length)), .ref qi, .ref qs, .ref qe, .ref qn, .ref qk])), (qi, .inl (cI, 6, .inl gi)), (qs, .inl (cI, 6, .inl gs)), (qe, .inl (cI, 6, .inl ge)), (qn, .inl (cI, 42, .inl w))] (fun (r : Int32) (u : Unit) => tnR (stG q) ((stB q).getD j tp0).2 r) (fun (u : Unit) => [(mo, .inr (4, [.int (nI 0), .int (nI (stS q)), .int (stM q), .int (nI ((stT q).length)), .ref qi, .ref qs, .ref qe, .ref qn, .ref qk])), (qi, .inl (cI, 6, .inl gi)), (qs, .inl (cI, 6, .inl gs)), (qe, .inl (cI, 6, .inl ge)), (qn, .inl (cI, 42, .inl w))]) := by
  refine k_bodyI (cc := cX4_turnsToNod) (maxL := 4) (by decide) rfl (Nat.le_of_ble_eq_true rfl) ?_
  intro p e ss m args below meth c A Q F hname hA hG hK hP hD hS ret ls hl
  obtain ⟨hx, hb, hml, hown, hts⟩ := id F
  have hP : va_P D vwCl [(mo, .inr (4, [.int tw, .int (nI (stS q)), .int (stM q), .int (nI ((stT q).length)), .ref qi, .ref qs, .ref qe, .ref qn, .ref qk])), (qi, .inl (cI, 6, .inl gi)), (qs, .inl (cI, 6, .inl gs)), (qe, .inl (cI, 6, .inl ge)), (qn, .inl (cI, 42, .inl w))] ss.heap := hP
  have hD : va_D A [(mo, .inr (4, [.int tw, .int (nI (stS q)), .int (stM q), .int (nI ((stT q).length)), .ref qi, .ref qs, .ref qe, .ref qn, .ref qk])), (qi, .inl (cI, 6, .inl gi)), (qs, .inl (cI, 6, .inl gs)), (qe, .inl (cI, 6, .inl ge)), (qn, .inl (cI, 42, .inl w))] := hD
  have hl : lv_has ls 4 [(0, .ref mo), (1, .int (nI j))] := hl
  have iX4 : ∀ w ∈ u_ws RX4 TX4 9, w ∈ wsX4_turnsToNod := by decide +kernel
  have f26 := hts (.fieldLink RX4 26 "SmallerTalkModel" "now" "[I") (by decide +kernel)
  have f32 := hts (.fieldLink RX4 32 "SmallerTalkModel" "thrown" "I") (by decide +kernel)
  obtain ⟨n0, n1, n2, n3, n4, n5, nB, nT⟩ := id hN
  obtain ⟨o1, o2, o3, o4, o5, o6, o7⟩ := id hO
  have h12 := nB.1
  obtain ⟨z, ez⟩ : ∃ z, z = ((stB q).getD j tp0).2 := ⟨_, rfl⟩
  have hz : z ≤ 99 := by rw [ez]; exact (o1 j hj).2
  refine lv_aload_n hx hb dX4_turnsToNod_0 rfl (lv_at hl 0 rfl) ?_
  refine lv_iconst (v := nI 0) hx hb dX4_turnsToNod_1 (by decide +kernel) ?_
  refine va_put (D := D) (ci := 4) (v := .int (nI 0)) (ty := .int) (C := RX4) (T := TX4) (N := 9) hx hb hts iX4 tyX4 tyX4_ok nmX4 hown hK hP hD hS 0 rfl rfl 0 (by decide) f32 (fun _ h9 => h9) rfl (by decide +kernel) rfl rfl (Nat.le_of_ble_eq_true rfl) dX4_turnsToNod_2 (fun H locs hP hD hS => ?_)
  have hP : va_P D vwCl [(mo, .inr (4, [.int (nI 0), .int (nI (stS q)), .int (stM q), .int (nI ((stT q).length)), .ref qi, .ref qs, .ref qe, .ref qn, .ref qk])), (qi, .inl (cI, 6, .inl gi)), (qs, .inl (cI, 6, .inl gs)), (qe, .inl (cI, 6, .inl ge)), (qn, .inl (cI, 42, .inl w))] H := hP
  have hD : va_D A [(mo, .inr (4, [.int (nI 0), .int (nI (stS q)), .int (stM q), .int (nI ((stT q).length)), .ref qi, .ref qs, .ref qe, .ref qn, .ref qk])), (qi, .inl (cI, 6, .inl gi)), (qs, .inl (cI, 6, .inl gs)), (qe, .inl (cI, 6, .inl ge)), (qn, .inl (cI, 42, .inl w))] := hD
  refine lv_aload_n hx hb dX4_turnsToNod_5 rfl (lv_at hl 0 rfl) ?_
  refine lv_iload_n hx hb dX4_turnsToNod_6 rfl (lv_at hl 1 rfl) ?_
  refine k_callV (As := [.int (nI j)]) (rest := []) (wr := [(qi, .inl (cI, 6, .inl gi)), (qs, .inl (cI, 6, .inl gs)), (qe, .inl (cI, 6, .inl ge))]) F (c_X4_isPlace l D cI mo qi qs qe qn qk (nI 0) (nI (stS q)) (stM q) (nI ((stT q).length)) w ((stB q).length) j n1 h12 hj) gX4_turnsToNod_X4_isPlace rfl (nA := 1) (by decide +kernel) rfl ⟨Nat.le_of_ble_eq_true rfl, Nat.le_of_ble_eq_true rfl⟩ hK hP hD hS hA hG (ci := 4) (q0 := 0) rfl rfl rfl [0, 4] [1, 2, 3] rfl (by decide) rfl (by decide) (by decide) [0] rfl rfl hl.1 (Nat.le_of_ble_eq_true rfl) dX4_turnsToNod_7 ⟨Nat.le_of_ble_eq_true rfl, Nat.le_of_ble_eq_true rfl⟩ (fun r_1 u H locs hr_7 hP hD hS => ?_)
  try dsimp only at hr_7
  have hP : va_P D vwCl [(qi, .inl (cI, 6, .inl gi)), (qs, .inl (cI, 6, .inl gs)), (qe, .inl (cI, 6, .inl ge)), (mo, .inr (4, [.int (nI 0), .int (nI (stS q)), .int (stM q), .int (nI ((stT q).length)), .ref qi, .ref qs, .ref qe, .ref qn, .ref qk])), (qn, .inl (cI, 42, .inl w))] H := hP
  have hD : va_D A [(qi, .inl (cI, 6, .inl gi)), (qs, .inl (cI, 6, .inl gs)), (qe, .inl (cI, 6, .inl ge)), (mo, .inr (4, [.int (nI 0), .int (nI (stS q)), .int (stM q), .int (nI ((stT q).length)), .ref qi, .ref qs, .ref qe, .ref qn, .ref qk])), (qn, .inl (cI, 42, .inl w))] := hD
  refine W.eq (g2 := F0 m 10 ls [.int r_1]) rfl ?_
  refine W.widen (k := 0) (n := 0) (Nat.le_of_ble_eq_true rfl) (Nat.le_of_ble_eq_true rfl) ?_
  refine k_top (v := nI 1) (hr_7) ?_
  refine k_if_ne (tgt := 19) hx hb 1 rfl (by omega) dX4_turnsToNod_10 (by decide) (fun c_10 => ?_) (fun c_10 => ?_)
  · skip
    refine lv_iconst (v := nI 0) hx hb dX4_turnsToNod_19 (by decide +kernel) ?_
    refine lv_istore_n (lv' := [(2, .int (nI 0)), (0, .ref mo), (1, .int (nI j))]) hx hb dX4_turnsToNod_20 rfl hl (by decide) rfl (fun ls hl => ?_)
    refine lv_aload_n hx hb dX4_turnsToNod_21 rfl (lv_at hl 1 rfl) ?_
    refine va_get (D := D) (ci := 4) (v := .ref qn) (C := RX4) (T := TX4) (N := 9) hx hb hts iX4 hown hK hP 3 rfl rfl 7 (by decide) f26 (fun _ h9 => h9) rfl dX4_turnsToNod_22 ?_
    refine lv_bipush (v := nI 6) hx hb dX4_turnsToNod_25 (by decide +kernel) ?_
    refine lv_iload_n hx hb dX4_turnsToNod_27 rfl (lv_at hl 2 rfl) ?_
    refine k_iadd hx hb (nI (6 + j)) (nI_add _ _) dX4_turnsToNod_28 ?_
    refine k_iald hx hb hK hP 4 0 rfl rfl (6 + j) (rfl) (by omega) (by decide) dX4_turnsToNod_29 ?_
    refine k_top (v := nI z) (((nB.2 j hj).2.trans (by rw [ez]))) ?_
    refine lv_istore_n (lv' := [(3, .int (nI z)), (2, .int (nI 0)), (0, .ref mo), (1, .int (nI j))]) hx hb dX4_turnsToNod_30 rfl hl (by decide) rfl (fun ls hl => ?_)
    have loop_2 : ∀ (n : Nat) (i : Nat), (i ≤ 99) → (∀ t, t < i → ¬ dvN (stG q) z t < 2) → 99 - i < n → ∀ (H : Heap) (locs : List Loc), va_P D vwCl [(qi, .inl (cI, 6, .inl gi)), (qs, .inl (cI, 6, .inl gs)), (qe, .inl (cI, 6, .inl ge)), (mo, .inr (4, [.int (nI 0), .int (nI (stS q)), .int (stM q), .int (nI ((stT q).length)), .ref qi, .ref qs, .ref qe, .ref qn, .ref qk])), (qn, .inl (cI, 42, .inl w))] H → va_D A [(qi, .inl (cI, 6, .inl gi)), (qs, .inl (cI, 6, .inl gs)), (qe, .inl (cI, 6, .inl ge)), (mo, .inr (4, [.int (nI 0), .int (nI (stS q)), .int (stM q), .int (nI ((stT q).length)), .ref qi, .ref qs, .ref qe, .ref qn, .ref qk])), (qn, .inl (cI, 42, .inl w))] → va_S A ss.heap H locs → ∀ ls : Array Slot, lv_has ls 4 [(0, .ref mo), (2, .int (nI i)), (3, .int (nI (dvN (stG q) z i)))] → W p l e rm_X4_turnsToNod ss m args below meth c H locs 0 0 Q (F0 m 31 ls []) := by
      intro n
      induction n with
      | zero => intro i hi hh hn; exact absurd hn (by omega)
      | succ n ih =>
        intro i hi hh hn H locs hP hD hS ls hl
        refine lv_iload_n hx hb dX4_turnsToNod_31 rfl (lv_at hl 2 rfl) ?_
        refine lv_iconst (v := nI 1) hx hb dX4_turnsToNod_32 (by decide +kernel) ?_
        refine k_cmp_le (tgt := 51) hx hb (dvN (stG q) z i) 1 rfl rfl (by have := dvN_le (stG q) z i; omega) (by omega) dX4_turnsToNod_33 (by decide) (fun c_33 => ?_) (fun c_33 => ?_)
        · skip
          refine lv_iload_n hx hb dX4_turnsToNod_51 rfl (lv_at hl 1 rfl) ?_
          exact ret (nI i) () _ _ _ _ _ _ ((by rw [← ez]; exact ⟨i, by omega, hh, rfl⟩)) (hP.sub [3, 0, 1, 2, 4] (rfl)) (hD.sub [3, 0, 1, 2, 4] (by decide) (rfl)) hS (Nat.le_of_ble_eq_true rfl) (Nat.le_of_ble_eq_true rfl) dX4_turnsToNod_52
        · skip
          refine lv_iinc (v := nI (i + 1)) (lv' := [(2, .int (nI (i + 1))), (0, .ref mo), (3, .int (nI (dvN (stG q) z i)))]) hx hb dX4_turnsToNod_36 hl (k := 1) rfl (nI_1 _) (by decide) rfl (fun ls hl => ?_)
          refine lv_iload_n hx hb dX4_turnsToNod_39 rfl (lv_at hl 2 rfl) ?_
          refine lv_aload_n hx hb dX4_turnsToNod_40 rfl (lv_at hl 1 rfl) ?_
          refine va_get (D := D) (ci := 4) (v := .ref qn) (C := RX4) (T := TX4) (N := 9) hx hb hts iX4 hown hK hP 3 rfl rfl 7 (by decide) f26 (fun _ h9 => h9) rfl dX4_turnsToNod_41 ?_
          refine lv_iconst (v := nI 5) hx hb dX4_turnsToNod_44 (by decide +kernel) ?_
          refine k_iald hx hb hK hP 4 0 rfl rfl 5 (rfl) (by omega) (by decide) dX4_turnsToNod_45 ?_
          refine k_top (v := nI (stG q)) (n5) ?_
          refine k_idiv hx hb (nI (dvN (stG q) z (i + 1))) (nI_ne0 (by omega) (by omega)) (pk_div (by have := dvN_le (stG q) z i; omega) (by omega) (by omega)) dX4_turnsToNod_46 ?_
          refine lv_istore_n (lv' := [(3, .int (nI (dvN (stG q) z (i + 1)))), (2, .int (nI (i + 1))), (0, .ref mo)]) hx hb dX4_turnsToNod_47 rfl hl (by decide) rfl (fun ls hl => ?_)
          refine lv_goto (tgt := 31) hx hb dX4_turnsToNod_48 (by decide) ?_
          have ht9 := dvN_turns o5.1 hz (show 2 ≤ dvN (stG q) z i by omega)
          exact ih (i + 1) (by omega) (lt_s hh (by omega)) (by omega) _ _ (hP.sub [0, 1, 2, 3, 4] (rfl)) (hD.sub [0, 1, 2, 3, 4] (by decide) (rfl)) hS _ (lv_sub hl [2, 1, 0] (rfl))
    exact loop_2 (99 + 1) 0 (by omega) (fun _ h => absurd h (by omega)) (by omega) _ _ (hP.sub [0, 1, 2, 3, 4] (rfl)) (hD.sub [0, 1, 2, 3, 4] (by decide) (rfl)) hS _ (lv_sub hl [2, 1, 0] (rfl))
  · exact absurd c_10 (by omega)

abbrev rm_X4_largest : Room := { frames := 0, cells := 0, slots := 0, locals := 0 }
set_option maxHeartbeats 4000000 in
set_option maxRecDepth 100000 in
theorem c_X4_largest (l : Launch) (D : va_G) (cI : ClassId) (mo : Nat) (qi : Nat) (qs : Nat) (qe : Nat) (qn : Nat) (qk : Nat) (tw : Int32) (gi : Nat → Int32) (gs : Nat → Int32) (ge : Nat → Int32) (w : Nat → Int32) (q : St) (hN : rN gi gs ge w q) (hO : okS q) : kM kri l yX4_largest wsX4_largest rm_X4_largest D [(cI, .int)] [.ref mo] [(mo, .inr (4, [.int tw, .int (nI (stS q)), .int (stM q), .int (nI ((stT q).length)), .ref qi, .ref qs, .ref qe, .ref qn, .ref qk])), (qi, .inl (cI, 6, .inl gi)), (qs, .inl (cI, 6, .inl gs)), (qe, .inl (cI, 6, .inl ge)), (qn, .inl (cI, 42, .inl w))] (fun (r : Int32) (u : Unit) => r = oI (lgst (stB q))) (fun (u : Unit) => [(mo, .inr (4, [.int (nI 0), .int (nI (stS q)), .int (stM q), .int (nI ((stT q).length)), .ref qi, .ref qs, .ref qe, .ref qn, .ref qk])), (qi, .inl (cI, 6, .inl gi)), (qs, .inl (cI, 6, .inl gs)), (qe, .inl (cI, 6, .inl ge)), (qn, .inl (cI, 42, .inl w))]) := by
  refine k_bodyI (cc := cX4_largest) (maxL := 3) (by decide) rfl (Nat.le_of_ble_eq_true rfl) ?_
  intro p e ss m args below meth c A Q F hname hA hG hK hP hD hS ret ls hl
  obtain ⟨hx, hb, hml, hown, hts⟩ := id F
  have hP : va_P D vwCl [(mo, .inr (4, [.int tw, .int (nI (stS q)), .int (stM q), .int (nI ((stT q).length)), .ref qi, .ref qs, .ref qe, .ref qn, .ref qk])), (qi, .inl (cI, 6, .inl gi)), (qs, .inl (cI, 6, .inl gs)), (qe, .inl (cI, 6, .inl ge)), (qn, .inl (cI, 42, .inl w))] ss.heap := hP
  have hD : va_D A [(mo, .inr (4, [.int tw, .int (nI (stS q)), .int (stM q), .int (nI ((stT q).length)), .ref qi, .ref qs, .ref qe, .ref qn, .ref qk])), (qi, .inl (cI, 6, .inl gi)), (qs, .inl (cI, 6, .inl gs)), (qe, .inl (cI, 6, .inl ge)), (qn, .inl (cI, 42, .inl w))] := hD
  have hl : lv_has ls 3 [(0, .ref mo)] := hl
  have iX4 : ∀ w ∈ u_ws RX4 TX4 9, w ∈ wsX4_largest := by decide +kernel
  have f26 := hts (.fieldLink RX4 26 "SmallerTalkModel" "now" "[I") (by decide +kernel)
  have f32 := hts (.fieldLink RX4 32 "SmallerTalkModel" "thrown" "I") (by decide +kernel)
  obtain ⟨n0, n1, n2, n3, n4, n5, nB, nT⟩ := id hN
  obtain ⟨o1, o2, o3, o4, o5, o6, o7⟩ := id hO
  have h12 := nB.1
  refine lv_aload_n hx hb dX4_largest_0 rfl (lv_at hl 0 rfl) ?_
  refine lv_iconst (v := nI 0) hx hb dX4_largest_1 (by decide +kernel) ?_
  refine va_put (D := D) (ci := 4) (v := .int (nI 0)) (ty := .int) (C := RX4) (T := TX4) (N := 9) hx hb hts iX4 tyX4 tyX4_ok nmX4 hown hK hP hD hS 0 rfl rfl 0 (by decide) f32 (fun _ h9 => h9) rfl (by decide +kernel) rfl rfl (Nat.le_of_ble_eq_true rfl) dX4_largest_2 (fun H locs hP hD hS => ?_)
  have hP : va_P D vwCl [(mo, .inr (4, [.int (nI 0), .int (nI (stS q)), .int (stM q), .int (nI ((stT q).length)), .ref qi, .ref qs, .ref qe, .ref qn, .ref qk])), (qi, .inl (cI, 6, .inl gi)), (qs, .inl (cI, 6, .inl gs)), (qe, .inl (cI, 6, .inl ge)), (qn, .inl (cI, 42, .inl w))] H := hP
  have hD : va_D A [(mo, .inr (4, [.int (nI 0), .int (nI (stS q)), .int (stM q), .int (nI ((stT q).length)), .ref qi, .ref qs, .ref qe, .ref qn, .ref qk])), (qi, .inl (cI, 6, .inl gi)), (qs, .inl (cI, 6, .inl gs)), (qe, .inl (cI, 6, .inl ge)), (qn, .inl (cI, 42, .inl w))] := hD
  refine lv_iconst (v := -1) hx hb dX4_largest_5 (by decide +kernel) ?_
  refine lv_istore_n (lv' := [(1, .int (-1)), (0, .ref mo)]) hx hb dX4_largest_6 rfl hl (by decide) rfl (fun ls hl => ?_)
  refine lv_iconst (v := nI 0) hx hb dX4_largest_7 (by decide +kernel) ?_
  refine lv_istore_n (lv' := [(2, .int (nI 0)), (1, .int (-1)), (0, .ref mo)]) hx hb dX4_largest_8 rfl hl (by decide) rfl (fun ls hl => ?_)
  have loop_1 : ∀ (n : Nat) (i : Nat), (i ≤ (stB q).length) → (stB q).length - i < n → ∀ (H : Heap) (locs : List Loc), va_P D vwCl [(mo, .inr (4, [.int (nI 0), .int (nI (stS q)), .int (stM q), .int (nI ((stT q).length)), .ref qi, .ref qs, .ref qe, .ref qn, .ref qk])), (qi, .inl (cI, 6, .inl gi)), (qs, .inl (cI, 6, .inl gs)), (qe, .inl (cI, 6, .inl ge)), (qn, .inl (cI, 42, .inl w))] H → va_D A [(mo, .inr (4, [.int (nI 0), .int (nI (stS q)), .int (stM q), .int (nI ((stT q).length)), .ref qi, .ref qs, .ref qe, .ref qn, .ref qk])), (qi, .inl (cI, 6, .inl gi)), (qs, .inl (cI, 6, .inl gs)), (qe, .inl (cI, 6, .inl ge)), (qn, .inl (cI, 42, .inl w))] → va_S A ss.heap H locs → ∀ ls : Array Slot, lv_has ls 3 [(0, .ref mo), (1, .int (oI (am (fun _ => true) (bLg (stB q)) i))), (2, .int (nI i))] → W p l e rm_X4_largest ss m args below meth c H locs 0 0 Q (F0 m 9 ls []) := by
    intro n
    induction n with
    | zero => intro i hi hn; exact absurd hn (by omega)
    | succ n ih =>
      intro i hi hn H locs hP hD hS ls hl
      refine lv_iload_n hx hb dX4_largest_9 rfl (lv_at hl 2 rfl) ?_
      refine lv_aload_n hx hb dX4_largest_10 rfl (lv_at hl 0 rfl) ?_
      refine va_get (D := D) (ci := 4) (v := .ref qn) (C := RX4) (T := TX4) (N := 9) hx hb hts iX4 hown hK hP 0 rfl rfl 7 (by decide) f26 (fun _ h9 => h9) rfl dX4_largest_11 ?_
      refine lv_iconst (v := nI 1) hx hb dX4_largest_14 (by decide +kernel) ?_
      refine k_iald hx hb hK hP 4 0 rfl rfl 1 (rfl) (by omega) (by decide) dX4_largest_15 ?_
      refine k_top (v := nI ((stB q).length)) (n1) ?_
      refine k_cmp_ge (tgt := 53) hx hb i ((stB q).length) rfl rfl (by omega) (by omega) dX4_largest_16 (by decide) (fun c_16 => ?_) (fun c_16 => ?_)
      · skip
        obtain rfl : i = (stB q).length := by omega
        refine lv_iload_n hx hb dX4_largest_53 rfl (lv_at hl 1 rfl) ?_
        exact ret (oI (am (fun _ => true) (bLg (stB q)) ((stB q).length))) () _ _ _ _ _ _ (rfl) (hP.sub [0, 1, 2, 3, 4] (rfl)) (hD.sub [0, 1, 2, 3, 4] (by decide) (rfl)) hS (Nat.le_of_ble_eq_true rfl) (Nat.le_of_ble_eq_true rfl) dX4_largest_54
      · skip
        refine lv_iload_n hx hb dX4_largest_19 rfl (lv_at hl 1 rfl) ?_
        refine lv_iconst (v := -1) hx hb dX4_largest_20 (by decide +kernel) ?_
        refine lv_icmp_eq (tgt := 45) hx hb dX4_largest_21 (by decide) (fun c_21 => ?_) (fun c_21 => ?_)
        · skip
          refine lv_iload_n hx hb dX4_largest_45 rfl (lv_at hl 2 rfl) ?_
          refine lv_istore_n (lv' := [(1, .int (nI i)), (0, .ref mo), (2, .int (nI i))]) hx hb dX4_largest_46 rfl hl (by decide) rfl (fun ls hl => ?_)
          refine lv_iinc (v := nI (i + 1)) (lv' := [(2, .int (nI (i + 1))), (1, .int (nI i)), (0, .ref mo)]) hx hb dX4_largest_47 hl (k := 2) rfl (nI_1 _) (by decide) rfl (fun ls hl => ?_)
          refine lv_goto (tgt := 9) hx hb dX4_largest_50 (by decide) ?_
          have e8 : am (fun _ => true) (bLg (stB q)) (i + 1) = _ := am_fst (am_no (by omega) c_21) rfl
          exact ih (i + 1) (by omega) (by omega) _ _ (hP.sub [0, 1, 2, 3, 4] (rfl)) (hD.sub [0, 1, 2, 3, 4] (by decide) (rfl)) hS _ (lv_sub hl [2, 1, 0] (by rw [e8]; rfl))
        · skip
          obtain ⟨b9, hb9⟩ := am_ex c_21
          rw [hb9] at hl
          have hbl := (am_lt hb9).1
          refine lv_aload_n hx hb dX4_largest_24 rfl (lv_at hl 0 rfl) ?_
          refine va_get (D := D) (ci := 4) (v := .ref qn) (C := RX4) (T := TX4) (N := 9) hx hb hts iX4 hown hK hP 0 rfl rfl 7 (by decide) f26 (fun _ h9 => h9) rfl dX4_largest_25 ?_
          refine lv_bipush (v := nI 6) hx hb dX4_largest_28 (by decide +kernel) ?_
          refine lv_iload_n hx hb dX4_largest_30 rfl (lv_at hl 2 rfl) ?_
          refine k_iadd hx hb (nI (6 + i)) (nI_add _ _) dX4_largest_31 ?_
          refine k_iald hx hb hK hP 4 0 rfl rfl (6 + i) (rfl) (by omega) (by decide) dX4_largest_32 ?_
          refine k_top (v := nI (((stB q).getD i tp0).2)) ((nB.2 i c_16).2) ?_
          refine lv_aload_n hx hb dX4_largest_33 rfl (lv_at hl 0 rfl) ?_
          refine va_get (D := D) (ci := 4) (v := .ref qn) (C := RX4) (T := TX4) (N := 9) hx hb hts iX4 hown hK hP 0 rfl rfl 7 (by decide) f26 (fun _ h9 => h9) rfl dX4_largest_34 ?_
          refine lv_bipush (v := nI 6) hx hb dX4_largest_37 (by decide +kernel) ?_
          refine lv_iload_n hx hb dX4_largest_39 rfl (lv_at hl 1 rfl) ?_
          refine k_iadd hx hb (nI (6 + b9)) (nI_add _ _) dX4_largest_40 ?_
          refine k_iald hx hb hK hP 4 0 rfl rfl (6 + b9) (rfl) (by omega) (by decide) dX4_largest_41 ?_
          refine k_top (v := nI (((stB q).getD b9 tp0).2)) ((nB.2 b9 (by omega)).2) ?_
          refine k_cmp_le (tgt := 47) hx hb (((stB q).getD i tp0).2) (((stB q).getD b9 tp0).2) rfl rfl (by have := (o1 i c_16).2; omega) (by have := (o1 b9 (by omega)).2; omega) dX4_largest_42 (by decide) (fun c_42 => ?_) (fun c_42 => ?_)
          · skip
            refine lv_iinc (v := nI (i + 1)) (lv' := [(2, .int (nI (i + 1))), (0, .ref mo), (1, .int (nI b9))]) hx hb dX4_largest_47 hl (k := 2) rfl (nI_1 _) (by decide) rfl (fun ls hl => ?_)
            refine lv_goto (tgt := 9) hx hb dX4_largest_50 (by decide) ?_
            have e8 : am (fun _ => true) (bLg (stB q)) (i + 1) = _ := lgb_keep hb9 c_42
            exact ih (i + 1) (by omega) (by omega) _ _ (hP.sub [0, 1, 2, 3, 4] (rfl)) (hD.sub [0, 1, 2, 3, 4] (by decide) (rfl)) hS _ (lv_sub hl [1, 2, 0] (by rw [e8]; rfl))
          · skip
            refine lv_iload_n hx hb dX4_largest_45 rfl (lv_at hl 2 rfl) ?_
            refine lv_istore_n (lv' := [(1, .int (nI i)), (0, .ref mo), (2, .int (nI i))]) hx hb dX4_largest_46 rfl hl (by decide) rfl (fun ls hl => ?_)
            refine lv_iinc (v := nI (i + 1)) (lv' := [(2, .int (nI (i + 1))), (1, .int (nI i)), (0, .ref mo)]) hx hb dX4_largest_47 hl (k := 2) rfl (nI_1 _) (by decide) rfl (fun ls hl => ?_)
            refine lv_goto (tgt := 9) hx hb dX4_largest_50 (by decide) ?_
            have e8 : am (fun _ => true) (bLg (stB q)) (i + 1) = _ := lgb_new hb9 c_42
            exact ih (i + 1) (by omega) (by omega) _ _ (hP.sub [0, 1, 2, 3, 4] (rfl)) (hD.sub [0, 1, 2, 3, 4] (by decide) (rfl)) hS _ (lv_sub hl [2, 1, 0] (by rw [e8]; rfl))
  exact loop_1 (((stB q).length) + 1) 0 (Nat.zero_le _) (by omega) _ _ (hP.sub [0, 1, 2, 3, 4] (rfl)) (hD.sub [0, 1, 2, 3, 4] (by decide) (rfl)) hS _ (lv_sub hl [2, 1, 0] (rfl))

abbrev rm_X4_nextToGo : Room := { frames := 1, cells := 0, slots := 0, locals := 21 }
set_option maxHeartbeats 4000000 in
set_option maxRecDepth 100000 in
theorem c_X4_nextToGo (l : Launch) (D : va_G) (cI : ClassId) (mo : Nat) (qi : Nat) (qs : Nat) (qe : Nat) (qn : Nat) (qk : Nat) (tw : Int32) (gi : Nat → Int32) (gs : Nat → Int32) (ge : Nat → Int32) (w : Nat → Int32) (q : St) (hN : rN gi gs ge w q) (hO : okS q) : kM kri l yX4_nextToGo wsX4_nextToGo rm_X4_nextToGo D [(cI, .int)] [.ref mo] [(mo, .inr (4, [.int tw, .int (nI (stS q)), .int (stM q), .int (nI ((stT q).length)), .ref qi, .ref qs, .ref qe, .ref qn, .ref qk])), (qi, .inl (cI, 6, .inl gi)), (qs, .inl (cI, 6, .inl gs)), (qe, .inl (cI, 6, .inl ge)), (qn, .inl (cI, 42, .inl w))] (fun (r : Int32) (u : Unit) => r = oI (ntg (stT q))) (fun (u : Unit) => [(mo, .inr (4, [.int (nI 0), .int (nI (stS q)), .int (stM q), .int (nI ((stT q).length)), .ref qi, .ref qs, .ref qe, .ref qn, .ref qk])), (qi, .inl (cI, 6, .inl gi)), (qs, .inl (cI, 6, .inl gs)), (qe, .inl (cI, 6, .inl ge)), (qn, .inl (cI, 42, .inl w))]) := by
  refine k_bodyI (cc := cX4_nextToGo) (maxL := 3) (by decide) rfl (Nat.le_of_ble_eq_true rfl) ?_
  intro p e ss m args below meth c A Q F hname hA hG hK hP hD hS ret ls hl
  obtain ⟨hx, hb, hml, hown, hts⟩ := id F
  have hP : va_P D vwCl [(mo, .inr (4, [.int tw, .int (nI (stS q)), .int (stM q), .int (nI ((stT q).length)), .ref qi, .ref qs, .ref qe, .ref qn, .ref qk])), (qi, .inl (cI, 6, .inl gi)), (qs, .inl (cI, 6, .inl gs)), (qe, .inl (cI, 6, .inl ge)), (qn, .inl (cI, 42, .inl w))] ss.heap := hP
  have hD : va_D A [(mo, .inr (4, [.int tw, .int (nI (stS q)), .int (stM q), .int (nI ((stT q).length)), .ref qi, .ref qs, .ref qe, .ref qn, .ref qk])), (qi, .inl (cI, 6, .inl gi)), (qs, .inl (cI, 6, .inl gs)), (qe, .inl (cI, 6, .inl ge)), (qn, .inl (cI, 42, .inl w))] := hD
  have hl : lv_has ls 3 [(0, .ref mo)] := hl
  have iX4 : ∀ w ∈ u_ws RX4 TX4 9, w ∈ wsX4_nextToGo := by decide +kernel
  have f26 := hts (.fieldLink RX4 26 "SmallerTalkModel" "now" "[I") (by decide +kernel)
  have f32 := hts (.fieldLink RX4 32 "SmallerTalkModel" "thrown" "I") (by decide +kernel)
  have f39 := hts (.fieldLink RX4 39 "SmallerTalkModel" "talkers" "I") (by decide +kernel)
  obtain ⟨n0, n1, n2, n3, n4, n5, nB, nT⟩ := id hN
  obtain ⟨o1, o2, o3, o4, o5, o6, o7⟩ := id hO
  have h6 := nT.1
  refine lv_aload_n hx hb dX4_nextToGo_0 rfl (lv_at hl 0 rfl) ?_
  refine lv_iconst (v := nI 0) hx hb dX4_nextToGo_1 (by decide +kernel) ?_
  refine va_put (D := D) (ci := 4) (v := .int (nI 0)) (ty := .int) (C := RX4) (T := TX4) (N := 9) hx hb hts iX4 tyX4 tyX4_ok nmX4 hown hK hP hD hS 0 rfl rfl 0 (by decide) f32 (fun _ h9 => h9) rfl (by decide +kernel) rfl rfl (Nat.le_of_ble_eq_true rfl) dX4_nextToGo_2 (fun H locs hP hD hS => ?_)
  have hP : va_P D vwCl [(mo, .inr (4, [.int (nI 0), .int (nI (stS q)), .int (stM q), .int (nI ((stT q).length)), .ref qi, .ref qs, .ref qe, .ref qn, .ref qk])), (qi, .inl (cI, 6, .inl gi)), (qs, .inl (cI, 6, .inl gs)), (qe, .inl (cI, 6, .inl ge)), (qn, .inl (cI, 42, .inl w))] H := hP
  have hD : va_D A [(mo, .inr (4, [.int (nI 0), .int (nI (stS q)), .int (stM q), .int (nI ((stT q).length)), .ref qi, .ref qs, .ref qe, .ref qn, .ref qk])), (qi, .inl (cI, 6, .inl gi)), (qs, .inl (cI, 6, .inl gs)), (qe, .inl (cI, 6, .inl ge)), (qn, .inl (cI, 42, .inl w))] := hD
  refine lv_iconst (v := -1) hx hb dX4_nextToGo_5 (by decide +kernel) ?_
  refine lv_istore_n (lv' := [(1, .int (-1)), (0, .ref mo)]) hx hb dX4_nextToGo_6 rfl hl (by decide) rfl (fun ls hl => ?_)
  refine lv_iconst (v := nI 0) hx hb dX4_nextToGo_7 (by decide +kernel) ?_
  refine lv_istore_n (lv' := [(2, .int (nI 0)), (1, .int (-1)), (0, .ref mo)]) hx hb dX4_nextToGo_8 rfl hl (by decide) rfl (fun ls hl => ?_)
  have loop_1 : ∀ (n : Nat) (i : Nat), (i ≤ (stT q).length) → (stT q).length - i < n → ∀ (H : Heap) (locs : List Loc), va_P D vwCl [(mo, .inr (4, [.int (nI 0), .int (nI (stS q)), .int (stM q), .int (nI ((stT q).length)), .ref qi, .ref qs, .ref qe, .ref qn, .ref qk])), (qi, .inl (cI, 6, .inl gi)), (qs, .inl (cI, 6, .inl gs)), (qe, .inl (cI, 6, .inl ge)), (qn, .inl (cI, 42, .inl w))] H → va_D A [(mo, .inr (4, [.int (nI 0), .int (nI (stS q)), .int (stM q), .int (nI ((stT q).length)), .ref qi, .ref qs, .ref qe, .ref qn, .ref qk])), (qi, .inl (cI, 6, .inl gi)), (qs, .inl (cI, 6, .inl gs)), (qe, .inl (cI, 6, .inl ge)), (qn, .inl (cI, 42, .inl w))] → va_S A ss.heap H locs → ∀ ls : Array Slot, lv_has ls 3 [(0, .ref mo), (1, .int (oI (am (isT (stT q)) (bPt (stT q)) i))), (2, .int (nI i))] → W p l e rm_X4_nextToGo ss m args below meth c H locs 0 0 Q (F0 m 9 ls []) := by
    intro n
    induction n with
    | zero => intro i hi hn; exact absurd hn (by omega)
    | succ n ih =>
      intro i hi hn H locs hP hD hS ls hl
      refine lv_iload_n hx hb dX4_nextToGo_9 rfl (lv_at hl 2 rfl) ?_
      refine lv_aload_n hx hb dX4_nextToGo_10 rfl (lv_at hl 0 rfl) ?_
      refine va_get (D := D) (ci := 4) (v := .int (nI ((stT q).length))) (C := RX4) (T := TX4) (N := 9) hx hb hts iX4 hown hK hP 0 rfl rfl 3 (by decide) f39 (fun _ h9 => h9) rfl dX4_nextToGo_11 ?_
      refine k_cmp_ge (tgt := 59) hx hb i ((stT q).length) rfl rfl (by omega) (by omega) dX4_nextToGo_14 (by decide) (fun c_14 => ?_) (fun c_14 => ?_)
      · skip
        obtain rfl : i = (stT q).length := by omega
        refine lv_iload_n hx hb dX4_nextToGo_59 rfl (lv_at hl 1 rfl) ?_
        exact ret (oI (am (isT (stT q)) (bPt (stT q)) ((stT q).length))) () _ _ _ _ _ _ (rfl) (hP.sub [0, 1, 2, 3, 4] (rfl)) (hD.sub [0, 1, 2, 3, 4] (by decide) (rfl)) hS (Nat.le_of_ble_eq_true rfl) (Nat.le_of_ble_eq_true rfl) dX4_nextToGo_60
      · skip
        refine lv_aload_n hx hb dX4_nextToGo_17 rfl (lv_at hl 0 rfl) ?_
        refine lv_iload_n hx hb dX4_nextToGo_18 rfl (lv_at hl 2 rfl) ?_
        refine k_callV (As := [.int (nI i)]) (rest := []) (wr := [(qi, .inl (cI, 6, .inl gi)), (qs, .inl (cI, 6, .inl gs)), (qe, .inl (cI, 6, .inl ge))]) F (c_X4_isThere l D cI mo qi qs qe qn qk (nI 0) (nI (stS q)) (stM q) (nI ((stT q).length)) w i (tkX ((stT q).getD i tk0)) ((nT.2 i c_14).2.2.2.2) (by omega)) gX4_nextToGo_X4_isThere rfl (nA := 1) (by decide +kernel) rfl ⟨Nat.le_of_ble_eq_true rfl, Nat.le_of_ble_eq_true rfl⟩ hK hP hD hS hA hG (ci := 4) (q0 := 0) rfl rfl rfl [0, 4] [1, 2, 3] rfl (by decide) rfl (by decide) (by decide) [0] rfl rfl hl.1 (Nat.le_of_ble_eq_true rfl) dX4_nextToGo_19 ⟨Nat.le_of_ble_eq_true rfl, Nat.le_of_ble_eq_true rfl⟩ (fun r_2 u H locs hr_19 hP hD hS => ?_)
        try dsimp only at hr_19
        have hP : va_P D vwCl [(qi, .inl (cI, 6, .inl gi)), (qs, .inl (cI, 6, .inl gs)), (qe, .inl (cI, 6, .inl ge)), (mo, .inr (4, [.int (nI 0), .int (nI (stS q)), .int (stM q), .int (nI ((stT q).length)), .ref qi, .ref qs, .ref qe, .ref qn, .ref qk])), (qn, .inl (cI, 42, .inl w))] H := hP
        have hD : va_D A [(qi, .inl (cI, 6, .inl gi)), (qs, .inl (cI, 6, .inl gs)), (qe, .inl (cI, 6, .inl ge)), (mo, .inr (4, [.int (nI 0), .int (nI (stS q)), .int (stM q), .int (nI ((stT q).length)), .ref qi, .ref qs, .ref qe, .ref qn, .ref qk])), (qn, .inl (cI, 42, .inl w))] := hD
        refine W.eq (g2 := F0 m 22 ls [.int r_2]) rfl ?_
        refine W.widen (k := 0) (n := 0) (Nat.le_of_ble_eq_true rfl) (Nat.le_of_ble_eq_true rfl) ?_
        refine lv_if_eq (tgt := 53) hx hb dX4_nextToGo_22 (by decide) (fun c_22 => ?_) (fun c_22 => ?_)
        · skip
          refine lv_iinc (v := nI (i + 1)) (lv' := [(2, .int (nI (i + 1))), (0, .ref mo), (1, .int (oI (am (isT (stT q)) (bPt (stT q)) i)))]) hx hb dX4_nextToGo_53 hl (k := 2) rfl (nI_1 _) (by decide) rfl (fun ls hl => ?_)
          refine lv_goto (tgt := 9) hx hb dX4_nextToGo_56 (by decide) ?_
          have e8 : am (isT (stT q)) (bPt (stT q)) (i + 1) = _ := lp_skip (bI_eq0 hr_19 c_22)
          exact ih (i + 1) (by omega) (by omega) _ _ (hP.sub [3, 0, 1, 2, 4] (rfl)) (hD.sub [3, 0, 1, 2, 4] (by decide) (rfl)) hS _ (lv_sub hl [1, 2, 0] (by rw [e8]; rfl))
        · skip
          refine lv_iload_n hx hb dX4_nextToGo_25 rfl (lv_at hl 1 rfl) ?_
          refine lv_iconst (v := -1) hx hb dX4_nextToGo_26 (by decide +kernel) ?_
          refine lv_icmp_eq (tgt := 51) hx hb dX4_nextToGo_27 (by decide) (fun c_27 => ?_) (fun c_27 => ?_)
          · skip
            refine lv_iload_n hx hb dX4_nextToGo_51 rfl (lv_at hl 2 rfl) ?_
            refine lv_istore_n (lv' := [(1, .int (nI i)), (0, .ref mo), (2, .int (nI i))]) hx hb dX4_nextToGo_52 rfl hl (by decide) rfl (fun ls hl => ?_)
            refine lv_iinc (v := nI (i + 1)) (lv' := [(2, .int (nI (i + 1))), (1, .int (nI i)), (0, .ref mo)]) hx hb dX4_nextToGo_53 hl (k := 2) rfl (nI_1 _) (by decide) rfl (fun ls hl => ?_)
            refine lv_goto (tgt := 9) hx hb dX4_nextToGo_56 (by decide) ?_
            have e8 : am (isT (stT q)) (bPt (stT q)) (i + 1) = _ := am_fst (am_no (by omega) c_27) (isT_t (bI_ne0 hr_19 c_22))
            exact ih (i + 1) (by omega) (by omega) _ _ (hP.sub [3, 0, 1, 2, 4] (rfl)) (hD.sub [3, 0, 1, 2, 4] (by decide) (rfl)) hS _ (lv_sub hl [2, 1, 0] (by rw [e8]; rfl))
          · skip
            obtain ⟨b9, hb9⟩ := am_ex c_27
            rw [hb9] at hl
            have hbl := (am_lt hb9).1
            refine lv_aload_n hx hb dX4_nextToGo_30 rfl (lv_at hl 0 rfl) ?_
            refine va_get (D := D) (ci := 4) (v := .ref qn) (C := RX4) (T := TX4) (N := 9) hx hb hts iX4 hown hK hP 3 rfl rfl 7 (by decide) f26 (fun _ h9 => h9) rfl dX4_nextToGo_31 ?_
            refine lv_bipush (v := nI 30) hx hb dX4_nextToGo_34 (by decide +kernel) ?_
            refine lv_iload_n hx hb dX4_nextToGo_36 rfl (lv_at hl 2 rfl) ?_
            refine k_iadd hx hb (nI (30 + i)) (nI_add _ _) dX4_nextToGo_37 ?_
            refine k_iald hx hb hK hP 4 0 rfl rfl (30 + i) (rfl) (by omega) (by decide) dX4_nextToGo_38 ?_
            refine k_top (v := nI (tkP ((stT q).getD i tk0))) ((nT.2 i c_14).2.2.2.1) ?_
            refine lv_aload_n hx hb dX4_nextToGo_39 rfl (lv_at hl 0 rfl) ?_
            refine va_get (D := D) (ci := 4) (v := .ref qn) (C := RX4) (T := TX4) (N := 9) hx hb hts iX4 hown hK hP 3 rfl rfl 7 (by decide) f26 (fun _ h9 => h9) rfl dX4_nextToGo_40 ?_
            refine lv_bipush (v := nI 30) hx hb dX4_nextToGo_43 (by decide +kernel) ?_
            refine lv_iload_n hx hb dX4_nextToGo_45 rfl (lv_at hl 1 rfl) ?_
            refine k_iadd hx hb (nI (30 + b9)) (nI_add _ _) dX4_nextToGo_46 ?_
            refine k_iald hx hb hK hP 4 0 rfl rfl (30 + b9) (rfl) (by omega) (by decide) dX4_nextToGo_47 ?_
            refine k_top (v := nI (tkP ((stT q).getD b9 tk0))) ((nT.2 b9 (by omega)).2.2.2.1) ?_
            refine k_cmp_ge (tgt := 53) hx hb (tkP ((stT q).getD i tk0)) (tkP ((stT q).getD b9 tk0)) rfl rfl (by have := (o3 i c_14).2.2.2; omega) (by have := (o3 b9 (by omega)).2.2.2; omega) dX4_nextToGo_48 (by decide) (fun c_48 => ?_) (fun c_48 => ?_)
            · skip
              refine lv_iinc (v := nI (i + 1)) (lv' := [(2, .int (nI (i + 1))), (0, .ref mo), (1, .int (nI b9))]) hx hb dX4_nextToGo_53 hl (k := 2) rfl (nI_1 _) (by decide) rfl (fun ls hl => ?_)
              refine lv_goto (tgt := 9) hx hb dX4_nextToGo_56 (by decide) ?_
              have e8 : am (isT (stT q)) (bPt (stT q)) (i + 1) = _ := lpb_keep hb9 c_48
              exact ih (i + 1) (by omega) (by omega) _ _ (hP.sub [3, 0, 1, 2, 4] (rfl)) (hD.sub [3, 0, 1, 2, 4] (by decide) (rfl)) hS _ (lv_sub hl [1, 2, 0] (by rw [e8]; rfl))
            · skip
              refine lv_iload_n hx hb dX4_nextToGo_51 rfl (lv_at hl 2 rfl) ?_
              refine lv_istore_n (lv' := [(1, .int (nI i)), (0, .ref mo), (2, .int (nI i))]) hx hb dX4_nextToGo_52 rfl hl (by decide) rfl (fun ls hl => ?_)
              refine lv_iinc (v := nI (i + 1)) (lv' := [(2, .int (nI (i + 1))), (1, .int (nI i)), (0, .ref mo)]) hx hb dX4_nextToGo_53 hl (k := 2) rfl (nI_1 _) (by decide) rfl (fun ls hl => ?_)
              refine lv_goto (tgt := 9) hx hb dX4_nextToGo_56 (by decide) ?_
              have e8 : am (isT (stT q)) (bPt (stT q)) (i + 1) = _ := lpb_new (bI_ne0 hr_19 c_22) hb9 c_48
              exact ih (i + 1) (by omega) (by omega) _ _ (hP.sub [3, 0, 1, 2, 4] (rfl)) (hD.sub [3, 0, 1, 2, 4] (by decide) (rfl)) hS _ (lv_sub hl [2, 1, 0] (by rw [e8]; rfl))
  exact loop_1 (((stT q).length) + 1) 0 (Nat.zero_le _) (by omega) _ _ (hP.sub [0, 1, 2, 3, 4] (rfl)) (hD.sub [0, 1, 2, 3, 4] (by decide) (rfl)) hS _ (lv_sub hl [2, 1, 0] (rfl))

abbrev rm_X4_meanPatience : Room := { frames := 2, cells := 0, slots := 0, locals := 43 }
set_option maxHeartbeats 4000000 in
set_option maxRecDepth 100000 in
theorem c_X4_meanPatience (l : Launch) (D : va_G) (cI : ClassId) (mo : Nat) (qi : Nat) (qs : Nat) (qe : Nat) (qn : Nat) (qk : Nat) (tw : Int32) (gi : Nat → Int32) (gs : Nat → Int32) (ge : Nat → Int32) (w : Nat → Int32) (q : St) (hN : rN gi gs ge w q) (hO : okS q) : kM krd l yX4_meanPatience wsX4_meanPatience rm_X4_meanPatience D [(cI, .int)] [.ref mo] [(mo, .inr (4, [.int tw, .int (nI (stS q)), .int (stM q), .int (nI ((stT q).length)), .ref qi, .ref qs, .ref qe, .ref qn, .ref qk])), (qi, .inl (cI, 6, .inl gi)), (qs, .inl (cI, 6, .inl gs)), (qe, .inl (cI, 6, .inl ge)), (qn, .inl (cI, 42, .inl w))] (fun (r : UInt64) (u : Unit) => r = mpS q) (fun (u : Unit) => [(mo, .inr (4, [.int (nI 0), .int (nI (stS q)), .int (stM q), .int (nI ((stT q).length)), .ref qi, .ref qs, .ref qe, .ref qn, .ref qk])), (qi, .inl (cI, 6, .inl gi)), (qs, .inl (cI, 6, .inl gs)), (qe, .inl (cI, 6, .inl ge)), (qn, .inl (cI, 42, .inl w))]) := by
  refine k_bodyD (cc := cX4_meanPatience) (maxL := 3) (by decide) rfl (Nat.le_of_ble_eq_true rfl) ?_
  intro p e ss m args below meth c A Q F hname hA hG hK hP hD hS ret ls hl
  obtain ⟨hx, hb, hml, hown, hts⟩ := id F
  have hP : va_P D vwCl [(mo, .inr (4, [.int tw, .int (nI (stS q)), .int (stM q), .int (nI ((stT q).length)), .ref qi, .ref qs, .ref qe, .ref qn, .ref qk])), (qi, .inl (cI, 6, .inl gi)), (qs, .inl (cI, 6, .inl gs)), (qe, .inl (cI, 6, .inl ge)), (qn, .inl (cI, 42, .inl w))] ss.heap := hP
  have hD : va_D A [(mo, .inr (4, [.int tw, .int (nI (stS q)), .int (stM q), .int (nI ((stT q).length)), .ref qi, .ref qs, .ref qe, .ref qn, .ref qk])), (qi, .inl (cI, 6, .inl gi)), (qs, .inl (cI, 6, .inl gs)), (qe, .inl (cI, 6, .inl ge)), (qn, .inl (cI, 42, .inl w))] := hD
  have hl : lv_has ls 3 [(0, .ref mo)] := hl
  have iX4 : ∀ w ∈ u_ws RX4 TX4 9, w ∈ wsX4_meanPatience := by decide +kernel
  have f26 := hts (.fieldLink RX4 26 "SmallerTalkModel" "now" "[I") (by decide +kernel)
  have f32 := hts (.fieldLink RX4 32 "SmallerTalkModel" "thrown" "I") (by decide +kernel)
  have f39 := hts (.fieldLink RX4 39 "SmallerTalkModel" "talkers" "I") (by decide +kernel)
  obtain ⟨n0, n1, n2, n3, n4, n5, nB, nT⟩ := id hN
  obtain ⟨o1, o2, o3, o4, o5, o6, o7⟩ := id hO
  have h6 := nT.1
  have hc6 := ctT_le hO
  refine lv_aload_n hx hb dX4_meanPatience_0 rfl (lv_at hl 0 rfl) ?_
  refine lv_iconst (v := nI 0) hx hb dX4_meanPatience_1 (by decide +kernel) ?_
  refine va_put (D := D) (ci := 4) (v := .int (nI 0)) (ty := .int) (C := RX4) (T := TX4) (N := 9) hx hb hts iX4 tyX4 tyX4_ok nmX4 hown hK hP hD hS 0 rfl rfl 0 (by decide) f32 (fun _ h9 => h9) rfl (by decide +kernel) rfl rfl (Nat.le_of_ble_eq_true rfl) dX4_meanPatience_2 (fun H locs hP hD hS => ?_)
  have hP : va_P D vwCl [(mo, .inr (4, [.int (nI 0), .int (nI (stS q)), .int (stM q), .int (nI ((stT q).length)), .ref qi, .ref qs, .ref qe, .ref qn, .ref qk])), (qi, .inl (cI, 6, .inl gi)), (qs, .inl (cI, 6, .inl gs)), (qe, .inl (cI, 6, .inl ge)), (qn, .inl (cI, 42, .inl w))] H := hP
  have hD : va_D A [(mo, .inr (4, [.int (nI 0), .int (nI (stS q)), .int (stM q), .int (nI ((stT q).length)), .ref qi, .ref qs, .ref qe, .ref qn, .ref qk])), (qi, .inl (cI, 6, .inl gi)), (qs, .inl (cI, 6, .inl gs)), (qe, .inl (cI, 6, .inl ge)), (qn, .inl (cI, 42, .inl w))] := hD
  refine lv_iconst (v := nI 0) hx hb dX4_meanPatience_5 (by decide +kernel) ?_
  refine lv_istore_n (lv' := [(1, .int (nI 0)), (0, .ref mo)]) hx hb dX4_meanPatience_6 rfl hl (by decide) rfl (fun ls hl => ?_)
  refine lv_iconst (v := nI 0) hx hb dX4_meanPatience_7 (by decide +kernel) ?_
  refine lv_istore_n (lv' := [(2, .int (nI 0)), (1, .int (nI 0)), (0, .ref mo)]) hx hb dX4_meanPatience_8 rfl hl (by decide) rfl (fun ls hl => ?_)
  have loop_1 : ∀ (n : Nat) (i : Nat), (i ≤ (stT q).length) → (stT q).length - i < n → ∀ (H : Heap) (locs : List Loc), va_P D vwCl [(mo, .inr (4, [.int (nI 0), .int (nI (stS q)), .int (stM q), .int (nI ((stT q).length)), .ref qi, .ref qs, .ref qe, .ref qn, .ref qk])), (qi, .inl (cI, 6, .inl gi)), (qs, .inl (cI, 6, .inl gs)), (qe, .inl (cI, 6, .inl ge)), (qn, .inl (cI, 42, .inl w))] H → va_D A [(mo, .inr (4, [.int (nI 0), .int (nI (stS q)), .int (stM q), .int (nI ((stT q).length)), .ref qi, .ref qs, .ref qe, .ref qn, .ref qk])), (qi, .inl (cI, 6, .inl gi)), (qs, .inl (cI, 6, .inl gs)), (qe, .inl (cI, 6, .inl ge)), (qn, .inl (cI, 42, .inl w))] → va_S A ss.heap H locs → ∀ ls : Array Slot, lv_has ls 3 [(0, .ref mo), (1, .int (nI (spN (stT q) i))), (2, .int (nI i))] → W p l e rm_X4_meanPatience ss m args below meth c H locs 0 0 Q (F0 m 9 ls []) := by
    intro n
    induction n with
    | zero => intro i hi hn; exact absurd hn (by omega)
    | succ n ih =>
      intro i hi hn H locs hP hD hS ls hl
      refine lv_iload_n hx hb dX4_meanPatience_9 rfl (lv_at hl 2 rfl) ?_
      refine lv_aload_n hx hb dX4_meanPatience_10 rfl (lv_at hl 0 rfl) ?_
      refine va_get (D := D) (ci := 4) (v := .int (nI ((stT q).length))) (C := RX4) (T := TX4) (N := 9) hx hb hts iX4 hown hK hP 0 rfl rfl 3 (by decide) f39 (fun _ h9 => h9) rfl dX4_meanPatience_11 ?_
      refine k_cmp_ge (tgt := 47) hx hb i ((stT q).length) rfl rfl (by omega) (by omega) dX4_meanPatience_14 (by decide) (fun c_14 => ?_) (fun c_14 => ?_)
      · skip
        obtain rfl : i = (stT q).length := by omega
        refine lv_aload_n hx hb dX4_meanPatience_47 rfl (lv_at hl 0 rfl) ?_
        refine k_callV (As := []) (rest := []) (wr := []) F (c_X4_there l D cI mo qi qs qe qn qk (nI 0) gi gs ge w q hN) gX4_meanPatience_X4_there rfl (nA := 0) (by decide +kernel) rfl ⟨Nat.le_of_ble_eq_true rfl, Nat.le_of_ble_eq_true rfl⟩ hK hP hD hS hA hG (ci := 4) (q0 := 0) rfl rfl rfl [0, 1, 2, 3, 4] [] rfl (by decide) rfl (by decide) (by decide) [0] rfl rfl hl.1 (Nat.le_of_ble_eq_true rfl) dX4_meanPatience_48 ⟨Nat.le_of_ble_eq_true rfl, Nat.le_of_ble_eq_true rfl⟩ (fun r_2 u H locs hr_48 hP hD hS => ?_)
        try dsimp only at hr_48
        have hP : va_P D vwCl [(mo, .inr (4, [.int (nI 0), .int (nI (stS q)), .int (stM q), .int (nI ((stT q).length)), .ref qi, .ref qs, .ref qe, .ref qn, .ref qk])), (qi, .inl (cI, 6, .inl gi)), (qs, .inl (cI, 6, .inl gs)), (qe, .inl (cI, 6, .inl ge)), (qn, .inl (cI, 42, .inl w))] H := hP
        have hD : va_D A [(mo, .inr (4, [.int (nI 0), .int (nI (stS q)), .int (stM q), .int (nI ((stT q).length)), .ref qi, .ref qs, .ref qe, .ref qn, .ref qk])), (qi, .inl (cI, 6, .inl gi)), (qs, .inl (cI, 6, .inl gs)), (qe, .inl (cI, 6, .inl ge)), (qn, .inl (cI, 42, .inl w))] := hD
        refine W.eq (g2 := F0 m 51 ls [.int r_2]) rfl ?_
        refine W.widen (k := 0) (n := 0) (Nat.le_of_ble_eq_true rfl) (Nat.le_of_ble_eq_true rfl) ?_
        refine k_top (v := nI (ctT (stT q))) (hr_48) ?_
        refine k_if_ne (tgt := 58) hx hb (ctT (stT q)) rfl (by omega) dX4_meanPatience_51 (by decide) (fun c_51 => ?_) (fun c_51 => ?_)
        · skip
          refine lv_iload_n hx hb dX4_meanPatience_58 rfl (lv_at hl 1 rfl) ?_
          refine lv_i2d hx hb dX4_meanPatience_59 ?_
          refine lv_aload_n hx hb dX4_meanPatience_60 rfl (lv_at hl 0 rfl) ?_
          refine k_callV (As := []) (rest := [.double (FP.i2d (nI (spN (stT q) ((stT q).length))))]) (wr := []) F (c_X4_there l D cI mo qi qs qe qn qk (nI 0) gi gs ge w q hN) gX4_meanPatience_X4_there rfl (nA := 0) (by decide +kernel) rfl ⟨Nat.le_of_ble_eq_true rfl, Nat.le_of_ble_eq_true rfl⟩ hK hP hD hS hA hG (ci := 4) (q0 := 0) rfl rfl rfl [0, 1, 2, 3, 4] [] rfl (by decide) rfl (by decide) (by decide) [0] rfl rfl hl.1 (Nat.le_of_ble_eq_true rfl) dX4_meanPatience_61 ⟨Nat.le_of_ble_eq_true rfl, Nat.le_of_ble_eq_true rfl⟩ (fun r_3 u H locs hr_61 hP hD hS => ?_)
          try dsimp only at hr_61
          have hP : va_P D vwCl [(mo, .inr (4, [.int (nI 0), .int (nI (stS q)), .int (stM q), .int (nI ((stT q).length)), .ref qi, .ref qs, .ref qe, .ref qn, .ref qk])), (qi, .inl (cI, 6, .inl gi)), (qs, .inl (cI, 6, .inl gs)), (qe, .inl (cI, 6, .inl ge)), (qn, .inl (cI, 42, .inl w))] H := hP
          have hD : va_D A [(mo, .inr (4, [.int (nI 0), .int (nI (stS q)), .int (stM q), .int (nI ((stT q).length)), .ref qi, .ref qs, .ref qe, .ref qn, .ref qk])), (qi, .inl (cI, 6, .inl gi)), (qs, .inl (cI, 6, .inl gs)), (qe, .inl (cI, 6, .inl ge)), (qn, .inl (cI, 42, .inl w))] := hD
          refine W.eq (g2 := F0 m 64 ls [.int r_3, .double (FP.i2d (nI (spN (stT q) ((stT q).length))))]) rfl ?_
          refine W.widen (k := 0) (n := 0) (Nat.le_of_ble_eq_true rfl) (Nat.le_of_ble_eq_true rfl) ?_
          refine k_top (v := nI (ctT (stT q))) (hr_61) ?_
          refine lv_i2d hx hb dX4_meanPatience_64 ?_
          refine lv_ddiv hx hb dX4_meanPatience_65 (mp_ok hO c_51) ?_
          exact ret (FP.ddiv (FP.i2d (nI (spN (stT q) ((stT q).length)))) (FP.i2d (nI (ctT (stT q))))) () _ _ _ _ _ _ (by rw [mpS, if_neg (by omega)]; rfl) (hP.sub [0, 1, 2, 3, 4] (rfl)) (hD.sub [0, 1, 2, 3, 4] (by decide) (rfl)) hS (Nat.le_of_ble_eq_true rfl) (Nat.le_of_ble_eq_true rfl) dX4_meanPatience_66
        · skip
          refine lv_dconst0 hx hb dX4_meanPatience_54 ?_
          refine lv_goto (tgt := 66) hx hb dX4_meanPatience_55 (by decide) ?_
          exact ret FP.dconst0 () _ _ _ _ _ _ (by rw [mpS, if_pos c_51]) (hP.sub [0, 1, 2, 3, 4] (rfl)) (hD.sub [0, 1, 2, 3, 4] (by decide) (rfl)) hS (Nat.le_of_ble_eq_true rfl) (Nat.le_of_ble_eq_true rfl) dX4_meanPatience_66
      · skip
        refine lv_iload_n hx hb dX4_meanPatience_17 rfl (lv_at hl 1 rfl) ?_
        refine lv_aload_n hx hb dX4_meanPatience_18 rfl (lv_at hl 0 rfl) ?_
        refine lv_iload_n hx hb dX4_meanPatience_19 rfl (lv_at hl 2 rfl) ?_
        refine k_callV (As := [.int (nI i)]) (rest := [.int (nI (spN (stT q) i))]) (wr := [(qi, .inl (cI, 6, .inl gi)), (qs, .inl (cI, 6, .inl gs)), (qe, .inl (cI, 6, .inl ge))]) F (c_X4_isThere l D cI mo qi qs qe qn qk (nI 0) (nI (stS q)) (stM q) (nI ((stT q).length)) w i (tkX ((stT q).getD i tk0)) ((nT.2 i c_14).2.2.2.2) (by omega)) gX4_meanPatience_X4_isThere rfl (nA := 1) (by decide +kernel) rfl ⟨Nat.le_of_ble_eq_true rfl, Nat.le_of_ble_eq_true rfl⟩ hK hP hD hS hA hG (ci := 4) (q0 := 0) rfl rfl rfl [0, 4] [1, 2, 3] rfl (by decide) rfl (by decide) (by decide) [0] rfl rfl hl.1 (Nat.le_of_ble_eq_true rfl) dX4_meanPatience_20 ⟨Nat.le_of_ble_eq_true rfl, Nat.le_of_ble_eq_true rfl⟩ (fun r_4 u H locs hr_20 hP hD hS => ?_)
        try dsimp only at hr_20
        have hP : va_P D vwCl [(qi, .inl (cI, 6, .inl gi)), (qs, .inl (cI, 6, .inl gs)), (qe, .inl (cI, 6, .inl ge)), (mo, .inr (4, [.int (nI 0), .int (nI (stS q)), .int (stM q), .int (nI ((stT q).length)), .ref qi, .ref qs, .ref qe, .ref qn, .ref qk])), (qn, .inl (cI, 42, .inl w))] H := hP
        have hD : va_D A [(qi, .inl (cI, 6, .inl gi)), (qs, .inl (cI, 6, .inl gs)), (qe, .inl (cI, 6, .inl ge)), (mo, .inr (4, [.int (nI 0), .int (nI (stS q)), .int (stM q), .int (nI ((stT q).length)), .ref qi, .ref qs, .ref qe, .ref qn, .ref qk])), (qn, .inl (cI, 42, .inl w))] := hD
        refine W.eq (g2 := F0 m 23 ls [.int r_4, .int (nI (spN (stT q) i))]) rfl ?_
        refine W.widen (k := 0) (n := 0) (Nat.le_of_ble_eq_true rfl) (Nat.le_of_ble_eq_true rfl) ?_
        refine lv_if_eq (tgt := 38) hx hb dX4_meanPatience_23 (by decide) (fun c_23 => ?_) (fun c_23 => ?_)
        · skip
          refine lv_iconst (v := nI 0) hx hb dX4_meanPatience_38 (by decide +kernel) ?_
          refine k_iadd hx hb (nI ((spN (stT q) i) + 0)) (nI_add _ _) dX4_meanPatience_39 ?_
          refine lv_istore_n (lv' := [(1, .int (nI ((spN (stT q) i) + 0))), (0, .ref mo), (2, .int (nI i))]) hx hb dX4_meanPatience_40 rfl hl (by decide) rfl (fun ls hl => ?_)
          refine lv_iinc (v := nI (i + 1)) (lv' := [(2, .int (nI (i + 1))), (1, .int (nI ((spN (stT q) i) + 0))), (0, .ref mo)]) hx hb dX4_meanPatience_41 hl (k := 2) rfl (nI_1 _) (by decide) rfl (fun ls hl => ?_)
          refine lv_goto (tgt := 9) hx hb dX4_meanPatience_44 (by decide) ?_
          exact ih (i + 1) (by omega) (by omega) _ _ (hP.sub [3, 0, 1, 2, 4] (rfl)) (hD.sub [3, 0, 1, 2, 4] (by decide) (rfl)) hS _ (lv_sub hl [2, 1, 0] (by rw [sp_f (bI_eq0 hr_20 c_23)]; rfl))
        · skip
          refine lv_aload_n hx hb dX4_meanPatience_26 rfl (lv_at hl 0 rfl) ?_
          refine va_get (D := D) (ci := 4) (v := .ref qn) (C := RX4) (T := TX4) (N := 9) hx hb hts iX4 hown hK hP 3 rfl rfl 7 (by decide) f26 (fun _ h9 => h9) rfl dX4_meanPatience_27 ?_
          refine lv_bipush (v := nI 30) hx hb dX4_meanPatience_30 (by decide +kernel) ?_
          refine lv_iload_n hx hb dX4_meanPatience_32 rfl (lv_at hl 2 rfl) ?_
          refine k_iadd hx hb (nI (30 + i)) (nI_add _ _) dX4_meanPatience_33 ?_
          refine k_iald hx hb hK hP 4 0 rfl rfl (30 + i) (rfl) (by omega) (by decide) dX4_meanPatience_34 ?_
          refine k_top (v := nI (tkP ((stT q).getD i tk0))) ((nT.2 i c_14).2.2.2.1) ?_
          refine lv_goto (tgt := 39) hx hb dX4_meanPatience_35 (by decide) ?_
          refine k_iadd hx hb (nI ((spN (stT q) i) + (tkP ((stT q).getD i tk0)))) (nI_add _ _) dX4_meanPatience_39 ?_
          refine lv_istore_n (lv' := [(1, .int (nI ((spN (stT q) i) + (tkP ((stT q).getD i tk0))))), (0, .ref mo), (2, .int (nI i))]) hx hb dX4_meanPatience_40 rfl hl (by decide) rfl (fun ls hl => ?_)
          refine lv_iinc (v := nI (i + 1)) (lv' := [(2, .int (nI (i + 1))), (1, .int (nI ((spN (stT q) i) + (tkP ((stT q).getD i tk0))))), (0, .ref mo)]) hx hb dX4_meanPatience_41 hl (k := 2) rfl (nI_1 _) (by decide) rfl (fun ls hl => ?_)
          refine lv_goto (tgt := 9) hx hb dX4_meanPatience_44 (by decide) ?_
          exact ih (i + 1) (by omega) (by omega) _ _ (hP.sub [3, 0, 1, 2, 4] (rfl)) (hD.sub [3, 0, 1, 2, 4] (by decide) (rfl)) hS _ (lv_sub hl [2, 1, 0] (by rw [sp_t (bI_ne0 hr_20 c_23)]; rfl))
  exact loop_1 (((stT q).length) + 1) 0 (Nat.zero_le _) (by omega) _ _ (hP.sub [0, 1, 2, 3, 4] (rfl)) (hD.sub [0, 1, 2, 3, 4] (by decide) (rfl)) hS _ (lv_sub hl [2, 1, 0] (rfl))

abbrev rm_X4_put : Room := { frames := 2, cells := 0, slots := 0, locals := 43 }
set_option maxHeartbeats 4000000 in
set_option maxRecDepth 100000 in
theorem c_X4_put (l : Launch) (D : va_G) (cI : ClassId) (mo : Nat) (qi : Nat) (qs : Nat) (qe : Nat) (qn : Nat) (qk : Nat) (tw : Int32) (gi : Nat → Int32) (gs : Nat → Int32) (ge : Nat → Int32) (w : Nat → Int32) (q : St) (kn : Nat) (z : Nat) (hN : rN gi gs ge w q) (hk : kn < 5) (hz : 2 ≤ z ∧ z ≤ 99) (h12 : (stB q).length < 12) : kM kri l yX4_put wsX4_put rm_X4_put D [(cI, .int)] [.ref mo, .int (nI kn), .int (nI z)] [(mo, .inr (4, [.int tw, .int (nI (stS q)), .int (stM q), .int (nI ((stT q).length)), .ref qi, .ref qs, .ref qe, .ref qn, .ref qk])), (qi, .inl (cI, 6, .inl gi)), (qs, .inl (cI, 6, .inl gs)), (qe, .inl (cI, 6, .inl ge)), (qn, .inl (cI, 42, .inl w))] (fun (r : Int32) (u : (Nat → Int32)) => r = nI (stB q).length ∧ rN gi gs ge u (setB q (app (stB q) (nI kn, z)))) (fun (u : (Nat → Int32)) => [(mo, .inr (4, [.int (nI 0), .int (nI (stS q)), .int (stM q), .int (nI ((stT q).length)), .ref qi, .ref qs, .ref qe, .ref qn, .ref qk])), (qi, .inl (cI, 6, .inl gi)), (qs, .inl (cI, 6, .inl gs)), (qe, .inl (cI, 6, .inl ge)), (qn, .inl (cI, 42, .inl u))]) := by
  refine k_bodyI (cc := cX4_put) (maxL := 3) (by decide) rfl (Nat.le_of_ble_eq_true rfl) ?_
  intro p e ss m args below meth c A Q F hname hA hG hK hP hD hS ret ls hl
  obtain ⟨hx, hb, hml, hown, hts⟩ := id F
  have hP : va_P D vwCl [(mo, .inr (4, [.int tw, .int (nI (stS q)), .int (stM q), .int (nI ((stT q).length)), .ref qi, .ref qs, .ref qe, .ref qn, .ref qk])), (qi, .inl (cI, 6, .inl gi)), (qs, .inl (cI, 6, .inl gs)), (qe, .inl (cI, 6, .inl ge)), (qn, .inl (cI, 42, .inl w))] ss.heap := hP
  have hD : va_D A [(mo, .inr (4, [.int tw, .int (nI (stS q)), .int (stM q), .int (nI ((stT q).length)), .ref qi, .ref qs, .ref qe, .ref qn, .ref qk])), (qi, .inl (cI, 6, .inl gi)), (qs, .inl (cI, 6, .inl gs)), (qe, .inl (cI, 6, .inl ge)), (qn, .inl (cI, 42, .inl w))] := hD
  have hl : lv_has ls 3 [(0, .ref mo), (1, .int (nI kn)), (2, .int (nI z))] := hl
  have iX4 : ∀ w ∈ u_ws RX4 TX4 9, w ∈ wsX4_put := by decide +kernel
  have f26 := hts (.fieldLink RX4 26 "SmallerTalkModel" "now" "[I") (by decide +kernel)
  have f32 := hts (.fieldLink RX4 32 "SmallerTalkModel" "thrown" "I") (by decide +kernel)
  obtain ⟨n0, n1, n2, n3, n4, n5, nB, nT⟩ := id hN
  refine lv_aload_n hx hb dX4_put_0 rfl (lv_at hl 0 rfl) ?_
  refine lv_iconst (v := nI 0) hx hb dX4_put_1 (by decide +kernel) ?_
  refine va_put (D := D) (ci := 4) (v := .int (nI 0)) (ty := .int) (C := RX4) (T := TX4) (N := 9) hx hb hts iX4 tyX4 tyX4_ok nmX4 hown hK hP hD hS 0 rfl rfl 0 (by decide) f32 (fun _ h9 => h9) rfl (by decide +kernel) rfl rfl (Nat.le_of_ble_eq_true rfl) dX4_put_2 (fun H locs hP hD hS => ?_)
  have hP : va_P D vwCl [(mo, .inr (4, [.int (nI 0), .int (nI (stS q)), .int (stM q), .int (nI ((stT q).length)), .ref qi, .ref qs, .ref qe, .ref qn, .ref qk])), (qi, .inl (cI, 6, .inl gi)), (qs, .inl (cI, 6, .inl gs)), (qe, .inl (cI, 6, .inl ge)), (qn, .inl (cI, 42, .inl w))] H := hP
  have hD : va_D A [(mo, .inr (4, [.int (nI 0), .int (nI (stS q)), .int (stM q), .int (nI ((stT q).length)), .ref qi, .ref qs, .ref qe, .ref qn, .ref qk])), (qi, .inl (cI, 6, .inl gi)), (qs, .inl (cI, 6, .inl gs)), (qe, .inl (cI, 6, .inl ge)), (qn, .inl (cI, 42, .inl w))] := hD
  refine lv_iload_n hx hb dX4_put_5 rfl (lv_at hl 1 rfl) ?_
  refine lv_iload_n hx hb dX4_put_6 rfl (lv_at hl 2 rfl) ?_
  refine k_callS (As := [.int (nI kn), .int (nI z)]) (rest := []) (wr := [(mo, .inr (4, [.int (nI 0), .int (nI (stS q)), .int (stM q), .int (nI ((stT q).length)), .ref qi, .ref qs, .ref qe, .ref qn, .ref qk])), (qi, .inl (cI, 6, .inl gi)), (qs, .inl (cI, 6, .inl gs)), (qe, .inl (cI, 6, .inl ge)), (qn, .inl (cI, 42, .inl w))]) F (c_X4_isTopic l D cI kn z hk hz) gX4_put_X4_isTopic rfl (nA := 2) (by decide +kernel) rfl ⟨Nat.le_of_ble_eq_true rfl, Nat.le_of_ble_eq_true rfl⟩ hK hP hD hS hA hG [] [0, 1, 2, 3, 4] rfl (by decide) rfl (by decide) (by decide) [0] rfl rfl hl.1 (Nat.le_of_ble_eq_true rfl) dX4_put_7 ⟨Nat.le_of_ble_eq_true rfl, Nat.le_of_ble_eq_true rfl⟩ (fun r_1 u H locs hr_7 hP hD hS => ?_)
  try dsimp only at hr_7
  have hP : va_P D vwCl [(mo, .inr (4, [.int (nI 0), .int (nI (stS q)), .int (stM q), .int (nI ((stT q).length)), .ref qi, .ref qs, .ref qe, .ref qn, .ref qk])), (qi, .inl (cI, 6, .inl gi)), (qs, .inl (cI, 6, .inl gs)), (qe, .inl (cI, 6, .inl ge)), (qn, .inl (cI, 42, .inl w))] H := hP
  have hD : va_D A [(mo, .inr (4, [.int (nI 0), .int (nI (stS q)), .int (stM q), .int (nI ((stT q).length)), .ref qi, .ref qs, .ref qe, .ref qn, .ref qk])), (qi, .inl (cI, 6, .inl gi)), (qs, .inl (cI, 6, .inl gs)), (qe, .inl (cI, 6, .inl ge)), (qn, .inl (cI, 42, .inl w))] := hD
  refine W.eq (g2 := F0 m 10 ls [.int r_1]) rfl ?_
  refine W.widen (k := 0) (n := 0) (Nat.le_of_ble_eq_true rfl) (Nat.le_of_ble_eq_true rfl) ?_
  refine k_top (v := nI 1) (hr_7) ?_
  refine k_if_ne (tgt := 19) hx hb 1 rfl (by omega) dX4_put_10 (by decide) (fun c_10 => ?_) (fun c_10 => ?_)
  · skip
    refine lv_aload_n hx hb dX4_put_19 rfl (lv_at hl 0 rfl) ?_
    refine va_get (D := D) (ci := 4) (v := .ref qn) (C := RX4) (T := TX4) (N := 9) hx hb hts iX4 hown hK hP 0 rfl rfl 7 (by decide) f26 (fun _ h9 => h9) rfl dX4_put_20 ?_
    refine lv_iconst (v := nI 1) hx hb dX4_put_23 (by decide +kernel) ?_
    refine k_iald hx hb hK hP 4 0 rfl rfl 1 (rfl) (by omega) (by decide) dX4_put_24 ?_
    refine k_top (v := nI ((stB q).length)) (n1) ?_
    refine lv_bipush (v := nI 12) hx hb dX4_put_25 (by decide +kernel) ?_
    refine k_cmp_ne (tgt := 36) hx hb ((stB q).length) 12 rfl rfl (by omega) (by omega) dX4_put_27 (by decide) (fun c_27 => ?_) (fun c_27 => ?_)
    · skip
      refine lv_aload_n hx hb dX4_put_36 rfl (lv_at hl 0 rfl) ?_
      refine lv_iload_n hx hb dX4_put_37 rfl (lv_at hl 1 rfl) ?_
      refine lv_iload_n hx hb dX4_put_38 rfl (lv_at hl 2 rfl) ?_
      refine k_callV (As := [.int (nI kn), .int (nI z)]) (rest := []) (wr := [(qi, .inl (cI, 6, .inl gi)), (qs, .inl (cI, 6, .inl gs)), (qe, .inl (cI, 6, .inl ge))]) F (c_X4_add l D cI mo qi qs qe qn qk (nI 0) (nI (stS q)) (stM q) (nI ((stT q).length)) w (stB q) (nI kn) z n1 nB h12) gX4_put_X4_add rfl (nA := 2) (by decide +kernel) rfl ⟨Nat.le_of_ble_eq_true rfl, Nat.le_of_ble_eq_true rfl⟩ hK hP hD hS hA hG (ci := 4) (q0 := 0) rfl rfl rfl [0, 4] [1, 2, 3] rfl (by decide) rfl (by decide) (by decide) [0] rfl rfl hl.1 (Nat.le_of_ble_eq_true rfl) dX4_put_39 ⟨Nat.le_of_ble_eq_true rfl, Nat.le_of_ble_eq_true rfl⟩ (fun r_2 u H locs hr_39 hP hD hS => ?_)
      obtain ⟨v2, rfl⟩ : ∃ z, z = u := ⟨_, rfl⟩
      try dsimp only at hr_39
      have hP : va_P D vwCl [(qi, .inl (cI, 6, .inl gi)), (qs, .inl (cI, 6, .inl gs)), (qe, .inl (cI, 6, .inl ge)), (mo, .inr (4, [.int (nI 0), .int (nI (stS q)), .int (stM q), .int (nI ((stT q).length)), .ref qi, .ref qs, .ref qe, .ref qn, .ref qk])), (qn, .inl (cI, 42, .inl v2))] H := hP
      have hD : va_D A [(qi, .inl (cI, 6, .inl gi)), (qs, .inl (cI, 6, .inl gs)), (qe, .inl (cI, 6, .inl ge)), (mo, .inr (4, [.int (nI 0), .int (nI (stS q)), .int (stM q), .int (nI ((stT q).length)), .ref qi, .ref qs, .ref qe, .ref qn, .ref qk])), (qn, .inl (cI, 42, .inl v2))] := hD
      refine W.widen (k := 0) (n := 0) (Nat.le_of_ble_eq_true rfl) (Nat.le_of_ble_eq_true rfl) ?_
      refine lv_aload_n hx hb dX4_put_42 rfl (lv_at hl 0 rfl) ?_
      refine va_get (D := D) (ci := 4) (v := .ref qn) (C := RX4) (T := TX4) (N := 9) hx hb hts iX4 hown hK hP 3 rfl rfl 7 (by decide) f26 (fun _ h9 => h9) rfl dX4_put_43 ?_
      refine lv_iconst (v := nI 1) hx hb dX4_put_46 (by decide +kernel) ?_
      refine k_iald hx hb hK hP 4 0 rfl rfl 1 (rfl) (by omega) (by decide) dX4_put_47 ?_
      refine k_top (v := nI ((app (stB q) (nI kn, z)).length)) (hr_39.2.1) ?_
      refine lv_iconst (v := nI 1) hx hb dX4_put_48 (by decide +kernel) ?_
      refine k_isub hx hb (nI ((stB q).length)) (by rw [app_lenS h12]; exact k_subN _ _) dX4_put_49 ?_
      exact ret (nI ((stB q).length)) v2 _ _ _ _ _ _ (⟨rfl, rN_B hN hr_39.1 hr_39.2.1 hr_39.2.2⟩) (hP.sub [3, 0, 1, 2, 4] (rfl)) (hD.sub [3, 0, 1, 2, 4] (by decide) (rfl)) hS (Nat.le_of_ble_eq_true rfl) (Nat.le_of_ble_eq_true rfl) dX4_put_50
    · skip
      exact absurd c_27 (by omega)
  · exact absurd c_10 (by omega)

abbrev rm_X4_toFront : Room := { frames := 0, cells := 0, slots := 0, locals := 0 }
set_option maxHeartbeats 4000000 in
set_option maxRecDepth 100000 in
theorem c_X4_toFront (l : Launch) (D : va_G) (cI : ClassId) (mo : Nat) (qi : Nat) (qs : Nat) (qe : Nat) (qn : Nat) (qk : Nat) (tw : Int32) (sv : Int32) (sm : Int32) (nt : Int32) (w : Nat → Int32) (L : List Tp) (j : Nat) (hV : rV w L) (hj : j < L.length) : kM krv l yX4_toFront wsX4_toFront rm_X4_toFront D [(cI, .int)] [.ref mo, .int (nI j)] [(mo, .inr (4, [.int tw, .int sv, .int sm, .int nt, .ref qi, .ref qs, .ref qe, .ref qn, .ref qk])), (qn, .inl (cI, 42, .inl w))] (fun (r : Unit) (u : (Nat → Int32)) => rV u (mtf L j) ∧ ∀ t, t < 6 ∨ 30 ≤ t → u t = w t) (fun (u : (Nat → Int32)) => [(mo, .inr (4, [.int tw, .int sv, .int sm, .int nt, .ref qi, .ref qs, .ref qe, .ref qn, .ref qk])), (qn, .inl (cI, 42, .inl u))]) := by
  refine k_bodyV (cc := cX4_toFront) (maxL := 5) (by decide) rfl (Nat.le_of_ble_eq_true rfl) ?_
  intro p e ss m args below meth c A Q F hname hA hG hK hP hD hS ret ls hl
  obtain ⟨hx, hb, hml, hown, hts⟩ := id F
  have hP : va_P D vwCl [(mo, .inr (4, [.int tw, .int sv, .int sm, .int nt, .ref qi, .ref qs, .ref qe, .ref qn, .ref qk])), (qn, .inl (cI, 42, .inl w))] ss.heap := hP
  have hD : va_D A [(mo, .inr (4, [.int tw, .int sv, .int sm, .int nt, .ref qi, .ref qs, .ref qe, .ref qn, .ref qk])), (qn, .inl (cI, 42, .inl w))] := hD
  have hl : lv_has ls 5 [(0, .ref mo), (1, .int (nI j))] := hl
  have iX4 : ∀ w ∈ u_ws RX4 TX4 9, w ∈ wsX4_toFront := by decide +kernel
  have f26 := hts (.fieldLink RX4 26 "SmallerTalkModel" "now" "[I") (by decide +kernel)
  have h12 := hV.1
  refine lv_aload_n hx hb dX4_toFront_0 rfl (lv_at hl 0 rfl) ?_
  refine va_get (D := D) (ci := 4) (v := .ref qn) (C := RX4) (T := TX4) (N := 9) hx hb hts iX4 hown hK hP 0 rfl rfl 7 (by decide) f26 (fun _ h9 => h9) rfl dX4_toFront_1 ?_
  refine lv_bipush (v := nI 6) hx hb dX4_toFront_4 (by decide +kernel) ?_
  refine lv_iload_n hx hb dX4_toFront_6 rfl (lv_at hl 1 rfl) ?_
  refine k_iadd hx hb (nI (6 + j)) (nI_add _ _) dX4_toFront_7 ?_
  refine k_iald hx hb hK hP 1 0 rfl rfl (6 + j) (rfl) (by omega) (by decide) dX4_toFront_8 ?_
  refine lv_istore_n (lv' := [(2, .int (w (6 + j))), (0, .ref mo), (1, .int (nI j))]) hx hb dX4_toFront_9 rfl hl (by decide) rfl (fun ls hl => ?_)
  refine lv_aload_n hx hb dX4_toFront_10 rfl (lv_at hl 1 rfl) ?_
  refine va_get (D := D) (ci := 4) (v := .ref qn) (C := RX4) (T := TX4) (N := 9) hx hb hts iX4 hown hK hP 0 rfl rfl 7 (by decide) f26 (fun _ h9 => h9) rfl dX4_toFront_11 ?_
  refine lv_bipush (v := nI 18) hx hb dX4_toFront_14 (by decide +kernel) ?_
  refine lv_iload_n hx hb dX4_toFront_16 rfl (lv_at hl 2 rfl) ?_
  refine k_iadd hx hb (nI (18 + j)) (nI_add _ _) dX4_toFront_17 ?_
  refine k_iald hx hb hK hP 1 0 rfl rfl (18 + j) (rfl) (by omega) (by decide) dX4_toFront_18 ?_
  refine lv_istore_n (lv' := [(3, .int (w (18 + j))), (2, .int (w (6 + j))), (0, .ref mo), (1, .int (nI j))]) hx hb dX4_toFront_19 rfl hl (by decide) rfl (fun ls hl => ?_)
  refine lv_iload_n hx hb dX4_toFront_20 rfl (lv_at hl 3 rfl) ?_
  refine lv_istore (lv' := [(4, .int (nI j)), (3, .int (w (18 + j))), (2, .int (w (6 + j))), (0, .ref mo), (1, .int (nI j))]) hx hb dX4_toFront_21 hl (by decide) rfl (fun ls hl => ?_)
  have loop_1 : ∀ (n : Nat) (t : Nat) (w1 : Nat → Int32), (t ≤ j) → (shM w w1 t j) → t < n → ∀ (H : Heap) (locs : List Loc), va_P D vwCl [(mo, .inr (4, [.int tw, .int sv, .int sm, .int nt, .ref qi, .ref qs, .ref qe, .ref qn, .ref qk])), (qn, .inl (cI, 42, .inl w1))] H → va_D A [(mo, .inr (4, [.int tw, .int sv, .int sm, .int nt, .ref qi, .ref qs, .ref qe, .ref qn, .ref qk])), (qn, .inl (cI, 42, .inl w1))] → va_S A ss.heap H locs → ∀ ls : Array Slot, lv_has ls 5 [(0, .ref mo), (1, .int (nI j)), (2, .int (w (6 + j))), (3, .int (w (18 + j))), (4, .int (nI t))] → W p l e rm_X4_toFront ss m args below meth c H locs 0 0 Q (F0 m 23 ls []) := by
    intro n
    induction n with
    | zero => intro t w1 ht h1 hn; exact absurd hn (by omega)
    | succ n ih =>
      intro t w1 ht h1 hn H locs hP hD hS ls hl
      refine lv_iload hx hb dX4_toFront_23 (lv_at hl 4 rfl) ?_
      refine k_if_le (tgt := 78) hx hb t rfl (by omega) dX4_toFront_25 (by decide) (fun c_25 => ?_) (fun c_25 => ?_)
      · skip
        subst c_25
        refine lv_aload_n hx hb dX4_toFront_78 rfl (lv_at hl 0 rfl) ?_
        refine va_get (D := D) (ci := 4) (v := .ref qn) (C := RX4) (T := TX4) (N := 9) hx hb hts iX4 hown hK hP 0 rfl rfl 7 (by decide) f26 (fun _ h9 => h9) rfl dX4_toFront_79 ?_
        refine lv_bipush (v := nI 6) hx hb dX4_toFront_82 (by decide +kernel) ?_
        refine lv_iload_n hx hb dX4_toFront_84 rfl (lv_at hl 2 rfl) ?_
        refine k_iast hx hb hK hP hD hS 1 0 rfl rfl 6 (rfl) (by omega) (by decide) dX4_toFront_85 (fun H locs hP hD hS => ?_)
        have hP : va_P D vwCl [(mo, .inr (4, [.int tw, .int sv, .int sm, .int nt, .ref qi, .ref qs, .ref qe, .ref qn, .ref qk])), (qn, .inl (cI, 42, .inl (upd w1 6 (w (6 + j)))))] H := hP
        have hD : va_D A [(mo, .inr (4, [.int tw, .int sv, .int sm, .int nt, .ref qi, .ref qs, .ref qe, .ref qn, .ref qk])), (qn, .inl (cI, 42, .inl (upd w1 6 (w (6 + j)))))] := hD
        refine lv_aload_n hx hb dX4_toFront_86 rfl (lv_at hl 0 rfl) ?_
        refine va_get (D := D) (ci := 4) (v := .ref qn) (C := RX4) (T := TX4) (N := 9) hx hb hts iX4 hown hK hP 0 rfl rfl 7 (by decide) f26 (fun _ h9 => h9) rfl dX4_toFront_87 ?_
        refine lv_bipush (v := nI 18) hx hb dX4_toFront_90 (by decide +kernel) ?_
        refine lv_iload_n hx hb dX4_toFront_92 rfl (lv_at hl 3 rfl) ?_
        refine k_iast hx hb hK hP hD hS 1 0 rfl rfl 18 (rfl) (by omega) (by decide) dX4_toFront_93 (fun H locs hP hD hS => ?_)
        have hP : va_P D vwCl [(mo, .inr (4, [.int tw, .int sv, .int sm, .int nt, .ref qi, .ref qs, .ref qe, .ref qn, .ref qk])), (qn, .inl (cI, 42, .inl (upd (upd w1 6 (w (6 + j))) 18 (w (18 + j)))))] H := hP
        have hD : va_D A [(mo, .inr (4, [.int tw, .int sv, .int sm, .int nt, .ref qi, .ref qs, .ref qe, .ref qn, .ref qk])), (qn, .inl (cI, 42, .inl (upd (upd w1 6 (w (6 + j))) 18 (w (18 + j)))))] := hD
        exact ret (upd (upd w1 6 (w (6 + j))) 18 (w (18 + j))) _ _ _ _ _ _ (⟨rV_mtf hV hj h1, fr_mtf h1⟩) (hP.sub [0, 1] (rfl)) (hD.sub [0, 1] (by decide) (rfl)) hS (Nat.le_of_ble_eq_true rfl) (Nat.le_of_ble_eq_true rfl) dX4_toFront_94
      · skip
        obtain ⟨t1, rfl⟩ : ∃ z, t = z + 1 := ⟨t - 1, by omega⟩
        refine lv_aload_n hx hb dX4_toFront_28 rfl (lv_at hl 0 rfl) ?_
        refine va_get (D := D) (ci := 4) (v := .ref qn) (C := RX4) (T := TX4) (N := 9) hx hb hts iX4 hown hK hP 0 rfl rfl 7 (by decide) f26 (fun _ h9 => h9) rfl dX4_toFront_29 ?_
        refine lv_bipush (v := nI 6) hx hb dX4_toFront_32 (by decide +kernel) ?_
        refine lv_iload hx hb dX4_toFront_34 (lv_at hl 4 rfl) ?_
        refine k_iadd hx hb (nI (6 + (t1 + 1))) (nI_add _ _) dX4_toFront_36 ?_
        refine lv_aload_n hx hb dX4_toFront_37 rfl (lv_at hl 0 rfl) ?_
        refine va_get (D := D) (ci := 4) (v := .ref qn) (C := RX4) (T := TX4) (N := 9) hx hb hts iX4 hown hK hP 0 rfl rfl 7 (by decide) f26 (fun _ h9 => h9) rfl dX4_toFront_38 ?_
        refine lv_bipush (v := nI 6) hx hb dX4_toFront_41 (by decide +kernel) ?_
        refine lv_iload hx hb dX4_toFront_43 (lv_at hl 4 rfl) ?_
        refine k_iadd hx hb (nI (6 + (t1 + 1))) (nI_add _ _) dX4_toFront_45 ?_
        refine lv_iconst (v := nI 1) hx hb dX4_toFront_46 (by decide +kernel) ?_
        refine k_isub hx hb (nI (6 + t1)) (k_subN (6 + t1) 1) dX4_toFront_47 ?_
        refine k_iald hx hb hK hP 1 0 rfl rfl (6 + t1) (rfl) (by omega) (by decide) dX4_toFront_48 ?_
        refine k_iast hx hb hK hP hD hS 1 0 rfl rfl (6 + (t1 + 1)) (rfl) (by omega) (by decide) dX4_toFront_49 (fun H locs hP hD hS => ?_)
        have hP : va_P D vwCl [(mo, .inr (4, [.int tw, .int sv, .int sm, .int nt, .ref qi, .ref qs, .ref qe, .ref qn, .ref qk])), (qn, .inl (cI, 42, .inl (upd w1 (6 + (t1 + 1)) (w1 (6 + t1)))))] H := hP
        have hD : va_D A [(mo, .inr (4, [.int tw, .int sv, .int sm, .int nt, .ref qi, .ref qs, .ref qe, .ref qn, .ref qk])), (qn, .inl (cI, 42, .inl (upd w1 (6 + (t1 + 1)) (w1 (6 + t1)))))] := hD
        refine lv_aload_n hx hb dX4_toFront_50 rfl (lv_at hl 0 rfl) ?_
        refine va_get (D := D) (ci := 4) (v := .ref qn) (C := RX4) (T := TX4) (N := 9) hx hb hts iX4 hown hK hP 0 rfl rfl 7 (by decide) f26 (fun _ h9 => h9) rfl dX4_toFront_51 ?_
        refine lv_bipush (v := nI 18) hx hb dX4_toFront_54 (by decide +kernel) ?_
        refine lv_iload hx hb dX4_toFront_56 (lv_at hl 4 rfl) ?_
        refine k_iadd hx hb (nI (18 + (t1 + 1))) (nI_add _ _) dX4_toFront_58 ?_
        refine lv_aload_n hx hb dX4_toFront_59 rfl (lv_at hl 0 rfl) ?_
        refine va_get (D := D) (ci := 4) (v := .ref qn) (C := RX4) (T := TX4) (N := 9) hx hb hts iX4 hown hK hP 0 rfl rfl 7 (by decide) f26 (fun _ h9 => h9) rfl dX4_toFront_60 ?_
        refine lv_bipush (v := nI 18) hx hb dX4_toFront_63 (by decide +kernel) ?_
        refine lv_iload hx hb dX4_toFront_65 (lv_at hl 4 rfl) ?_
        refine k_iadd hx hb (nI (18 + (t1 + 1))) (nI_add _ _) dX4_toFront_67 ?_
        refine lv_iconst (v := nI 1) hx hb dX4_toFront_68 (by decide +kernel) ?_
        refine k_isub hx hb (nI (18 + t1)) (k_subN (18 + t1) 1) dX4_toFront_69 ?_
        refine k_iald hx hb hK hP 1 0 rfl rfl (18 + t1) (rfl) (by omega) (by decide) dX4_toFront_70 ?_
        refine k_top (v := w1 (18 + t1)) (pk_un (by omega)) ?_
        refine k_iast hx hb hK hP hD hS 1 0 rfl rfl (18 + (t1 + 1)) (rfl) (by omega) (by decide) dX4_toFront_71 (fun H locs hP hD hS => ?_)
        have hP : va_P D vwCl [(mo, .inr (4, [.int tw, .int sv, .int sm, .int nt, .ref qi, .ref qs, .ref qe, .ref qn, .ref qk])), (qn, .inl (cI, 42, .inl (upd (upd w1 (6 + (t1 + 1)) (w1 (6 + t1))) (18 + (t1 + 1)) (w1 (18 + t1)))))] H := hP
        have hD : va_D A [(mo, .inr (4, [.int tw, .int sv, .int sm, .int nt, .ref qi, .ref qs, .ref qe, .ref qn, .ref qk])), (qn, .inl (cI, 42, .inl (upd (upd w1 (6 + (t1 + 1)) (w1 (6 + t1))) (18 + (t1 + 1)) (w1 (18 + t1)))))] := hD
        refine lv_iinc (v := nI t1) (lv' := [(4, .int (nI t1)), (0, .ref mo), (1, .int (nI j)), (2, .int (w (6 + j))), (3, .int (w (18 + j)))]) hx hb dX4_toFront_72 hl (k := 4) rfl (k_m1 _) (by decide) rfl (fun ls hl => ?_)
        refine lv_goto (tgt := 23) hx hb dX4_toFront_75 (by decide) ?_
        exact ih t1 (upd (upd w1 (6 + (t1 + 1)) (w1 (6 + t1))) (18 + (t1 + 1)) (w1 (18 + t1))) (by omega) (shM_s h1 ht (by omega)) (by omega) _ _ (hP.sub [0, 1] (rfl)) (hD.sub [0, 1] (by decide) (rfl)) hS _ (lv_sub hl [1, 2, 3, 4, 0] (rfl))
  exact loop_1 (j + 1) j w (Nat.le_refl _) (shM_0 _ _) (by omega) _ _ (hP.sub [0, 1] (rfl)) (hD.sub [0, 1] (by decide) (rfl)) hS _ (lv_sub hl [3, 4, 2, 1, 0] (rfl))

abbrev rm_X4_pushToFront : Room := { frames := 2, cells := 0, slots := 0, locals := 43 }
set_option maxHeartbeats 4000000 in
set_option maxRecDepth 100000 in
theorem c_X4_pushToFront (l : Launch) (D : va_G) (cI : ClassId) (mo : Nat) (qi : Nat) (qs : Nat) (qe : Nat) (qn : Nat) (qk : Nat) (tw : Int32) (gi : Nat → Int32) (gs : Nat → Int32) (ge : Nat → Int32) (w : Nat → Int32) (q : St) (j : Nat) (hN : rN gi gs ge w q) (hj : j < (stB q).length) : kM kri l yX4_pushToFront wsX4_pushToFront rm_X4_pushToFront D [(cI, .int)] [.ref mo, .int (nI j)] [(mo, .inr (4, [.int tw, .int (nI (stS q)), .int (stM q), .int (nI ((stT q).length)), .ref qi, .ref qs, .ref qe, .ref qn, .ref qk])), (qi, .inl (cI, 6, .inl gi)), (qs, .inl (cI, 6, .inl gs)), (qe, .inl (cI, 6, .inl ge)), (qn, .inl (cI, 42, .inl w))] (fun (r : Int32) (u : (Nat → Int32)) => r = nI ((stB q).getD j tp0).2 ∧ rN gi gs ge u (setB q (mtf (stB q) j))) (fun (u : (Nat → Int32)) => [(mo, .inr (4, [.int (nI 0), .int (nI (stS q)), .int (stM q), .int (nI ((stT q).length)), .ref qi, .ref qs, .ref qe, .ref qn, .ref qk])), (qi, .inl (cI, 6, .inl gi)), (qs, .inl (cI, 6, .inl gs)), (qe, .inl (cI, 6, .inl ge)), (qn, .inl (cI, 42, .inl u))]) := by
  refine k_bodyI (cc := cX4_pushToFront) (maxL := 2) (by decide) rfl (Nat.le_of_ble_eq_true rfl) ?_
  intro p e ss m args below meth c A Q F hname hA hG hK hP hD hS ret ls hl
  obtain ⟨hx, hb, hml, hown, hts⟩ := id F
  have hP : va_P D vwCl [(mo, .inr (4, [.int tw, .int (nI (stS q)), .int (stM q), .int (nI ((stT q).length)), .ref qi, .ref qs, .ref qe, .ref qn, .ref qk])), (qi, .inl (cI, 6, .inl gi)), (qs, .inl (cI, 6, .inl gs)), (qe, .inl (cI, 6, .inl ge)), (qn, .inl (cI, 42, .inl w))] ss.heap := hP
  have hD : va_D A [(mo, .inr (4, [.int tw, .int (nI (stS q)), .int (stM q), .int (nI ((stT q).length)), .ref qi, .ref qs, .ref qe, .ref qn, .ref qk])), (qi, .inl (cI, 6, .inl gi)), (qs, .inl (cI, 6, .inl gs)), (qe, .inl (cI, 6, .inl ge)), (qn, .inl (cI, 42, .inl w))] := hD
  have hl : lv_has ls 2 [(0, .ref mo), (1, .int (nI j))] := hl
  have iX4 : ∀ w ∈ u_ws RX4 TX4 9, w ∈ wsX4_pushToFront := by decide +kernel
  have f26 := hts (.fieldLink RX4 26 "SmallerTalkModel" "now" "[I") (by decide +kernel)
  have f32 := hts (.fieldLink RX4 32 "SmallerTalkModel" "thrown" "I") (by decide +kernel)
  obtain ⟨n0, n1, n2, n3, n4, n5, nB, nT⟩ := id hN
  have h12 := nB.1
  have h6 := nT.1
  refine lv_aload_n hx hb dX4_pushToFront_0 rfl (lv_at hl 0 rfl) ?_
  refine lv_iconst (v := nI 0) hx hb dX4_pushToFront_1 (by decide +kernel) ?_
  refine va_put (D := D) (ci := 4) (v := .int (nI 0)) (ty := .int) (C := RX4) (T := TX4) (N := 9) hx hb hts iX4 tyX4 tyX4_ok nmX4 hown hK hP hD hS 0 rfl rfl 0 (by decide) f32 (fun _ h9 => h9) rfl (by decide +kernel) rfl rfl (Nat.le_of_ble_eq_true rfl) dX4_pushToFront_2 (fun H locs hP hD hS => ?_)
  have hP : va_P D vwCl [(mo, .inr (4, [.int (nI 0), .int (nI (stS q)), .int (stM q), .int (nI ((stT q).length)), .ref qi, .ref qs, .ref qe, .ref qn, .ref qk])), (qi, .inl (cI, 6, .inl gi)), (qs, .inl (cI, 6, .inl gs)), (qe, .inl (cI, 6, .inl ge)), (qn, .inl (cI, 42, .inl w))] H := hP
  have hD : va_D A [(mo, .inr (4, [.int (nI 0), .int (nI (stS q)), .int (stM q), .int (nI ((stT q).length)), .ref qi, .ref qs, .ref qe, .ref qn, .ref qk])), (qi, .inl (cI, 6, .inl gi)), (qs, .inl (cI, 6, .inl gs)), (qe, .inl (cI, 6, .inl ge)), (qn, .inl (cI, 42, .inl w))] := hD
  refine lv_aload_n hx hb dX4_pushToFront_5 rfl (lv_at hl 0 rfl) ?_
  refine lv_iload_n hx hb dX4_pushToFront_6 rfl (lv_at hl 1 rfl) ?_
  refine k_callV (As := [.int (nI j)]) (rest := []) (wr := [(qi, .inl (cI, 6, .inl gi)), (qs, .inl (cI, 6, .inl gs)), (qe, .inl (cI, 6, .inl ge))]) F (c_X4_isPlace l D cI mo qi qs qe qn qk (nI 0) (nI (stS q)) (stM q) (nI ((stT q).length)) w ((stB q).length) j n1 h12 hj) gX4_pushToFront_X4_isPlace rfl (nA := 1) (by decide +kernel) rfl ⟨Nat.le_of_ble_eq_true rfl, Nat.le_of_ble_eq_true rfl⟩ hK hP hD hS hA hG (ci := 4) (q0 := 0) rfl rfl rfl [0, 4] [1, 2, 3] rfl (by decide) rfl (by decide) (by decide) [0] rfl rfl hl.1 (Nat.le_of_ble_eq_true rfl) dX4_pushToFront_7 ⟨Nat.le_of_ble_eq_true rfl, Nat.le_of_ble_eq_true rfl⟩ (fun r_1 u H locs hr_7 hP hD hS => ?_)
  try dsimp only at hr_7
  have hP : va_P D vwCl [(qi, .inl (cI, 6, .inl gi)), (qs, .inl (cI, 6, .inl gs)), (qe, .inl (cI, 6, .inl ge)), (mo, .inr (4, [.int (nI 0), .int (nI (stS q)), .int (stM q), .int (nI ((stT q).length)), .ref qi, .ref qs, .ref qe, .ref qn, .ref qk])), (qn, .inl (cI, 42, .inl w))] H := hP
  have hD : va_D A [(qi, .inl (cI, 6, .inl gi)), (qs, .inl (cI, 6, .inl gs)), (qe, .inl (cI, 6, .inl ge)), (mo, .inr (4, [.int (nI 0), .int (nI (stS q)), .int (stM q), .int (nI ((stT q).length)), .ref qi, .ref qs, .ref qe, .ref qn, .ref qk])), (qn, .inl (cI, 42, .inl w))] := hD
  refine W.eq (g2 := F0 m 10 ls [.int r_1]) rfl ?_
  refine W.widen (k := 0) (n := 0) (Nat.le_of_ble_eq_true rfl) (Nat.le_of_ble_eq_true rfl) ?_
  refine k_top (v := nI 1) (hr_7) ?_
  refine k_if_ne (tgt := 19) hx hb 1 rfl (by omega) dX4_pushToFront_10 (by decide) (fun c_10 => ?_) (fun c_10 => ?_)
  · skip
    refine lv_aload_n hx hb dX4_pushToFront_19 rfl (lv_at hl 0 rfl) ?_
    refine lv_iload_n hx hb dX4_pushToFront_20 rfl (lv_at hl 1 rfl) ?_
    refine k_callV (As := [.int (nI j)]) (rest := []) (wr := [(qi, .inl (cI, 6, .inl gi)), (qs, .inl (cI, 6, .inl gs)), (qe, .inl (cI, 6, .inl ge))]) F (c_X4_toFront l D cI mo qi qs qe qn qk (nI 0) (nI (stS q)) (stM q) (nI ((stT q).length)) w (stB q) j nB hj) gX4_pushToFront_X4_toFront rfl (nA := 1) (by decide +kernel) rfl ⟨Nat.le_of_ble_eq_true rfl, Nat.le_of_ble_eq_true rfl⟩ hK hP hD hS hA hG (ci := 4) (q0 := 3) rfl rfl rfl [3, 4] [0, 1, 2] rfl (by decide) rfl (by decide) (by decide) [0] rfl rfl hl.1 (Nat.le_of_ble_eq_true rfl) dX4_pushToFront_21 ⟨Nat.le_of_ble_eq_true rfl, Nat.le_of_ble_eq_true rfl⟩ (fun r_2 u H locs hr_21 hP hD hS => ?_)
    obtain ⟨v2, rfl⟩ : ∃ z, z = u := ⟨_, rfl⟩
    try dsimp only at hr_21
    have hP : va_P D vwCl [(qi, .inl (cI, 6, .inl gi)), (qs, .inl (cI, 6, .inl gs)), (qe, .inl (cI, 6, .inl ge)), (mo, .inr (4, [.int (nI 0), .int (nI (stS q)), .int (stM q), .int (nI ((stT q).length)), .ref qi, .ref qs, .ref qe, .ref qn, .ref qk])), (qn, .inl (cI, 42, .inl v2))] H := hP
    have hD : va_D A [(qi, .inl (cI, 6, .inl gi)), (qs, .inl (cI, 6, .inl gs)), (qe, .inl (cI, 6, .inl ge)), (mo, .inr (4, [.int (nI 0), .int (nI (stS q)), .int (stM q), .int (nI ((stT q).length)), .ref qi, .ref qs, .ref qe, .ref qn, .ref qk])), (qn, .inl (cI, 42, .inl v2))] := hD
    refine W.widen (k := 0) (n := 0) (Nat.le_of_ble_eq_true rfl) (Nat.le_of_ble_eq_true rfl) ?_
    refine lv_aload_n hx hb dX4_pushToFront_24 rfl (lv_at hl 0 rfl) ?_
    refine va_get (D := D) (ci := 4) (v := .ref qn) (C := RX4) (T := TX4) (N := 9) hx hb hts iX4 hown hK hP 3 rfl rfl 7 (by decide) f26 (fun _ h9 => h9) rfl dX4_pushToFront_25 ?_
    refine lv_bipush (v := nI 6) hx hb dX4_pushToFront_28 (by decide +kernel) ?_
    refine k_iald hx hb hK hP 4 0 rfl rfl 6 (rfl) (by omega) (by decide) dX4_pushToFront_30 ?_
    refine k_top (v := nI (((stB q).getD j tp0).2)) ((hr_21.1.2 0 (by rw [mtf_len hj]; omega)).2.trans (by rw [mtf_gd, if_pos rfl])) ?_
    exact ret (nI (((stB q).getD j tp0).2)) v2 _ _ _ _ _ _ (⟨rfl, rN_B hN (fun t ht => hr_21.2 t (by omega)) ((hr_21.2 1 (by omega)).trans (n1.trans (by rw [mtf_len hj]))) hr_21.1⟩) (hP.sub [3, 0, 1, 2, 4] (rfl)) (hD.sub [3, 0, 1, 2, 4] (by decide) (rfl)) hS (Nat.le_of_ble_eq_true rfl) (Nat.le_of_ble_eq_true rfl) dX4_pushToFront_31
  · exact absurd c_10 (by omega)

abbrev rm_X4_drop : Room := { frames := 2, cells := 0, slots := 0, locals := 43 }
set_option maxHeartbeats 4000000 in
set_option maxRecDepth 100000 in
theorem c_X4_drop (l : Launch) (D : va_G) (cI : ClassId) (mo : Nat) (qi : Nat) (qs : Nat) (qe : Nat) (qn : Nat) (qk : Nat) (tw : Int32) (gi : Nat → Int32) (gs : Nat → Int32) (ge : Nat → Int32) (w : Nat → Int32) (q : St) (j : Nat) (hN : rN gi gs ge w q) (hj : j < (stB q).length) : kM kri l yX4_drop wsX4_drop rm_X4_drop D [(cI, .int)] [.ref mo, .int (nI j)] [(mo, .inr (4, [.int tw, .int (nI (stS q)), .int (stM q), .int (nI ((stT q).length)), .ref qi, .ref qs, .ref qe, .ref qn, .ref qk])), (qi, .inl (cI, 6, .inl gi)), (qs, .inl (cI, 6, .inl gs)), (qe, .inl (cI, 6, .inl ge)), (qn, .inl (cI, 42, .inl w))] (fun (r : Int32) (u : (Nat → Int32)) => r = nI ((stB q).eraseIdx j).length ∧ rN gi gs ge u (setB q ((stB q).eraseIdx j))) (fun (u : (Nat → Int32)) => [(mo, .inr (4, [.int (nI 0), .int (nI (stS q)), .int (stM q), .int (nI ((stT q).length)), .ref qi, .ref qs, .ref qe, .ref qn, .ref qk])), (qi, .inl (cI, 6, .inl gi)), (qs, .inl (cI, 6, .inl gs)), (qe, .inl (cI, 6, .inl ge)), (qn, .inl (cI, 42, .inl u))]) := by
  refine k_bodyI (cc := cX4_drop) (maxL := 3) (by decide) rfl (Nat.le_of_ble_eq_true rfl) ?_
  intro p e ss m args below meth c A Q F hname hA hG hK hP hD hS ret ls hl
  obtain ⟨hx, hb, hml, hown, hts⟩ := id F
  have hP : va_P D vwCl [(mo, .inr (4, [.int tw, .int (nI (stS q)), .int (stM q), .int (nI ((stT q).length)), .ref qi, .ref qs, .ref qe, .ref qn, .ref qk])), (qi, .inl (cI, 6, .inl gi)), (qs, .inl (cI, 6, .inl gs)), (qe, .inl (cI, 6, .inl ge)), (qn, .inl (cI, 42, .inl w))] ss.heap := hP
  have hD : va_D A [(mo, .inr (4, [.int tw, .int (nI (stS q)), .int (stM q), .int (nI ((stT q).length)), .ref qi, .ref qs, .ref qe, .ref qn, .ref qk])), (qi, .inl (cI, 6, .inl gi)), (qs, .inl (cI, 6, .inl gs)), (qe, .inl (cI, 6, .inl ge)), (qn, .inl (cI, 42, .inl w))] := hD
  have hl : lv_has ls 3 [(0, .ref mo), (1, .int (nI j))] := hl
  have iX4 : ∀ w ∈ u_ws RX4 TX4 9, w ∈ wsX4_drop := by decide +kernel
  have f26 := hts (.fieldLink RX4 26 "SmallerTalkModel" "now" "[I") (by decide +kernel)
  have f32 := hts (.fieldLink RX4 32 "SmallerTalkModel" "thrown" "I") (by decide +kernel)
  obtain ⟨n0, n1, n2, n3, n4, n5, nB, nT⟩ := id hN
  have h12 := nB.1
  have h6 := nT.1
  refine lv_aload_n hx hb dX4_drop_0 rfl (lv_at hl 0 rfl) ?_
  refine lv_iconst (v := nI 0) hx hb dX4_drop_1 (by decide +kernel) ?_
  refine va_put (D := D) (ci := 4) (v := .int (nI 0)) (ty := .int) (C := RX4) (T := TX4) (N := 9) hx hb hts iX4 tyX4 tyX4_ok nmX4 hown hK hP hD hS 0 rfl rfl 0 (by decide) f32 (fun _ h9 => h9) rfl (by decide +kernel) rfl rfl (Nat.le_of_ble_eq_true rfl) dX4_drop_2 (fun H locs hP hD hS => ?_)
  have hP : va_P D vwCl [(mo, .inr (4, [.int (nI 0), .int (nI (stS q)), .int (stM q), .int (nI ((stT q).length)), .ref qi, .ref qs, .ref qe, .ref qn, .ref qk])), (qi, .inl (cI, 6, .inl gi)), (qs, .inl (cI, 6, .inl gs)), (qe, .inl (cI, 6, .inl ge)), (qn, .inl (cI, 42, .inl w))] H := hP
  have hD : va_D A [(mo, .inr (4, [.int (nI 0), .int (nI (stS q)), .int (stM q), .int (nI ((stT q).length)), .ref qi, .ref qs, .ref qe, .ref qn, .ref qk])), (qi, .inl (cI, 6, .inl gi)), (qs, .inl (cI, 6, .inl gs)), (qe, .inl (cI, 6, .inl ge)), (qn, .inl (cI, 42, .inl w))] := hD
  refine lv_aload_n hx hb dX4_drop_5 rfl (lv_at hl 0 rfl) ?_
  refine lv_iload_n hx hb dX4_drop_6 rfl (lv_at hl 1 rfl) ?_
  refine k_callV (As := [.int (nI j)]) (rest := []) (wr := [(qi, .inl (cI, 6, .inl gi)), (qs, .inl (cI, 6, .inl gs)), (qe, .inl (cI, 6, .inl ge))]) F (c_X4_isPlace l D cI mo qi qs qe qn qk (nI 0) (nI (stS q)) (stM q) (nI ((stT q).length)) w ((stB q).length) j n1 h12 hj) gX4_drop_X4_isPlace rfl (nA := 1) (by decide +kernel) rfl ⟨Nat.le_of_ble_eq_true rfl, Nat.le_of_ble_eq_true rfl⟩ hK hP hD hS hA hG (ci := 4) (q0 := 0) rfl rfl rfl [0, 4] [1, 2, 3] rfl (by decide) rfl (by decide) (by decide) [0] rfl rfl hl.1 (Nat.le_of_ble_eq_true rfl) dX4_drop_7 ⟨Nat.le_of_ble_eq_true rfl, Nat.le_of_ble_eq_true rfl⟩ (fun r_1 u H locs hr_7 hP hD hS => ?_)
  try dsimp only at hr_7
  have hP : va_P D vwCl [(qi, .inl (cI, 6, .inl gi)), (qs, .inl (cI, 6, .inl gs)), (qe, .inl (cI, 6, .inl ge)), (mo, .inr (4, [.int (nI 0), .int (nI (stS q)), .int (stM q), .int (nI ((stT q).length)), .ref qi, .ref qs, .ref qe, .ref qn, .ref qk])), (qn, .inl (cI, 42, .inl w))] H := hP
  have hD : va_D A [(qi, .inl (cI, 6, .inl gi)), (qs, .inl (cI, 6, .inl gs)), (qe, .inl (cI, 6, .inl ge)), (mo, .inr (4, [.int (nI 0), .int (nI (stS q)), .int (stM q), .int (nI ((stT q).length)), .ref qi, .ref qs, .ref qe, .ref qn, .ref qk])), (qn, .inl (cI, 42, .inl w))] := hD
  refine W.eq (g2 := F0 m 10 ls [.int r_1]) rfl ?_
  refine W.widen (k := 0) (n := 0) (Nat.le_of_ble_eq_true rfl) (Nat.le_of_ble_eq_true rfl) ?_
  refine k_top (v := nI 1) (hr_7) ?_
  refine k_if_ne (tgt := 19) hx hb 1 rfl (by omega) dX4_drop_10 (by decide) (fun c_10 => ?_) (fun c_10 => ?_)
  · skip
    refine lv_iload_n hx hb dX4_drop_19 rfl (lv_at hl 1 rfl) ?_
    refine lv_istore_n (lv' := [(2, .int (nI j)), (0, .ref mo), (1, .int (nI j))]) hx hb dX4_drop_20 rfl hl (by decide) rfl (fun ls hl => ?_)
    have loop_2 : ∀ (n : Nat) (i : Nat) (w1 : Nat → Int32), (j ≤ i ∧ i < (stB q).length) → (sdM w w1 j i) → (stB q).length - i < n → ∀ (H : Heap) (locs : List Loc), va_P D vwCl [(mo, .inr (4, [.int (nI 0), .int (nI (stS q)), .int (stM q), .int (nI ((stT q).length)), .ref qi, .ref qs, .ref qe, .ref qn, .ref qk])), (qi, .inl (cI, 6, .inl gi)), (qs, .inl (cI, 6, .inl gs)), (qe, .inl (cI, 6, .inl ge)), (qn, .inl (cI, 42, .inl w1))] H → va_D A [(mo, .inr (4, [.int (nI 0), .int (nI (stS q)), .int (stM q), .int (nI ((stT q).length)), .ref qi, .ref qs, .ref qe, .ref qn, .ref qk])), (qi, .inl (cI, 6, .inl gi)), (qs, .inl (cI, 6, .inl gs)), (qe, .inl (cI, 6, .inl ge)), (qn, .inl (cI, 42, .inl w1))] → va_S A ss.heap H locs → ∀ ls : Array Slot, lv_has ls 3 [(0, .ref mo), (2, .int (nI i))] → W p l e rm_X4_drop ss m args below meth c H locs 0 0 Q (F0 m 21 ls []) := by
      intro n
      induction n with
      | zero => intro i w1 hi h1 hn; exact absurd hn (by omega)
      | succ n ih =>
        intro i w1 hi h1 hn H locs hP hD hS ls hl
        refine lv_iload_n hx hb dX4_drop_21 rfl (lv_at hl 1 rfl) ?_
        refine lv_iconst (v := nI 1) hx hb dX4_drop_22 (by decide +kernel) ?_
        refine k_iadd hx hb (nI (i + 1)) (nI_add _ _) dX4_drop_23 ?_
        refine lv_aload_n hx hb dX4_drop_24 rfl (lv_at hl 0 rfl) ?_
        refine va_get (D := D) (ci := 4) (v := .ref qn) (C := RX4) (T := TX4) (N := 9) hx hb hts iX4 hown hK hP 0 rfl rfl 7 (by decide) f26 (fun _ h9 => h9) rfl dX4_drop_25 ?_
        refine lv_iconst (v := nI 1) hx hb dX4_drop_28 (by decide +kernel) ?_
        refine k_iald hx hb hK hP 4 0 rfl rfl 1 (rfl) (by omega) (by decide) dX4_drop_29 ?_
        refine k_top (v := nI ((stB q).length)) ((h1.2 1 (by omega)).trans n1) ?_
        refine k_cmp_ge (tgt := 79) hx hb (i + 1) ((stB q).length) rfl rfl (by omega) (by omega) dX4_drop_30 (by decide) (fun c_30 => ?_) (fun c_30 => ?_)
        · skip
          refine lv_aload_n hx hb dX4_drop_79 rfl (lv_at hl 0 rfl) ?_
          refine va_get (D := D) (ci := 4) (v := .ref qn) (C := RX4) (T := TX4) (N := 9) hx hb hts iX4 hown hK hP 0 rfl rfl 7 (by decide) f26 (fun _ h9 => h9) rfl dX4_drop_80 ?_
          refine lv_iconst (v := nI 1) hx hb dX4_drop_83 (by decide +kernel) ?_
          refine lv_dup2_11 hx hb dX4_drop_84 rfl rfl ?_
          refine k_iald hx hb hK hP 4 0 rfl rfl 1 (rfl) (by omega) (by decide) dX4_drop_85 ?_
          refine k_top (v := nI ((stB q).length)) ((h1.2 1 (by omega)).trans n1) ?_
          refine lv_iconst (v := nI 1) hx hb dX4_drop_86 (by decide +kernel) ?_
          refine k_isub hx hb (nI (((stB q).eraseIdx j).length)) (by rw [er_len hj]; exact pk_sub (by omega)) dX4_drop_87 ?_
          refine k_iast hx hb hK hP hD hS 4 0 rfl rfl 1 (rfl) (by omega) (by decide) dX4_drop_88 (fun H locs hP hD hS => ?_)
          have hP : va_P D vwCl [(mo, .inr (4, [.int (nI 0), .int (nI (stS q)), .int (stM q), .int (nI ((stT q).length)), .ref qi, .ref qs, .ref qe, .ref qn, .ref qk])), (qi, .inl (cI, 6, .inl gi)), (qs, .inl (cI, 6, .inl gs)), (qe, .inl (cI, 6, .inl ge)), (qn, .inl (cI, 42, .inl (upd w1 1 (nI (((stB q).eraseIdx j).length)))))] H := hP
          have hD : va_D A [(mo, .inr (4, [.int (nI 0), .int (nI (stS q)), .int (stM q), .int (nI ((stT q).length)), .ref qi, .ref qs, .ref qe, .ref qn, .ref qk])), (qi, .inl (cI, 6, .inl gi)), (qs, .inl (cI, 6, .inl gs)), (qe, .inl (cI, 6, .inl ge)), (qn, .inl (cI, 42, .inl (upd w1 1 (nI (((stB q).eraseIdx j).length)))))] := hD
          refine lv_aload_n hx hb dX4_drop_89 rfl (lv_at hl 0 rfl) ?_
          refine va_get (D := D) (ci := 4) (v := .ref qn) (C := RX4) (T := TX4) (N := 9) hx hb hts iX4 hown hK hP 0 rfl rfl 7 (by decide) f26 (fun _ h9 => h9) rfl dX4_drop_90 ?_
          refine lv_iconst (v := nI 1) hx hb dX4_drop_93 (by decide +kernel) ?_
          refine k_iald hx hb hK hP 4 0 rfl rfl 1 (rfl) (by omega) (by decide) dX4_drop_94 ?_
          refine k_top (v := nI (((stB q).eraseIdx j).length)) (pk_us) ?_
          exact ret (nI (((stB q).eraseIdx j).length)) (upd w1 1 (nI (((stB q).eraseIdx j).length))) _ _ _ _ _ _ (⟨rfl, rN_B hN (fun t ht => (pk_un (by omega)).trans (h1.2 t (by omega))) pk_us (rV_er nB hj (by omega) h1)⟩) (hP.sub [0, 1, 2, 3, 4] (rfl)) (hD.sub [0, 1, 2, 3, 4] (by decide) (rfl)) hS (Nat.le_of_ble_eq_true rfl) (Nat.le_of_ble_eq_true rfl) dX4_drop_95
        · skip
          refine lv_aload_n hx hb dX4_drop_33 rfl (lv_at hl 0 rfl) ?_
          refine va_get (D := D) (ci := 4) (v := .ref qn) (C := RX4) (T := TX4) (N := 9) hx hb hts iX4 hown hK hP 0 rfl rfl 7 (by decide) f26 (fun _ h9 => h9) rfl dX4_drop_34 ?_
          refine lv_bipush (v := nI 6) hx hb dX4_drop_37 (by decide +kernel) ?_
          refine lv_iload_n hx hb dX4_drop_39 rfl (lv_at hl 1 rfl) ?_
          refine k_iadd hx hb (nI (6 + i)) (nI_add _ _) dX4_drop_40 ?_
          refine lv_aload_n hx hb dX4_drop_41 rfl (lv_at hl 0 rfl) ?_
          refine va_get (D := D) (ci := 4) (v := .ref qn) (C := RX4) (T := TX4) (N := 9) hx hb hts iX4 hown hK hP 0 rfl rfl 7 (by decide) f26 (fun _ h9 => h9) rfl dX4_drop_42 ?_
          refine lv_bipush (v := nI 6) hx hb dX4_drop_45 (by decide +kernel) ?_
          refine lv_iload_n hx hb dX4_drop_47 rfl (lv_at hl 1 rfl) ?_
          refine k_iadd hx hb (nI (6 + i)) (nI_add _ _) dX4_drop_48 ?_
          refine lv_iconst (v := nI 1) hx hb dX4_drop_49 (by decide +kernel) ?_
          refine k_iadd hx hb (nI (6 + i + 1)) (nI_add _ _) dX4_drop_50 ?_
          refine k_iald hx hb hK hP 4 0 rfl rfl (6 + i + 1) (rfl) (by omega) (by decide) dX4_drop_51 ?_
          refine k_iast hx hb hK hP hD hS 4 0 rfl rfl (6 + i) (rfl) (by omega) (by decide) dX4_drop_52 (fun H locs hP hD hS => ?_)
          have hP : va_P D vwCl [(mo, .inr (4, [.int (nI 0), .int (nI (stS q)), .int (stM q), .int (nI ((stT q).length)), .ref qi, .ref qs, .ref qe, .ref qn, .ref qk])), (qi, .inl (cI, 6, .inl gi)), (qs, .inl (cI, 6, .inl gs)), (qe, .inl (cI, 6, .inl ge)), (qn, .inl (cI, 42, .inl (upd w1 (6 + i) (w1 (6 + i + 1)))))] H := hP
          have hD : va_D A [(mo, .inr (4, [.int (nI 0), .int (nI (stS q)), .int (stM q), .int (nI ((stT q).length)), .ref qi, .ref qs, .ref qe, .ref qn, .ref qk])), (qi, .inl (cI, 6, .inl gi)), (qs, .inl (cI, 6, .inl gs)), (qe, .inl (cI, 6, .inl ge)), (qn, .inl (cI, 42, .inl (upd w1 (6 + i) (w1 (6 + i + 1)))))] := hD
          refine lv_aload_n hx hb dX4_drop_53 rfl (lv_at hl 0 rfl) ?_
          refine va_get (D := D) (ci := 4) (v := .ref qn) (C := RX4) (T := TX4) (N := 9) hx hb hts iX4 hown hK hP 0 rfl rfl 7 (by decide) f26 (fun _ h9 => h9) rfl dX4_drop_54 ?_
          refine lv_bipush (v := nI 18) hx hb dX4_drop_57 (by decide +kernel) ?_
          refine lv_iload_n hx hb dX4_drop_59 rfl (lv_at hl 1 rfl) ?_
          refine k_iadd hx hb (nI (18 + i)) (nI_add _ _) dX4_drop_60 ?_
          refine lv_aload_n hx hb dX4_drop_61 rfl (lv_at hl 0 rfl) ?_
          refine va_get (D := D) (ci := 4) (v := .ref qn) (C := RX4) (T := TX4) (N := 9) hx hb hts iX4 hown hK hP 0 rfl rfl 7 (by decide) f26 (fun _ h9 => h9) rfl dX4_drop_62 ?_
          refine lv_bipush (v := nI 18) hx hb dX4_drop_65 (by decide +kernel) ?_
          refine lv_iload_n hx hb dX4_drop_67 rfl (lv_at hl 1 rfl) ?_
          refine k_iadd hx hb (nI (18 + i)) (nI_add _ _) dX4_drop_68 ?_
          refine lv_iconst (v := nI 1) hx hb dX4_drop_69 (by decide +kernel) ?_
          refine k_iadd hx hb (nI (18 + i + 1)) (nI_add _ _) dX4_drop_70 ?_
          refine k_iald hx hb hK hP 4 0 rfl rfl (18 + i + 1) (rfl) (by omega) (by decide) dX4_drop_71 ?_
          refine k_top (v := w1 (18 + i + 1)) (pk_un (by omega)) ?_
          refine k_iast hx hb hK hP hD hS 4 0 rfl rfl (18 + i) (rfl) (by omega) (by decide) dX4_drop_72 (fun H locs hP hD hS => ?_)
          have hP : va_P D vwCl [(mo, .inr (4, [.int (nI 0), .int (nI (stS q)), .int (stM q), .int (nI ((stT q).length)), .ref qi, .ref qs, .ref qe, .ref qn, .ref qk])), (qi, .inl (cI, 6, .inl gi)), (qs, .inl (cI, 6, .inl gs)), (qe, .inl (cI, 6, .inl ge)), (qn, .inl (cI, 42, .inl (upd (upd w1 (6 + i) (w1 (6 + i + 1))) (18 + i) (w1 (18 + i + 1)))))] H := hP
          have hD : va_D A [(mo, .inr (4, [.int (nI 0), .int (nI (stS q)), .int (stM q), .int (nI ((stT q).length)), .ref qi, .ref qs, .ref qe, .ref qn, .ref qk])), (qi, .inl (cI, 6, .inl gi)), (qs, .inl (cI, 6, .inl gs)), (qe, .inl (cI, 6, .inl ge)), (qn, .inl (cI, 42, .inl (upd (upd w1 (6 + i) (w1 (6 + i + 1))) (18 + i) (w1 (18 + i + 1)))))] := hD
          refine lv_iinc (v := nI (i + 1)) (lv' := [(2, .int (nI (i + 1))), (0, .ref mo)]) hx hb dX4_drop_73 hl (k := 1) rfl (nI_1 _) (by decide) rfl (fun ls hl => ?_)
          refine lv_goto (tgt := 21) hx hb dX4_drop_76 (by decide) ?_
          exact ih (i + 1) (upd (upd w1 (6 + i) (w1 (6 + i + 1))) (18 + i) (w1 (18 + i + 1))) (by omega) (sdM_s h1 hi.1 (by omega)) (by omega) _ _ (hP.sub [0, 1, 2, 3, 4] (rfl)) (hD.sub [0, 1, 2, 3, 4] (by decide) (rfl)) hS _ (lv_sub hl [1, 0] (rfl))
    exact loop_2 (((stB q).length) + 1) j w (by omega) (sdM_0 _ _) (by omega) _ _ (hP.sub [3, 0, 1, 2, 4] (rfl)) (hD.sub [3, 0, 1, 2, 4] (by decide) (rfl)) hS _ (lv_sub hl [1, 0] (rfl))
  · exact absurd c_10 (by omega)

abbrev rm_X4_setGear : Room := { frames := 1, cells := 0, slots := 0, locals := 22 }
set_option maxHeartbeats 4000000 in
set_option maxRecDepth 100000 in
theorem c_X4_setGear (l : Launch) (D : va_G) (cI : ClassId) (mo : Nat) (qi : Nat) (qs : Nat) (qe : Nat) (qn : Nat) (qk : Nat) (tw : Int32) (gi : Nat → Int32) (gs : Nat → Int32) (ge : Nat → Int32) (w : Nat → Int32) (q : St) (v : Nat) (hN : rN gi gs ge w q) (hv : 2 ≤ v ∧ v ≤ 9) : kM kri l yX4_setGear wsX4_setGear rm_X4_setGear D [(cI, .int)] [.ref mo, .int (nI v)] [(mo, .inr (4, [.int tw, .int (nI (stS q)), .int (stM q), .int (nI ((stT q).length)), .ref qi, .ref qs, .ref qe, .ref qn, .ref qk])), (qi, .inl (cI, 6, .inl gi)), (qs, .inl (cI, 6, .inl gs)), (qe, .inl (cI, 6, .inl ge)), (qn, .inl (cI, 42, .inl w))] (fun (r : Int32) (u : (Nat → Int32)) => r = nI (stG q) ∧ rN gi gs ge u (setG q v)) (fun (u : (Nat → Int32)) => [(mo, .inr (4, [.int (nI 0), .int (nI (stS (setG q v))), .int (stM (setG q v)), .int (nI ((stT (setG q v)).length)), .ref qi, .ref qs, .ref qe, .ref qn, .ref qk])), (qi, .inl (cI, 6, .inl gi)), (qs, .inl (cI, 6, .inl gs)), (qe, .inl (cI, 6, .inl ge)), (qn, .inl (cI, 42, .inl u))]) := by
  refine k_bodyI (cc := cX4_setGear) (maxL := 3) (by decide) rfl (Nat.le_of_ble_eq_true rfl) ?_
  intro p e ss m args below meth c A Q F hname hA hG hK hP hD hS ret ls hl
  obtain ⟨hx, hb, hml, hown, hts⟩ := id F
  have hP : va_P D vwCl [(mo, .inr (4, [.int tw, .int (nI (stS q)), .int (stM q), .int (nI ((stT q).length)), .ref qi, .ref qs, .ref qe, .ref qn, .ref qk])), (qi, .inl (cI, 6, .inl gi)), (qs, .inl (cI, 6, .inl gs)), (qe, .inl (cI, 6, .inl ge)), (qn, .inl (cI, 42, .inl w))] ss.heap := hP
  have hD : va_D A [(mo, .inr (4, [.int tw, .int (nI (stS q)), .int (stM q), .int (nI ((stT q).length)), .ref qi, .ref qs, .ref qe, .ref qn, .ref qk])), (qi, .inl (cI, 6, .inl gi)), (qs, .inl (cI, 6, .inl gs)), (qe, .inl (cI, 6, .inl ge)), (qn, .inl (cI, 42, .inl w))] := hD
  have hl : lv_has ls 3 [(0, .ref mo), (1, .int (nI v))] := hl
  have iX4 : ∀ w ∈ u_ws RX4 TX4 9, w ∈ wsX4_setGear := by decide +kernel
  have f26 := hts (.fieldLink RX4 26 "SmallerTalkModel" "now" "[I") (by decide +kernel)
  have f32 := hts (.fieldLink RX4 32 "SmallerTalkModel" "thrown" "I") (by decide +kernel)
  obtain ⟨n0, n1, n2, n3, n4, n5, nB, nT⟩ := id hN
  refine lv_aload_n hx hb dX4_setGear_0 rfl (lv_at hl 0 rfl) ?_
  refine lv_iconst (v := nI 0) hx hb dX4_setGear_1 (by decide +kernel) ?_
  refine va_put (D := D) (ci := 4) (v := .int (nI 0)) (ty := .int) (C := RX4) (T := TX4) (N := 9) hx hb hts iX4 tyX4 tyX4_ok nmX4 hown hK hP hD hS 0 rfl rfl 0 (by decide) f32 (fun _ h9 => h9) rfl (by decide +kernel) rfl rfl (Nat.le_of_ble_eq_true rfl) dX4_setGear_2 (fun H locs hP hD hS => ?_)
  have hP : va_P D vwCl [(mo, .inr (4, [.int (nI 0), .int (nI (stS q)), .int (stM q), .int (nI ((stT q).length)), .ref qi, .ref qs, .ref qe, .ref qn, .ref qk])), (qi, .inl (cI, 6, .inl gi)), (qs, .inl (cI, 6, .inl gs)), (qe, .inl (cI, 6, .inl ge)), (qn, .inl (cI, 42, .inl w))] H := hP
  have hD : va_D A [(mo, .inr (4, [.int (nI 0), .int (nI (stS q)), .int (stM q), .int (nI ((stT q).length)), .ref qi, .ref qs, .ref qe, .ref qn, .ref qk])), (qi, .inl (cI, 6, .inl gi)), (qs, .inl (cI, 6, .inl gs)), (qe, .inl (cI, 6, .inl ge)), (qn, .inl (cI, 42, .inl w))] := hD
  refine lv_iload_n hx hb dX4_setGear_5 rfl (lv_at hl 1 rfl) ?_
  refine lv_iconst (v := nI 2) hx hb dX4_setGear_6 (by decide +kernel) ?_
  refine lv_bipush (v := nI 9) hx hb dX4_setGear_7 (by decide +kernel) ?_
  refine k_callS (As := [.int (nI v), .int (nI 2), .int (nI 9)]) (rest := []) (wr := [(mo, .inr (4, [.int (nI 0), .int (nI (stS q)), .int (stM q), .int (nI ((stT q).length)), .ref qi, .ref qs, .ref qe, .ref qn, .ref qk])), (qi, .inl (cI, 6, .inl gi)), (qs, .inl (cI, 6, .inl gs)), (qe, .inl (cI, 6, .inl ge)), (qn, .inl (cI, 42, .inl w))]) F (c_X4_isIn l D cI v 2 9 (by omega) (by omega)) gX4_setGear_X4_isIn rfl (nA := 3) (by decide +kernel) rfl ⟨Nat.le_of_ble_eq_true rfl, Nat.le_of_ble_eq_true rfl⟩ hK hP hD hS hA hG [] [0, 1, 2, 3, 4] rfl (by decide) rfl (by decide) (by decide) [0] rfl rfl hl.1 (Nat.le_of_ble_eq_true rfl) dX4_setGear_9 ⟨Nat.le_of_ble_eq_true rfl, Nat.le_of_ble_eq_true rfl⟩ (fun r_1 u H locs hr_9 hP hD hS => ?_)
  try dsimp only at hr_9
  have hP : va_P D vwCl [(mo, .inr (4, [.int (nI 0), .int (nI (stS q)), .int (stM q), .int (nI ((stT q).length)), .ref qi, .ref qs, .ref qe, .ref qn, .ref qk])), (qi, .inl (cI, 6, .inl gi)), (qs, .inl (cI, 6, .inl gs)), (qe, .inl (cI, 6, .inl ge)), (qn, .inl (cI, 42, .inl w))] H := hP
  have hD : va_D A [(mo, .inr (4, [.int (nI 0), .int (nI (stS q)), .int (stM q), .int (nI ((stT q).length)), .ref qi, .ref qs, .ref qe, .ref qn, .ref qk])), (qi, .inl (cI, 6, .inl gi)), (qs, .inl (cI, 6, .inl gs)), (qe, .inl (cI, 6, .inl ge)), (qn, .inl (cI, 42, .inl w))] := hD
  refine W.eq (g2 := F0 m 12 ls [.int r_1]) rfl ?_
  refine W.widen (k := 0) (n := 0) (Nat.le_of_ble_eq_true rfl) (Nat.le_of_ble_eq_true rfl) ?_
  refine k_top (v := nI 1) (hr_9) ?_
  refine k_if_ne (tgt := 21) hx hb 1 rfl (by omega) dX4_setGear_12 (by decide) (fun c_12 => ?_) (fun c_12 => ?_)
  · skip
    refine lv_aload_n hx hb dX4_setGear_21 rfl (lv_at hl 0 rfl) ?_
    refine va_get (D := D) (ci := 4) (v := .ref qn) (C := RX4) (T := TX4) (N := 9) hx hb hts iX4 hown hK hP 0 rfl rfl 7 (by decide) f26 (fun _ h9 => h9) rfl dX4_setGear_22 ?_
    refine lv_iconst (v := nI 5) hx hb dX4_setGear_25 (by decide +kernel) ?_
    refine k_iald hx hb hK hP 4 0 rfl rfl 5 (rfl) (by omega) (by decide) dX4_setGear_26 ?_
    refine k_top (v := nI (stG q)) (n5) ?_
    refine lv_istore_n (lv' := [(2, .int (nI (stG q))), (0, .ref mo), (1, .int (nI v))]) hx hb dX4_setGear_27 rfl hl (by decide) rfl (fun ls hl => ?_)
    refine lv_aload_n hx hb dX4_setGear_28 rfl (lv_at hl 1 rfl) ?_
    refine va_get (D := D) (ci := 4) (v := .ref qn) (C := RX4) (T := TX4) (N := 9) hx hb hts iX4 hown hK hP 0 rfl rfl 7 (by decide) f26 (fun _ h9 => h9) rfl dX4_setGear_29 ?_
    refine lv_iconst (v := nI 5) hx hb dX4_setGear_32 (by decide +kernel) ?_
    refine lv_iload_n hx hb dX4_setGear_33 rfl (lv_at hl 2 rfl) ?_
    refine k_iast hx hb hK hP hD hS 4 0 rfl rfl 5 (rfl) (by omega) (by decide) dX4_setGear_34 (fun H locs hP hD hS => ?_)
    have hP : va_P D vwCl [(mo, .inr (4, [.int (nI 0), .int (nI (stS q)), .int (stM q), .int (nI ((stT q).length)), .ref qi, .ref qs, .ref qe, .ref qn, .ref qk])), (qi, .inl (cI, 6, .inl gi)), (qs, .inl (cI, 6, .inl gs)), (qe, .inl (cI, 6, .inl ge)), (qn, .inl (cI, 42, .inl (upd w 5 (nI v))))] H := hP
    have hD : va_D A [(mo, .inr (4, [.int (nI 0), .int (nI (stS q)), .int (stM q), .int (nI ((stT q).length)), .ref qi, .ref qs, .ref qe, .ref qn, .ref qk])), (qi, .inl (cI, 6, .inl gi)), (qs, .inl (cI, 6, .inl gs)), (qe, .inl (cI, 6, .inl ge)), (qn, .inl (cI, 42, .inl (upd w 5 (nI v))))] := hD
    refine lv_iload_n hx hb dX4_setGear_35 rfl (lv_at hl 0 rfl) ?_
    exact ret (nI (stG q)) (upd w 5 (nI v)) _ _ _ _ _ _ (⟨rfl, rN_G hN⟩) (hP.sub [0, 1, 2, 3, 4] (rfl)) (hD.sub [0, 1, 2, 3, 4] (by decide) (rfl)) hS (Nat.le_of_ble_eq_true rfl) (Nat.le_of_ble_eq_true rfl) dX4_setGear_36
  · exact absurd c_12 (by omega)

abbrev rm_X4_setStones : Room := { frames := 1, cells := 0, slots := 0, locals := 22 }
set_option maxHeartbeats 4000000 in
set_option maxRecDepth 100000 in
theorem c_X4_setStones (l : Launch) (D : va_G) (cI : ClassId) (mo : Nat) (qi : Nat) (qs : Nat) (qe : Nat) (qn : Nat) (qk : Nat) (tw : Int32) (gi : Nat → Int32) (gs : Nat → Int32) (ge : Nat → Int32) (w : Nat → Int32) (q : St) (v : Nat) (hN : rN gi gs ge w q) (hv : 1 ≤ v ∧ v ≤ 4) : kM kri l yX4_setStones wsX4_setStones rm_X4_setStones D [(cI, .int)] [.ref mo, .int (nI v)] [(mo, .inr (4, [.int tw, .int (nI (stS q)), .int (stM q), .int (nI ((stT q).length)), .ref qi, .ref qs, .ref qe, .ref qn, .ref qk])), (qi, .inl (cI, 6, .inl gi)), (qs, .inl (cI, 6, .inl gs)), (qe, .inl (cI, 6, .inl ge)), (qn, .inl (cI, 42, .inl w))] (fun (r : Int32) (u : Unit) => r = nI (stS q)) (fun (u : Unit) => [(mo, .inr (4, [.int (nI 0), .int (nI (stS (setS q v))), .int (stM (setS q v)), .int (nI ((stT (setS q v)).length)), .ref qi, .ref qs, .ref qe, .ref qn, .ref qk])), (qi, .inl (cI, 6, .inl gi)), (qs, .inl (cI, 6, .inl gs)), (qe, .inl (cI, 6, .inl ge)), (qn, .inl (cI, 42, .inl w))]) := by
  refine k_bodyI (cc := cX4_setStones) (maxL := 3) (by decide) rfl (Nat.le_of_ble_eq_true rfl) ?_
  intro p e ss m args below meth c A Q F hname hA hG hK hP hD hS ret ls hl
  obtain ⟨hx, hb, hml, hown, hts⟩ := id F
  have hP : va_P D vwCl [(mo, .inr (4, [.int tw, .int (nI (stS q)), .int (stM q), .int (nI ((stT q).length)), .ref qi, .ref qs, .ref qe, .ref qn, .ref qk])), (qi, .inl (cI, 6, .inl gi)), (qs, .inl (cI, 6, .inl gs)), (qe, .inl (cI, 6, .inl ge)), (qn, .inl (cI, 42, .inl w))] ss.heap := hP
  have hD : va_D A [(mo, .inr (4, [.int tw, .int (nI (stS q)), .int (stM q), .int (nI ((stT q).length)), .ref qi, .ref qs, .ref qe, .ref qn, .ref qk])), (qi, .inl (cI, 6, .inl gi)), (qs, .inl (cI, 6, .inl gs)), (qe, .inl (cI, 6, .inl ge)), (qn, .inl (cI, 42, .inl w))] := hD
  have hl : lv_has ls 3 [(0, .ref mo), (1, .int (nI v))] := hl
  have iX4 : ∀ w ∈ u_ws RX4 TX4 9, w ∈ wsX4_setStones := by decide +kernel
  have f9 := hts (.fieldLink RX4 9 "SmallerTalkModel" "stones" "I") (by decide +kernel)
  have f32 := hts (.fieldLink RX4 32 "SmallerTalkModel" "thrown" "I") (by decide +kernel)
  obtain ⟨n0, n1, n2, n3, n4, n5, nB, nT⟩ := id hN
  refine lv_aload_n hx hb dX4_setStones_0 rfl (lv_at hl 0 rfl) ?_
  refine lv_iconst (v := nI 0) hx hb dX4_setStones_1 (by decide +kernel) ?_
  refine va_put (D := D) (ci := 4) (v := .int (nI 0)) (ty := .int) (C := RX4) (T := TX4) (N := 9) hx hb hts iX4 tyX4 tyX4_ok nmX4 hown hK hP hD hS 0 rfl rfl 0 (by decide) f32 (fun _ h9 => h9) rfl (by decide +kernel) rfl rfl (Nat.le_of_ble_eq_true rfl) dX4_setStones_2 (fun H locs hP hD hS => ?_)
  have hP : va_P D vwCl [(mo, .inr (4, [.int (nI 0), .int (nI (stS q)), .int (stM q), .int (nI ((stT q).length)), .ref qi, .ref qs, .ref qe, .ref qn, .ref qk])), (qi, .inl (cI, 6, .inl gi)), (qs, .inl (cI, 6, .inl gs)), (qe, .inl (cI, 6, .inl ge)), (qn, .inl (cI, 42, .inl w))] H := hP
  have hD : va_D A [(mo, .inr (4, [.int (nI 0), .int (nI (stS q)), .int (stM q), .int (nI ((stT q).length)), .ref qi, .ref qs, .ref qe, .ref qn, .ref qk])), (qi, .inl (cI, 6, .inl gi)), (qs, .inl (cI, 6, .inl gs)), (qe, .inl (cI, 6, .inl ge)), (qn, .inl (cI, 42, .inl w))] := hD
  refine lv_iload_n hx hb dX4_setStones_5 rfl (lv_at hl 1 rfl) ?_
  refine lv_iconst (v := nI 1) hx hb dX4_setStones_6 (by decide +kernel) ?_
  refine lv_iconst (v := nI 4) hx hb dX4_setStones_7 (by decide +kernel) ?_
  refine k_callS (As := [.int (nI v), .int (nI 1), .int (nI 4)]) (rest := []) (wr := [(mo, .inr (4, [.int (nI 0), .int (nI (stS q)), .int (stM q), .int (nI ((stT q).length)), .ref qi, .ref qs, .ref qe, .ref qn, .ref qk])), (qi, .inl (cI, 6, .inl gi)), (qs, .inl (cI, 6, .inl gs)), (qe, .inl (cI, 6, .inl ge)), (qn, .inl (cI, 42, .inl w))]) F (c_X4_isIn l D cI v 1 4 (by omega) (by omega)) gX4_setStones_X4_isIn rfl (nA := 3) (by decide +kernel) rfl ⟨Nat.le_of_ble_eq_true rfl, Nat.le_of_ble_eq_true rfl⟩ hK hP hD hS hA hG [] [0, 1, 2, 3, 4] rfl (by decide) rfl (by decide) (by decide) [0] rfl rfl hl.1 (Nat.le_of_ble_eq_true rfl) dX4_setStones_8 ⟨Nat.le_of_ble_eq_true rfl, Nat.le_of_ble_eq_true rfl⟩ (fun r_1 u H locs hr_8 hP hD hS => ?_)
  try dsimp only at hr_8
  have hP : va_P D vwCl [(mo, .inr (4, [.int (nI 0), .int (nI (stS q)), .int (stM q), .int (nI ((stT q).length)), .ref qi, .ref qs, .ref qe, .ref qn, .ref qk])), (qi, .inl (cI, 6, .inl gi)), (qs, .inl (cI, 6, .inl gs)), (qe, .inl (cI, 6, .inl ge)), (qn, .inl (cI, 42, .inl w))] H := hP
  have hD : va_D A [(mo, .inr (4, [.int (nI 0), .int (nI (stS q)), .int (stM q), .int (nI ((stT q).length)), .ref qi, .ref qs, .ref qe, .ref qn, .ref qk])), (qi, .inl (cI, 6, .inl gi)), (qs, .inl (cI, 6, .inl gs)), (qe, .inl (cI, 6, .inl ge)), (qn, .inl (cI, 42, .inl w))] := hD
  refine W.eq (g2 := F0 m 11 ls [.int r_1]) rfl ?_
  refine W.widen (k := 0) (n := 0) (Nat.le_of_ble_eq_true rfl) (Nat.le_of_ble_eq_true rfl) ?_
  refine k_top (v := nI 1) (hr_8) ?_
  refine k_if_ne (tgt := 20) hx hb 1 rfl (by omega) dX4_setStones_11 (by decide) (fun c_11 => ?_) (fun c_11 => ?_)
  · skip
    refine lv_aload_n hx hb dX4_setStones_20 rfl (lv_at hl 0 rfl) ?_
    refine va_get (D := D) (ci := 4) (v := .int (nI (stS q))) (C := RX4) (T := TX4) (N := 9) hx hb hts iX4 hown hK hP 0 rfl rfl 1 (by decide) f9 (fun _ h9 => h9) rfl dX4_setStones_21 ?_
    refine lv_istore_n (lv' := [(2, .int (nI (stS q))), (0, .ref mo), (1, .int (nI v))]) hx hb dX4_setStones_24 rfl hl (by decide) rfl (fun ls hl => ?_)
    refine lv_aload_n hx hb dX4_setStones_25 rfl (lv_at hl 1 rfl) ?_
    refine lv_iload_n hx hb dX4_setStones_26 rfl (lv_at hl 2 rfl) ?_
    refine va_put (D := D) (ci := 4) (v := .int (nI v)) (ty := .int) (C := RX4) (T := TX4) (N := 9) hx hb hts iX4 tyX4 tyX4_ok nmX4 hown hK hP hD hS 0 rfl rfl 1 (by decide) f9 (fun _ h9 => h9) rfl (by decide +kernel) rfl rfl (Nat.le_of_ble_eq_true rfl) dX4_setStones_27 (fun H locs hP hD hS => ?_)
    have hP : va_P D vwCl [(mo, .inr (4, [.int (nI 0), .int (nI v), .int (stM q), .int (nI ((stT q).length)), .ref qi, .ref qs, .ref qe, .ref qn, .ref qk])), (qi, .inl (cI, 6, .inl gi)), (qs, .inl (cI, 6, .inl gs)), (qe, .inl (cI, 6, .inl ge)), (qn, .inl (cI, 42, .inl w))] H := hP
    have hD : va_D A [(mo, .inr (4, [.int (nI 0), .int (nI v), .int (stM q), .int (nI ((stT q).length)), .ref qi, .ref qs, .ref qe, .ref qn, .ref qk])), (qi, .inl (cI, 6, .inl gi)), (qs, .inl (cI, 6, .inl gs)), (qe, .inl (cI, 6, .inl ge)), (qn, .inl (cI, 42, .inl w))] := hD
    refine lv_iload_n hx hb dX4_setStones_30 rfl (lv_at hl 0 rfl) ?_
    exact ret (nI (stS q)) () _ _ _ _ _ _ (rfl) (hP.sub [0, 1, 2, 3, 4] (rfl)) (hD.sub [0, 1, 2, 3, 4] (by decide) (rfl)) hS (Nat.le_of_ble_eq_true rfl) (Nat.le_of_ble_eq_true rfl) dX4_setStones_31
  · exact absurd c_11 (by omega)

abbrev rm_X4_setMesh : Room := { frames := 1, cells := 0, slots := 0, locals := 22 }
set_option maxHeartbeats 4000000 in
set_option maxRecDepth 100000 in
theorem c_X4_setMesh (l : Launch) (D : va_G) (cI : ClassId) (mo : Nat) (qi : Nat) (qs : Nat) (qe : Nat) (qn : Nat) (qk : Nat) (tw : Int32) (gi : Nat → Int32) (gs : Nat → Int32) (ge : Nat → Int32) (w : Nat → Int32) (q : St) (v : Nat) (hN : rN gi gs ge w q) (hv : v ≤ 20) : kM kri l yX4_setMesh wsX4_setMesh rm_X4_setMesh D [(cI, .int)] [.ref mo, .int (nI v)] [(mo, .inr (4, [.int tw, .int (nI (stS q)), .int (stM q), .int (nI ((stT q).length)), .ref qi, .ref qs, .ref qe, .ref qn, .ref qk])), (qi, .inl (cI, 6, .inl gi)), (qs, .inl (cI, 6, .inl gs)), (qe, .inl (cI, 6, .inl ge)), (qn, .inl (cI, 42, .inl w))] (fun (r : Int32) (u : Unit) => r = stM q) (fun (u : Unit) => [(mo, .inr (4, [.int (nI 0), .int (nI (stS (setM q (nI v)))), .int (stM (setM q (nI v))), .int (nI ((stT (setM q (nI v))).length)), .ref qi, .ref qs, .ref qe, .ref qn, .ref qk])), (qi, .inl (cI, 6, .inl gi)), (qs, .inl (cI, 6, .inl gs)), (qe, .inl (cI, 6, .inl ge)), (qn, .inl (cI, 42, .inl w))]) := by
  refine k_bodyI (cc := cX4_setMesh) (maxL := 3) (by decide) rfl (Nat.le_of_ble_eq_true rfl) ?_
  intro p e ss m args below meth c A Q F hname hA hG hK hP hD hS ret ls hl
  obtain ⟨hx, hb, hml, hown, hts⟩ := id F
  have hP : va_P D vwCl [(mo, .inr (4, [.int tw, .int (nI (stS q)), .int (stM q), .int (nI ((stT q).length)), .ref qi, .ref qs, .ref qe, .ref qn, .ref qk])), (qi, .inl (cI, 6, .inl gi)), (qs, .inl (cI, 6, .inl gs)), (qe, .inl (cI, 6, .inl ge)), (qn, .inl (cI, 42, .inl w))] ss.heap := hP
  have hD : va_D A [(mo, .inr (4, [.int tw, .int (nI (stS q)), .int (stM q), .int (nI ((stT q).length)), .ref qi, .ref qs, .ref qe, .ref qn, .ref qk])), (qi, .inl (cI, 6, .inl gi)), (qs, .inl (cI, 6, .inl gs)), (qe, .inl (cI, 6, .inl ge)), (qn, .inl (cI, 42, .inl w))] := hD
  have hl : lv_has ls 3 [(0, .ref mo), (1, .int (nI v))] := hl
  have iX4 : ∀ w ∈ u_ws RX4 TX4 9, w ∈ wsX4_setMesh := by decide +kernel
  have f13 := hts (.fieldLink RX4 13 "SmallerTalkModel" "mesh" "I") (by decide +kernel)
  have f32 := hts (.fieldLink RX4 32 "SmallerTalkModel" "thrown" "I") (by decide +kernel)
  obtain ⟨n0, n1, n2, n3, n4, n5, nB, nT⟩ := id hN
  refine lv_aload_n hx hb dX4_setMesh_0 rfl (lv_at hl 0 rfl) ?_
  refine lv_iconst (v := nI 0) hx hb dX4_setMesh_1 (by decide +kernel) ?_
  refine va_put (D := D) (ci := 4) (v := .int (nI 0)) (ty := .int) (C := RX4) (T := TX4) (N := 9) hx hb hts iX4 tyX4 tyX4_ok nmX4 hown hK hP hD hS 0 rfl rfl 0 (by decide) f32 (fun _ h9 => h9) rfl (by decide +kernel) rfl rfl (Nat.le_of_ble_eq_true rfl) dX4_setMesh_2 (fun H locs hP hD hS => ?_)
  have hP : va_P D vwCl [(mo, .inr (4, [.int (nI 0), .int (nI (stS q)), .int (stM q), .int (nI ((stT q).length)), .ref qi, .ref qs, .ref qe, .ref qn, .ref qk])), (qi, .inl (cI, 6, .inl gi)), (qs, .inl (cI, 6, .inl gs)), (qe, .inl (cI, 6, .inl ge)), (qn, .inl (cI, 42, .inl w))] H := hP
  have hD : va_D A [(mo, .inr (4, [.int (nI 0), .int (nI (stS q)), .int (stM q), .int (nI ((stT q).length)), .ref qi, .ref qs, .ref qe, .ref qn, .ref qk])), (qi, .inl (cI, 6, .inl gi)), (qs, .inl (cI, 6, .inl gs)), (qe, .inl (cI, 6, .inl ge)), (qn, .inl (cI, 42, .inl w))] := hD
  refine lv_iload_n hx hb dX4_setMesh_5 rfl (lv_at hl 1 rfl) ?_
  refine lv_iconst (v := nI 0) hx hb dX4_setMesh_6 (by decide +kernel) ?_
  refine lv_bipush (v := nI 20) hx hb dX4_setMesh_7 (by decide +kernel) ?_
  refine k_callS (As := [.int (nI v), .int (nI 0), .int (nI 20)]) (rest := []) (wr := [(mo, .inr (4, [.int (nI 0), .int (nI (stS q)), .int (stM q), .int (nI ((stT q).length)), .ref qi, .ref qs, .ref qe, .ref qn, .ref qk])), (qi, .inl (cI, 6, .inl gi)), (qs, .inl (cI, 6, .inl gs)), (qe, .inl (cI, 6, .inl ge)), (qn, .inl (cI, 42, .inl w))]) F (c_X4_isIn l D cI v 0 20 (by omega) (by omega)) gX4_setMesh_X4_isIn rfl (nA := 3) (by decide +kernel) rfl ⟨Nat.le_of_ble_eq_true rfl, Nat.le_of_ble_eq_true rfl⟩ hK hP hD hS hA hG [] [0, 1, 2, 3, 4] rfl (by decide) rfl (by decide) (by decide) [0] rfl rfl hl.1 (Nat.le_of_ble_eq_true rfl) dX4_setMesh_9 ⟨Nat.le_of_ble_eq_true rfl, Nat.le_of_ble_eq_true rfl⟩ (fun r_1 u H locs hr_9 hP hD hS => ?_)
  try dsimp only at hr_9
  have hP : va_P D vwCl [(mo, .inr (4, [.int (nI 0), .int (nI (stS q)), .int (stM q), .int (nI ((stT q).length)), .ref qi, .ref qs, .ref qe, .ref qn, .ref qk])), (qi, .inl (cI, 6, .inl gi)), (qs, .inl (cI, 6, .inl gs)), (qe, .inl (cI, 6, .inl ge)), (qn, .inl (cI, 42, .inl w))] H := hP
  have hD : va_D A [(mo, .inr (4, [.int (nI 0), .int (nI (stS q)), .int (stM q), .int (nI ((stT q).length)), .ref qi, .ref qs, .ref qe, .ref qn, .ref qk])), (qi, .inl (cI, 6, .inl gi)), (qs, .inl (cI, 6, .inl gs)), (qe, .inl (cI, 6, .inl ge)), (qn, .inl (cI, 42, .inl w))] := hD
  refine W.eq (g2 := F0 m 12 ls [.int r_1]) rfl ?_
  refine W.widen (k := 0) (n := 0) (Nat.le_of_ble_eq_true rfl) (Nat.le_of_ble_eq_true rfl) ?_
  refine k_top (v := nI 1) (hr_9) ?_
  refine k_if_ne (tgt := 21) hx hb 1 rfl (by omega) dX4_setMesh_12 (by decide) (fun c_12 => ?_) (fun c_12 => ?_)
  · skip
    refine lv_aload_n hx hb dX4_setMesh_21 rfl (lv_at hl 0 rfl) ?_
    refine va_get (D := D) (ci := 4) (v := .int (stM q)) (C := RX4) (T := TX4) (N := 9) hx hb hts iX4 hown hK hP 0 rfl rfl 2 (by decide) f13 (fun _ h9 => h9) rfl dX4_setMesh_22 ?_
    refine lv_istore_n (lv' := [(2, .int (stM q)), (0, .ref mo), (1, .int (nI v))]) hx hb dX4_setMesh_25 rfl hl (by decide) rfl (fun ls hl => ?_)
    refine lv_aload_n hx hb dX4_setMesh_26 rfl (lv_at hl 1 rfl) ?_
    refine lv_iload_n hx hb dX4_setMesh_27 rfl (lv_at hl 2 rfl) ?_
    refine va_put (D := D) (ci := 4) (v := .int (nI v)) (ty := .int) (C := RX4) (T := TX4) (N := 9) hx hb hts iX4 tyX4 tyX4_ok nmX4 hown hK hP hD hS 0 rfl rfl 2 (by decide) f13 (fun _ h9 => h9) rfl (by decide +kernel) rfl rfl (Nat.le_of_ble_eq_true rfl) dX4_setMesh_28 (fun H locs hP hD hS => ?_)
    have hP : va_P D vwCl [(mo, .inr (4, [.int (nI 0), .int (nI (stS q)), .int (nI v), .int (nI ((stT q).length)), .ref qi, .ref qs, .ref qe, .ref qn, .ref qk])), (qi, .inl (cI, 6, .inl gi)), (qs, .inl (cI, 6, .inl gs)), (qe, .inl (cI, 6, .inl ge)), (qn, .inl (cI, 42, .inl w))] H := hP
    have hD : va_D A [(mo, .inr (4, [.int (nI 0), .int (nI (stS q)), .int (nI v), .int (nI ((stT q).length)), .ref qi, .ref qs, .ref qe, .ref qn, .ref qk])), (qi, .inl (cI, 6, .inl gi)), (qs, .inl (cI, 6, .inl gs)), (qe, .inl (cI, 6, .inl ge)), (qn, .inl (cI, 42, .inl w))] := hD
    refine lv_iload_n hx hb dX4_setMesh_31 rfl (lv_at hl 0 rfl) ?_
    exact ret (stM q) () _ _ _ _ _ _ (rfl) (hP.sub [0, 1, 2, 3, 4] (rfl)) (hD.sub [0, 1, 2, 3, 4] (by decide) (rfl)) hS (Nat.le_of_ble_eq_true rfl) (Nat.le_of_ble_eq_true rfl) dX4_setMesh_32
  · exact absurd c_12 (by omega)

abbrev rm_X4_addTalker : Room := { frames := 2, cells := 0, slots := 0, locals := 43 }
set_option maxHeartbeats 4000000 in
set_option maxRecDepth 100000 in
theorem c_X4_addTalker (l : Launch) (D : va_G) (cI : ClassId) (mo : Nat) (qi : Nat) (qs : Nat) (qe : Nat) (qn : Nat) (qk : Nat) (tw : Int32) (gi : Nat → Int32) (gs : Nat → Int32) (ge : Nat → Int32) (w : Nat → Int32) (q : St) (kn : Nat) (z : Nat) (mm : Nat) (hN : rN gi gs ge w q) (hk : kn < 5) (hz : 2 ≤ z ∧ z ≤ 99) (hm : 1 ≤ mm ∧ mm ≤ 9) (h6 : (stT q).length < 6) : kM kri l yX4_addTalker wsX4_addTalker rm_X4_addTalker D [(cI, .int)] [.ref mo, .int (nI kn), .int (nI z), .int (nI mm)] [(mo, .inr (4, [.int tw, .int (nI (stS q)), .int (stM q), .int (nI ((stT q).length)), .ref qi, .ref qs, .ref qe, .ref qn, .ref qk])), (qi, .inl (cI, 6, .inl gi)), (qs, .inl (cI, 6, .inl gs)), (qe, .inl (cI, 6, .inl ge)), (qn, .inl (cI, 42, .inl w))] (fun (r : Int32) (u : (Nat → Int32) × (Nat → Int32) × (Nat → Int32) × (Nat → Int32)) => r = nI (stT q).length ∧ rN u.1 u.2.1 u.2.2.1 u.2.2.2 (setT q (stT q ++ [(nI kn, z, nI mm, 30, -1)]))) (fun (u : (Nat → Int32) × (Nat → Int32) × (Nat → Int32) × (Nat → Int32)) => [(mo, .inr (4, [.int (nI 0), .int (nI (stS (setT q (stT q ++ [(nI kn, z, nI mm, 30, -1)])))), .int (stM (setT q (stT q ++ [(nI kn, z, nI mm, 30, -1)]))), .int (nI ((stT (setT q (stT q ++ [(nI kn, z, nI mm, 30, -1)]))).length)), .ref qi, .ref qs, .ref qe, .ref qn, .ref qk])), (qi, .inl (cI, 6, .inl u.1)), (qs, .inl (cI, 6, .inl u.2.1)), (qe, .inl (cI, 6, .inl u.2.2.1)), (qn, .inl (cI, 42, .inl u.2.2.2))]) := by
  refine k_bodyI (cc := cX4_addTalker) (maxL := 4) (by decide) rfl (Nat.le_of_ble_eq_true rfl) ?_
  intro p e ss m args below meth c A Q F hname hA hG hK hP hD hS ret ls hl
  obtain ⟨hx, hb, hml, hown, hts⟩ := id F
  have hP : va_P D vwCl [(mo, .inr (4, [.int tw, .int (nI (stS q)), .int (stM q), .int (nI ((stT q).length)), .ref qi, .ref qs, .ref qe, .ref qn, .ref qk])), (qi, .inl (cI, 6, .inl gi)), (qs, .inl (cI, 6, .inl gs)), (qe, .inl (cI, 6, .inl ge)), (qn, .inl (cI, 42, .inl w))] ss.heap := hP
  have hD : va_D A [(mo, .inr (4, [.int tw, .int (nI (stS q)), .int (stM q), .int (nI ((stT q).length)), .ref qi, .ref qs, .ref qe, .ref qn, .ref qk])), (qi, .inl (cI, 6, .inl gi)), (qs, .inl (cI, 6, .inl gs)), (qe, .inl (cI, 6, .inl ge)), (qn, .inl (cI, 42, .inl w))] := hD
  have hl : lv_has ls 4 [(0, .ref mo), (1, .int (nI kn)), (2, .int (nI z)), (3, .int (nI mm))] := hl
  have iX4 : ∀ w ∈ u_ws RX4 TX4 9, w ∈ wsX4_addTalker := by decide +kernel
  have f16 := hts (.fieldLink RX4 16 "SmallerTalkModel" "its" "[I") (by decide +kernel)
  have f20 := hts (.fieldLink RX4 20 "SmallerTalkModel" "size" "[I") (by decide +kernel)
  have f23 := hts (.fieldLink RX4 23 "SmallerTalkModel" "each" "[I") (by decide +kernel)
  have f26 := hts (.fieldLink RX4 26 "SmallerTalkModel" "now" "[I") (by decide +kernel)
  have f32 := hts (.fieldLink RX4 32 "SmallerTalkModel" "thrown" "I") (by decide +kernel)
  have f39 := hts (.fieldLink RX4 39 "SmallerTalkModel" "talkers" "I") (by decide +kernel)
  obtain ⟨n0, n1, n2, n3, n4, n5, nB, nT⟩ := id hN
  refine lv_aload_n hx hb dX4_addTalker_0 rfl (lv_at hl 0 rfl) ?_
  refine lv_iconst (v := nI 0) hx hb dX4_addTalker_1 (by decide +kernel) ?_
  refine va_put (D := D) (ci := 4) (v := .int (nI 0)) (ty := .int) (C := RX4) (T := TX4) (N := 9) hx hb hts iX4 tyX4 tyX4_ok nmX4 hown hK hP hD hS 0 rfl rfl 0 (by decide) f32 (fun _ h9 => h9) rfl (by decide +kernel) rfl rfl (Nat.le_of_ble_eq_true rfl) dX4_addTalker_2 (fun H locs hP hD hS => ?_)
  have hP : va_P D vwCl [(mo, .inr (4, [.int (nI 0), .int (nI (stS q)), .int (stM q), .int (nI ((stT q).length)), .ref qi, .ref qs, .ref qe, .ref qn, .ref qk])), (qi, .inl (cI, 6, .inl gi)), (qs, .inl (cI, 6, .inl gs)), (qe, .inl (cI, 6, .inl ge)), (qn, .inl (cI, 42, .inl w))] H := hP
  have hD : va_D A [(mo, .inr (4, [.int (nI 0), .int (nI (stS q)), .int (stM q), .int (nI ((stT q).length)), .ref qi, .ref qs, .ref qe, .ref qn, .ref qk])), (qi, .inl (cI, 6, .inl gi)), (qs, .inl (cI, 6, .inl gs)), (qe, .inl (cI, 6, .inl ge)), (qn, .inl (cI, 42, .inl w))] := hD
  refine lv_iload_n hx hb dX4_addTalker_5 rfl (lv_at hl 1 rfl) ?_
  refine lv_iload_n hx hb dX4_addTalker_6 rfl (lv_at hl 2 rfl) ?_
  refine k_callS (As := [.int (nI kn), .int (nI z)]) (rest := []) (wr := [(mo, .inr (4, [.int (nI 0), .int (nI (stS q)), .int (stM q), .int (nI ((stT q).length)), .ref qi, .ref qs, .ref qe, .ref qn, .ref qk])), (qi, .inl (cI, 6, .inl gi)), (qs, .inl (cI, 6, .inl gs)), (qe, .inl (cI, 6, .inl ge)), (qn, .inl (cI, 42, .inl w))]) F (c_X4_isTopic l D cI kn z hk hz) gX4_addTalker_X4_isTopic rfl (nA := 2) (by decide +kernel) rfl ⟨Nat.le_of_ble_eq_true rfl, Nat.le_of_ble_eq_true rfl⟩ hK hP hD hS hA hG [] [0, 1, 2, 3, 4] rfl (by decide) rfl (by decide) (by decide) [0] rfl rfl hl.1 (Nat.le_of_ble_eq_true rfl) dX4_addTalker_7 ⟨Nat.le_of_ble_eq_true rfl, Nat.le_of_ble_eq_true rfl⟩ (fun r_1 u H locs hr_7 hP hD hS => ?_)
  try dsimp only at hr_7
  have hP : va_P D vwCl [(mo, .inr (4, [.int (nI 0), .int (nI (stS q)), .int (stM q), .int (nI ((stT q).length)), .ref qi, .ref qs, .ref qe, .ref qn, .ref qk])), (qi, .inl (cI, 6, .inl gi)), (qs, .inl (cI, 6, .inl gs)), (qe, .inl (cI, 6, .inl ge)), (qn, .inl (cI, 42, .inl w))] H := hP
  have hD : va_D A [(mo, .inr (4, [.int (nI 0), .int (nI (stS q)), .int (stM q), .int (nI ((stT q).length)), .ref qi, .ref qs, .ref qe, .ref qn, .ref qk])), (qi, .inl (cI, 6, .inl gi)), (qs, .inl (cI, 6, .inl gs)), (qe, .inl (cI, 6, .inl ge)), (qn, .inl (cI, 42, .inl w))] := hD
  refine W.eq (g2 := F0 m 10 ls [.int r_1]) rfl ?_
  refine W.widen (k := 0) (n := 0) (Nat.le_of_ble_eq_true rfl) (Nat.le_of_ble_eq_true rfl) ?_
  refine k_top (v := nI 1) (hr_7) ?_
  refine k_if_eq (tgt := 23) hx hb 1 rfl (by omega) dX4_addTalker_10 (by decide) (fun c_10 => ?_) (fun c_10 => ?_)
  · exact absurd c_10 (by omega)
  · skip
    refine lv_iload_n hx hb dX4_addTalker_13 rfl (lv_at hl 3 rfl) ?_
    refine lv_iconst (v := nI 1) hx hb dX4_addTalker_14 (by decide +kernel) ?_
    refine lv_bipush (v := nI 9) hx hb dX4_addTalker_15 (by decide +kernel) ?_
    refine k_callS (As := [.int (nI mm), .int (nI 1), .int (nI 9)]) (rest := []) (wr := [(mo, .inr (4, [.int (nI 0), .int (nI (stS q)), .int (stM q), .int (nI ((stT q).length)), .ref qi, .ref qs, .ref qe, .ref qn, .ref qk])), (qi, .inl (cI, 6, .inl gi)), (qs, .inl (cI, 6, .inl gs)), (qe, .inl (cI, 6, .inl ge)), (qn, .inl (cI, 42, .inl w))]) F (c_X4_isIn l D cI mm 1 9 (by omega) (by omega)) gX4_addTalker_X4_isIn rfl (nA := 3) (by decide +kernel) rfl ⟨Nat.le_of_ble_eq_true rfl, Nat.le_of_ble_eq_true rfl⟩ hK hP hD hS hA hG [] [0, 1, 2, 3, 4] rfl (by decide) rfl (by decide) (by decide) [0] rfl rfl hl.1 (Nat.le_of_ble_eq_true rfl) dX4_addTalker_17 ⟨Nat.le_of_ble_eq_true rfl, Nat.le_of_ble_eq_true rfl⟩ (fun r_2 u H locs hr_17 hP hD hS => ?_)
    try dsimp only at hr_17
    have hP : va_P D vwCl [(mo, .inr (4, [.int (nI 0), .int (nI (stS q)), .int (stM q), .int (nI ((stT q).length)), .ref qi, .ref qs, .ref qe, .ref qn, .ref qk])), (qi, .inl (cI, 6, .inl gi)), (qs, .inl (cI, 6, .inl gs)), (qe, .inl (cI, 6, .inl ge)), (qn, .inl (cI, 42, .inl w))] H := hP
    have hD : va_D A [(mo, .inr (4, [.int (nI 0), .int (nI (stS q)), .int (stM q), .int (nI ((stT q).length)), .ref qi, .ref qs, .ref qe, .ref qn, .ref qk])), (qi, .inl (cI, 6, .inl gi)), (qs, .inl (cI, 6, .inl gs)), (qe, .inl (cI, 6, .inl ge)), (qn, .inl (cI, 42, .inl w))] := hD
    refine W.eq (g2 := F0 m 20 ls [.int r_2]) rfl ?_
    refine W.widen (k := 0) (n := 0) (Nat.le_of_ble_eq_true rfl) (Nat.le_of_ble_eq_true rfl) ?_
    refine k_top (v := nI 1) (hr_17) ?_
    refine k_if_ne (tgt := 29) hx hb 1 rfl (by omega) dX4_addTalker_20 (by decide) (fun c_20 => ?_) (fun c_20 => ?_)
    · skip
      refine lv_aload_n hx hb dX4_addTalker_29 rfl (lv_at hl 0 rfl) ?_
      refine va_get (D := D) (ci := 4) (v := .int (nI ((stT q).length))) (C := RX4) (T := TX4) (N := 9) hx hb hts iX4 hown hK hP 0 rfl rfl 3 (by decide) f39 (fun _ h9 => h9) rfl dX4_addTalker_30 ?_
      refine lv_bipush (v := nI 6) hx hb dX4_addTalker_33 (by decide +kernel) ?_
      refine k_cmp_ne (tgt := 44) hx hb ((stT q).length) 6 rfl rfl (by omega) (by omega) dX4_addTalker_35 (by decide) (fun c_35 => ?_) (fun c_35 => ?_)
      · skip
        refine lv_aload_n hx hb dX4_addTalker_44 rfl (lv_at hl 0 rfl) ?_
        refine va_get (D := D) (ci := 4) (v := .ref qi) (C := RX4) (T := TX4) (N := 9) hx hb hts iX4 hown hK hP 0 rfl rfl 4 (by decide) f16 (fun _ h9 => h9) rfl dX4_addTalker_45 ?_
        refine lv_aload_n hx hb dX4_addTalker_48 rfl (lv_at hl 0 rfl) ?_
        refine va_get (D := D) (ci := 4) (v := .int (nI ((stT q).length))) (C := RX4) (T := TX4) (N := 9) hx hb hts iX4 hown hK hP 0 rfl rfl 3 (by decide) f39 (fun _ h9 => h9) rfl dX4_addTalker_49 ?_
        refine lv_iload_n hx hb dX4_addTalker_52 rfl (lv_at hl 1 rfl) ?_
        refine k_iast hx hb hK hP hD hS 1 0 rfl rfl ((stT q).length) (rfl) (by omega) (by decide) dX4_addTalker_53 (fun H locs hP hD hS => ?_)
        have hP : va_P D vwCl [(mo, .inr (4, [.int (nI 0), .int (nI (stS q)), .int (stM q), .int (nI ((stT q).length)), .ref qi, .ref qs, .ref qe, .ref qn, .ref qk])), (qi, .inl (cI, 6, .inl (upd gi ((stT q).length) (nI kn)))), (qs, .inl (cI, 6, .inl gs)), (qe, .inl (cI, 6, .inl ge)), (qn, .inl (cI, 42, .inl w))] H := hP
        have hD : va_D A [(mo, .inr (4, [.int (nI 0), .int (nI (stS q)), .int (stM q), .int (nI ((stT q).length)), .ref qi, .ref qs, .ref qe, .ref qn, .ref qk])), (qi, .inl (cI, 6, .inl (upd gi ((stT q).length) (nI kn)))), (qs, .inl (cI, 6, .inl gs)), (qe, .inl (cI, 6, .inl ge)), (qn, .inl (cI, 42, .inl w))] := hD
        refine lv_aload_n hx hb dX4_addTalker_54 rfl (lv_at hl 0 rfl) ?_
        refine va_get (D := D) (ci := 4) (v := .ref qs) (C := RX4) (T := TX4) (N := 9) hx hb hts iX4 hown hK hP 0 rfl rfl 5 (by decide) f20 (fun _ h9 => h9) rfl dX4_addTalker_55 ?_
        refine lv_aload_n hx hb dX4_addTalker_58 rfl (lv_at hl 0 rfl) ?_
        refine va_get (D := D) (ci := 4) (v := .int (nI ((stT q).length))) (C := RX4) (T := TX4) (N := 9) hx hb hts iX4 hown hK hP 0 rfl rfl 3 (by decide) f39 (fun _ h9 => h9) rfl dX4_addTalker_59 ?_
        refine lv_iload_n hx hb dX4_addTalker_62 rfl (lv_at hl 2 rfl) ?_
        refine k_iast hx hb hK hP hD hS 2 0 rfl rfl ((stT q).length) (rfl) (by omega) (by decide) dX4_addTalker_63 (fun H locs hP hD hS => ?_)
        have hP : va_P D vwCl [(mo, .inr (4, [.int (nI 0), .int (nI (stS q)), .int (stM q), .int (nI ((stT q).length)), .ref qi, .ref qs, .ref qe, .ref qn, .ref qk])), (qi, .inl (cI, 6, .inl (upd gi ((stT q).length) (nI kn)))), (qs, .inl (cI, 6, .inl (upd gs ((stT q).length) (nI z)))), (qe, .inl (cI, 6, .inl ge)), (qn, .inl (cI, 42, .inl w))] H := hP
        have hD : va_D A [(mo, .inr (4, [.int (nI 0), .int (nI (stS q)), .int (stM q), .int (nI ((stT q).length)), .ref qi, .ref qs, .ref qe, .ref qn, .ref qk])), (qi, .inl (cI, 6, .inl (upd gi ((stT q).length) (nI kn)))), (qs, .inl (cI, 6, .inl (upd gs ((stT q).length) (nI z)))), (qe, .inl (cI, 6, .inl ge)), (qn, .inl (cI, 42, .inl w))] := hD
        refine lv_aload_n hx hb dX4_addTalker_64 rfl (lv_at hl 0 rfl) ?_
        refine va_get (D := D) (ci := 4) (v := .ref qe) (C := RX4) (T := TX4) (N := 9) hx hb hts iX4 hown hK hP 0 rfl rfl 6 (by decide) f23 (fun _ h9 => h9) rfl dX4_addTalker_65 ?_
        refine lv_aload_n hx hb dX4_addTalker_68 rfl (lv_at hl 0 rfl) ?_
        refine va_get (D := D) (ci := 4) (v := .int (nI ((stT q).length))) (C := RX4) (T := TX4) (N := 9) hx hb hts iX4 hown hK hP 0 rfl rfl 3 (by decide) f39 (fun _ h9 => h9) rfl dX4_addTalker_69 ?_
        refine lv_iload_n hx hb dX4_addTalker_72 rfl (lv_at hl 3 rfl) ?_
        refine k_iast hx hb hK hP hD hS 3 0 rfl rfl ((stT q).length) (rfl) (by omega) (by decide) dX4_addTalker_73 (fun H locs hP hD hS => ?_)
        have hP : va_P D vwCl [(mo, .inr (4, [.int (nI 0), .int (nI (stS q)), .int (stM q), .int (nI ((stT q).length)), .ref qi, .ref qs, .ref qe, .ref qn, .ref qk])), (qi, .inl (cI, 6, .inl (upd gi ((stT q).length) (nI kn)))), (qs, .inl (cI, 6, .inl (upd gs ((stT q).length) (nI z)))), (qe, .inl (cI, 6, .inl (upd ge ((stT q).length) (nI mm)))), (qn, .inl (cI, 42, .inl w))] H := hP
        have hD : va_D A [(mo, .inr (4, [.int (nI 0), .int (nI (stS q)), .int (stM q), .int (nI ((stT q).length)), .ref qi, .ref qs, .ref qe, .ref qn, .ref qk])), (qi, .inl (cI, 6, .inl (upd gi ((stT q).length) (nI kn)))), (qs, .inl (cI, 6, .inl (upd gs ((stT q).length) (nI z)))), (qe, .inl (cI, 6, .inl (upd ge ((stT q).length) (nI mm)))), (qn, .inl (cI, 42, .inl w))] := hD
        refine lv_aload_n hx hb dX4_addTalker_74 rfl (lv_at hl 0 rfl) ?_
        refine va_get (D := D) (ci := 4) (v := .ref qn) (C := RX4) (T := TX4) (N := 9) hx hb hts iX4 hown hK hP 0 rfl rfl 7 (by decide) f26 (fun _ h9 => h9) rfl dX4_addTalker_75 ?_
        refine lv_bipush (v := nI 30) hx hb dX4_addTalker_78 (by decide +kernel) ?_
        refine lv_aload_n hx hb dX4_addTalker_80 rfl (lv_at hl 0 rfl) ?_
        refine va_get (D := D) (ci := 4) (v := .int (nI ((stT q).length))) (C := RX4) (T := TX4) (N := 9) hx hb hts iX4 hown hK hP 0 rfl rfl 3 (by decide) f39 (fun _ h9 => h9) rfl dX4_addTalker_81 ?_
        refine k_iadd hx hb (nI (30 + ((stT q).length))) (nI_add _ _) dX4_addTalker_84 ?_
        refine lv_bipush (v := nI 30) hx hb dX4_addTalker_85 (by decide +kernel) ?_
        refine k_iast hx hb hK hP hD hS 4 0 rfl rfl (30 + ((stT q).length)) (rfl) (by omega) (by decide) dX4_addTalker_87 (fun H locs hP hD hS => ?_)
        have hP : va_P D vwCl [(mo, .inr (4, [.int (nI 0), .int (nI (stS q)), .int (stM q), .int (nI ((stT q).length)), .ref qi, .ref qs, .ref qe, .ref qn, .ref qk])), (qi, .inl (cI, 6, .inl (upd gi ((stT q).length) (nI kn)))), (qs, .inl (cI, 6, .inl (upd gs ((stT q).length) (nI z)))), (qe, .inl (cI, 6, .inl (upd ge ((stT q).length) (nI mm)))), (qn, .inl (cI, 42, .inl (upd w (30 + ((stT q).length)) (nI 30))))] H := hP
        have hD : va_D A [(mo, .inr (4, [.int (nI 0), .int (nI (stS q)), .int (stM q), .int (nI ((stT q).length)), .ref qi, .ref qs, .ref qe, .ref qn, .ref qk])), (qi, .inl (cI, 6, .inl (upd gi ((stT q).length) (nI kn)))), (qs, .inl (cI, 6, .inl (upd gs ((stT q).length) (nI z)))), (qe, .inl (cI, 6, .inl (upd ge ((stT q).length) (nI mm)))), (qn, .inl (cI, 42, .inl (upd w (30 + ((stT q).length)) (nI 30))))] := hD
        refine lv_aload_n hx hb dX4_addTalker_88 rfl (lv_at hl 0 rfl) ?_
        refine va_get (D := D) (ci := 4) (v := .ref qn) (C := RX4) (T := TX4) (N := 9) hx hb hts iX4 hown hK hP 0 rfl rfl 7 (by decide) f26 (fun _ h9 => h9) rfl dX4_addTalker_89 ?_
        refine lv_bipush (v := nI 36) hx hb dX4_addTalker_92 (by decide +kernel) ?_
        refine lv_aload_n hx hb dX4_addTalker_94 rfl (lv_at hl 0 rfl) ?_
        refine va_get (D := D) (ci := 4) (v := .int (nI ((stT q).length))) (C := RX4) (T := TX4) (N := 9) hx hb hts iX4 hown hK hP 0 rfl rfl 3 (by decide) f39 (fun _ h9 => h9) rfl dX4_addTalker_95 ?_
        refine k_iadd hx hb (nI (36 + ((stT q).length))) (nI_add _ _) dX4_addTalker_98 ?_
        refine lv_iconst (v := -1) hx hb dX4_addTalker_99 (by decide +kernel) ?_
        refine k_iast hx hb hK hP hD hS 4 0 rfl rfl (36 + ((stT q).length)) (rfl) (by omega) (by decide) dX4_addTalker_100 (fun H locs hP hD hS => ?_)
        have hP : va_P D vwCl [(mo, .inr (4, [.int (nI 0), .int (nI (stS q)), .int (stM q), .int (nI ((stT q).length)), .ref qi, .ref qs, .ref qe, .ref qn, .ref qk])), (qi, .inl (cI, 6, .inl (upd gi ((stT q).length) (nI kn)))), (qs, .inl (cI, 6, .inl (upd gs ((stT q).length) (nI z)))), (qe, .inl (cI, 6, .inl (upd ge ((stT q).length) (nI mm)))), (qn, .inl (cI, 42, .inl (upd (upd w (30 + ((stT q).length)) (nI 30)) (36 + ((stT q).length)) (-1))))] H := hP
        have hD : va_D A [(mo, .inr (4, [.int (nI 0), .int (nI (stS q)), .int (stM q), .int (nI ((stT q).length)), .ref qi, .ref qs, .ref qe, .ref qn, .ref qk])), (qi, .inl (cI, 6, .inl (upd gi ((stT q).length) (nI kn)))), (qs, .inl (cI, 6, .inl (upd gs ((stT q).length) (nI z)))), (qe, .inl (cI, 6, .inl (upd ge ((stT q).length) (nI mm)))), (qn, .inl (cI, 42, .inl (upd (upd w (30 + ((stT q).length)) (nI 30)) (36 + ((stT q).length)) (-1))))] := hD
        refine lv_aload_n hx hb dX4_addTalker_101 rfl (lv_at hl 0 rfl) ?_
        refine lv_dup hx hb dX4_addTalker_102 rfl ?_
        refine va_get (D := D) (ci := 4) (v := .int (nI ((stT q).length))) (C := RX4) (T := TX4) (N := 9) hx hb hts iX4 hown hK hP 0 rfl rfl 3 (by decide) f39 (fun _ h9 => h9) rfl dX4_addTalker_103 ?_
        refine lv_iconst (v := nI 1) hx hb dX4_addTalker_106 (by decide +kernel) ?_
        refine k_iadd hx hb (nI ((stT q ++ [(nI kn, z, nI mm, 30, -1)]).length)) (by rw [nI_add, List.length_append]; rfl) dX4_addTalker_107 ?_
        refine va_put (D := D) (ci := 4) (v := .int (nI ((stT q ++ [(nI kn, z, nI mm, 30, -1)]).length))) (ty := .int) (C := RX4) (T := TX4) (N := 9) hx hb hts iX4 tyX4 tyX4_ok nmX4 hown hK hP hD hS 0 rfl rfl 3 (by decide) f39 (fun _ h9 => h9) rfl (by decide +kernel) rfl rfl (Nat.le_of_ble_eq_true rfl) dX4_addTalker_108 (fun H locs hP hD hS => ?_)
        have hP : va_P D vwCl [(mo, .inr (4, [.int (nI 0), .int (nI (stS q)), .int (stM q), .int (nI ((stT q ++ [(nI kn, z, nI mm, 30, -1)]).length)), .ref qi, .ref qs, .ref qe, .ref qn, .ref qk])), (qi, .inl (cI, 6, .inl (upd gi ((stT q).length) (nI kn)))), (qs, .inl (cI, 6, .inl (upd gs ((stT q).length) (nI z)))), (qe, .inl (cI, 6, .inl (upd ge ((stT q).length) (nI mm)))), (qn, .inl (cI, 42, .inl (upd (upd w (30 + ((stT q).length)) (nI 30)) (36 + ((stT q).length)) (-1))))] H := hP
        have hD : va_D A [(mo, .inr (4, [.int (nI 0), .int (nI (stS q)), .int (stM q), .int (nI ((stT q ++ [(nI kn, z, nI mm, 30, -1)]).length)), .ref qi, .ref qs, .ref qe, .ref qn, .ref qk])), (qi, .inl (cI, 6, .inl (upd gi ((stT q).length) (nI kn)))), (qs, .inl (cI, 6, .inl (upd gs ((stT q).length) (nI z)))), (qe, .inl (cI, 6, .inl (upd ge ((stT q).length) (nI mm)))), (qn, .inl (cI, 42, .inl (upd (upd w (30 + ((stT q).length)) (nI 30)) (36 + ((stT q).length)) (-1))))] := hD
        refine lv_aload_n hx hb dX4_addTalker_111 rfl (lv_at hl 0 rfl) ?_
        refine va_get (D := D) (ci := 4) (v := .int (nI ((stT q ++ [(nI kn, z, nI mm, 30, -1)]).length))) (C := RX4) (T := TX4) (N := 9) hx hb hts iX4 hown hK hP 0 rfl rfl 3 (by decide) f39 (fun _ h9 => h9) rfl dX4_addTalker_112 ?_
        refine lv_iconst (v := nI 1) hx hb dX4_addTalker_115 (by decide +kernel) ?_
        refine k_isub hx hb (nI ((stT q).length)) (by rw [List.length_append]; exact k_subN _ 1) dX4_addTalker_116 ?_
        exact ret (nI ((stT q).length)) ⟨upd gi ((stT q).length) (nI kn), upd gs ((stT q).length) (nI z), upd ge ((stT q).length) (nI mm), upd (upd w (30 + ((stT q).length)) (nI 30)) (36 + ((stT q).length)) (-1)⟩ _ _ _ _ _ _ (⟨rfl, rN_join hN h6⟩) (hP.sub [0, 1, 2, 3, 4] (rfl)) (hD.sub [0, 1, 2, 3, 4] (by decide) (rfl)) hS (Nat.le_of_ble_eq_true rfl) (Nat.le_of_ble_eq_true rfl) dX4_addTalker_117
      · skip
        exact absurd c_35 (by omega)
    · exact absurd c_20 (by omega)

abbrev rm_X4_pass_ : Room := { frames := 4, cells := 0, slots := 0, locals := 90 }
set_option maxHeartbeats 4000000 in
set_option maxRecDepth 100000 in
theorem c_X4_pass_ (l : Launch) (D : va_G) (cI : ClassId) (mo : Nat) (qi : Nat) (qs : Nat) (qe : Nat) (qn : Nat) (qk : Nat) (tw : Int32) (gi : Nat → Int32) (gs : Nat → Int32) (ge : Nat → Int32) (w : Nat → Int32) (q : St) (mm : Nat) (hN : rN gi gs ge w q) (hO : okS q) (hm : 1 ≤ mm ∧ mm ≤ 60) (hmi : stI q < 50000) : kM kri l yX4_pass_ wsX4_pass_ rm_X4_pass_ D [(cI, .int)] [.ref mo, .int (nI mm)] [(mo, .inr (4, [.int tw, .int (nI (stS q)), .int (stM q), .int (nI ((stT q).length)), .ref qi, .ref qs, .ref qe, .ref qn, .ref qk])), (qi, .inl (cI, 6, .inl gi)), (qs, .inl (cI, 6, .inl gs)), (qe, .inl (cI, 6, .inl ge)), (qn, .inl (cI, 42, .inl w))] (fun (r : Int32) (u : (Nat → Int32)) => r = nI (ctT (stT q) - ctT (stT (itS q mm))) ∧ rN gi gs ge u (itS q mm)) (fun (u : (Nat → Int32)) => [(mo, .inr (4, [.int (nI 0), .int (nI (stS q)), .int (stM q), .int (nI ((stT q).length)), .ref qi, .ref qs, .ref qe, .ref qn, .ref qk])), (qi, .inl (cI, 6, .inl gi)), (qs, .inl (cI, 6, .inl gs)), (qe, .inl (cI, 6, .inl ge)), (qn, .inl (cI, 42, .inl u))]) := by
  refine k_bodyI (cc := cX4_pass_) (maxL := 2) (by decide) rfl (Nat.le_of_ble_eq_true rfl) ?_
  intro p e ss m args below meth c A Q F hname hA hG hK hP hD hS ret ls hl
  obtain ⟨hx, hb, hml, hown, hts⟩ := id F
  have hP : va_P D vwCl [(mo, .inr (4, [.int tw, .int (nI (stS q)), .int (stM q), .int (nI ((stT q).length)), .ref qi, .ref qs, .ref qe, .ref qn, .ref qk])), (qi, .inl (cI, 6, .inl gi)), (qs, .inl (cI, 6, .inl gs)), (qe, .inl (cI, 6, .inl ge)), (qn, .inl (cI, 42, .inl w))] ss.heap := hP
  have hD : va_D A [(mo, .inr (4, [.int tw, .int (nI (stS q)), .int (stM q), .int (nI ((stT q).length)), .ref qi, .ref qs, .ref qe, .ref qn, .ref qk])), (qi, .inl (cI, 6, .inl gi)), (qs, .inl (cI, 6, .inl gs)), (qe, .inl (cI, 6, .inl ge)), (qn, .inl (cI, 42, .inl w))] := hD
  have hl : lv_has ls 2 [(0, .ref mo), (1, .int (nI mm))] := hl
  have iX4 : ∀ w ∈ u_ws RX4 TX4 9, w ∈ wsX4_pass_ := by decide +kernel
  have f32 := hts (.fieldLink RX4 32 "SmallerTalkModel" "thrown" "I") (by decide +kernel)
  obtain ⟨n0, n1, n2, n3, n4, n5, nB, nT⟩ := id hN
  refine lv_aload_n hx hb dX4_pass__0 rfl (lv_at hl 0 rfl) ?_
  refine lv_iconst (v := nI 0) hx hb dX4_pass__1 (by decide +kernel) ?_
  refine va_put (D := D) (ci := 4) (v := .int (nI 0)) (ty := .int) (C := RX4) (T := TX4) (N := 9) hx hb hts iX4 tyX4 tyX4_ok nmX4 hown hK hP hD hS 0 rfl rfl 0 (by decide) f32 (fun _ h9 => h9) rfl (by decide +kernel) rfl rfl (Nat.le_of_ble_eq_true rfl) dX4_pass__2 (fun H locs hP hD hS => ?_)
  have hP : va_P D vwCl [(mo, .inr (4, [.int (nI 0), .int (nI (stS q)), .int (stM q), .int (nI ((stT q).length)), .ref qi, .ref qs, .ref qe, .ref qn, .ref qk])), (qi, .inl (cI, 6, .inl gi)), (qs, .inl (cI, 6, .inl gs)), (qe, .inl (cI, 6, .inl ge)), (qn, .inl (cI, 42, .inl w))] H := hP
  have hD : va_D A [(mo, .inr (4, [.int (nI 0), .int (nI (stS q)), .int (stM q), .int (nI ((stT q).length)), .ref qi, .ref qs, .ref qe, .ref qn, .ref qk])), (qi, .inl (cI, 6, .inl gi)), (qs, .inl (cI, 6, .inl gs)), (qe, .inl (cI, 6, .inl ge)), (qn, .inl (cI, 42, .inl w))] := hD
  refine lv_iload_n hx hb dX4_pass__5 rfl (lv_at hl 1 rfl) ?_
  refine lv_iconst (v := nI 1) hx hb dX4_pass__6 (by decide +kernel) ?_
  refine lv_bipush (v := nI 60) hx hb dX4_pass__7 (by decide +kernel) ?_
  refine k_callS (As := [.int (nI mm), .int (nI 1), .int (nI 60)]) (rest := []) (wr := [(mo, .inr (4, [.int (nI 0), .int (nI (stS q)), .int (stM q), .int (nI ((stT q).length)), .ref qi, .ref qs, .ref qe, .ref qn, .ref qk])), (qi, .inl (cI, 6, .inl gi)), (qs, .inl (cI, 6, .inl gs)), (qe, .inl (cI, 6, .inl ge)), (qn, .inl (cI, 42, .inl w))]) F (c_X4_isIn l D cI mm 1 60 (by omega) (by omega)) gX4_pass__X4_isIn rfl (nA := 3) (by decide +kernel) rfl ⟨Nat.le_of_ble_eq_true rfl, Nat.le_of_ble_eq_true rfl⟩ hK hP hD hS hA hG [] [0, 1, 2, 3, 4] rfl (by decide) rfl (by decide) (by decide) [0] rfl rfl hl.1 (Nat.le_of_ble_eq_true rfl) dX4_pass__9 ⟨Nat.le_of_ble_eq_true rfl, Nat.le_of_ble_eq_true rfl⟩ (fun r_1 u H locs hr_9 hP hD hS => ?_)
  try dsimp only at hr_9
  have hP : va_P D vwCl [(mo, .inr (4, [.int (nI 0), .int (nI (stS q)), .int (stM q), .int (nI ((stT q).length)), .ref qi, .ref qs, .ref qe, .ref qn, .ref qk])), (qi, .inl (cI, 6, .inl gi)), (qs, .inl (cI, 6, .inl gs)), (qe, .inl (cI, 6, .inl ge)), (qn, .inl (cI, 42, .inl w))] H := hP
  have hD : va_D A [(mo, .inr (4, [.int (nI 0), .int (nI (stS q)), .int (stM q), .int (nI ((stT q).length)), .ref qi, .ref qs, .ref qe, .ref qn, .ref qk])), (qi, .inl (cI, 6, .inl gi)), (qs, .inl (cI, 6, .inl gs)), (qe, .inl (cI, 6, .inl ge)), (qn, .inl (cI, 42, .inl w))] := hD
  refine W.eq (g2 := F0 m 12 ls [.int r_1]) rfl ?_
  refine W.widen (k := 0) (n := 0) (Nat.le_of_ble_eq_true rfl) (Nat.le_of_ble_eq_true rfl) ?_
  refine k_top (v := nI 1) (hr_9) ?_
  refine k_if_eq (tgt := 23) hx hb 1 rfl (by omega) dX4_pass__12 (by decide) (fun c_12 => ?_) (fun c_12 => ?_)
  · exact absurd c_12 (by omega)
  · skip
    refine lv_aload_n hx hb dX4_pass__15 rfl (lv_at hl 0 rfl) ?_
    refine lv_iload_n hx hb dX4_pass__16 rfl (lv_at hl 1 rfl) ?_
    refine k_callV (As := [.int (nI mm)]) (rest := []) (wr := []) F (c_X4_passes l D cI mo qi qs qe qn qk (nI 0) (stM q) (stS q) ((stT q).length) gi gs ge w q mm rfl rfl rfl hN hO (by omega) (by omega)) gX4_pass__X4_passes rfl (nA := 1) (by decide +kernel) rfl ⟨Nat.le_of_ble_eq_true rfl, Nat.le_of_ble_eq_true rfl⟩ hK hP hD hS hA hG (ci := 4) (q0 := 0) rfl rfl rfl [0, 1, 2, 3, 4] [] rfl (by decide) rfl (by decide) (by decide) [0] rfl rfl hl.1 (Nat.le_of_ble_eq_true rfl) dX4_pass__17 ⟨Nat.le_of_ble_eq_true rfl, Nat.le_of_ble_eq_true rfl⟩ (fun r_2 u H locs hr_17 hP hD hS => ?_)
    obtain ⟨w2, rfl⟩ : ∃ z, z = u := ⟨_, rfl⟩
    try dsimp only at hr_17
    have hP : va_P D vwCl [(mo, .inr (4, [.int (nI 0), .int (nI (stS q)), .int (stM q), .int (nI ((stT q).length)), .ref qi, .ref qs, .ref qe, .ref qn, .ref qk])), (qi, .inl (cI, 6, .inl gi)), (qs, .inl (cI, 6, .inl gs)), (qe, .inl (cI, 6, .inl ge)), (qn, .inl (cI, 42, .inl w2))] H := hP
    have hD : va_D A [(mo, .inr (4, [.int (nI 0), .int (nI (stS q)), .int (stM q), .int (nI ((stT q).length)), .ref qi, .ref qs, .ref qe, .ref qn, .ref qk])), (qi, .inl (cI, 6, .inl gi)), (qs, .inl (cI, 6, .inl gs)), (qe, .inl (cI, 6, .inl ge)), (qn, .inl (cI, 42, .inl w2))] := hD
    refine W.eq (g2 := F0 m 20 ls [.int r_2]) rfl ?_
    refine W.widen (k := 0) (n := 0) (Nat.le_of_ble_eq_true rfl) (Nat.le_of_ble_eq_true rfl) ?_
    refine lv_goto (tgt := 28) hx hb dX4_pass__20 (by decide) ?_
    exact ret r_2 w2 _ _ _ _ _ _ (hr_17) (hP.sub [0, 1, 2, 3, 4] (rfl)) (hD.sub [0, 1, 2, 3, 4] (by decide) (rfl)) hS (Nat.le_of_ble_eq_true rfl) (Nat.le_of_ble_eq_true rfl) dX4_pass__28

abbrev rm_X4_noiseBehind : Room := { frames := 4, cells := 0, slots := 0, locals := 90 }
set_option maxHeartbeats 4000000 in
set_option maxRecDepth 100000 in
theorem c_X4_noiseBehind (l : Launch) (D : va_G) (cI : ClassId) (mo : Nat) (qi : Nat) (qs : Nat) (qe : Nat) (qn : Nat) (qk : Nat) (tw : Int32) (gi : Nat → Int32) (gs : Nat → Int32) (ge : Nat → Int32) (w : Nat → Int32) (q : St) (kp : Nat → Int32) (mm : Nat) (hN : rN gi gs ge w q) (hO : okS q) (hmi : stI q < 50000) (hm : mm < 100) : kM kri l yX4_noiseBehind wsX4_noiseBehind rm_X4_noiseBehind D [(cI, .int)] [.ref mo, .int (nI mm)] [(mo, .inr (4, [.int tw, .int (nI (stS q)), .int (stM q), .int (nI ((stT q).length)), .ref qi, .ref qs, .ref qe, .ref qn, .ref qk])), (qi, .inl (cI, 6, .inl gi)), (qs, .inl (cI, 6, .inl gs)), (qe, .inl (cI, 6, .inl ge)), (qn, .inl (cI, 42, .inl w)), (qk, .inl (cI, 42, .inl kp))] (fun (r : Int32) (u : (Nat → Int32)) => r = nI (ns (stB (itS q mm))) ∧ ∀ t, t < 42 → u t = kp t) (fun (u : (Nat → Int32)) => [(mo, .inr (4, [.int tw, .int (nI (stS q)), .int (stM q), .int (nI ((stT q).length)), .ref qi, .ref qs, .ref qe, .ref qn, .ref qk])), (qi, .inl (cI, 6, .inl gi)), (qs, .inl (cI, 6, .inl gs)), (qe, .inl (cI, 6, .inl ge)), (qn, .inl (cI, 42, .inl u)), (qk, .inl (cI, 42, .inl kp))]) := by
  refine k_bodyI (cc := cX4_noiseBehind) (maxL := 3) (by decide) rfl (Nat.le_of_ble_eq_true rfl) ?_
  intro p e ss m args below meth c A Q F hname hA hG hK hP hD hS ret ls hl
  obtain ⟨hx, hb, hml, hown, hts⟩ := id F
  have hP : va_P D vwCl [(mo, .inr (4, [.int tw, .int (nI (stS q)), .int (stM q), .int (nI ((stT q).length)), .ref qi, .ref qs, .ref qe, .ref qn, .ref qk])), (qi, .inl (cI, 6, .inl gi)), (qs, .inl (cI, 6, .inl gs)), (qe, .inl (cI, 6, .inl ge)), (qn, .inl (cI, 42, .inl w)), (qk, .inl (cI, 42, .inl kp))] ss.heap := hP
  have hD : va_D A [(mo, .inr (4, [.int tw, .int (nI (stS q)), .int (stM q), .int (nI ((stT q).length)), .ref qi, .ref qs, .ref qe, .ref qn, .ref qk])), (qi, .inl (cI, 6, .inl gi)), (qs, .inl (cI, 6, .inl gs)), (qe, .inl (cI, 6, .inl ge)), (qn, .inl (cI, 42, .inl w)), (qk, .inl (cI, 42, .inl kp))] := hD
  have hl : lv_has ls 3 [(0, .ref mo), (1, .int (nI mm))] := hl
  refine lv_aload_n hx hb dX4_noiseBehind_0 rfl (lv_at hl 0 rfl) ?_
  refine lv_iload_n hx hb dX4_noiseBehind_1 rfl (lv_at hl 1 rfl) ?_
  refine k_callV (As := [.int (nI mm)]) (rest := []) (wr := [(qk, .inl (cI, 42, .inl kp))]) F (c_X4_passes l D cI mo qi qs qe qn qk tw (stM q) (stS q) ((stT q).length) gi gs ge w q mm rfl rfl rfl hN hO (by omega) (by omega)) gX4_noiseBehind_X4_passes rfl (nA := 1) (by decide +kernel) rfl ⟨Nat.le_of_ble_eq_true rfl, Nat.le_of_ble_eq_true rfl⟩ hK hP hD hS hA hG (ci := 4) (q0 := 0) rfl rfl rfl [0, 1, 2, 3, 4] [5] rfl (by decide) rfl (by decide) (by decide) [0] rfl rfl hl.1 (Nat.le_of_ble_eq_true rfl) dX4_noiseBehind_2 ⟨Nat.le_of_ble_eq_true rfl, Nat.le_of_ble_eq_true rfl⟩ (fun r_1 u H locs hr_2 hP hD hS => ?_)
  obtain ⟨w2, rfl⟩ : ∃ z, z = u := ⟨_, rfl⟩
  try dsimp only at hr_2
  have hP : va_P D vwCl [(qk, .inl (cI, 42, .inl kp)), (mo, .inr (4, [.int tw, .int (nI (stS q)), .int (stM q), .int (nI ((stT q).length)), .ref qi, .ref qs, .ref qe, .ref qn, .ref qk])), (qi, .inl (cI, 6, .inl gi)), (qs, .inl (cI, 6, .inl gs)), (qe, .inl (cI, 6, .inl ge)), (qn, .inl (cI, 42, .inl w2))] H := hP
  have hD : va_D A [(qk, .inl (cI, 42, .inl kp)), (mo, .inr (4, [.int tw, .int (nI (stS q)), .int (stM q), .int (nI ((stT q).length)), .ref qi, .ref qs, .ref qe, .ref qn, .ref qk])), (qi, .inl (cI, 6, .inl gi)), (qs, .inl (cI, 6, .inl gs)), (qe, .inl (cI, 6, .inl ge)), (qn, .inl (cI, 42, .inl w2))] := hD
  refine W.eq (g2 := F0 m 5 ls [.int r_1]) rfl ?_
  refine W.widen (k := 0) (n := 0) (Nat.le_of_ble_eq_true rfl) (Nat.le_of_ble_eq_true rfl) ?_
  refine lv_pop hx hb dX4_noiseBehind_5 rfl ?_
  refine lv_aload_n hx hb dX4_noiseBehind_6 rfl (lv_at hl 0 rfl) ?_
  refine k_callV (As := []) (rest := []) (wr := [(qk, .inl (cI, 42, .inl kp)), (qi, .inl (cI, 6, .inl gi)), (qs, .inl (cI, 6, .inl gs)), (qe, .inl (cI, 6, .inl ge))]) F (c_X4_noiseNow l D cI mo qi qs qe qn qk tw (nI (stS q)) (stM q) (nI ((stT q).length)) w2 (stB (itS q mm)) hr_2.2.2.1 hr_2.2.2.2.2.2.2.2.1) gX4_noiseBehind_X4_noiseNow rfl (nA := 0) (by decide +kernel) rfl ⟨Nat.le_of_ble_eq_true rfl, Nat.le_of_ble_eq_true rfl⟩ hK hP hD hS hA hG (ci := 4) (q0 := 1) rfl rfl rfl [1, 5] [0, 2, 3, 4] rfl (by decide) rfl (by decide) (by decide) [0] rfl rfl hl.1 (Nat.le_of_ble_eq_true rfl) dX4_noiseBehind_7 ⟨Nat.le_of_ble_eq_true rfl, Nat.le_of_ble_eq_true rfl⟩ (fun r_2 u H locs hr_7 hP hD hS => ?_)
  try dsimp only at hr_7
  have hP : va_P D vwCl [(qk, .inl (cI, 42, .inl kp)), (qi, .inl (cI, 6, .inl gi)), (qs, .inl (cI, 6, .inl gs)), (qe, .inl (cI, 6, .inl ge)), (mo, .inr (4, [.int tw, .int (nI (stS q)), .int (stM q), .int (nI ((stT q).length)), .ref qi, .ref qs, .ref qe, .ref qn, .ref qk])), (qn, .inl (cI, 42, .inl w2))] H := hP
  have hD : va_D A [(qk, .inl (cI, 42, .inl kp)), (qi, .inl (cI, 6, .inl gi)), (qs, .inl (cI, 6, .inl gs)), (qe, .inl (cI, 6, .inl ge)), (mo, .inr (4, [.int tw, .int (nI (stS q)), .int (stM q), .int (nI ((stT q).length)), .ref qi, .ref qs, .ref qe, .ref qn, .ref qk])), (qn, .inl (cI, 42, .inl w2))] := hD
  refine W.eq (g2 := F0 m 10 ls [.int r_2]) rfl ?_
  refine W.widen (k := 0) (n := 0) (Nat.le_of_ble_eq_true rfl) (Nat.le_of_ble_eq_true rfl) ?_
  refine k_top (v := nI (ns (stB (itS q mm)))) (hr_7) ?_
  refine lv_istore_n (lv' := [(2, .int (nI (ns (stB (itS q mm))))), (0, .ref mo), (1, .int (nI mm))]) hx hb dX4_noiseBehind_10 rfl hl (by decide) rfl (fun ls hl => ?_)
  refine lv_aload_n hx hb dX4_noiseBehind_11 rfl (lv_at hl 1 rfl) ?_
  refine k_callV (As := []) (rest := []) (wr := [(qi, .inl (cI, 6, .inl gi)), (qs, .inl (cI, 6, .inl gs)), (qe, .inl (cI, 6, .inl ge))]) F (c_X4_bringBack l D cI mo qi qs qe qn qk tw (nI (stS q)) (stM q) (nI ((stT q).length)) w2 kp ) gX4_noiseBehind_X4_bringBack rfl (nA := 0) (by decide +kernel) rfl ⟨Nat.le_of_ble_eq_true rfl, Nat.le_of_ble_eq_true rfl⟩ hK hP hD hS hA hG (ci := 4) (q0 := 4) rfl rfl rfl [4, 5, 0] [1, 2, 3] rfl (by decide) rfl (by decide) (by decide) [0] rfl rfl hl.1 (Nat.le_of_ble_eq_true rfl) dX4_noiseBehind_12 ⟨Nat.le_of_ble_eq_true rfl, Nat.le_of_ble_eq_true rfl⟩ (fun r_3 u H locs hr_12 hP hD hS => ?_)
  obtain ⟨w3, rfl⟩ : ∃ z, z = u := ⟨_, rfl⟩
  try dsimp only at hr_12
  have hP : va_P D vwCl [(qi, .inl (cI, 6, .inl gi)), (qs, .inl (cI, 6, .inl gs)), (qe, .inl (cI, 6, .inl ge)), (mo, .inr (4, [.int tw, .int (nI (stS q)), .int (stM q), .int (nI ((stT q).length)), .ref qi, .ref qs, .ref qe, .ref qn, .ref qk])), (qn, .inl (cI, 42, .inl w3)), (qk, .inl (cI, 42, .inl kp))] H := hP
  have hD : va_D A [(qi, .inl (cI, 6, .inl gi)), (qs, .inl (cI, 6, .inl gs)), (qe, .inl (cI, 6, .inl ge)), (mo, .inr (4, [.int tw, .int (nI (stS q)), .int (stM q), .int (nI ((stT q).length)), .ref qi, .ref qs, .ref qe, .ref qn, .ref qk])), (qn, .inl (cI, 42, .inl w3)), (qk, .inl (cI, 42, .inl kp))] := hD
  refine W.widen (k := 0) (n := 0) (Nat.le_of_ble_eq_true rfl) (Nat.le_of_ble_eq_true rfl) ?_
  refine lv_iload_n hx hb dX4_noiseBehind_15 rfl (lv_at hl 0 rfl) ?_
  exact ret (nI (ns (stB (itS q mm)))) w3 _ _ _ _ _ _ (⟨rfl, hr_12⟩) (hP.sub [3, 0, 1, 2, 4, 5] (rfl)) (hD.sub [3, 0, 1, 2, 4, 5] (by decide) (rfl)) hS (Nat.le_of_ble_eq_true rfl) (Nat.le_of_ble_eq_true rfl) dX4_noiseBehind_16

abbrev rm_X4_noiseIn : Room := { frames := 5, cells := 0, slots := 0, locals := 112 }
set_option maxHeartbeats 4000000 in
set_option maxRecDepth 100000 in
theorem c_X4_noiseIn (l : Launch) (D : va_G) (cI : ClassId) (mo : Nat) (qi : Nat) (qs : Nat) (qe : Nat) (qn : Nat) (qk : Nat) (tw : Int32) (gi : Nat → Int32) (gs : Nat → Int32) (ge : Nat → Int32) (w : Nat → Int32) (q : St) (kp : Nat → Int32) (mm : Nat) (hN : rN gi gs ge w q) (hO : okS q) (hmi : stI q < 50000) (hm : 1 ≤ mm ∧ mm ≤ 60) : kM kri l yX4_noiseIn wsX4_noiseIn rm_X4_noiseIn D [(cI, .int)] [.ref mo, .int (nI mm)] [(mo, .inr (4, [.int tw, .int (nI (stS q)), .int (stM q), .int (nI ((stT q).length)), .ref qi, .ref qs, .ref qe, .ref qn, .ref qk])), (qi, .inl (cI, 6, .inl gi)), (qs, .inl (cI, 6, .inl gs)), (qe, .inl (cI, 6, .inl ge)), (qn, .inl (cI, 42, .inl w)), (qk, .inl (cI, 42, .inl kp))] (fun (r : Int32) (u : (Nat → Int32) × (Nat → Int32)) => r = nI (ns (stB (itS q mm))) ∧ rN gi gs ge u.1 q) (fun (u : (Nat → Int32) × (Nat → Int32)) => [(mo, .inr (4, [.int (nI 0), .int (nI (stS q)), .int (stM q), .int (nI ((stT q).length)), .ref qi, .ref qs, .ref qe, .ref qn, .ref qk])), (qi, .inl (cI, 6, .inl gi)), (qs, .inl (cI, 6, .inl gs)), (qe, .inl (cI, 6, .inl ge)), (qn, .inl (cI, 42, .inl u.1)), (qk, .inl (cI, 42, .inl u.2))]) := by
  refine k_bodyI (cc := cX4_noiseIn) (maxL := 2) (by decide) rfl (Nat.le_of_ble_eq_true rfl) ?_
  intro p e ss m args below meth c A Q F hname hA hG hK hP hD hS ret ls hl
  obtain ⟨hx, hb, hml, hown, hts⟩ := id F
  have hP : va_P D vwCl [(mo, .inr (4, [.int tw, .int (nI (stS q)), .int (stM q), .int (nI ((stT q).length)), .ref qi, .ref qs, .ref qe, .ref qn, .ref qk])), (qi, .inl (cI, 6, .inl gi)), (qs, .inl (cI, 6, .inl gs)), (qe, .inl (cI, 6, .inl ge)), (qn, .inl (cI, 42, .inl w)), (qk, .inl (cI, 42, .inl kp))] ss.heap := hP
  have hD : va_D A [(mo, .inr (4, [.int tw, .int (nI (stS q)), .int (stM q), .int (nI ((stT q).length)), .ref qi, .ref qs, .ref qe, .ref qn, .ref qk])), (qi, .inl (cI, 6, .inl gi)), (qs, .inl (cI, 6, .inl gs)), (qe, .inl (cI, 6, .inl ge)), (qn, .inl (cI, 42, .inl w)), (qk, .inl (cI, 42, .inl kp))] := hD
  have hl : lv_has ls 2 [(0, .ref mo), (1, .int (nI mm))] := hl
  have iX4 : ∀ w ∈ u_ws RX4 TX4 9, w ∈ wsX4_noiseIn := by decide +kernel
  have f32 := hts (.fieldLink RX4 32 "SmallerTalkModel" "thrown" "I") (by decide +kernel)
  refine lv_aload_n hx hb dX4_noiseIn_0 rfl (lv_at hl 0 rfl) ?_
  refine lv_iconst (v := nI 0) hx hb dX4_noiseIn_1 (by decide +kernel) ?_
  refine va_put (D := D) (ci := 4) (v := .int (nI 0)) (ty := .int) (C := RX4) (T := TX4) (N := 9) hx hb hts iX4 tyX4 tyX4_ok nmX4 hown hK hP hD hS 0 rfl rfl 0 (by decide) f32 (fun _ h9 => h9) rfl (by decide +kernel) rfl rfl (Nat.le_of_ble_eq_true rfl) dX4_noiseIn_2 (fun H locs hP hD hS => ?_)
  have hP : va_P D vwCl [(mo, .inr (4, [.int (nI 0), .int (nI (stS q)), .int (stM q), .int (nI ((stT q).length)), .ref qi, .ref qs, .ref qe, .ref qn, .ref qk])), (qi, .inl (cI, 6, .inl gi)), (qs, .inl (cI, 6, .inl gs)), (qe, .inl (cI, 6, .inl ge)), (qn, .inl (cI, 42, .inl w)), (qk, .inl (cI, 42, .inl kp))] H := hP
  have hD : va_D A [(mo, .inr (4, [.int (nI 0), .int (nI (stS q)), .int (stM q), .int (nI ((stT q).length)), .ref qi, .ref qs, .ref qe, .ref qn, .ref qk])), (qi, .inl (cI, 6, .inl gi)), (qs, .inl (cI, 6, .inl gs)), (qe, .inl (cI, 6, .inl ge)), (qn, .inl (cI, 42, .inl w)), (qk, .inl (cI, 42, .inl kp))] := hD
  refine lv_iload_n hx hb dX4_noiseIn_5 rfl (lv_at hl 1 rfl) ?_
  refine lv_iconst (v := nI 1) hx hb dX4_noiseIn_6 (by decide +kernel) ?_
  refine lv_bipush (v := nI 60) hx hb dX4_noiseIn_7 (by decide +kernel) ?_
  refine k_callS (As := [.int (nI mm), .int (nI 1), .int (nI 60)]) (rest := []) (wr := [(mo, .inr (4, [.int (nI 0), .int (nI (stS q)), .int (stM q), .int (nI ((stT q).length)), .ref qi, .ref qs, .ref qe, .ref qn, .ref qk])), (qi, .inl (cI, 6, .inl gi)), (qs, .inl (cI, 6, .inl gs)), (qe, .inl (cI, 6, .inl ge)), (qn, .inl (cI, 42, .inl w)), (qk, .inl (cI, 42, .inl kp))]) F (c_X4_isIn l D cI mm 1 60 (by omega) (by omega)) gX4_noiseIn_X4_isIn rfl (nA := 3) (by decide +kernel) rfl ⟨Nat.le_of_ble_eq_true rfl, Nat.le_of_ble_eq_true rfl⟩ hK hP hD hS hA hG [] [0, 1, 2, 3, 4, 5] rfl (by decide) rfl (by decide) (by decide) [0] rfl rfl hl.1 (Nat.le_of_ble_eq_true rfl) dX4_noiseIn_9 ⟨Nat.le_of_ble_eq_true rfl, Nat.le_of_ble_eq_true rfl⟩ (fun r_1 u H locs hr_9 hP hD hS => ?_)
  try dsimp only at hr_9
  have hP : va_P D vwCl [(mo, .inr (4, [.int (nI 0), .int (nI (stS q)), .int (stM q), .int (nI ((stT q).length)), .ref qi, .ref qs, .ref qe, .ref qn, .ref qk])), (qi, .inl (cI, 6, .inl gi)), (qs, .inl (cI, 6, .inl gs)), (qe, .inl (cI, 6, .inl ge)), (qn, .inl (cI, 42, .inl w)), (qk, .inl (cI, 42, .inl kp))] H := hP
  have hD : va_D A [(mo, .inr (4, [.int (nI 0), .int (nI (stS q)), .int (stM q), .int (nI ((stT q).length)), .ref qi, .ref qs, .ref qe, .ref qn, .ref qk])), (qi, .inl (cI, 6, .inl gi)), (qs, .inl (cI, 6, .inl gs)), (qe, .inl (cI, 6, .inl ge)), (qn, .inl (cI, 42, .inl w)), (qk, .inl (cI, 42, .inl kp))] := hD
  refine W.eq (g2 := F0 m 12 ls [.int r_1]) rfl ?_
  refine W.widen (k := 0) (n := 0) (Nat.le_of_ble_eq_true rfl) (Nat.le_of_ble_eq_true rfl) ?_
  refine k_top (v := nI 1) (hr_9) ?_
  refine k_if_ne (tgt := 21) hx hb 1 rfl (by omega) dX4_noiseIn_12 (by decide) (fun c_12 => ?_) (fun c_12 => ?_)
  · skip
    refine lv_aload_n hx hb dX4_noiseIn_21 rfl (lv_at hl 0 rfl) ?_
    refine k_callV (As := []) (rest := []) (wr := [(qi, .inl (cI, 6, .inl gi)), (qs, .inl (cI, 6, .inl gs)), (qe, .inl (cI, 6, .inl ge))]) F (c_X4_keep l D cI mo qi qs qe qn qk (nI 0) (nI (stS q)) (stM q) (nI ((stT q).length)) w kp ) gX4_noiseIn_X4_keep rfl (nA := 0) (by decide +kernel) rfl ⟨Nat.le_of_ble_eq_true rfl, Nat.le_of_ble_eq_true rfl⟩ hK hP hD hS hA hG (ci := 4) (q0 := 0) rfl rfl rfl [0, 4, 5] [1, 2, 3] rfl (by decide) rfl (by decide) (by decide) [0] rfl rfl hl.1 (Nat.le_of_ble_eq_true rfl) dX4_noiseIn_22 ⟨Nat.le_of_ble_eq_true rfl, Nat.le_of_ble_eq_true rfl⟩ (fun r_2 u H locs hr_22 hP hD hS => ?_)
    obtain ⟨k1, rfl⟩ : ∃ z, z = u := ⟨_, rfl⟩
    try dsimp only at hr_22
    have hP : va_P D vwCl [(qi, .inl (cI, 6, .inl gi)), (qs, .inl (cI, 6, .inl gs)), (qe, .inl (cI, 6, .inl ge)), (mo, .inr (4, [.int (nI 0), .int (nI (stS q)), .int (stM q), .int (nI ((stT q).length)), .ref qi, .ref qs, .ref qe, .ref qn, .ref qk])), (qn, .inl (cI, 42, .inl w)), (qk, .inl (cI, 42, .inl k1))] H := hP
    have hD : va_D A [(qi, .inl (cI, 6, .inl gi)), (qs, .inl (cI, 6, .inl gs)), (qe, .inl (cI, 6, .inl ge)), (mo, .inr (4, [.int (nI 0), .int (nI (stS q)), .int (stM q), .int (nI ((stT q).length)), .ref qi, .ref qs, .ref qe, .ref qn, .ref qk])), (qn, .inl (cI, 42, .inl w)), (qk, .inl (cI, 42, .inl k1))] := hD
    refine W.widen (k := 0) (n := 0) (Nat.le_of_ble_eq_true rfl) (Nat.le_of_ble_eq_true rfl) ?_
    refine lv_aload_n hx hb dX4_noiseIn_25 rfl (lv_at hl 0 rfl) ?_
    refine lv_iload_n hx hb dX4_noiseIn_26 rfl (lv_at hl 1 rfl) ?_
    refine k_callV (As := [.int (nI mm)]) (rest := []) (wr := []) F (c_X4_noiseBehind l D cI mo qi qs qe qn qk (nI 0) gi gs ge w q k1 mm hN hO hmi (by omega)) gX4_noiseIn_X4_noiseBehind rfl (nA := 1) (by decide +kernel) rfl ⟨Nat.le_of_ble_eq_true rfl, Nat.le_of_ble_eq_true rfl⟩ hK hP hD hS hA hG (ci := 4) (q0 := 3) rfl rfl rfl [3, 0, 1, 2, 4, 5] [] rfl (by decide) rfl (by decide) (by decide) [0] rfl rfl hl.1 (Nat.le_of_ble_eq_true rfl) dX4_noiseIn_27 ⟨Nat.le_of_ble_eq_true rfl, Nat.le_of_ble_eq_true rfl⟩ (fun r_3 u H locs hr_27 hP hD hS => ?_)
    obtain ⟨w3, rfl⟩ : ∃ z, z = u := ⟨_, rfl⟩
    try dsimp only at hr_27
    have hP : va_P D vwCl [(mo, .inr (4, [.int (nI 0), .int (nI (stS q)), .int (stM q), .int (nI ((stT q).length)), .ref qi, .ref qs, .ref qe, .ref qn, .ref qk])), (qi, .inl (cI, 6, .inl gi)), (qs, .inl (cI, 6, .inl gs)), (qe, .inl (cI, 6, .inl ge)), (qn, .inl (cI, 42, .inl w3)), (qk, .inl (cI, 42, .inl k1))] H := hP
    have hD : va_D A [(mo, .inr (4, [.int (nI 0), .int (nI (stS q)), .int (stM q), .int (nI ((stT q).length)), .ref qi, .ref qs, .ref qe, .ref qn, .ref qk])), (qi, .inl (cI, 6, .inl gi)), (qs, .inl (cI, 6, .inl gs)), (qe, .inl (cI, 6, .inl ge)), (qn, .inl (cI, 42, .inl w3)), (qk, .inl (cI, 42, .inl k1))] := hD
    refine W.eq (g2 := F0 m 30 ls [.int r_3]) rfl ?_
    refine W.widen (k := 0) (n := 0) (Nat.le_of_ble_eq_true rfl) (Nat.le_of_ble_eq_true rfl) ?_
    exact ret r_3 ⟨w3, k1⟩ _ _ _ _ _ _ (⟨hr_27.1, rN_of hN (fun t ht => (hr_27.2 t ht).trans (hr_22 t ht))⟩) (hP.sub [0, 1, 2, 3, 4, 5] (rfl)) (hD.sub [0, 1, 2, 3, 4, 5] (by decide) (rfl)) hS (Nat.le_of_ble_eq_true rfl) (Nat.le_of_ble_eq_true rfl) dX4_noiseIn_30
  · exact absurd c_12 (by omega)

abbrev rm_X4_bottlesIn : Room := { frames := 4, cells := 0, slots := 0, locals := 90 }
set_option maxHeartbeats 4000000 in
set_option maxRecDepth 100000 in
theorem c_X4_bottlesIn (l : Launch) (D : va_G) (cI : ClassId) (mo : Nat) (qi : Nat) (qs : Nat) (qe : Nat) (qn : Nat) (qk : Nat) (tw : Int32) (gi : Nat → Int32) (gs : Nat → Int32) (ge : Nat → Int32) (w : Nat → Int32) (q : St) (kp : Nat → Int32) (mm : Nat) (hN : rN gi gs ge w q) (hO : okS q) (hmi : stI q < 50000) (hm : 1 ≤ mm ∧ mm ≤ 60) : kM kri l yX4_bottlesIn wsX4_bottlesIn rm_X4_bottlesIn D [(cI, .int)] [.ref mo, .int (nI mm)] [(mo, .inr (4, [.int tw, .int (nI (stS q)), .int (stM q), .int (nI ((stT q).length)), .ref qi, .ref qs, .ref qe, .ref qn, .ref qk])), (qi, .inl (cI, 6, .inl gi)), (qs, .inl (cI, 6, .inl gs)), (qe, .inl (cI, 6, .inl ge)), (qn, .inl (cI, 42, .inl w)), (qk, .inl (cI, 42, .inl kp))] (fun (r : Int32) (u : (Nat → Int32) × (Nat → Int32)) => r = stO (itS q mm) ∧ rN gi gs ge u.1 q) (fun (u : (Nat → Int32) × (Nat → Int32)) => [(mo, .inr (4, [.int (nI 0), .int (nI (stS q)), .int (stM q), .int (nI ((stT q).length)), .ref qi, .ref qs, .ref qe, .ref qn, .ref qk])), (qi, .inl (cI, 6, .inl gi)), (qs, .inl (cI, 6, .inl gs)), (qe, .inl (cI, 6, .inl ge)), (qn, .inl (cI, 42, .inl u.1)), (qk, .inl (cI, 42, .inl u.2))]) := by
  refine k_bodyI (cc := cX4_bottlesIn) (maxL := 3) (by decide) rfl (Nat.le_of_ble_eq_true rfl) ?_
  intro p e ss m args below meth c A Q F hname hA hG hK hP hD hS ret ls hl
  obtain ⟨hx, hb, hml, hown, hts⟩ := id F
  have hP : va_P D vwCl [(mo, .inr (4, [.int tw, .int (nI (stS q)), .int (stM q), .int (nI ((stT q).length)), .ref qi, .ref qs, .ref qe, .ref qn, .ref qk])), (qi, .inl (cI, 6, .inl gi)), (qs, .inl (cI, 6, .inl gs)), (qe, .inl (cI, 6, .inl ge)), (qn, .inl (cI, 42, .inl w)), (qk, .inl (cI, 42, .inl kp))] ss.heap := hP
  have hD : va_D A [(mo, .inr (4, [.int tw, .int (nI (stS q)), .int (stM q), .int (nI ((stT q).length)), .ref qi, .ref qs, .ref qe, .ref qn, .ref qk])), (qi, .inl (cI, 6, .inl gi)), (qs, .inl (cI, 6, .inl gs)), (qe, .inl (cI, 6, .inl ge)), (qn, .inl (cI, 42, .inl w)), (qk, .inl (cI, 42, .inl kp))] := hD
  have hl : lv_has ls 3 [(0, .ref mo), (1, .int (nI mm))] := hl
  have iX4 : ∀ w ∈ u_ws RX4 TX4 9, w ∈ wsX4_bottlesIn := by decide +kernel
  have f26 := hts (.fieldLink RX4 26 "SmallerTalkModel" "now" "[I") (by decide +kernel)
  have f32 := hts (.fieldLink RX4 32 "SmallerTalkModel" "thrown" "I") (by decide +kernel)
  refine lv_aload_n hx hb dX4_bottlesIn_0 rfl (lv_at hl 0 rfl) ?_
  refine lv_iconst (v := nI 0) hx hb dX4_bottlesIn_1 (by decide +kernel) ?_
  refine va_put (D := D) (ci := 4) (v := .int (nI 0)) (ty := .int) (C := RX4) (T := TX4) (N := 9) hx hb hts iX4 tyX4 tyX4_ok nmX4 hown hK hP hD hS 0 rfl rfl 0 (by decide) f32 (fun _ h9 => h9) rfl (by decide +kernel) rfl rfl (Nat.le_of_ble_eq_true rfl) dX4_bottlesIn_2 (fun H locs hP hD hS => ?_)
  have hP : va_P D vwCl [(mo, .inr (4, [.int (nI 0), .int (nI (stS q)), .int (stM q), .int (nI ((stT q).length)), .ref qi, .ref qs, .ref qe, .ref qn, .ref qk])), (qi, .inl (cI, 6, .inl gi)), (qs, .inl (cI, 6, .inl gs)), (qe, .inl (cI, 6, .inl ge)), (qn, .inl (cI, 42, .inl w)), (qk, .inl (cI, 42, .inl kp))] H := hP
  have hD : va_D A [(mo, .inr (4, [.int (nI 0), .int (nI (stS q)), .int (stM q), .int (nI ((stT q).length)), .ref qi, .ref qs, .ref qe, .ref qn, .ref qk])), (qi, .inl (cI, 6, .inl gi)), (qs, .inl (cI, 6, .inl gs)), (qe, .inl (cI, 6, .inl ge)), (qn, .inl (cI, 42, .inl w)), (qk, .inl (cI, 42, .inl kp))] := hD
  refine lv_iload_n hx hb dX4_bottlesIn_5 rfl (lv_at hl 1 rfl) ?_
  refine lv_iconst (v := nI 1) hx hb dX4_bottlesIn_6 (by decide +kernel) ?_
  refine lv_bipush (v := nI 60) hx hb dX4_bottlesIn_7 (by decide +kernel) ?_
  refine k_callS (As := [.int (nI mm), .int (nI 1), .int (nI 60)]) (rest := []) (wr := [(mo, .inr (4, [.int (nI 0), .int (nI (stS q)), .int (stM q), .int (nI ((stT q).length)), .ref qi, .ref qs, .ref qe, .ref qn, .ref qk])), (qi, .inl (cI, 6, .inl gi)), (qs, .inl (cI, 6, .inl gs)), (qe, .inl (cI, 6, .inl ge)), (qn, .inl (cI, 42, .inl w)), (qk, .inl (cI, 42, .inl kp))]) F (c_X4_isIn l D cI mm 1 60 (by omega) (by omega)) gX4_bottlesIn_X4_isIn rfl (nA := 3) (by decide +kernel) rfl ⟨Nat.le_of_ble_eq_true rfl, Nat.le_of_ble_eq_true rfl⟩ hK hP hD hS hA hG [] [0, 1, 2, 3, 4, 5] rfl (by decide) rfl (by decide) (by decide) [0] rfl rfl hl.1 (Nat.le_of_ble_eq_true rfl) dX4_bottlesIn_9 ⟨Nat.le_of_ble_eq_true rfl, Nat.le_of_ble_eq_true rfl⟩ (fun r_1 u H locs hr_9 hP hD hS => ?_)
  try dsimp only at hr_9
  have hP : va_P D vwCl [(mo, .inr (4, [.int (nI 0), .int (nI (stS q)), .int (stM q), .int (nI ((stT q).length)), .ref qi, .ref qs, .ref qe, .ref qn, .ref qk])), (qi, .inl (cI, 6, .inl gi)), (qs, .inl (cI, 6, .inl gs)), (qe, .inl (cI, 6, .inl ge)), (qn, .inl (cI, 42, .inl w)), (qk, .inl (cI, 42, .inl kp))] H := hP
  have hD : va_D A [(mo, .inr (4, [.int (nI 0), .int (nI (stS q)), .int (stM q), .int (nI ((stT q).length)), .ref qi, .ref qs, .ref qe, .ref qn, .ref qk])), (qi, .inl (cI, 6, .inl gi)), (qs, .inl (cI, 6, .inl gs)), (qe, .inl (cI, 6, .inl ge)), (qn, .inl (cI, 42, .inl w)), (qk, .inl (cI, 42, .inl kp))] := hD
  refine W.eq (g2 := F0 m 12 ls [.int r_1]) rfl ?_
  refine W.widen (k := 0) (n := 0) (Nat.le_of_ble_eq_true rfl) (Nat.le_of_ble_eq_true rfl) ?_
  refine k_top (v := nI 1) (hr_9) ?_
  refine k_if_ne (tgt := 21) hx hb 1 rfl (by omega) dX4_bottlesIn_12 (by decide) (fun c_12 => ?_) (fun c_12 => ?_)
  · skip
    refine lv_aload_n hx hb dX4_bottlesIn_21 rfl (lv_at hl 0 rfl) ?_
    refine k_callV (As := []) (rest := []) (wr := [(qi, .inl (cI, 6, .inl gi)), (qs, .inl (cI, 6, .inl gs)), (qe, .inl (cI, 6, .inl ge))]) F (c_X4_keep l D cI mo qi qs qe qn qk (nI 0) (nI (stS q)) (stM q) (nI ((stT q).length)) w kp ) gX4_bottlesIn_X4_keep rfl (nA := 0) (by decide +kernel) rfl ⟨Nat.le_of_ble_eq_true rfl, Nat.le_of_ble_eq_true rfl⟩ hK hP hD hS hA hG (ci := 4) (q0 := 0) rfl rfl rfl [0, 4, 5] [1, 2, 3] rfl (by decide) rfl (by decide) (by decide) [0] rfl rfl hl.1 (Nat.le_of_ble_eq_true rfl) dX4_bottlesIn_22 ⟨Nat.le_of_ble_eq_true rfl, Nat.le_of_ble_eq_true rfl⟩ (fun r_2 u H locs hr_22 hP hD hS => ?_)
    obtain ⟨k1, rfl⟩ : ∃ z, z = u := ⟨_, rfl⟩
    try dsimp only at hr_22
    have hP : va_P D vwCl [(qi, .inl (cI, 6, .inl gi)), (qs, .inl (cI, 6, .inl gs)), (qe, .inl (cI, 6, .inl ge)), (mo, .inr (4, [.int (nI 0), .int (nI (stS q)), .int (stM q), .int (nI ((stT q).length)), .ref qi, .ref qs, .ref qe, .ref qn, .ref qk])), (qn, .inl (cI, 42, .inl w)), (qk, .inl (cI, 42, .inl k1))] H := hP
    have hD : va_D A [(qi, .inl (cI, 6, .inl gi)), (qs, .inl (cI, 6, .inl gs)), (qe, .inl (cI, 6, .inl ge)), (mo, .inr (4, [.int (nI 0), .int (nI (stS q)), .int (stM q), .int (nI ((stT q).length)), .ref qi, .ref qs, .ref qe, .ref qn, .ref qk])), (qn, .inl (cI, 42, .inl w)), (qk, .inl (cI, 42, .inl k1))] := hD
    refine W.widen (k := 0) (n := 0) (Nat.le_of_ble_eq_true rfl) (Nat.le_of_ble_eq_true rfl) ?_
    refine lv_aload_n hx hb dX4_bottlesIn_25 rfl (lv_at hl 0 rfl) ?_
    refine lv_iload_n hx hb dX4_bottlesIn_26 rfl (lv_at hl 1 rfl) ?_
    refine k_callV (As := [.int (nI mm)]) (rest := []) (wr := [(qk, .inl (cI, 42, .inl k1))]) F (c_X4_passes l D cI mo qi qs qe qn qk (nI 0) (stM q) (stS q) ((stT q).length) gi gs ge w q mm rfl rfl rfl hN hO (by omega) (by omega)) gX4_bottlesIn_X4_passes rfl (nA := 1) (by decide +kernel) rfl ⟨Nat.le_of_ble_eq_true rfl, Nat.le_of_ble_eq_true rfl⟩ hK hP hD hS hA hG (ci := 4) (q0 := 3) rfl rfl rfl [3, 0, 1, 2, 4] [5] rfl (by decide) rfl (by decide) (by decide) [0] rfl rfl hl.1 (Nat.le_of_ble_eq_true rfl) dX4_bottlesIn_27 ⟨Nat.le_of_ble_eq_true rfl, Nat.le_of_ble_eq_true rfl⟩ (fun r_3 u H locs hr_27 hP hD hS => ?_)
    obtain ⟨w2, rfl⟩ : ∃ z, z = u := ⟨_, rfl⟩
    try dsimp only at hr_27
    have hP : va_P D vwCl [(qk, .inl (cI, 42, .inl k1)), (mo, .inr (4, [.int (nI 0), .int (nI (stS q)), .int (stM q), .int (nI ((stT q).length)), .ref qi, .ref qs, .ref qe, .ref qn, .ref qk])), (qi, .inl (cI, 6, .inl gi)), (qs, .inl (cI, 6, .inl gs)), (qe, .inl (cI, 6, .inl ge)), (qn, .inl (cI, 42, .inl w2))] H := hP
    have hD : va_D A [(qk, .inl (cI, 42, .inl k1)), (mo, .inr (4, [.int (nI 0), .int (nI (stS q)), .int (stM q), .int (nI ((stT q).length)), .ref qi, .ref qs, .ref qe, .ref qn, .ref qk])), (qi, .inl (cI, 6, .inl gi)), (qs, .inl (cI, 6, .inl gs)), (qe, .inl (cI, 6, .inl ge)), (qn, .inl (cI, 42, .inl w2))] := hD
    refine W.eq (g2 := F0 m 30 ls [.int r_3]) rfl ?_
    refine W.widen (k := 0) (n := 0) (Nat.le_of_ble_eq_true rfl) (Nat.le_of_ble_eq_true rfl) ?_
    refine lv_pop hx hb dX4_bottlesIn_30 rfl ?_
    refine lv_aload_n hx hb dX4_bottlesIn_31 rfl (lv_at hl 0 rfl) ?_
    refine va_get (D := D) (ci := 4) (v := .ref qn) (C := RX4) (T := TX4) (N := 9) hx hb hts iX4 hown hK hP 1 rfl rfl 7 (by decide) f26 (fun _ h9 => h9) rfl dX4_bottlesIn_32 ?_
    refine lv_iconst (v := nI 3) hx hb dX4_bottlesIn_35 (by decide +kernel) ?_
    refine k_iald hx hb hK hP 5 0 rfl rfl 3 (rfl) (by omega) (by decide) dX4_bottlesIn_36 ?_
    refine k_top (v := stO (itS q mm)) (hr_27.2.2.2.2.1) ?_
    refine lv_istore_n (lv' := [(2, .int (stO (itS q mm))), (0, .ref mo), (1, .int (nI mm))]) hx hb dX4_bottlesIn_37 rfl hl (by decide) rfl (fun ls hl => ?_)
    refine lv_aload_n hx hb dX4_bottlesIn_38 rfl (lv_at hl 1 rfl) ?_
    refine k_callV (As := []) (rest := []) (wr := [(qi, .inl (cI, 6, .inl gi)), (qs, .inl (cI, 6, .inl gs)), (qe, .inl (cI, 6, .inl ge))]) F (c_X4_bringBack l D cI mo qi qs qe qn qk (nI 0) (nI (stS q)) (stM q) (nI ((stT q).length)) w2 k1 ) gX4_bottlesIn_X4_bringBack rfl (nA := 0) (by decide +kernel) rfl ⟨Nat.le_of_ble_eq_true rfl, Nat.le_of_ble_eq_true rfl⟩ hK hP hD hS hA hG (ci := 4) (q0 := 1) rfl rfl rfl [1, 5, 0] [2, 3, 4] rfl (by decide) rfl (by decide) (by decide) [0] rfl rfl hl.1 (Nat.le_of_ble_eq_true rfl) dX4_bottlesIn_39 ⟨Nat.le_of_ble_eq_true rfl, Nat.le_of_ble_eq_true rfl⟩ (fun r_4 u H locs hr_39 hP hD hS => ?_)
    obtain ⟨w3, rfl⟩ : ∃ z, z = u := ⟨_, rfl⟩
    try dsimp only at hr_39
    have hP : va_P D vwCl [(qi, .inl (cI, 6, .inl gi)), (qs, .inl (cI, 6, .inl gs)), (qe, .inl (cI, 6, .inl ge)), (mo, .inr (4, [.int (nI 0), .int (nI (stS q)), .int (stM q), .int (nI ((stT q).length)), .ref qi, .ref qs, .ref qe, .ref qn, .ref qk])), (qn, .inl (cI, 42, .inl w3)), (qk, .inl (cI, 42, .inl k1))] H := hP
    have hD : va_D A [(qi, .inl (cI, 6, .inl gi)), (qs, .inl (cI, 6, .inl gs)), (qe, .inl (cI, 6, .inl ge)), (mo, .inr (4, [.int (nI 0), .int (nI (stS q)), .int (stM q), .int (nI ((stT q).length)), .ref qi, .ref qs, .ref qe, .ref qn, .ref qk])), (qn, .inl (cI, 42, .inl w3)), (qk, .inl (cI, 42, .inl k1))] := hD
    refine W.widen (k := 0) (n := 0) (Nat.le_of_ble_eq_true rfl) (Nat.le_of_ble_eq_true rfl) ?_
    refine lv_iload_n hx hb dX4_bottlesIn_42 rfl (lv_at hl 0 rfl) ?_
    exact ret (stO (itS q mm)) ⟨w3, k1⟩ _ _ _ _ _ _ (⟨rfl, rN_of hN (fun t ht => (hr_39 t ht).trans (hr_22 t ht))⟩) (hP.sub [3, 0, 1, 2, 4, 5] (rfl)) (hD.sub [3, 0, 1, 2, 4, 5] (by decide) (rfl)) hS (Nat.le_of_ble_eq_true rfl) (Nat.le_of_ble_eq_true rfl) dX4_bottlesIn_43
  · exact absurd c_12 (by omega)

abbrev rm_X4_minutesUntilQuiet : Room := { frames := 3, cells := 0, slots := 0, locals := 67 }
set_option maxHeartbeats 4000000 in
set_option maxRecDepth 100000 in
theorem c_X4_minutesUntilQuiet (l : Launch) (D : va_G) (cI : ClassId) (mo : Nat) (qi : Nat) (qs : Nat) (qe : Nat) (qn : Nat) (qk : Nat) (tw : Int32) (gi : Nat → Int32) (gs : Nat → Int32) (ge : Nat → Int32) (w : Nat → Int32) (q : St) (kp : Nat → Int32) (hN : rN gi gs ge w q) (hO : okS q) (hmi : stI q < 50000) : kM kri l yX4_minutesUntilQuiet wsX4_minutesUntilQuiet rm_X4_minutesUntilQuiet D [(cI, .int)] [.ref mo] [(mo, .inr (4, [.int tw, .int (nI (stS q)), .int (stM q), .int (nI ((stT q).length)), .ref qi, .ref qs, .ref qe, .ref qn, .ref qk])), (qi, .inl (cI, 6, .inl gi)), (qs, .inl (cI, 6, .inl gs)), (qe, .inl (cI, 6, .inl ge)), (qn, .inl (cI, 42, .inl w)), (qk, .inl (cI, 42, .inl kp))] (fun (r : Int32) (u : (Nat → Int32) × (Nat → Int32)) => fstR (fun t => (stB (itS q t)).length = 0) r ∧ rN gi gs ge u.1 q) (fun (u : (Nat → Int32) × (Nat → Int32)) => [(mo, .inr (4, [.int (nI 0), .int (nI (stS q)), .int (stM q), .int (nI ((stT q).length)), .ref qi, .ref qs, .ref qe, .ref qn, .ref qk])), (qi, .inl (cI, 6, .inl gi)), (qs, .inl (cI, 6, .inl gs)), (qe, .inl (cI, 6, .inl ge)), (qn, .inl (cI, 42, .inl u.1)), (qk, .inl (cI, 42, .inl u.2))]) := by
  refine k_bodyI (cc := cX4_minutesUntilQuiet) (maxL := 2) (by decide) rfl (Nat.le_of_ble_eq_true rfl) ?_
  intro p e ss m args below meth c A Q F hname hA hG hK hP hD hS ret ls hl
  obtain ⟨hx, hb, hml, hown, hts⟩ := id F
  have hP : va_P D vwCl [(mo, .inr (4, [.int tw, .int (nI (stS q)), .int (stM q), .int (nI ((stT q).length)), .ref qi, .ref qs, .ref qe, .ref qn, .ref qk])), (qi, .inl (cI, 6, .inl gi)), (qs, .inl (cI, 6, .inl gs)), (qe, .inl (cI, 6, .inl ge)), (qn, .inl (cI, 42, .inl w)), (qk, .inl (cI, 42, .inl kp))] ss.heap := hP
  have hD : va_D A [(mo, .inr (4, [.int tw, .int (nI (stS q)), .int (stM q), .int (nI ((stT q).length)), .ref qi, .ref qs, .ref qe, .ref qn, .ref qk])), (qi, .inl (cI, 6, .inl gi)), (qs, .inl (cI, 6, .inl gs)), (qe, .inl (cI, 6, .inl ge)), (qn, .inl (cI, 42, .inl w)), (qk, .inl (cI, 42, .inl kp))] := hD
  have hl : lv_has ls 2 [(0, .ref mo)] := hl
  have iX4 : ∀ w ∈ u_ws RX4 TX4 9, w ∈ wsX4_minutesUntilQuiet := by decide +kernel
  have f26 := hts (.fieldLink RX4 26 "SmallerTalkModel" "now" "[I") (by decide +kernel)
  have f32 := hts (.fieldLink RX4 32 "SmallerTalkModel" "thrown" "I") (by decide +kernel)
  refine lv_aload_n hx hb dX4_minutesUntilQuiet_0 rfl (lv_at hl 0 rfl) ?_
  refine lv_iconst (v := nI 0) hx hb dX4_minutesUntilQuiet_1 (by decide +kernel) ?_
  refine va_put (D := D) (ci := 4) (v := .int (nI 0)) (ty := .int) (C := RX4) (T := TX4) (N := 9) hx hb hts iX4 tyX4 tyX4_ok nmX4 hown hK hP hD hS 0 rfl rfl 0 (by decide) f32 (fun _ h9 => h9) rfl (by decide +kernel) rfl rfl (Nat.le_of_ble_eq_true rfl) dX4_minutesUntilQuiet_2 (fun H locs hP hD hS => ?_)
  have hP : va_P D vwCl [(mo, .inr (4, [.int (nI 0), .int (nI (stS q)), .int (stM q), .int (nI ((stT q).length)), .ref qi, .ref qs, .ref qe, .ref qn, .ref qk])), (qi, .inl (cI, 6, .inl gi)), (qs, .inl (cI, 6, .inl gs)), (qe, .inl (cI, 6, .inl ge)), (qn, .inl (cI, 42, .inl w)), (qk, .inl (cI, 42, .inl kp))] H := hP
  have hD : va_D A [(mo, .inr (4, [.int (nI 0), .int (nI (stS q)), .int (stM q), .int (nI ((stT q).length)), .ref qi, .ref qs, .ref qe, .ref qn, .ref qk])), (qi, .inl (cI, 6, .inl gi)), (qs, .inl (cI, 6, .inl gs)), (qe, .inl (cI, 6, .inl ge)), (qn, .inl (cI, 42, .inl w)), (qk, .inl (cI, 42, .inl kp))] := hD
  refine lv_aload_n hx hb dX4_minutesUntilQuiet_5 rfl (lv_at hl 0 rfl) ?_
  refine k_callV (As := []) (rest := []) (wr := [(qi, .inl (cI, 6, .inl gi)), (qs, .inl (cI, 6, .inl gs)), (qe, .inl (cI, 6, .inl ge))]) F (c_X4_keep l D cI mo qi qs qe qn qk (nI 0) (nI (stS q)) (stM q) (nI ((stT q).length)) w kp ) gX4_minutesUntilQuiet_X4_keep rfl (nA := 0) (by decide +kernel) rfl ⟨Nat.le_of_ble_eq_true rfl, Nat.le_of_ble_eq_true rfl⟩ hK hP hD hS hA hG (ci := 4) (q0 := 0) rfl rfl rfl [0, 4, 5] [1, 2, 3] rfl (by decide) rfl (by decide) (by decide) [0] rfl rfl hl.1 (Nat.le_of_ble_eq_true rfl) dX4_minutesUntilQuiet_6 ⟨Nat.le_of_ble_eq_true rfl, Nat.le_of_ble_eq_true rfl⟩ (fun r_1 u H locs hr_6 hP hD hS => ?_)
  obtain ⟨k1, rfl⟩ : ∃ z, z = u := ⟨_, rfl⟩
  try dsimp only at hr_6
  have hP : va_P D vwCl [(qi, .inl (cI, 6, .inl gi)), (qs, .inl (cI, 6, .inl gs)), (qe, .inl (cI, 6, .inl ge)), (mo, .inr (4, [.int (nI 0), .int (nI (stS q)), .int (stM q), .int (nI ((stT q).length)), .ref qi, .ref qs, .ref qe, .ref qn, .ref qk])), (qn, .inl (cI, 42, .inl w)), (qk, .inl (cI, 42, .inl k1))] H := hP
  have hD : va_D A [(qi, .inl (cI, 6, .inl gi)), (qs, .inl (cI, 6, .inl gs)), (qe, .inl (cI, 6, .inl ge)), (mo, .inr (4, [.int (nI 0), .int (nI (stS q)), .int (stM q), .int (nI ((stT q).length)), .ref qi, .ref qs, .ref qe, .ref qn, .ref qk])), (qn, .inl (cI, 42, .inl w)), (qk, .inl (cI, 42, .inl k1))] := hD
  refine W.widen (k := 0) (n := 0) (Nat.le_of_ble_eq_true rfl) (Nat.le_of_ble_eq_true rfl) ?_
  refine lv_iconst (v := nI 0) hx hb dX4_minutesUntilQuiet_9 (by decide +kernel) ?_
  refine lv_istore_n (lv' := [(1, .int (nI 0)), (0, .ref mo)]) hx hb dX4_minutesUntilQuiet_10 rfl hl (by decide) rfl (fun ls hl => ?_)
  have loop_2 : ∀ (n : Nat) (i : Nat) (w1 : Nat → Int32), (i ≤ 101) → (rN gi gs ge w1 (itS q i)) → (∀ t, t < i → ¬ (stB (itS q t)).length = 0) → 101 - i < n → ∀ (H : Heap) (locs : List Loc), va_P D vwCl [(mo, .inr (4, [.int (nI 0), .int (nI (stS q)), .int (stM q), .int (nI ((stT q).length)), .ref qi, .ref qs, .ref qe, .ref qn, .ref qk])), (qi, .inl (cI, 6, .inl gi)), (qs, .inl (cI, 6, .inl gs)), (qe, .inl (cI, 6, .inl ge)), (qn, .inl (cI, 42, .inl w1)), (qk, .inl (cI, 42, .inl k1))] H → va_D A [(mo, .inr (4, [.int (nI 0), .int (nI (stS q)), .int (stM q), .int (nI ((stT q).length)), .ref qi, .ref qs, .ref qe, .ref qn, .ref qk])), (qi, .inl (cI, 6, .inl gi)), (qs, .inl (cI, 6, .inl gs)), (qe, .inl (cI, 6, .inl ge)), (qn, .inl (cI, 42, .inl w1)), (qk, .inl (cI, 42, .inl k1))] → va_S A ss.heap H locs → ∀ ls : Array Slot, lv_has ls 2 [(0, .ref mo), (1, .int (nI i))] → W p l e rm_X4_minutesUntilQuiet ss m args below meth c H locs 0 0 Q (F0 m 11 ls []) := by
    intro n
    induction n with
    | zero => intro i w1 hi hn9 hh hn; exact absurd hn (by omega)
    | succ n ih =>
      intro i w1 hi hn9 hh hn H locs hP hD hS ls hl
      have h12 := (okS_it hO i).2.1
      refine lv_iload_n hx hb dX4_minutesUntilQuiet_11 rfl (lv_at hl 1 rfl) ?_
      refine lv_bipush (v := nI 100) hx hb dX4_minutesUntilQuiet_12 (by decide +kernel) ?_
      refine k_cmp_gt (tgt := 37) hx hb i 100 rfl rfl (by omega) (by omega) dX4_minutesUntilQuiet_14 (by decide) (fun c_14 => ?_) (fun c_14 => ?_)
      · skip
        refine lv_aload_n hx hb dX4_minutesUntilQuiet_37 rfl (lv_at hl 0 rfl) ?_
        refine k_callV (As := []) (rest := []) (wr := [(qi, .inl (cI, 6, .inl gi)), (qs, .inl (cI, 6, .inl gs)), (qe, .inl (cI, 6, .inl ge))]) F (c_X4_bringBack l D cI mo qi qs qe qn qk (nI 0) (nI (stS q)) (stM q) (nI ((stT q).length)) w1 k1 ) gX4_minutesUntilQuiet_X4_bringBack rfl (nA := 0) (by decide +kernel) rfl ⟨Nat.le_of_ble_eq_true rfl, Nat.le_of_ble_eq_true rfl⟩ hK hP hD hS hA hG (ci := 4) (q0 := 0) rfl rfl rfl [0, 4, 5] [1, 2, 3] rfl (by decide) rfl (by decide) (by decide) [0] rfl rfl hl.1 (Nat.le_of_ble_eq_true rfl) dX4_minutesUntilQuiet_38 ⟨Nat.le_of_ble_eq_true rfl, Nat.le_of_ble_eq_true rfl⟩ (fun r_3 u H locs hr_38 hP hD hS => ?_)
        obtain ⟨w3, rfl⟩ : ∃ z, z = u := ⟨_, rfl⟩
        try dsimp only at hr_38
        have hP : va_P D vwCl [(qi, .inl (cI, 6, .inl gi)), (qs, .inl (cI, 6, .inl gs)), (qe, .inl (cI, 6, .inl ge)), (mo, .inr (4, [.int (nI 0), .int (nI (stS q)), .int (stM q), .int (nI ((stT q).length)), .ref qi, .ref qs, .ref qe, .ref qn, .ref qk])), (qn, .inl (cI, 42, .inl w3)), (qk, .inl (cI, 42, .inl k1))] H := hP
        have hD : va_D A [(qi, .inl (cI, 6, .inl gi)), (qs, .inl (cI, 6, .inl gs)), (qe, .inl (cI, 6, .inl ge)), (mo, .inr (4, [.int (nI 0), .int (nI (stS q)), .int (stM q), .int (nI ((stT q).length)), .ref qi, .ref qs, .ref qe, .ref qn, .ref qk])), (qn, .inl (cI, 42, .inl w3)), (qk, .inl (cI, 42, .inl k1))] := hD
        refine W.widen (k := 0) (n := 0) (Nat.le_of_ble_eq_true rfl) (Nat.le_of_ble_eq_true rfl) ?_
        refine lv_iload_n hx hb dX4_minutesUntilQuiet_41 rfl (lv_at hl 1 rfl) ?_
        refine lv_bipush (v := nI 100) hx hb dX4_minutesUntilQuiet_42 (by decide +kernel) ?_
        refine k_cmp_le (tgt := 51) hx hb i 100 rfl rfl (by omega) (by omega) dX4_minutesUntilQuiet_44 (by decide) (fun c_44 => ?_) (fun c_44 => ?_)
        · skip
          exact absurd c_14 (by omega)
        · skip
          refine lv_iconst (v := -1) hx hb dX4_minutesUntilQuiet_47 (by decide +kernel) ?_
          refine lv_goto (tgt := 52) hx hb dX4_minutesUntilQuiet_48 (by decide) ?_
          exact ret (-1) ⟨w3, k1⟩ _ _ _ _ _ _ (⟨Or.inr ⟨fun t ht => hh t (by omega), rfl⟩, rN_of hN (fun t ht => (hr_38 t ht).trans (hr_6 t ht))⟩) (hP.sub [3, 0, 1, 2, 4, 5] (rfl)) (hD.sub [3, 0, 1, 2, 4, 5] (by decide) (rfl)) hS (Nat.le_of_ble_eq_true rfl) (Nat.le_of_ble_eq_true rfl) dX4_minutesUntilQuiet_52
      · skip
        refine lv_aload_n hx hb dX4_minutesUntilQuiet_17 rfl (lv_at hl 0 rfl) ?_
        refine va_get (D := D) (ci := 4) (v := .ref qn) (C := RX4) (T := TX4) (N := 9) hx hb hts iX4 hown hK hP 0 rfl rfl 7 (by decide) f26 (fun _ h9 => h9) rfl dX4_minutesUntilQuiet_18 ?_
        refine lv_iconst (v := nI 1) hx hb dX4_minutesUntilQuiet_21 (by decide +kernel) ?_
        refine k_iald hx hb hK hP 4 0 rfl rfl 1 (rfl) (by omega) (by decide) dX4_minutesUntilQuiet_22 ?_
        refine k_top (v := nI ((stB (itS q i)).length)) (hn9.2.1) ?_
        refine k_if_le (tgt := 37) hx hb ((stB (itS q i)).length) rfl (by omega) dX4_minutesUntilQuiet_23 (by decide) (fun c_23 => ?_) (fun c_23 => ?_)
        · skip
          refine lv_aload_n hx hb dX4_minutesUntilQuiet_37 rfl (lv_at hl 0 rfl) ?_
          refine k_callV (As := []) (rest := []) (wr := [(qi, .inl (cI, 6, .inl gi)), (qs, .inl (cI, 6, .inl gs)), (qe, .inl (cI, 6, .inl ge))]) F (c_X4_bringBack l D cI mo qi qs qe qn qk (nI 0) (nI (stS q)) (stM q) (nI ((stT q).length)) w1 k1 ) gX4_minutesUntilQuiet_X4_bringBack rfl (nA := 0) (by decide +kernel) rfl ⟨Nat.le_of_ble_eq_true rfl, Nat.le_of_ble_eq_true rfl⟩ hK hP hD hS hA hG (ci := 4) (q0 := 0) rfl rfl rfl [0, 4, 5] [1, 2, 3] rfl (by decide) rfl (by decide) (by decide) [0] rfl rfl hl.1 (Nat.le_of_ble_eq_true rfl) dX4_minutesUntilQuiet_38 ⟨Nat.le_of_ble_eq_true rfl, Nat.le_of_ble_eq_true rfl⟩ (fun r_4 u H locs hr_38 hP hD hS => ?_)
          obtain ⟨w3, rfl⟩ : ∃ z, z = u := ⟨_, rfl⟩
          try dsimp only at hr_38
          have hP : va_P D vwCl [(qi, .inl (cI, 6, .inl gi)), (qs, .inl (cI, 6, .inl gs)), (qe, .inl (cI, 6, .inl ge)), (mo, .inr (4, [.int (nI 0), .int (nI (stS q)), .int (stM q), .int (nI ((stT q).length)), .ref qi, .ref qs, .ref qe, .ref qn, .ref qk])), (qn, .inl (cI, 42, .inl w3)), (qk, .inl (cI, 42, .inl k1))] H := hP
          have hD : va_D A [(qi, .inl (cI, 6, .inl gi)), (qs, .inl (cI, 6, .inl gs)), (qe, .inl (cI, 6, .inl ge)), (mo, .inr (4, [.int (nI 0), .int (nI (stS q)), .int (stM q), .int (nI ((stT q).length)), .ref qi, .ref qs, .ref qe, .ref qn, .ref qk])), (qn, .inl (cI, 42, .inl w3)), (qk, .inl (cI, 42, .inl k1))] := hD
          refine W.widen (k := 0) (n := 0) (Nat.le_of_ble_eq_true rfl) (Nat.le_of_ble_eq_true rfl) ?_
          refine lv_iload_n hx hb dX4_minutesUntilQuiet_41 rfl (lv_at hl 1 rfl) ?_
          refine lv_bipush (v := nI 100) hx hb dX4_minutesUntilQuiet_42 (by decide +kernel) ?_
          refine k_cmp_le (tgt := 51) hx hb i 100 rfl rfl (by omega) (by omega) dX4_minutesUntilQuiet_44 (by decide) (fun c_44 => ?_) (fun c_44 => ?_)
          · skip
            refine lv_iload_n hx hb dX4_minutesUntilQuiet_51 rfl (lv_at hl 1 rfl) ?_
            exact ret (nI i) ⟨w3, k1⟩ _ _ _ _ _ _ (⟨Or.inl ⟨i, by omega, c_23, hh, rfl⟩, rN_of hN (fun t ht => (hr_38 t ht).trans (hr_6 t ht))⟩) (hP.sub [3, 0, 1, 2, 4, 5] (rfl)) (hD.sub [3, 0, 1, 2, 4, 5] (by decide) (rfl)) hS (Nat.le_of_ble_eq_true rfl) (Nat.le_of_ble_eq_true rfl) dX4_minutesUntilQuiet_52
          · skip
            exact absurd c_14 (by omega)
        · skip
          refine lv_aload_n hx hb dX4_minutesUntilQuiet_26 rfl (lv_at hl 0 rfl) ?_
          refine k_callV (As := []) (rest := []) (wr := [(qk, .inl (cI, 42, .inl k1))]) F (c_X4_pass l D cI mo qi qs qe qn qk (nI 0) (stM q) (stS q) ((stT q).length) gi gs ge w1 (itS q i) ((stS_it q i).symm) ((stM_it q i).symm) ((stT_len q i).symm) hn9 (okS_it hO i) (by rw [stI_it]; omega)) gX4_minutesUntilQuiet_X4_pass rfl (nA := 0) (by decide +kernel) rfl ⟨Nat.le_of_ble_eq_true rfl, Nat.le_of_ble_eq_true rfl⟩ hK hP hD hS hA hG (ci := 4) (q0 := 0) rfl rfl rfl [0, 1, 2, 3, 4] [5] rfl (by decide) rfl (by decide) (by decide) [0] rfl rfl hl.1 (Nat.le_of_ble_eq_true rfl) dX4_minutesUntilQuiet_27 ⟨Nat.le_of_ble_eq_true rfl, Nat.le_of_ble_eq_true rfl⟩ (fun r_5 u H locs hr_27 hP hD hS => ?_)
          obtain ⟨w2, rfl⟩ : ∃ z, z = u := ⟨_, rfl⟩
          try dsimp only at hr_27
          have hP : va_P D vwCl [(qk, .inl (cI, 42, .inl k1)), (mo, .inr (4, [.int (nI 0), .int (nI (stS q)), .int (stM q), .int (nI ((stT q).length)), .ref qi, .ref qs, .ref qe, .ref qn, .ref qk])), (qi, .inl (cI, 6, .inl gi)), (qs, .inl (cI, 6, .inl gs)), (qe, .inl (cI, 6, .inl ge)), (qn, .inl (cI, 42, .inl w2))] H := hP
          have hD : va_D A [(qk, .inl (cI, 42, .inl k1)), (mo, .inr (4, [.int (nI 0), .int (nI (stS q)), .int (stM q), .int (nI ((stT q).length)), .ref qi, .ref qs, .ref qe, .ref qn, .ref qk])), (qi, .inl (cI, 6, .inl gi)), (qs, .inl (cI, 6, .inl gs)), (qe, .inl (cI, 6, .inl ge)), (qn, .inl (cI, 42, .inl w2))] := hD
          refine W.eq (g2 := F0 m 30 ls [.int r_5]) rfl ?_
          refine W.widen (k := 0) (n := 0) (Nat.le_of_ble_eq_true rfl) (Nat.le_of_ble_eq_true rfl) ?_
          refine lv_pop hx hb dX4_minutesUntilQuiet_30 rfl ?_
          refine lv_iinc (v := nI (i + 1)) (lv' := [(1, .int (nI (i + 1))), (0, .ref mo)]) hx hb dX4_minutesUntilQuiet_31 hl (k := 1) rfl (nI_1 _) (by decide) rfl (fun ls hl => ?_)
          refine lv_goto (tgt := 11) hx hb dX4_minutesUntilQuiet_34 (by decide) ?_
          exact ih (i + 1) w2 (by omega) hr_27.2 (lt_s hh (by omega)) (by omega) _ _ (hP.sub [1, 2, 3, 4, 5, 0] (rfl)) (hD.sub [1, 2, 3, 4, 5, 0] (by decide) (rfl)) hS _ (lv_sub hl [1, 0] (rfl))
  exact loop_2 (101 + 1) 0 w (by omega) hN (fun _ h => absurd h (by omega)) (by omega) _ _ (hP.sub [3, 0, 1, 2, 4, 5] (rfl)) (hD.sub [3, 0, 1, 2, 4, 5] (by decide) (rfl)) hS _ (lv_sub hl [1, 0] (rfl))

abbrev rm_X4_minutesUntilExit : Room := { frames := 3, cells := 0, slots := 0, locals := 67 }
set_option maxHeartbeats 4000000 in
set_option maxRecDepth 100000 in
theorem c_X4_minutesUntilExit (l : Launch) (D : va_G) (cI : ClassId) (mo : Nat) (qi : Nat) (qs : Nat) (qe : Nat) (qn : Nat) (qk : Nat) (tw : Int32) (gi : Nat → Int32) (gs : Nat → Int32) (ge : Nat → Int32) (w : Nat → Int32) (q : St) (kp : Nat → Int32) (j : Nat) (hN : rN gi gs ge w q) (hO : okS q) (hmi : stI q < 50000) (hj : j < (stT q).length) : kM kri l yX4_minutesUntilExit wsX4_minutesUntilExit rm_X4_minutesUntilExit D [(cI, .int)] [.ref mo, .int (nI j)] [(mo, .inr (4, [.int tw, .int (nI (stS q)), .int (stM q), .int (nI ((stT q).length)), .ref qi, .ref qs, .ref qe, .ref qn, .ref qk])), (qi, .inl (cI, 6, .inl gi)), (qs, .inl (cI, 6, .inl gs)), (qe, .inl (cI, 6, .inl ge)), (qn, .inl (cI, 42, .inl w)), (qk, .inl (cI, 42, .inl kp))] (fun (r : Int32) (u : (Nat → Int32) × (Nat → Int32)) => fstR (fun t => ¬ tkX ((stT (itS q t)).getD j tk0) = -1) r ∧ rN gi gs ge u.1 q) (fun (u : (Nat → Int32) × (Nat → Int32)) => [(mo, .inr (4, [.int (nI 0), .int (nI (stS q)), .int (stM q), .int (nI ((stT q).length)), .ref qi, .ref qs, .ref qe, .ref qn, .ref qk])), (qi, .inl (cI, 6, .inl gi)), (qs, .inl (cI, 6, .inl gs)), (qe, .inl (cI, 6, .inl ge)), (qn, .inl (cI, 42, .inl u.1)), (qk, .inl (cI, 42, .inl u.2))]) := by
  refine k_bodyI (cc := cX4_minutesUntilExit) (maxL := 3) (by decide) rfl (Nat.le_of_ble_eq_true rfl) ?_
  intro p e ss m args below meth c A Q F hname hA hG hK hP hD hS ret ls hl
  obtain ⟨hx, hb, hml, hown, hts⟩ := id F
  have hP : va_P D vwCl [(mo, .inr (4, [.int tw, .int (nI (stS q)), .int (stM q), .int (nI ((stT q).length)), .ref qi, .ref qs, .ref qe, .ref qn, .ref qk])), (qi, .inl (cI, 6, .inl gi)), (qs, .inl (cI, 6, .inl gs)), (qe, .inl (cI, 6, .inl ge)), (qn, .inl (cI, 42, .inl w)), (qk, .inl (cI, 42, .inl kp))] ss.heap := hP
  have hD : va_D A [(mo, .inr (4, [.int tw, .int (nI (stS q)), .int (stM q), .int (nI ((stT q).length)), .ref qi, .ref qs, .ref qe, .ref qn, .ref qk])), (qi, .inl (cI, 6, .inl gi)), (qs, .inl (cI, 6, .inl gs)), (qe, .inl (cI, 6, .inl ge)), (qn, .inl (cI, 42, .inl w)), (qk, .inl (cI, 42, .inl kp))] := hD
  have hl : lv_has ls 3 [(0, .ref mo), (1, .int (nI j))] := hl
  have iX4 : ∀ w ∈ u_ws RX4 TX4 9, w ∈ wsX4_minutesUntilExit := by decide +kernel
  have f32 := hts (.fieldLink RX4 32 "SmallerTalkModel" "thrown" "I") (by decide +kernel)
  obtain ⟨n0, n1, n2, n3, n4, n5, nB, nT⟩ := id hN
  have h12 := nB.1
  have h6 := nT.1
  refine lv_aload_n hx hb dX4_minutesUntilExit_0 rfl (lv_at hl 0 rfl) ?_
  refine lv_iconst (v := nI 0) hx hb dX4_minutesUntilExit_1 (by decide +kernel) ?_
  refine va_put (D := D) (ci := 4) (v := .int (nI 0)) (ty := .int) (C := RX4) (T := TX4) (N := 9) hx hb hts iX4 tyX4 tyX4_ok nmX4 hown hK hP hD hS 0 rfl rfl 0 (by decide) f32 (fun _ h9 => h9) rfl (by decide +kernel) rfl rfl (Nat.le_of_ble_eq_true rfl) dX4_minutesUntilExit_2 (fun H locs hP hD hS => ?_)
  have hP : va_P D vwCl [(mo, .inr (4, [.int (nI 0), .int (nI (stS q)), .int (stM q), .int (nI ((stT q).length)), .ref qi, .ref qs, .ref qe, .ref qn, .ref qk])), (qi, .inl (cI, 6, .inl gi)), (qs, .inl (cI, 6, .inl gs)), (qe, .inl (cI, 6, .inl ge)), (qn, .inl (cI, 42, .inl w)), (qk, .inl (cI, 42, .inl kp))] H := hP
  have hD : va_D A [(mo, .inr (4, [.int (nI 0), .int (nI (stS q)), .int (stM q), .int (nI ((stT q).length)), .ref qi, .ref qs, .ref qe, .ref qn, .ref qk])), (qi, .inl (cI, 6, .inl gi)), (qs, .inl (cI, 6, .inl gs)), (qe, .inl (cI, 6, .inl ge)), (qn, .inl (cI, 42, .inl w)), (qk, .inl (cI, 42, .inl kp))] := hD
  refine lv_aload_n hx hb dX4_minutesUntilExit_5 rfl (lv_at hl 0 rfl) ?_
  refine lv_iload_n hx hb dX4_minutesUntilExit_6 rfl (lv_at hl 1 rfl) ?_
  refine k_callV (As := [.int (nI j)]) (rest := []) (wr := [(qi, .inl (cI, 6, .inl gi)), (qs, .inl (cI, 6, .inl gs)), (qe, .inl (cI, 6, .inl ge)), (qn, .inl (cI, 42, .inl w)), (qk, .inl (cI, 42, .inl kp))]) F (c_X4_isTalker l D cI mo qi qs qe qn qk (nI 0) (nI (stS q)) (stM q) ((stT q).length) j h6 hj) gX4_minutesUntilExit_X4_isTalker rfl (nA := 1) (by decide +kernel) rfl ⟨Nat.le_of_ble_eq_true rfl, Nat.le_of_ble_eq_true rfl⟩ hK hP hD hS hA hG (ci := 4) (q0 := 0) rfl rfl rfl [0] [1, 2, 3, 4, 5] rfl (by decide) rfl (by decide) (by decide) [0] rfl rfl hl.1 (Nat.le_of_ble_eq_true rfl) dX4_minutesUntilExit_7 ⟨Nat.le_of_ble_eq_true rfl, Nat.le_of_ble_eq_true rfl⟩ (fun r_1 u H locs hr_7 hP hD hS => ?_)
  try dsimp only at hr_7
  have hP : va_P D vwCl [(qi, .inl (cI, 6, .inl gi)), (qs, .inl (cI, 6, .inl gs)), (qe, .inl (cI, 6, .inl ge)), (qn, .inl (cI, 42, .inl w)), (qk, .inl (cI, 42, .inl kp)), (mo, .inr (4, [.int (nI 0), .int (nI (stS q)), .int (stM q), .int (nI ((stT q).length)), .ref qi, .ref qs, .ref qe, .ref qn, .ref qk]))] H := hP
  have hD : va_D A [(qi, .inl (cI, 6, .inl gi)), (qs, .inl (cI, 6, .inl gs)), (qe, .inl (cI, 6, .inl ge)), (qn, .inl (cI, 42, .inl w)), (qk, .inl (cI, 42, .inl kp)), (mo, .inr (4, [.int (nI 0), .int (nI (stS q)), .int (stM q), .int (nI ((stT q).length)), .ref qi, .ref qs, .ref qe, .ref qn, .ref qk]))] := hD
  refine W.eq (g2 := F0 m 10 ls [.int r_1]) rfl ?_
  refine W.widen (k := 0) (n := 0) (Nat.le_of_ble_eq_true rfl) (Nat.le_of_ble_eq_true rfl) ?_
  refine k_top (v := nI 1) (hr_7) ?_
  refine k_if_ne (tgt := 19) hx hb 1 rfl (by omega) dX4_minutesUntilExit_10 (by decide) (fun c_10 => ?_) (fun c_10 => ?_)
  · skip
    refine lv_aload_n hx hb dX4_minutesUntilExit_19 rfl (lv_at hl 0 rfl) ?_
    refine k_callV (As := []) (rest := []) (wr := [(qi, .inl (cI, 6, .inl gi)), (qs, .inl (cI, 6, .inl gs)), (qe, .inl (cI, 6, .inl ge))]) F (c_X4_keep l D cI mo qi qs qe qn qk (nI 0) (nI (stS q)) (stM q) (nI ((stT q).length)) w kp ) gX4_minutesUntilExit_X4_keep rfl (nA := 0) (by decide +kernel) rfl ⟨Nat.le_of_ble_eq_true rfl, Nat.le_of_ble_eq_true rfl⟩ hK hP hD hS hA hG (ci := 4) (q0 := 5) rfl rfl rfl [5, 3, 4] [0, 1, 2] rfl (by decide) rfl (by decide) (by decide) [0] rfl rfl hl.1 (Nat.le_of_ble_eq_true rfl) dX4_minutesUntilExit_20 ⟨Nat.le_of_ble_eq_true rfl, Nat.le_of_ble_eq_true rfl⟩ (fun r_2 u H locs hr_20 hP hD hS => ?_)
    obtain ⟨k1, rfl⟩ : ∃ z, z = u := ⟨_, rfl⟩
    try dsimp only at hr_20
    have hP : va_P D vwCl [(qi, .inl (cI, 6, .inl gi)), (qs, .inl (cI, 6, .inl gs)), (qe, .inl (cI, 6, .inl ge)), (mo, .inr (4, [.int (nI 0), .int (nI (stS q)), .int (stM q), .int (nI ((stT q).length)), .ref qi, .ref qs, .ref qe, .ref qn, .ref qk])), (qn, .inl (cI, 42, .inl w)), (qk, .inl (cI, 42, .inl k1))] H := hP
    have hD : va_D A [(qi, .inl (cI, 6, .inl gi)), (qs, .inl (cI, 6, .inl gs)), (qe, .inl (cI, 6, .inl ge)), (mo, .inr (4, [.int (nI 0), .int (nI (stS q)), .int (stM q), .int (nI ((stT q).length)), .ref qi, .ref qs, .ref qe, .ref qn, .ref qk])), (qn, .inl (cI, 42, .inl w)), (qk, .inl (cI, 42, .inl k1))] := hD
    refine W.widen (k := 0) (n := 0) (Nat.le_of_ble_eq_true rfl) (Nat.le_of_ble_eq_true rfl) ?_
    refine lv_iconst (v := nI 0) hx hb dX4_minutesUntilExit_23 (by decide +kernel) ?_
    refine lv_istore_n (lv' := [(2, .int (nI 0)), (0, .ref mo), (1, .int (nI j))]) hx hb dX4_minutesUntilExit_24 rfl hl (by decide) rfl (fun ls hl => ?_)
    have loop_3 : ∀ (n : Nat) (i : Nat) (w1 : Nat → Int32), (i ≤ 101) → (rN gi gs ge w1 (itS q i)) → (∀ t, t < i → ¬ ¬ tkX ((stT (itS q t)).getD j tk0) = -1) → 101 - i < n → ∀ (H : Heap) (locs : List Loc), va_P D vwCl [(mo, .inr (4, [.int (nI 0), .int (nI (stS q)), .int (stM q), .int (nI ((stT q).length)), .ref qi, .ref qs, .ref qe, .ref qn, .ref qk])), (qi, .inl (cI, 6, .inl gi)), (qs, .inl (cI, 6, .inl gs)), (qe, .inl (cI, 6, .inl ge)), (qn, .inl (cI, 42, .inl w1)), (qk, .inl (cI, 42, .inl k1))] H → va_D A [(mo, .inr (4, [.int (nI 0), .int (nI (stS q)), .int (stM q), .int (nI ((stT q).length)), .ref qi, .ref qs, .ref qe, .ref qn, .ref qk])), (qi, .inl (cI, 6, .inl gi)), (qs, .inl (cI, 6, .inl gs)), (qe, .inl (cI, 6, .inl ge)), (qn, .inl (cI, 42, .inl w1)), (qk, .inl (cI, 42, .inl k1))] → va_S A ss.heap H locs → ∀ ls : Array Slot, lv_has ls 3 [(0, .ref mo), (1, .int (nI j)), (2, .int (nI i))] → W p l e rm_X4_minutesUntilExit ss m args below meth c H locs 0 0 Q (F0 m 25 ls []) := by
      intro n
      induction n with
      | zero => intro i w1 hi hn9 hh hn; exact absurd hn (by omega)
      | succ n ih =>
        intro i w1 hi hn9 hh hn H locs hP hD hS ls hl
        refine lv_iload_n hx hb dX4_minutesUntilExit_25 rfl (lv_at hl 2 rfl) ?_
        refine lv_bipush (v := nI 100) hx hb dX4_minutesUntilExit_26 (by decide +kernel) ?_
        refine k_cmp_gt (tgt := 50) hx hb i 100 rfl rfl (by omega) (by omega) dX4_minutesUntilExit_28 (by decide) (fun c_28 => ?_) (fun c_28 => ?_)
        · skip
          refine lv_aload_n hx hb dX4_minutesUntilExit_50 rfl (lv_at hl 0 rfl) ?_
          refine k_callV (As := []) (rest := []) (wr := [(qi, .inl (cI, 6, .inl gi)), (qs, .inl (cI, 6, .inl gs)), (qe, .inl (cI, 6, .inl ge))]) F (c_X4_bringBack l D cI mo qi qs qe qn qk (nI 0) (nI (stS q)) (stM q) (nI ((stT q).length)) w1 k1 ) gX4_minutesUntilExit_X4_bringBack rfl (nA := 0) (by decide +kernel) rfl ⟨Nat.le_of_ble_eq_true rfl, Nat.le_of_ble_eq_true rfl⟩ hK hP hD hS hA hG (ci := 4) (q0 := 0) rfl rfl rfl [0, 4, 5] [1, 2, 3] rfl (by decide) rfl (by decide) (by decide) [0] rfl rfl hl.1 (Nat.le_of_ble_eq_true rfl) dX4_minutesUntilExit_51 ⟨Nat.le_of_ble_eq_true rfl, Nat.le_of_ble_eq_true rfl⟩ (fun r_4 u H locs hr_51 hP hD hS => ?_)
          obtain ⟨w3, rfl⟩ : ∃ z, z = u := ⟨_, rfl⟩
          try dsimp only at hr_51
          have hP : va_P D vwCl [(qi, .inl (cI, 6, .inl gi)), (qs, .inl (cI, 6, .inl gs)), (qe, .inl (cI, 6, .inl ge)), (mo, .inr (4, [.int (nI 0), .int (nI (stS q)), .int (stM q), .int (nI ((stT q).length)), .ref qi, .ref qs, .ref qe, .ref qn, .ref qk])), (qn, .inl (cI, 42, .inl w3)), (qk, .inl (cI, 42, .inl k1))] H := hP
          have hD : va_D A [(qi, .inl (cI, 6, .inl gi)), (qs, .inl (cI, 6, .inl gs)), (qe, .inl (cI, 6, .inl ge)), (mo, .inr (4, [.int (nI 0), .int (nI (stS q)), .int (stM q), .int (nI ((stT q).length)), .ref qi, .ref qs, .ref qe, .ref qn, .ref qk])), (qn, .inl (cI, 42, .inl w3)), (qk, .inl (cI, 42, .inl k1))] := hD
          refine W.widen (k := 0) (n := 0) (Nat.le_of_ble_eq_true rfl) (Nat.le_of_ble_eq_true rfl) ?_
          refine lv_iload_n hx hb dX4_minutesUntilExit_54 rfl (lv_at hl 2 rfl) ?_
          refine lv_bipush (v := nI 100) hx hb dX4_minutesUntilExit_55 (by decide +kernel) ?_
          refine k_cmp_le (tgt := 64) hx hb i 100 rfl rfl (by omega) (by omega) dX4_minutesUntilExit_57 (by decide) (fun c_57 => ?_) (fun c_57 => ?_)
          · skip
            exact absurd c_28 (by omega)
          · skip
            refine lv_iconst (v := -1) hx hb dX4_minutesUntilExit_60 (by decide +kernel) ?_
            refine lv_goto (tgt := 65) hx hb dX4_minutesUntilExit_61 (by decide) ?_
            exact ret (-1) ⟨w3, k1⟩ _ _ _ _ _ _ (⟨Or.inr ⟨fun t ht => hh t (by omega), rfl⟩, rN_of hN (fun t ht => (hr_51 t ht).trans (hr_20 t ht))⟩) (hP.sub [3, 0, 1, 2, 4, 5] (rfl)) (hD.sub [3, 0, 1, 2, 4, 5] (by decide) (rfl)) hS (Nat.le_of_ble_eq_true rfl) (Nat.le_of_ble_eq_true rfl) dX4_minutesUntilExit_65
        · skip
          refine lv_aload_n hx hb dX4_minutesUntilExit_31 rfl (lv_at hl 0 rfl) ?_
          refine lv_iload_n hx hb dX4_minutesUntilExit_32 rfl (lv_at hl 1 rfl) ?_
          refine k_callV (As := [.int (nI j)]) (rest := []) (wr := [(qi, .inl (cI, 6, .inl gi)), (qs, .inl (cI, 6, .inl gs)), (qe, .inl (cI, 6, .inl ge)), (qk, .inl (cI, 42, .inl k1))]) F (c_X4_isThere l D cI mo qi qs qe qn qk (nI 0) (nI (stS q)) (stM q) (nI ((stT q).length)) w1 j (tkX ((stT (itS q i)).getD j tk0)) ((hn9.2.2.2.2.2.2.2.2 j (by rw [stT_len]; exact hj)).2.2.2.2) (by omega)) gX4_minutesUntilExit_X4_isThere rfl (nA := 1) (by decide +kernel) rfl ⟨Nat.le_of_ble_eq_true rfl, Nat.le_of_ble_eq_true rfl⟩ hK hP hD hS hA hG (ci := 4) (q0 := 0) rfl rfl rfl [0, 4] [1, 2, 3, 5] rfl (by decide) rfl (by decide) (by decide) [0] rfl rfl hl.1 (Nat.le_of_ble_eq_true rfl) dX4_minutesUntilExit_33 ⟨Nat.le_of_ble_eq_true rfl, Nat.le_of_ble_eq_true rfl⟩ (fun r_5 u H locs hr_33 hP hD hS => ?_)
          try dsimp only at hr_33
          have hP : va_P D vwCl [(qi, .inl (cI, 6, .inl gi)), (qs, .inl (cI, 6, .inl gs)), (qe, .inl (cI, 6, .inl ge)), (qk, .inl (cI, 42, .inl k1)), (mo, .inr (4, [.int (nI 0), .int (nI (stS q)), .int (stM q), .int (nI ((stT q).length)), .ref qi, .ref qs, .ref qe, .ref qn, .ref qk])), (qn, .inl (cI, 42, .inl w1))] H := hP
          have hD : va_D A [(qi, .inl (cI, 6, .inl gi)), (qs, .inl (cI, 6, .inl gs)), (qe, .inl (cI, 6, .inl ge)), (qk, .inl (cI, 42, .inl k1)), (mo, .inr (4, [.int (nI 0), .int (nI (stS q)), .int (stM q), .int (nI ((stT q).length)), .ref qi, .ref qs, .ref qe, .ref qn, .ref qk])), (qn, .inl (cI, 42, .inl w1))] := hD
          refine W.eq (g2 := F0 m 36 ls [.int r_5]) rfl ?_
          refine W.widen (k := 0) (n := 0) (Nat.le_of_ble_eq_true rfl) (Nat.le_of_ble_eq_true rfl) ?_
          refine lv_if_eq (tgt := 50) hx hb dX4_minutesUntilExit_36 (by decide) (fun c_36 => ?_) (fun c_36 => ?_)
          · skip
            refine lv_aload_n hx hb dX4_minutesUntilExit_50 rfl (lv_at hl 0 rfl) ?_
            refine k_callV (As := []) (rest := []) (wr := [(qi, .inl (cI, 6, .inl gi)), (qs, .inl (cI, 6, .inl gs)), (qe, .inl (cI, 6, .inl ge))]) F (c_X4_bringBack l D cI mo qi qs qe qn qk (nI 0) (nI (stS q)) (stM q) (nI ((stT q).length)) w1 k1 ) gX4_minutesUntilExit_X4_bringBack rfl (nA := 0) (by decide +kernel) rfl ⟨Nat.le_of_ble_eq_true rfl, Nat.le_of_ble_eq_true rfl⟩ hK hP hD hS hA hG (ci := 4) (q0 := 4) rfl rfl rfl [4, 5, 3] [0, 1, 2] rfl (by decide) rfl (by decide) (by decide) [0] rfl rfl hl.1 (Nat.le_of_ble_eq_true rfl) dX4_minutesUntilExit_51 ⟨Nat.le_of_ble_eq_true rfl, Nat.le_of_ble_eq_true rfl⟩ (fun r_6 u H locs hr_51 hP hD hS => ?_)
            obtain ⟨w3, rfl⟩ : ∃ z, z = u := ⟨_, rfl⟩
            try dsimp only at hr_51
            have hP : va_P D vwCl [(qi, .inl (cI, 6, .inl gi)), (qs, .inl (cI, 6, .inl gs)), (qe, .inl (cI, 6, .inl ge)), (mo, .inr (4, [.int (nI 0), .int (nI (stS q)), .int (stM q), .int (nI ((stT q).length)), .ref qi, .ref qs, .ref qe, .ref qn, .ref qk])), (qn, .inl (cI, 42, .inl w3)), (qk, .inl (cI, 42, .inl k1))] H := hP
            have hD : va_D A [(qi, .inl (cI, 6, .inl gi)), (qs, .inl (cI, 6, .inl gs)), (qe, .inl (cI, 6, .inl ge)), (mo, .inr (4, [.int (nI 0), .int (nI (stS q)), .int (stM q), .int (nI ((stT q).length)), .ref qi, .ref qs, .ref qe, .ref qn, .ref qk])), (qn, .inl (cI, 42, .inl w3)), (qk, .inl (cI, 42, .inl k1))] := hD
            refine W.widen (k := 0) (n := 0) (Nat.le_of_ble_eq_true rfl) (Nat.le_of_ble_eq_true rfl) ?_
            refine lv_iload_n hx hb dX4_minutesUntilExit_54 rfl (lv_at hl 2 rfl) ?_
            refine lv_bipush (v := nI 100) hx hb dX4_minutesUntilExit_55 (by decide +kernel) ?_
            refine k_cmp_le (tgt := 64) hx hb i 100 rfl rfl (by omega) (by omega) dX4_minutesUntilExit_57 (by decide) (fun c_57 => ?_) (fun c_57 => ?_)
            · skip
              refine lv_iload_n hx hb dX4_minutesUntilExit_64 rfl (lv_at hl 2 rfl) ?_
              exact ret (nI i) ⟨w3, k1⟩ _ _ _ _ _ _ (⟨Or.inl ⟨i, by omega, bI_eq0 hr_33 c_36, hh, rfl⟩, rN_of hN (fun t ht => (hr_51 t ht).trans (hr_20 t ht))⟩) (hP.sub [3, 0, 1, 2, 4, 5] (rfl)) (hD.sub [3, 0, 1, 2, 4, 5] (by decide) (rfl)) hS (Nat.le_of_ble_eq_true rfl) (Nat.le_of_ble_eq_true rfl) dX4_minutesUntilExit_65
            · skip
              exact absurd c_28 (by omega)
          · skip
            refine lv_aload_n hx hb dX4_minutesUntilExit_39 rfl (lv_at hl 0 rfl) ?_
            refine k_callV (As := []) (rest := []) (wr := [(qk, .inl (cI, 42, .inl k1))]) F (c_X4_pass l D cI mo qi qs qe qn qk (nI 0) (stM q) (stS q) ((stT q).length) gi gs ge w1 (itS q i) ((stS_it q i).symm) ((stM_it q i).symm) ((stT_len q i).symm) hn9 (okS_it hO i) (by rw [stI_it]; omega)) gX4_minutesUntilExit_X4_pass rfl (nA := 0) (by decide +kernel) rfl ⟨Nat.le_of_ble_eq_true rfl, Nat.le_of_ble_eq_true rfl⟩ hK hP hD hS hA hG (ci := 4) (q0 := 4) rfl rfl rfl [4, 0, 1, 2, 5] [3] rfl (by decide) rfl (by decide) (by decide) [0] rfl rfl hl.1 (Nat.le_of_ble_eq_true rfl) dX4_minutesUntilExit_40 ⟨Nat.le_of_ble_eq_true rfl, Nat.le_of_ble_eq_true rfl⟩ (fun r_7 u H locs hr_40 hP hD hS => ?_)
            obtain ⟨w2, rfl⟩ : ∃ z, z = u := ⟨_, rfl⟩
            try dsimp only at hr_40
            have hP : va_P D vwCl [(qk, .inl (cI, 42, .inl k1)), (mo, .inr (4, [.int (nI 0), .int (nI (stS q)), .int (stM q), .int (nI ((stT q).length)), .ref qi, .ref qs, .ref qe, .ref qn, .ref qk])), (qi, .inl (cI, 6, .inl gi)), (qs, .inl (cI, 6, .inl gs)), (qe, .inl (cI, 6, .inl ge)), (qn, .inl (cI, 42, .inl w2))] H := hP
            have hD : va_D A [(qk, .inl (cI, 42, .inl k1)), (mo, .inr (4, [.int (nI 0), .int (nI (stS q)), .int (stM q), .int (nI ((stT q).length)), .ref qi, .ref qs, .ref qe, .ref qn, .ref qk])), (qi, .inl (cI, 6, .inl gi)), (qs, .inl (cI, 6, .inl gs)), (qe, .inl (cI, 6, .inl ge)), (qn, .inl (cI, 42, .inl w2))] := hD
            refine W.eq (g2 := F0 m 43 ls [.int r_7]) rfl ?_
            refine W.widen (k := 0) (n := 0) (Nat.le_of_ble_eq_true rfl) (Nat.le_of_ble_eq_true rfl) ?_
            refine lv_pop hx hb dX4_minutesUntilExit_43 rfl ?_
            refine lv_iinc (v := nI (i + 1)) (lv' := [(2, .int (nI (i + 1))), (0, .ref mo), (1, .int (nI j))]) hx hb dX4_minutesUntilExit_44 hl (k := 2) rfl (nI_1 _) (by decide) rfl (fun ls hl => ?_)
            refine lv_goto (tgt := 25) hx hb dX4_minutesUntilExit_47 (by decide) ?_
            exact ih (i + 1) w2 (by omega) hr_40.2 (lt_s hh (fun h9 => h9 (bI_ne0 hr_33 c_36))) (by omega) _ _ (hP.sub [1, 2, 3, 4, 5, 0] (rfl)) (hD.sub [1, 2, 3, 4, 5, 0] (by decide) (rfl)) hS _ (lv_sub hl [1, 2, 0] (rfl))
    exact loop_3 (101 + 1) 0 w (by omega) hN (fun _ h => absurd h (by omega)) (by omega) _ _ (hP.sub [3, 0, 1, 2, 4, 5] (rfl)) (hD.sub [3, 0, 1, 2, 4, 5] (by decide) (rfl)) hS _ (lv_sub hl [1, 2, 0] (rfl))
  · exact absurd c_10 (by omega)

abbrev rm_X4_gearBest : Room := { frames := 5, cells := 0, slots := 0, locals := 112 }
set_option maxHeartbeats 4000000 in
set_option maxRecDepth 100000 in
theorem c_X4_gearBest (l : Launch) (D : va_G) (cI : ClassId) (mo : Nat) (qi : Nat) (qs : Nat) (qe : Nat) (qn : Nat) (qk : Nat) (tw : Int32) (gi : Nat → Int32) (gs : Nat → Int32) (ge : Nat → Int32) (w : Nat → Int32) (q : St) (kp : Nat → Int32) (hN : rN gi gs ge w q) (hO : okS q) (hmi : stI q < 50000) : kM kri l yX4_gearBest wsX4_gearBest rm_X4_gearBest D [(cI, .int)] [.ref mo] [(mo, .inr (4, [.int tw, .int (nI (stS q)), .int (stM q), .int (nI ((stT q).length)), .ref qi, .ref qs, .ref qe, .ref qn, .ref qk])), (qi, .inl (cI, 6, .inl gi)), (qs, .inl (cI, 6, .inl gs)), (qe, .inl (cI, 6, .inl ge)), (qn, .inl (cI, 42, .inl w)), (qk, .inl (cI, 42, .inl kp))] (fun (r : Int32) (u : (Nat → Int32) × (Nat → Int32)) => r = bgS q ∧ rN gi gs ge u.1 q) (fun (u : (Nat → Int32) × (Nat → Int32)) => [(mo, .inr (4, [.int tw, .int (nI (stS q)), .int (stM q), .int (nI ((stT q).length)), .ref qi, .ref qs, .ref qe, .ref qn, .ref qk])), (qi, .inl (cI, 6, .inl gi)), (qs, .inl (cI, 6, .inl gs)), (qe, .inl (cI, 6, .inl ge)), (qn, .inl (cI, 42, .inl u.1)), (qk, .inl (cI, 42, .inl u.2))]) := by
  refine k_bodyI (cc := cX4_gearBest) (maxL := 5) (by decide) rfl (Nat.le_of_ble_eq_true rfl) ?_
  intro p e ss m args below meth c A Q F hname hA hG hK hP hD hS ret ls hl
  obtain ⟨hx, hb, hml, hown, hts⟩ := id F
  have hP : va_P D vwCl [(mo, .inr (4, [.int tw, .int (nI (stS q)), .int (stM q), .int (nI ((stT q).length)), .ref qi, .ref qs, .ref qe, .ref qn, .ref qk])), (qi, .inl (cI, 6, .inl gi)), (qs, .inl (cI, 6, .inl gs)), (qe, .inl (cI, 6, .inl ge)), (qn, .inl (cI, 42, .inl w)), (qk, .inl (cI, 42, .inl kp))] ss.heap := hP
  have hD : va_D A [(mo, .inr (4, [.int tw, .int (nI (stS q)), .int (stM q), .int (nI ((stT q).length)), .ref qi, .ref qs, .ref qe, .ref qn, .ref qk])), (qi, .inl (cI, 6, .inl gi)), (qs, .inl (cI, 6, .inl gs)), (qe, .inl (cI, 6, .inl ge)), (qn, .inl (cI, 42, .inl w)), (qk, .inl (cI, 42, .inl kp))] := hD
  have hl : lv_has ls 5 [(0, .ref mo)] := hl
  have iX4 : ∀ w ∈ u_ws RX4 TX4 9, w ∈ wsX4_gearBest := by decide +kernel
  have f26 := hts (.fieldLink RX4 26 "SmallerTalkModel" "now" "[I") (by decide +kernel)
  refine lv_iconst (v := -1) hx hb dX4_gearBest_0 (by decide +kernel) ?_
  refine lv_istore_n (lv' := [(1, .int (-1)), (0, .ref mo)]) hx hb dX4_gearBest_1 rfl hl (by decide) rfl (fun ls hl => ?_)
  refine lv_iconst (v := nI 0) hx hb dX4_gearBest_2 (by decide +kernel) ?_
  refine lv_istore_n (lv' := [(2, .int (nI 0)), (1, .int (-1)), (0, .ref mo)]) hx hb dX4_gearBest_3 rfl hl (by decide) rfl (fun ls hl => ?_)
  refine lv_aload_n hx hb dX4_gearBest_4 rfl (lv_at hl 2 rfl) ?_
  refine k_callV (As := []) (rest := []) (wr := [(qi, .inl (cI, 6, .inl gi)), (qs, .inl (cI, 6, .inl gs)), (qe, .inl (cI, 6, .inl ge))]) F (c_X4_keep l D cI mo qi qs qe qn qk tw (nI (stS q)) (stM q) (nI ((stT q).length)) w kp ) gX4_gearBest_X4_keep rfl (nA := 0) (by decide +kernel) rfl ⟨Nat.le_of_ble_eq_true rfl, Nat.le_of_ble_eq_true rfl⟩ hK hP hD hS hA hG (ci := 4) (q0 := 0) rfl rfl rfl [0, 4, 5] [1, 2, 3] rfl (by decide) rfl (by decide) (by decide) [0] rfl rfl hl.1 (Nat.le_of_ble_eq_true rfl) dX4_gearBest_5 ⟨Nat.le_of_ble_eq_true rfl, Nat.le_of_ble_eq_true rfl⟩ (fun r_1 u H locs hr_5 hP hD hS => ?_)
  obtain ⟨k1, rfl⟩ : ∃ z, z = u := ⟨_, rfl⟩
  try dsimp only at hr_5
  have hP : va_P D vwCl [(qi, .inl (cI, 6, .inl gi)), (qs, .inl (cI, 6, .inl gs)), (qe, .inl (cI, 6, .inl ge)), (mo, .inr (4, [.int tw, .int (nI (stS q)), .int (stM q), .int (nI ((stT q).length)), .ref qi, .ref qs, .ref qe, .ref qn, .ref qk])), (qn, .inl (cI, 42, .inl w)), (qk, .inl (cI, 42, .inl k1))] H := hP
  have hD : va_D A [(qi, .inl (cI, 6, .inl gi)), (qs, .inl (cI, 6, .inl gs)), (qe, .inl (cI, 6, .inl ge)), (mo, .inr (4, [.int tw, .int (nI (stS q)), .int (stM q), .int (nI ((stT q).length)), .ref qi, .ref qs, .ref qe, .ref qn, .ref qk])), (qn, .inl (cI, 42, .inl w)), (qk, .inl (cI, 42, .inl k1))] := hD
  refine W.widen (k := 0) (n := 0) (Nat.le_of_ble_eq_true rfl) (Nat.le_of_ble_eq_true rfl) ?_
  refine lv_iconst (v := nI 2) hx hb dX4_gearBest_8 (by decide +kernel) ?_
  refine lv_istore_n (lv' := [(3, .int (nI 2)), (2, .int (nI 0)), (1, .int (-1)), (0, .ref mo)]) hx hb dX4_gearBest_9 rfl hl (by decide) rfl (fun ls hl => ?_)
  have loop_2 : ∀ (n : Nat) (i : Nat) (w1 : Nat → Int32), (i ≤ 8) → (∀ t, t < 42 → w1 t = w t) → 8 - i < n → ∀ (H : Heap) (locs : List Loc), va_P D vwCl [(mo, .inr (4, [.int tw, .int (nI (stS q)), .int (stM q), .int (nI ((stT q).length)), .ref qi, .ref qs, .ref qe, .ref qn, .ref qk])), (qi, .inl (cI, 6, .inl gi)), (qs, .inl (cI, 6, .inl gs)), (qe, .inl (cI, 6, .inl ge)), (qn, .inl (cI, 42, .inl w1)), (qk, .inl (cI, 42, .inl k1))] H → va_D A [(mo, .inr (4, [.int tw, .int (nI (stS q)), .int (stM q), .int (nI ((stT q).length)), .ref qi, .ref qs, .ref qe, .ref qn, .ref qk])), (qi, .inl (cI, 6, .inl gi)), (qs, .inl (cI, 6, .inl gs)), (qe, .inl (cI, 6, .inl ge)), (qn, .inl (cI, 42, .inl w1)), (qk, .inl (cI, 42, .inl k1))] → va_S A ss.heap H locs → ∀ ls : Array Slot, lv_has ls 5 [(0, .ref mo), (1, .int (gO (amF (gN q) i))), (2, .int (nI (lsZ (gN q) i))), (3, .int (nI (i + 2)))] → W p l e rm_X4_gearBest ss m args below meth c H locs 0 0 Q (F0 m 10 ls []) := by
    intro n
    induction n with
    | zero => intro i w1 hi hw9 hn; exact absurd hn (by omega)
    | succ n ih =>
      intro i w1 hi hw9 hn H locs hP hD hS ls hl
      refine lv_iload_n hx hb dX4_gearBest_10 rfl (lv_at hl 3 rfl) ?_
      refine lv_bipush (v := nI 10) hx hb dX4_gearBest_11 (by decide +kernel) ?_
      refine k_cmp_ge (tgt := 56) hx hb (i + 2) 10 rfl rfl (by omega) (by omega) dX4_gearBest_13 (by decide) (fun c_13 => ?_) (fun c_13 => ?_)
      · skip
        obtain rfl : i = 8 := by omega
        refine lv_iload_n hx hb dX4_gearBest_56 rfl (lv_at hl 1 rfl) ?_
        exact ret (gO (amF (gN q) 8)) ⟨w1, k1⟩ _ _ _ _ _ _ (⟨gO_8 _, rN_of hN hw9⟩) (hP.sub [0, 1, 2, 3, 4, 5] (rfl)) (hD.sub [0, 1, 2, 3, 4, 5] (by decide) (rfl)) hS (Nat.le_of_ble_eq_true rfl) (Nat.le_of_ble_eq_true rfl) dX4_gearBest_57
      · skip
        refine lv_aload_n hx hb dX4_gearBest_16 rfl (lv_at hl 0 rfl) ?_
        refine va_get (D := D) (ci := 4) (v := .ref qn) (C := RX4) (T := TX4) (N := 9) hx hb hts iX4 hown hK hP 0 rfl rfl 7 (by decide) f26 (fun _ h9 => h9) rfl dX4_gearBest_17 ?_
        refine lv_iconst (v := nI 5) hx hb dX4_gearBest_20 (by decide +kernel) ?_
        refine lv_iload_n hx hb dX4_gearBest_21 rfl (lv_at hl 3 rfl) ?_
        refine k_iast hx hb hK hP hD hS 4 0 rfl rfl 5 (rfl) (by omega) (by decide) dX4_gearBest_22 (fun H locs hP hD hS => ?_)
        have hP : va_P D vwCl [(mo, .inr (4, [.int tw, .int (nI (stS q)), .int (stM q), .int (nI ((stT q).length)), .ref qi, .ref qs, .ref qe, .ref qn, .ref qk])), (qi, .inl (cI, 6, .inl gi)), (qs, .inl (cI, 6, .inl gs)), (qe, .inl (cI, 6, .inl ge)), (qn, .inl (cI, 42, .inl (upd w1 5 (nI (i + 2))))), (qk, .inl (cI, 42, .inl k1))] H := hP
        have hD : va_D A [(mo, .inr (4, [.int tw, .int (nI (stS q)), .int (stM q), .int (nI ((stT q).length)), .ref qi, .ref qs, .ref qe, .ref qn, .ref qk])), (qi, .inl (cI, 6, .inl gi)), (qs, .inl (cI, 6, .inl gs)), (qe, .inl (cI, 6, .inl ge)), (qn, .inl (cI, 42, .inl (upd w1 5 (nI (i + 2))))), (qk, .inl (cI, 42, .inl k1))] := hD
        refine lv_aload_n hx hb dX4_gearBest_23 rfl (lv_at hl 0 rfl) ?_
        refine lv_bipush (v := nI 10) hx hb dX4_gearBest_24 (by decide +kernel) ?_
        refine k_callV (As := [.int (nI 10)]) (rest := []) (wr := []) F (c_X4_noiseBehind l D cI mo qi qs qe qn qk tw gi gs ge (upd w1 5 (nI (i + 2))) (setG q (i + 2)) k1 10 (rN_G (rN_of hN hw9)) (okS_setG hO (by omega)) hmi (by omega)) gX4_gearBest_X4_noiseBehind rfl (nA := 1) (by decide +kernel) rfl ⟨Nat.le_of_ble_eq_true rfl, Nat.le_of_ble_eq_true rfl⟩ hK hP hD hS hA hG (ci := 4) (q0 := 0) rfl rfl rfl [0, 1, 2, 3, 4, 5] [] rfl (by decide) rfl (by decide) (by decide) [0] rfl rfl hl.1 (Nat.le_of_ble_eq_true rfl) dX4_gearBest_26 ⟨Nat.le_of_ble_eq_true rfl, Nat.le_of_ble_eq_true rfl⟩ (fun r_3 u H locs hr_26 hP hD hS => ?_)
        obtain ⟨w3, rfl⟩ : ∃ z, z = u := ⟨_, rfl⟩
        try dsimp only at hr_26
        have hP : va_P D vwCl [(mo, .inr (4, [.int tw, .int (nI (stS (setG q (i + 2)))), .int (stM (setG q (i + 2))), .int (nI ((stT (setG q (i + 2))).length)), .ref qi, .ref qs, .ref qe, .ref qn, .ref qk])), (qi, .inl (cI, 6, .inl gi)), (qs, .inl (cI, 6, .inl gs)), (qe, .inl (cI, 6, .inl ge)), (qn, .inl (cI, 42, .inl w3)), (qk, .inl (cI, 42, .inl k1))] H := hP
        have hD : va_D A [(mo, .inr (4, [.int tw, .int (nI (stS (setG q (i + 2)))), .int (stM (setG q (i + 2))), .int (nI ((stT (setG q (i + 2))).length)), .ref qi, .ref qs, .ref qe, .ref qn, .ref qk])), (qi, .inl (cI, 6, .inl gi)), (qs, .inl (cI, 6, .inl gs)), (qe, .inl (cI, 6, .inl ge)), (qn, .inl (cI, 42, .inl w3)), (qk, .inl (cI, 42, .inl k1))] := hD
        refine W.eq (g2 := F0 m 29 ls [.int r_3]) rfl ?_
        refine W.widen (k := 0) (n := 0) (Nat.le_of_ble_eq_true rfl) (Nat.le_of_ble_eq_true rfl) ?_
        refine k_top (v := nI (gN q i)) (hr_26.1.trans (by rw [gN_eq (by omega)])) ?_
        refine lv_istore (lv' := [(4, .int (nI (gN q i))), (0, .ref mo), (1, .int (gO (amF (gN q) i))), (2, .int (nI (lsZ (gN q) i))), (3, .int (nI (i + 2)))]) hx hb dX4_gearBest_29 hl (by decide) rfl (fun ls hl => ?_)
        refine lv_iload_n hx hb dX4_gearBest_31 rfl (lv_at hl 2 rfl) ?_
        refine lv_iconst (v := -1) hx hb dX4_gearBest_32 (by decide +kernel) ?_
        refine lv_icmp_eq (tgt := 45) hx hb dX4_gearBest_33 (by decide) (fun c_33 => ?_) (fun c_33 => ?_)
        · skip
          refine lv_iload_n hx hb dX4_gearBest_45 rfl (lv_at hl 4 rfl) ?_
          refine lv_istore_n (lv' := [(1, .int (nI (i + 2))), (4, .int (nI (gN q i))), (0, .ref mo), (2, .int (nI (lsZ (gN q) i))), (3, .int (nI (i + 2)))]) hx hb dX4_gearBest_46 rfl hl (by decide) rfl (fun ls hl => ?_)
          refine lv_iload hx hb dX4_gearBest_47 (lv_at hl 1 rfl) ?_
          refine lv_istore_n (lv' := [(2, .int (nI (gN q i))), (1, .int (nI (i + 2))), (4, .int (nI (gN q i))), (0, .ref mo), (3, .int (nI (i + 2)))]) hx hb dX4_gearBest_49 rfl hl (by decide) rfl (fun ls hl => ?_)
          refine lv_iinc (v := nI (i + 2 + 1)) (lv' := [(3, .int (nI (i + 2 + 1))), (2, .int (nI (gN q i))), (1, .int (nI (i + 2))), (4, .int (nI (gN q i))), (0, .ref mo)]) hx hb dX4_gearBest_50 hl (k := 4) rfl (nI_1 _) (by decide) rfl (fun ls hl => ?_)
          refine lv_goto (tgt := 10) hx hb dX4_gearBest_53 (by decide) ?_
          have e8 : amF (gN q) (i + 1) = some i := am_fst (ok := fun _ => true) (gO_no (by omega) c_33) rfl
          have e9 := lsZ_new e8
          exact ih (i + 1) w3 (by omega) (fun t ht => (hr_26.2 t ht).trans (hr_5 t ht)) (by omega) _ _ (hP.sub [0, 1, 2, 3, 4, 5] (rfl)) (hD.sub [0, 1, 2, 3, 4, 5] (by decide) (rfl)) hS _ (lv_sub hl [4, 2, 1, 0] (by rw [e8, e9]; rfl))
        · skip
          obtain ⟨b9, hb9⟩ := gO_ex c_33
          refine lv_iload hx hb dX4_gearBest_36 (lv_at hl 0 rfl) ?_
          refine lv_iload_n hx hb dX4_gearBest_38 rfl (lv_at hl 3 rfl) ?_
          refine k_cmp_lt (tgt := 45) hx hb (gN q i) (lsZ (gN q) i) rfl rfl (by have := gN_le hO i; omega) (by have := lsZ_le (gN_le hO) i; omega) dX4_gearBest_39 (by decide) (fun c_39 => ?_) (fun c_39 => ?_)
          · skip
            refine lv_iload_n hx hb dX4_gearBest_45 rfl (lv_at hl 4 rfl) ?_
            refine lv_istore_n (lv' := [(1, .int (nI (i + 2))), (4, .int (nI (gN q i))), (0, .ref mo), (2, .int (nI (lsZ (gN q) i))), (3, .int (nI (i + 2)))]) hx hb dX4_gearBest_46 rfl hl (by decide) rfl (fun ls hl => ?_)
            refine lv_iload hx hb dX4_gearBest_47 (lv_at hl 1 rfl) ?_
            refine lv_istore_n (lv' := [(2, .int (nI (gN q i))), (1, .int (nI (i + 2))), (4, .int (nI (gN q i))), (0, .ref mo), (3, .int (nI (i + 2)))]) hx hb dX4_gearBest_49 rfl hl (by decide) rfl (fun ls hl => ?_)
            refine lv_iinc (v := nI (i + 2 + 1)) (lv' := [(3, .int (nI (i + 2 + 1))), (2, .int (nI (gN q i))), (1, .int (nI (i + 2))), (4, .int (nI (gN q i))), (0, .ref mo)]) hx hb dX4_gearBest_50 hl (k := 4) rfl (nI_1 _) (by decide) rfl (fun ls hl => ?_)
            refine lv_goto (tgt := 10) hx hb dX4_gearBest_53 (by decide) ?_
            have e8 : amF (gN q) (i + 1) = some i := az_new hb9 c_39
            have e9 := lsZ_new e8
            exact ih (i + 1) w3 (by omega) (fun t ht => (hr_26.2 t ht).trans (hr_5 t ht)) (by omega) _ _ (hP.sub [0, 1, 2, 3, 4, 5] (rfl)) (hD.sub [0, 1, 2, 3, 4, 5] (by decide) (rfl)) hS _ (lv_sub hl [4, 2, 1, 0] (by rw [e8, e9]; rfl))
          · skip
            refine lv_goto (tgt := 50) hx hb dX4_gearBest_42 (by decide) ?_
            refine lv_iinc (v := nI (i + 2 + 1)) (lv' := [(3, .int (nI (i + 2 + 1))), (4, .int (nI (gN q i))), (0, .ref mo), (1, .int (gO (amF (gN q) i))), (2, .int (nI (lsZ (gN q) i)))]) hx hb dX4_gearBest_50 hl (k := 4) rfl (nI_1 _) (by decide) rfl (fun ls hl => ?_)
            refine lv_goto (tgt := 10) hx hb dX4_gearBest_53 (by decide) ?_
            have e8 : amF (gN q) (i + 1) = amF (gN q) i := az_keep hb9 c_39
            have e9 := lsZ_keep e8
            exact ih (i + 1) w3 (by omega) (fun t ht => (hr_26.2 t ht).trans (hr_5 t ht)) (by omega) _ _ (hP.sub [0, 1, 2, 3, 4, 5] (rfl)) (hD.sub [0, 1, 2, 3, 4, 5] (by decide) (rfl)) hS _ (lv_sub hl [2, 3, 4, 0] (by rw [e8, e9]; rfl))
  exact loop_2 (8 + 1) 0 w (by omega) (fun _ _ => rfl) (by omega) _ _ (hP.sub [3, 0, 1, 2, 4, 5] (rfl)) (hD.sub [3, 0, 1, 2, 4, 5] (by decide) (rfl)) hS _ (lv_sub hl [3, 2, 1, 0] (rfl))

abbrev rm_X4_bestGear : Room := { frames := 6, cells := 0, slots := 0, locals := 136 }
set_option maxHeartbeats 4000000 in
set_option maxRecDepth 100000 in
theorem c_X4_bestGear (l : Launch) (D : va_G) (cI : ClassId) (mo : Nat) (qi : Nat) (qs : Nat) (qe : Nat) (qn : Nat) (qk : Nat) (tw : Int32) (gi : Nat → Int32) (gs : Nat → Int32) (ge : Nat → Int32) (w : Nat → Int32) (q : St) (kp : Nat → Int32) (hN : rN gi gs ge w q) (hO : okS q) (hmi : stI q < 50000) : kM kri l yX4_bestGear wsX4_bestGear rm_X4_bestGear D [(cI, .int)] [.ref mo] [(mo, .inr (4, [.int tw, .int (nI (stS q)), .int (stM q), .int (nI ((stT q).length)), .ref qi, .ref qs, .ref qe, .ref qn, .ref qk])), (qi, .inl (cI, 6, .inl gi)), (qs, .inl (cI, 6, .inl gs)), (qe, .inl (cI, 6, .inl ge)), (qn, .inl (cI, 42, .inl w)), (qk, .inl (cI, 42, .inl kp))] (fun (r : Int32) (u : (Nat → Int32) × (Nat → Int32)) => r = bgS q ∧ rN gi gs ge u.1 q) (fun (u : (Nat → Int32) × (Nat → Int32)) => [(mo, .inr (4, [.int (nI 0), .int (nI (stS q)), .int (stM q), .int (nI ((stT q).length)), .ref qi, .ref qs, .ref qe, .ref qn, .ref qk])), (qi, .inl (cI, 6, .inl gi)), (qs, .inl (cI, 6, .inl gs)), (qe, .inl (cI, 6, .inl ge)), (qn, .inl (cI, 42, .inl u.1)), (qk, .inl (cI, 42, .inl u.2))]) := by
  refine k_bodyI (cc := cX4_bestGear) (maxL := 1) (by decide) rfl (Nat.le_of_ble_eq_true rfl) ?_
  intro p e ss m args below meth c A Q F hname hA hG hK hP hD hS ret ls hl
  obtain ⟨hx, hb, hml, hown, hts⟩ := id F
  have hP : va_P D vwCl [(mo, .inr (4, [.int tw, .int (nI (stS q)), .int (stM q), .int (nI ((stT q).length)), .ref qi, .ref qs, .ref qe, .ref qn, .ref qk])), (qi, .inl (cI, 6, .inl gi)), (qs, .inl (cI, 6, .inl gs)), (qe, .inl (cI, 6, .inl ge)), (qn, .inl (cI, 42, .inl w)), (qk, .inl (cI, 42, .inl kp))] ss.heap := hP
  have hD : va_D A [(mo, .inr (4, [.int tw, .int (nI (stS q)), .int (stM q), .int (nI ((stT q).length)), .ref qi, .ref qs, .ref qe, .ref qn, .ref qk])), (qi, .inl (cI, 6, .inl gi)), (qs, .inl (cI, 6, .inl gs)), (qe, .inl (cI, 6, .inl ge)), (qn, .inl (cI, 42, .inl w)), (qk, .inl (cI, 42, .inl kp))] := hD
  have hl : lv_has ls 1 [(0, .ref mo)] := hl
  refine lv_aload_n hx hb dX4_bestGear_0 rfl (lv_at hl 0 rfl) ?_
  refine lv_aload_n hx hb dX4_bestGear_1 rfl (lv_at hl 0 rfl) ?_
  refine k_callV (As := []) (rest := [.ref mo]) (wr := []) F (c_X4_gearBest l D cI mo qi qs qe qn qk tw gi gs ge w q kp hN hO hmi) gX4_bestGear_X4_gearBest rfl (nA := 0) (by decide +kernel) rfl ⟨Nat.le_of_ble_eq_true rfl, Nat.le_of_ble_eq_true rfl⟩ hK hP hD hS hA hG (ci := 4) (q0 := 0) rfl rfl rfl [0, 1, 2, 3, 4, 5] [] rfl (by decide) rfl (by decide) (by decide) [0] rfl rfl hl.1 (Nat.le_of_ble_eq_true rfl) dX4_bestGear_2 ⟨Nat.le_of_ble_eq_true rfl, Nat.le_of_ble_eq_true rfl⟩ (fun r_1 u H locs hr_2 hP hD hS => ?_)
  obtain ⟨w2, k2⟩ := u
  try dsimp only at hr_2
  have hP : va_P D vwCl [(mo, .inr (4, [.int tw, .int (nI (stS q)), .int (stM q), .int (nI ((stT q).length)), .ref qi, .ref qs, .ref qe, .ref qn, .ref qk])), (qi, .inl (cI, 6, .inl gi)), (qs, .inl (cI, 6, .inl gs)), (qe, .inl (cI, 6, .inl ge)), (qn, .inl (cI, 42, .inl w2)), (qk, .inl (cI, 42, .inl k2))] H := hP
  have hD : va_D A [(mo, .inr (4, [.int tw, .int (nI (stS q)), .int (stM q), .int (nI ((stT q).length)), .ref qi, .ref qs, .ref qe, .ref qn, .ref qk])), (qi, .inl (cI, 6, .inl gi)), (qs, .inl (cI, 6, .inl gs)), (qe, .inl (cI, 6, .inl ge)), (qn, .inl (cI, 42, .inl w2)), (qk, .inl (cI, 42, .inl k2))] := hD
  refine W.eq (g2 := F0 m 5 ls [.int r_1, .ref mo]) rfl ?_
  refine W.widen (k := 0) (n := 0) (Nat.le_of_ble_eq_true rfl) (Nat.le_of_ble_eq_true rfl) ?_
  refine k_top (v := bgS q) (hr_2.1) ?_
  refine k_callV (As := [.int (bgS q)]) (rest := []) (wr := [(qi, .inl (cI, 6, .inl gi)), (qs, .inl (cI, 6, .inl gs)), (qe, .inl (cI, 6, .inl ge)), (qn, .inl (cI, 42, .inl w2)), (qk, .inl (cI, 42, .inl k2))]) F (c_X4_ok l D cI mo qi qs qe qn qk tw (nI (stS q)) (stM q) (nI ((stT q).length)) (bgS q) ) gX4_bestGear_X4_ok rfl (nA := 1) (by decide +kernel) rfl ⟨Nat.le_of_ble_eq_true rfl, Nat.le_of_ble_eq_true rfl⟩ hK hP hD hS hA hG (ci := 4) (q0 := 0) rfl rfl rfl [0] [1, 2, 3, 4, 5] rfl (by decide) rfl (by decide) (by decide) [0] rfl rfl hl.1 (Nat.le_of_ble_eq_true rfl) dX4_bestGear_5 ⟨Nat.le_of_ble_eq_true rfl, Nat.le_of_ble_eq_true rfl⟩ (fun r_2 u H locs hr_5 hP hD hS => ?_)
  try dsimp only at hr_5
  have hP : va_P D vwCl [(qi, .inl (cI, 6, .inl gi)), (qs, .inl (cI, 6, .inl gs)), (qe, .inl (cI, 6, .inl ge)), (qn, .inl (cI, 42, .inl w2)), (qk, .inl (cI, 42, .inl k2)), (mo, .inr (4, [.int (nI 0), .int (nI (stS q)), .int (stM q), .int (nI ((stT q).length)), .ref qi, .ref qs, .ref qe, .ref qn, .ref qk]))] H := hP
  have hD : va_D A [(qi, .inl (cI, 6, .inl gi)), (qs, .inl (cI, 6, .inl gs)), (qe, .inl (cI, 6, .inl ge)), (qn, .inl (cI, 42, .inl w2)), (qk, .inl (cI, 42, .inl k2)), (mo, .inr (4, [.int (nI 0), .int (nI (stS q)), .int (stM q), .int (nI ((stT q).length)), .ref qi, .ref qs, .ref qe, .ref qn, .ref qk]))] := hD
  refine W.eq (g2 := F0 m 8 ls [.int r_2]) rfl ?_
  refine W.widen (k := 0) (n := 0) (Nat.le_of_ble_eq_true rfl) (Nat.le_of_ble_eq_true rfl) ?_
  refine k_top (v := bgS q) (hr_5) ?_
  exact ret (bgS q) ⟨w2, k2⟩ _ _ _ _ _ _ (⟨rfl, hr_2.2⟩) (hP.sub [5, 0, 1, 2, 3, 4] (rfl)) (hD.sub [5, 0, 1, 2, 3, 4] (by decide) (rfl)) hS (Nat.le_of_ble_eq_true rfl) (Nat.le_of_ble_eq_true rfl) dX4_bestGear_8

abbrev rm_X4_pushBest : Room := { frames := 5, cells := 0, slots := 0, locals := 112 }
set_option maxHeartbeats 4000000 in
set_option maxRecDepth 100000 in
theorem c_X4_pushBest (l : Launch) (D : va_G) (cI : ClassId) (mo : Nat) (qi : Nat) (qs : Nat) (qe : Nat) (qn : Nat) (qk : Nat) (tw : Int32) (gi : Nat → Int32) (gs : Nat → Int32) (ge : Nat → Int32) (w : Nat → Int32) (q : St) (kp : Nat → Int32) (hN : rN gi gs ge w q) (hO : okS q) (hmi : stI q < 50000) : kM kri l yX4_pushBest wsX4_pushBest rm_X4_pushBest D [(cI, .int)] [.ref mo] [(mo, .inr (4, [.int tw, .int (nI (stS q)), .int (stM q), .int (nI ((stT q).length)), .ref qi, .ref qs, .ref qe, .ref qn, .ref qk])), (qi, .inl (cI, 6, .inl gi)), (qs, .inl (cI, 6, .inl gs)), (qe, .inl (cI, 6, .inl ge)), (qn, .inl (cI, 42, .inl w)), (qk, .inl (cI, 42, .inl kp))] (fun (r : Int32) (u : (Nat → Int32) × (Nat → Int32)) => r = bpS q ∧ rN gi gs ge u.1 q) (fun (u : (Nat → Int32) × (Nat → Int32)) => [(mo, .inr (4, [.int tw, .int (nI (stS q)), .int (stM q), .int (nI ((stT q).length)), .ref qi, .ref qs, .ref qe, .ref qn, .ref qk])), (qi, .inl (cI, 6, .inl gi)), (qs, .inl (cI, 6, .inl gs)), (qe, .inl (cI, 6, .inl ge)), (qn, .inl (cI, 42, .inl u.1)), (qk, .inl (cI, 42, .inl u.2))]) := by
  refine k_bodyI (cc := cX4_pushBest) (maxL := 5) (by decide) rfl (Nat.le_of_ble_eq_true rfl) ?_
  intro p e ss m args below meth c A Q F hname hA hG hK hP hD hS ret ls hl
  obtain ⟨hx, hb, hml, hown, hts⟩ := id F
  have hP : va_P D vwCl [(mo, .inr (4, [.int tw, .int (nI (stS q)), .int (stM q), .int (nI ((stT q).length)), .ref qi, .ref qs, .ref qe, .ref qn, .ref qk])), (qi, .inl (cI, 6, .inl gi)), (qs, .inl (cI, 6, .inl gs)), (qe, .inl (cI, 6, .inl ge)), (qn, .inl (cI, 42, .inl w)), (qk, .inl (cI, 42, .inl kp))] ss.heap := hP
  have hD : va_D A [(mo, .inr (4, [.int tw, .int (nI (stS q)), .int (stM q), .int (nI ((stT q).length)), .ref qi, .ref qs, .ref qe, .ref qn, .ref qk])), (qi, .inl (cI, 6, .inl gi)), (qs, .inl (cI, 6, .inl gs)), (qe, .inl (cI, 6, .inl ge)), (qn, .inl (cI, 42, .inl w)), (qk, .inl (cI, 42, .inl kp))] := hD
  have hl : lv_has ls 5 [(0, .ref mo)] := hl
  have iX4 : ∀ w ∈ u_ws RX4 TX4 9, w ∈ wsX4_pushBest := by decide +kernel
  have f26 := hts (.fieldLink RX4 26 "SmallerTalkModel" "now" "[I") (by decide +kernel)
  obtain ⟨n0, n1, n2, n3, n4, n5, nB, nT⟩ := id hN
  have h12 := nB.1
  have h6 := nT.1
  refine lv_iconst (v := -1) hx hb dX4_pushBest_0 (by decide +kernel) ?_
  refine lv_istore_n (lv' := [(1, .int (-1)), (0, .ref mo)]) hx hb dX4_pushBest_1 rfl hl (by decide) rfl (fun ls hl => ?_)
  refine lv_iconst (v := nI 0) hx hb dX4_pushBest_2 (by decide +kernel) ?_
  refine lv_istore_n (lv' := [(2, .int (nI 0)), (1, .int (-1)), (0, .ref mo)]) hx hb dX4_pushBest_3 rfl hl (by decide) rfl (fun ls hl => ?_)
  refine lv_aload_n hx hb dX4_pushBest_4 rfl (lv_at hl 2 rfl) ?_
  refine k_callV (As := []) (rest := []) (wr := [(qi, .inl (cI, 6, .inl gi)), (qs, .inl (cI, 6, .inl gs)), (qe, .inl (cI, 6, .inl ge))]) F (c_X4_keep l D cI mo qi qs qe qn qk tw (nI (stS q)) (stM q) (nI ((stT q).length)) w kp ) gX4_pushBest_X4_keep rfl (nA := 0) (by decide +kernel) rfl ⟨Nat.le_of_ble_eq_true rfl, Nat.le_of_ble_eq_true rfl⟩ hK hP hD hS hA hG (ci := 4) (q0 := 0) rfl rfl rfl [0, 4, 5] [1, 2, 3] rfl (by decide) rfl (by decide) (by decide) [0] rfl rfl hl.1 (Nat.le_of_ble_eq_true rfl) dX4_pushBest_5 ⟨Nat.le_of_ble_eq_true rfl, Nat.le_of_ble_eq_true rfl⟩ (fun r_1 u H locs hr_5 hP hD hS => ?_)
  obtain ⟨k1, rfl⟩ : ∃ z, z = u := ⟨_, rfl⟩
  try dsimp only at hr_5
  have hP : va_P D vwCl [(qi, .inl (cI, 6, .inl gi)), (qs, .inl (cI, 6, .inl gs)), (qe, .inl (cI, 6, .inl ge)), (mo, .inr (4, [.int tw, .int (nI (stS q)), .int (stM q), .int (nI ((stT q).length)), .ref qi, .ref qs, .ref qe, .ref qn, .ref qk])), (qn, .inl (cI, 42, .inl w)), (qk, .inl (cI, 42, .inl k1))] H := hP
  have hD : va_D A [(qi, .inl (cI, 6, .inl gi)), (qs, .inl (cI, 6, .inl gs)), (qe, .inl (cI, 6, .inl ge)), (mo, .inr (4, [.int tw, .int (nI (stS q)), .int (stM q), .int (nI ((stT q).length)), .ref qi, .ref qs, .ref qe, .ref qn, .ref qk])), (qn, .inl (cI, 42, .inl w)), (qk, .inl (cI, 42, .inl k1))] := hD
  refine W.widen (k := 0) (n := 0) (Nat.le_of_ble_eq_true rfl) (Nat.le_of_ble_eq_true rfl) ?_
  refine lv_iconst (v := nI 0) hx hb dX4_pushBest_8 (by decide +kernel) ?_
  refine lv_istore_n (lv' := [(3, .int (nI 0)), (2, .int (nI 0)), (1, .int (-1)), (0, .ref mo)]) hx hb dX4_pushBest_9 rfl hl (by decide) rfl (fun ls hl => ?_)
  have loop_2 : ∀ (n : Nat) (i : Nat) (w1 : Nat → Int32), (i ≤ (stB q).length) → (∀ t, t < 42 → w1 t = w t) → (stB q).length - i < n → ∀ (H : Heap) (locs : List Loc), va_P D vwCl [(mo, .inr (4, [.int tw, .int (nI (stS q)), .int (stM q), .int (nI ((stT q).length)), .ref qi, .ref qs, .ref qe, .ref qn, .ref qk])), (qi, .inl (cI, 6, .inl gi)), (qs, .inl (cI, 6, .inl gs)), (qe, .inl (cI, 6, .inl ge)), (qn, .inl (cI, 42, .inl w1)), (qk, .inl (cI, 42, .inl k1))] H → va_D A [(mo, .inr (4, [.int tw, .int (nI (stS q)), .int (stM q), .int (nI ((stT q).length)), .ref qi, .ref qs, .ref qe, .ref qn, .ref qk])), (qi, .inl (cI, 6, .inl gi)), (qs, .inl (cI, 6, .inl gs)), (qe, .inl (cI, 6, .inl ge)), (qn, .inl (cI, 42, .inl w1)), (qk, .inl (cI, 42, .inl k1))] → va_S A ss.heap H locs → ∀ ls : Array Slot, lv_has ls 5 [(0, .ref mo), (1, .int (oI (amF (pN q) i))), (2, .int (nI (lsZ (pN q) i))), (3, .int (nI i))] → W p l e rm_X4_pushBest ss m args below meth c H locs 0 0 Q (F0 m 10 ls []) := by
    intro n
    induction n with
    | zero => intro i w1 hi hw9 hn; exact absurd hn (by omega)
    | succ n ih =>
      intro i w1 hi hw9 hn H locs hP hD hS ls hl
      refine lv_iload_n hx hb dX4_pushBest_10 rfl (lv_at hl 3 rfl) ?_
      refine lv_aload_n hx hb dX4_pushBest_11 rfl (lv_at hl 0 rfl) ?_
      refine va_get (D := D) (ci := 4) (v := .ref qn) (C := RX4) (T := TX4) (N := 9) hx hb hts iX4 hown hK hP 0 rfl rfl 7 (by decide) f26 (fun _ h9 => h9) rfl dX4_pushBest_12 ?_
      refine lv_iconst (v := nI 1) hx hb dX4_pushBest_15 (by decide +kernel) ?_
      refine k_iald hx hb hK hP 4 0 rfl rfl 1 (rfl) (by omega) (by decide) dX4_pushBest_16 ?_
      refine k_top (v := nI ((stB q).length)) ((hw9 1 (by omega)).trans n1) ?_
      refine k_cmp_ge (tgt := 57) hx hb i ((stB q).length) rfl rfl (by omega) (by omega) dX4_pushBest_17 (by decide) (fun c_17 => ?_) (fun c_17 => ?_)
      · skip
        obtain rfl : i = (stB q).length := by omega
        refine lv_iload_n hx hb dX4_pushBest_57 rfl (lv_at hl 1 rfl) ?_
        exact ret (oI (amF (pN q) ((stB q).length))) ⟨w1, k1⟩ _ _ _ _ _ _ (⟨rfl, rN_of hN hw9⟩) (hP.sub [0, 1, 2, 3, 4, 5] (rfl)) (hD.sub [0, 1, 2, 3, 4, 5] (by decide) (rfl)) hS (Nat.le_of_ble_eq_true rfl) (Nat.le_of_ble_eq_true rfl) dX4_pushBest_58
      · skip
        refine lv_aload_n hx hb dX4_pushBest_20 rfl (lv_at hl 0 rfl) ?_
        refine lv_iload_n hx hb dX4_pushBest_21 rfl (lv_at hl 3 rfl) ?_
        obtain ⟨-, m1, -, -, -, -, nBi, -⟩ := rN_of hN hw9
        refine k_callV (As := [.int (nI i)]) (rest := []) (wr := [(qi, .inl (cI, 6, .inl gi)), (qs, .inl (cI, 6, .inl gs)), (qe, .inl (cI, 6, .inl ge)), (qk, .inl (cI, 42, .inl k1))]) F (c_X4_toFront l D cI mo qi qs qe qn qk tw (nI (stS q)) (stM q) (nI ((stT q).length)) w1 (stB q) i nBi c_17) gX4_pushBest_X4_toFront rfl (nA := 1) (by decide +kernel) rfl ⟨Nat.le_of_ble_eq_true rfl, Nat.le_of_ble_eq_true rfl⟩ hK hP hD hS hA hG (ci := 4) (q0 := 0) rfl rfl rfl [0, 4] [1, 2, 3, 5] rfl (by decide) rfl (by decide) (by decide) [0] rfl rfl hl.1 (Nat.le_of_ble_eq_true rfl) dX4_pushBest_22 ⟨Nat.le_of_ble_eq_true rfl, Nat.le_of_ble_eq_true rfl⟩ (fun r_3 u H locs hr_22 hP hD hS => ?_)
        obtain ⟨wf, rfl⟩ : ∃ z, z = u := ⟨_, rfl⟩
        try dsimp only at hr_22
        have hP : va_P D vwCl [(qi, .inl (cI, 6, .inl gi)), (qs, .inl (cI, 6, .inl gs)), (qe, .inl (cI, 6, .inl ge)), (qk, .inl (cI, 42, .inl k1)), (mo, .inr (4, [.int tw, .int (nI (stS q)), .int (stM q), .int (nI ((stT q).length)), .ref qi, .ref qs, .ref qe, .ref qn, .ref qk])), (qn, .inl (cI, 42, .inl wf))] H := hP
        have hD : va_D A [(qi, .inl (cI, 6, .inl gi)), (qs, .inl (cI, 6, .inl gs)), (qe, .inl (cI, 6, .inl ge)), (qk, .inl (cI, 42, .inl k1)), (mo, .inr (4, [.int tw, .int (nI (stS q)), .int (stM q), .int (nI ((stT q).length)), .ref qi, .ref qs, .ref qe, .ref qn, .ref qk])), (qn, .inl (cI, 42, .inl wf))] := hD
        refine W.widen (k := 0) (n := 0) (Nat.le_of_ble_eq_true rfl) (Nat.le_of_ble_eq_true rfl) ?_
        refine lv_aload_n hx hb dX4_pushBest_25 rfl (lv_at hl 0 rfl) ?_
        refine lv_iconst (v := nI 5) hx hb dX4_pushBest_26 (by decide +kernel) ?_
        have hR3 : rN gi gs ge wf (setB q (mtf (stB q) i)) := rN_B (rN_of hN hw9) (fun t ht => hr_22.2 t (by omega)) ((hr_22.2 1 (by omega)).trans (m1.trans (by rw [mtf_len c_17]))) hr_22.1
        refine k_callV (As := [.int (nI 5)]) (rest := []) (wr := []) F (c_X4_noiseBehind l D cI mo qi qs qe qn qk tw gi gs ge wf (setB q (mtf (stB q) i)) k1 5 hR3 (okS_mtf hO c_17) hmi (by omega)) gX4_pushBest_X4_noiseBehind rfl (nA := 1) (by decide +kernel) rfl ⟨Nat.le_of_ble_eq_true rfl, Nat.le_of_ble_eq_true rfl⟩ hK hP hD hS hA hG (ci := 4) (q0 := 4) rfl rfl rfl [4, 0, 1, 2, 5, 3] [] rfl (by decide) rfl (by decide) (by decide) [0] rfl rfl hl.1 (Nat.le_of_ble_eq_true rfl) dX4_pushBest_27 ⟨Nat.le_of_ble_eq_true rfl, Nat.le_of_ble_eq_true rfl⟩ (fun r_4 u H locs hr_27 hP hD hS => ?_)
        obtain ⟨w3, rfl⟩ : ∃ z, z = u := ⟨_, rfl⟩
        try dsimp only at hr_27
        have hP : va_P D vwCl [(mo, .inr (4, [.int tw, .int (nI (stS (setB q (mtf (stB q) i)))), .int (stM (setB q (mtf (stB q) i))), .int (nI ((stT (setB q (mtf (stB q) i))).length)), .ref qi, .ref qs, .ref qe, .ref qn, .ref qk])), (qi, .inl (cI, 6, .inl gi)), (qs, .inl (cI, 6, .inl gs)), (qe, .inl (cI, 6, .inl ge)), (qn, .inl (cI, 42, .inl w3)), (qk, .inl (cI, 42, .inl k1))] H := hP
        have hD : va_D A [(mo, .inr (4, [.int tw, .int (nI (stS (setB q (mtf (stB q) i)))), .int (stM (setB q (mtf (stB q) i))), .int (nI ((stT (setB q (mtf (stB q) i))).length)), .ref qi, .ref qs, .ref qe, .ref qn, .ref qk])), (qi, .inl (cI, 6, .inl gi)), (qs, .inl (cI, 6, .inl gs)), (qe, .inl (cI, 6, .inl ge)), (qn, .inl (cI, 42, .inl w3)), (qk, .inl (cI, 42, .inl k1))] := hD
        refine W.eq (g2 := F0 m 30 ls [.int r_4]) rfl ?_
        refine W.widen (k := 0) (n := 0) (Nat.le_of_ble_eq_true rfl) (Nat.le_of_ble_eq_true rfl) ?_
        refine k_top (v := nI (pN q i)) (hr_27.1.trans (by rw [pN_eq c_17])) ?_
        refine lv_istore (lv' := [(4, .int (nI (pN q i))), (0, .ref mo), (1, .int (oI (amF (pN q) i))), (2, .int (nI (lsZ (pN q) i))), (3, .int (nI i))]) hx hb dX4_pushBest_30 hl (by decide) rfl (fun ls hl => ?_)
        refine lv_iload_n hx hb dX4_pushBest_32 rfl (lv_at hl 2 rfl) ?_
        refine lv_iconst (v := -1) hx hb dX4_pushBest_33 (by decide +kernel) ?_
        refine lv_icmp_eq (tgt := 46) hx hb dX4_pushBest_34 (by decide) (fun c_34 => ?_) (fun c_34 => ?_)
        · skip
          refine lv_iload_n hx hb dX4_pushBest_46 rfl (lv_at hl 4 rfl) ?_
          refine lv_istore_n (lv' := [(1, .int (nI i)), (4, .int (nI (pN q i))), (0, .ref mo), (2, .int (nI (lsZ (pN q) i))), (3, .int (nI i))]) hx hb dX4_pushBest_47 rfl hl (by decide) rfl (fun ls hl => ?_)
          refine lv_iload hx hb dX4_pushBest_48 (lv_at hl 1 rfl) ?_
          refine lv_istore_n (lv' := [(2, .int (nI (pN q i))), (1, .int (nI i)), (4, .int (nI (pN q i))), (0, .ref mo), (3, .int (nI i))]) hx hb dX4_pushBest_50 rfl hl (by decide) rfl (fun ls hl => ?_)
          refine lv_iinc (v := nI (i + 1)) (lv' := [(3, .int (nI (i + 1))), (2, .int (nI (pN q i))), (1, .int (nI i)), (4, .int (nI (pN q i))), (0, .ref mo)]) hx hb dX4_pushBest_51 hl (k := 4) rfl (nI_1 _) (by decide) rfl (fun ls hl => ?_)
          refine lv_goto (tgt := 10) hx hb dX4_pushBest_54 (by decide) ?_
          have e8 : amF (pN q) (i + 1) = some i := am_fst (ok := fun _ => true) (am_no (by omega) c_34) rfl
          have e9 := lsZ_new e8
          exact ih (i + 1) w3 (by omega) (fun t ht => (hr_27.2 t ht).trans (hr_5 t ht)) (by omega) _ _ (hP.sub [0, 1, 2, 3, 4, 5] (rfl)) (hD.sub [0, 1, 2, 3, 4, 5] (by decide) (rfl)) hS _ (lv_sub hl [4, 2, 1, 0] (by rw [e8, e9]; rfl))
        · skip
          obtain ⟨b9, hb9⟩ : ∃ b, amF (pN q) i = some b := am_ex c_34
          refine lv_iload hx hb dX4_pushBest_37 (lv_at hl 0 rfl) ?_
          refine lv_iload_n hx hb dX4_pushBest_39 rfl (lv_at hl 3 rfl) ?_
          refine k_cmp_lt (tgt := 46) hx hb (pN q i) (lsZ (pN q) i) rfl rfl (by have := pN_le hO (by omega) i; omega) (by have := lsZ_le (pN_le hO (by omega)) i; omega) dX4_pushBest_40 (by decide) (fun c_40 => ?_) (fun c_40 => ?_)
          · skip
            refine lv_iload_n hx hb dX4_pushBest_46 rfl (lv_at hl 4 rfl) ?_
            refine lv_istore_n (lv' := [(1, .int (nI i)), (4, .int (nI (pN q i))), (0, .ref mo), (2, .int (nI (lsZ (pN q) i))), (3, .int (nI i))]) hx hb dX4_pushBest_47 rfl hl (by decide) rfl (fun ls hl => ?_)
            refine lv_iload hx hb dX4_pushBest_48 (lv_at hl 1 rfl) ?_
            refine lv_istore_n (lv' := [(2, .int (nI (pN q i))), (1, .int (nI i)), (4, .int (nI (pN q i))), (0, .ref mo), (3, .int (nI i))]) hx hb dX4_pushBest_50 rfl hl (by decide) rfl (fun ls hl => ?_)
            refine lv_iinc (v := nI (i + 1)) (lv' := [(3, .int (nI (i + 1))), (2, .int (nI (pN q i))), (1, .int (nI i)), (4, .int (nI (pN q i))), (0, .ref mo)]) hx hb dX4_pushBest_51 hl (k := 4) rfl (nI_1 _) (by decide) rfl (fun ls hl => ?_)
            refine lv_goto (tgt := 10) hx hb dX4_pushBest_54 (by decide) ?_
            have e8 : amF (pN q) (i + 1) = some i := az_new hb9 c_40
            have e9 := lsZ_new e8
            exact ih (i + 1) w3 (by omega) (fun t ht => (hr_27.2 t ht).trans (hr_5 t ht)) (by omega) _ _ (hP.sub [0, 1, 2, 3, 4, 5] (rfl)) (hD.sub [0, 1, 2, 3, 4, 5] (by decide) (rfl)) hS _ (lv_sub hl [4, 2, 1, 0] (by rw [e8, e9]; rfl))
          · skip
            refine lv_goto (tgt := 51) hx hb dX4_pushBest_43 (by decide) ?_
            refine lv_iinc (v := nI (i + 1)) (lv' := [(3, .int (nI (i + 1))), (4, .int (nI (pN q i))), (0, .ref mo), (1, .int (oI (amF (pN q) i))), (2, .int (nI (lsZ (pN q) i)))]) hx hb dX4_pushBest_51 hl (k := 4) rfl (nI_1 _) (by decide) rfl (fun ls hl => ?_)
            refine lv_goto (tgt := 10) hx hb dX4_pushBest_54 (by decide) ?_
            have e8 : amF (pN q) (i + 1) = amF (pN q) i := az_keep hb9 c_40
            have e9 := lsZ_keep e8
            exact ih (i + 1) w3 (by omega) (fun t ht => (hr_27.2 t ht).trans (hr_5 t ht)) (by omega) _ _ (hP.sub [0, 1, 2, 3, 4, 5] (rfl)) (hD.sub [0, 1, 2, 3, 4, 5] (by decide) (rfl)) hS _ (lv_sub hl [2, 3, 4, 0] (by rw [e8, e9]; rfl))
  exact loop_2 (((stB q).length) + 1) 0 w (by omega) (fun _ _ => rfl) (by omega) _ _ (hP.sub [3, 0, 1, 2, 4, 5] (rfl)) (hD.sub [3, 0, 1, 2, 4, 5] (by decide) (rfl)) hS _ (lv_sub hl [3, 2, 1, 0] (rfl))

abbrev rm_X4_bestPush : Room := { frames := 6, cells := 0, slots := 0, locals := 136 }
set_option maxHeartbeats 4000000 in
set_option maxRecDepth 100000 in
theorem c_X4_bestPush (l : Launch) (D : va_G) (cI : ClassId) (mo : Nat) (qi : Nat) (qs : Nat) (qe : Nat) (qn : Nat) (qk : Nat) (tw : Int32) (gi : Nat → Int32) (gs : Nat → Int32) (ge : Nat → Int32) (w : Nat → Int32) (q : St) (kp : Nat → Int32) (hN : rN gi gs ge w q) (hO : okS q) (hmi : stI q < 50000) : kM kri l yX4_bestPush wsX4_bestPush rm_X4_bestPush D [(cI, .int)] [.ref mo] [(mo, .inr (4, [.int tw, .int (nI (stS q)), .int (stM q), .int (nI ((stT q).length)), .ref qi, .ref qs, .ref qe, .ref qn, .ref qk])), (qi, .inl (cI, 6, .inl gi)), (qs, .inl (cI, 6, .inl gs)), (qe, .inl (cI, 6, .inl ge)), (qn, .inl (cI, 42, .inl w)), (qk, .inl (cI, 42, .inl kp))] (fun (r : Int32) (u : (Nat → Int32) × (Nat → Int32)) => r = bpS q ∧ rN gi gs ge u.1 q) (fun (u : (Nat → Int32) × (Nat → Int32)) => [(mo, .inr (4, [.int (nI 0), .int (nI (stS q)), .int (stM q), .int (nI ((stT q).length)), .ref qi, .ref qs, .ref qe, .ref qn, .ref qk])), (qi, .inl (cI, 6, .inl gi)), (qs, .inl (cI, 6, .inl gs)), (qe, .inl (cI, 6, .inl ge)), (qn, .inl (cI, 42, .inl u.1)), (qk, .inl (cI, 42, .inl u.2))]) := by
  refine k_bodyI (cc := cX4_bestPush) (maxL := 1) (by decide) rfl (Nat.le_of_ble_eq_true rfl) ?_
  intro p e ss m args below meth c A Q F hname hA hG hK hP hD hS ret ls hl
  obtain ⟨hx, hb, hml, hown, hts⟩ := id F
  have hP : va_P D vwCl [(mo, .inr (4, [.int tw, .int (nI (stS q)), .int (stM q), .int (nI ((stT q).length)), .ref qi, .ref qs, .ref qe, .ref qn, .ref qk])), (qi, .inl (cI, 6, .inl gi)), (qs, .inl (cI, 6, .inl gs)), (qe, .inl (cI, 6, .inl ge)), (qn, .inl (cI, 42, .inl w)), (qk, .inl (cI, 42, .inl kp))] ss.heap := hP
  have hD : va_D A [(mo, .inr (4, [.int tw, .int (nI (stS q)), .int (stM q), .int (nI ((stT q).length)), .ref qi, .ref qs, .ref qe, .ref qn, .ref qk])), (qi, .inl (cI, 6, .inl gi)), (qs, .inl (cI, 6, .inl gs)), (qe, .inl (cI, 6, .inl ge)), (qn, .inl (cI, 42, .inl w)), (qk, .inl (cI, 42, .inl kp))] := hD
  have hl : lv_has ls 1 [(0, .ref mo)] := hl
  refine lv_aload_n hx hb dX4_bestPush_0 rfl (lv_at hl 0 rfl) ?_
  refine lv_aload_n hx hb dX4_bestPush_1 rfl (lv_at hl 0 rfl) ?_
  refine k_callV (As := []) (rest := [.ref mo]) (wr := []) F (c_X4_pushBest l D cI mo qi qs qe qn qk tw gi gs ge w q kp hN hO hmi) gX4_bestPush_X4_pushBest rfl (nA := 0) (by decide +kernel) rfl ⟨Nat.le_of_ble_eq_true rfl, Nat.le_of_ble_eq_true rfl⟩ hK hP hD hS hA hG (ci := 4) (q0 := 0) rfl rfl rfl [0, 1, 2, 3, 4, 5] [] rfl (by decide) rfl (by decide) (by decide) [0] rfl rfl hl.1 (Nat.le_of_ble_eq_true rfl) dX4_bestPush_2 ⟨Nat.le_of_ble_eq_true rfl, Nat.le_of_ble_eq_true rfl⟩ (fun r_1 u H locs hr_2 hP hD hS => ?_)
  obtain ⟨w2, k2⟩ := u
  try dsimp only at hr_2
  have hP : va_P D vwCl [(mo, .inr (4, [.int tw, .int (nI (stS q)), .int (stM q), .int (nI ((stT q).length)), .ref qi, .ref qs, .ref qe, .ref qn, .ref qk])), (qi, .inl (cI, 6, .inl gi)), (qs, .inl (cI, 6, .inl gs)), (qe, .inl (cI, 6, .inl ge)), (qn, .inl (cI, 42, .inl w2)), (qk, .inl (cI, 42, .inl k2))] H := hP
  have hD : va_D A [(mo, .inr (4, [.int tw, .int (nI (stS q)), .int (stM q), .int (nI ((stT q).length)), .ref qi, .ref qs, .ref qe, .ref qn, .ref qk])), (qi, .inl (cI, 6, .inl gi)), (qs, .inl (cI, 6, .inl gs)), (qe, .inl (cI, 6, .inl ge)), (qn, .inl (cI, 42, .inl w2)), (qk, .inl (cI, 42, .inl k2))] := hD
  refine W.eq (g2 := F0 m 5 ls [.int r_1, .ref mo]) rfl ?_
  refine W.widen (k := 0) (n := 0) (Nat.le_of_ble_eq_true rfl) (Nat.le_of_ble_eq_true rfl) ?_
  refine k_top (v := bpS q) (hr_2.1) ?_
  refine k_callV (As := [.int (bpS q)]) (rest := []) (wr := [(qi, .inl (cI, 6, .inl gi)), (qs, .inl (cI, 6, .inl gs)), (qe, .inl (cI, 6, .inl ge)), (qn, .inl (cI, 42, .inl w2)), (qk, .inl (cI, 42, .inl k2))]) F (c_X4_ok l D cI mo qi qs qe qn qk tw (nI (stS q)) (stM q) (nI ((stT q).length)) (bpS q) ) gX4_bestPush_X4_ok rfl (nA := 1) (by decide +kernel) rfl ⟨Nat.le_of_ble_eq_true rfl, Nat.le_of_ble_eq_true rfl⟩ hK hP hD hS hA hG (ci := 4) (q0 := 0) rfl rfl rfl [0] [1, 2, 3, 4, 5] rfl (by decide) rfl (by decide) (by decide) [0] rfl rfl hl.1 (Nat.le_of_ble_eq_true rfl) dX4_bestPush_5 ⟨Nat.le_of_ble_eq_true rfl, Nat.le_of_ble_eq_true rfl⟩ (fun r_2 u H locs hr_5 hP hD hS => ?_)
  try dsimp only at hr_5
  have hP : va_P D vwCl [(qi, .inl (cI, 6, .inl gi)), (qs, .inl (cI, 6, .inl gs)), (qe, .inl (cI, 6, .inl ge)), (qn, .inl (cI, 42, .inl w2)), (qk, .inl (cI, 42, .inl k2)), (mo, .inr (4, [.int (nI 0), .int (nI (stS q)), .int (stM q), .int (nI ((stT q).length)), .ref qi, .ref qs, .ref qe, .ref qn, .ref qk]))] H := hP
  have hD : va_D A [(qi, .inl (cI, 6, .inl gi)), (qs, .inl (cI, 6, .inl gs)), (qe, .inl (cI, 6, .inl ge)), (qn, .inl (cI, 42, .inl w2)), (qk, .inl (cI, 42, .inl k2)), (mo, .inr (4, [.int (nI 0), .int (nI (stS q)), .int (stM q), .int (nI ((stT q).length)), .ref qi, .ref qs, .ref qe, .ref qn, .ref qk]))] := hD
  refine W.eq (g2 := F0 m 8 ls [.int r_2]) rfl ?_
  refine W.widen (k := 0) (n := 0) (Nat.le_of_ble_eq_true rfl) (Nat.le_of_ble_eq_true rfl) ?_
  refine k_top (v := bpS q) (hr_5) ?_
  exact ret (bpS q) ⟨w2, k2⟩ _ _ _ _ _ _ (⟨rfl, hr_2.2⟩) (hP.sub [5, 0, 1, 2, 3, 4] (rfl)) (hD.sub [5, 0, 1, 2, 3, 4] (by decide) (rfl)) hS (Nat.le_of_ble_eq_true rfl) (Nat.le_of_ble_eq_true rfl) dX4_bestPush_8

abbrev rm_X4_pushToFront_no : Room := { frames := 2, cells := 0, slots := 0, locals := 43 }
set_option maxHeartbeats 4000000 in
set_option maxRecDepth 100000 in
theorem c_X4_pushToFront_no (l : Launch) (D : va_G) (cI : ClassId) (mo : Nat) (qi : Nat) (qs : Nat) (qe : Nat) (qn : Nat) (qk : Nat) (tw : Int32) (gi : Nat → Int32) (gs : Nat → Int32) (ge : Nat → Int32) (w : Nat → Int32) (q : St) (x : Int32) (hN : rN gi gs ge w q) (hx9 : ∀ j, j < (stB q).length → ¬ x = nI j) : kM kri l yX4_pushToFront wsX4_pushToFront rm_X4_pushToFront_no D [(cI, .int)] [.ref mo, .int x] [(mo, .inr (4, [.int tw, .int (nI (stS q)), .int (stM q), .int (nI ((stT q).length)), .ref qi, .ref qs, .ref qe, .ref qn, .ref qk])), (qi, .inl (cI, 6, .inl gi)), (qs, .inl (cI, 6, .inl gs)), (qe, .inl (cI, 6, .inl ge)), (qn, .inl (cI, 42, .inl w))] (fun (r : Int32) (u : Unit) => True) (fun (u : Unit) => [(mo, .inr (4, [.int (nI 1), .int (nI (stS q)), .int (stM q), .int (nI ((stT q).length)), .ref qi, .ref qs, .ref qe, .ref qn, .ref qk])), (qi, .inl (cI, 6, .inl gi)), (qs, .inl (cI, 6, .inl gs)), (qe, .inl (cI, 6, .inl ge)), (qn, .inl (cI, 42, .inl w))]) := by
  refine k_bodyI (cc := cX4_pushToFront) (maxL := 2) (by decide) rfl (Nat.le_of_ble_eq_true rfl) ?_
  intro p e ss m args below meth c A Q F hname hA hG hK hP hD hS ret ls hl
  obtain ⟨hx, hb, hml, hown, hts⟩ := id F
  have hP : va_P D vwCl [(mo, .inr (4, [.int tw, .int (nI (stS q)), .int (stM q), .int (nI ((stT q).length)), .ref qi, .ref qs, .ref qe, .ref qn, .ref qk])), (qi, .inl (cI, 6, .inl gi)), (qs, .inl (cI, 6, .inl gs)), (qe, .inl (cI, 6, .inl ge)), (qn, .inl (cI, 42, .inl w))] ss.heap := hP
  have hD : va_D A [(mo, .inr (4, [.int tw, .int (nI (stS q)), .int (stM q), .int (nI ((stT q).length)), .ref qi, .ref qs, .ref qe, .ref qn, .ref qk])), (qi, .inl (cI, 6, .inl gi)), (qs, .inl (cI, 6, .inl gs)), (qe, .inl (cI, 6, .inl ge)), (qn, .inl (cI, 42, .inl w))] := hD
  have hl : lv_has ls 2 [(0, .ref mo), (1, .int x)] := hl
  have iX4 : ∀ w ∈ u_ws RX4 TX4 9, w ∈ wsX4_pushToFront := by decide +kernel
  have f32 := hts (.fieldLink RX4 32 "SmallerTalkModel" "thrown" "I") (by decide +kernel)
  obtain ⟨n0, n1, n2, n3, n4, n5, nB, nT⟩ := id hN
  have h12 := nB.1
  have h6 := nT.1
  refine lv_aload_n hx hb dX4_pushToFront_0 rfl (lv_at hl 0 rfl) ?_
  refine lv_iconst (v := nI 0) hx hb dX4_pushToFront_1 (by decide +kernel) ?_
  refine va_put (D := D) (ci := 4) (v := .int (nI 0)) (ty := .int) (C := RX4) (T := TX4) (N := 9) hx hb hts iX4 tyX4 tyX4_ok nmX4 hown hK hP hD hS 0 rfl rfl 0 (by decide) f32 (fun _ h9 => h9) rfl (by decide +kernel) rfl rfl (Nat.le_of_ble_eq_true rfl) dX4_pushToFront_2 (fun H locs hP hD hS => ?_)
  have hP : va_P D vwCl [(mo, .inr (4, [.int (nI 0), .int (nI (stS q)), .int (stM q), .int (nI ((stT q).length)), .ref qi, .ref qs, .ref qe, .ref qn, .ref qk])), (qi, .inl (cI, 6, .inl gi)), (qs, .inl (cI, 6, .inl gs)), (qe, .inl (cI, 6, .inl ge)), (qn, .inl (cI, 42, .inl w))] H := hP
  have hD : va_D A [(mo, .inr (4, [.int (nI 0), .int (nI (stS q)), .int (stM q), .int (nI ((stT q).length)), .ref qi, .ref qs, .ref qe, .ref qn, .ref qk])), (qi, .inl (cI, 6, .inl gi)), (qs, .inl (cI, 6, .inl gs)), (qe, .inl (cI, 6, .inl ge)), (qn, .inl (cI, 42, .inl w))] := hD
  refine lv_aload_n hx hb dX4_pushToFront_5 rfl (lv_at hl 0 rfl) ?_
  refine lv_iload_n hx hb dX4_pushToFront_6 rfl (lv_at hl 1 rfl) ?_
  refine k_callV (As := [.int x]) (rest := []) (wr := [(qi, .inl (cI, 6, .inl gi)), (qs, .inl (cI, 6, .inl gs)), (qe, .inl (cI, 6, .inl ge))]) F (c_X4_isPlace_no l D cI mo qi qs qe qn qk (nI 0) (nI (stS q)) (stM q) (nI ((stT q).length)) w ((stB q).length) x n1 h12 hx9) gX4_pushToFront_X4_isPlace rfl (nA := 1) (by decide +kernel) rfl ⟨Nat.le_of_ble_eq_true rfl, Nat.le_of_ble_eq_true rfl⟩ hK hP hD hS hA hG (ci := 4) (q0 := 0) rfl rfl rfl [0, 4] [1, 2, 3] rfl (by decide) rfl (by decide) (by decide) [0] rfl rfl hl.1 (Nat.le_of_ble_eq_true rfl) dX4_pushToFront_7 ⟨Nat.le_of_ble_eq_true rfl, Nat.le_of_ble_eq_true rfl⟩ (fun r_1 u H locs hr_7 hP hD hS => ?_)
  try dsimp only at hr_7
  have hP : va_P D vwCl [(qi, .inl (cI, 6, .inl gi)), (qs, .inl (cI, 6, .inl gs)), (qe, .inl (cI, 6, .inl ge)), (mo, .inr (4, [.int (nI 0), .int (nI (stS q)), .int (stM q), .int (nI ((stT q).length)), .ref qi, .ref qs, .ref qe, .ref qn, .ref qk])), (qn, .inl (cI, 42, .inl w))] H := hP
  have hD : va_D A [(qi, .inl (cI, 6, .inl gi)), (qs, .inl (cI, 6, .inl gs)), (qe, .inl (cI, 6, .inl ge)), (mo, .inr (4, [.int (nI 0), .int (nI (stS q)), .int (stM q), .int (nI ((stT q).length)), .ref qi, .ref qs, .ref qe, .ref qn, .ref qk])), (qn, .inl (cI, 42, .inl w))] := hD
  refine W.eq (g2 := F0 m 10 ls [.int r_1]) rfl ?_
  refine W.widen (k := 0) (n := 0) (Nat.le_of_ble_eq_true rfl) (Nat.le_of_ble_eq_true rfl) ?_
  refine k_top (v := nI 0) (hr_7) ?_
  refine k_if_ne (tgt := 19) hx hb 0 rfl (by omega) dX4_pushToFront_10 (by decide) (fun c_10 => ?_) (fun c_10 => ?_)
  · exact absurd c_10 (by omega)
  · skip
    refine lv_aload_n hx hb dX4_pushToFront_13 rfl (lv_at hl 0 rfl) ?_
    refine lv_iconst (v := nI 1) hx hb dX4_pushToFront_14 (by decide +kernel) ?_
    refine k_callV (As := [.int (nI 1)]) (rest := []) (wr := [(qi, .inl (cI, 6, .inl gi)), (qs, .inl (cI, 6, .inl gs)), (qe, .inl (cI, 6, .inl ge)), (qn, .inl (cI, 42, .inl w))]) F (c_X4_no l D cI mo qi qs qe qn qk (nI 0) (nI (stS q)) (stM q) (nI ((stT q).length)) (nI 1) ) gX4_pushToFront_X4_no rfl (nA := 1) (by decide +kernel) rfl ⟨Nat.le_of_ble_eq_true rfl, Nat.le_of_ble_eq_true rfl⟩ hK hP hD hS hA hG (ci := 4) (q0 := 3) rfl rfl rfl [3] [0, 1, 2, 4] rfl (by decide) rfl (by decide) (by decide) [0] rfl rfl hl.1 (Nat.le_of_ble_eq_true rfl) dX4_pushToFront_15 ⟨Nat.le_of_ble_eq_true rfl, Nat.le_of_ble_eq_true rfl⟩ (fun r_2 u H locs hr_15 hP hD hS => ?_)
    try dsimp only at hr_15
    have hP : va_P D vwCl [(qi, .inl (cI, 6, .inl gi)), (qs, .inl (cI, 6, .inl gs)), (qe, .inl (cI, 6, .inl ge)), (qn, .inl (cI, 42, .inl w)), (mo, .inr (4, [.int (nI 1), .int (nI (stS q)), .int (stM q), .int (nI ((stT q).length)), .ref qi, .ref qs, .ref qe, .ref qn, .ref qk]))] H := hP
    have hD : va_D A [(qi, .inl (cI, 6, .inl gi)), (qs, .inl (cI, 6, .inl gs)), (qe, .inl (cI, 6, .inl ge)), (qn, .inl (cI, 42, .inl w)), (mo, .inr (4, [.int (nI 1), .int (nI (stS q)), .int (stM q), .int (nI ((stT q).length)), .ref qi, .ref qs, .ref qe, .ref qn, .ref qk]))] := hD
    refine W.eq (g2 := F0 m 18 ls [.int r_2]) rfl ?_
    refine W.widen (k := 0) (n := 0) (Nat.le_of_ble_eq_true rfl) (Nat.le_of_ble_eq_true rfl) ?_
    exact ret r_2 () _ _ _ _ _ _ (trivial) (hP.sub [4, 0, 1, 2, 3] (rfl)) (hD.sub [4, 0, 1, 2, 3] (by decide) (rfl)) hS (Nat.le_of_ble_eq_true rfl) (Nat.le_of_ble_eq_true rfl) dX4_pushToFront_18

abbrev rm_X4_drop_no : Room := { frames := 2, cells := 0, slots := 0, locals := 43 }
set_option maxHeartbeats 4000000 in
set_option maxRecDepth 100000 in
theorem c_X4_drop_no (l : Launch) (D : va_G) (cI : ClassId) (mo : Nat) (qi : Nat) (qs : Nat) (qe : Nat) (qn : Nat) (qk : Nat) (tw : Int32) (gi : Nat → Int32) (gs : Nat → Int32) (ge : Nat → Int32) (w : Nat → Int32) (q : St) (x : Int32) (hN : rN gi gs ge w q) (hx9 : ∀ j, j < (stB q).length → ¬ x = nI j) : kM kri l yX4_drop wsX4_drop rm_X4_drop_no D [(cI, .int)] [.ref mo, .int x] [(mo, .inr (4, [.int tw, .int (nI (stS q)), .int (stM q), .int (nI ((stT q).length)), .ref qi, .ref qs, .ref qe, .ref qn, .ref qk])), (qi, .inl (cI, 6, .inl gi)), (qs, .inl (cI, 6, .inl gs)), (qe, .inl (cI, 6, .inl ge)), (qn, .inl (cI, 42, .inl w))] (fun (r : Int32) (u : Unit) => True) (fun (u : Unit) => [(mo, .inr (4, [.int (nI 1), .int (nI (stS q)), .int (stM q), .int (nI ((stT q).length)), .ref qi, .ref qs, .ref qe, .ref qn, .ref qk])), (qi, .inl (cI, 6, .inl gi)), (qs, .inl (cI, 6, .inl gs)), (qe, .inl (cI, 6, .inl ge)), (qn, .inl (cI, 42, .inl w))]) := by
  refine k_bodyI (cc := cX4_drop) (maxL := 3) (by decide) rfl (Nat.le_of_ble_eq_true rfl) ?_
  intro p e ss m args below meth c A Q F hname hA hG hK hP hD hS ret ls hl
  obtain ⟨hx, hb, hml, hown, hts⟩ := id F
  have hP : va_P D vwCl [(mo, .inr (4, [.int tw, .int (nI (stS q)), .int (stM q), .int (nI ((stT q).length)), .ref qi, .ref qs, .ref qe, .ref qn, .ref qk])), (qi, .inl (cI, 6, .inl gi)), (qs, .inl (cI, 6, .inl gs)), (qe, .inl (cI, 6, .inl ge)), (qn, .inl (cI, 42, .inl w))] ss.heap := hP
  have hD : va_D A [(mo, .inr (4, [.int tw, .int (nI (stS q)), .int (stM q), .int (nI ((stT q).length)), .ref qi, .ref qs, .ref qe, .ref qn, .ref qk])), (qi, .inl (cI, 6, .inl gi)), (qs, .inl (cI, 6, .inl gs)), (qe, .inl (cI, 6, .inl ge)), (qn, .inl (cI, 42, .inl w))] := hD
  have hl : lv_has ls 3 [(0, .ref mo), (1, .int x)] := hl
  have iX4 : ∀ w ∈ u_ws RX4 TX4 9, w ∈ wsX4_drop := by decide +kernel
  have f32 := hts (.fieldLink RX4 32 "SmallerTalkModel" "thrown" "I") (by decide +kernel)
  obtain ⟨n0, n1, n2, n3, n4, n5, nB, nT⟩ := id hN
  have h12 := nB.1
  have h6 := nT.1
  refine lv_aload_n hx hb dX4_drop_0 rfl (lv_at hl 0 rfl) ?_
  refine lv_iconst (v := nI 0) hx hb dX4_drop_1 (by decide +kernel) ?_
  refine va_put (D := D) (ci := 4) (v := .int (nI 0)) (ty := .int) (C := RX4) (T := TX4) (N := 9) hx hb hts iX4 tyX4 tyX4_ok nmX4 hown hK hP hD hS 0 rfl rfl 0 (by decide) f32 (fun _ h9 => h9) rfl (by decide +kernel) rfl rfl (Nat.le_of_ble_eq_true rfl) dX4_drop_2 (fun H locs hP hD hS => ?_)
  have hP : va_P D vwCl [(mo, .inr (4, [.int (nI 0), .int (nI (stS q)), .int (stM q), .int (nI ((stT q).length)), .ref qi, .ref qs, .ref qe, .ref qn, .ref qk])), (qi, .inl (cI, 6, .inl gi)), (qs, .inl (cI, 6, .inl gs)), (qe, .inl (cI, 6, .inl ge)), (qn, .inl (cI, 42, .inl w))] H := hP
  have hD : va_D A [(mo, .inr (4, [.int (nI 0), .int (nI (stS q)), .int (stM q), .int (nI ((stT q).length)), .ref qi, .ref qs, .ref qe, .ref qn, .ref qk])), (qi, .inl (cI, 6, .inl gi)), (qs, .inl (cI, 6, .inl gs)), (qe, .inl (cI, 6, .inl ge)), (qn, .inl (cI, 42, .inl w))] := hD
  refine lv_aload_n hx hb dX4_drop_5 rfl (lv_at hl 0 rfl) ?_
  refine lv_iload_n hx hb dX4_drop_6 rfl (lv_at hl 1 rfl) ?_
  refine k_callV (As := [.int x]) (rest := []) (wr := [(qi, .inl (cI, 6, .inl gi)), (qs, .inl (cI, 6, .inl gs)), (qe, .inl (cI, 6, .inl ge))]) F (c_X4_isPlace_no l D cI mo qi qs qe qn qk (nI 0) (nI (stS q)) (stM q) (nI ((stT q).length)) w ((stB q).length) x n1 h12 hx9) gX4_drop_X4_isPlace rfl (nA := 1) (by decide +kernel) rfl ⟨Nat.le_of_ble_eq_true rfl, Nat.le_of_ble_eq_true rfl⟩ hK hP hD hS hA hG (ci := 4) (q0 := 0) rfl rfl rfl [0, 4] [1, 2, 3] rfl (by decide) rfl (by decide) (by decide) [0] rfl rfl hl.1 (Nat.le_of_ble_eq_true rfl) dX4_drop_7 ⟨Nat.le_of_ble_eq_true rfl, Nat.le_of_ble_eq_true rfl⟩ (fun r_1 u H locs hr_7 hP hD hS => ?_)
  try dsimp only at hr_7
  have hP : va_P D vwCl [(qi, .inl (cI, 6, .inl gi)), (qs, .inl (cI, 6, .inl gs)), (qe, .inl (cI, 6, .inl ge)), (mo, .inr (4, [.int (nI 0), .int (nI (stS q)), .int (stM q), .int (nI ((stT q).length)), .ref qi, .ref qs, .ref qe, .ref qn, .ref qk])), (qn, .inl (cI, 42, .inl w))] H := hP
  have hD : va_D A [(qi, .inl (cI, 6, .inl gi)), (qs, .inl (cI, 6, .inl gs)), (qe, .inl (cI, 6, .inl ge)), (mo, .inr (4, [.int (nI 0), .int (nI (stS q)), .int (stM q), .int (nI ((stT q).length)), .ref qi, .ref qs, .ref qe, .ref qn, .ref qk])), (qn, .inl (cI, 42, .inl w))] := hD
  refine W.eq (g2 := F0 m 10 ls [.int r_1]) rfl ?_
  refine W.widen (k := 0) (n := 0) (Nat.le_of_ble_eq_true rfl) (Nat.le_of_ble_eq_true rfl) ?_
  refine k_top (v := nI 0) (hr_7) ?_
  refine k_if_ne (tgt := 19) hx hb 0 rfl (by omega) dX4_drop_10 (by decide) (fun c_10 => ?_) (fun c_10 => ?_)
  · exact absurd c_10 (by omega)
  · skip
    refine lv_aload_n hx hb dX4_drop_13 rfl (lv_at hl 0 rfl) ?_
    refine lv_iconst (v := nI 1) hx hb dX4_drop_14 (by decide +kernel) ?_
    refine k_callV (As := [.int (nI 1)]) (rest := []) (wr := [(qi, .inl (cI, 6, .inl gi)), (qs, .inl (cI, 6, .inl gs)), (qe, .inl (cI, 6, .inl ge)), (qn, .inl (cI, 42, .inl w))]) F (c_X4_no l D cI mo qi qs qe qn qk (nI 0) (nI (stS q)) (stM q) (nI ((stT q).length)) (nI 1) ) gX4_drop_X4_no rfl (nA := 1) (by decide +kernel) rfl ⟨Nat.le_of_ble_eq_true rfl, Nat.le_of_ble_eq_true rfl⟩ hK hP hD hS hA hG (ci := 4) (q0 := 3) rfl rfl rfl [3] [0, 1, 2, 4] rfl (by decide) rfl (by decide) (by decide) [0] rfl rfl hl.1 (Nat.le_of_ble_eq_true rfl) dX4_drop_15 ⟨Nat.le_of_ble_eq_true rfl, Nat.le_of_ble_eq_true rfl⟩ (fun r_2 u H locs hr_15 hP hD hS => ?_)
    try dsimp only at hr_15
    have hP : va_P D vwCl [(qi, .inl (cI, 6, .inl gi)), (qs, .inl (cI, 6, .inl gs)), (qe, .inl (cI, 6, .inl ge)), (qn, .inl (cI, 42, .inl w)), (mo, .inr (4, [.int (nI 1), .int (nI (stS q)), .int (stM q), .int (nI ((stT q).length)), .ref qi, .ref qs, .ref qe, .ref qn, .ref qk]))] H := hP
    have hD : va_D A [(qi, .inl (cI, 6, .inl gi)), (qs, .inl (cI, 6, .inl gs)), (qe, .inl (cI, 6, .inl ge)), (qn, .inl (cI, 42, .inl w)), (mo, .inr (4, [.int (nI 1), .int (nI (stS q)), .int (stM q), .int (nI ((stT q).length)), .ref qi, .ref qs, .ref qe, .ref qn, .ref qk]))] := hD
    refine W.eq (g2 := F0 m 18 ls [.int r_2]) rfl ?_
    refine W.widen (k := 0) (n := 0) (Nat.le_of_ble_eq_true rfl) (Nat.le_of_ble_eq_true rfl) ?_
    exact ret r_2 () _ _ _ _ _ _ (trivial) (hP.sub [4, 0, 1, 2, 3] (rfl)) (hD.sub [4, 0, 1, 2, 3] (by decide) (rfl)) hS (Nat.le_of_ble_eq_true rfl) (Nat.le_of_ble_eq_true rfl) dX4_drop_18

abbrev rm_X4_sizeAt_no : Room := { frames := 2, cells := 0, slots := 0, locals := 43 }
set_option maxHeartbeats 4000000 in
set_option maxRecDepth 100000 in
theorem c_X4_sizeAt_no (l : Launch) (D : va_G) (cI : ClassId) (mo : Nat) (qi : Nat) (qs : Nat) (qe : Nat) (qn : Nat) (qk : Nat) (tw : Int32) (gi : Nat → Int32) (gs : Nat → Int32) (ge : Nat → Int32) (w : Nat → Int32) (q : St) (x : Int32) (hN : rN gi gs ge w q) (hx9 : ∀ j, j < (stB q).length → ¬ x = nI j) : kM kri l yX4_sizeAt wsX4_sizeAt rm_X4_sizeAt_no D [(cI, .int)] [.ref mo, .int x] [(mo, .inr (4, [.int tw, .int (nI (stS q)), .int (stM q), .int (nI ((stT q).length)), .ref qi, .ref qs, .ref qe, .ref qn, .ref qk])), (qi, .inl (cI, 6, .inl gi)), (qs, .inl (cI, 6, .inl gs)), (qe, .inl (cI, 6, .inl ge)), (qn, .inl (cI, 42, .inl w))] (fun (r : Int32) (u : Unit) => True) (fun (u : Unit) => [(mo, .inr (4, [.int (nI 1), .int (nI (stS q)), .int (stM q), .int (nI ((stT q).length)), .ref qi, .ref qs, .ref qe, .ref qn, .ref qk])), (qi, .inl (cI, 6, .inl gi)), (qs, .inl (cI, 6, .inl gs)), (qe, .inl (cI, 6, .inl ge)), (qn, .inl (cI, 42, .inl w))]) := by
  refine k_bodyI (cc := cX4_sizeAt) (maxL := 2) (by decide) rfl (Nat.le_of_ble_eq_true rfl) ?_
  intro p e ss m args below meth c A Q F hname hA hG hK hP hD hS ret ls hl
  obtain ⟨hx, hb, hml, hown, hts⟩ := id F
  have hP : va_P D vwCl [(mo, .inr (4, [.int tw, .int (nI (stS q)), .int (stM q), .int (nI ((stT q).length)), .ref qi, .ref qs, .ref qe, .ref qn, .ref qk])), (qi, .inl (cI, 6, .inl gi)), (qs, .inl (cI, 6, .inl gs)), (qe, .inl (cI, 6, .inl ge)), (qn, .inl (cI, 42, .inl w))] ss.heap := hP
  have hD : va_D A [(mo, .inr (4, [.int tw, .int (nI (stS q)), .int (stM q), .int (nI ((stT q).length)), .ref qi, .ref qs, .ref qe, .ref qn, .ref qk])), (qi, .inl (cI, 6, .inl gi)), (qs, .inl (cI, 6, .inl gs)), (qe, .inl (cI, 6, .inl ge)), (qn, .inl (cI, 42, .inl w))] := hD
  have hl : lv_has ls 2 [(0, .ref mo), (1, .int x)] := hl
  have iX4 : ∀ w ∈ u_ws RX4 TX4 9, w ∈ wsX4_sizeAt := by decide +kernel
  have f32 := hts (.fieldLink RX4 32 "SmallerTalkModel" "thrown" "I") (by decide +kernel)
  obtain ⟨n0, n1, n2, n3, n4, n5, nB, nT⟩ := id hN
  have h12 := nB.1
  have h6 := nT.1
  refine lv_aload_n hx hb dX4_sizeAt_0 rfl (lv_at hl 0 rfl) ?_
  refine lv_iconst (v := nI 0) hx hb dX4_sizeAt_1 (by decide +kernel) ?_
  refine va_put (D := D) (ci := 4) (v := .int (nI 0)) (ty := .int) (C := RX4) (T := TX4) (N := 9) hx hb hts iX4 tyX4 tyX4_ok nmX4 hown hK hP hD hS 0 rfl rfl 0 (by decide) f32 (fun _ h9 => h9) rfl (by decide +kernel) rfl rfl (Nat.le_of_ble_eq_true rfl) dX4_sizeAt_2 (fun H locs hP hD hS => ?_)
  have hP : va_P D vwCl [(mo, .inr (4, [.int (nI 0), .int (nI (stS q)), .int (stM q), .int (nI ((stT q).length)), .ref qi, .ref qs, .ref qe, .ref qn, .ref qk])), (qi, .inl (cI, 6, .inl gi)), (qs, .inl (cI, 6, .inl gs)), (qe, .inl (cI, 6, .inl ge)), (qn, .inl (cI, 42, .inl w))] H := hP
  have hD : va_D A [(mo, .inr (4, [.int (nI 0), .int (nI (stS q)), .int (stM q), .int (nI ((stT q).length)), .ref qi, .ref qs, .ref qe, .ref qn, .ref qk])), (qi, .inl (cI, 6, .inl gi)), (qs, .inl (cI, 6, .inl gs)), (qe, .inl (cI, 6, .inl ge)), (qn, .inl (cI, 42, .inl w))] := hD
  refine lv_aload_n hx hb dX4_sizeAt_5 rfl (lv_at hl 0 rfl) ?_
  refine lv_iload_n hx hb dX4_sizeAt_6 rfl (lv_at hl 1 rfl) ?_
  refine k_callV (As := [.int x]) (rest := []) (wr := [(qi, .inl (cI, 6, .inl gi)), (qs, .inl (cI, 6, .inl gs)), (qe, .inl (cI, 6, .inl ge))]) F (c_X4_isPlace_no l D cI mo qi qs qe qn qk (nI 0) (nI (stS q)) (stM q) (nI ((stT q).length)) w ((stB q).length) x n1 h12 hx9) gX4_sizeAt_X4_isPlace rfl (nA := 1) (by decide +kernel) rfl ⟨Nat.le_of_ble_eq_true rfl, Nat.le_of_ble_eq_true rfl⟩ hK hP hD hS hA hG (ci := 4) (q0 := 0) rfl rfl rfl [0, 4] [1, 2, 3] rfl (by decide) rfl (by decide) (by decide) [0] rfl rfl hl.1 (Nat.le_of_ble_eq_true rfl) dX4_sizeAt_7 ⟨Nat.le_of_ble_eq_true rfl, Nat.le_of_ble_eq_true rfl⟩ (fun r_1 u H locs hr_7 hP hD hS => ?_)
  try dsimp only at hr_7
  have hP : va_P D vwCl [(qi, .inl (cI, 6, .inl gi)), (qs, .inl (cI, 6, .inl gs)), (qe, .inl (cI, 6, .inl ge)), (mo, .inr (4, [.int (nI 0), .int (nI (stS q)), .int (stM q), .int (nI ((stT q).length)), .ref qi, .ref qs, .ref qe, .ref qn, .ref qk])), (qn, .inl (cI, 42, .inl w))] H := hP
  have hD : va_D A [(qi, .inl (cI, 6, .inl gi)), (qs, .inl (cI, 6, .inl gs)), (qe, .inl (cI, 6, .inl ge)), (mo, .inr (4, [.int (nI 0), .int (nI (stS q)), .int (stM q), .int (nI ((stT q).length)), .ref qi, .ref qs, .ref qe, .ref qn, .ref qk])), (qn, .inl (cI, 42, .inl w))] := hD
  refine W.eq (g2 := F0 m 10 ls [.int r_1]) rfl ?_
  refine W.widen (k := 0) (n := 0) (Nat.le_of_ble_eq_true rfl) (Nat.le_of_ble_eq_true rfl) ?_
  refine k_top (v := nI 0) (hr_7) ?_
  refine k_if_eq (tgt := 25) hx hb 0 rfl (by omega) dX4_sizeAt_10 (by decide) (fun c_10 => ?_) (fun c_10 => ?_)
  · skip
    refine lv_aload_n hx hb dX4_sizeAt_25 rfl (lv_at hl 0 rfl) ?_
    refine lv_iconst (v := nI 1) hx hb dX4_sizeAt_26 (by decide +kernel) ?_
    refine k_callV (As := [.int (nI 1)]) (rest := []) (wr := [(qi, .inl (cI, 6, .inl gi)), (qs, .inl (cI, 6, .inl gs)), (qe, .inl (cI, 6, .inl ge)), (qn, .inl (cI, 42, .inl w))]) F (c_X4_no l D cI mo qi qs qe qn qk (nI 0) (nI (stS q)) (stM q) (nI ((stT q).length)) (nI 1) ) gX4_sizeAt_X4_no rfl (nA := 1) (by decide +kernel) rfl ⟨Nat.le_of_ble_eq_true rfl, Nat.le_of_ble_eq_true rfl⟩ hK hP hD hS hA hG (ci := 4) (q0 := 3) rfl rfl rfl [3] [0, 1, 2, 4] rfl (by decide) rfl (by decide) (by decide) [0] rfl rfl hl.1 (Nat.le_of_ble_eq_true rfl) dX4_sizeAt_27 ⟨Nat.le_of_ble_eq_true rfl, Nat.le_of_ble_eq_true rfl⟩ (fun r_2 u H locs hr_27 hP hD hS => ?_)
    try dsimp only at hr_27
    have hP : va_P D vwCl [(qi, .inl (cI, 6, .inl gi)), (qs, .inl (cI, 6, .inl gs)), (qe, .inl (cI, 6, .inl ge)), (qn, .inl (cI, 42, .inl w)), (mo, .inr (4, [.int (nI 1), .int (nI (stS q)), .int (stM q), .int (nI ((stT q).length)), .ref qi, .ref qs, .ref qe, .ref qn, .ref qk]))] H := hP
    have hD : va_D A [(qi, .inl (cI, 6, .inl gi)), (qs, .inl (cI, 6, .inl gs)), (qe, .inl (cI, 6, .inl ge)), (qn, .inl (cI, 42, .inl w)), (mo, .inr (4, [.int (nI 1), .int (nI (stS q)), .int (stM q), .int (nI ((stT q).length)), .ref qi, .ref qs, .ref qe, .ref qn, .ref qk]))] := hD
    refine W.eq (g2 := F0 m 30 ls [.int r_2]) rfl ?_
    refine W.widen (k := 0) (n := 0) (Nat.le_of_ble_eq_true rfl) (Nat.le_of_ble_eq_true rfl) ?_
    exact ret r_2 () _ _ _ _ _ _ (trivial) (hP.sub [4, 0, 1, 2, 3] (rfl)) (hD.sub [4, 0, 1, 2, 3] (by decide) (rfl)) hS (Nat.le_of_ble_eq_true rfl) (Nat.le_of_ble_eq_true rfl) dX4_sizeAt_30
  · exact absurd c_10 (by omega)

abbrev rm_X4_kindAt_no : Room := { frames := 2, cells := 0, slots := 0, locals := 43 }
set_option maxHeartbeats 4000000 in
set_option maxRecDepth 100000 in
theorem c_X4_kindAt_no (l : Launch) (D : va_G) (cI : ClassId) (mo : Nat) (qi : Nat) (qs : Nat) (qe : Nat) (qn : Nat) (qk : Nat) (tw : Int32) (gi : Nat → Int32) (gs : Nat → Int32) (ge : Nat → Int32) (w : Nat → Int32) (q : St) (x : Int32) (hN : rN gi gs ge w q) (hx9 : ∀ j, j < (stB q).length → ¬ x = nI j) : kM kri l yX4_kindAt wsX4_kindAt rm_X4_kindAt_no D [(cI, .int)] [.ref mo, .int x] [(mo, .inr (4, [.int tw, .int (nI (stS q)), .int (stM q), .int (nI ((stT q).length)), .ref qi, .ref qs, .ref qe, .ref qn, .ref qk])), (qi, .inl (cI, 6, .inl gi)), (qs, .inl (cI, 6, .inl gs)), (qe, .inl (cI, 6, .inl ge)), (qn, .inl (cI, 42, .inl w))] (fun (r : Int32) (u : Unit) => True) (fun (u : Unit) => [(mo, .inr (4, [.int (nI 1), .int (nI (stS q)), .int (stM q), .int (nI ((stT q).length)), .ref qi, .ref qs, .ref qe, .ref qn, .ref qk])), (qi, .inl (cI, 6, .inl gi)), (qs, .inl (cI, 6, .inl gs)), (qe, .inl (cI, 6, .inl ge)), (qn, .inl (cI, 42, .inl w))]) := by
  refine k_bodyI (cc := cX4_kindAt) (maxL := 2) (by decide) rfl (Nat.le_of_ble_eq_true rfl) ?_
  intro p e ss m args below meth c A Q F hname hA hG hK hP hD hS ret ls hl
  obtain ⟨hx, hb, hml, hown, hts⟩ := id F
  have hP : va_P D vwCl [(mo, .inr (4, [.int tw, .int (nI (stS q)), .int (stM q), .int (nI ((stT q).length)), .ref qi, .ref qs, .ref qe, .ref qn, .ref qk])), (qi, .inl (cI, 6, .inl gi)), (qs, .inl (cI, 6, .inl gs)), (qe, .inl (cI, 6, .inl ge)), (qn, .inl (cI, 42, .inl w))] ss.heap := hP
  have hD : va_D A [(mo, .inr (4, [.int tw, .int (nI (stS q)), .int (stM q), .int (nI ((stT q).length)), .ref qi, .ref qs, .ref qe, .ref qn, .ref qk])), (qi, .inl (cI, 6, .inl gi)), (qs, .inl (cI, 6, .inl gs)), (qe, .inl (cI, 6, .inl ge)), (qn, .inl (cI, 42, .inl w))] := hD
  have hl : lv_has ls 2 [(0, .ref mo), (1, .int x)] := hl
  have iX4 : ∀ w ∈ u_ws RX4 TX4 9, w ∈ wsX4_kindAt := by decide +kernel
  have f32 := hts (.fieldLink RX4 32 "SmallerTalkModel" "thrown" "I") (by decide +kernel)
  obtain ⟨n0, n1, n2, n3, n4, n5, nB, nT⟩ := id hN
  have h12 := nB.1
  have h6 := nT.1
  refine lv_aload_n hx hb dX4_kindAt_0 rfl (lv_at hl 0 rfl) ?_
  refine lv_iconst (v := nI 0) hx hb dX4_kindAt_1 (by decide +kernel) ?_
  refine va_put (D := D) (ci := 4) (v := .int (nI 0)) (ty := .int) (C := RX4) (T := TX4) (N := 9) hx hb hts iX4 tyX4 tyX4_ok nmX4 hown hK hP hD hS 0 rfl rfl 0 (by decide) f32 (fun _ h9 => h9) rfl (by decide +kernel) rfl rfl (Nat.le_of_ble_eq_true rfl) dX4_kindAt_2 (fun H locs hP hD hS => ?_)
  have hP : va_P D vwCl [(mo, .inr (4, [.int (nI 0), .int (nI (stS q)), .int (stM q), .int (nI ((stT q).length)), .ref qi, .ref qs, .ref qe, .ref qn, .ref qk])), (qi, .inl (cI, 6, .inl gi)), (qs, .inl (cI, 6, .inl gs)), (qe, .inl (cI, 6, .inl ge)), (qn, .inl (cI, 42, .inl w))] H := hP
  have hD : va_D A [(mo, .inr (4, [.int (nI 0), .int (nI (stS q)), .int (stM q), .int (nI ((stT q).length)), .ref qi, .ref qs, .ref qe, .ref qn, .ref qk])), (qi, .inl (cI, 6, .inl gi)), (qs, .inl (cI, 6, .inl gs)), (qe, .inl (cI, 6, .inl ge)), (qn, .inl (cI, 42, .inl w))] := hD
  refine lv_aload_n hx hb dX4_kindAt_5 rfl (lv_at hl 0 rfl) ?_
  refine lv_iload_n hx hb dX4_kindAt_6 rfl (lv_at hl 1 rfl) ?_
  refine k_callV (As := [.int x]) (rest := []) (wr := [(qi, .inl (cI, 6, .inl gi)), (qs, .inl (cI, 6, .inl gs)), (qe, .inl (cI, 6, .inl ge))]) F (c_X4_isPlace_no l D cI mo qi qs qe qn qk (nI 0) (nI (stS q)) (stM q) (nI ((stT q).length)) w ((stB q).length) x n1 h12 hx9) gX4_kindAt_X4_isPlace rfl (nA := 1) (by decide +kernel) rfl ⟨Nat.le_of_ble_eq_true rfl, Nat.le_of_ble_eq_true rfl⟩ hK hP hD hS hA hG (ci := 4) (q0 := 0) rfl rfl rfl [0, 4] [1, 2, 3] rfl (by decide) rfl (by decide) (by decide) [0] rfl rfl hl.1 (Nat.le_of_ble_eq_true rfl) dX4_kindAt_7 ⟨Nat.le_of_ble_eq_true rfl, Nat.le_of_ble_eq_true rfl⟩ (fun r_1 u H locs hr_7 hP hD hS => ?_)
  try dsimp only at hr_7
  have hP : va_P D vwCl [(qi, .inl (cI, 6, .inl gi)), (qs, .inl (cI, 6, .inl gs)), (qe, .inl (cI, 6, .inl ge)), (mo, .inr (4, [.int (nI 0), .int (nI (stS q)), .int (stM q), .int (nI ((stT q).length)), .ref qi, .ref qs, .ref qe, .ref qn, .ref qk])), (qn, .inl (cI, 42, .inl w))] H := hP
  have hD : va_D A [(qi, .inl (cI, 6, .inl gi)), (qs, .inl (cI, 6, .inl gs)), (qe, .inl (cI, 6, .inl ge)), (mo, .inr (4, [.int (nI 0), .int (nI (stS q)), .int (stM q), .int (nI ((stT q).length)), .ref qi, .ref qs, .ref qe, .ref qn, .ref qk])), (qn, .inl (cI, 42, .inl w))] := hD
  refine W.eq (g2 := F0 m 10 ls [.int r_1]) rfl ?_
  refine W.widen (k := 0) (n := 0) (Nat.le_of_ble_eq_true rfl) (Nat.le_of_ble_eq_true rfl) ?_
  refine k_top (v := nI 0) (hr_7) ?_
  refine k_if_eq (tgt := 25) hx hb 0 rfl (by omega) dX4_kindAt_10 (by decide) (fun c_10 => ?_) (fun c_10 => ?_)
  · skip
    refine lv_aload_n hx hb dX4_kindAt_25 rfl (lv_at hl 0 rfl) ?_
    refine lv_iconst (v := nI 1) hx hb dX4_kindAt_26 (by decide +kernel) ?_
    refine k_callV (As := [.int (nI 1)]) (rest := []) (wr := [(qi, .inl (cI, 6, .inl gi)), (qs, .inl (cI, 6, .inl gs)), (qe, .inl (cI, 6, .inl ge)), (qn, .inl (cI, 42, .inl w))]) F (c_X4_no l D cI mo qi qs qe qn qk (nI 0) (nI (stS q)) (stM q) (nI ((stT q).length)) (nI 1) ) gX4_kindAt_X4_no rfl (nA := 1) (by decide +kernel) rfl ⟨Nat.le_of_ble_eq_true rfl, Nat.le_of_ble_eq_true rfl⟩ hK hP hD hS hA hG (ci := 4) (q0 := 3) rfl rfl rfl [3] [0, 1, 2, 4] rfl (by decide) rfl (by decide) (by decide) [0] rfl rfl hl.1 (Nat.le_of_ble_eq_true rfl) dX4_kindAt_27 ⟨Nat.le_of_ble_eq_true rfl, Nat.le_of_ble_eq_true rfl⟩ (fun r_2 u H locs hr_27 hP hD hS => ?_)
    try dsimp only at hr_27
    have hP : va_P D vwCl [(qi, .inl (cI, 6, .inl gi)), (qs, .inl (cI, 6, .inl gs)), (qe, .inl (cI, 6, .inl ge)), (qn, .inl (cI, 42, .inl w)), (mo, .inr (4, [.int (nI 1), .int (nI (stS q)), .int (stM q), .int (nI ((stT q).length)), .ref qi, .ref qs, .ref qe, .ref qn, .ref qk]))] H := hP
    have hD : va_D A [(qi, .inl (cI, 6, .inl gi)), (qs, .inl (cI, 6, .inl gs)), (qe, .inl (cI, 6, .inl ge)), (qn, .inl (cI, 42, .inl w)), (mo, .inr (4, [.int (nI 1), .int (nI (stS q)), .int (stM q), .int (nI ((stT q).length)), .ref qi, .ref qs, .ref qe, .ref qn, .ref qk]))] := hD
    refine W.eq (g2 := F0 m 30 ls [.int r_2]) rfl ?_
    refine W.widen (k := 0) (n := 0) (Nat.le_of_ble_eq_true rfl) (Nat.le_of_ble_eq_true rfl) ?_
    exact ret r_2 () _ _ _ _ _ _ (trivial) (hP.sub [4, 0, 1, 2, 3] (rfl)) (hD.sub [4, 0, 1, 2, 3] (by decide) (rfl)) hS (Nat.le_of_ble_eq_true rfl) (Nat.le_of_ble_eq_true rfl) dX4_kindAt_30
  · exact absurd c_10 (by omega)

abbrev rm_X4_turnsToNod_no : Room := { frames := 2, cells := 0, slots := 0, locals := 43 }
set_option maxHeartbeats 4000000 in
set_option maxRecDepth 100000 in
theorem c_X4_turnsToNod_no (l : Launch) (D : va_G) (cI : ClassId) (mo : Nat) (qi : Nat) (qs : Nat) (qe : Nat) (qn : Nat) (qk : Nat) (tw : Int32) (gi : Nat → Int32) (gs : Nat → Int32) (ge : Nat → Int32) (w : Nat → Int32) (q : St) (x : Int32) (hN : rN gi gs ge w q) (hx9 : ∀ j, j < (stB q).length → ¬ x = nI j) : kM kri l yX4_turnsToNod wsX4_turnsToNod rm_X4_turnsToNod_no D [(cI, .int)] [.ref mo, .int x] [(mo, .inr (4, [.int tw, .int (nI (stS q)), .int (stM q), .int (nI ((stT q).length)), .ref qi, .ref qs, .ref qe, .ref qn, .ref qk])), (qi, .inl (cI, 6, .inl gi)), (qs, .inl (cI, 6, .inl gs)), (qe, .inl (cI, 6, .inl ge)), (qn, .inl (cI, 42, .inl w))] (fun (r : Int32) (u : Unit) => True) (fun (u : Unit) => [(mo, .inr (4, [.int (nI 1), .int (nI (stS q)), .int (stM q), .int (nI ((stT q).length)), .ref qi, .ref qs, .ref qe, .ref qn, .ref qk])), (qi, .inl (cI, 6, .inl gi)), (qs, .inl (cI, 6, .inl gs)), (qe, .inl (cI, 6, .inl ge)), (qn, .inl (cI, 42, .inl w))]) := by
  refine k_bodyI (cc := cX4_turnsToNod) (maxL := 4) (by decide) rfl (Nat.le_of_ble_eq_true rfl) ?_
  intro p e ss m args below meth c A Q F hname hA hG hK hP hD hS ret ls hl
  obtain ⟨hx, hb, hml, hown, hts⟩ := id F
  have hP : va_P D vwCl [(mo, .inr (4, [.int tw, .int (nI (stS q)), .int (stM q), .int (nI ((stT q).length)), .ref qi, .ref qs, .ref qe, .ref qn, .ref qk])), (qi, .inl (cI, 6, .inl gi)), (qs, .inl (cI, 6, .inl gs)), (qe, .inl (cI, 6, .inl ge)), (qn, .inl (cI, 42, .inl w))] ss.heap := hP
  have hD : va_D A [(mo, .inr (4, [.int tw, .int (nI (stS q)), .int (stM q), .int (nI ((stT q).length)), .ref qi, .ref qs, .ref qe, .ref qn, .ref qk])), (qi, .inl (cI, 6, .inl gi)), (qs, .inl (cI, 6, .inl gs)), (qe, .inl (cI, 6, .inl ge)), (qn, .inl (cI, 42, .inl w))] := hD
  have hl : lv_has ls 4 [(0, .ref mo), (1, .int x)] := hl
  have iX4 : ∀ w ∈ u_ws RX4 TX4 9, w ∈ wsX4_turnsToNod := by decide +kernel
  have f32 := hts (.fieldLink RX4 32 "SmallerTalkModel" "thrown" "I") (by decide +kernel)
  obtain ⟨n0, n1, n2, n3, n4, n5, nB, nT⟩ := id hN
  have h12 := nB.1
  have h6 := nT.1
  refine lv_aload_n hx hb dX4_turnsToNod_0 rfl (lv_at hl 0 rfl) ?_
  refine lv_iconst (v := nI 0) hx hb dX4_turnsToNod_1 (by decide +kernel) ?_
  refine va_put (D := D) (ci := 4) (v := .int (nI 0)) (ty := .int) (C := RX4) (T := TX4) (N := 9) hx hb hts iX4 tyX4 tyX4_ok nmX4 hown hK hP hD hS 0 rfl rfl 0 (by decide) f32 (fun _ h9 => h9) rfl (by decide +kernel) rfl rfl (Nat.le_of_ble_eq_true rfl) dX4_turnsToNod_2 (fun H locs hP hD hS => ?_)
  have hP : va_P D vwCl [(mo, .inr (4, [.int (nI 0), .int (nI (stS q)), .int (stM q), .int (nI ((stT q).length)), .ref qi, .ref qs, .ref qe, .ref qn, .ref qk])), (qi, .inl (cI, 6, .inl gi)), (qs, .inl (cI, 6, .inl gs)), (qe, .inl (cI, 6, .inl ge)), (qn, .inl (cI, 42, .inl w))] H := hP
  have hD : va_D A [(mo, .inr (4, [.int (nI 0), .int (nI (stS q)), .int (stM q), .int (nI ((stT q).length)), .ref qi, .ref qs, .ref qe, .ref qn, .ref qk])), (qi, .inl (cI, 6, .inl gi)), (qs, .inl (cI, 6, .inl gs)), (qe, .inl (cI, 6, .inl ge)), (qn, .inl (cI, 42, .inl w))] := hD
  refine lv_aload_n hx hb dX4_turnsToNod_5 rfl (lv_at hl 0 rfl) ?_
  refine lv_iload_n hx hb dX4_turnsToNod_6 rfl (lv_at hl 1 rfl) ?_
  refine k_callV (As := [.int x]) (rest := []) (wr := [(qi, .inl (cI, 6, .inl gi)), (qs, .inl (cI, 6, .inl gs)), (qe, .inl (cI, 6, .inl ge))]) F (c_X4_isPlace_no l D cI mo qi qs qe qn qk (nI 0) (nI (stS q)) (stM q) (nI ((stT q).length)) w ((stB q).length) x n1 h12 hx9) gX4_turnsToNod_X4_isPlace rfl (nA := 1) (by decide +kernel) rfl ⟨Nat.le_of_ble_eq_true rfl, Nat.le_of_ble_eq_true rfl⟩ hK hP hD hS hA hG (ci := 4) (q0 := 0) rfl rfl rfl [0, 4] [1, 2, 3] rfl (by decide) rfl (by decide) (by decide) [0] rfl rfl hl.1 (Nat.le_of_ble_eq_true rfl) dX4_turnsToNod_7 ⟨Nat.le_of_ble_eq_true rfl, Nat.le_of_ble_eq_true rfl⟩ (fun r_1 u H locs hr_7 hP hD hS => ?_)
  try dsimp only at hr_7
  have hP : va_P D vwCl [(qi, .inl (cI, 6, .inl gi)), (qs, .inl (cI, 6, .inl gs)), (qe, .inl (cI, 6, .inl ge)), (mo, .inr (4, [.int (nI 0), .int (nI (stS q)), .int (stM q), .int (nI ((stT q).length)), .ref qi, .ref qs, .ref qe, .ref qn, .ref qk])), (qn, .inl (cI, 42, .inl w))] H := hP
  have hD : va_D A [(qi, .inl (cI, 6, .inl gi)), (qs, .inl (cI, 6, .inl gs)), (qe, .inl (cI, 6, .inl ge)), (mo, .inr (4, [.int (nI 0), .int (nI (stS q)), .int (stM q), .int (nI ((stT q).length)), .ref qi, .ref qs, .ref qe, .ref qn, .ref qk])), (qn, .inl (cI, 42, .inl w))] := hD
  refine W.eq (g2 := F0 m 10 ls [.int r_1]) rfl ?_
  refine W.widen (k := 0) (n := 0) (Nat.le_of_ble_eq_true rfl) (Nat.le_of_ble_eq_true rfl) ?_
  refine k_top (v := nI 0) (hr_7) ?_
  refine k_if_ne (tgt := 19) hx hb 0 rfl (by omega) dX4_turnsToNod_10 (by decide) (fun c_10 => ?_) (fun c_10 => ?_)
  · exact absurd c_10 (by omega)
  · skip
    refine lv_aload_n hx hb dX4_turnsToNod_13 rfl (lv_at hl 0 rfl) ?_
    refine lv_iconst (v := nI 1) hx hb dX4_turnsToNod_14 (by decide +kernel) ?_
    refine k_callV (As := [.int (nI 1)]) (rest := []) (wr := [(qi, .inl (cI, 6, .inl gi)), (qs, .inl (cI, 6, .inl gs)), (qe, .inl (cI, 6, .inl ge)), (qn, .inl (cI, 42, .inl w))]) F (c_X4_no l D cI mo qi qs qe qn qk (nI 0) (nI (stS q)) (stM q) (nI ((stT q).length)) (nI 1) ) gX4_turnsToNod_X4_no rfl (nA := 1) (by decide +kernel) rfl ⟨Nat.le_of_ble_eq_true rfl, Nat.le_of_ble_eq_true rfl⟩ hK hP hD hS hA hG (ci := 4) (q0 := 3) rfl rfl rfl [3] [0, 1, 2, 4] rfl (by decide) rfl (by decide) (by decide) [0] rfl rfl hl.1 (Nat.le_of_ble_eq_true rfl) dX4_turnsToNod_15 ⟨Nat.le_of_ble_eq_true rfl, Nat.le_of_ble_eq_true rfl⟩ (fun r_2 u H locs hr_15 hP hD hS => ?_)
    try dsimp only at hr_15
    have hP : va_P D vwCl [(qi, .inl (cI, 6, .inl gi)), (qs, .inl (cI, 6, .inl gs)), (qe, .inl (cI, 6, .inl ge)), (qn, .inl (cI, 42, .inl w)), (mo, .inr (4, [.int (nI 1), .int (nI (stS q)), .int (stM q), .int (nI ((stT q).length)), .ref qi, .ref qs, .ref qe, .ref qn, .ref qk]))] H := hP
    have hD : va_D A [(qi, .inl (cI, 6, .inl gi)), (qs, .inl (cI, 6, .inl gs)), (qe, .inl (cI, 6, .inl ge)), (qn, .inl (cI, 42, .inl w)), (mo, .inr (4, [.int (nI 1), .int (nI (stS q)), .int (stM q), .int (nI ((stT q).length)), .ref qi, .ref qs, .ref qe, .ref qn, .ref qk]))] := hD
    refine W.eq (g2 := F0 m 18 ls [.int r_2]) rfl ?_
    refine W.widen (k := 0) (n := 0) (Nat.le_of_ble_eq_true rfl) (Nat.le_of_ble_eq_true rfl) ?_
    exact ret r_2 () _ _ _ _ _ _ (trivial) (hP.sub [4, 0, 1, 2, 3] (rfl)) (hD.sub [4, 0, 1, 2, 3] (by decide) (rfl)) hS (Nat.le_of_ble_eq_true rfl) (Nat.le_of_ble_eq_true rfl) dX4_turnsToNod_18

abbrev rm_X4_patienceOf_no : Room := { frames := 2, cells := 0, slots := 0, locals := 43 }
set_option maxHeartbeats 4000000 in
set_option maxRecDepth 100000 in
theorem c_X4_patienceOf_no (l : Launch) (D : va_G) (cI : ClassId) (mo : Nat) (qi : Nat) (qs : Nat) (qe : Nat) (qn : Nat) (qk : Nat) (tw : Int32) (gi : Nat → Int32) (gs : Nat → Int32) (ge : Nat → Int32) (w : Nat → Int32) (q : St) (x : Int32) (hN : rN gi gs ge w q) (hx9 : ∀ j, j < (stT q).length → ¬ x = nI j) : kM kri l yX4_patienceOf wsX4_patienceOf rm_X4_patienceOf_no D [(cI, .int)] [.ref mo, .int x] [(mo, .inr (4, [.int tw, .int (nI (stS q)), .int (stM q), .int (nI ((stT q).length)), .ref qi, .ref qs, .ref qe, .ref qn, .ref qk])), (qi, .inl (cI, 6, .inl gi)), (qs, .inl (cI, 6, .inl gs)), (qe, .inl (cI, 6, .inl ge)), (qn, .inl (cI, 42, .inl w))] (fun (r : Int32) (u : Unit) => True) (fun (u : Unit) => [(mo, .inr (4, [.int (nI 1), .int (nI (stS q)), .int (stM q), .int (nI ((stT q).length)), .ref qi, .ref qs, .ref qe, .ref qn, .ref qk])), (qi, .inl (cI, 6, .inl gi)), (qs, .inl (cI, 6, .inl gs)), (qe, .inl (cI, 6, .inl ge)), (qn, .inl (cI, 42, .inl w))]) := by
  refine k_bodyI (cc := cX4_patienceOf) (maxL := 2) (by decide) rfl (Nat.le_of_ble_eq_true rfl) ?_
  intro p e ss m args below meth c A Q F hname hA hG hK hP hD hS ret ls hl
  obtain ⟨hx, hb, hml, hown, hts⟩ := id F
  have hP : va_P D vwCl [(mo, .inr (4, [.int tw, .int (nI (stS q)), .int (stM q), .int (nI ((stT q).length)), .ref qi, .ref qs, .ref qe, .ref qn, .ref qk])), (qi, .inl (cI, 6, .inl gi)), (qs, .inl (cI, 6, .inl gs)), (qe, .inl (cI, 6, .inl ge)), (qn, .inl (cI, 42, .inl w))] ss.heap := hP
  have hD : va_D A [(mo, .inr (4, [.int tw, .int (nI (stS q)), .int (stM q), .int (nI ((stT q).length)), .ref qi, .ref qs, .ref qe, .ref qn, .ref qk])), (qi, .inl (cI, 6, .inl gi)), (qs, .inl (cI, 6, .inl gs)), (qe, .inl (cI, 6, .inl ge)), (qn, .inl (cI, 42, .inl w))] := hD
  have hl : lv_has ls 2 [(0, .ref mo), (1, .int x)] := hl
  have iX4 : ∀ w ∈ u_ws RX4 TX4 9, w ∈ wsX4_patienceOf := by decide +kernel
  have f32 := hts (.fieldLink RX4 32 "SmallerTalkModel" "thrown" "I") (by decide +kernel)
  obtain ⟨n0, n1, n2, n3, n4, n5, nB, nT⟩ := id hN
  have h12 := nB.1
  have h6 := nT.1
  refine lv_aload_n hx hb dX4_patienceOf_0 rfl (lv_at hl 0 rfl) ?_
  refine lv_iconst (v := nI 0) hx hb dX4_patienceOf_1 (by decide +kernel) ?_
  refine va_put (D := D) (ci := 4) (v := .int (nI 0)) (ty := .int) (C := RX4) (T := TX4) (N := 9) hx hb hts iX4 tyX4 tyX4_ok nmX4 hown hK hP hD hS 0 rfl rfl 0 (by decide) f32 (fun _ h9 => h9) rfl (by decide +kernel) rfl rfl (Nat.le_of_ble_eq_true rfl) dX4_patienceOf_2 (fun H locs hP hD hS => ?_)
  have hP : va_P D vwCl [(mo, .inr (4, [.int (nI 0), .int (nI (stS q)), .int (stM q), .int (nI ((stT q).length)), .ref qi, .ref qs, .ref qe, .ref qn, .ref qk])), (qi, .inl (cI, 6, .inl gi)), (qs, .inl (cI, 6, .inl gs)), (qe, .inl (cI, 6, .inl ge)), (qn, .inl (cI, 42, .inl w))] H := hP
  have hD : va_D A [(mo, .inr (4, [.int (nI 0), .int (nI (stS q)), .int (stM q), .int (nI ((stT q).length)), .ref qi, .ref qs, .ref qe, .ref qn, .ref qk])), (qi, .inl (cI, 6, .inl gi)), (qs, .inl (cI, 6, .inl gs)), (qe, .inl (cI, 6, .inl ge)), (qn, .inl (cI, 42, .inl w))] := hD
  refine lv_aload_n hx hb dX4_patienceOf_5 rfl (lv_at hl 0 rfl) ?_
  refine lv_iload_n hx hb dX4_patienceOf_6 rfl (lv_at hl 1 rfl) ?_
  refine k_callV (As := [.int x]) (rest := []) (wr := [(qi, .inl (cI, 6, .inl gi)), (qs, .inl (cI, 6, .inl gs)), (qe, .inl (cI, 6, .inl ge)), (qn, .inl (cI, 42, .inl w))]) F (c_X4_isTalker_no l D cI mo qi qs qe qn qk (nI 0) (nI (stS q)) (stM q) ((stT q).length) x h6 hx9) gX4_patienceOf_X4_isTalker rfl (nA := 1) (by decide +kernel) rfl ⟨Nat.le_of_ble_eq_true rfl, Nat.le_of_ble_eq_true rfl⟩ hK hP hD hS hA hG (ci := 4) (q0 := 0) rfl rfl rfl [0] [1, 2, 3, 4] rfl (by decide) rfl (by decide) (by decide) [0] rfl rfl hl.1 (Nat.le_of_ble_eq_true rfl) dX4_patienceOf_7 ⟨Nat.le_of_ble_eq_true rfl, Nat.le_of_ble_eq_true rfl⟩ (fun r_1 u H locs hr_7 hP hD hS => ?_)
  try dsimp only at hr_7
  have hP : va_P D vwCl [(qi, .inl (cI, 6, .inl gi)), (qs, .inl (cI, 6, .inl gs)), (qe, .inl (cI, 6, .inl ge)), (qn, .inl (cI, 42, .inl w)), (mo, .inr (4, [.int (nI 0), .int (nI (stS q)), .int (stM q), .int (nI ((stT q).length)), .ref qi, .ref qs, .ref qe, .ref qn, .ref qk]))] H := hP
  have hD : va_D A [(qi, .inl (cI, 6, .inl gi)), (qs, .inl (cI, 6, .inl gs)), (qe, .inl (cI, 6, .inl ge)), (qn, .inl (cI, 42, .inl w)), (mo, .inr (4, [.int (nI 0), .int (nI (stS q)), .int (stM q), .int (nI ((stT q).length)), .ref qi, .ref qs, .ref qe, .ref qn, .ref qk]))] := hD
  refine W.eq (g2 := F0 m 10 ls [.int r_1]) rfl ?_
  refine W.widen (k := 0) (n := 0) (Nat.le_of_ble_eq_true rfl) (Nat.le_of_ble_eq_true rfl) ?_
  refine k_top (v := nI 0) (hr_7) ?_
  refine k_if_eq (tgt := 25) hx hb 0 rfl (by omega) dX4_patienceOf_10 (by decide) (fun c_10 => ?_) (fun c_10 => ?_)
  · skip
    refine lv_aload_n hx hb dX4_patienceOf_25 rfl (lv_at hl 0 rfl) ?_
    refine lv_iconst (v := nI 1) hx hb dX4_patienceOf_26 (by decide +kernel) ?_
    refine k_callV (As := [.int (nI 1)]) (rest := []) (wr := [(qi, .inl (cI, 6, .inl gi)), (qs, .inl (cI, 6, .inl gs)), (qe, .inl (cI, 6, .inl ge)), (qn, .inl (cI, 42, .inl w))]) F (c_X4_no l D cI mo qi qs qe qn qk (nI 0) (nI (stS q)) (stM q) (nI ((stT q).length)) (nI 1) ) gX4_patienceOf_X4_no rfl (nA := 1) (by decide +kernel) rfl ⟨Nat.le_of_ble_eq_true rfl, Nat.le_of_ble_eq_true rfl⟩ hK hP hD hS hA hG (ci := 4) (q0 := 4) rfl rfl rfl [4] [0, 1, 2, 3] rfl (by decide) rfl (by decide) (by decide) [0] rfl rfl hl.1 (Nat.le_of_ble_eq_true rfl) dX4_patienceOf_27 ⟨Nat.le_of_ble_eq_true rfl, Nat.le_of_ble_eq_true rfl⟩ (fun r_2 u H locs hr_27 hP hD hS => ?_)
    try dsimp only at hr_27
    have hP : va_P D vwCl [(qi, .inl (cI, 6, .inl gi)), (qs, .inl (cI, 6, .inl gs)), (qe, .inl (cI, 6, .inl ge)), (qn, .inl (cI, 42, .inl w)), (mo, .inr (4, [.int (nI 1), .int (nI (stS q)), .int (stM q), .int (nI ((stT q).length)), .ref qi, .ref qs, .ref qe, .ref qn, .ref qk]))] H := hP
    have hD : va_D A [(qi, .inl (cI, 6, .inl gi)), (qs, .inl (cI, 6, .inl gs)), (qe, .inl (cI, 6, .inl ge)), (qn, .inl (cI, 42, .inl w)), (mo, .inr (4, [.int (nI 1), .int (nI (stS q)), .int (stM q), .int (nI ((stT q).length)), .ref qi, .ref qs, .ref qe, .ref qn, .ref qk]))] := hD
    refine W.eq (g2 := F0 m 30 ls [.int r_2]) rfl ?_
    refine W.widen (k := 0) (n := 0) (Nat.le_of_ble_eq_true rfl) (Nat.le_of_ble_eq_true rfl) ?_
    exact ret r_2 () _ _ _ _ _ _ (trivial) (hP.sub [4, 0, 1, 2, 3] (rfl)) (hD.sub [4, 0, 1, 2, 3] (by decide) (rfl)) hS (Nat.le_of_ble_eq_true rfl) (Nat.le_of_ble_eq_true rfl) dX4_patienceOf_30
  · exact absurd c_10 (by omega)

abbrev rm_X4_exitOf_no : Room := { frames := 2, cells := 0, slots := 0, locals := 43 }
set_option maxHeartbeats 4000000 in
set_option maxRecDepth 100000 in
theorem c_X4_exitOf_no (l : Launch) (D : va_G) (cI : ClassId) (mo : Nat) (qi : Nat) (qs : Nat) (qe : Nat) (qn : Nat) (qk : Nat) (tw : Int32) (gi : Nat → Int32) (gs : Nat → Int32) (ge : Nat → Int32) (w : Nat → Int32) (q : St) (x : Int32) (hN : rN gi gs ge w q) (hx9 : ∀ j, j < (stT q).length → ¬ x = nI j) : kM kri l yX4_exitOf wsX4_exitOf rm_X4_exitOf_no D [(cI, .int)] [.ref mo, .int x] [(mo, .inr (4, [.int tw, .int (nI (stS q)), .int (stM q), .int (nI ((stT q).length)), .ref qi, .ref qs, .ref qe, .ref qn, .ref qk])), (qi, .inl (cI, 6, .inl gi)), (qs, .inl (cI, 6, .inl gs)), (qe, .inl (cI, 6, .inl ge)), (qn, .inl (cI, 42, .inl w))] (fun (r : Int32) (u : Unit) => True) (fun (u : Unit) => [(mo, .inr (4, [.int (nI 1), .int (nI (stS q)), .int (stM q), .int (nI ((stT q).length)), .ref qi, .ref qs, .ref qe, .ref qn, .ref qk])), (qi, .inl (cI, 6, .inl gi)), (qs, .inl (cI, 6, .inl gs)), (qe, .inl (cI, 6, .inl ge)), (qn, .inl (cI, 42, .inl w))]) := by
  refine k_bodyI (cc := cX4_exitOf) (maxL := 2) (by decide) rfl (Nat.le_of_ble_eq_true rfl) ?_
  intro p e ss m args below meth c A Q F hname hA hG hK hP hD hS ret ls hl
  obtain ⟨hx, hb, hml, hown, hts⟩ := id F
  have hP : va_P D vwCl [(mo, .inr (4, [.int tw, .int (nI (stS q)), .int (stM q), .int (nI ((stT q).length)), .ref qi, .ref qs, .ref qe, .ref qn, .ref qk])), (qi, .inl (cI, 6, .inl gi)), (qs, .inl (cI, 6, .inl gs)), (qe, .inl (cI, 6, .inl ge)), (qn, .inl (cI, 42, .inl w))] ss.heap := hP
  have hD : va_D A [(mo, .inr (4, [.int tw, .int (nI (stS q)), .int (stM q), .int (nI ((stT q).length)), .ref qi, .ref qs, .ref qe, .ref qn, .ref qk])), (qi, .inl (cI, 6, .inl gi)), (qs, .inl (cI, 6, .inl gs)), (qe, .inl (cI, 6, .inl ge)), (qn, .inl (cI, 42, .inl w))] := hD
  have hl : lv_has ls 2 [(0, .ref mo), (1, .int x)] := hl
  have iX4 : ∀ w ∈ u_ws RX4 TX4 9, w ∈ wsX4_exitOf := by decide +kernel
  have f32 := hts (.fieldLink RX4 32 "SmallerTalkModel" "thrown" "I") (by decide +kernel)
  obtain ⟨n0, n1, n2, n3, n4, n5, nB, nT⟩ := id hN
  have h12 := nB.1
  have h6 := nT.1
  refine lv_aload_n hx hb dX4_exitOf_0 rfl (lv_at hl 0 rfl) ?_
  refine lv_iconst (v := nI 0) hx hb dX4_exitOf_1 (by decide +kernel) ?_
  refine va_put (D := D) (ci := 4) (v := .int (nI 0)) (ty := .int) (C := RX4) (T := TX4) (N := 9) hx hb hts iX4 tyX4 tyX4_ok nmX4 hown hK hP hD hS 0 rfl rfl 0 (by decide) f32 (fun _ h9 => h9) rfl (by decide +kernel) rfl rfl (Nat.le_of_ble_eq_true rfl) dX4_exitOf_2 (fun H locs hP hD hS => ?_)
  have hP : va_P D vwCl [(mo, .inr (4, [.int (nI 0), .int (nI (stS q)), .int (stM q), .int (nI ((stT q).length)), .ref qi, .ref qs, .ref qe, .ref qn, .ref qk])), (qi, .inl (cI, 6, .inl gi)), (qs, .inl (cI, 6, .inl gs)), (qe, .inl (cI, 6, .inl ge)), (qn, .inl (cI, 42, .inl w))] H := hP
  have hD : va_D A [(mo, .inr (4, [.int (nI 0), .int (nI (stS q)), .int (stM q), .int (nI ((stT q).length)), .ref qi, .ref qs, .ref qe, .ref qn, .ref qk])), (qi, .inl (cI, 6, .inl gi)), (qs, .inl (cI, 6, .inl gs)), (qe, .inl (cI, 6, .inl ge)), (qn, .inl (cI, 42, .inl w))] := hD
  refine lv_aload_n hx hb dX4_exitOf_5 rfl (lv_at hl 0 rfl) ?_
  refine lv_iload_n hx hb dX4_exitOf_6 rfl (lv_at hl 1 rfl) ?_
  refine k_callV (As := [.int x]) (rest := []) (wr := [(qi, .inl (cI, 6, .inl gi)), (qs, .inl (cI, 6, .inl gs)), (qe, .inl (cI, 6, .inl ge)), (qn, .inl (cI, 42, .inl w))]) F (c_X4_isTalker_no l D cI mo qi qs qe qn qk (nI 0) (nI (stS q)) (stM q) ((stT q).length) x h6 hx9) gX4_exitOf_X4_isTalker rfl (nA := 1) (by decide +kernel) rfl ⟨Nat.le_of_ble_eq_true rfl, Nat.le_of_ble_eq_true rfl⟩ hK hP hD hS hA hG (ci := 4) (q0 := 0) rfl rfl rfl [0] [1, 2, 3, 4] rfl (by decide) rfl (by decide) (by decide) [0] rfl rfl hl.1 (Nat.le_of_ble_eq_true rfl) dX4_exitOf_7 ⟨Nat.le_of_ble_eq_true rfl, Nat.le_of_ble_eq_true rfl⟩ (fun r_1 u H locs hr_7 hP hD hS => ?_)
  try dsimp only at hr_7
  have hP : va_P D vwCl [(qi, .inl (cI, 6, .inl gi)), (qs, .inl (cI, 6, .inl gs)), (qe, .inl (cI, 6, .inl ge)), (qn, .inl (cI, 42, .inl w)), (mo, .inr (4, [.int (nI 0), .int (nI (stS q)), .int (stM q), .int (nI ((stT q).length)), .ref qi, .ref qs, .ref qe, .ref qn, .ref qk]))] H := hP
  have hD : va_D A [(qi, .inl (cI, 6, .inl gi)), (qs, .inl (cI, 6, .inl gs)), (qe, .inl (cI, 6, .inl ge)), (qn, .inl (cI, 42, .inl w)), (mo, .inr (4, [.int (nI 0), .int (nI (stS q)), .int (stM q), .int (nI ((stT q).length)), .ref qi, .ref qs, .ref qe, .ref qn, .ref qk]))] := hD
  refine W.eq (g2 := F0 m 10 ls [.int r_1]) rfl ?_
  refine W.widen (k := 0) (n := 0) (Nat.le_of_ble_eq_true rfl) (Nat.le_of_ble_eq_true rfl) ?_
  refine k_top (v := nI 0) (hr_7) ?_
  refine k_if_eq (tgt := 25) hx hb 0 rfl (by omega) dX4_exitOf_10 (by decide) (fun c_10 => ?_) (fun c_10 => ?_)
  · skip
    refine lv_aload_n hx hb dX4_exitOf_25 rfl (lv_at hl 0 rfl) ?_
    refine lv_iconst (v := nI 1) hx hb dX4_exitOf_26 (by decide +kernel) ?_
    refine k_callV (As := [.int (nI 1)]) (rest := []) (wr := [(qi, .inl (cI, 6, .inl gi)), (qs, .inl (cI, 6, .inl gs)), (qe, .inl (cI, 6, .inl ge)), (qn, .inl (cI, 42, .inl w))]) F (c_X4_no l D cI mo qi qs qe qn qk (nI 0) (nI (stS q)) (stM q) (nI ((stT q).length)) (nI 1) ) gX4_exitOf_X4_no rfl (nA := 1) (by decide +kernel) rfl ⟨Nat.le_of_ble_eq_true rfl, Nat.le_of_ble_eq_true rfl⟩ hK hP hD hS hA hG (ci := 4) (q0 := 4) rfl rfl rfl [4] [0, 1, 2, 3] rfl (by decide) rfl (by decide) (by decide) [0] rfl rfl hl.1 (Nat.le_of_ble_eq_true rfl) dX4_exitOf_27 ⟨Nat.le_of_ble_eq_true rfl, Nat.le_of_ble_eq_true rfl⟩ (fun r_2 u H locs hr_27 hP hD hS => ?_)
    try dsimp only at hr_27
    have hP : va_P D vwCl [(qi, .inl (cI, 6, .inl gi)), (qs, .inl (cI, 6, .inl gs)), (qe, .inl (cI, 6, .inl ge)), (qn, .inl (cI, 42, .inl w)), (mo, .inr (4, [.int (nI 1), .int (nI (stS q)), .int (stM q), .int (nI ((stT q).length)), .ref qi, .ref qs, .ref qe, .ref qn, .ref qk]))] H := hP
    have hD : va_D A [(qi, .inl (cI, 6, .inl gi)), (qs, .inl (cI, 6, .inl gs)), (qe, .inl (cI, 6, .inl ge)), (qn, .inl (cI, 42, .inl w)), (mo, .inr (4, [.int (nI 1), .int (nI (stS q)), .int (stM q), .int (nI ((stT q).length)), .ref qi, .ref qs, .ref qe, .ref qn, .ref qk]))] := hD
    refine W.eq (g2 := F0 m 30 ls [.int r_2]) rfl ?_
    refine W.widen (k := 0) (n := 0) (Nat.le_of_ble_eq_true rfl) (Nat.le_of_ble_eq_true rfl) ?_
    exact ret r_2 () _ _ _ _ _ _ (trivial) (hP.sub [4, 0, 1, 2, 3] (rfl)) (hD.sub [4, 0, 1, 2, 3] (by decide) (rfl)) hS (Nat.le_of_ble_eq_true rfl) (Nat.le_of_ble_eq_true rfl) dX4_exitOf_30
  · exact absurd c_10 (by omega)

abbrev rm_X4_minutesUntilExit_no : Room := { frames := 2, cells := 0, slots := 0, locals := 43 }
set_option maxHeartbeats 4000000 in
set_option maxRecDepth 100000 in
theorem c_X4_minutesUntilExit_no (l : Launch) (D : va_G) (cI : ClassId) (mo : Nat) (qi : Nat) (qs : Nat) (qe : Nat) (qn : Nat) (qk : Nat) (tw : Int32) (gi : Nat → Int32) (gs : Nat → Int32) (ge : Nat → Int32) (w : Nat → Int32) (q : St) (x : Int32) (hN : rN gi gs ge w q) (hx9 : ∀ j, j < (stT q).length → ¬ x = nI j) : kM kri l yX4_minutesUntilExit wsX4_minutesUntilExit rm_X4_minutesUntilExit_no D [(cI, .int)] [.ref mo, .int x] [(mo, .inr (4, [.int tw, .int (nI (stS q)), .int (stM q), .int (nI ((stT q).length)), .ref qi, .ref qs, .ref qe, .ref qn, .ref qk])), (qi, .inl (cI, 6, .inl gi)), (qs, .inl (cI, 6, .inl gs)), (qe, .inl (cI, 6, .inl ge)), (qn, .inl (cI, 42, .inl w))] (fun (r : Int32) (u : Unit) => True) (fun (u : Unit) => [(mo, .inr (4, [.int (nI 1), .int (nI (stS q)), .int (stM q), .int (nI ((stT q).length)), .ref qi, .ref qs, .ref qe, .ref qn, .ref qk])), (qi, .inl (cI, 6, .inl gi)), (qs, .inl (cI, 6, .inl gs)), (qe, .inl (cI, 6, .inl ge)), (qn, .inl (cI, 42, .inl w))]) := by
  refine k_bodyI (cc := cX4_minutesUntilExit) (maxL := 3) (by decide) rfl (Nat.le_of_ble_eq_true rfl) ?_
  intro p e ss m args below meth c A Q F hname hA hG hK hP hD hS ret ls hl
  obtain ⟨hx, hb, hml, hown, hts⟩ := id F
  have hP : va_P D vwCl [(mo, .inr (4, [.int tw, .int (nI (stS q)), .int (stM q), .int (nI ((stT q).length)), .ref qi, .ref qs, .ref qe, .ref qn, .ref qk])), (qi, .inl (cI, 6, .inl gi)), (qs, .inl (cI, 6, .inl gs)), (qe, .inl (cI, 6, .inl ge)), (qn, .inl (cI, 42, .inl w))] ss.heap := hP
  have hD : va_D A [(mo, .inr (4, [.int tw, .int (nI (stS q)), .int (stM q), .int (nI ((stT q).length)), .ref qi, .ref qs, .ref qe, .ref qn, .ref qk])), (qi, .inl (cI, 6, .inl gi)), (qs, .inl (cI, 6, .inl gs)), (qe, .inl (cI, 6, .inl ge)), (qn, .inl (cI, 42, .inl w))] := hD
  have hl : lv_has ls 3 [(0, .ref mo), (1, .int x)] := hl
  have iX4 : ∀ w ∈ u_ws RX4 TX4 9, w ∈ wsX4_minutesUntilExit := by decide +kernel
  have f32 := hts (.fieldLink RX4 32 "SmallerTalkModel" "thrown" "I") (by decide +kernel)
  obtain ⟨n0, n1, n2, n3, n4, n5, nB, nT⟩ := id hN
  have h12 := nB.1
  have h6 := nT.1
  refine lv_aload_n hx hb dX4_minutesUntilExit_0 rfl (lv_at hl 0 rfl) ?_
  refine lv_iconst (v := nI 0) hx hb dX4_minutesUntilExit_1 (by decide +kernel) ?_
  refine va_put (D := D) (ci := 4) (v := .int (nI 0)) (ty := .int) (C := RX4) (T := TX4) (N := 9) hx hb hts iX4 tyX4 tyX4_ok nmX4 hown hK hP hD hS 0 rfl rfl 0 (by decide) f32 (fun _ h9 => h9) rfl (by decide +kernel) rfl rfl (Nat.le_of_ble_eq_true rfl) dX4_minutesUntilExit_2 (fun H locs hP hD hS => ?_)
  have hP : va_P D vwCl [(mo, .inr (4, [.int (nI 0), .int (nI (stS q)), .int (stM q), .int (nI ((stT q).length)), .ref qi, .ref qs, .ref qe, .ref qn, .ref qk])), (qi, .inl (cI, 6, .inl gi)), (qs, .inl (cI, 6, .inl gs)), (qe, .inl (cI, 6, .inl ge)), (qn, .inl (cI, 42, .inl w))] H := hP
  have hD : va_D A [(mo, .inr (4, [.int (nI 0), .int (nI (stS q)), .int (stM q), .int (nI ((stT q).length)), .ref qi, .ref qs, .ref qe, .ref qn, .ref qk])), (qi, .inl (cI, 6, .inl gi)), (qs, .inl (cI, 6, .inl gs)), (qe, .inl (cI, 6, .inl ge)), (qn, .inl (cI, 42, .inl w))] := hD
  refine lv_aload_n hx hb dX4_minutesUntilExit_5 rfl (lv_at hl 0 rfl) ?_
  refine lv_iload_n hx hb dX4_minutesUntilExit_6 rfl (lv_at hl 1 rfl) ?_
  refine k_callV (As := [.int x]) (rest := []) (wr := [(qi, .inl (cI, 6, .inl gi)), (qs, .inl (cI, 6, .inl gs)), (qe, .inl (cI, 6, .inl ge)), (qn, .inl (cI, 42, .inl w))]) F (c_X4_isTalker_no l D cI mo qi qs qe qn qk (nI 0) (nI (stS q)) (stM q) ((stT q).length) x h6 hx9) gX4_minutesUntilExit_X4_isTalker rfl (nA := 1) (by decide +kernel) rfl ⟨Nat.le_of_ble_eq_true rfl, Nat.le_of_ble_eq_true rfl⟩ hK hP hD hS hA hG (ci := 4) (q0 := 0) rfl rfl rfl [0] [1, 2, 3, 4] rfl (by decide) rfl (by decide) (by decide) [0] rfl rfl hl.1 (Nat.le_of_ble_eq_true rfl) dX4_minutesUntilExit_7 ⟨Nat.le_of_ble_eq_true rfl, Nat.le_of_ble_eq_true rfl⟩ (fun r_1 u H locs hr_7 hP hD hS => ?_)
  try dsimp only at hr_7
  have hP : va_P D vwCl [(qi, .inl (cI, 6, .inl gi)), (qs, .inl (cI, 6, .inl gs)), (qe, .inl (cI, 6, .inl ge)), (qn, .inl (cI, 42, .inl w)), (mo, .inr (4, [.int (nI 0), .int (nI (stS q)), .int (stM q), .int (nI ((stT q).length)), .ref qi, .ref qs, .ref qe, .ref qn, .ref qk]))] H := hP
  have hD : va_D A [(qi, .inl (cI, 6, .inl gi)), (qs, .inl (cI, 6, .inl gs)), (qe, .inl (cI, 6, .inl ge)), (qn, .inl (cI, 42, .inl w)), (mo, .inr (4, [.int (nI 0), .int (nI (stS q)), .int (stM q), .int (nI ((stT q).length)), .ref qi, .ref qs, .ref qe, .ref qn, .ref qk]))] := hD
  refine W.eq (g2 := F0 m 10 ls [.int r_1]) rfl ?_
  refine W.widen (k := 0) (n := 0) (Nat.le_of_ble_eq_true rfl) (Nat.le_of_ble_eq_true rfl) ?_
  refine k_top (v := nI 0) (hr_7) ?_
  refine k_if_ne (tgt := 19) hx hb 0 rfl (by omega) dX4_minutesUntilExit_10 (by decide) (fun c_10 => ?_) (fun c_10 => ?_)
  · exact absurd c_10 (by omega)
  · skip
    refine lv_aload_n hx hb dX4_minutesUntilExit_13 rfl (lv_at hl 0 rfl) ?_
    refine lv_iconst (v := nI 1) hx hb dX4_minutesUntilExit_14 (by decide +kernel) ?_
    refine k_callV (As := [.int (nI 1)]) (rest := []) (wr := [(qi, .inl (cI, 6, .inl gi)), (qs, .inl (cI, 6, .inl gs)), (qe, .inl (cI, 6, .inl ge)), (qn, .inl (cI, 42, .inl w))]) F (c_X4_no l D cI mo qi qs qe qn qk (nI 0) (nI (stS q)) (stM q) (nI ((stT q).length)) (nI 1) ) gX4_minutesUntilExit_X4_no rfl (nA := 1) (by decide +kernel) rfl ⟨Nat.le_of_ble_eq_true rfl, Nat.le_of_ble_eq_true rfl⟩ hK hP hD hS hA hG (ci := 4) (q0 := 4) rfl rfl rfl [4] [0, 1, 2, 3] rfl (by decide) rfl (by decide) (by decide) [0] rfl rfl hl.1 (Nat.le_of_ble_eq_true rfl) dX4_minutesUntilExit_15 ⟨Nat.le_of_ble_eq_true rfl, Nat.le_of_ble_eq_true rfl⟩ (fun r_2 u H locs hr_15 hP hD hS => ?_)
    try dsimp only at hr_15
    have hP : va_P D vwCl [(qi, .inl (cI, 6, .inl gi)), (qs, .inl (cI, 6, .inl gs)), (qe, .inl (cI, 6, .inl ge)), (qn, .inl (cI, 42, .inl w)), (mo, .inr (4, [.int (nI 1), .int (nI (stS q)), .int (stM q), .int (nI ((stT q).length)), .ref qi, .ref qs, .ref qe, .ref qn, .ref qk]))] H := hP
    have hD : va_D A [(qi, .inl (cI, 6, .inl gi)), (qs, .inl (cI, 6, .inl gs)), (qe, .inl (cI, 6, .inl ge)), (qn, .inl (cI, 42, .inl w)), (mo, .inr (4, [.int (nI 1), .int (nI (stS q)), .int (stM q), .int (nI ((stT q).length)), .ref qi, .ref qs, .ref qe, .ref qn, .ref qk]))] := hD
    refine W.eq (g2 := F0 m 18 ls [.int r_2]) rfl ?_
    refine W.widen (k := 0) (n := 0) (Nat.le_of_ble_eq_true rfl) (Nat.le_of_ble_eq_true rfl) ?_
    exact ret r_2 () _ _ _ _ _ _ (trivial) (hP.sub [4, 0, 1, 2, 3] (rfl)) (hD.sub [4, 0, 1, 2, 3] (by decide) (rfl)) hS (Nat.le_of_ble_eq_true rfl) (Nat.le_of_ble_eq_true rfl) dX4_minutesUntilExit_18

abbrev rm_X4_isPresent_no : Room := { frames := 2, cells := 0, slots := 0, locals := 43 }
set_option maxHeartbeats 4000000 in
set_option maxRecDepth 100000 in
theorem c_X4_isPresent_no (l : Launch) (D : va_G) (cI : ClassId) (mo : Nat) (qi : Nat) (qs : Nat) (qe : Nat) (qn : Nat) (qk : Nat) (tw : Int32) (gi : Nat → Int32) (gs : Nat → Int32) (ge : Nat → Int32) (w : Nat → Int32) (q : St) (x : Int32) (hN : rN gi gs ge w q) (hx9 : ∀ j, j < (stT q).length → ¬ x = nI j) : kM kri l yX4_isPresent wsX4_isPresent rm_X4_isPresent_no D [(cI, .int)] [.ref mo, .int x] [(mo, .inr (4, [.int tw, .int (nI (stS q)), .int (stM q), .int (nI ((stT q).length)), .ref qi, .ref qs, .ref qe, .ref qn, .ref qk])), (qi, .inl (cI, 6, .inl gi)), (qs, .inl (cI, 6, .inl gs)), (qe, .inl (cI, 6, .inl ge)), (qn, .inl (cI, 42, .inl w))] (fun (r : Int32) (u : Unit) => True) (fun (u : Unit) => [(mo, .inr (4, [.int (nI 1), .int (nI (stS q)), .int (stM q), .int (nI ((stT q).length)), .ref qi, .ref qs, .ref qe, .ref qn, .ref qk])), (qi, .inl (cI, 6, .inl gi)), (qs, .inl (cI, 6, .inl gs)), (qe, .inl (cI, 6, .inl ge)), (qn, .inl (cI, 42, .inl w))]) := by
  refine k_bodyZ (cc := cX4_isPresent) (maxL := 2) (by decide) rfl (Nat.le_of_ble_eq_true rfl) ?_
  intro p e ss m args below meth c A Q F hname hA hG hK hP hD hS ret ls hl
  obtain ⟨hx, hb, hml, hown, hts⟩ := id F
  have hP : va_P D vwCl [(mo, .inr (4, [.int tw, .int (nI (stS q)), .int (stM q), .int (nI ((stT q).length)), .ref qi, .ref qs, .ref qe, .ref qn, .ref qk])), (qi, .inl (cI, 6, .inl gi)), (qs, .inl (cI, 6, .inl gs)), (qe, .inl (cI, 6, .inl ge)), (qn, .inl (cI, 42, .inl w))] ss.heap := hP
  have hD : va_D A [(mo, .inr (4, [.int tw, .int (nI (stS q)), .int (stM q), .int (nI ((stT q).length)), .ref qi, .ref qs, .ref qe, .ref qn, .ref qk])), (qi, .inl (cI, 6, .inl gi)), (qs, .inl (cI, 6, .inl gs)), (qe, .inl (cI, 6, .inl ge)), (qn, .inl (cI, 42, .inl w))] := hD
  have hl : lv_has ls 2 [(0, .ref mo), (1, .int x)] := hl
  have iX4 : ∀ w ∈ u_ws RX4 TX4 9, w ∈ wsX4_isPresent := by decide +kernel
  have f32 := hts (.fieldLink RX4 32 "SmallerTalkModel" "thrown" "I") (by decide +kernel)
  obtain ⟨n0, n1, n2, n3, n4, n5, nB, nT⟩ := id hN
  have h12 := nB.1
  have h6 := nT.1
  refine lv_aload_n hx hb dX4_isPresent_0 rfl (lv_at hl 0 rfl) ?_
  refine lv_aload_n hx hb dX4_isPresent_1 rfl (lv_at hl 0 rfl) ?_
  refine lv_iload_n hx hb dX4_isPresent_2 rfl (lv_at hl 1 rfl) ?_
  refine k_callV (As := [.int x]) (rest := [.ref mo]) (wr := [(qi, .inl (cI, 6, .inl gi)), (qs, .inl (cI, 6, .inl gs)), (qe, .inl (cI, 6, .inl ge)), (qn, .inl (cI, 42, .inl w))]) F (c_X4_isTalker_no l D cI mo qi qs qe qn qk tw (nI (stS q)) (stM q) ((stT q).length) x h6 hx9) gX4_isPresent_X4_isTalker rfl (nA := 1) (by decide +kernel) rfl ⟨Nat.le_of_ble_eq_true rfl, Nat.le_of_ble_eq_true rfl⟩ hK hP hD hS hA hG (ci := 4) (q0 := 0) rfl rfl rfl [0] [1, 2, 3, 4] rfl (by decide) rfl (by decide) (by decide) [0] rfl rfl hl.1 (Nat.le_of_ble_eq_true rfl) dX4_isPresent_3 ⟨Nat.le_of_ble_eq_true rfl, Nat.le_of_ble_eq_true rfl⟩ (fun r_1 u H locs hr_3 hP hD hS => ?_)
  try dsimp only at hr_3
  have hP : va_P D vwCl [(qi, .inl (cI, 6, .inl gi)), (qs, .inl (cI, 6, .inl gs)), (qe, .inl (cI, 6, .inl ge)), (qn, .inl (cI, 42, .inl w)), (mo, .inr (4, [.int tw, .int (nI (stS q)), .int (stM q), .int (nI ((stT q).length)), .ref qi, .ref qs, .ref qe, .ref qn, .ref qk]))] H := hP
  have hD : va_D A [(qi, .inl (cI, 6, .inl gi)), (qs, .inl (cI, 6, .inl gs)), (qe, .inl (cI, 6, .inl ge)), (qn, .inl (cI, 42, .inl w)), (mo, .inr (4, [.int tw, .int (nI (stS q)), .int (stM q), .int (nI ((stT q).length)), .ref qi, .ref qs, .ref qe, .ref qn, .ref qk]))] := hD
  refine W.eq (g2 := F0 m 6 ls [.int r_1, .ref mo]) rfl ?_
  refine W.widen (k := 0) (n := 0) (Nat.le_of_ble_eq_true rfl) (Nat.le_of_ble_eq_true rfl) ?_
  refine k_top (v := nI 0) (hr_3) ?_
  refine k_if_eq (tgt := 13) hx hb 0 rfl (by omega) dX4_isPresent_6 (by decide) (fun c_6 => ?_) (fun c_6 => ?_)
  · skip
    refine lv_iconst (v := nI 1) hx hb dX4_isPresent_13 (by decide +kernel) ?_
    refine va_put (D := D) (ci := 4) (v := .int (nI 1)) (ty := .int) (C := RX4) (T := TX4) (N := 9) hx hb hts iX4 tyX4 tyX4_ok nmX4 hown hK hP hD hS 4 rfl rfl 0 (by decide) f32 (fun _ h9 => h9) rfl (by decide +kernel) rfl rfl (Nat.le_of_ble_eq_true rfl) dX4_isPresent_14 (fun H locs hP hD hS => ?_)
    have hP : va_P D vwCl [(qi, .inl (cI, 6, .inl gi)), (qs, .inl (cI, 6, .inl gs)), (qe, .inl (cI, 6, .inl ge)), (qn, .inl (cI, 42, .inl w)), (mo, .inr (4, [.int (nI 1), .int (nI (stS q)), .int (stM q), .int (nI ((stT q).length)), .ref qi, .ref qs, .ref qe, .ref qn, .ref qk]))] H := hP
    have hD : va_D A [(qi, .inl (cI, 6, .inl gi)), (qs, .inl (cI, 6, .inl gs)), (qe, .inl (cI, 6, .inl ge)), (qn, .inl (cI, 42, .inl w)), (mo, .inr (4, [.int (nI 1), .int (nI (stS q)), .int (stM q), .int (nI ((stT q).length)), .ref qi, .ref qs, .ref qe, .ref qn, .ref qk]))] := hD
    refine lv_aload_n hx hb dX4_isPresent_17 rfl (lv_at hl 0 rfl) ?_
    refine va_get (D := D) (ci := 4) (v := .int (nI 1)) (C := RX4) (T := TX4) (N := 9) hx hb hts iX4 hown hK hP 4 rfl rfl 0 (by decide) f32 (fun _ h9 => h9) rfl dX4_isPresent_18 ?_
    refine k_if_ne (tgt := 36) hx hb 1 rfl (by omega) dX4_isPresent_21 (by decide) (fun c_21 => ?_) (fun c_21 => ?_)
    · skip
      refine lv_iconst (v := nI 0) hx hb dX4_isPresent_36 (by decide +kernel) ?_
      exact ret (nI 0) () _ _ _ _ _ _ rfl (trivial) (hP.sub [4, 0, 1, 2, 3] (rfl)) (hD.sub [4, 0, 1, 2, 3] (by decide) (rfl)) hS (Nat.le_of_ble_eq_true rfl) (Nat.le_of_ble_eq_true rfl) dX4_isPresent_37
    · exact absurd c_21 (by omega)
  · exact absurd c_6 (by omega)

abbrev rm_X4_setGear_no : Room := { frames := 1, cells := 0, slots := 0, locals := 22 }
set_option maxHeartbeats 4000000 in
set_option maxRecDepth 100000 in
theorem c_X4_setGear_no (l : Launch) (D : va_G) (cI : ClassId) (mo : Nat) (qi : Nat) (qs : Nat) (qe : Nat) (qn : Nat) (qk : Nat) (tw : Int32) (gi : Nat → Int32) (gs : Nat → Int32) (ge : Nat → Int32) (w : Nat → Int32) (q : St) (x : Int32) (hN : rN gi gs ge w q) (hx9 : ¬ (nI 2 ≤ x ∧ x ≤ nI 9)) : kM kri l yX4_setGear wsX4_setGear rm_X4_setGear_no D [(cI, .int)] [.ref mo, .int x] [(mo, .inr (4, [.int tw, .int (nI (stS q)), .int (stM q), .int (nI ((stT q).length)), .ref qi, .ref qs, .ref qe, .ref qn, .ref qk])), (qi, .inl (cI, 6, .inl gi)), (qs, .inl (cI, 6, .inl gs)), (qe, .inl (cI, 6, .inl ge)), (qn, .inl (cI, 42, .inl w))] (fun (r : Int32) (u : Unit) => True) (fun (u : Unit) => [(mo, .inr (4, [.int (nI 1), .int (nI (stS q)), .int (stM q), .int (nI ((stT q).length)), .ref qi, .ref qs, .ref qe, .ref qn, .ref qk])), (qi, .inl (cI, 6, .inl gi)), (qs, .inl (cI, 6, .inl gs)), (qe, .inl (cI, 6, .inl ge)), (qn, .inl (cI, 42, .inl w))]) := by
  refine k_bodyI (cc := cX4_setGear) (maxL := 3) (by decide) rfl (Nat.le_of_ble_eq_true rfl) ?_
  intro p e ss m args below meth c A Q F hname hA hG hK hP hD hS ret ls hl
  obtain ⟨hx, hb, hml, hown, hts⟩ := id F
  have hP : va_P D vwCl [(mo, .inr (4, [.int tw, .int (nI (stS q)), .int (stM q), .int (nI ((stT q).length)), .ref qi, .ref qs, .ref qe, .ref qn, .ref qk])), (qi, .inl (cI, 6, .inl gi)), (qs, .inl (cI, 6, .inl gs)), (qe, .inl (cI, 6, .inl ge)), (qn, .inl (cI, 42, .inl w))] ss.heap := hP
  have hD : va_D A [(mo, .inr (4, [.int tw, .int (nI (stS q)), .int (stM q), .int (nI ((stT q).length)), .ref qi, .ref qs, .ref qe, .ref qn, .ref qk])), (qi, .inl (cI, 6, .inl gi)), (qs, .inl (cI, 6, .inl gs)), (qe, .inl (cI, 6, .inl ge)), (qn, .inl (cI, 42, .inl w))] := hD
  have hl : lv_has ls 3 [(0, .ref mo), (1, .int x)] := hl
  have iX4 : ∀ w ∈ u_ws RX4 TX4 9, w ∈ wsX4_setGear := by decide +kernel
  have f32 := hts (.fieldLink RX4 32 "SmallerTalkModel" "thrown" "I") (by decide +kernel)
  obtain ⟨n0, n1, n2, n3, n4, n5, nB, nT⟩ := id hN
  refine lv_aload_n hx hb dX4_setGear_0 rfl (lv_at hl 0 rfl) ?_
  refine lv_iconst (v := nI 0) hx hb dX4_setGear_1 (by decide +kernel) ?_
  refine va_put (D := D) (ci := 4) (v := .int (nI 0)) (ty := .int) (C := RX4) (T := TX4) (N := 9) hx hb hts iX4 tyX4 tyX4_ok nmX4 hown hK hP hD hS 0 rfl rfl 0 (by decide) f32 (fun _ h9 => h9) rfl (by decide +kernel) rfl rfl (Nat.le_of_ble_eq_true rfl) dX4_setGear_2 (fun H locs hP hD hS => ?_)
  have hP : va_P D vwCl [(mo, .inr (4, [.int (nI 0), .int (nI (stS q)), .int (stM q), .int (nI ((stT q).length)), .ref qi, .ref qs, .ref qe, .ref qn, .ref qk])), (qi, .inl (cI, 6, .inl gi)), (qs, .inl (cI, 6, .inl gs)), (qe, .inl (cI, 6, .inl ge)), (qn, .inl (cI, 42, .inl w))] H := hP
  have hD : va_D A [(mo, .inr (4, [.int (nI 0), .int (nI (stS q)), .int (stM q), .int (nI ((stT q).length)), .ref qi, .ref qs, .ref qe, .ref qn, .ref qk])), (qi, .inl (cI, 6, .inl gi)), (qs, .inl (cI, 6, .inl gs)), (qe, .inl (cI, 6, .inl ge)), (qn, .inl (cI, 42, .inl w))] := hD
  refine lv_iload_n hx hb dX4_setGear_5 rfl (lv_at hl 1 rfl) ?_
  refine lv_iconst (v := nI 2) hx hb dX4_setGear_6 (by decide +kernel) ?_
  refine lv_bipush (v := nI 9) hx hb dX4_setGear_7 (by decide +kernel) ?_
  refine k_callS (As := [.int x, .int (nI 2), .int (nI 9)]) (rest := []) (wr := [(mo, .inr (4, [.int (nI 0), .int (nI (stS q)), .int (stM q), .int (nI ((stT q).length)), .ref qi, .ref qs, .ref qe, .ref qn, .ref qk])), (qi, .inl (cI, 6, .inl gi)), (qs, .inl (cI, 6, .inl gs)), (qe, .inl (cI, 6, .inl ge)), (qn, .inl (cI, 42, .inl w))]) F (c_X4_isIn_no l D cI x (nI 2) (nI 9) hx9) gX4_setGear_X4_isIn rfl (nA := 3) (by decide +kernel) rfl ⟨Nat.le_of_ble_eq_true rfl, Nat.le_of_ble_eq_true rfl⟩ hK hP hD hS hA hG [] [0, 1, 2, 3, 4] rfl (by decide) rfl (by decide) (by decide) [0] rfl rfl hl.1 (Nat.le_of_ble_eq_true rfl) dX4_setGear_9 ⟨Nat.le_of_ble_eq_true rfl, Nat.le_of_ble_eq_true rfl⟩ (fun r_1 u H locs hr_9 hP hD hS => ?_)
  try dsimp only at hr_9
  have hP : va_P D vwCl [(mo, .inr (4, [.int (nI 0), .int (nI (stS q)), .int (stM q), .int (nI ((stT q).length)), .ref qi, .ref qs, .ref qe, .ref qn, .ref qk])), (qi, .inl (cI, 6, .inl gi)), (qs, .inl (cI, 6, .inl gs)), (qe, .inl (cI, 6, .inl ge)), (qn, .inl (cI, 42, .inl w))] H := hP
  have hD : va_D A [(mo, .inr (4, [.int (nI 0), .int (nI (stS q)), .int (stM q), .int (nI ((stT q).length)), .ref qi, .ref qs, .ref qe, .ref qn, .ref qk])), (qi, .inl (cI, 6, .inl gi)), (qs, .inl (cI, 6, .inl gs)), (qe, .inl (cI, 6, .inl ge)), (qn, .inl (cI, 42, .inl w))] := hD
  refine W.eq (g2 := F0 m 12 ls [.int r_1]) rfl ?_
  refine W.widen (k := 0) (n := 0) (Nat.le_of_ble_eq_true rfl) (Nat.le_of_ble_eq_true rfl) ?_
  refine k_top (v := nI 0) (hr_9) ?_
  refine k_if_ne (tgt := 21) hx hb 0 rfl (by omega) dX4_setGear_12 (by decide) (fun c_12 => ?_) (fun c_12 => ?_)
  · exact absurd c_12 (by omega)
  · skip
    refine lv_aload_n hx hb dX4_setGear_15 rfl (lv_at hl 0 rfl) ?_
    refine lv_iconst (v := nI 1) hx hb dX4_setGear_16 (by decide +kernel) ?_
    refine k_callV (As := [.int (nI 1)]) (rest := []) (wr := [(qi, .inl (cI, 6, .inl gi)), (qs, .inl (cI, 6, .inl gs)), (qe, .inl (cI, 6, .inl ge)), (qn, .inl (cI, 42, .inl w))]) F (c_X4_no l D cI mo qi qs qe qn qk (nI 0) (nI (stS q)) (stM q) (nI ((stT q).length)) (nI 1) ) gX4_setGear_X4_no rfl (nA := 1) (by decide +kernel) rfl ⟨Nat.le_of_ble_eq_true rfl, Nat.le_of_ble_eq_true rfl⟩ hK hP hD hS hA hG (ci := 4) (q0 := 0) rfl rfl rfl [0] [1, 2, 3, 4] rfl (by decide) rfl (by decide) (by decide) [0] rfl rfl hl.1 (Nat.le_of_ble_eq_true rfl) dX4_setGear_17 ⟨Nat.le_of_ble_eq_true rfl, Nat.le_of_ble_eq_true rfl⟩ (fun r_2 u H locs hr_17 hP hD hS => ?_)
    try dsimp only at hr_17
    have hP : va_P D vwCl [(qi, .inl (cI, 6, .inl gi)), (qs, .inl (cI, 6, .inl gs)), (qe, .inl (cI, 6, .inl ge)), (qn, .inl (cI, 42, .inl w)), (mo, .inr (4, [.int (nI 1), .int (nI (stS q)), .int (stM q), .int (nI ((stT q).length)), .ref qi, .ref qs, .ref qe, .ref qn, .ref qk]))] H := hP
    have hD : va_D A [(qi, .inl (cI, 6, .inl gi)), (qs, .inl (cI, 6, .inl gs)), (qe, .inl (cI, 6, .inl ge)), (qn, .inl (cI, 42, .inl w)), (mo, .inr (4, [.int (nI 1), .int (nI (stS q)), .int (stM q), .int (nI ((stT q).length)), .ref qi, .ref qs, .ref qe, .ref qn, .ref qk]))] := hD
    refine W.eq (g2 := F0 m 20 ls [.int r_2]) rfl ?_
    refine W.widen (k := 0) (n := 0) (Nat.le_of_ble_eq_true rfl) (Nat.le_of_ble_eq_true rfl) ?_
    exact ret r_2 () _ _ _ _ _ _ (trivial) (hP.sub [4, 0, 1, 2, 3] (rfl)) (hD.sub [4, 0, 1, 2, 3] (by decide) (rfl)) hS (Nat.le_of_ble_eq_true rfl) (Nat.le_of_ble_eq_true rfl) dX4_setGear_20

abbrev rm_X4_setStones_no : Room := { frames := 1, cells := 0, slots := 0, locals := 22 }
set_option maxHeartbeats 4000000 in
set_option maxRecDepth 100000 in
theorem c_X4_setStones_no (l : Launch) (D : va_G) (cI : ClassId) (mo : Nat) (qi : Nat) (qs : Nat) (qe : Nat) (qn : Nat) (qk : Nat) (tw : Int32) (gi : Nat → Int32) (gs : Nat → Int32) (ge : Nat → Int32) (w : Nat → Int32) (q : St) (x : Int32) (hN : rN gi gs ge w q) (hx9 : ¬ (nI 1 ≤ x ∧ x ≤ nI 4)) : kM kri l yX4_setStones wsX4_setStones rm_X4_setStones_no D [(cI, .int)] [.ref mo, .int x] [(mo, .inr (4, [.int tw, .int (nI (stS q)), .int (stM q), .int (nI ((stT q).length)), .ref qi, .ref qs, .ref qe, .ref qn, .ref qk])), (qi, .inl (cI, 6, .inl gi)), (qs, .inl (cI, 6, .inl gs)), (qe, .inl (cI, 6, .inl ge)), (qn, .inl (cI, 42, .inl w))] (fun (r : Int32) (u : Unit) => True) (fun (u : Unit) => [(mo, .inr (4, [.int (nI 1), .int (nI (stS q)), .int (stM q), .int (nI ((stT q).length)), .ref qi, .ref qs, .ref qe, .ref qn, .ref qk])), (qi, .inl (cI, 6, .inl gi)), (qs, .inl (cI, 6, .inl gs)), (qe, .inl (cI, 6, .inl ge)), (qn, .inl (cI, 42, .inl w))]) := by
  refine k_bodyI (cc := cX4_setStones) (maxL := 3) (by decide) rfl (Nat.le_of_ble_eq_true rfl) ?_
  intro p e ss m args below meth c A Q F hname hA hG hK hP hD hS ret ls hl
  obtain ⟨hx, hb, hml, hown, hts⟩ := id F
  have hP : va_P D vwCl [(mo, .inr (4, [.int tw, .int (nI (stS q)), .int (stM q), .int (nI ((stT q).length)), .ref qi, .ref qs, .ref qe, .ref qn, .ref qk])), (qi, .inl (cI, 6, .inl gi)), (qs, .inl (cI, 6, .inl gs)), (qe, .inl (cI, 6, .inl ge)), (qn, .inl (cI, 42, .inl w))] ss.heap := hP
  have hD : va_D A [(mo, .inr (4, [.int tw, .int (nI (stS q)), .int (stM q), .int (nI ((stT q).length)), .ref qi, .ref qs, .ref qe, .ref qn, .ref qk])), (qi, .inl (cI, 6, .inl gi)), (qs, .inl (cI, 6, .inl gs)), (qe, .inl (cI, 6, .inl ge)), (qn, .inl (cI, 42, .inl w))] := hD
  have hl : lv_has ls 3 [(0, .ref mo), (1, .int x)] := hl
  have iX4 : ∀ w ∈ u_ws RX4 TX4 9, w ∈ wsX4_setStones := by decide +kernel
  have f32 := hts (.fieldLink RX4 32 "SmallerTalkModel" "thrown" "I") (by decide +kernel)
  obtain ⟨n0, n1, n2, n3, n4, n5, nB, nT⟩ := id hN
  refine lv_aload_n hx hb dX4_setStones_0 rfl (lv_at hl 0 rfl) ?_
  refine lv_iconst (v := nI 0) hx hb dX4_setStones_1 (by decide +kernel) ?_
  refine va_put (D := D) (ci := 4) (v := .int (nI 0)) (ty := .int) (C := RX4) (T := TX4) (N := 9) hx hb hts iX4 tyX4 tyX4_ok nmX4 hown hK hP hD hS 0 rfl rfl 0 (by decide) f32 (fun _ h9 => h9) rfl (by decide +kernel) rfl rfl (Nat.le_of_ble_eq_true rfl) dX4_setStones_2 (fun H locs hP hD hS => ?_)
  have hP : va_P D vwCl [(mo, .inr (4, [.int (nI 0), .int (nI (stS q)), .int (stM q), .int (nI ((stT q).length)), .ref qi, .ref qs, .ref qe, .ref qn, .ref qk])), (qi, .inl (cI, 6, .inl gi)), (qs, .inl (cI, 6, .inl gs)), (qe, .inl (cI, 6, .inl ge)), (qn, .inl (cI, 42, .inl w))] H := hP
  have hD : va_D A [(mo, .inr (4, [.int (nI 0), .int (nI (stS q)), .int (stM q), .int (nI ((stT q).length)), .ref qi, .ref qs, .ref qe, .ref qn, .ref qk])), (qi, .inl (cI, 6, .inl gi)), (qs, .inl (cI, 6, .inl gs)), (qe, .inl (cI, 6, .inl ge)), (qn, .inl (cI, 42, .inl w))] := hD
  refine lv_iload_n hx hb dX4_setStones_5 rfl (lv_at hl 1 rfl) ?_
  refine lv_iconst (v := nI 1) hx hb dX4_setStones_6 (by decide +kernel) ?_
  refine lv_iconst (v := nI 4) hx hb dX4_setStones_7 (by decide +kernel) ?_
  refine k_callS (As := [.int x, .int (nI 1), .int (nI 4)]) (rest := []) (wr := [(mo, .inr (4, [.int (nI 0), .int (nI (stS q)), .int (stM q), .int (nI ((stT q).length)), .ref qi, .ref qs, .ref qe, .ref qn, .ref qk])), (qi, .inl (cI, 6, .inl gi)), (qs, .inl (cI, 6, .inl gs)), (qe, .inl (cI, 6, .inl ge)), (qn, .inl (cI, 42, .inl w))]) F (c_X4_isIn_no l D cI x (nI 1) (nI 4) hx9) gX4_setStones_X4_isIn rfl (nA := 3) (by decide +kernel) rfl ⟨Nat.le_of_ble_eq_true rfl, Nat.le_of_ble_eq_true rfl⟩ hK hP hD hS hA hG [] [0, 1, 2, 3, 4] rfl (by decide) rfl (by decide) (by decide) [0] rfl rfl hl.1 (Nat.le_of_ble_eq_true rfl) dX4_setStones_8 ⟨Nat.le_of_ble_eq_true rfl, Nat.le_of_ble_eq_true rfl⟩ (fun r_1 u H locs hr_8 hP hD hS => ?_)
  try dsimp only at hr_8
  have hP : va_P D vwCl [(mo, .inr (4, [.int (nI 0), .int (nI (stS q)), .int (stM q), .int (nI ((stT q).length)), .ref qi, .ref qs, .ref qe, .ref qn, .ref qk])), (qi, .inl (cI, 6, .inl gi)), (qs, .inl (cI, 6, .inl gs)), (qe, .inl (cI, 6, .inl ge)), (qn, .inl (cI, 42, .inl w))] H := hP
  have hD : va_D A [(mo, .inr (4, [.int (nI 0), .int (nI (stS q)), .int (stM q), .int (nI ((stT q).length)), .ref qi, .ref qs, .ref qe, .ref qn, .ref qk])), (qi, .inl (cI, 6, .inl gi)), (qs, .inl (cI, 6, .inl gs)), (qe, .inl (cI, 6, .inl ge)), (qn, .inl (cI, 42, .inl w))] := hD
  refine W.eq (g2 := F0 m 11 ls [.int r_1]) rfl ?_
  refine W.widen (k := 0) (n := 0) (Nat.le_of_ble_eq_true rfl) (Nat.le_of_ble_eq_true rfl) ?_
  refine k_top (v := nI 0) (hr_8) ?_
  refine k_if_ne (tgt := 20) hx hb 0 rfl (by omega) dX4_setStones_11 (by decide) (fun c_11 => ?_) (fun c_11 => ?_)
  · exact absurd c_11 (by omega)
  · skip
    refine lv_aload_n hx hb dX4_setStones_14 rfl (lv_at hl 0 rfl) ?_
    refine lv_iconst (v := nI 1) hx hb dX4_setStones_15 (by decide +kernel) ?_
    refine k_callV (As := [.int (nI 1)]) (rest := []) (wr := [(qi, .inl (cI, 6, .inl gi)), (qs, .inl (cI, 6, .inl gs)), (qe, .inl (cI, 6, .inl ge)), (qn, .inl (cI, 42, .inl w))]) F (c_X4_no l D cI mo qi qs qe qn qk (nI 0) (nI (stS q)) (stM q) (nI ((stT q).length)) (nI 1) ) gX4_setStones_X4_no rfl (nA := 1) (by decide +kernel) rfl ⟨Nat.le_of_ble_eq_true rfl, Nat.le_of_ble_eq_true rfl⟩ hK hP hD hS hA hG (ci := 4) (q0 := 0) rfl rfl rfl [0] [1, 2, 3, 4] rfl (by decide) rfl (by decide) (by decide) [0] rfl rfl hl.1 (Nat.le_of_ble_eq_true rfl) dX4_setStones_16 ⟨Nat.le_of_ble_eq_true rfl, Nat.le_of_ble_eq_true rfl⟩ (fun r_2 u H locs hr_16 hP hD hS => ?_)
    try dsimp only at hr_16
    have hP : va_P D vwCl [(qi, .inl (cI, 6, .inl gi)), (qs, .inl (cI, 6, .inl gs)), (qe, .inl (cI, 6, .inl ge)), (qn, .inl (cI, 42, .inl w)), (mo, .inr (4, [.int (nI 1), .int (nI (stS q)), .int (stM q), .int (nI ((stT q).length)), .ref qi, .ref qs, .ref qe, .ref qn, .ref qk]))] H := hP
    have hD : va_D A [(qi, .inl (cI, 6, .inl gi)), (qs, .inl (cI, 6, .inl gs)), (qe, .inl (cI, 6, .inl ge)), (qn, .inl (cI, 42, .inl w)), (mo, .inr (4, [.int (nI 1), .int (nI (stS q)), .int (stM q), .int (nI ((stT q).length)), .ref qi, .ref qs, .ref qe, .ref qn, .ref qk]))] := hD
    refine W.eq (g2 := F0 m 19 ls [.int r_2]) rfl ?_
    refine W.widen (k := 0) (n := 0) (Nat.le_of_ble_eq_true rfl) (Nat.le_of_ble_eq_true rfl) ?_
    exact ret r_2 () _ _ _ _ _ _ (trivial) (hP.sub [4, 0, 1, 2, 3] (rfl)) (hD.sub [4, 0, 1, 2, 3] (by decide) (rfl)) hS (Nat.le_of_ble_eq_true rfl) (Nat.le_of_ble_eq_true rfl) dX4_setStones_19

abbrev rm_X4_setMesh_no : Room := { frames := 1, cells := 0, slots := 0, locals := 22 }
set_option maxHeartbeats 4000000 in
set_option maxRecDepth 100000 in
theorem c_X4_setMesh_no (l : Launch) (D : va_G) (cI : ClassId) (mo : Nat) (qi : Nat) (qs : Nat) (qe : Nat) (qn : Nat) (qk : Nat) (tw : Int32) (gi : Nat → Int32) (gs : Nat → Int32) (ge : Nat → Int32) (w : Nat → Int32) (q : St) (x : Int32) (hN : rN gi gs ge w q) (hx9 : ¬ (nI 0 ≤ x ∧ x ≤ nI 20)) : kM kri l yX4_setMesh wsX4_setMesh rm_X4_setMesh_no D [(cI, .int)] [.ref mo, .int x] [(mo, .inr (4, [.int tw, .int (nI (stS q)), .int (stM q), .int (nI ((stT q).length)), .ref qi, .ref qs, .ref qe, .ref qn, .ref qk])), (qi, .inl (cI, 6, .inl gi)), (qs, .inl (cI, 6, .inl gs)), (qe, .inl (cI, 6, .inl ge)), (qn, .inl (cI, 42, .inl w))] (fun (r : Int32) (u : Unit) => True) (fun (u : Unit) => [(mo, .inr (4, [.int (nI 1), .int (nI (stS q)), .int (stM q), .int (nI ((stT q).length)), .ref qi, .ref qs, .ref qe, .ref qn, .ref qk])), (qi, .inl (cI, 6, .inl gi)), (qs, .inl (cI, 6, .inl gs)), (qe, .inl (cI, 6, .inl ge)), (qn, .inl (cI, 42, .inl w))]) := by
  refine k_bodyI (cc := cX4_setMesh) (maxL := 3) (by decide) rfl (Nat.le_of_ble_eq_true rfl) ?_
  intro p e ss m args below meth c A Q F hname hA hG hK hP hD hS ret ls hl
  obtain ⟨hx, hb, hml, hown, hts⟩ := id F
  have hP : va_P D vwCl [(mo, .inr (4, [.int tw, .int (nI (stS q)), .int (stM q), .int (nI ((stT q).length)), .ref qi, .ref qs, .ref qe, .ref qn, .ref qk])), (qi, .inl (cI, 6, .inl gi)), (qs, .inl (cI, 6, .inl gs)), (qe, .inl (cI, 6, .inl ge)), (qn, .inl (cI, 42, .inl w))] ss.heap := hP
  have hD : va_D A [(mo, .inr (4, [.int tw, .int (nI (stS q)), .int (stM q), .int (nI ((stT q).length)), .ref qi, .ref qs, .ref qe, .ref qn, .ref qk])), (qi, .inl (cI, 6, .inl gi)), (qs, .inl (cI, 6, .inl gs)), (qe, .inl (cI, 6, .inl ge)), (qn, .inl (cI, 42, .inl w))] := hD
  have hl : lv_has ls 3 [(0, .ref mo), (1, .int x)] := hl
  have iX4 : ∀ w ∈ u_ws RX4 TX4 9, w ∈ wsX4_setMesh := by decide +kernel
  have f32 := hts (.fieldLink RX4 32 "SmallerTalkModel" "thrown" "I") (by decide +kernel)
  obtain ⟨n0, n1, n2, n3, n4, n5, nB, nT⟩ := id hN
  refine lv_aload_n hx hb dX4_setMesh_0 rfl (lv_at hl 0 rfl) ?_
  refine lv_iconst (v := nI 0) hx hb dX4_setMesh_1 (by decide +kernel) ?_
  refine va_put (D := D) (ci := 4) (v := .int (nI 0)) (ty := .int) (C := RX4) (T := TX4) (N := 9) hx hb hts iX4 tyX4 tyX4_ok nmX4 hown hK hP hD hS 0 rfl rfl 0 (by decide) f32 (fun _ h9 => h9) rfl (by decide +kernel) rfl rfl (Nat.le_of_ble_eq_true rfl) dX4_setMesh_2 (fun H locs hP hD hS => ?_)
  have hP : va_P D vwCl [(mo, .inr (4, [.int (nI 0), .int (nI (stS q)), .int (stM q), .int (nI ((stT q).length)), .ref qi, .ref qs, .ref qe, .ref qn, .ref qk])), (qi, .inl (cI, 6, .inl gi)), (qs, .inl (cI, 6, .inl gs)), (qe, .inl (cI, 6, .inl ge)), (qn, .inl (cI, 42, .inl w))] H := hP
  have hD : va_D A [(mo, .inr (4, [.int (nI 0), .int (nI (stS q)), .int (stM q), .int (nI ((stT q).length)), .ref qi, .ref qs, .ref qe, .ref qn, .ref qk])), (qi, .inl (cI, 6, .inl gi)), (qs, .inl (cI, 6, .inl gs)), (qe, .inl (cI, 6, .inl ge)), (qn, .inl (cI, 42, .inl w))] := hD
  refine lv_iload_n hx hb dX4_setMesh_5 rfl (lv_at hl 1 rfl) ?_
  refine lv_iconst (v := nI 0) hx hb dX4_setMesh_6 (by decide +kernel) ?_
  refine lv_bipush (v := nI 20) hx hb dX4_setMesh_7 (by decide +kernel) ?_
  refine k_callS (As := [.int x, .int (nI 0), .int (nI 20)]) (rest := []) (wr := [(mo, .inr (4, [.int (nI 0), .int (nI (stS q)), .int (stM q), .int (nI ((stT q).length)), .ref qi, .ref qs, .ref qe, .ref qn, .ref qk])), (qi, .inl (cI, 6, .inl gi)), (qs, .inl (cI, 6, .inl gs)), (qe, .inl (cI, 6, .inl ge)), (qn, .inl (cI, 42, .inl w))]) F (c_X4_isIn_no l D cI x (nI 0) (nI 20) hx9) gX4_setMesh_X4_isIn rfl (nA := 3) (by decide +kernel) rfl ⟨Nat.le_of_ble_eq_true rfl, Nat.le_of_ble_eq_true rfl⟩ hK hP hD hS hA hG [] [0, 1, 2, 3, 4] rfl (by decide) rfl (by decide) (by decide) [0] rfl rfl hl.1 (Nat.le_of_ble_eq_true rfl) dX4_setMesh_9 ⟨Nat.le_of_ble_eq_true rfl, Nat.le_of_ble_eq_true rfl⟩ (fun r_1 u H locs hr_9 hP hD hS => ?_)
  try dsimp only at hr_9
  have hP : va_P D vwCl [(mo, .inr (4, [.int (nI 0), .int (nI (stS q)), .int (stM q), .int (nI ((stT q).length)), .ref qi, .ref qs, .ref qe, .ref qn, .ref qk])), (qi, .inl (cI, 6, .inl gi)), (qs, .inl (cI, 6, .inl gs)), (qe, .inl (cI, 6, .inl ge)), (qn, .inl (cI, 42, .inl w))] H := hP
  have hD : va_D A [(mo, .inr (4, [.int (nI 0), .int (nI (stS q)), .int (stM q), .int (nI ((stT q).length)), .ref qi, .ref qs, .ref qe, .ref qn, .ref qk])), (qi, .inl (cI, 6, .inl gi)), (qs, .inl (cI, 6, .inl gs)), (qe, .inl (cI, 6, .inl ge)), (qn, .inl (cI, 42, .inl w))] := hD
  refine W.eq (g2 := F0 m 12 ls [.int r_1]) rfl ?_
  refine W.widen (k := 0) (n := 0) (Nat.le_of_ble_eq_true rfl) (Nat.le_of_ble_eq_true rfl) ?_
  refine k_top (v := nI 0) (hr_9) ?_
  refine k_if_ne (tgt := 21) hx hb 0 rfl (by omega) dX4_setMesh_12 (by decide) (fun c_12 => ?_) (fun c_12 => ?_)
  · exact absurd c_12 (by omega)
  · skip
    refine lv_aload_n hx hb dX4_setMesh_15 rfl (lv_at hl 0 rfl) ?_
    refine lv_iconst (v := nI 1) hx hb dX4_setMesh_16 (by decide +kernel) ?_
    refine k_callV (As := [.int (nI 1)]) (rest := []) (wr := [(qi, .inl (cI, 6, .inl gi)), (qs, .inl (cI, 6, .inl gs)), (qe, .inl (cI, 6, .inl ge)), (qn, .inl (cI, 42, .inl w))]) F (c_X4_no l D cI mo qi qs qe qn qk (nI 0) (nI (stS q)) (stM q) (nI ((stT q).length)) (nI 1) ) gX4_setMesh_X4_no rfl (nA := 1) (by decide +kernel) rfl ⟨Nat.le_of_ble_eq_true rfl, Nat.le_of_ble_eq_true rfl⟩ hK hP hD hS hA hG (ci := 4) (q0 := 0) rfl rfl rfl [0] [1, 2, 3, 4] rfl (by decide) rfl (by decide) (by decide) [0] rfl rfl hl.1 (Nat.le_of_ble_eq_true rfl) dX4_setMesh_17 ⟨Nat.le_of_ble_eq_true rfl, Nat.le_of_ble_eq_true rfl⟩ (fun r_2 u H locs hr_17 hP hD hS => ?_)
    try dsimp only at hr_17
    have hP : va_P D vwCl [(qi, .inl (cI, 6, .inl gi)), (qs, .inl (cI, 6, .inl gs)), (qe, .inl (cI, 6, .inl ge)), (qn, .inl (cI, 42, .inl w)), (mo, .inr (4, [.int (nI 1), .int (nI (stS q)), .int (stM q), .int (nI ((stT q).length)), .ref qi, .ref qs, .ref qe, .ref qn, .ref qk]))] H := hP
    have hD : va_D A [(qi, .inl (cI, 6, .inl gi)), (qs, .inl (cI, 6, .inl gs)), (qe, .inl (cI, 6, .inl ge)), (qn, .inl (cI, 42, .inl w)), (mo, .inr (4, [.int (nI 1), .int (nI (stS q)), .int (stM q), .int (nI ((stT q).length)), .ref qi, .ref qs, .ref qe, .ref qn, .ref qk]))] := hD
    refine W.eq (g2 := F0 m 20 ls [.int r_2]) rfl ?_
    refine W.widen (k := 0) (n := 0) (Nat.le_of_ble_eq_true rfl) (Nat.le_of_ble_eq_true rfl) ?_
    exact ret r_2 () _ _ _ _ _ _ (trivial) (hP.sub [4, 0, 1, 2, 3] (rfl)) (hD.sub [4, 0, 1, 2, 3] (by decide) (rfl)) hS (Nat.le_of_ble_eq_true rfl) (Nat.le_of_ble_eq_true rfl) dX4_setMesh_20

abbrev rm_X4_topicsOf_no : Room := { frames := 1, cells := 0, slots := 0, locals := 22 }
set_option maxHeartbeats 4000000 in
set_option maxRecDepth 100000 in
theorem c_X4_topicsOf_no (l : Launch) (D : va_G) (cI : ClassId) (mo : Nat) (qi : Nat) (qs : Nat) (qe : Nat) (qn : Nat) (qk : Nat) (tw : Int32) (gi : Nat → Int32) (gs : Nat → Int32) (ge : Nat → Int32) (w : Nat → Int32) (q : St) (x : Int32) (hN : rN gi gs ge w q) (hx9 : ¬ (nI 0 ≤ x ∧ x ≤ nI 4)) : kM kri l yX4_topicsOf wsX4_topicsOf rm_X4_topicsOf_no D [(cI, .int)] [.ref mo, .int x] [(mo, .inr (4, [.int tw, .int (nI (stS q)), .int (stM q), .int (nI ((stT q).length)), .ref qi, .ref qs, .ref qe, .ref qn, .ref qk])), (qi, .inl (cI, 6, .inl gi)), (qs, .inl (cI, 6, .inl gs)), (qe, .inl (cI, 6, .inl ge)), (qn, .inl (cI, 42, .inl w))] (fun (r : Int32) (u : Unit) => True) (fun (u : Unit) => [(mo, .inr (4, [.int (nI 1), .int (nI (stS q)), .int (stM q), .int (nI ((stT q).length)), .ref qi, .ref qs, .ref qe, .ref qn, .ref qk])), (qi, .inl (cI, 6, .inl gi)), (qs, .inl (cI, 6, .inl gs)), (qe, .inl (cI, 6, .inl ge)), (qn, .inl (cI, 42, .inl w))]) := by
  refine k_bodyI (cc := cX4_topicsOf) (maxL := 4) (by decide) rfl (Nat.le_of_ble_eq_true rfl) ?_
  intro p e ss m args below meth c A Q F hname hA hG hK hP hD hS ret ls hl
  obtain ⟨hx, hb, hml, hown, hts⟩ := id F
  have hP : va_P D vwCl [(mo, .inr (4, [.int tw, .int (nI (stS q)), .int (stM q), .int (nI ((stT q).length)), .ref qi, .ref qs, .ref qe, .ref qn, .ref qk])), (qi, .inl (cI, 6, .inl gi)), (qs, .inl (cI, 6, .inl gs)), (qe, .inl (cI, 6, .inl ge)), (qn, .inl (cI, 42, .inl w))] ss.heap := hP
  have hD : va_D A [(mo, .inr (4, [.int tw, .int (nI (stS q)), .int (stM q), .int (nI ((stT q).length)), .ref qi, .ref qs, .ref qe, .ref qn, .ref qk])), (qi, .inl (cI, 6, .inl gi)), (qs, .inl (cI, 6, .inl gs)), (qe, .inl (cI, 6, .inl ge)), (qn, .inl (cI, 42, .inl w))] := hD
  have hl : lv_has ls 4 [(0, .ref mo), (1, .int x)] := hl
  have iX4 : ∀ w ∈ u_ws RX4 TX4 9, w ∈ wsX4_topicsOf := by decide +kernel
  have f32 := hts (.fieldLink RX4 32 "SmallerTalkModel" "thrown" "I") (by decide +kernel)
  obtain ⟨n0, n1, n2, n3, n4, n5, nB, nT⟩ := id hN
  refine lv_aload_n hx hb dX4_topicsOf_0 rfl (lv_at hl 0 rfl) ?_
  refine lv_iconst (v := nI 0) hx hb dX4_topicsOf_1 (by decide +kernel) ?_
  refine va_put (D := D) (ci := 4) (v := .int (nI 0)) (ty := .int) (C := RX4) (T := TX4) (N := 9) hx hb hts iX4 tyX4 tyX4_ok nmX4 hown hK hP hD hS 0 rfl rfl 0 (by decide) f32 (fun _ h9 => h9) rfl (by decide +kernel) rfl rfl (Nat.le_of_ble_eq_true rfl) dX4_topicsOf_2 (fun H locs hP hD hS => ?_)
  have hP : va_P D vwCl [(mo, .inr (4, [.int (nI 0), .int (nI (stS q)), .int (stM q), .int (nI ((stT q).length)), .ref qi, .ref qs, .ref qe, .ref qn, .ref qk])), (qi, .inl (cI, 6, .inl gi)), (qs, .inl (cI, 6, .inl gs)), (qe, .inl (cI, 6, .inl ge)), (qn, .inl (cI, 42, .inl w))] H := hP
  have hD : va_D A [(mo, .inr (4, [.int (nI 0), .int (nI (stS q)), .int (stM q), .int (nI ((stT q).length)), .ref qi, .ref qs, .ref qe, .ref qn, .ref qk])), (qi, .inl (cI, 6, .inl gi)), (qs, .inl (cI, 6, .inl gs)), (qe, .inl (cI, 6, .inl ge)), (qn, .inl (cI, 42, .inl w))] := hD
  refine lv_iload_n hx hb dX4_topicsOf_5 rfl (lv_at hl 1 rfl) ?_
  refine lv_iconst (v := nI 0) hx hb dX4_topicsOf_6 (by decide +kernel) ?_
  refine lv_iconst (v := nI 4) hx hb dX4_topicsOf_7 (by decide +kernel) ?_
  refine k_callS (As := [.int x, .int (nI 0), .int (nI 4)]) (rest := []) (wr := [(mo, .inr (4, [.int (nI 0), .int (nI (stS q)), .int (stM q), .int (nI ((stT q).length)), .ref qi, .ref qs, .ref qe, .ref qn, .ref qk])), (qi, .inl (cI, 6, .inl gi)), (qs, .inl (cI, 6, .inl gs)), (qe, .inl (cI, 6, .inl ge)), (qn, .inl (cI, 42, .inl w))]) F (c_X4_isIn_no l D cI x (nI 0) (nI 4) hx9) gX4_topicsOf_X4_isIn rfl (nA := 3) (by decide +kernel) rfl ⟨Nat.le_of_ble_eq_true rfl, Nat.le_of_ble_eq_true rfl⟩ hK hP hD hS hA hG [] [0, 1, 2, 3, 4] rfl (by decide) rfl (by decide) (by decide) [0] rfl rfl hl.1 (Nat.le_of_ble_eq_true rfl) dX4_topicsOf_8 ⟨Nat.le_of_ble_eq_true rfl, Nat.le_of_ble_eq_true rfl⟩ (fun r_1 u H locs hr_8 hP hD hS => ?_)
  try dsimp only at hr_8
  have hP : va_P D vwCl [(mo, .inr (4, [.int (nI 0), .int (nI (stS q)), .int (stM q), .int (nI ((stT q).length)), .ref qi, .ref qs, .ref qe, .ref qn, .ref qk])), (qi, .inl (cI, 6, .inl gi)), (qs, .inl (cI, 6, .inl gs)), (qe, .inl (cI, 6, .inl ge)), (qn, .inl (cI, 42, .inl w))] H := hP
  have hD : va_D A [(mo, .inr (4, [.int (nI 0), .int (nI (stS q)), .int (stM q), .int (nI ((stT q).length)), .ref qi, .ref qs, .ref qe, .ref qn, .ref qk])), (qi, .inl (cI, 6, .inl gi)), (qs, .inl (cI, 6, .inl gs)), (qe, .inl (cI, 6, .inl ge)), (qn, .inl (cI, 42, .inl w))] := hD
  refine W.eq (g2 := F0 m 11 ls [.int r_1]) rfl ?_
  refine W.widen (k := 0) (n := 0) (Nat.le_of_ble_eq_true rfl) (Nat.le_of_ble_eq_true rfl) ?_
  refine k_top (v := nI 0) (hr_8) ?_
  refine k_if_ne (tgt := 20) hx hb 0 rfl (by omega) dX4_topicsOf_11 (by decide) (fun c_11 => ?_) (fun c_11 => ?_)
  · exact absurd c_11 (by omega)
  · skip
    refine lv_aload_n hx hb dX4_topicsOf_14 rfl (lv_at hl 0 rfl) ?_
    refine lv_iconst (v := nI 1) hx hb dX4_topicsOf_15 (by decide +kernel) ?_
    refine k_callV (As := [.int (nI 1)]) (rest := []) (wr := [(qi, .inl (cI, 6, .inl gi)), (qs, .inl (cI, 6, .inl gs)), (qe, .inl (cI, 6, .inl ge)), (qn, .inl (cI, 42, .inl w))]) F (c_X4_no l D cI mo qi qs qe qn qk (nI 0) (nI (stS q)) (stM q) (nI ((stT q).length)) (nI 1) ) gX4_topicsOf_X4_no rfl (nA := 1) (by decide +kernel) rfl ⟨Nat.le_of_ble_eq_true rfl, Nat.le_of_ble_eq_true rfl⟩ hK hP hD hS hA hG (ci := 4) (q0 := 0) rfl rfl rfl [0] [1, 2, 3, 4] rfl (by decide) rfl (by decide) (by decide) [0] rfl rfl hl.1 (Nat.le_of_ble_eq_true rfl) dX4_topicsOf_16 ⟨Nat.le_of_ble_eq_true rfl, Nat.le_of_ble_eq_true rfl⟩ (fun r_2 u H locs hr_16 hP hD hS => ?_)
    try dsimp only at hr_16
    have hP : va_P D vwCl [(qi, .inl (cI, 6, .inl gi)), (qs, .inl (cI, 6, .inl gs)), (qe, .inl (cI, 6, .inl ge)), (qn, .inl (cI, 42, .inl w)), (mo, .inr (4, [.int (nI 1), .int (nI (stS q)), .int (stM q), .int (nI ((stT q).length)), .ref qi, .ref qs, .ref qe, .ref qn, .ref qk]))] H := hP
    have hD : va_D A [(qi, .inl (cI, 6, .inl gi)), (qs, .inl (cI, 6, .inl gs)), (qe, .inl (cI, 6, .inl ge)), (qn, .inl (cI, 42, .inl w)), (mo, .inr (4, [.int (nI 1), .int (nI (stS q)), .int (stM q), .int (nI ((stT q).length)), .ref qi, .ref qs, .ref qe, .ref qn, .ref qk]))] := hD
    refine W.eq (g2 := F0 m 19 ls [.int r_2]) rfl ?_
    refine W.widen (k := 0) (n := 0) (Nat.le_of_ble_eq_true rfl) (Nat.le_of_ble_eq_true rfl) ?_
    exact ret r_2 () _ _ _ _ _ _ (trivial) (hP.sub [4, 0, 1, 2, 3] (rfl)) (hD.sub [4, 0, 1, 2, 3] (by decide) (rfl)) hS (Nat.le_of_ble_eq_true rfl) (Nat.le_of_ble_eq_true rfl) dX4_topicsOf_19

abbrev rm_X4_noiseIn_no : Room := { frames := 1, cells := 0, slots := 0, locals := 22 }
set_option maxHeartbeats 4000000 in
set_option maxRecDepth 100000 in
theorem c_X4_noiseIn_no (l : Launch) (D : va_G) (cI : ClassId) (mo : Nat) (qi : Nat) (qs : Nat) (qe : Nat) (qn : Nat) (qk : Nat) (tw : Int32) (gi : Nat → Int32) (gs : Nat → Int32) (ge : Nat → Int32) (w : Nat → Int32) (q : St) (x : Int32) (hN : rN gi gs ge w q) (hx9 : ¬ (nI 1 ≤ x ∧ x ≤ nI 60)) : kM kri l yX4_noiseIn wsX4_noiseIn rm_X4_noiseIn_no D [(cI, .int)] [.ref mo, .int x] [(mo, .inr (4, [.int tw, .int (nI (stS q)), .int (stM q), .int (nI ((stT q).length)), .ref qi, .ref qs, .ref qe, .ref qn, .ref qk])), (qi, .inl (cI, 6, .inl gi)), (qs, .inl (cI, 6, .inl gs)), (qe, .inl (cI, 6, .inl ge)), (qn, .inl (cI, 42, .inl w))] (fun (r : Int32) (u : Unit) => True) (fun (u : Unit) => [(mo, .inr (4, [.int (nI 1), .int (nI (stS q)), .int (stM q), .int (nI ((stT q).length)), .ref qi, .ref qs, .ref qe, .ref qn, .ref qk])), (qi, .inl (cI, 6, .inl gi)), (qs, .inl (cI, 6, .inl gs)), (qe, .inl (cI, 6, .inl ge)), (qn, .inl (cI, 42, .inl w))]) := by
  refine k_bodyI (cc := cX4_noiseIn) (maxL := 2) (by decide) rfl (Nat.le_of_ble_eq_true rfl) ?_
  intro p e ss m args below meth c A Q F hname hA hG hK hP hD hS ret ls hl
  obtain ⟨hx, hb, hml, hown, hts⟩ := id F
  have hP : va_P D vwCl [(mo, .inr (4, [.int tw, .int (nI (stS q)), .int (stM q), .int (nI ((stT q).length)), .ref qi, .ref qs, .ref qe, .ref qn, .ref qk])), (qi, .inl (cI, 6, .inl gi)), (qs, .inl (cI, 6, .inl gs)), (qe, .inl (cI, 6, .inl ge)), (qn, .inl (cI, 42, .inl w))] ss.heap := hP
  have hD : va_D A [(mo, .inr (4, [.int tw, .int (nI (stS q)), .int (stM q), .int (nI ((stT q).length)), .ref qi, .ref qs, .ref qe, .ref qn, .ref qk])), (qi, .inl (cI, 6, .inl gi)), (qs, .inl (cI, 6, .inl gs)), (qe, .inl (cI, 6, .inl ge)), (qn, .inl (cI, 42, .inl w))] := hD
  have hl : lv_has ls 2 [(0, .ref mo), (1, .int x)] := hl
  have iX4 : ∀ w ∈ u_ws RX4 TX4 9, w ∈ wsX4_noiseIn := by decide +kernel
  have f32 := hts (.fieldLink RX4 32 "SmallerTalkModel" "thrown" "I") (by decide +kernel)
  obtain ⟨n0, n1, n2, n3, n4, n5, nB, nT⟩ := id hN
  refine lv_aload_n hx hb dX4_noiseIn_0 rfl (lv_at hl 0 rfl) ?_
  refine lv_iconst (v := nI 0) hx hb dX4_noiseIn_1 (by decide +kernel) ?_
  refine va_put (D := D) (ci := 4) (v := .int (nI 0)) (ty := .int) (C := RX4) (T := TX4) (N := 9) hx hb hts iX4 tyX4 tyX4_ok nmX4 hown hK hP hD hS 0 rfl rfl 0 (by decide) f32 (fun _ h9 => h9) rfl (by decide +kernel) rfl rfl (Nat.le_of_ble_eq_true rfl) dX4_noiseIn_2 (fun H locs hP hD hS => ?_)
  have hP : va_P D vwCl [(mo, .inr (4, [.int (nI 0), .int (nI (stS q)), .int (stM q), .int (nI ((stT q).length)), .ref qi, .ref qs, .ref qe, .ref qn, .ref qk])), (qi, .inl (cI, 6, .inl gi)), (qs, .inl (cI, 6, .inl gs)), (qe, .inl (cI, 6, .inl ge)), (qn, .inl (cI, 42, .inl w))] H := hP
  have hD : va_D A [(mo, .inr (4, [.int (nI 0), .int (nI (stS q)), .int (stM q), .int (nI ((stT q).length)), .ref qi, .ref qs, .ref qe, .ref qn, .ref qk])), (qi, .inl (cI, 6, .inl gi)), (qs, .inl (cI, 6, .inl gs)), (qe, .inl (cI, 6, .inl ge)), (qn, .inl (cI, 42, .inl w))] := hD
  refine lv_iload_n hx hb dX4_noiseIn_5 rfl (lv_at hl 1 rfl) ?_
  refine lv_iconst (v := nI 1) hx hb dX4_noiseIn_6 (by decide +kernel) ?_
  refine lv_bipush (v := nI 60) hx hb dX4_noiseIn_7 (by decide +kernel) ?_
  refine k_callS (As := [.int x, .int (nI 1), .int (nI 60)]) (rest := []) (wr := [(mo, .inr (4, [.int (nI 0), .int (nI (stS q)), .int (stM q), .int (nI ((stT q).length)), .ref qi, .ref qs, .ref qe, .ref qn, .ref qk])), (qi, .inl (cI, 6, .inl gi)), (qs, .inl (cI, 6, .inl gs)), (qe, .inl (cI, 6, .inl ge)), (qn, .inl (cI, 42, .inl w))]) F (c_X4_isIn_no l D cI x (nI 1) (nI 60) hx9) gX4_noiseIn_X4_isIn rfl (nA := 3) (by decide +kernel) rfl ⟨Nat.le_of_ble_eq_true rfl, Nat.le_of_ble_eq_true rfl⟩ hK hP hD hS hA hG [] [0, 1, 2, 3, 4] rfl (by decide) rfl (by decide) (by decide) [0] rfl rfl hl.1 (Nat.le_of_ble_eq_true rfl) dX4_noiseIn_9 ⟨Nat.le_of_ble_eq_true rfl, Nat.le_of_ble_eq_true rfl⟩ (fun r_1 u H locs hr_9 hP hD hS => ?_)
  try dsimp only at hr_9
  have hP : va_P D vwCl [(mo, .inr (4, [.int (nI 0), .int (nI (stS q)), .int (stM q), .int (nI ((stT q).length)), .ref qi, .ref qs, .ref qe, .ref qn, .ref qk])), (qi, .inl (cI, 6, .inl gi)), (qs, .inl (cI, 6, .inl gs)), (qe, .inl (cI, 6, .inl ge)), (qn, .inl (cI, 42, .inl w))] H := hP
  have hD : va_D A [(mo, .inr (4, [.int (nI 0), .int (nI (stS q)), .int (stM q), .int (nI ((stT q).length)), .ref qi, .ref qs, .ref qe, .ref qn, .ref qk])), (qi, .inl (cI, 6, .inl gi)), (qs, .inl (cI, 6, .inl gs)), (qe, .inl (cI, 6, .inl ge)), (qn, .inl (cI, 42, .inl w))] := hD
  refine W.eq (g2 := F0 m 12 ls [.int r_1]) rfl ?_
  refine W.widen (k := 0) (n := 0) (Nat.le_of_ble_eq_true rfl) (Nat.le_of_ble_eq_true rfl) ?_
  refine k_top (v := nI 0) (hr_9) ?_
  refine k_if_ne (tgt := 21) hx hb 0 rfl (by omega) dX4_noiseIn_12 (by decide) (fun c_12 => ?_) (fun c_12 => ?_)
  · exact absurd c_12 (by omega)
  · skip
    refine lv_aload_n hx hb dX4_noiseIn_15 rfl (lv_at hl 0 rfl) ?_
    refine lv_iconst (v := nI 1) hx hb dX4_noiseIn_16 (by decide +kernel) ?_
    refine k_callV (As := [.int (nI 1)]) (rest := []) (wr := [(qi, .inl (cI, 6, .inl gi)), (qs, .inl (cI, 6, .inl gs)), (qe, .inl (cI, 6, .inl ge)), (qn, .inl (cI, 42, .inl w))]) F (c_X4_no l D cI mo qi qs qe qn qk (nI 0) (nI (stS q)) (stM q) (nI ((stT q).length)) (nI 1) ) gX4_noiseIn_X4_no rfl (nA := 1) (by decide +kernel) rfl ⟨Nat.le_of_ble_eq_true rfl, Nat.le_of_ble_eq_true rfl⟩ hK hP hD hS hA hG (ci := 4) (q0 := 0) rfl rfl rfl [0] [1, 2, 3, 4] rfl (by decide) rfl (by decide) (by decide) [0] rfl rfl hl.1 (Nat.le_of_ble_eq_true rfl) dX4_noiseIn_17 ⟨Nat.le_of_ble_eq_true rfl, Nat.le_of_ble_eq_true rfl⟩ (fun r_2 u H locs hr_17 hP hD hS => ?_)
    try dsimp only at hr_17
    have hP : va_P D vwCl [(qi, .inl (cI, 6, .inl gi)), (qs, .inl (cI, 6, .inl gs)), (qe, .inl (cI, 6, .inl ge)), (qn, .inl (cI, 42, .inl w)), (mo, .inr (4, [.int (nI 1), .int (nI (stS q)), .int (stM q), .int (nI ((stT q).length)), .ref qi, .ref qs, .ref qe, .ref qn, .ref qk]))] H := hP
    have hD : va_D A [(qi, .inl (cI, 6, .inl gi)), (qs, .inl (cI, 6, .inl gs)), (qe, .inl (cI, 6, .inl ge)), (qn, .inl (cI, 42, .inl w)), (mo, .inr (4, [.int (nI 1), .int (nI (stS q)), .int (stM q), .int (nI ((stT q).length)), .ref qi, .ref qs, .ref qe, .ref qn, .ref qk]))] := hD
    refine W.eq (g2 := F0 m 20 ls [.int r_2]) rfl ?_
    refine W.widen (k := 0) (n := 0) (Nat.le_of_ble_eq_true rfl) (Nat.le_of_ble_eq_true rfl) ?_
    exact ret r_2 () _ _ _ _ _ _ (trivial) (hP.sub [4, 0, 1, 2, 3] (rfl)) (hD.sub [4, 0, 1, 2, 3] (by decide) (rfl)) hS (Nat.le_of_ble_eq_true rfl) (Nat.le_of_ble_eq_true rfl) dX4_noiseIn_20

abbrev rm_X4_bottlesIn_no : Room := { frames := 1, cells := 0, slots := 0, locals := 22 }
set_option maxHeartbeats 4000000 in
set_option maxRecDepth 100000 in
theorem c_X4_bottlesIn_no (l : Launch) (D : va_G) (cI : ClassId) (mo : Nat) (qi : Nat) (qs : Nat) (qe : Nat) (qn : Nat) (qk : Nat) (tw : Int32) (gi : Nat → Int32) (gs : Nat → Int32) (ge : Nat → Int32) (w : Nat → Int32) (q : St) (x : Int32) (hN : rN gi gs ge w q) (hx9 : ¬ (nI 1 ≤ x ∧ x ≤ nI 60)) : kM kri l yX4_bottlesIn wsX4_bottlesIn rm_X4_bottlesIn_no D [(cI, .int)] [.ref mo, .int x] [(mo, .inr (4, [.int tw, .int (nI (stS q)), .int (stM q), .int (nI ((stT q).length)), .ref qi, .ref qs, .ref qe, .ref qn, .ref qk])), (qi, .inl (cI, 6, .inl gi)), (qs, .inl (cI, 6, .inl gs)), (qe, .inl (cI, 6, .inl ge)), (qn, .inl (cI, 42, .inl w))] (fun (r : Int32) (u : Unit) => True) (fun (u : Unit) => [(mo, .inr (4, [.int (nI 1), .int (nI (stS q)), .int (stM q), .int (nI ((stT q).length)), .ref qi, .ref qs, .ref qe, .ref qn, .ref qk])), (qi, .inl (cI, 6, .inl gi)), (qs, .inl (cI, 6, .inl gs)), (qe, .inl (cI, 6, .inl ge)), (qn, .inl (cI, 42, .inl w))]) := by
  refine k_bodyI (cc := cX4_bottlesIn) (maxL := 3) (by decide) rfl (Nat.le_of_ble_eq_true rfl) ?_
  intro p e ss m args below meth c A Q F hname hA hG hK hP hD hS ret ls hl
  obtain ⟨hx, hb, hml, hown, hts⟩ := id F
  have hP : va_P D vwCl [(mo, .inr (4, [.int tw, .int (nI (stS q)), .int (stM q), .int (nI ((stT q).length)), .ref qi, .ref qs, .ref qe, .ref qn, .ref qk])), (qi, .inl (cI, 6, .inl gi)), (qs, .inl (cI, 6, .inl gs)), (qe, .inl (cI, 6, .inl ge)), (qn, .inl (cI, 42, .inl w))] ss.heap := hP
  have hD : va_D A [(mo, .inr (4, [.int tw, .int (nI (stS q)), .int (stM q), .int (nI ((stT q).length)), .ref qi, .ref qs, .ref qe, .ref qn, .ref qk])), (qi, .inl (cI, 6, .inl gi)), (qs, .inl (cI, 6, .inl gs)), (qe, .inl (cI, 6, .inl ge)), (qn, .inl (cI, 42, .inl w))] := hD
  have hl : lv_has ls 3 [(0, .ref mo), (1, .int x)] := hl
  have iX4 : ∀ w ∈ u_ws RX4 TX4 9, w ∈ wsX4_bottlesIn := by decide +kernel
  have f32 := hts (.fieldLink RX4 32 "SmallerTalkModel" "thrown" "I") (by decide +kernel)
  obtain ⟨n0, n1, n2, n3, n4, n5, nB, nT⟩ := id hN
  refine lv_aload_n hx hb dX4_bottlesIn_0 rfl (lv_at hl 0 rfl) ?_
  refine lv_iconst (v := nI 0) hx hb dX4_bottlesIn_1 (by decide +kernel) ?_
  refine va_put (D := D) (ci := 4) (v := .int (nI 0)) (ty := .int) (C := RX4) (T := TX4) (N := 9) hx hb hts iX4 tyX4 tyX4_ok nmX4 hown hK hP hD hS 0 rfl rfl 0 (by decide) f32 (fun _ h9 => h9) rfl (by decide +kernel) rfl rfl (Nat.le_of_ble_eq_true rfl) dX4_bottlesIn_2 (fun H locs hP hD hS => ?_)
  have hP : va_P D vwCl [(mo, .inr (4, [.int (nI 0), .int (nI (stS q)), .int (stM q), .int (nI ((stT q).length)), .ref qi, .ref qs, .ref qe, .ref qn, .ref qk])), (qi, .inl (cI, 6, .inl gi)), (qs, .inl (cI, 6, .inl gs)), (qe, .inl (cI, 6, .inl ge)), (qn, .inl (cI, 42, .inl w))] H := hP
  have hD : va_D A [(mo, .inr (4, [.int (nI 0), .int (nI (stS q)), .int (stM q), .int (nI ((stT q).length)), .ref qi, .ref qs, .ref qe, .ref qn, .ref qk])), (qi, .inl (cI, 6, .inl gi)), (qs, .inl (cI, 6, .inl gs)), (qe, .inl (cI, 6, .inl ge)), (qn, .inl (cI, 42, .inl w))] := hD
  refine lv_iload_n hx hb dX4_bottlesIn_5 rfl (lv_at hl 1 rfl) ?_
  refine lv_iconst (v := nI 1) hx hb dX4_bottlesIn_6 (by decide +kernel) ?_
  refine lv_bipush (v := nI 60) hx hb dX4_bottlesIn_7 (by decide +kernel) ?_
  refine k_callS (As := [.int x, .int (nI 1), .int (nI 60)]) (rest := []) (wr := [(mo, .inr (4, [.int (nI 0), .int (nI (stS q)), .int (stM q), .int (nI ((stT q).length)), .ref qi, .ref qs, .ref qe, .ref qn, .ref qk])), (qi, .inl (cI, 6, .inl gi)), (qs, .inl (cI, 6, .inl gs)), (qe, .inl (cI, 6, .inl ge)), (qn, .inl (cI, 42, .inl w))]) F (c_X4_isIn_no l D cI x (nI 1) (nI 60) hx9) gX4_bottlesIn_X4_isIn rfl (nA := 3) (by decide +kernel) rfl ⟨Nat.le_of_ble_eq_true rfl, Nat.le_of_ble_eq_true rfl⟩ hK hP hD hS hA hG [] [0, 1, 2, 3, 4] rfl (by decide) rfl (by decide) (by decide) [0] rfl rfl hl.1 (Nat.le_of_ble_eq_true rfl) dX4_bottlesIn_9 ⟨Nat.le_of_ble_eq_true rfl, Nat.le_of_ble_eq_true rfl⟩ (fun r_1 u H locs hr_9 hP hD hS => ?_)
  try dsimp only at hr_9
  have hP : va_P D vwCl [(mo, .inr (4, [.int (nI 0), .int (nI (stS q)), .int (stM q), .int (nI ((stT q).length)), .ref qi, .ref qs, .ref qe, .ref qn, .ref qk])), (qi, .inl (cI, 6, .inl gi)), (qs, .inl (cI, 6, .inl gs)), (qe, .inl (cI, 6, .inl ge)), (qn, .inl (cI, 42, .inl w))] H := hP
  have hD : va_D A [(mo, .inr (4, [.int (nI 0), .int (nI (stS q)), .int (stM q), .int (nI ((stT q).length)), .ref qi, .ref qs, .ref qe, .ref qn, .ref qk])), (qi, .inl (cI, 6, .inl gi)), (qs, .inl (cI, 6, .inl gs)), (qe, .inl (cI, 6, .inl ge)), (qn, .inl (cI, 42, .inl w))] := hD
  refine W.eq (g2 := F0 m 12 ls [.int r_1]) rfl ?_
  refine W.widen (k := 0) (n := 0) (Nat.le_of_ble_eq_true rfl) (Nat.le_of_ble_eq_true rfl) ?_
  refine k_top (v := nI 0) (hr_9) ?_
  refine k_if_ne (tgt := 21) hx hb 0 rfl (by omega) dX4_bottlesIn_12 (by decide) (fun c_12 => ?_) (fun c_12 => ?_)
  · exact absurd c_12 (by omega)
  · skip
    refine lv_aload_n hx hb dX4_bottlesIn_15 rfl (lv_at hl 0 rfl) ?_
    refine lv_iconst (v := nI 1) hx hb dX4_bottlesIn_16 (by decide +kernel) ?_
    refine k_callV (As := [.int (nI 1)]) (rest := []) (wr := [(qi, .inl (cI, 6, .inl gi)), (qs, .inl (cI, 6, .inl gs)), (qe, .inl (cI, 6, .inl ge)), (qn, .inl (cI, 42, .inl w))]) F (c_X4_no l D cI mo qi qs qe qn qk (nI 0) (nI (stS q)) (stM q) (nI ((stT q).length)) (nI 1) ) gX4_bottlesIn_X4_no rfl (nA := 1) (by decide +kernel) rfl ⟨Nat.le_of_ble_eq_true rfl, Nat.le_of_ble_eq_true rfl⟩ hK hP hD hS hA hG (ci := 4) (q0 := 0) rfl rfl rfl [0] [1, 2, 3, 4] rfl (by decide) rfl (by decide) (by decide) [0] rfl rfl hl.1 (Nat.le_of_ble_eq_true rfl) dX4_bottlesIn_17 ⟨Nat.le_of_ble_eq_true rfl, Nat.le_of_ble_eq_true rfl⟩ (fun r_2 u H locs hr_17 hP hD hS => ?_)
    try dsimp only at hr_17
    have hP : va_P D vwCl [(qi, .inl (cI, 6, .inl gi)), (qs, .inl (cI, 6, .inl gs)), (qe, .inl (cI, 6, .inl ge)), (qn, .inl (cI, 42, .inl w)), (mo, .inr (4, [.int (nI 1), .int (nI (stS q)), .int (stM q), .int (nI ((stT q).length)), .ref qi, .ref qs, .ref qe, .ref qn, .ref qk]))] H := hP
    have hD : va_D A [(qi, .inl (cI, 6, .inl gi)), (qs, .inl (cI, 6, .inl gs)), (qe, .inl (cI, 6, .inl ge)), (qn, .inl (cI, 42, .inl w)), (mo, .inr (4, [.int (nI 1), .int (nI (stS q)), .int (stM q), .int (nI ((stT q).length)), .ref qi, .ref qs, .ref qe, .ref qn, .ref qk]))] := hD
    refine W.eq (g2 := F0 m 20 ls [.int r_2]) rfl ?_
    refine W.widen (k := 0) (n := 0) (Nat.le_of_ble_eq_true rfl) (Nat.le_of_ble_eq_true rfl) ?_
    exact ret r_2 () _ _ _ _ _ _ (trivial) (hP.sub [4, 0, 1, 2, 3] (rfl)) (hD.sub [4, 0, 1, 2, 3] (by decide) (rfl)) hS (Nat.le_of_ble_eq_true rfl) (Nat.le_of_ble_eq_true rfl) dX4_bottlesIn_20

abbrev rm_X4_pass__no : Room := { frames := 1, cells := 0, slots := 0, locals := 22 }
set_option maxHeartbeats 4000000 in
set_option maxRecDepth 100000 in
theorem c_X4_pass__no (l : Launch) (D : va_G) (cI : ClassId) (mo : Nat) (qi : Nat) (qs : Nat) (qe : Nat) (qn : Nat) (qk : Nat) (tw : Int32) (gi : Nat → Int32) (gs : Nat → Int32) (ge : Nat → Int32) (w : Nat → Int32) (q : St) (x : Int32) (hN : rN gi gs ge w q) (hx9 : ¬ (nI 1 ≤ x ∧ x ≤ nI 60)) : kM kri l yX4_pass_ wsX4_pass_ rm_X4_pass__no D [(cI, .int)] [.ref mo, .int x] [(mo, .inr (4, [.int tw, .int (nI (stS q)), .int (stM q), .int (nI ((stT q).length)), .ref qi, .ref qs, .ref qe, .ref qn, .ref qk])), (qi, .inl (cI, 6, .inl gi)), (qs, .inl (cI, 6, .inl gs)), (qe, .inl (cI, 6, .inl ge)), (qn, .inl (cI, 42, .inl w))] (fun (r : Int32) (u : Unit) => True) (fun (u : Unit) => [(mo, .inr (4, [.int (nI 1), .int (nI (stS q)), .int (stM q), .int (nI ((stT q).length)), .ref qi, .ref qs, .ref qe, .ref qn, .ref qk])), (qi, .inl (cI, 6, .inl gi)), (qs, .inl (cI, 6, .inl gs)), (qe, .inl (cI, 6, .inl ge)), (qn, .inl (cI, 42, .inl w))]) := by
  refine k_bodyI (cc := cX4_pass_) (maxL := 2) (by decide) rfl (Nat.le_of_ble_eq_true rfl) ?_
  intro p e ss m args below meth c A Q F hname hA hG hK hP hD hS ret ls hl
  obtain ⟨hx, hb, hml, hown, hts⟩ := id F
  have hP : va_P D vwCl [(mo, .inr (4, [.int tw, .int (nI (stS q)), .int (stM q), .int (nI ((stT q).length)), .ref qi, .ref qs, .ref qe, .ref qn, .ref qk])), (qi, .inl (cI, 6, .inl gi)), (qs, .inl (cI, 6, .inl gs)), (qe, .inl (cI, 6, .inl ge)), (qn, .inl (cI, 42, .inl w))] ss.heap := hP
  have hD : va_D A [(mo, .inr (4, [.int tw, .int (nI (stS q)), .int (stM q), .int (nI ((stT q).length)), .ref qi, .ref qs, .ref qe, .ref qn, .ref qk])), (qi, .inl (cI, 6, .inl gi)), (qs, .inl (cI, 6, .inl gs)), (qe, .inl (cI, 6, .inl ge)), (qn, .inl (cI, 42, .inl w))] := hD
  have hl : lv_has ls 2 [(0, .ref mo), (1, .int x)] := hl
  have iX4 : ∀ w ∈ u_ws RX4 TX4 9, w ∈ wsX4_pass_ := by decide +kernel
  have f32 := hts (.fieldLink RX4 32 "SmallerTalkModel" "thrown" "I") (by decide +kernel)
  obtain ⟨n0, n1, n2, n3, n4, n5, nB, nT⟩ := id hN
  refine lv_aload_n hx hb dX4_pass__0 rfl (lv_at hl 0 rfl) ?_
  refine lv_iconst (v := nI 0) hx hb dX4_pass__1 (by decide +kernel) ?_
  refine va_put (D := D) (ci := 4) (v := .int (nI 0)) (ty := .int) (C := RX4) (T := TX4) (N := 9) hx hb hts iX4 tyX4 tyX4_ok nmX4 hown hK hP hD hS 0 rfl rfl 0 (by decide) f32 (fun _ h9 => h9) rfl (by decide +kernel) rfl rfl (Nat.le_of_ble_eq_true rfl) dX4_pass__2 (fun H locs hP hD hS => ?_)
  have hP : va_P D vwCl [(mo, .inr (4, [.int (nI 0), .int (nI (stS q)), .int (stM q), .int (nI ((stT q).length)), .ref qi, .ref qs, .ref qe, .ref qn, .ref qk])), (qi, .inl (cI, 6, .inl gi)), (qs, .inl (cI, 6, .inl gs)), (qe, .inl (cI, 6, .inl ge)), (qn, .inl (cI, 42, .inl w))] H := hP
  have hD : va_D A [(mo, .inr (4, [.int (nI 0), .int (nI (stS q)), .int (stM q), .int (nI ((stT q).length)), .ref qi, .ref qs, .ref qe, .ref qn, .ref qk])), (qi, .inl (cI, 6, .inl gi)), (qs, .inl (cI, 6, .inl gs)), (qe, .inl (cI, 6, .inl ge)), (qn, .inl (cI, 42, .inl w))] := hD
  refine lv_iload_n hx hb dX4_pass__5 rfl (lv_at hl 1 rfl) ?_
  refine lv_iconst (v := nI 1) hx hb dX4_pass__6 (by decide +kernel) ?_
  refine lv_bipush (v := nI 60) hx hb dX4_pass__7 (by decide +kernel) ?_
  refine k_callS (As := [.int x, .int (nI 1), .int (nI 60)]) (rest := []) (wr := [(mo, .inr (4, [.int (nI 0), .int (nI (stS q)), .int (stM q), .int (nI ((stT q).length)), .ref qi, .ref qs, .ref qe, .ref qn, .ref qk])), (qi, .inl (cI, 6, .inl gi)), (qs, .inl (cI, 6, .inl gs)), (qe, .inl (cI, 6, .inl ge)), (qn, .inl (cI, 42, .inl w))]) F (c_X4_isIn_no l D cI x (nI 1) (nI 60) hx9) gX4_pass__X4_isIn rfl (nA := 3) (by decide +kernel) rfl ⟨Nat.le_of_ble_eq_true rfl, Nat.le_of_ble_eq_true rfl⟩ hK hP hD hS hA hG [] [0, 1, 2, 3, 4] rfl (by decide) rfl (by decide) (by decide) [0] rfl rfl hl.1 (Nat.le_of_ble_eq_true rfl) dX4_pass__9 ⟨Nat.le_of_ble_eq_true rfl, Nat.le_of_ble_eq_true rfl⟩ (fun r_1 u H locs hr_9 hP hD hS => ?_)
  try dsimp only at hr_9
  have hP : va_P D vwCl [(mo, .inr (4, [.int (nI 0), .int (nI (stS q)), .int (stM q), .int (nI ((stT q).length)), .ref qi, .ref qs, .ref qe, .ref qn, .ref qk])), (qi, .inl (cI, 6, .inl gi)), (qs, .inl (cI, 6, .inl gs)), (qe, .inl (cI, 6, .inl ge)), (qn, .inl (cI, 42, .inl w))] H := hP
  have hD : va_D A [(mo, .inr (4, [.int (nI 0), .int (nI (stS q)), .int (stM q), .int (nI ((stT q).length)), .ref qi, .ref qs, .ref qe, .ref qn, .ref qk])), (qi, .inl (cI, 6, .inl gi)), (qs, .inl (cI, 6, .inl gs)), (qe, .inl (cI, 6, .inl ge)), (qn, .inl (cI, 42, .inl w))] := hD
  refine W.eq (g2 := F0 m 12 ls [.int r_1]) rfl ?_
  refine W.widen (k := 0) (n := 0) (Nat.le_of_ble_eq_true rfl) (Nat.le_of_ble_eq_true rfl) ?_
  refine k_top (v := nI 0) (hr_9) ?_
  refine k_if_eq (tgt := 23) hx hb 0 rfl (by omega) dX4_pass__12 (by decide) (fun c_12 => ?_) (fun c_12 => ?_)
  · skip
    refine lv_aload_n hx hb dX4_pass__23 rfl (lv_at hl 0 rfl) ?_
    refine lv_iconst (v := nI 1) hx hb dX4_pass__24 (by decide +kernel) ?_
    refine k_callV (As := [.int (nI 1)]) (rest := []) (wr := [(qi, .inl (cI, 6, .inl gi)), (qs, .inl (cI, 6, .inl gs)), (qe, .inl (cI, 6, .inl ge)), (qn, .inl (cI, 42, .inl w))]) F (c_X4_no l D cI mo qi qs qe qn qk (nI 0) (nI (stS q)) (stM q) (nI ((stT q).length)) (nI 1) ) gX4_pass__X4_no rfl (nA := 1) (by decide +kernel) rfl ⟨Nat.le_of_ble_eq_true rfl, Nat.le_of_ble_eq_true rfl⟩ hK hP hD hS hA hG (ci := 4) (q0 := 0) rfl rfl rfl [0] [1, 2, 3, 4] rfl (by decide) rfl (by decide) (by decide) [0] rfl rfl hl.1 (Nat.le_of_ble_eq_true rfl) dX4_pass__25 ⟨Nat.le_of_ble_eq_true rfl, Nat.le_of_ble_eq_true rfl⟩ (fun r_2 u H locs hr_25 hP hD hS => ?_)
    try dsimp only at hr_25
    have hP : va_P D vwCl [(qi, .inl (cI, 6, .inl gi)), (qs, .inl (cI, 6, .inl gs)), (qe, .inl (cI, 6, .inl ge)), (qn, .inl (cI, 42, .inl w)), (mo, .inr (4, [.int (nI 1), .int (nI (stS q)), .int (stM q), .int (nI ((stT q).length)), .ref qi, .ref qs, .ref qe, .ref qn, .ref qk]))] H := hP
    have hD : va_D A [(qi, .inl (cI, 6, .inl gi)), (qs, .inl (cI, 6, .inl gs)), (qe, .inl (cI, 6, .inl ge)), (qn, .inl (cI, 42, .inl w)), (mo, .inr (4, [.int (nI 1), .int (nI (stS q)), .int (stM q), .int (nI ((stT q).length)), .ref qi, .ref qs, .ref qe, .ref qn, .ref qk]))] := hD
    refine W.eq (g2 := F0 m 28 ls [.int r_2]) rfl ?_
    refine W.widen (k := 0) (n := 0) (Nat.le_of_ble_eq_true rfl) (Nat.le_of_ble_eq_true rfl) ?_
    exact ret r_2 () _ _ _ _ _ _ (trivial) (hP.sub [4, 0, 1, 2, 3] (rfl)) (hD.sub [4, 0, 1, 2, 3] (by decide) (rfl)) hS (Nat.le_of_ble_eq_true rfl) (Nat.le_of_ble_eq_true rfl) dX4_pass__28
  · exact absurd c_12 (by omega)

abbrev rm_X4_put_nk : Room := { frames := 2, cells := 0, slots := 0, locals := 43 }
set_option maxHeartbeats 4000000 in
set_option maxRecDepth 100000 in
theorem c_X4_put_nk (l : Launch) (D : va_G) (cI : ClassId) (mo : Nat) (qi : Nat) (qs : Nat) (qe : Nat) (qn : Nat) (qk : Nat) (tw : Int32) (gi : Nat → Int32) (gs : Nat → Int32) (ge : Nat → Int32) (w : Nat → Int32) (q : St) (kd : Int32) (zz : Int32) (hN : rN gi gs ge w q) (hx9 : ¬ (nI 0 ≤ kd ∧ kd ≤ nI 4)) : kM kri l yX4_put wsX4_put rm_X4_put_nk D [(cI, .int)] [.ref mo, .int kd, .int zz] [(mo, .inr (4, [.int tw, .int (nI (stS q)), .int (stM q), .int (nI ((stT q).length)), .ref qi, .ref qs, .ref qe, .ref qn, .ref qk])), (qi, .inl (cI, 6, .inl gi)), (qs, .inl (cI, 6, .inl gs)), (qe, .inl (cI, 6, .inl ge)), (qn, .inl (cI, 42, .inl w))] (fun (r : Int32) (u : Unit) => True) (fun (u : Unit) => [(mo, .inr (4, [.int (nI 1), .int (nI (stS q)), .int (stM q), .int (nI ((stT q).length)), .ref qi, .ref qs, .ref qe, .ref qn, .ref qk])), (qi, .inl (cI, 6, .inl gi)), (qs, .inl (cI, 6, .inl gs)), (qe, .inl (cI, 6, .inl ge)), (qn, .inl (cI, 42, .inl w))]) := by
  refine k_bodyI (cc := cX4_put) (maxL := 3) (by decide) rfl (Nat.le_of_ble_eq_true rfl) ?_
  intro p e ss m args below meth c A Q F hname hA hG hK hP hD hS ret ls hl
  obtain ⟨hx, hb, hml, hown, hts⟩ := id F
  have hP : va_P D vwCl [(mo, .inr (4, [.int tw, .int (nI (stS q)), .int (stM q), .int (nI ((stT q).length)), .ref qi, .ref qs, .ref qe, .ref qn, .ref qk])), (qi, .inl (cI, 6, .inl gi)), (qs, .inl (cI, 6, .inl gs)), (qe, .inl (cI, 6, .inl ge)), (qn, .inl (cI, 42, .inl w))] ss.heap := hP
  have hD : va_D A [(mo, .inr (4, [.int tw, .int (nI (stS q)), .int (stM q), .int (nI ((stT q).length)), .ref qi, .ref qs, .ref qe, .ref qn, .ref qk])), (qi, .inl (cI, 6, .inl gi)), (qs, .inl (cI, 6, .inl gs)), (qe, .inl (cI, 6, .inl ge)), (qn, .inl (cI, 42, .inl w))] := hD
  have hl : lv_has ls 3 [(0, .ref mo), (1, .int kd), (2, .int zz)] := hl
  have iX4 : ∀ w ∈ u_ws RX4 TX4 9, w ∈ wsX4_put := by decide +kernel
  have f32 := hts (.fieldLink RX4 32 "SmallerTalkModel" "thrown" "I") (by decide +kernel)
  obtain ⟨n0, n1, n2, n3, n4, n5, nB, nT⟩ := id hN
  refine lv_aload_n hx hb dX4_put_0 rfl (lv_at hl 0 rfl) ?_
  refine lv_iconst (v := nI 0) hx hb dX4_put_1 (by decide +kernel) ?_
  refine va_put (D := D) (ci := 4) (v := .int (nI 0)) (ty := .int) (C := RX4) (T := TX4) (N := 9) hx hb hts iX4 tyX4 tyX4_ok nmX4 hown hK hP hD hS 0 rfl rfl 0 (by decide) f32 (fun _ h9 => h9) rfl (by decide +kernel) rfl rfl (Nat.le_of_ble_eq_true rfl) dX4_put_2 (fun H locs hP hD hS => ?_)
  have hP : va_P D vwCl [(mo, .inr (4, [.int (nI 0), .int (nI (stS q)), .int (stM q), .int (nI ((stT q).length)), .ref qi, .ref qs, .ref qe, .ref qn, .ref qk])), (qi, .inl (cI, 6, .inl gi)), (qs, .inl (cI, 6, .inl gs)), (qe, .inl (cI, 6, .inl ge)), (qn, .inl (cI, 42, .inl w))] H := hP
  have hD : va_D A [(mo, .inr (4, [.int (nI 0), .int (nI (stS q)), .int (stM q), .int (nI ((stT q).length)), .ref qi, .ref qs, .ref qe, .ref qn, .ref qk])), (qi, .inl (cI, 6, .inl gi)), (qs, .inl (cI, 6, .inl gs)), (qe, .inl (cI, 6, .inl ge)), (qn, .inl (cI, 42, .inl w))] := hD
  refine lv_iload_n hx hb dX4_put_5 rfl (lv_at hl 1 rfl) ?_
  refine lv_iload_n hx hb dX4_put_6 rfl (lv_at hl 2 rfl) ?_
  refine k_callS (As := [.int kd, .int zz]) (rest := []) (wr := [(mo, .inr (4, [.int (nI 0), .int (nI (stS q)), .int (stM q), .int (nI ((stT q).length)), .ref qi, .ref qs, .ref qe, .ref qn, .ref qk])), (qi, .inl (cI, 6, .inl gi)), (qs, .inl (cI, 6, .inl gs)), (qe, .inl (cI, 6, .inl ge)), (qn, .inl (cI, 42, .inl w))]) F (c_X4_isTopic_nk l D cI kd zz hx9) gX4_put_X4_isTopic rfl (nA := 2) (by decide +kernel) rfl ⟨Nat.le_of_ble_eq_true rfl, Nat.le_of_ble_eq_true rfl⟩ hK hP hD hS hA hG [] [0, 1, 2, 3, 4] rfl (by decide) rfl (by decide) (by decide) [0] rfl rfl hl.1 (Nat.le_of_ble_eq_true rfl) dX4_put_7 ⟨Nat.le_of_ble_eq_true rfl, Nat.le_of_ble_eq_true rfl⟩ (fun r_1 u H locs hr_7 hP hD hS => ?_)
  try dsimp only at hr_7
  have hP : va_P D vwCl [(mo, .inr (4, [.int (nI 0), .int (nI (stS q)), .int (stM q), .int (nI ((stT q).length)), .ref qi, .ref qs, .ref qe, .ref qn, .ref qk])), (qi, .inl (cI, 6, .inl gi)), (qs, .inl (cI, 6, .inl gs)), (qe, .inl (cI, 6, .inl ge)), (qn, .inl (cI, 42, .inl w))] H := hP
  have hD : va_D A [(mo, .inr (4, [.int (nI 0), .int (nI (stS q)), .int (stM q), .int (nI ((stT q).length)), .ref qi, .ref qs, .ref qe, .ref qn, .ref qk])), (qi, .inl (cI, 6, .inl gi)), (qs, .inl (cI, 6, .inl gs)), (qe, .inl (cI, 6, .inl ge)), (qn, .inl (cI, 42, .inl w))] := hD
  refine W.eq (g2 := F0 m 10 ls [.int r_1]) rfl ?_
  refine W.widen (k := 0) (n := 0) (Nat.le_of_ble_eq_true rfl) (Nat.le_of_ble_eq_true rfl) ?_
  refine k_top (v := nI 0) (hr_7) ?_
  refine k_if_ne (tgt := 19) hx hb 0 rfl (by omega) dX4_put_10 (by decide) (fun c_10 => ?_) (fun c_10 => ?_)
  · exact absurd c_10 (by omega)
  · skip
    refine lv_aload_n hx hb dX4_put_13 rfl (lv_at hl 0 rfl) ?_
    refine lv_iconst (v := nI 1) hx hb dX4_put_14 (by decide +kernel) ?_
    refine k_callV (As := [.int (nI 1)]) (rest := []) (wr := [(qi, .inl (cI, 6, .inl gi)), (qs, .inl (cI, 6, .inl gs)), (qe, .inl (cI, 6, .inl ge)), (qn, .inl (cI, 42, .inl w))]) F (c_X4_no l D cI mo qi qs qe qn qk (nI 0) (nI (stS q)) (stM q) (nI ((stT q).length)) (nI 1) ) gX4_put_X4_no rfl (nA := 1) (by decide +kernel) rfl ⟨Nat.le_of_ble_eq_true rfl, Nat.le_of_ble_eq_true rfl⟩ hK hP hD hS hA hG (ci := 4) (q0 := 0) rfl rfl rfl [0] [1, 2, 3, 4] rfl (by decide) rfl (by decide) (by decide) [0] rfl rfl hl.1 (Nat.le_of_ble_eq_true rfl) dX4_put_15 ⟨Nat.le_of_ble_eq_true rfl, Nat.le_of_ble_eq_true rfl⟩ (fun r_2 u H locs hr_15 hP hD hS => ?_)
    try dsimp only at hr_15
    have hP : va_P D vwCl [(qi, .inl (cI, 6, .inl gi)), (qs, .inl (cI, 6, .inl gs)), (qe, .inl (cI, 6, .inl ge)), (qn, .inl (cI, 42, .inl w)), (mo, .inr (4, [.int (nI 1), .int (nI (stS q)), .int (stM q), .int (nI ((stT q).length)), .ref qi, .ref qs, .ref qe, .ref qn, .ref qk]))] H := hP
    have hD : va_D A [(qi, .inl (cI, 6, .inl gi)), (qs, .inl (cI, 6, .inl gs)), (qe, .inl (cI, 6, .inl ge)), (qn, .inl (cI, 42, .inl w)), (mo, .inr (4, [.int (nI 1), .int (nI (stS q)), .int (stM q), .int (nI ((stT q).length)), .ref qi, .ref qs, .ref qe, .ref qn, .ref qk]))] := hD
    refine W.eq (g2 := F0 m 18 ls [.int r_2]) rfl ?_
    refine W.widen (k := 0) (n := 0) (Nat.le_of_ble_eq_true rfl) (Nat.le_of_ble_eq_true rfl) ?_
    exact ret r_2 () _ _ _ _ _ _ (trivial) (hP.sub [4, 0, 1, 2, 3] (rfl)) (hD.sub [4, 0, 1, 2, 3] (by decide) (rfl)) hS (Nat.le_of_ble_eq_true rfl) (Nat.le_of_ble_eq_true rfl) dX4_put_18

abbrev rm_X4_put_nz : Room := { frames := 2, cells := 0, slots := 0, locals := 43 }
set_option maxHeartbeats 4000000 in
set_option maxRecDepth 100000 in
theorem c_X4_put_nz (l : Launch) (D : va_G) (cI : ClassId) (mo : Nat) (qi : Nat) (qs : Nat) (qe : Nat) (qn : Nat) (qk : Nat) (tw : Int32) (gi : Nat → Int32) (gs : Nat → Int32) (ge : Nat → Int32) (w : Nat → Int32) (q : St) (kn : Nat) (zz : Int32) (hN : rN gi gs ge w q) (hk : kn < 5) (hx9 : ¬ (nI 2 ≤ zz ∧ zz ≤ nI 99)) : kM kri l yX4_put wsX4_put rm_X4_put_nz D [(cI, .int)] [.ref mo, .int (nI kn), .int zz] [(mo, .inr (4, [.int tw, .int (nI (stS q)), .int (stM q), .int (nI ((stT q).length)), .ref qi, .ref qs, .ref qe, .ref qn, .ref qk])), (qi, .inl (cI, 6, .inl gi)), (qs, .inl (cI, 6, .inl gs)), (qe, .inl (cI, 6, .inl ge)), (qn, .inl (cI, 42, .inl w))] (fun (r : Int32) (u : Unit) => True) (fun (u : Unit) => [(mo, .inr (4, [.int (nI 1), .int (nI (stS q)), .int (stM q), .int (nI ((stT q).length)), .ref qi, .ref qs, .ref qe, .ref qn, .ref qk])), (qi, .inl (cI, 6, .inl gi)), (qs, .inl (cI, 6, .inl gs)), (qe, .inl (cI, 6, .inl ge)), (qn, .inl (cI, 42, .inl w))]) := by
  refine k_bodyI (cc := cX4_put) (maxL := 3) (by decide) rfl (Nat.le_of_ble_eq_true rfl) ?_
  intro p e ss m args below meth c A Q F hname hA hG hK hP hD hS ret ls hl
  obtain ⟨hx, hb, hml, hown, hts⟩ := id F
  have hP : va_P D vwCl [(mo, .inr (4, [.int tw, .int (nI (stS q)), .int (stM q), .int (nI ((stT q).length)), .ref qi, .ref qs, .ref qe, .ref qn, .ref qk])), (qi, .inl (cI, 6, .inl gi)), (qs, .inl (cI, 6, .inl gs)), (qe, .inl (cI, 6, .inl ge)), (qn, .inl (cI, 42, .inl w))] ss.heap := hP
  have hD : va_D A [(mo, .inr (4, [.int tw, .int (nI (stS q)), .int (stM q), .int (nI ((stT q).length)), .ref qi, .ref qs, .ref qe, .ref qn, .ref qk])), (qi, .inl (cI, 6, .inl gi)), (qs, .inl (cI, 6, .inl gs)), (qe, .inl (cI, 6, .inl ge)), (qn, .inl (cI, 42, .inl w))] := hD
  have hl : lv_has ls 3 [(0, .ref mo), (1, .int (nI kn)), (2, .int zz)] := hl
  have iX4 : ∀ w ∈ u_ws RX4 TX4 9, w ∈ wsX4_put := by decide +kernel
  have f32 := hts (.fieldLink RX4 32 "SmallerTalkModel" "thrown" "I") (by decide +kernel)
  obtain ⟨n0, n1, n2, n3, n4, n5, nB, nT⟩ := id hN
  refine lv_aload_n hx hb dX4_put_0 rfl (lv_at hl 0 rfl) ?_
  refine lv_iconst (v := nI 0) hx hb dX4_put_1 (by decide +kernel) ?_
  refine va_put (D := D) (ci := 4) (v := .int (nI 0)) (ty := .int) (C := RX4) (T := TX4) (N := 9) hx hb hts iX4 tyX4 tyX4_ok nmX4 hown hK hP hD hS 0 rfl rfl 0 (by decide) f32 (fun _ h9 => h9) rfl (by decide +kernel) rfl rfl (Nat.le_of_ble_eq_true rfl) dX4_put_2 (fun H locs hP hD hS => ?_)
  have hP : va_P D vwCl [(mo, .inr (4, [.int (nI 0), .int (nI (stS q)), .int (stM q), .int (nI ((stT q).length)), .ref qi, .ref qs, .ref qe, .ref qn, .ref qk])), (qi, .inl (cI, 6, .inl gi)), (qs, .inl (cI, 6, .inl gs)), (qe, .inl (cI, 6, .inl ge)), (qn, .inl (cI, 42, .inl w))] H := hP
  have hD : va_D A [(mo, .inr (4, [.int (nI 0), .int (nI (stS q)), .int (stM q), .int (nI ((stT q).length)), .ref qi, .ref qs, .ref qe, .ref qn, .ref qk])), (qi, .inl (cI, 6, .inl gi)), (qs, .inl (cI, 6, .inl gs)), (qe, .inl (cI, 6, .inl ge)), (qn, .inl (cI, 42, .inl w))] := hD
  refine lv_iload_n hx hb dX4_put_5 rfl (lv_at hl 1 rfl) ?_
  refine lv_iload_n hx hb dX4_put_6 rfl (lv_at hl 2 rfl) ?_
  refine k_callS (As := [.int (nI kn), .int zz]) (rest := []) (wr := [(mo, .inr (4, [.int (nI 0), .int (nI (stS q)), .int (stM q), .int (nI ((stT q).length)), .ref qi, .ref qs, .ref qe, .ref qn, .ref qk])), (qi, .inl (cI, 6, .inl gi)), (qs, .inl (cI, 6, .inl gs)), (qe, .inl (cI, 6, .inl ge)), (qn, .inl (cI, 42, .inl w))]) F (c_X4_isTopic_nz l D cI kn zz hk hx9) gX4_put_X4_isTopic rfl (nA := 2) (by decide +kernel) rfl ⟨Nat.le_of_ble_eq_true rfl, Nat.le_of_ble_eq_true rfl⟩ hK hP hD hS hA hG [] [0, 1, 2, 3, 4] rfl (by decide) rfl (by decide) (by decide) [0] rfl rfl hl.1 (Nat.le_of_ble_eq_true rfl) dX4_put_7 ⟨Nat.le_of_ble_eq_true rfl, Nat.le_of_ble_eq_true rfl⟩ (fun r_1 u H locs hr_7 hP hD hS => ?_)
  try dsimp only at hr_7
  have hP : va_P D vwCl [(mo, .inr (4, [.int (nI 0), .int (nI (stS q)), .int (stM q), .int (nI ((stT q).length)), .ref qi, .ref qs, .ref qe, .ref qn, .ref qk])), (qi, .inl (cI, 6, .inl gi)), (qs, .inl (cI, 6, .inl gs)), (qe, .inl (cI, 6, .inl ge)), (qn, .inl (cI, 42, .inl w))] H := hP
  have hD : va_D A [(mo, .inr (4, [.int (nI 0), .int (nI (stS q)), .int (stM q), .int (nI ((stT q).length)), .ref qi, .ref qs, .ref qe, .ref qn, .ref qk])), (qi, .inl (cI, 6, .inl gi)), (qs, .inl (cI, 6, .inl gs)), (qe, .inl (cI, 6, .inl ge)), (qn, .inl (cI, 42, .inl w))] := hD
  refine W.eq (g2 := F0 m 10 ls [.int r_1]) rfl ?_
  refine W.widen (k := 0) (n := 0) (Nat.le_of_ble_eq_true rfl) (Nat.le_of_ble_eq_true rfl) ?_
  refine k_top (v := nI 0) (hr_7) ?_
  refine k_if_ne (tgt := 19) hx hb 0 rfl (by omega) dX4_put_10 (by decide) (fun c_10 => ?_) (fun c_10 => ?_)
  · exact absurd c_10 (by omega)
  · skip
    refine lv_aload_n hx hb dX4_put_13 rfl (lv_at hl 0 rfl) ?_
    refine lv_iconst (v := nI 1) hx hb dX4_put_14 (by decide +kernel) ?_
    refine k_callV (As := [.int (nI 1)]) (rest := []) (wr := [(qi, .inl (cI, 6, .inl gi)), (qs, .inl (cI, 6, .inl gs)), (qe, .inl (cI, 6, .inl ge)), (qn, .inl (cI, 42, .inl w))]) F (c_X4_no l D cI mo qi qs qe qn qk (nI 0) (nI (stS q)) (stM q) (nI ((stT q).length)) (nI 1) ) gX4_put_X4_no rfl (nA := 1) (by decide +kernel) rfl ⟨Nat.le_of_ble_eq_true rfl, Nat.le_of_ble_eq_true rfl⟩ hK hP hD hS hA hG (ci := 4) (q0 := 0) rfl rfl rfl [0] [1, 2, 3, 4] rfl (by decide) rfl (by decide) (by decide) [0] rfl rfl hl.1 (Nat.le_of_ble_eq_true rfl) dX4_put_15 ⟨Nat.le_of_ble_eq_true rfl, Nat.le_of_ble_eq_true rfl⟩ (fun r_2 u H locs hr_15 hP hD hS => ?_)
    try dsimp only at hr_15
    have hP : va_P D vwCl [(qi, .inl (cI, 6, .inl gi)), (qs, .inl (cI, 6, .inl gs)), (qe, .inl (cI, 6, .inl ge)), (qn, .inl (cI, 42, .inl w)), (mo, .inr (4, [.int (nI 1), .int (nI (stS q)), .int (stM q), .int (nI ((stT q).length)), .ref qi, .ref qs, .ref qe, .ref qn, .ref qk]))] H := hP
    have hD : va_D A [(qi, .inl (cI, 6, .inl gi)), (qs, .inl (cI, 6, .inl gs)), (qe, .inl (cI, 6, .inl ge)), (qn, .inl (cI, 42, .inl w)), (mo, .inr (4, [.int (nI 1), .int (nI (stS q)), .int (stM q), .int (nI ((stT q).length)), .ref qi, .ref qs, .ref qe, .ref qn, .ref qk]))] := hD
    refine W.eq (g2 := F0 m 18 ls [.int r_2]) rfl ?_
    refine W.widen (k := 0) (n := 0) (Nat.le_of_ble_eq_true rfl) (Nat.le_of_ble_eq_true rfl) ?_
    exact ret r_2 () _ _ _ _ _ _ (trivial) (hP.sub [4, 0, 1, 2, 3] (rfl)) (hD.sub [4, 0, 1, 2, 3] (by decide) (rfl)) hS (Nat.le_of_ble_eq_true rfl) (Nat.le_of_ble_eq_true rfl) dX4_put_18

abbrev rm_X4_put_full : Room := { frames := 2, cells := 0, slots := 0, locals := 43 }
set_option maxHeartbeats 4000000 in
set_option maxRecDepth 100000 in
theorem c_X4_put_full (l : Launch) (D : va_G) (cI : ClassId) (mo : Nat) (qi : Nat) (qs : Nat) (qe : Nat) (qn : Nat) (qk : Nat) (tw : Int32) (gi : Nat → Int32) (gs : Nat → Int32) (ge : Nat → Int32) (w : Nat → Int32) (q : St) (kn : Nat) (z : Nat) (hN : rN gi gs ge w q) (hk : kn < 5) (hz : 2 ≤ z ∧ z ≤ 99) (h12 : ¬ (stB q).length < 12) : kM kri l yX4_put wsX4_put rm_X4_put_full D [(cI, .int)] [.ref mo, .int (nI kn), .int (nI z)] [(mo, .inr (4, [.int tw, .int (nI (stS q)), .int (stM q), .int (nI ((stT q).length)), .ref qi, .ref qs, .ref qe, .ref qn, .ref qk])), (qi, .inl (cI, 6, .inl gi)), (qs, .inl (cI, 6, .inl gs)), (qe, .inl (cI, 6, .inl ge)), (qn, .inl (cI, 42, .inl w))] (fun (r : Int32) (u : Unit) => True) (fun (u : Unit) => [(mo, .inr (4, [.int (nI 2), .int (nI (stS q)), .int (stM q), .int (nI ((stT q).length)), .ref qi, .ref qs, .ref qe, .ref qn, .ref qk])), (qi, .inl (cI, 6, .inl gi)), (qs, .inl (cI, 6, .inl gs)), (qe, .inl (cI, 6, .inl ge)), (qn, .inl (cI, 42, .inl w))]) := by
  refine k_bodyI (cc := cX4_put) (maxL := 3) (by decide) rfl (Nat.le_of_ble_eq_true rfl) ?_
  intro p e ss m args below meth c A Q F hname hA hG hK hP hD hS ret ls hl
  obtain ⟨hx, hb, hml, hown, hts⟩ := id F
  have hP : va_P D vwCl [(mo, .inr (4, [.int tw, .int (nI (stS q)), .int (stM q), .int (nI ((stT q).length)), .ref qi, .ref qs, .ref qe, .ref qn, .ref qk])), (qi, .inl (cI, 6, .inl gi)), (qs, .inl (cI, 6, .inl gs)), (qe, .inl (cI, 6, .inl ge)), (qn, .inl (cI, 42, .inl w))] ss.heap := hP
  have hD : va_D A [(mo, .inr (4, [.int tw, .int (nI (stS q)), .int (stM q), .int (nI ((stT q).length)), .ref qi, .ref qs, .ref qe, .ref qn, .ref qk])), (qi, .inl (cI, 6, .inl gi)), (qs, .inl (cI, 6, .inl gs)), (qe, .inl (cI, 6, .inl ge)), (qn, .inl (cI, 42, .inl w))] := hD
  have hl : lv_has ls 3 [(0, .ref mo), (1, .int (nI kn)), (2, .int (nI z))] := hl
  have iX4 : ∀ w ∈ u_ws RX4 TX4 9, w ∈ wsX4_put := by decide +kernel
  have f26 := hts (.fieldLink RX4 26 "SmallerTalkModel" "now" "[I") (by decide +kernel)
  have f32 := hts (.fieldLink RX4 32 "SmallerTalkModel" "thrown" "I") (by decide +kernel)
  obtain ⟨n0, n1, n2, n3, n4, n5, nB, nT⟩ := id hN
  have h13 := nB.1
  refine lv_aload_n hx hb dX4_put_0 rfl (lv_at hl 0 rfl) ?_
  refine lv_iconst (v := nI 0) hx hb dX4_put_1 (by decide +kernel) ?_
  refine va_put (D := D) (ci := 4) (v := .int (nI 0)) (ty := .int) (C := RX4) (T := TX4) (N := 9) hx hb hts iX4 tyX4 tyX4_ok nmX4 hown hK hP hD hS 0 rfl rfl 0 (by decide) f32 (fun _ h9 => h9) rfl (by decide +kernel) rfl rfl (Nat.le_of_ble_eq_true rfl) dX4_put_2 (fun H locs hP hD hS => ?_)
  have hP : va_P D vwCl [(mo, .inr (4, [.int (nI 0), .int (nI (stS q)), .int (stM q), .int (nI ((stT q).length)), .ref qi, .ref qs, .ref qe, .ref qn, .ref qk])), (qi, .inl (cI, 6, .inl gi)), (qs, .inl (cI, 6, .inl gs)), (qe, .inl (cI, 6, .inl ge)), (qn, .inl (cI, 42, .inl w))] H := hP
  have hD : va_D A [(mo, .inr (4, [.int (nI 0), .int (nI (stS q)), .int (stM q), .int (nI ((stT q).length)), .ref qi, .ref qs, .ref qe, .ref qn, .ref qk])), (qi, .inl (cI, 6, .inl gi)), (qs, .inl (cI, 6, .inl gs)), (qe, .inl (cI, 6, .inl ge)), (qn, .inl (cI, 42, .inl w))] := hD
  refine lv_iload_n hx hb dX4_put_5 rfl (lv_at hl 1 rfl) ?_
  refine lv_iload_n hx hb dX4_put_6 rfl (lv_at hl 2 rfl) ?_
  refine k_callS (As := [.int (nI kn), .int (nI z)]) (rest := []) (wr := [(mo, .inr (4, [.int (nI 0), .int (nI (stS q)), .int (stM q), .int (nI ((stT q).length)), .ref qi, .ref qs, .ref qe, .ref qn, .ref qk])), (qi, .inl (cI, 6, .inl gi)), (qs, .inl (cI, 6, .inl gs)), (qe, .inl (cI, 6, .inl ge)), (qn, .inl (cI, 42, .inl w))]) F (c_X4_isTopic l D cI kn z hk hz) gX4_put_X4_isTopic rfl (nA := 2) (by decide +kernel) rfl ⟨Nat.le_of_ble_eq_true rfl, Nat.le_of_ble_eq_true rfl⟩ hK hP hD hS hA hG [] [0, 1, 2, 3, 4] rfl (by decide) rfl (by decide) (by decide) [0] rfl rfl hl.1 (Nat.le_of_ble_eq_true rfl) dX4_put_7 ⟨Nat.le_of_ble_eq_true rfl, Nat.le_of_ble_eq_true rfl⟩ (fun r_1 u H locs hr_7 hP hD hS => ?_)
  try dsimp only at hr_7
  have hP : va_P D vwCl [(mo, .inr (4, [.int (nI 0), .int (nI (stS q)), .int (stM q), .int (nI ((stT q).length)), .ref qi, .ref qs, .ref qe, .ref qn, .ref qk])), (qi, .inl (cI, 6, .inl gi)), (qs, .inl (cI, 6, .inl gs)), (qe, .inl (cI, 6, .inl ge)), (qn, .inl (cI, 42, .inl w))] H := hP
  have hD : va_D A [(mo, .inr (4, [.int (nI 0), .int (nI (stS q)), .int (stM q), .int (nI ((stT q).length)), .ref qi, .ref qs, .ref qe, .ref qn, .ref qk])), (qi, .inl (cI, 6, .inl gi)), (qs, .inl (cI, 6, .inl gs)), (qe, .inl (cI, 6, .inl ge)), (qn, .inl (cI, 42, .inl w))] := hD
  refine W.eq (g2 := F0 m 10 ls [.int r_1]) rfl ?_
  refine W.widen (k := 0) (n := 0) (Nat.le_of_ble_eq_true rfl) (Nat.le_of_ble_eq_true rfl) ?_
  refine k_top (v := nI 1) (hr_7) ?_
  refine k_if_ne (tgt := 19) hx hb 1 rfl (by omega) dX4_put_10 (by decide) (fun c_10 => ?_) (fun c_10 => ?_)
  · skip
    refine lv_aload_n hx hb dX4_put_19 rfl (lv_at hl 0 rfl) ?_
    refine va_get (D := D) (ci := 4) (v := .ref qn) (C := RX4) (T := TX4) (N := 9) hx hb hts iX4 hown hK hP 0 rfl rfl 7 (by decide) f26 (fun _ h9 => h9) rfl dX4_put_20 ?_
    refine lv_iconst (v := nI 1) hx hb dX4_put_23 (by decide +kernel) ?_
    refine k_iald hx hb hK hP 4 0 rfl rfl 1 (rfl) (by omega) (by decide) dX4_put_24 ?_
    refine k_top (v := nI ((stB q).length)) (n1) ?_
    refine lv_bipush (v := nI 12) hx hb dX4_put_25 (by decide +kernel) ?_
    refine k_cmp_ne (tgt := 36) hx hb ((stB q).length) 12 rfl rfl (by omega) (by omega) dX4_put_27 (by decide) (fun c_27 => ?_) (fun c_27 => ?_)
    · skip
      exact absurd c_27 (by omega)
    · skip
      refine lv_aload_n hx hb dX4_put_30 rfl (lv_at hl 0 rfl) ?_
      refine lv_iconst (v := nI 2) hx hb dX4_put_31 (by decide +kernel) ?_
      refine k_callV (As := [.int (nI 2)]) (rest := []) (wr := [(qi, .inl (cI, 6, .inl gi)), (qs, .inl (cI, 6, .inl gs)), (qe, .inl (cI, 6, .inl ge)), (qn, .inl (cI, 42, .inl w))]) F (c_X4_no l D cI mo qi qs qe qn qk (nI 0) (nI (stS q)) (stM q) (nI ((stT q).length)) (nI 2) ) gX4_put_X4_no rfl (nA := 1) (by decide +kernel) rfl ⟨Nat.le_of_ble_eq_true rfl, Nat.le_of_ble_eq_true rfl⟩ hK hP hD hS hA hG (ci := 4) (q0 := 0) rfl rfl rfl [0] [1, 2, 3, 4] rfl (by decide) rfl (by decide) (by decide) [0] rfl rfl hl.1 (Nat.le_of_ble_eq_true rfl) dX4_put_32 ⟨Nat.le_of_ble_eq_true rfl, Nat.le_of_ble_eq_true rfl⟩ (fun r_2 u H locs hr_32 hP hD hS => ?_)
      try dsimp only at hr_32
      have hP : va_P D vwCl [(qi, .inl (cI, 6, .inl gi)), (qs, .inl (cI, 6, .inl gs)), (qe, .inl (cI, 6, .inl ge)), (qn, .inl (cI, 42, .inl w)), (mo, .inr (4, [.int (nI 2), .int (nI (stS q)), .int (stM q), .int (nI ((stT q).length)), .ref qi, .ref qs, .ref qe, .ref qn, .ref qk]))] H := hP
      have hD : va_D A [(qi, .inl (cI, 6, .inl gi)), (qs, .inl (cI, 6, .inl gs)), (qe, .inl (cI, 6, .inl ge)), (qn, .inl (cI, 42, .inl w)), (mo, .inr (4, [.int (nI 2), .int (nI (stS q)), .int (stM q), .int (nI ((stT q).length)), .ref qi, .ref qs, .ref qe, .ref qn, .ref qk]))] := hD
      refine W.eq (g2 := F0 m 35 ls [.int r_2]) rfl ?_
      refine W.widen (k := 0) (n := 0) (Nat.le_of_ble_eq_true rfl) (Nat.le_of_ble_eq_true rfl) ?_
      exact ret r_2 () _ _ _ _ _ _ (trivial) (hP.sub [4, 0, 1, 2, 3] (rfl)) (hD.sub [4, 0, 1, 2, 3] (by decide) (rfl)) hS (Nat.le_of_ble_eq_true rfl) (Nat.le_of_ble_eq_true rfl) dX4_put_35
  · exact absurd c_10 (by omega)

abbrev rm_X4_addTalker_nk : Room := { frames := 2, cells := 0, slots := 0, locals := 43 }
set_option maxHeartbeats 4000000 in
set_option maxRecDepth 100000 in
theorem c_X4_addTalker_nk (l : Launch) (D : va_G) (cI : ClassId) (mo : Nat) (qi : Nat) (qs : Nat) (qe : Nat) (qn : Nat) (qk : Nat) (tw : Int32) (gi : Nat → Int32) (gs : Nat → Int32) (ge : Nat → Int32) (w : Nat → Int32) (q : St) (kd : Int32) (zz : Int32) (y : Int32) (hN : rN gi gs ge w q) (hx9 : ¬ (nI 0 ≤ kd ∧ kd ≤ nI 4)) : kM kri l yX4_addTalker wsX4_addTalker rm_X4_addTalker_nk D [(cI, .int)] [.ref mo, .int kd, .int zz, .int y] [(mo, .inr (4, [.int tw, .int (nI (stS q)), .int (stM q), .int (nI ((stT q).length)), .ref qi, .ref qs, .ref qe, .ref qn, .ref qk])), (qi, .inl (cI, 6, .inl gi)), (qs, .inl (cI, 6, .inl gs)), (qe, .inl (cI, 6, .inl ge)), (qn, .inl (cI, 42, .inl w))] (fun (r : Int32) (u : Unit) => True) (fun (u : Unit) => [(mo, .inr (4, [.int (nI 1), .int (nI (stS q)), .int (stM q), .int (nI ((stT q).length)), .ref qi, .ref qs, .ref qe, .ref qn, .ref qk])), (qi, .inl (cI, 6, .inl gi)), (qs, .inl (cI, 6, .inl gs)), (qe, .inl (cI, 6, .inl ge)), (qn, .inl (cI, 42, .inl w))]) := by
  refine k_bodyI (cc := cX4_addTalker) (maxL := 4) (by decide) rfl (Nat.le_of_ble_eq_true rfl) ?_
  intro p e ss m args below meth c A Q F hname hA hG hK hP hD hS ret ls hl
  obtain ⟨hx, hb, hml, hown, hts⟩ := id F
  have hP : va_P D vwCl [(mo, .inr (4, [.int tw, .int (nI (stS q)), .int (stM q), .int (nI ((stT q).length)), .ref qi, .ref qs, .ref qe, .ref qn, .ref qk])), (qi, .inl (cI, 6, .inl gi)), (qs, .inl (cI, 6, .inl gs)), (qe, .inl (cI, 6, .inl ge)), (qn, .inl (cI, 42, .inl w))] ss.heap := hP
  have hD : va_D A [(mo, .inr (4, [.int tw, .int (nI (stS q)), .int (stM q), .int (nI ((stT q).length)), .ref qi, .ref qs, .ref qe, .ref qn, .ref qk])), (qi, .inl (cI, 6, .inl gi)), (qs, .inl (cI, 6, .inl gs)), (qe, .inl (cI, 6, .inl ge)), (qn, .inl (cI, 42, .inl w))] := hD
  have hl : lv_has ls 4 [(0, .ref mo), (1, .int kd), (2, .int zz), (3, .int y)] := hl
  have iX4 : ∀ w ∈ u_ws RX4 TX4 9, w ∈ wsX4_addTalker := by decide +kernel
  have f32 := hts (.fieldLink RX4 32 "SmallerTalkModel" "thrown" "I") (by decide +kernel)
  obtain ⟨n0, n1, n2, n3, n4, n5, nB, nT⟩ := id hN
  refine lv_aload_n hx hb dX4_addTalker_0 rfl (lv_at hl 0 rfl) ?_
  refine lv_iconst (v := nI 0) hx hb dX4_addTalker_1 (by decide +kernel) ?_
  refine va_put (D := D) (ci := 4) (v := .int (nI 0)) (ty := .int) (C := RX4) (T := TX4) (N := 9) hx hb hts iX4 tyX4 tyX4_ok nmX4 hown hK hP hD hS 0 rfl rfl 0 (by decide) f32 (fun _ h9 => h9) rfl (by decide +kernel) rfl rfl (Nat.le_of_ble_eq_true rfl) dX4_addTalker_2 (fun H locs hP hD hS => ?_)
  have hP : va_P D vwCl [(mo, .inr (4, [.int (nI 0), .int (nI (stS q)), .int (stM q), .int (nI ((stT q).length)), .ref qi, .ref qs, .ref qe, .ref qn, .ref qk])), (qi, .inl (cI, 6, .inl gi)), (qs, .inl (cI, 6, .inl gs)), (qe, .inl (cI, 6, .inl ge)), (qn, .inl (cI, 42, .inl w))] H := hP
  have hD : va_D A [(mo, .inr (4, [.int (nI 0), .int (nI (stS q)), .int (stM q), .int (nI ((stT q).length)), .ref qi, .ref qs, .ref qe, .ref qn, .ref qk])), (qi, .inl (cI, 6, .inl gi)), (qs, .inl (cI, 6, .inl gs)), (qe, .inl (cI, 6, .inl ge)), (qn, .inl (cI, 42, .inl w))] := hD
  refine lv_iload_n hx hb dX4_addTalker_5 rfl (lv_at hl 1 rfl) ?_
  refine lv_iload_n hx hb dX4_addTalker_6 rfl (lv_at hl 2 rfl) ?_
  refine k_callS (As := [.int kd, .int zz]) (rest := []) (wr := [(mo, .inr (4, [.int (nI 0), .int (nI (stS q)), .int (stM q), .int (nI ((stT q).length)), .ref qi, .ref qs, .ref qe, .ref qn, .ref qk])), (qi, .inl (cI, 6, .inl gi)), (qs, .inl (cI, 6, .inl gs)), (qe, .inl (cI, 6, .inl ge)), (qn, .inl (cI, 42, .inl w))]) F (c_X4_isTopic_nk l D cI kd zz hx9) gX4_addTalker_X4_isTopic rfl (nA := 2) (by decide +kernel) rfl ⟨Nat.le_of_ble_eq_true rfl, Nat.le_of_ble_eq_true rfl⟩ hK hP hD hS hA hG [] [0, 1, 2, 3, 4] rfl (by decide) rfl (by decide) (by decide) [0] rfl rfl hl.1 (Nat.le_of_ble_eq_true rfl) dX4_addTalker_7 ⟨Nat.le_of_ble_eq_true rfl, Nat.le_of_ble_eq_true rfl⟩ (fun r_1 u H locs hr_7 hP hD hS => ?_)
  try dsimp only at hr_7
  have hP : va_P D vwCl [(mo, .inr (4, [.int (nI 0), .int (nI (stS q)), .int (stM q), .int (nI ((stT q).length)), .ref qi, .ref qs, .ref qe, .ref qn, .ref qk])), (qi, .inl (cI, 6, .inl gi)), (qs, .inl (cI, 6, .inl gs)), (qe, .inl (cI, 6, .inl ge)), (qn, .inl (cI, 42, .inl w))] H := hP
  have hD : va_D A [(mo, .inr (4, [.int (nI 0), .int (nI (stS q)), .int (stM q), .int (nI ((stT q).length)), .ref qi, .ref qs, .ref qe, .ref qn, .ref qk])), (qi, .inl (cI, 6, .inl gi)), (qs, .inl (cI, 6, .inl gs)), (qe, .inl (cI, 6, .inl ge)), (qn, .inl (cI, 42, .inl w))] := hD
  refine W.eq (g2 := F0 m 10 ls [.int r_1]) rfl ?_
  refine W.widen (k := 0) (n := 0) (Nat.le_of_ble_eq_true rfl) (Nat.le_of_ble_eq_true rfl) ?_
  refine k_top (v := nI 0) (hr_7) ?_
  refine k_if_eq (tgt := 23) hx hb 0 rfl (by omega) dX4_addTalker_10 (by decide) (fun c_10 => ?_) (fun c_10 => ?_)
  · skip
    refine lv_aload_n hx hb dX4_addTalker_23 rfl (lv_at hl 0 rfl) ?_
    refine lv_iconst (v := nI 1) hx hb dX4_addTalker_24 (by decide +kernel) ?_
    refine k_callV (As := [.int (nI 1)]) (rest := []) (wr := [(qi, .inl (cI, 6, .inl gi)), (qs, .inl (cI, 6, .inl gs)), (qe, .inl (cI, 6, .inl ge)), (qn, .inl (cI, 42, .inl w))]) F (c_X4_no l D cI mo qi qs qe qn qk (nI 0) (nI (stS q)) (stM q) (nI ((stT q).length)) (nI 1) ) gX4_addTalker_X4_no rfl (nA := 1) (by decide +kernel) rfl ⟨Nat.le_of_ble_eq_true rfl, Nat.le_of_ble_eq_true rfl⟩ hK hP hD hS hA hG (ci := 4) (q0 := 0) rfl rfl rfl [0] [1, 2, 3, 4] rfl (by decide) rfl (by decide) (by decide) [0] rfl rfl hl.1 (Nat.le_of_ble_eq_true rfl) dX4_addTalker_25 ⟨Nat.le_of_ble_eq_true rfl, Nat.le_of_ble_eq_true rfl⟩ (fun r_2 u H locs hr_25 hP hD hS => ?_)
    try dsimp only at hr_25
    have hP : va_P D vwCl [(qi, .inl (cI, 6, .inl gi)), (qs, .inl (cI, 6, .inl gs)), (qe, .inl (cI, 6, .inl ge)), (qn, .inl (cI, 42, .inl w)), (mo, .inr (4, [.int (nI 1), .int (nI (stS q)), .int (stM q), .int (nI ((stT q).length)), .ref qi, .ref qs, .ref qe, .ref qn, .ref qk]))] H := hP
    have hD : va_D A [(qi, .inl (cI, 6, .inl gi)), (qs, .inl (cI, 6, .inl gs)), (qe, .inl (cI, 6, .inl ge)), (qn, .inl (cI, 42, .inl w)), (mo, .inr (4, [.int (nI 1), .int (nI (stS q)), .int (stM q), .int (nI ((stT q).length)), .ref qi, .ref qs, .ref qe, .ref qn, .ref qk]))] := hD
    refine W.eq (g2 := F0 m 28 ls [.int r_2]) rfl ?_
    refine W.widen (k := 0) (n := 0) (Nat.le_of_ble_eq_true rfl) (Nat.le_of_ble_eq_true rfl) ?_
    exact ret r_2 () _ _ _ _ _ _ (trivial) (hP.sub [4, 0, 1, 2, 3] (rfl)) (hD.sub [4, 0, 1, 2, 3] (by decide) (rfl)) hS (Nat.le_of_ble_eq_true rfl) (Nat.le_of_ble_eq_true rfl) dX4_addTalker_28
  · exact absurd c_10 (by omega)

abbrev rm_X4_addTalker_nz : Room := { frames := 2, cells := 0, slots := 0, locals := 43 }
set_option maxHeartbeats 4000000 in
set_option maxRecDepth 100000 in
theorem c_X4_addTalker_nz (l : Launch) (D : va_G) (cI : ClassId) (mo : Nat) (qi : Nat) (qs : Nat) (qe : Nat) (qn : Nat) (qk : Nat) (tw : Int32) (gi : Nat → Int32) (gs : Nat → Int32) (ge : Nat → Int32) (w : Nat → Int32) (q : St) (kn : Nat) (zz : Int32) (y : Int32) (hN : rN gi gs ge w q) (hk : kn < 5) (hx9 : ¬ (nI 2 ≤ zz ∧ zz ≤ nI 99)) : kM kri l yX4_addTalker wsX4_addTalker rm_X4_addTalker_nz D [(cI, .int)] [.ref mo, .int (nI kn), .int zz, .int y] [(mo, .inr (4, [.int tw, .int (nI (stS q)), .int (stM q), .int (nI ((stT q).length)), .ref qi, .ref qs, .ref qe, .ref qn, .ref qk])), (qi, .inl (cI, 6, .inl gi)), (qs, .inl (cI, 6, .inl gs)), (qe, .inl (cI, 6, .inl ge)), (qn, .inl (cI, 42, .inl w))] (fun (r : Int32) (u : Unit) => True) (fun (u : Unit) => [(mo, .inr (4, [.int (nI 1), .int (nI (stS q)), .int (stM q), .int (nI ((stT q).length)), .ref qi, .ref qs, .ref qe, .ref qn, .ref qk])), (qi, .inl (cI, 6, .inl gi)), (qs, .inl (cI, 6, .inl gs)), (qe, .inl (cI, 6, .inl ge)), (qn, .inl (cI, 42, .inl w))]) := by
  refine k_bodyI (cc := cX4_addTalker) (maxL := 4) (by decide) rfl (Nat.le_of_ble_eq_true rfl) ?_
  intro p e ss m args below meth c A Q F hname hA hG hK hP hD hS ret ls hl
  obtain ⟨hx, hb, hml, hown, hts⟩ := id F
  have hP : va_P D vwCl [(mo, .inr (4, [.int tw, .int (nI (stS q)), .int (stM q), .int (nI ((stT q).length)), .ref qi, .ref qs, .ref qe, .ref qn, .ref qk])), (qi, .inl (cI, 6, .inl gi)), (qs, .inl (cI, 6, .inl gs)), (qe, .inl (cI, 6, .inl ge)), (qn, .inl (cI, 42, .inl w))] ss.heap := hP
  have hD : va_D A [(mo, .inr (4, [.int tw, .int (nI (stS q)), .int (stM q), .int (nI ((stT q).length)), .ref qi, .ref qs, .ref qe, .ref qn, .ref qk])), (qi, .inl (cI, 6, .inl gi)), (qs, .inl (cI, 6, .inl gs)), (qe, .inl (cI, 6, .inl ge)), (qn, .inl (cI, 42, .inl w))] := hD
  have hl : lv_has ls 4 [(0, .ref mo), (1, .int (nI kn)), (2, .int zz), (3, .int y)] := hl
  have iX4 : ∀ w ∈ u_ws RX4 TX4 9, w ∈ wsX4_addTalker := by decide +kernel
  have f32 := hts (.fieldLink RX4 32 "SmallerTalkModel" "thrown" "I") (by decide +kernel)
  obtain ⟨n0, n1, n2, n3, n4, n5, nB, nT⟩ := id hN
  refine lv_aload_n hx hb dX4_addTalker_0 rfl (lv_at hl 0 rfl) ?_
  refine lv_iconst (v := nI 0) hx hb dX4_addTalker_1 (by decide +kernel) ?_
  refine va_put (D := D) (ci := 4) (v := .int (nI 0)) (ty := .int) (C := RX4) (T := TX4) (N := 9) hx hb hts iX4 tyX4 tyX4_ok nmX4 hown hK hP hD hS 0 rfl rfl 0 (by decide) f32 (fun _ h9 => h9) rfl (by decide +kernel) rfl rfl (Nat.le_of_ble_eq_true rfl) dX4_addTalker_2 (fun H locs hP hD hS => ?_)
  have hP : va_P D vwCl [(mo, .inr (4, [.int (nI 0), .int (nI (stS q)), .int (stM q), .int (nI ((stT q).length)), .ref qi, .ref qs, .ref qe, .ref qn, .ref qk])), (qi, .inl (cI, 6, .inl gi)), (qs, .inl (cI, 6, .inl gs)), (qe, .inl (cI, 6, .inl ge)), (qn, .inl (cI, 42, .inl w))] H := hP
  have hD : va_D A [(mo, .inr (4, [.int (nI 0), .int (nI (stS q)), .int (stM q), .int (nI ((stT q).length)), .ref qi, .ref qs, .ref qe, .ref qn, .ref qk])), (qi, .inl (cI, 6, .inl gi)), (qs, .inl (cI, 6, .inl gs)), (qe, .inl (cI, 6, .inl ge)), (qn, .inl (cI, 42, .inl w))] := hD
  refine lv_iload_n hx hb dX4_addTalker_5 rfl (lv_at hl 1 rfl) ?_
  refine lv_iload_n hx hb dX4_addTalker_6 rfl (lv_at hl 2 rfl) ?_
  refine k_callS (As := [.int (nI kn), .int zz]) (rest := []) (wr := [(mo, .inr (4, [.int (nI 0), .int (nI (stS q)), .int (stM q), .int (nI ((stT q).length)), .ref qi, .ref qs, .ref qe, .ref qn, .ref qk])), (qi, .inl (cI, 6, .inl gi)), (qs, .inl (cI, 6, .inl gs)), (qe, .inl (cI, 6, .inl ge)), (qn, .inl (cI, 42, .inl w))]) F (c_X4_isTopic_nz l D cI kn zz hk hx9) gX4_addTalker_X4_isTopic rfl (nA := 2) (by decide +kernel) rfl ⟨Nat.le_of_ble_eq_true rfl, Nat.le_of_ble_eq_true rfl⟩ hK hP hD hS hA hG [] [0, 1, 2, 3, 4] rfl (by decide) rfl (by decide) (by decide) [0] rfl rfl hl.1 (Nat.le_of_ble_eq_true rfl) dX4_addTalker_7 ⟨Nat.le_of_ble_eq_true rfl, Nat.le_of_ble_eq_true rfl⟩ (fun r_1 u H locs hr_7 hP hD hS => ?_)
  try dsimp only at hr_7
  have hP : va_P D vwCl [(mo, .inr (4, [.int (nI 0), .int (nI (stS q)), .int (stM q), .int (nI ((stT q).length)), .ref qi, .ref qs, .ref qe, .ref qn, .ref qk])), (qi, .inl (cI, 6, .inl gi)), (qs, .inl (cI, 6, .inl gs)), (qe, .inl (cI, 6, .inl ge)), (qn, .inl (cI, 42, .inl w))] H := hP
  have hD : va_D A [(mo, .inr (4, [.int (nI 0), .int (nI (stS q)), .int (stM q), .int (nI ((stT q).length)), .ref qi, .ref qs, .ref qe, .ref qn, .ref qk])), (qi, .inl (cI, 6, .inl gi)), (qs, .inl (cI, 6, .inl gs)), (qe, .inl (cI, 6, .inl ge)), (qn, .inl (cI, 42, .inl w))] := hD
  refine W.eq (g2 := F0 m 10 ls [.int r_1]) rfl ?_
  refine W.widen (k := 0) (n := 0) (Nat.le_of_ble_eq_true rfl) (Nat.le_of_ble_eq_true rfl) ?_
  refine k_top (v := nI 0) (hr_7) ?_
  refine k_if_eq (tgt := 23) hx hb 0 rfl (by omega) dX4_addTalker_10 (by decide) (fun c_10 => ?_) (fun c_10 => ?_)
  · skip
    refine lv_aload_n hx hb dX4_addTalker_23 rfl (lv_at hl 0 rfl) ?_
    refine lv_iconst (v := nI 1) hx hb dX4_addTalker_24 (by decide +kernel) ?_
    refine k_callV (As := [.int (nI 1)]) (rest := []) (wr := [(qi, .inl (cI, 6, .inl gi)), (qs, .inl (cI, 6, .inl gs)), (qe, .inl (cI, 6, .inl ge)), (qn, .inl (cI, 42, .inl w))]) F (c_X4_no l D cI mo qi qs qe qn qk (nI 0) (nI (stS q)) (stM q) (nI ((stT q).length)) (nI 1) ) gX4_addTalker_X4_no rfl (nA := 1) (by decide +kernel) rfl ⟨Nat.le_of_ble_eq_true rfl, Nat.le_of_ble_eq_true rfl⟩ hK hP hD hS hA hG (ci := 4) (q0 := 0) rfl rfl rfl [0] [1, 2, 3, 4] rfl (by decide) rfl (by decide) (by decide) [0] rfl rfl hl.1 (Nat.le_of_ble_eq_true rfl) dX4_addTalker_25 ⟨Nat.le_of_ble_eq_true rfl, Nat.le_of_ble_eq_true rfl⟩ (fun r_2 u H locs hr_25 hP hD hS => ?_)
    try dsimp only at hr_25
    have hP : va_P D vwCl [(qi, .inl (cI, 6, .inl gi)), (qs, .inl (cI, 6, .inl gs)), (qe, .inl (cI, 6, .inl ge)), (qn, .inl (cI, 42, .inl w)), (mo, .inr (4, [.int (nI 1), .int (nI (stS q)), .int (stM q), .int (nI ((stT q).length)), .ref qi, .ref qs, .ref qe, .ref qn, .ref qk]))] H := hP
    have hD : va_D A [(qi, .inl (cI, 6, .inl gi)), (qs, .inl (cI, 6, .inl gs)), (qe, .inl (cI, 6, .inl ge)), (qn, .inl (cI, 42, .inl w)), (mo, .inr (4, [.int (nI 1), .int (nI (stS q)), .int (stM q), .int (nI ((stT q).length)), .ref qi, .ref qs, .ref qe, .ref qn, .ref qk]))] := hD
    refine W.eq (g2 := F0 m 28 ls [.int r_2]) rfl ?_
    refine W.widen (k := 0) (n := 0) (Nat.le_of_ble_eq_true rfl) (Nat.le_of_ble_eq_true rfl) ?_
    exact ret r_2 () _ _ _ _ _ _ (trivial) (hP.sub [4, 0, 1, 2, 3] (rfl)) (hD.sub [4, 0, 1, 2, 3] (by decide) (rfl)) hS (Nat.le_of_ble_eq_true rfl) (Nat.le_of_ble_eq_true rfl) dX4_addTalker_28
  · exact absurd c_10 (by omega)

abbrev rm_X4_addTalker_nm : Room := { frames := 2, cells := 0, slots := 0, locals := 43 }
set_option maxHeartbeats 4000000 in
set_option maxRecDepth 100000 in
theorem c_X4_addTalker_nm (l : Launch) (D : va_G) (cI : ClassId) (mo : Nat) (qi : Nat) (qs : Nat) (qe : Nat) (qn : Nat) (qk : Nat) (tw : Int32) (gi : Nat → Int32) (gs : Nat → Int32) (ge : Nat → Int32) (w : Nat → Int32) (q : St) (kn : Nat) (z : Nat) (y : Int32) (hN : rN gi gs ge w q) (hk : kn < 5) (hz : 2 ≤ z ∧ z ≤ 99) (hx9 : ¬ (nI 1 ≤ y ∧ y ≤ nI 9)) : kM kri l yX4_addTalker wsX4_addTalker rm_X4_addTalker_nm D [(cI, .int)] [.ref mo, .int (nI kn), .int (nI z), .int y] [(mo, .inr (4, [.int tw, .int (nI (stS q)), .int (stM q), .int (nI ((stT q).length)), .ref qi, .ref qs, .ref qe, .ref qn, .ref qk])), (qi, .inl (cI, 6, .inl gi)), (qs, .inl (cI, 6, .inl gs)), (qe, .inl (cI, 6, .inl ge)), (qn, .inl (cI, 42, .inl w))] (fun (r : Int32) (u : Unit) => True) (fun (u : Unit) => [(mo, .inr (4, [.int (nI 1), .int (nI (stS q)), .int (stM q), .int (nI ((stT q).length)), .ref qi, .ref qs, .ref qe, .ref qn, .ref qk])), (qi, .inl (cI, 6, .inl gi)), (qs, .inl (cI, 6, .inl gs)), (qe, .inl (cI, 6, .inl ge)), (qn, .inl (cI, 42, .inl w))]) := by
  refine k_bodyI (cc := cX4_addTalker) (maxL := 4) (by decide) rfl (Nat.le_of_ble_eq_true rfl) ?_
  intro p e ss m args below meth c A Q F hname hA hG hK hP hD hS ret ls hl
  obtain ⟨hx, hb, hml, hown, hts⟩ := id F
  have hP : va_P D vwCl [(mo, .inr (4, [.int tw, .int (nI (stS q)), .int (stM q), .int (nI ((stT q).length)), .ref qi, .ref qs, .ref qe, .ref qn, .ref qk])), (qi, .inl (cI, 6, .inl gi)), (qs, .inl (cI, 6, .inl gs)), (qe, .inl (cI, 6, .inl ge)), (qn, .inl (cI, 42, .inl w))] ss.heap := hP
  have hD : va_D A [(mo, .inr (4, [.int tw, .int (nI (stS q)), .int (stM q), .int (nI ((stT q).length)), .ref qi, .ref qs, .ref qe, .ref qn, .ref qk])), (qi, .inl (cI, 6, .inl gi)), (qs, .inl (cI, 6, .inl gs)), (qe, .inl (cI, 6, .inl ge)), (qn, .inl (cI, 42, .inl w))] := hD
  have hl : lv_has ls 4 [(0, .ref mo), (1, .int (nI kn)), (2, .int (nI z)), (3, .int y)] := hl
  have iX4 : ∀ w ∈ u_ws RX4 TX4 9, w ∈ wsX4_addTalker := by decide +kernel
  have f32 := hts (.fieldLink RX4 32 "SmallerTalkModel" "thrown" "I") (by decide +kernel)
  obtain ⟨n0, n1, n2, n3, n4, n5, nB, nT⟩ := id hN
  refine lv_aload_n hx hb dX4_addTalker_0 rfl (lv_at hl 0 rfl) ?_
  refine lv_iconst (v := nI 0) hx hb dX4_addTalker_1 (by decide +kernel) ?_
  refine va_put (D := D) (ci := 4) (v := .int (nI 0)) (ty := .int) (C := RX4) (T := TX4) (N := 9) hx hb hts iX4 tyX4 tyX4_ok nmX4 hown hK hP hD hS 0 rfl rfl 0 (by decide) f32 (fun _ h9 => h9) rfl (by decide +kernel) rfl rfl (Nat.le_of_ble_eq_true rfl) dX4_addTalker_2 (fun H locs hP hD hS => ?_)
  have hP : va_P D vwCl [(mo, .inr (4, [.int (nI 0), .int (nI (stS q)), .int (stM q), .int (nI ((stT q).length)), .ref qi, .ref qs, .ref qe, .ref qn, .ref qk])), (qi, .inl (cI, 6, .inl gi)), (qs, .inl (cI, 6, .inl gs)), (qe, .inl (cI, 6, .inl ge)), (qn, .inl (cI, 42, .inl w))] H := hP
  have hD : va_D A [(mo, .inr (4, [.int (nI 0), .int (nI (stS q)), .int (stM q), .int (nI ((stT q).length)), .ref qi, .ref qs, .ref qe, .ref qn, .ref qk])), (qi, .inl (cI, 6, .inl gi)), (qs, .inl (cI, 6, .inl gs)), (qe, .inl (cI, 6, .inl ge)), (qn, .inl (cI, 42, .inl w))] := hD
  refine lv_iload_n hx hb dX4_addTalker_5 rfl (lv_at hl 1 rfl) ?_
  refine lv_iload_n hx hb dX4_addTalker_6 rfl (lv_at hl 2 rfl) ?_
  refine k_callS (As := [.int (nI kn), .int (nI z)]) (rest := []) (wr := [(mo, .inr (4, [.int (nI 0), .int (nI (stS q)), .int (stM q), .int (nI ((stT q).length)), .ref qi, .ref qs, .ref qe, .ref qn, .ref qk])), (qi, .inl (cI, 6, .inl gi)), (qs, .inl (cI, 6, .inl gs)), (qe, .inl (cI, 6, .inl ge)), (qn, .inl (cI, 42, .inl w))]) F (c_X4_isTopic l D cI kn z hk hz) gX4_addTalker_X4_isTopic rfl (nA := 2) (by decide +kernel) rfl ⟨Nat.le_of_ble_eq_true rfl, Nat.le_of_ble_eq_true rfl⟩ hK hP hD hS hA hG [] [0, 1, 2, 3, 4] rfl (by decide) rfl (by decide) (by decide) [0] rfl rfl hl.1 (Nat.le_of_ble_eq_true rfl) dX4_addTalker_7 ⟨Nat.le_of_ble_eq_true rfl, Nat.le_of_ble_eq_true rfl⟩ (fun r_1 u H locs hr_7 hP hD hS => ?_)
  try dsimp only at hr_7
  have hP : va_P D vwCl [(mo, .inr (4, [.int (nI 0), .int (nI (stS q)), .int (stM q), .int (nI ((stT q).length)), .ref qi, .ref qs, .ref qe, .ref qn, .ref qk])), (qi, .inl (cI, 6, .inl gi)), (qs, .inl (cI, 6, .inl gs)), (qe, .inl (cI, 6, .inl ge)), (qn, .inl (cI, 42, .inl w))] H := hP
  have hD : va_D A [(mo, .inr (4, [.int (nI 0), .int (nI (stS q)), .int (stM q), .int (nI ((stT q).length)), .ref qi, .ref qs, .ref qe, .ref qn, .ref qk])), (qi, .inl (cI, 6, .inl gi)), (qs, .inl (cI, 6, .inl gs)), (qe, .inl (cI, 6, .inl ge)), (qn, .inl (cI, 42, .inl w))] := hD
  refine W.eq (g2 := F0 m 10 ls [.int r_1]) rfl ?_
  refine W.widen (k := 0) (n := 0) (Nat.le_of_ble_eq_true rfl) (Nat.le_of_ble_eq_true rfl) ?_
  refine k_top (v := nI 1) (hr_7) ?_
  refine k_if_eq (tgt := 23) hx hb 1 rfl (by omega) dX4_addTalker_10 (by decide) (fun c_10 => ?_) (fun c_10 => ?_)
  · exact absurd c_10 (by omega)
  · skip
    refine lv_iload_n hx hb dX4_addTalker_13 rfl (lv_at hl 3 rfl) ?_
    refine lv_iconst (v := nI 1) hx hb dX4_addTalker_14 (by decide +kernel) ?_
    refine lv_bipush (v := nI 9) hx hb dX4_addTalker_15 (by decide +kernel) ?_
    refine k_callS (As := [.int y, .int (nI 1), .int (nI 9)]) (rest := []) (wr := [(mo, .inr (4, [.int (nI 0), .int (nI (stS q)), .int (stM q), .int (nI ((stT q).length)), .ref qi, .ref qs, .ref qe, .ref qn, .ref qk])), (qi, .inl (cI, 6, .inl gi)), (qs, .inl (cI, 6, .inl gs)), (qe, .inl (cI, 6, .inl ge)), (qn, .inl (cI, 42, .inl w))]) F (c_X4_isIn_no l D cI y (nI 1) (nI 9) hx9) gX4_addTalker_X4_isIn rfl (nA := 3) (by decide +kernel) rfl ⟨Nat.le_of_ble_eq_true rfl, Nat.le_of_ble_eq_true rfl⟩ hK hP hD hS hA hG [] [0, 1, 2, 3, 4] rfl (by decide) rfl (by decide) (by decide) [0] rfl rfl hl.1 (Nat.le_of_ble_eq_true rfl) dX4_addTalker_17 ⟨Nat.le_of_ble_eq_true rfl, Nat.le_of_ble_eq_true rfl⟩ (fun r_2 u H locs hr_17 hP hD hS => ?_)
    try dsimp only at hr_17
    have hP : va_P D vwCl [(mo, .inr (4, [.int (nI 0), .int (nI (stS q)), .int (stM q), .int (nI ((stT q).length)), .ref qi, .ref qs, .ref qe, .ref qn, .ref qk])), (qi, .inl (cI, 6, .inl gi)), (qs, .inl (cI, 6, .inl gs)), (qe, .inl (cI, 6, .inl ge)), (qn, .inl (cI, 42, .inl w))] H := hP
    have hD : va_D A [(mo, .inr (4, [.int (nI 0), .int (nI (stS q)), .int (stM q), .int (nI ((stT q).length)), .ref qi, .ref qs, .ref qe, .ref qn, .ref qk])), (qi, .inl (cI, 6, .inl gi)), (qs, .inl (cI, 6, .inl gs)), (qe, .inl (cI, 6, .inl ge)), (qn, .inl (cI, 42, .inl w))] := hD
    refine W.eq (g2 := F0 m 20 ls [.int r_2]) rfl ?_
    refine W.widen (k := 0) (n := 0) (Nat.le_of_ble_eq_true rfl) (Nat.le_of_ble_eq_true rfl) ?_
    refine k_top (v := nI 0) (hr_17) ?_
    refine k_if_ne (tgt := 29) hx hb 0 rfl (by omega) dX4_addTalker_20 (by decide) (fun c_20 => ?_) (fun c_20 => ?_)
    · exact absurd c_20 (by omega)
    · skip
      refine lv_aload_n hx hb dX4_addTalker_23 rfl (lv_at hl 0 rfl) ?_
      refine lv_iconst (v := nI 1) hx hb dX4_addTalker_24 (by decide +kernel) ?_
      refine k_callV (As := [.int (nI 1)]) (rest := []) (wr := [(qi, .inl (cI, 6, .inl gi)), (qs, .inl (cI, 6, .inl gs)), (qe, .inl (cI, 6, .inl ge)), (qn, .inl (cI, 42, .inl w))]) F (c_X4_no l D cI mo qi qs qe qn qk (nI 0) (nI (stS q)) (stM q) (nI ((stT q).length)) (nI 1) ) gX4_addTalker_X4_no rfl (nA := 1) (by decide +kernel) rfl ⟨Nat.le_of_ble_eq_true rfl, Nat.le_of_ble_eq_true rfl⟩ hK hP hD hS hA hG (ci := 4) (q0 := 0) rfl rfl rfl [0] [1, 2, 3, 4] rfl (by decide) rfl (by decide) (by decide) [0] rfl rfl hl.1 (Nat.le_of_ble_eq_true rfl) dX4_addTalker_25 ⟨Nat.le_of_ble_eq_true rfl, Nat.le_of_ble_eq_true rfl⟩ (fun r_3 u H locs hr_25 hP hD hS => ?_)
      try dsimp only at hr_25
      have hP : va_P D vwCl [(qi, .inl (cI, 6, .inl gi)), (qs, .inl (cI, 6, .inl gs)), (qe, .inl (cI, 6, .inl ge)), (qn, .inl (cI, 42, .inl w)), (mo, .inr (4, [.int (nI 1), .int (nI (stS q)), .int (stM q), .int (nI ((stT q).length)), .ref qi, .ref qs, .ref qe, .ref qn, .ref qk]))] H := hP
      have hD : va_D A [(qi, .inl (cI, 6, .inl gi)), (qs, .inl (cI, 6, .inl gs)), (qe, .inl (cI, 6, .inl ge)), (qn, .inl (cI, 42, .inl w)), (mo, .inr (4, [.int (nI 1), .int (nI (stS q)), .int (stM q), .int (nI ((stT q).length)), .ref qi, .ref qs, .ref qe, .ref qn, .ref qk]))] := hD
      refine W.eq (g2 := F0 m 28 ls [.int r_3]) rfl ?_
      refine W.widen (k := 0) (n := 0) (Nat.le_of_ble_eq_true rfl) (Nat.le_of_ble_eq_true rfl) ?_
      exact ret r_3 () _ _ _ _ _ _ (trivial) (hP.sub [4, 0, 1, 2, 3] (rfl)) (hD.sub [4, 0, 1, 2, 3] (by decide) (rfl)) hS (Nat.le_of_ble_eq_true rfl) (Nat.le_of_ble_eq_true rfl) dX4_addTalker_28

abbrev rm_X4_addTalker_full : Room := { frames := 2, cells := 0, slots := 0, locals := 43 }
set_option maxHeartbeats 4000000 in
set_option maxRecDepth 100000 in
theorem c_X4_addTalker_full (l : Launch) (D : va_G) (cI : ClassId) (mo : Nat) (qi : Nat) (qs : Nat) (qe : Nat) (qn : Nat) (qk : Nat) (tw : Int32) (gi : Nat → Int32) (gs : Nat → Int32) (ge : Nat → Int32) (w : Nat → Int32) (q : St) (kn : Nat) (z : Nat) (mm : Nat) (hN : rN gi gs ge w q) (hk : kn < 5) (hz : 2 ≤ z ∧ z ≤ 99) (hm : 1 ≤ mm ∧ mm ≤ 9) (h6 : ¬ (stT q).length < 6) : kM kri l yX4_addTalker wsX4_addTalker rm_X4_addTalker_full D [(cI, .int)] [.ref mo, .int (nI kn), .int (nI z), .int (nI mm)] [(mo, .inr (4, [.int tw, .int (nI (stS q)), .int (stM q), .int (nI ((stT q).length)), .ref qi, .ref qs, .ref qe, .ref qn, .ref qk])), (qi, .inl (cI, 6, .inl gi)), (qs, .inl (cI, 6, .inl gs)), (qe, .inl (cI, 6, .inl ge)), (qn, .inl (cI, 42, .inl w))] (fun (r : Int32) (u : Unit) => True) (fun (u : Unit) => [(mo, .inr (4, [.int (nI 2), .int (nI (stS q)), .int (stM q), .int (nI ((stT q).length)), .ref qi, .ref qs, .ref qe, .ref qn, .ref qk])), (qi, .inl (cI, 6, .inl gi)), (qs, .inl (cI, 6, .inl gs)), (qe, .inl (cI, 6, .inl ge)), (qn, .inl (cI, 42, .inl w))]) := by
  refine k_bodyI (cc := cX4_addTalker) (maxL := 4) (by decide) rfl (Nat.le_of_ble_eq_true rfl) ?_
  intro p e ss m args below meth c A Q F hname hA hG hK hP hD hS ret ls hl
  obtain ⟨hx, hb, hml, hown, hts⟩ := id F
  have hP : va_P D vwCl [(mo, .inr (4, [.int tw, .int (nI (stS q)), .int (stM q), .int (nI ((stT q).length)), .ref qi, .ref qs, .ref qe, .ref qn, .ref qk])), (qi, .inl (cI, 6, .inl gi)), (qs, .inl (cI, 6, .inl gs)), (qe, .inl (cI, 6, .inl ge)), (qn, .inl (cI, 42, .inl w))] ss.heap := hP
  have hD : va_D A [(mo, .inr (4, [.int tw, .int (nI (stS q)), .int (stM q), .int (nI ((stT q).length)), .ref qi, .ref qs, .ref qe, .ref qn, .ref qk])), (qi, .inl (cI, 6, .inl gi)), (qs, .inl (cI, 6, .inl gs)), (qe, .inl (cI, 6, .inl ge)), (qn, .inl (cI, 42, .inl w))] := hD
  have hl : lv_has ls 4 [(0, .ref mo), (1, .int (nI kn)), (2, .int (nI z)), (3, .int (nI mm))] := hl
  have iX4 : ∀ w ∈ u_ws RX4 TX4 9, w ∈ wsX4_addTalker := by decide +kernel
  have f32 := hts (.fieldLink RX4 32 "SmallerTalkModel" "thrown" "I") (by decide +kernel)
  have f39 := hts (.fieldLink RX4 39 "SmallerTalkModel" "talkers" "I") (by decide +kernel)
  obtain ⟨n0, n1, n2, n3, n4, n5, nB, nT⟩ := id hN
  have h7 := nT.1
  refine lv_aload_n hx hb dX4_addTalker_0 rfl (lv_at hl 0 rfl) ?_
  refine lv_iconst (v := nI 0) hx hb dX4_addTalker_1 (by decide +kernel) ?_
  refine va_put (D := D) (ci := 4) (v := .int (nI 0)) (ty := .int) (C := RX4) (T := TX4) (N := 9) hx hb hts iX4 tyX4 tyX4_ok nmX4 hown hK hP hD hS 0 rfl rfl 0 (by decide) f32 (fun _ h9 => h9) rfl (by decide +kernel) rfl rfl (Nat.le_of_ble_eq_true rfl) dX4_addTalker_2 (fun H locs hP hD hS => ?_)
  have hP : va_P D vwCl [(mo, .inr (4, [.int (nI 0), .int (nI (stS q)), .int (stM q), .int (nI ((stT q).length)), .ref qi, .ref qs, .ref qe, .ref qn, .ref qk])), (qi, .inl (cI, 6, .inl gi)), (qs, .inl (cI, 6, .inl gs)), (qe, .inl (cI, 6, .inl ge)), (qn, .inl (cI, 42, .inl w))] H := hP
  have hD : va_D A [(mo, .inr (4, [.int (nI 0), .int (nI (stS q)), .int (stM q), .int (nI ((stT q).length)), .ref qi, .ref qs, .ref qe, .ref qn, .ref qk])), (qi, .inl (cI, 6, .inl gi)), (qs, .inl (cI, 6, .inl gs)), (qe, .inl (cI, 6, .inl ge)), (qn, .inl (cI, 42, .inl w))] := hD
  refine lv_iload_n hx hb dX4_addTalker_5 rfl (lv_at hl 1 rfl) ?_
  refine lv_iload_n hx hb dX4_addTalker_6 rfl (lv_at hl 2 rfl) ?_
  refine k_callS (As := [.int (nI kn), .int (nI z)]) (rest := []) (wr := [(mo, .inr (4, [.int (nI 0), .int (nI (stS q)), .int (stM q), .int (nI ((stT q).length)), .ref qi, .ref qs, .ref qe, .ref qn, .ref qk])), (qi, .inl (cI, 6, .inl gi)), (qs, .inl (cI, 6, .inl gs)), (qe, .inl (cI, 6, .inl ge)), (qn, .inl (cI, 42, .inl w))]) F (c_X4_isTopic l D cI kn z hk hz) gX4_addTalker_X4_isTopic rfl (nA := 2) (by decide +kernel) rfl ⟨Nat.le_of_ble_eq_true rfl, Nat.le_of_ble_eq_true rfl⟩ hK hP hD hS hA hG [] [0, 1, 2, 3, 4] rfl (by decide) rfl (by decide) (by decide) [0] rfl rfl hl.1 (Nat.le_of_ble_eq_true rfl) dX4_addTalker_7 ⟨Nat.le_of_ble_eq_true rfl, Nat.le_of_ble_eq_true rfl⟩ (fun r_1 u H locs hr_7 hP hD hS => ?_)
  try dsimp only at hr_7
  have hP : va_P D vwCl [(mo, .inr (4, [.int (nI 0), .int (nI (stS q)), .int (stM q), .int (nI ((stT q).length)), .ref qi, .ref qs, .ref qe, .ref qn, .ref qk])), (qi, .inl (cI, 6, .inl gi)), (qs, .inl (cI, 6, .inl gs)), (qe, .inl (cI, 6, .inl ge)), (qn, .inl (cI, 42, .inl w))] H := hP
  have hD : va_D A [(mo, .inr (4, [.int (nI 0), .int (nI (stS q)), .int (stM q), .int (nI ((stT q).length)), .ref qi, .ref qs, .ref qe, .ref qn, .ref qk])), (qi, .inl (cI, 6, .inl gi)), (qs, .inl (cI, 6, .inl gs)), (qe, .inl (cI, 6, .inl ge)), (qn, .inl (cI, 42, .inl w))] := hD
  refine W.eq (g2 := F0 m 10 ls [.int r_1]) rfl ?_
  refine W.widen (k := 0) (n := 0) (Nat.le_of_ble_eq_true rfl) (Nat.le_of_ble_eq_true rfl) ?_
  refine k_top (v := nI 1) (hr_7) ?_
  refine k_if_eq (tgt := 23) hx hb 1 rfl (by omega) dX4_addTalker_10 (by decide) (fun c_10 => ?_) (fun c_10 => ?_)
  · exact absurd c_10 (by omega)
  · skip
    refine lv_iload_n hx hb dX4_addTalker_13 rfl (lv_at hl 3 rfl) ?_
    refine lv_iconst (v := nI 1) hx hb dX4_addTalker_14 (by decide +kernel) ?_
    refine lv_bipush (v := nI 9) hx hb dX4_addTalker_15 (by decide +kernel) ?_
    refine k_callS (As := [.int (nI mm), .int (nI 1), .int (nI 9)]) (rest := []) (wr := [(mo, .inr (4, [.int (nI 0), .int (nI (stS q)), .int (stM q), .int (nI ((stT q).length)), .ref qi, .ref qs, .ref qe, .ref qn, .ref qk])), (qi, .inl (cI, 6, .inl gi)), (qs, .inl (cI, 6, .inl gs)), (qe, .inl (cI, 6, .inl ge)), (qn, .inl (cI, 42, .inl w))]) F (c_X4_isIn l D cI mm 1 9 (by omega) (by omega)) gX4_addTalker_X4_isIn rfl (nA := 3) (by decide +kernel) rfl ⟨Nat.le_of_ble_eq_true rfl, Nat.le_of_ble_eq_true rfl⟩ hK hP hD hS hA hG [] [0, 1, 2, 3, 4] rfl (by decide) rfl (by decide) (by decide) [0] rfl rfl hl.1 (Nat.le_of_ble_eq_true rfl) dX4_addTalker_17 ⟨Nat.le_of_ble_eq_true rfl, Nat.le_of_ble_eq_true rfl⟩ (fun r_2 u H locs hr_17 hP hD hS => ?_)
    try dsimp only at hr_17
    have hP : va_P D vwCl [(mo, .inr (4, [.int (nI 0), .int (nI (stS q)), .int (stM q), .int (nI ((stT q).length)), .ref qi, .ref qs, .ref qe, .ref qn, .ref qk])), (qi, .inl (cI, 6, .inl gi)), (qs, .inl (cI, 6, .inl gs)), (qe, .inl (cI, 6, .inl ge)), (qn, .inl (cI, 42, .inl w))] H := hP
    have hD : va_D A [(mo, .inr (4, [.int (nI 0), .int (nI (stS q)), .int (stM q), .int (nI ((stT q).length)), .ref qi, .ref qs, .ref qe, .ref qn, .ref qk])), (qi, .inl (cI, 6, .inl gi)), (qs, .inl (cI, 6, .inl gs)), (qe, .inl (cI, 6, .inl ge)), (qn, .inl (cI, 42, .inl w))] := hD
    refine W.eq (g2 := F0 m 20 ls [.int r_2]) rfl ?_
    refine W.widen (k := 0) (n := 0) (Nat.le_of_ble_eq_true rfl) (Nat.le_of_ble_eq_true rfl) ?_
    refine k_top (v := nI 1) (hr_17) ?_
    refine k_if_ne (tgt := 29) hx hb 1 rfl (by omega) dX4_addTalker_20 (by decide) (fun c_20 => ?_) (fun c_20 => ?_)
    · skip
      refine lv_aload_n hx hb dX4_addTalker_29 rfl (lv_at hl 0 rfl) ?_
      refine va_get (D := D) (ci := 4) (v := .int (nI ((stT q).length))) (C := RX4) (T := TX4) (N := 9) hx hb hts iX4 hown hK hP 0 rfl rfl 3 (by decide) f39 (fun _ h9 => h9) rfl dX4_addTalker_30 ?_
      refine lv_bipush (v := nI 6) hx hb dX4_addTalker_33 (by decide +kernel) ?_
      refine k_cmp_ne (tgt := 44) hx hb ((stT q).length) 6 rfl rfl (by omega) (by omega) dX4_addTalker_35 (by decide) (fun c_35 => ?_) (fun c_35 => ?_)
      · skip
        exact absurd c_35 (by omega)
      · skip
        refine lv_aload_n hx hb dX4_addTalker_38 rfl (lv_at hl 0 rfl) ?_
        refine lv_iconst (v := nI 2) hx hb dX4_addTalker_39 (by decide +kernel) ?_
        refine k_callV (As := [.int (nI 2)]) (rest := []) (wr := [(qi, .inl (cI, 6, .inl gi)), (qs, .inl (cI, 6, .inl gs)), (qe, .inl (cI, 6, .inl ge)), (qn, .inl (cI, 42, .inl w))]) F (c_X4_no l D cI mo qi qs qe qn qk (nI 0) (nI (stS q)) (stM q) (nI ((stT q).length)) (nI 2) ) gX4_addTalker_X4_no rfl (nA := 1) (by decide +kernel) rfl ⟨Nat.le_of_ble_eq_true rfl, Nat.le_of_ble_eq_true rfl⟩ hK hP hD hS hA hG (ci := 4) (q0 := 0) rfl rfl rfl [0] [1, 2, 3, 4] rfl (by decide) rfl (by decide) (by decide) [0] rfl rfl hl.1 (Nat.le_of_ble_eq_true rfl) dX4_addTalker_40 ⟨Nat.le_of_ble_eq_true rfl, Nat.le_of_ble_eq_true rfl⟩ (fun r_3 u H locs hr_40 hP hD hS => ?_)
        try dsimp only at hr_40
        have hP : va_P D vwCl [(qi, .inl (cI, 6, .inl gi)), (qs, .inl (cI, 6, .inl gs)), (qe, .inl (cI, 6, .inl ge)), (qn, .inl (cI, 42, .inl w)), (mo, .inr (4, [.int (nI 2), .int (nI (stS q)), .int (stM q), .int (nI ((stT q).length)), .ref qi, .ref qs, .ref qe, .ref qn, .ref qk]))] H := hP
        have hD : va_D A [(qi, .inl (cI, 6, .inl gi)), (qs, .inl (cI, 6, .inl gs)), (qe, .inl (cI, 6, .inl ge)), (qn, .inl (cI, 42, .inl w)), (mo, .inr (4, [.int (nI 2), .int (nI (stS q)), .int (stM q), .int (nI ((stT q).length)), .ref qi, .ref qs, .ref qe, .ref qn, .ref qk]))] := hD
        refine W.eq (g2 := F0 m 43 ls [.int r_3]) rfl ?_
        refine W.widen (k := 0) (n := 0) (Nat.le_of_ble_eq_true rfl) (Nat.le_of_ble_eq_true rfl) ?_
        exact ret r_3 () _ _ _ _ _ _ (trivial) (hP.sub [4, 0, 1, 2, 3] (rfl)) (hD.sub [4, 0, 1, 2, 3] (by decide) (rfl)) hS (Nat.le_of_ble_eq_true rfl) (Nat.le_of_ble_eq_true rfl) dX4_addTalker_43
    · exact absurd c_20 (by omega)

