abbrev rm_X4_thrown : Room := { frames := 0, cells := 0, slots := 0, locals := 0 }
set_option maxHeartbeats 4000000 in
set_option maxRecDepth 100000 in
theorem c_X4_thrown (l : Launch) (D : va_G) (cI : ClassId) (mo : Nat) (qi : Nat) (qs : Nat) (qe : Nat) (qn : Nat) (qk : Nat) (tw : Int32) (sv : Int32) (sm : Int32) (nt : Int32) : kM kri l yX4_thrown wsX4_thrown rm_X4_thrown D [(cI, .int)] [.ref mo] [(mo, .inr (4, [.int tw, .int sv, .int sm, .int nt, .ref qi, .ref qs, .ref qe, .ref qn, .ref qk]))] (fun (r : Int32) (u : Unit) => r = tw) (fun (u : Unit) => [(mo, .inr (4, [.int tw, .int sv, .int sm, .int nt, .ref qi, .ref qs, .ref qe, .ref qn, .ref qk]))]) := by
  refine k_bodyI (cc := cX4_thrown) (maxL := 1) (by decide) rfl (Nat.le_of_ble_eq_true rfl) ?_
  intro p e ss m args below meth c A Q F hname hA hG hK hP hD hS ret ls hl
  obtain ⟨hx, hb, hml, hown, hts⟩ := id F
  have hP : va_P D vwCl [(mo, .inr (4, [.int tw, .int sv, .int sm, .int nt, .ref qi, .ref qs, .ref qe, .ref qn, .ref qk]))] ss.heap := hP
  have hD : va_D A [(mo, .inr (4, [.int tw, .int sv, .int sm, .int nt, .ref qi, .ref qs, .ref qe, .ref qn, .ref qk]))] := hD
  have hl : lv_has ls 1 [(0, .ref mo)] := hl
  have iX4 : ∀ w ∈ u_ws RX4 TX4 9, w ∈ wsX4_thrown := by decide +kernel
  have f32 := hts (.fieldLink RX4 32 "SmallerTalkModel" "thrown" "I") (by decide +kernel)
  refine lv_aload_n hx hb dX4_thrown_0 rfl (lv_at hl 0 rfl) ?_
  refine va_get (D := D) (ci := 4) (v := .int tw) (C := RX4) (T := TX4) (N := 9) hx hb hts iX4 hown hK hP 0 rfl rfl 0 (by decide) f32 (fun _ h9 => h9) rfl dX4_thrown_1 ?_
  exact ret tw () _ _ _ _ _ _ (rfl) (hP.sub [0] (rfl)) (hD.sub [0] (by decide) (rfl)) hS (Nat.le_of_ble_eq_true rfl) (Nat.le_of_ble_eq_true rfl) dX4_thrown_4

abbrev rm_X4_no : Room := { frames := 0, cells := 0, slots := 0, locals := 0 }
set_option maxHeartbeats 4000000 in
set_option maxRecDepth 100000 in
theorem c_X4_no (l : Launch) (D : va_G) (cI : ClassId) (mo : Nat) (qi : Nat) (qs : Nat) (qe : Nat) (qn : Nat) (qk : Nat) (tw : Int32) (sv : Int32) (sm : Int32) (nt : Int32) (x : Int32) : kM kri l yX4_no wsX4_no rm_X4_no D [(cI, .int)] [.ref mo, .int x] [(mo, .inr (4, [.int tw, .int sv, .int sm, .int nt, .ref qi, .ref qs, .ref qe, .ref qn, .ref qk]))] (fun (r : Int32) (u : Unit) => r = nI 0) (fun (u : Unit) => [(mo, .inr (4, [.int x, .int sv, .int sm, .int nt, .ref qi, .ref qs, .ref qe, .ref qn, .ref qk]))]) := by
  refine k_bodyI (cc := cX4_no) (maxL := 2) (by decide) rfl (Nat.le_of_ble_eq_true rfl) ?_
  intro p e ss m args below meth c A Q F hname hA hG hK hP hD hS ret ls hl
  obtain ⟨hx, hb, hml, hown, hts⟩ := id F
  have hP : va_P D vwCl [(mo, .inr (4, [.int tw, .int sv, .int sm, .int nt, .ref qi, .ref qs, .ref qe, .ref qn, .ref qk]))] ss.heap := hP
  have hD : va_D A [(mo, .inr (4, [.int tw, .int sv, .int sm, .int nt, .ref qi, .ref qs, .ref qe, .ref qn, .ref qk]))] := hD
  have hl : lv_has ls 2 [(0, .ref mo), (1, .int x)] := hl
  have iX4 : ∀ w ∈ u_ws RX4 TX4 9, w ∈ wsX4_no := by decide +kernel
  have f32 := hts (.fieldLink RX4 32 "SmallerTalkModel" "thrown" "I") (by decide +kernel)
  refine lv_aload_n hx hb dX4_no_0 rfl (lv_at hl 0 rfl) ?_
  refine lv_iload_n hx hb dX4_no_1 rfl (lv_at hl 1 rfl) ?_
  refine va_put (D := D) (ci := 4) (v := .int x) (ty := .int) (C := RX4) (T := TX4) (N := 9) hx hb hts iX4 tyX4 tyX4_ok nmX4 hown hK hP hD hS 0 rfl rfl 0 (by decide) f32 (fun _ h9 => h9) rfl (by decide +kernel) rfl rfl (Nat.le_of_ble_eq_true rfl) dX4_no_2 (fun H locs hP hD hS => ?_)
  have hP : va_P D vwCl [(mo, .inr (4, [.int x, .int sv, .int sm, .int nt, .ref qi, .ref qs, .ref qe, .ref qn, .ref qk]))] H := hP
  have hD : va_D A [(mo, .inr (4, [.int x, .int sv, .int sm, .int nt, .ref qi, .ref qs, .ref qe, .ref qn, .ref qk]))] := hD
  refine lv_iconst (v := nI 0) hx hb dX4_no_5 (by decide +kernel) ?_
  exact ret (nI 0) () _ _ _ _ _ _ (rfl) (hP.sub [0] (rfl)) (hD.sub [0] (by decide) (rfl)) hS (Nat.le_of_ble_eq_true rfl) (Nat.le_of_ble_eq_true rfl) dX4_no_6

abbrev rm_X4_ok : Room := { frames := 0, cells := 0, slots := 0, locals := 0 }
set_option maxHeartbeats 4000000 in
set_option maxRecDepth 100000 in
theorem c_X4_ok (l : Launch) (D : va_G) (cI : ClassId) (mo : Nat) (qi : Nat) (qs : Nat) (qe : Nat) (qn : Nat) (qk : Nat) (tw : Int32) (sv : Int32) (sm : Int32) (nt : Int32) (x : Int32) : kM kri l yX4_ok wsX4_ok rm_X4_ok D [(cI, .int)] [.ref mo, .int x] [(mo, .inr (4, [.int tw, .int sv, .int sm, .int nt, .ref qi, .ref qs, .ref qe, .ref qn, .ref qk]))] (fun (r : Int32) (u : Unit) => r = x) (fun (u : Unit) => [(mo, .inr (4, [.int (nI 0), .int sv, .int sm, .int nt, .ref qi, .ref qs, .ref qe, .ref qn, .ref qk]))]) := by
  refine k_bodyI (cc := cX4_ok) (maxL := 2) (by decide) rfl (Nat.le_of_ble_eq_true rfl) ?_
  intro p e ss m args below meth c A Q F hname hA hG hK hP hD hS ret ls hl
  obtain ⟨hx, hb, hml, hown, hts⟩ := id F
  have hP : va_P D vwCl [(mo, .inr (4, [.int tw, .int sv, .int sm, .int nt, .ref qi, .ref qs, .ref qe, .ref qn, .ref qk]))] ss.heap := hP
  have hD : va_D A [(mo, .inr (4, [.int tw, .int sv, .int sm, .int nt, .ref qi, .ref qs, .ref qe, .ref qn, .ref qk]))] := hD
  have hl : lv_has ls 2 [(0, .ref mo), (1, .int x)] := hl
  have iX4 : ∀ w ∈ u_ws RX4 TX4 9, w ∈ wsX4_ok := by decide +kernel
  have f32 := hts (.fieldLink RX4 32 "SmallerTalkModel" "thrown" "I") (by decide +kernel)
  refine lv_aload_n hx hb dX4_ok_0 rfl (lv_at hl 0 rfl) ?_
  refine lv_iconst (v := nI 0) hx hb dX4_ok_1 (by decide +kernel) ?_
  refine va_put (D := D) (ci := 4) (v := .int (nI 0)) (ty := .int) (C := RX4) (T := TX4) (N := 9) hx hb hts iX4 tyX4 tyX4_ok nmX4 hown hK hP hD hS 0 rfl rfl 0 (by decide) f32 (fun _ h9 => h9) rfl (by decide +kernel) rfl rfl (Nat.le_of_ble_eq_true rfl) dX4_ok_2 (fun H locs hP hD hS => ?_)
  have hP : va_P D vwCl [(mo, .inr (4, [.int (nI 0), .int sv, .int sm, .int nt, .ref qi, .ref qs, .ref qe, .ref qn, .ref qk]))] H := hP
  have hD : va_D A [(mo, .inr (4, [.int (nI 0), .int sv, .int sm, .int nt, .ref qi, .ref qs, .ref qe, .ref qn, .ref qk]))] := hD
  refine lv_iload_n hx hb dX4_ok_5 rfl (lv_at hl 1 rfl) ?_
  exact ret x () _ _ _ _ _ _ (rfl) (hP.sub [0] (rfl)) (hD.sub [0] (by decide) (rfl)) hS (Nat.le_of_ble_eq_true rfl) (Nat.le_of_ble_eq_true rfl) dX4_ok_6

abbrev rm_X4_isIn : Room := { frames := 0, cells := 0, slots := 0, locals := 0 }
set_option maxHeartbeats 4000000 in
set_option maxRecDepth 100000 in
theorem c_X4_isIn (l : Launch) (D : va_G) (cI : ClassId) (v : Nat) (lo : Nat) (hi : Nat) (hv : lo ≤ v ∧ v ≤ hi) (hh : hi < 2147483648) : kM kri l yX4_isIn wsX4_isIn rm_X4_isIn D [(cI, .int)] [.int (nI v), .int (nI lo), .int (nI hi)] [] (fun (r : Int32) (u : Unit) => r = 1) (fun (u : Unit) => []) := by
  refine k_bodyZ (cc := cX4_isIn) (maxL := 3) (by decide) rfl (Nat.le_of_ble_eq_true rfl) ?_
  intro p e ss m args below meth c A Q F hname hA hG hK hP hD hS ret ls hl
  obtain ⟨hx, hb, hml, hown, hts⟩ := id F
  have hP : va_P D vwCl [] ss.heap := hP
  have hD : va_D A [] := hD
  have hl : lv_has ls 3 [(0, .int (nI v)), (1, .int (nI lo)), (2, .int (nI hi))] := hl
  refine lv_iload_n hx hb dX4_isIn_0 rfl (lv_at hl 0 rfl) ?_
  refine lv_iload_n hx hb dX4_isIn_1 rfl (lv_at hl 1 rfl) ?_
  refine k_cmp_lt (tgt := 14) hx hb v lo rfl rfl (by omega) (by omega) dX4_isIn_2 (by decide) (fun c_2 => ?_) (fun c_2 => ?_)
  · skip
    exact absurd c_2 (by omega)
  · skip
    refine lv_iload_n hx hb dX4_isIn_5 rfl (lv_at hl 0 rfl) ?_
    refine lv_iload_n hx hb dX4_isIn_6 rfl (lv_at hl 2 rfl) ?_
    refine k_cmp_gt (tgt := 14) hx hb v hi rfl rfl (by omega) (by omega) dX4_isIn_7 (by decide) (fun c_7 => ?_) (fun c_7 => ?_)
    · skip
      exact absurd c_7 (by omega)
    · skip
      refine lv_iconst (v := nI 1) hx hb dX4_isIn_10 (by decide +kernel) ?_
      refine lv_goto (tgt := 15) hx hb dX4_isIn_11 (by decide) ?_
      exact ret (nI 1) () _ _ _ _ _ _ rfl (rfl) (hP.sub [] (rfl)) (hD.sub [] (by decide) (rfl)) hS (Nat.le_of_ble_eq_true rfl) (Nat.le_of_ble_eq_true rfl) dX4_isIn_15

abbrev rm_X4_isIn_no : Room := { frames := 0, cells := 0, slots := 0, locals := 0 }
set_option maxHeartbeats 4000000 in
set_option maxRecDepth 100000 in
theorem c_X4_isIn_no (l : Launch) (D : va_G) (cI : ClassId) (v : Int32) (lo : Int32) (hi : Int32) (hv : ¬ (lo ≤ v ∧ v ≤ hi)) : kM kri l yX4_isIn wsX4_isIn rm_X4_isIn_no D [(cI, .int)] [.int v, .int lo, .int hi] [] (fun (r : Int32) (u : Unit) => r = 0) (fun (u : Unit) => []) := by
  refine k_bodyZ (cc := cX4_isIn) (maxL := 3) (by decide) rfl (Nat.le_of_ble_eq_true rfl) ?_
  intro p e ss m args below meth c A Q F hname hA hG hK hP hD hS ret ls hl
  obtain ⟨hx, hb, hml, hown, hts⟩ := id F
  have hP : va_P D vwCl [] ss.heap := hP
  have hD : va_D A [] := hD
  have hl : lv_has ls 3 [(0, .int v), (1, .int lo), (2, .int hi)] := hl
  refine lv_iload_n hx hb dX4_isIn_0 rfl (lv_at hl 0 rfl) ?_
  refine lv_iload_n hx hb dX4_isIn_1 rfl (lv_at hl 1 rfl) ?_
  refine lv_icmp_lt (tgt := 14) hx hb dX4_isIn_2 (by decide) (fun c_2 => ?_) (fun c_2 => ?_)
  · skip
    refine lv_iconst (v := nI 0) hx hb dX4_isIn_14 (by decide +kernel) ?_
    exact ret (nI 0) () _ _ _ _ _ _ rfl (rfl) (hP.sub [] (rfl)) (hD.sub [] (by decide) (rfl)) hS (Nat.le_of_ble_eq_true rfl) (Nat.le_of_ble_eq_true rfl) dX4_isIn_15
  · skip
    refine lv_iload_n hx hb dX4_isIn_5 rfl (lv_at hl 0 rfl) ?_
    refine lv_iload_n hx hb dX4_isIn_6 rfl (lv_at hl 2 rfl) ?_
    refine lv_icmp_gt (tgt := 14) hx hb dX4_isIn_7 (by decide) (fun c_7 => ?_) (fun c_7 => ?_)
    · skip
      refine lv_iconst (v := nI 0) hx hb dX4_isIn_14 (by decide +kernel) ?_
      exact ret (nI 0) () _ _ _ _ _ _ rfl (rfl) (hP.sub [] (rfl)) (hD.sub [] (by decide) (rfl)) hS (Nat.le_of_ble_eq_true rfl) (Nat.le_of_ble_eq_true rfl) dX4_isIn_15
    · skip
      exact absurd ⟨Int32.not_lt.mp c_2, Int32.not_lt.mp c_7⟩ hv

abbrev rm_X4_isPlace : Room := { frames := 1, cells := 0, slots := 0, locals := 22 }
set_option maxHeartbeats 4000000 in
set_option maxRecDepth 100000 in
theorem c_X4_isPlace (l : Launch) (D : va_G) (cI : ClassId) (mo : Nat) (qi : Nat) (qs : Nat) (qe : Nat) (qn : Nat) (qk : Nat) (tw : Int32) (sv : Int32) (sm : Int32) (nt : Int32) (w : Nat → Int32) (n : Nat) (j : Nat) (h1 : w 1 = nI n) (hn : n ≤ 12) (hj : j < n) : kM kri l yX4_isPlace wsX4_isPlace rm_X4_isPlace D [(cI, .int)] [.ref mo, .int (nI j)] [(mo, .inr (4, [.int tw, .int sv, .int sm, .int nt, .ref qi, .ref qs, .ref qe, .ref qn, .ref qk])), (qn, .inl (cI, 42, .inl w))] (fun (r : Int32) (u : Unit) => r = 1) (fun (u : Unit) => [(mo, .inr (4, [.int tw, .int sv, .int sm, .int nt, .ref qi, .ref qs, .ref qe, .ref qn, .ref qk])), (qn, .inl (cI, 42, .inl w))]) := by
  refine k_bodyZ (cc := cX4_isPlace) (maxL := 2) (by decide) rfl (Nat.le_of_ble_eq_true rfl) ?_
  intro p e ss m args below meth c A Q F hname hA hG hK hP hD hS ret ls hl
  obtain ⟨hx, hb, hml, hown, hts⟩ := id F
  have hP : va_P D vwCl [(mo, .inr (4, [.int tw, .int sv, .int sm, .int nt, .ref qi, .ref qs, .ref qe, .ref qn, .ref qk])), (qn, .inl (cI, 42, .inl w))] ss.heap := hP
  have hD : va_D A [(mo, .inr (4, [.int tw, .int sv, .int sm, .int nt, .ref qi, .ref qs, .ref qe, .ref qn, .ref qk])), (qn, .inl (cI, 42, .inl w))] := hD
  have hl : lv_has ls 2 [(0, .ref mo), (1, .int (nI j))] := hl
  have iX4 : ∀ w ∈ u_ws RX4 TX4 9, w ∈ wsX4_isPlace := by decide +kernel
  have f26 := hts (.fieldLink RX4 26 "SmallerTalkModel" "now" "[I") (by decide +kernel)
  refine lv_iload_n hx hb dX4_isPlace_0 rfl (lv_at hl 1 rfl) ?_
  refine lv_iconst (v := nI 0) hx hb dX4_isPlace_1 (by decide +kernel) ?_
  refine lv_aload_n hx hb dX4_isPlace_2 rfl (lv_at hl 0 rfl) ?_
  refine va_get (D := D) (ci := 4) (v := .ref qn) (C := RX4) (T := TX4) (N := 9) hx hb hts iX4 hown hK hP 0 rfl rfl 7 (by decide) f26 (fun _ h9 => h9) rfl dX4_isPlace_3 ?_
  refine lv_iconst (v := nI 1) hx hb dX4_isPlace_6 (by decide +kernel) ?_
  refine k_iald hx hb hK hP 1 0 rfl rfl 1 (rfl) (by omega) (by decide) dX4_isPlace_7 ?_
  refine k_top (v := nI n) (h1) ?_
  refine lv_iconst (v := nI 1) hx hb dX4_isPlace_8 (by decide +kernel) ?_
  refine k_isub hx hb (nI (n - 1)) (pk_sub (by omega)) dX4_isPlace_9 ?_
  refine k_callS (As := [.int (nI j), .int (nI 0), .int (nI (n - 1))]) (rest := []) (wr := [(mo, .inr (4, [.int tw, .int sv, .int sm, .int nt, .ref qi, .ref qs, .ref qe, .ref qn, .ref qk])), (qn, .inl (cI, 42, .inl w))]) F (c_X4_isIn l D cI j 0 (n - 1) (by omega) (by omega)) gX4_isPlace_X4_isIn rfl (nA := 3) (by decide +kernel) rfl ⟨Nat.le_of_ble_eq_true rfl, Nat.le_of_ble_eq_true rfl⟩ hK hP hD hS hA hG [] [0, 1] rfl (by decide) rfl (by decide) (by decide) [0] rfl rfl hl.1 (Nat.le_of_ble_eq_true rfl) dX4_isPlace_10 ⟨Nat.le_of_ble_eq_true rfl, Nat.le_of_ble_eq_true rfl⟩ (fun r_1 u H locs hr_10 hP hD hS => ?_)
  try dsimp only at hr_10
  have hP : va_P D vwCl [(mo, .inr (4, [.int tw, .int sv, .int sm, .int nt, .ref qi, .ref qs, .ref qe, .ref qn, .ref qk])), (qn, .inl (cI, 42, .inl w))] H := hP
  have hD : va_D A [(mo, .inr (4, [.int tw, .int sv, .int sm, .int nt, .ref qi, .ref qs, .ref qe, .ref qn, .ref qk])), (qn, .inl (cI, 42, .inl w))] := hD
  refine W.eq (g2 := F0 m 13 ls [.int r_1]) rfl ?_
  refine W.widen (k := 0) (n := 0) (Nat.le_of_ble_eq_true rfl) (Nat.le_of_ble_eq_true rfl) ?_
  refine k_top (v := nI 1) (hr_10) ?_
  exact ret (nI 1) () _ _ _ _ _ _ rfl (rfl) (hP.sub [0, 1] (rfl)) (hD.sub [0, 1] (by decide) (rfl)) hS (Nat.le_of_ble_eq_true rfl) (Nat.le_of_ble_eq_true rfl) dX4_isPlace_13

abbrev rm_X4_isPlace_no : Room := { frames := 1, cells := 0, slots := 0, locals := 22 }
set_option maxHeartbeats 4000000 in
set_option maxRecDepth 100000 in
theorem c_X4_isPlace_no (l : Launch) (D : va_G) (cI : ClassId) (mo : Nat) (qi : Nat) (qs : Nat) (qe : Nat) (qn : Nat) (qk : Nat) (tw : Int32) (sv : Int32) (sm : Int32) (nt : Int32) (w : Nat → Int32) (n : Nat) (x : Int32) (h1 : w 1 = nI n) (hn : n ≤ 12) (hx9 : ∀ j, j < n → ¬ x = nI j) : kM kri l yX4_isPlace wsX4_isPlace rm_X4_isPlace_no D [(cI, .int)] [.ref mo, .int x] [(mo, .inr (4, [.int tw, .int sv, .int sm, .int nt, .ref qi, .ref qs, .ref qe, .ref qn, .ref qk])), (qn, .inl (cI, 42, .inl w))] (fun (r : Int32) (u : Unit) => r = 0) (fun (u : Unit) => [(mo, .inr (4, [.int tw, .int sv, .int sm, .int nt, .ref qi, .ref qs, .ref qe, .ref qn, .ref qk])), (qn, .inl (cI, 42, .inl w))]) := by
  refine k_bodyZ (cc := cX4_isPlace) (maxL := 2) (by decide) rfl (Nat.le_of_ble_eq_true rfl) ?_
  intro p e ss m args below meth c A Q F hname hA hG hK hP hD hS ret ls hl
  obtain ⟨hx, hb, hml, hown, hts⟩ := id F
  have hP : va_P D vwCl [(mo, .inr (4, [.int tw, .int sv, .int sm, .int nt, .ref qi, .ref qs, .ref qe, .ref qn, .ref qk])), (qn, .inl (cI, 42, .inl w))] ss.heap := hP
  have hD : va_D A [(mo, .inr (4, [.int tw, .int sv, .int sm, .int nt, .ref qi, .ref qs, .ref qe, .ref qn, .ref qk])), (qn, .inl (cI, 42, .inl w))] := hD
  have hl : lv_has ls 2 [(0, .ref mo), (1, .int x)] := hl
  have iX4 : ∀ w ∈ u_ws RX4 TX4 9, w ∈ wsX4_isPlace := by decide +kernel
  have f26 := hts (.fieldLink RX4 26 "SmallerTalkModel" "now" "[I") (by decide +kernel)
  refine lv_iload_n hx hb dX4_isPlace_0 rfl (lv_at hl 1 rfl) ?_
  refine lv_iconst (v := nI 0) hx hb dX4_isPlace_1 (by decide +kernel) ?_
  refine lv_aload_n hx hb dX4_isPlace_2 rfl (lv_at hl 0 rfl) ?_
  refine va_get (D := D) (ci := 4) (v := .ref qn) (C := RX4) (T := TX4) (N := 9) hx hb hts iX4 hown hK hP 0 rfl rfl 7 (by decide) f26 (fun _ h9 => h9) rfl dX4_isPlace_3 ?_
  refine lv_iconst (v := nI 1) hx hb dX4_isPlace_6 (by decide +kernel) ?_
  refine k_iald hx hb hK hP 1 0 rfl rfl 1 (rfl) (by omega) (by decide) dX4_isPlace_7 ?_
  refine k_top (v := nI n) (h1) ?_
  refine lv_iconst (v := nI 1) hx hb dX4_isPlace_8 (by decide +kernel) ?_
  refine k_isub hx hb ((nI n) - (nI 1)) (rfl) dX4_isPlace_9 ?_
  refine k_callS (As := [.int x, .int (nI 0), .int ((nI n) - (nI 1))]) (rest := []) (wr := [(mo, .inr (4, [.int tw, .int sv, .int sm, .int nt, .ref qi, .ref qs, .ref qe, .ref qn, .ref qk])), (qn, .inl (cI, 42, .inl w))]) F (c_X4_isIn_no l D cI x (nI 0) ((nI n) - (nI 1)) (k_predout (by omega) hx9)) gX4_isPlace_X4_isIn rfl (nA := 3) (by decide +kernel) rfl ⟨Nat.le_of_ble_eq_true rfl, Nat.le_of_ble_eq_true rfl⟩ hK hP hD hS hA hG [] [0, 1] rfl (by decide) rfl (by decide) (by decide) [0] rfl rfl hl.1 (Nat.le_of_ble_eq_true rfl) dX4_isPlace_10 ⟨Nat.le_of_ble_eq_true rfl, Nat.le_of_ble_eq_true rfl⟩ (fun r_1 u H locs hr_10 hP hD hS => ?_)
  try dsimp only at hr_10
  have hP : va_P D vwCl [(mo, .inr (4, [.int tw, .int sv, .int sm, .int nt, .ref qi, .ref qs, .ref qe, .ref qn, .ref qk])), (qn, .inl (cI, 42, .inl w))] H := hP
  have hD : va_D A [(mo, .inr (4, [.int tw, .int sv, .int sm, .int nt, .ref qi, .ref qs, .ref qe, .ref qn, .ref qk])), (qn, .inl (cI, 42, .inl w))] := hD
  refine W.eq (g2 := F0 m 13 ls [.int r_1]) rfl ?_
  refine W.widen (k := 0) (n := 0) (Nat.le_of_ble_eq_true rfl) (Nat.le_of_ble_eq_true rfl) ?_
  refine k_top (v := nI 0) (hr_10) ?_
  exact ret (nI 0) () _ _ _ _ _ _ rfl (rfl) (hP.sub [0, 1] (rfl)) (hD.sub [0, 1] (by decide) (rfl)) hS (Nat.le_of_ble_eq_true rfl) (Nat.le_of_ble_eq_true rfl) dX4_isPlace_13

abbrev rm_X4_isTalker : Room := { frames := 1, cells := 0, slots := 0, locals := 22 }
set_option maxHeartbeats 4000000 in
set_option maxRecDepth 100000 in
theorem c_X4_isTalker (l : Launch) (D : va_G) (cI : ClassId) (mo : Nat) (qi : Nat) (qs : Nat) (qe : Nat) (qn : Nat) (qk : Nat) (tw : Int32) (sv : Int32) (sm : Int32) (n : Nat) (j : Nat) (hn : n ≤ 6) (hj : j < n) : kM kri l yX4_isTalker wsX4_isTalker rm_X4_isTalker D [(cI, .int)] [.ref mo, .int (nI j)] [(mo, .inr (4, [.int tw, .int sv, .int sm, .int (nI n), .ref qi, .ref qs, .ref qe, .ref qn, .ref qk]))] (fun (r : Int32) (u : Unit) => r = 1) (fun (u : Unit) => [(mo, .inr (4, [.int tw, .int sv, .int sm, .int (nI n), .ref qi, .ref qs, .ref qe, .ref qn, .ref qk]))]) := by
  refine k_bodyZ (cc := cX4_isTalker) (maxL := 2) (by decide) rfl (Nat.le_of_ble_eq_true rfl) ?_
  intro p e ss m args below meth c A Q F hname hA hG hK hP hD hS ret ls hl
  obtain ⟨hx, hb, hml, hown, hts⟩ := id F
  have hP : va_P D vwCl [(mo, .inr (4, [.int tw, .int sv, .int sm, .int (nI n), .ref qi, .ref qs, .ref qe, .ref qn, .ref qk]))] ss.heap := hP
  have hD : va_D A [(mo, .inr (4, [.int tw, .int sv, .int sm, .int (nI n), .ref qi, .ref qs, .ref qe, .ref qn, .ref qk]))] := hD
  have hl : lv_has ls 2 [(0, .ref mo), (1, .int (nI j))] := hl
  have iX4 : ∀ w ∈ u_ws RX4 TX4 9, w ∈ wsX4_isTalker := by decide +kernel
  have f39 := hts (.fieldLink RX4 39 "SmallerTalkModel" "talkers" "I") (by decide +kernel)
  refine lv_iload_n hx hb dX4_isTalker_0 rfl (lv_at hl 1 rfl) ?_
  refine lv_iconst (v := nI 0) hx hb dX4_isTalker_1 (by decide +kernel) ?_
  refine lv_aload_n hx hb dX4_isTalker_2 rfl (lv_at hl 0 rfl) ?_
  refine va_get (D := D) (ci := 4) (v := .int (nI n)) (C := RX4) (T := TX4) (N := 9) hx hb hts iX4 hown hK hP 0 rfl rfl 3 (by decide) f39 (fun _ h9 => h9) rfl dX4_isTalker_3 ?_
  refine lv_iconst (v := nI 1) hx hb dX4_isTalker_6 (by decide +kernel) ?_
  refine k_isub hx hb (nI (n - 1)) (pk_sub (by omega)) dX4_isTalker_7 ?_
  refine k_callS (As := [.int (nI j), .int (nI 0), .int (nI (n - 1))]) (rest := []) (wr := [(mo, .inr (4, [.int tw, .int sv, .int sm, .int (nI n), .ref qi, .ref qs, .ref qe, .ref qn, .ref qk]))]) F (c_X4_isIn l D cI j 0 (n - 1) (by omega) (by omega)) gX4_isTalker_X4_isIn rfl (nA := 3) (by decide +kernel) rfl ⟨Nat.le_of_ble_eq_true rfl, Nat.le_of_ble_eq_true rfl⟩ hK hP hD hS hA hG [] [0] rfl (by decide) rfl (by decide) (by decide) [0] rfl rfl hl.1 (Nat.le_of_ble_eq_true rfl) dX4_isTalker_8 ⟨Nat.le_of_ble_eq_true rfl, Nat.le_of_ble_eq_true rfl⟩ (fun r_1 u H locs hr_8 hP hD hS => ?_)
  try dsimp only at hr_8
  have hP : va_P D vwCl [(mo, .inr (4, [.int tw, .int sv, .int sm, .int (nI n), .ref qi, .ref qs, .ref qe, .ref qn, .ref qk]))] H := hP
  have hD : va_D A [(mo, .inr (4, [.int tw, .int sv, .int sm, .int (nI n), .ref qi, .ref qs, .ref qe, .ref qn, .ref qk]))] := hD
  refine W.eq (g2 := F0 m 11 ls [.int r_1]) rfl ?_
  refine W.widen (k := 0) (n := 0) (Nat.le_of_ble_eq_true rfl) (Nat.le_of_ble_eq_true rfl) ?_
  refine k_top (v := nI 1) (hr_8) ?_
  exact ret (nI 1) () _ _ _ _ _ _ rfl (rfl) (hP.sub [0] (rfl)) (hD.sub [0] (by decide) (rfl)) hS (Nat.le_of_ble_eq_true rfl) (Nat.le_of_ble_eq_true rfl) dX4_isTalker_11

abbrev rm_X4_isTalker_no : Room := { frames := 1, cells := 0, slots := 0, locals := 22 }
set_option maxHeartbeats 4000000 in
set_option maxRecDepth 100000 in
theorem c_X4_isTalker_no (l : Launch) (D : va_G) (cI : ClassId) (mo : Nat) (qi : Nat) (qs : Nat) (qe : Nat) (qn : Nat) (qk : Nat) (tw : Int32) (sv : Int32) (sm : Int32) (n : Nat) (x : Int32) (hn : n ≤ 6) (hx9 : ∀ j, j < n → ¬ x = nI j) : kM kri l yX4_isTalker wsX4_isTalker rm_X4_isTalker_no D [(cI, .int)] [.ref mo, .int x] [(mo, .inr (4, [.int tw, .int sv, .int sm, .int (nI n), .ref qi, .ref qs, .ref qe, .ref qn, .ref qk]))] (fun (r : Int32) (u : Unit) => r = 0) (fun (u : Unit) => [(mo, .inr (4, [.int tw, .int sv, .int sm, .int (nI n), .ref qi, .ref qs, .ref qe, .ref qn, .ref qk]))]) := by
  refine k_bodyZ (cc := cX4_isTalker) (maxL := 2) (by decide) rfl (Nat.le_of_ble_eq_true rfl) ?_
  intro p e ss m args below meth c A Q F hname hA hG hK hP hD hS ret ls hl
  obtain ⟨hx, hb, hml, hown, hts⟩ := id F
  have hP : va_P D vwCl [(mo, .inr (4, [.int tw, .int sv, .int sm, .int (nI n), .ref qi, .ref qs, .ref qe, .ref qn, .ref qk]))] ss.heap := hP
  have hD : va_D A [(mo, .inr (4, [.int tw, .int sv, .int sm, .int (nI n), .ref qi, .ref qs, .ref qe, .ref qn, .ref qk]))] := hD
  have hl : lv_has ls 2 [(0, .ref mo), (1, .int x)] := hl
  have iX4 : ∀ w ∈ u_ws RX4 TX4 9, w ∈ wsX4_isTalker := by decide +kernel
  have f39 := hts (.fieldLink RX4 39 "SmallerTalkModel" "talkers" "I") (by decide +kernel)
  refine lv_iload_n hx hb dX4_isTalker_0 rfl (lv_at hl 1 rfl) ?_
  refine lv_iconst (v := nI 0) hx hb dX4_isTalker_1 (by decide +kernel) ?_
  refine lv_aload_n hx hb dX4_isTalker_2 rfl (lv_at hl 0 rfl) ?_
  refine va_get (D := D) (ci := 4) (v := .int (nI n)) (C := RX4) (T := TX4) (N := 9) hx hb hts iX4 hown hK hP 0 rfl rfl 3 (by decide) f39 (fun _ h9 => h9) rfl dX4_isTalker_3 ?_
  refine lv_iconst (v := nI 1) hx hb dX4_isTalker_6 (by decide +kernel) ?_
  refine k_isub hx hb ((nI n) - (nI 1)) (rfl) dX4_isTalker_7 ?_
  refine k_callS (As := [.int x, .int (nI 0), .int ((nI n) - (nI 1))]) (rest := []) (wr := [(mo, .inr (4, [.int tw, .int sv, .int sm, .int (nI n), .ref qi, .ref qs, .ref qe, .ref qn, .ref qk]))]) F (c_X4_isIn_no l D cI x (nI 0) ((nI n) - (nI 1)) (k_predout (by omega) hx9)) gX4_isTalker_X4_isIn rfl (nA := 3) (by decide +kernel) rfl ⟨Nat.le_of_ble_eq_true rfl, Nat.le_of_ble_eq_true rfl⟩ hK hP hD hS hA hG [] [0] rfl (by decide) rfl (by decide) (by decide) [0] rfl rfl hl.1 (Nat.le_of_ble_eq_true rfl) dX4_isTalker_8 ⟨Nat.le_of_ble_eq_true rfl, Nat.le_of_ble_eq_true rfl⟩ (fun r_1 u H locs hr_8 hP hD hS => ?_)
  try dsimp only at hr_8
  have hP : va_P D vwCl [(mo, .inr (4, [.int tw, .int sv, .int sm, .int (nI n), .ref qi, .ref qs, .ref qe, .ref qn, .ref qk]))] H := hP
  have hD : va_D A [(mo, .inr (4, [.int tw, .int sv, .int sm, .int (nI n), .ref qi, .ref qs, .ref qe, .ref qn, .ref qk]))] := hD
  refine W.eq (g2 := F0 m 11 ls [.int r_1]) rfl ?_
  refine W.widen (k := 0) (n := 0) (Nat.le_of_ble_eq_true rfl) (Nat.le_of_ble_eq_true rfl) ?_
  refine k_top (v := nI 0) (hr_8) ?_
  exact ret (nI 0) () _ _ _ _ _ _ rfl (rfl) (hP.sub [0] (rfl)) (hD.sub [0] (by decide) (rfl)) hS (Nat.le_of_ble_eq_true rfl) (Nat.le_of_ble_eq_true rfl) dX4_isTalker_11

abbrev rm_X4_isTopic : Room := { frames := 1, cells := 0, slots := 0, locals := 22 }
set_option maxHeartbeats 4000000 in
set_option maxRecDepth 100000 in
theorem c_X4_isTopic (l : Launch) (D : va_G) (cI : ClassId) (kn : Nat) (z : Nat) (hk : kn < 5) (hz : 2 ≤ z ∧ z ≤ 99) : kM kri l yX4_isTopic wsX4_isTopic rm_X4_isTopic D [(cI, .int)] [.int (nI kn), .int (nI z)] [] (fun (r : Int32) (u : Unit) => r = 1) (fun (u : Unit) => []) := by
  refine k_bodyZ (cc := cX4_isTopic) (maxL := 2) (by decide) rfl (Nat.le_of_ble_eq_true rfl) ?_
  intro p e ss m args below meth c A Q F hname hA hG hK hP hD hS ret ls hl
  obtain ⟨hx, hb, hml, hown, hts⟩ := id F
  have hP : va_P D vwCl [] ss.heap := hP
  have hD : va_D A [] := hD
  have hl : lv_has ls 2 [(0, .int (nI kn)), (1, .int (nI z))] := hl
  refine lv_iload_n hx hb dX4_isTopic_0 rfl (lv_at hl 0 rfl) ?_
  refine lv_iconst (v := nI 0) hx hb dX4_isTopic_1 (by decide +kernel) ?_
  refine lv_iconst (v := nI 4) hx hb dX4_isTopic_2 (by decide +kernel) ?_
  refine k_callS (As := [.int (nI kn), .int (nI 0), .int (nI 4)]) (rest := []) (wr := []) F (c_X4_isIn l D cI kn 0 4 (by omega) (by omega)) gX4_isTopic_X4_isIn rfl (nA := 3) (by decide +kernel) rfl ⟨Nat.le_of_ble_eq_true rfl, Nat.le_of_ble_eq_true rfl⟩ hK hP hD hS hA hG [] [] rfl (by decide) rfl (by decide) (by decide) [0] rfl rfl hl.1 (Nat.le_of_ble_eq_true rfl) dX4_isTopic_3 ⟨Nat.le_of_ble_eq_true rfl, Nat.le_of_ble_eq_true rfl⟩ (fun r_1 u H locs hr_3 hP hD hS => ?_)
  try dsimp only at hr_3
  have hP : va_P D vwCl [] H := hP
  have hD : va_D A [] := hD
  refine W.eq (g2 := F0 m 6 ls [.int r_1]) rfl ?_
  refine W.widen (k := 0) (n := 0) (Nat.le_of_ble_eq_true rfl) (Nat.le_of_ble_eq_true rfl) ?_
  refine k_top (v := nI 1) (hr_3) ?_
  refine k_if_eq (tgt := 23) hx hb 1 rfl (by omega) dX4_isTopic_6 (by decide) (fun c_6 => ?_) (fun c_6 => ?_)
  · exact absurd c_6 (by omega)
  · skip
    refine lv_iload_n hx hb dX4_isTopic_9 rfl (lv_at hl 1 rfl) ?_
    refine lv_iconst (v := nI 2) hx hb dX4_isTopic_10 (by decide +kernel) ?_
    refine lv_bipush (v := nI 99) hx hb dX4_isTopic_11 (by decide +kernel) ?_
    refine k_callS (As := [.int (nI z), .int (nI 2), .int (nI 99)]) (rest := []) (wr := []) F (c_X4_isIn l D cI z 2 99 hz (by omega)) gX4_isTopic_X4_isIn rfl (nA := 3) (by decide +kernel) rfl ⟨Nat.le_of_ble_eq_true rfl, Nat.le_of_ble_eq_true rfl⟩ hK hP hD hS hA hG [] [] rfl (by decide) rfl (by decide) (by decide) [0] rfl rfl hl.1 (Nat.le_of_ble_eq_true rfl) dX4_isTopic_13 ⟨Nat.le_of_ble_eq_true rfl, Nat.le_of_ble_eq_true rfl⟩ (fun r_2 u H locs hr_13 hP hD hS => ?_)
    try dsimp only at hr_13
    have hP : va_P D vwCl [] H := hP
    have hD : va_D A [] := hD
    refine W.eq (g2 := F0 m 16 ls [.int r_2]) rfl ?_
    refine W.widen (k := 0) (n := 0) (Nat.le_of_ble_eq_true rfl) (Nat.le_of_ble_eq_true rfl) ?_
    refine k_top (v := nI 1) (hr_13) ?_
    refine k_if_eq (tgt := 23) hx hb 1 rfl (by omega) dX4_isTopic_16 (by decide) (fun c_16 => ?_) (fun c_16 => ?_)
    · exact absurd c_16 (by omega)
    · skip
      refine lv_iconst (v := nI 1) hx hb dX4_isTopic_19 (by decide +kernel) ?_
      refine lv_goto (tgt := 24) hx hb dX4_isTopic_20 (by decide) ?_
      exact ret (nI 1) () _ _ _ _ _ _ rfl (rfl) (hP.sub [] (rfl)) (hD.sub [] (by decide) (rfl)) hS (Nat.le_of_ble_eq_true rfl) (Nat.le_of_ble_eq_true rfl) dX4_isTopic_24

abbrev rm_X4_isTopic_nk : Room := { frames := 1, cells := 0, slots := 0, locals := 22 }
set_option maxHeartbeats 4000000 in
set_option maxRecDepth 100000 in
theorem c_X4_isTopic_nk (l : Launch) (D : va_G) (cI : ClassId) (kd : Int32) (zz : Int32) (hx9 : ¬ (nI 0 ≤ kd ∧ kd ≤ nI 4)) : kM kri l yX4_isTopic wsX4_isTopic rm_X4_isTopic_nk D [(cI, .int)] [.int kd, .int zz] [] (fun (r : Int32) (u : Unit) => r = 0) (fun (u : Unit) => []) := by
  refine k_bodyZ (cc := cX4_isTopic) (maxL := 2) (by decide) rfl (Nat.le_of_ble_eq_true rfl) ?_
  intro p e ss m args below meth c A Q F hname hA hG hK hP hD hS ret ls hl
  obtain ⟨hx, hb, hml, hown, hts⟩ := id F
  have hP : va_P D vwCl [] ss.heap := hP
  have hD : va_D A [] := hD
  have hl : lv_has ls 2 [(0, .int kd), (1, .int zz)] := hl
  refine lv_iload_n hx hb dX4_isTopic_0 rfl (lv_at hl 0 rfl) ?_
  refine lv_iconst (v := nI 0) hx hb dX4_isTopic_1 (by decide +kernel) ?_
  refine lv_iconst (v := nI 4) hx hb dX4_isTopic_2 (by decide +kernel) ?_
  refine k_callS (As := [.int kd, .int (nI 0), .int (nI 4)]) (rest := []) (wr := []) F (c_X4_isIn_no l D cI kd (nI 0) (nI 4) hx9) gX4_isTopic_X4_isIn rfl (nA := 3) (by decide +kernel) rfl ⟨Nat.le_of_ble_eq_true rfl, Nat.le_of_ble_eq_true rfl⟩ hK hP hD hS hA hG [] [] rfl (by decide) rfl (by decide) (by decide) [0] rfl rfl hl.1 (Nat.le_of_ble_eq_true rfl) dX4_isTopic_3 ⟨Nat.le_of_ble_eq_true rfl, Nat.le_of_ble_eq_true rfl⟩ (fun r_1 u H locs hr_3 hP hD hS => ?_)
  try dsimp only at hr_3
  have hP : va_P D vwCl [] H := hP
  have hD : va_D A [] := hD
  refine W.eq (g2 := F0 m 6 ls [.int r_1]) rfl ?_
  refine W.widen (k := 0) (n := 0) (Nat.le_of_ble_eq_true rfl) (Nat.le_of_ble_eq_true rfl) ?_
  refine k_top (v := nI 0) (hr_3) ?_
  refine k_if_eq (tgt := 23) hx hb 0 rfl (by omega) dX4_isTopic_6 (by decide) (fun c_6 => ?_) (fun c_6 => ?_)
  · skip
    refine lv_iconst (v := nI 0) hx hb dX4_isTopic_23 (by decide +kernel) ?_
    exact ret (nI 0) () _ _ _ _ _ _ rfl (rfl) (hP.sub [] (rfl)) (hD.sub [] (by decide) (rfl)) hS (Nat.le_of_ble_eq_true rfl) (Nat.le_of_ble_eq_true rfl) dX4_isTopic_24
  · exact absurd c_6 (by omega)

abbrev rm_X4_isTopic_nz : Room := { frames := 1, cells := 0, slots := 0, locals := 22 }
set_option maxHeartbeats 4000000 in
set_option maxRecDepth 100000 in
theorem c_X4_isTopic_nz (l : Launch) (D : va_G) (cI : ClassId) (kn : Nat) (zz : Int32) (hk : kn < 5) (hx9 : ¬ (nI 2 ≤ zz ∧ zz ≤ nI 99)) : kM kri l yX4_isTopic wsX4_isTopic rm_X4_isTopic_nz D [(cI, .int)] [.int (nI kn), .int zz] [] (fun (r : Int32) (u : Unit) => r = 0) (fun (u : Unit) => []) := by
  refine k_bodyZ (cc := cX4_isTopic) (maxL := 2) (by decide) rfl (Nat.le_of_ble_eq_true rfl) ?_
  intro p e ss m args below meth c A Q F hname hA hG hK hP hD hS ret ls hl
  obtain ⟨hx, hb, hml, hown, hts⟩ := id F
  have hP : va_P D vwCl [] ss.heap := hP
  have hD : va_D A [] := hD
  have hl : lv_has ls 2 [(0, .int (nI kn)), (1, .int zz)] := hl
  refine lv_iload_n hx hb dX4_isTopic_0 rfl (lv_at hl 0 rfl) ?_
  refine lv_iconst (v := nI 0) hx hb dX4_isTopic_1 (by decide +kernel) ?_
  refine lv_iconst (v := nI 4) hx hb dX4_isTopic_2 (by decide +kernel) ?_
  refine k_callS (As := [.int (nI kn), .int (nI 0), .int (nI 4)]) (rest := []) (wr := []) F (c_X4_isIn l D cI kn 0 4 (by omega) (by omega)) gX4_isTopic_X4_isIn rfl (nA := 3) (by decide +kernel) rfl ⟨Nat.le_of_ble_eq_true rfl, Nat.le_of_ble_eq_true rfl⟩ hK hP hD hS hA hG [] [] rfl (by decide) rfl (by decide) (by decide) [0] rfl rfl hl.1 (Nat.le_of_ble_eq_true rfl) dX4_isTopic_3 ⟨Nat.le_of_ble_eq_true rfl, Nat.le_of_ble_eq_true rfl⟩ (fun r_1 u H locs hr_3 hP hD hS => ?_)
  try dsimp only at hr_3
  have hP : va_P D vwCl [] H := hP
  have hD : va_D A [] := hD
  refine W.eq (g2 := F0 m 6 ls [.int r_1]) rfl ?_
  refine W.widen (k := 0) (n := 0) (Nat.le_of_ble_eq_true rfl) (Nat.le_of_ble_eq_true rfl) ?_
  refine k_top (v := nI 1) (hr_3) ?_
  refine k_if_eq (tgt := 23) hx hb 1 rfl (by omega) dX4_isTopic_6 (by decide) (fun c_6 => ?_) (fun c_6 => ?_)
  · exact absurd c_6 (by omega)
  · skip
    refine lv_iload_n hx hb dX4_isTopic_9 rfl (lv_at hl 1 rfl) ?_
    refine lv_iconst (v := nI 2) hx hb dX4_isTopic_10 (by decide +kernel) ?_
    refine lv_bipush (v := nI 99) hx hb dX4_isTopic_11 (by decide +kernel) ?_
    refine k_callS (As := [.int zz, .int (nI 2), .int (nI 99)]) (rest := []) (wr := []) F (c_X4_isIn_no l D cI zz (nI 2) (nI 99) hx9) gX4_isTopic_X4_isIn rfl (nA := 3) (by decide +kernel) rfl ⟨Nat.le_of_ble_eq_true rfl, Nat.le_of_ble_eq_true rfl⟩ hK hP hD hS hA hG [] [] rfl (by decide) rfl (by decide) (by decide) [0] rfl rfl hl.1 (Nat.le_of_ble_eq_true rfl) dX4_isTopic_13 ⟨Nat.le_of_ble_eq_true rfl, Nat.le_of_ble_eq_true rfl⟩ (fun r_2 u H locs hr_13 hP hD hS => ?_)
    try dsimp only at hr_13
    have hP : va_P D vwCl [] H := hP
    have hD : va_D A [] := hD
    refine W.eq (g2 := F0 m 16 ls [.int r_2]) rfl ?_
    refine W.widen (k := 0) (n := 0) (Nat.le_of_ble_eq_true rfl) (Nat.le_of_ble_eq_true rfl) ?_
    refine k_top (v := nI 0) (hr_13) ?_
    refine k_if_eq (tgt := 23) hx hb 0 rfl (by omega) dX4_isTopic_16 (by decide) (fun c_16 => ?_) (fun c_16 => ?_)
    · skip
      refine lv_iconst (v := nI 0) hx hb dX4_isTopic_23 (by decide +kernel) ?_
      exact ret (nI 0) () _ _ _ _ _ _ rfl (rfl) (hP.sub [] (rfl)) (hD.sub [] (by decide) (rfl)) hS (Nat.le_of_ble_eq_true rfl) (Nat.le_of_ble_eq_true rfl) dX4_isTopic_24
    · exact absurd c_16 (by omega)

abbrev rm_X4_keep : Room := { frames := 1, cells := 0, slots := 0, locals := 30 }
set_option maxHeartbeats 4000000 in
set_option maxRecDepth 100000 in
theorem c_X4_keep (l : Launch) (D : va_G) (cI : ClassId) (mo : Nat) (qi : Nat) (qs : Nat) (qe : Nat) (qn : Nat) (qk : Nat) (tw : Int32) (sv : Int32) (sm : Int32) (nt : Int32) (w : Nat → Int32) (kp : Nat → Int32) : kM krv l yX4_keep wsX4_keep rm_X4_keep D [(cI, .int)] [.ref mo] [(mo, .inr (4, [.int tw, .int sv, .int sm, .int nt, .ref qi, .ref qs, .ref qe, .ref qn, .ref qk])), (qn, .inl (cI, 42, .inl w)), (qk, .inl (cI, 42, .inl kp))] (fun (r : Unit) (u : (Nat → Int32)) => ∀ j, j < 42 → u j = w j) (fun (u : (Nat → Int32)) => [(mo, .inr (4, [.int tw, .int sv, .int sm, .int nt, .ref qi, .ref qs, .ref qe, .ref qn, .ref qk])), (qn, .inl (cI, 42, .inl w)), (qk, .inl (cI, 42, .inl u))]) := by
  refine k_bodyV (cc := cX4_keep) (maxL := 1) (by decide) rfl (Nat.le_of_ble_eq_true rfl) ?_
  intro p e ss m args below meth c A Q F hname hA hG hK hP hD hS ret ls hl
  obtain ⟨hx, hb, hml, hown, hts⟩ := id F
  have hP : va_P D vwCl [(mo, .inr (4, [.int tw, .int sv, .int sm, .int nt, .ref qi, .ref qs, .ref qe, .ref qn, .ref qk])), (qn, .inl (cI, 42, .inl w)), (qk, .inl (cI, 42, .inl kp))] ss.heap := hP
  have hD : va_D A [(mo, .inr (4, [.int tw, .int sv, .int sm, .int nt, .ref qi, .ref qs, .ref qe, .ref qn, .ref qk])), (qn, .inl (cI, 42, .inl w)), (qk, .inl (cI, 42, .inl kp))] := hD
  have hl : lv_has ls 1 [(0, .ref mo)] := hl
  have iX4 : ∀ w ∈ u_ws RX4 TX4 9, w ∈ wsX4_keep := by decide +kernel
  have f26 := hts (.fieldLink RX4 26 "SmallerTalkModel" "now" "[I") (by decide +kernel)
  have f29 := hts (.fieldLink RX4 29 "SmallerTalkModel" "kept" "[I") (by decide +kernel)
  refine lv_aload_n hx hb dX4_keep_0 rfl (lv_at hl 0 rfl) ?_
  refine va_get (D := D) (ci := 4) (v := .ref qn) (C := RX4) (T := TX4) (N := 9) hx hb hts iX4 hown hK hP 0 rfl rfl 7 (by decide) f26 (fun _ h9 => h9) rfl dX4_keep_1 ?_
  refine lv_iconst (v := nI 0) hx hb dX4_keep_4 (by decide +kernel) ?_
  refine lv_aload_n hx hb dX4_keep_5 rfl (lv_at hl 0 rfl) ?_
  refine va_get (D := D) (ci := 4) (v := .ref qk) (C := RX4) (T := TX4) (N := 9) hx hb hts iX4 hown hK hP 0 rfl rfl 8 (by decide) f29 (fun _ h9 => h9) rfl dX4_keep_6 ?_
  refine lv_iconst (v := nI 0) hx hb dX4_keep_9 (by decide +kernel) ?_
  refine lv_bipush (v := nI 42) hx hb dX4_keep_10 (by decide +kernel) ?_
  refine va_copyi (sp := 0) (dp := 0) (n := nI 42) hx hb (hml.trans hl.1.symm) hown (hts (.methodLink RX4 42 arraycopyName) (by decide +kernel)) (hts (.native arraycopyName) (by decide +kernel)) (hts (.static arraycopyName) (by decide +kernel)) (hts (.initialized "java/lang/System") (by decide +kernel)) hK hP hD hS 1 2 0 0 rfl rfl rfl rfl rfl (by decide +kernel) (by decide +kernel) (by decide +kernel) (by decide +kernel) (by decide +kernel) (fun _ _ => rfl) (Nat.le_of_ble_eq_true rfl) (Nat.le_of_ble_eq_true rfl) dX4_keep_12 (fun H locs hP hD hS => ?_)
  have hP : va_P D vwCl [(mo, .inr (4, [.int tw, .int sv, .int sm, .int nt, .ref qi, .ref qs, .ref qe, .ref qn, .ref qk])), (qn, .inl (cI, 42, .inl w)), (qk, .inl (cI, 42, .inl (va_cpy w kp 0 0 42)))] H := hP
  have hD : va_D A [(mo, .inr (4, [.int tw, .int sv, .int sm, .int nt, .ref qi, .ref qs, .ref qe, .ref qn, .ref qk])), (qn, .inl (cI, 42, .inl w)), (qk, .inl (cI, 42, .inl (va_cpy w kp 0 0 42)))] := hD
  exact ret (va_cpy w kp 0 0 42) _ _ _ _ _ _ (fun j hj => cpy42 hj) (hP.sub [0, 1, 2] (rfl)) (hD.sub [0, 1, 2] (by decide) (rfl)) hS (Nat.le_of_ble_eq_true rfl) (Nat.le_of_ble_eq_true rfl) dX4_keep_15

abbrev rm_X4_bringBack : Room := { frames := 1, cells := 0, slots := 0, locals := 30 }
set_option maxHeartbeats 4000000 in
set_option maxRecDepth 100000 in
theorem c_X4_bringBack (l : Launch) (D : va_G) (cI : ClassId) (mo : Nat) (qi : Nat) (qs : Nat) (qe : Nat) (qn : Nat) (qk : Nat) (tw : Int32) (sv : Int32) (sm : Int32) (nt : Int32) (w : Nat → Int32) (kp : Nat → Int32) : kM krv l yX4_bringBack wsX4_bringBack rm_X4_bringBack D [(cI, .int)] [.ref mo] [(mo, .inr (4, [.int tw, .int sv, .int sm, .int nt, .ref qi, .ref qs, .ref qe, .ref qn, .ref qk])), (qn, .inl (cI, 42, .inl w)), (qk, .inl (cI, 42, .inl kp))] (fun (r : Unit) (u : (Nat → Int32)) => ∀ j, j < 42 → u j = kp j) (fun (u : (Nat → Int32)) => [(mo, .inr (4, [.int tw, .int sv, .int sm, .int nt, .ref qi, .ref qs, .ref qe, .ref qn, .ref qk])), (qn, .inl (cI, 42, .inl u)), (qk, .inl (cI, 42, .inl kp))]) := by
  refine k_bodyV (cc := cX4_bringBack) (maxL := 1) (by decide) rfl (Nat.le_of_ble_eq_true rfl) ?_
  intro p e ss m args below meth c A Q F hname hA hG hK hP hD hS ret ls hl
  obtain ⟨hx, hb, hml, hown, hts⟩ := id F
  have hP : va_P D vwCl [(mo, .inr (4, [.int tw, .int sv, .int sm, .int nt, .ref qi, .ref qs, .ref qe, .ref qn, .ref qk])), (qn, .inl (cI, 42, .inl w)), (qk, .inl (cI, 42, .inl kp))] ss.heap := hP
  have hD : va_D A [(mo, .inr (4, [.int tw, .int sv, .int sm, .int nt, .ref qi, .ref qs, .ref qe, .ref qn, .ref qk])), (qn, .inl (cI, 42, .inl w)), (qk, .inl (cI, 42, .inl kp))] := hD
  have hl : lv_has ls 1 [(0, .ref mo)] := hl
  have iX4 : ∀ w ∈ u_ws RX4 TX4 9, w ∈ wsX4_bringBack := by decide +kernel
  have f26 := hts (.fieldLink RX4 26 "SmallerTalkModel" "now" "[I") (by decide +kernel)
  have f29 := hts (.fieldLink RX4 29 "SmallerTalkModel" "kept" "[I") (by decide +kernel)
  refine lv_aload_n hx hb dX4_bringBack_0 rfl (lv_at hl 0 rfl) ?_
  refine va_get (D := D) (ci := 4) (v := .ref qk) (C := RX4) (T := TX4) (N := 9) hx hb hts iX4 hown hK hP 0 rfl rfl 8 (by decide) f29 (fun _ h9 => h9) rfl dX4_bringBack_1 ?_
  refine lv_iconst (v := nI 0) hx hb dX4_bringBack_4 (by decide +kernel) ?_
  refine lv_aload_n hx hb dX4_bringBack_5 rfl (lv_at hl 0 rfl) ?_
  refine va_get (D := D) (ci := 4) (v := .ref qn) (C := RX4) (T := TX4) (N := 9) hx hb hts iX4 hown hK hP 0 rfl rfl 7 (by decide) f26 (fun _ h9 => h9) rfl dX4_bringBack_6 ?_
  refine lv_iconst (v := nI 0) hx hb dX4_bringBack_9 (by decide +kernel) ?_
  refine lv_bipush (v := nI 42) hx hb dX4_bringBack_10 (by decide +kernel) ?_
  refine va_copyi (sp := 0) (dp := 0) (n := nI 42) hx hb (hml.trans hl.1.symm) hown (hts (.methodLink RX4 42 arraycopyName) (by decide +kernel)) (hts (.native arraycopyName) (by decide +kernel)) (hts (.static arraycopyName) (by decide +kernel)) (hts (.initialized "java/lang/System") (by decide +kernel)) hK hP hD hS 2 1 0 0 rfl rfl rfl rfl rfl (by decide +kernel) (by decide +kernel) (by decide +kernel) (by decide +kernel) (by decide +kernel) (fun _ _ => rfl) (Nat.le_of_ble_eq_true rfl) (Nat.le_of_ble_eq_true rfl) dX4_bringBack_12 (fun H locs hP hD hS => ?_)
  have hP : va_P D vwCl [(mo, .inr (4, [.int tw, .int sv, .int sm, .int nt, .ref qi, .ref qs, .ref qe, .ref qn, .ref qk])), (qn, .inl (cI, 42, .inl (va_cpy kp w 0 0 42))), (qk, .inl (cI, 42, .inl kp))] H := hP
  have hD : va_D A [(mo, .inr (4, [.int tw, .int sv, .int sm, .int nt, .ref qi, .ref qs, .ref qe, .ref qn, .ref qk])), (qn, .inl (cI, 42, .inl (va_cpy kp w 0 0 42))), (qk, .inl (cI, 42, .inl kp))] := hD
  exact ret (va_cpy kp w 0 0 42) _ _ _ _ _ _ (fun j hj => cpy42 hj) (hP.sub [0, 1, 2] (rfl)) (hD.sub [0, 1, 2] (by decide) (rfl)) hS (Nat.le_of_ble_eq_true rfl) (Nat.le_of_ble_eq_true rfl) dX4_bringBack_15

abbrev rm_X4_noiseNow : Room := { frames := 0, cells := 0, slots := 0, locals := 0 }
set_option maxHeartbeats 4000000 in
set_option maxRecDepth 100000 in
theorem c_X4_noiseNow (l : Launch) (D : va_G) (cI : ClassId) (mo : Nat) (qi : Nat) (qs : Nat) (qe : Nat) (qn : Nat) (qk : Nat) (tw : Int32) (sv : Int32) (sm : Int32) (nt : Int32) (w : Nat → Int32) (L : List Tp) (h1 : w 1 = nI L.length) (hV : rV w L) : kM kri l yX4_noiseNow wsX4_noiseNow rm_X4_noiseNow D [(cI, .int)] [.ref mo] [(mo, .inr (4, [.int tw, .int sv, .int sm, .int nt, .ref qi, .ref qs, .ref qe, .ref qn, .ref qk])), (qn, .inl (cI, 42, .inl w))] (fun (r : Int32) (u : Unit) => r = nI (ns L)) (fun (u : Unit) => [(mo, .inr (4, [.int tw, .int sv, .int sm, .int nt, .ref qi, .ref qs, .ref qe, .ref qn, .ref qk])), (qn, .inl (cI, 42, .inl w))]) := by
  refine k_bodyI (cc := cX4_noiseNow) (maxL := 3) (by decide) rfl (Nat.le_of_ble_eq_true rfl) ?_
  intro p e ss m args below meth c A Q F hname hA hG hK hP hD hS ret ls hl
  obtain ⟨hx, hb, hml, hown, hts⟩ := id F
  have hP : va_P D vwCl [(mo, .inr (4, [.int tw, .int sv, .int sm, .int nt, .ref qi, .ref qs, .ref qe, .ref qn, .ref qk])), (qn, .inl (cI, 42, .inl w))] ss.heap := hP
  have hD : va_D A [(mo, .inr (4, [.int tw, .int sv, .int sm, .int nt, .ref qi, .ref qs, .ref qe, .ref qn, .ref qk])), (qn, .inl (cI, 42, .inl w))] := hD
  have hl : lv_has ls 3 [(0, .ref mo)] := hl
  have iX4 : ∀ w ∈ u_ws RX4 TX4 9, w ∈ wsX4_noiseNow := by decide +kernel
  have f26 := hts (.fieldLink RX4 26 "SmallerTalkModel" "now" "[I") (by decide +kernel)
  have h12 := hV.1
  refine lv_iconst (v := nI 0) hx hb dX4_noiseNow_0 (by decide +kernel) ?_
  refine lv_istore_n (lv' := [(1, .int (nI 0)), (0, .ref mo)]) hx hb dX4_noiseNow_1 rfl hl (by decide) rfl (fun ls hl => ?_)
  refine lv_iconst (v := nI 0) hx hb dX4_noiseNow_2 (by decide +kernel) ?_
  refine lv_istore_n (lv' := [(2, .int (nI 0)), (1, .int (nI 0)), (0, .ref mo)]) hx hb dX4_noiseNow_3 rfl hl (by decide) rfl (fun ls hl => ?_)
  have loop_1 : ∀ (n : Nat) (i : Nat), (i ≤ L.length) → L.length - i < n → ∀ (H : Heap) (locs : List Loc), va_P D vwCl [(mo, .inr (4, [.int tw, .int sv, .int sm, .int nt, .ref qi, .ref qs, .ref qe, .ref qn, .ref qk])), (qn, .inl (cI, 42, .inl w))] H → va_D A [(mo, .inr (4, [.int tw, .int sv, .int sm, .int nt, .ref qi, .ref qs, .ref qe, .ref qn, .ref qk])), (qn, .inl (cI, 42, .inl w))] → va_S A ss.heap H locs → ∀ ls : Array Slot, lv_has ls 3 [(0, .ref mo), (1, .int (nI (nsN L i))), (2, .int (nI i))] → W p l e rm_X4_noiseNow ss m args below meth c H locs 0 0 Q (F0 m 4 ls []) := by
    intro n
    induction n with
    | zero => intro i hi hn; exact absurd hn (by omega)
    | succ n ih =>
      intro i hi hn H locs hP hD hS ls hl
      refine lv_iload_n hx hb dX4_noiseNow_4 rfl (lv_at hl 2 rfl) ?_
      refine lv_aload_n hx hb dX4_noiseNow_5 rfl (lv_at hl 0 rfl) ?_
      refine va_get (D := D) (ci := 4) (v := .ref qn) (C := RX4) (T := TX4) (N := 9) hx hb hts iX4 hown hK hP 0 rfl rfl 7 (by decide) f26 (fun _ h9 => h9) rfl dX4_noiseNow_6 ?_
      refine lv_iconst (v := nI 1) hx hb dX4_noiseNow_9 (by decide +kernel) ?_
      refine k_iald hx hb hK hP 1 0 rfl rfl 1 (rfl) (by omega) (by decide) dX4_noiseNow_10 ?_
      refine k_top (v := nI L.length) (h1) ?_
      refine k_cmp_ge (tgt := 32) hx hb i L.length rfl rfl (by omega) (by omega) dX4_noiseNow_11 (by decide) (fun c_11 => ?_) (fun c_11 => ?_)
      · skip
        obtain rfl : i = L.length := by omega
        refine lv_iload_n hx hb dX4_noiseNow_32 rfl (lv_at hl 1 rfl) ?_
        exact ret (nI (nsN L L.length)) () _ _ _ _ _ _ (rfl) (hP.sub [0, 1] (rfl)) (hD.sub [0, 1] (by decide) (rfl)) hS (Nat.le_of_ble_eq_true rfl) (Nat.le_of_ble_eq_true rfl) dX4_noiseNow_33
      · skip
        refine lv_iload_n hx hb dX4_noiseNow_14 rfl (lv_at hl 1 rfl) ?_
        refine lv_aload_n hx hb dX4_noiseNow_15 rfl (lv_at hl 0 rfl) ?_
        refine va_get (D := D) (ci := 4) (v := .ref qn) (C := RX4) (T := TX4) (N := 9) hx hb hts iX4 hown hK hP 0 rfl rfl 7 (by decide) f26 (fun _ h9 => h9) rfl dX4_noiseNow_16 ?_
        refine lv_bipush (v := nI 6) hx hb dX4_noiseNow_19 (by decide +kernel) ?_
        refine lv_iload_n hx hb dX4_noiseNow_21 rfl (lv_at hl 2 rfl) ?_
        refine k_iadd hx hb (nI (6 + i)) (nI_add _ _) dX4_noiseNow_22 ?_
        refine k_iald hx hb hK hP 1 0 rfl rfl (6 + i) (rfl) (by omega) (by decide) dX4_noiseNow_23 ?_
        refine k_top (v := nI ((L.getD i tp0).2)) ((hV.2 i c_11).2) ?_
        refine k_iadd hx hb (nI (nsN L (i + 1))) (nI_add _ _) dX4_noiseNow_24 ?_
        refine lv_istore_n (lv' := [(1, .int (nI (nsN L (i + 1)))), (0, .ref mo), (2, .int (nI i))]) hx hb dX4_noiseNow_25 rfl hl (by decide) rfl (fun ls hl => ?_)
        refine lv_iinc (v := nI (i + 1)) (lv' := [(2, .int (nI (i + 1))), (1, .int (nI (nsN L (i + 1)))), (0, .ref mo)]) hx hb dX4_noiseNow_26 hl (k := 2) rfl (nI_1 _) (by decide) rfl (fun ls hl => ?_)
        refine lv_goto (tgt := 4) hx hb dX4_noiseNow_29 (by decide) ?_
        exact ih (i + 1) (by omega) (by omega) _ _ (hP.sub [0, 1] (rfl)) (hD.sub [0, 1] (by decide) (rfl)) hS _ (lv_sub hl [2, 1, 0] (rfl))
  exact loop_1 (L.length + 1) 0 (Nat.zero_le _) (by omega) _ _ (hP.sub [0, 1] (rfl)) (hD.sub [0, 1] (by decide) (rfl)) hS _ (lv_sub hl [2, 1, 0] (rfl))

abbrev rm_X4_add : Room := { frames := 0, cells := 0, slots := 0, locals := 0 }
set_option maxHeartbeats 4000000 in
set_option maxRecDepth 100000 in
theorem c_X4_add (l : Launch) (D : va_G) (cI : ClassId) (mo : Nat) (qi : Nat) (qs : Nat) (qe : Nat) (qn : Nat) (qk : Nat) (tw : Int32) (sv : Int32) (sm : Int32) (nt : Int32) (w : Nat → Int32) (L : List Tp) (kd : Int32) (z : Nat) (h1 : w 1 = nI L.length) (hV : rV w L) (h12 : L.length < 12) : kM krv l yX4_add wsX4_add rm_X4_add D [(cI, .int)] [.ref mo, .int kd, .int (nI z)] [(mo, .inr (4, [.int tw, .int sv, .int sm, .int nt, .ref qi, .ref qs, .ref qe, .ref qn, .ref qk])), (qn, .inl (cI, 42, .inl w))] (fun (r : Unit) (u : (Nat → Int32)) => frB w u ∧ u 1 = nI (app L (kd, z)).length ∧ rV u (app L (kd, z))) (fun (u : (Nat → Int32)) => [(mo, .inr (4, [.int tw, .int sv, .int sm, .int nt, .ref qi, .ref qs, .ref qe, .ref qn, .ref qk])), (qn, .inl (cI, 42, .inl u))]) := by
  refine k_bodyV (cc := cX4_add) (maxL := 3) (by decide) rfl (Nat.le_of_ble_eq_true rfl) ?_
  intro p e ss m args below meth c A Q F hname hA hG hK hP hD hS ret ls hl
  obtain ⟨hx, hb, hml, hown, hts⟩ := id F
  have hP : va_P D vwCl [(mo, .inr (4, [.int tw, .int sv, .int sm, .int nt, .ref qi, .ref qs, .ref qe, .ref qn, .ref qk])), (qn, .inl (cI, 42, .inl w))] ss.heap := hP
  have hD : va_D A [(mo, .inr (4, [.int tw, .int sv, .int sm, .int nt, .ref qi, .ref qs, .ref qe, .ref qn, .ref qk])), (qn, .inl (cI, 42, .inl w))] := hD
  have hl : lv_has ls 3 [(0, .ref mo), (1, .int kd), (2, .int (nI z))] := hl
  have iX4 : ∀ w ∈ u_ws RX4 TX4 9, w ∈ wsX4_add := by decide +kernel
  have f26 := hts (.fieldLink RX4 26 "SmallerTalkModel" "now" "[I") (by decide +kernel)
  refine lv_aload_n hx hb dX4_add_0 rfl (lv_at hl 0 rfl) ?_
  refine va_get (D := D) (ci := 4) (v := .ref qn) (C := RX4) (T := TX4) (N := 9) hx hb hts iX4 hown hK hP 0 rfl rfl 7 (by decide) f26 (fun _ h9 => h9) rfl dX4_add_1 ?_
  refine lv_bipush (v := nI 6) hx hb dX4_add_4 (by decide +kernel) ?_
  refine lv_aload_n hx hb dX4_add_6 rfl (lv_at hl 0 rfl) ?_
  refine va_get (D := D) (ci := 4) (v := .ref qn) (C := RX4) (T := TX4) (N := 9) hx hb hts iX4 hown hK hP 0 rfl rfl 7 (by decide) f26 (fun _ h9 => h9) rfl dX4_add_7 ?_
  refine lv_iconst (v := nI 1) hx hb dX4_add_10 (by decide +kernel) ?_
  refine k_iald hx hb hK hP 1 0 rfl rfl 1 (rfl) (by omega) (by decide) dX4_add_11 ?_
  refine k_top (v := nI L.length) (h1) ?_
  refine k_iadd hx hb (nI (6 + L.length)) (nI_add _ _) dX4_add_12 ?_
  refine lv_iload_n hx hb dX4_add_13 rfl (lv_at hl 2 rfl) ?_
  refine k_iast hx hb hK hP hD hS 1 0 rfl rfl (6 + L.length) (rfl) (by omega) (by decide) dX4_add_14 (fun H locs hP hD hS => ?_)
  have hP : va_P D vwCl [(mo, .inr (4, [.int tw, .int sv, .int sm, .int nt, .ref qi, .ref qs, .ref qe, .ref qn, .ref qk])), (qn, .inl (cI, 42, .inl (upd w (6 + L.length) (nI z))))] H := hP
  have hD : va_D A [(mo, .inr (4, [.int tw, .int sv, .int sm, .int nt, .ref qi, .ref qs, .ref qe, .ref qn, .ref qk])), (qn, .inl (cI, 42, .inl (upd w (6 + L.length) (nI z))))] := hD
  refine lv_aload_n hx hb dX4_add_15 rfl (lv_at hl 0 rfl) ?_
  refine va_get (D := D) (ci := 4) (v := .ref qn) (C := RX4) (T := TX4) (N := 9) hx hb hts iX4 hown hK hP 0 rfl rfl 7 (by decide) f26 (fun _ h9 => h9) rfl dX4_add_16 ?_
  refine lv_bipush (v := nI 18) hx hb dX4_add_19 (by decide +kernel) ?_
  refine lv_aload_n hx hb dX4_add_21 rfl (lv_at hl 0 rfl) ?_
  refine va_get (D := D) (ci := 4) (v := .ref qn) (C := RX4) (T := TX4) (N := 9) hx hb hts iX4 hown hK hP 0 rfl rfl 7 (by decide) f26 (fun _ h9 => h9) rfl dX4_add_22 ?_
  refine lv_iconst (v := nI 1) hx hb dX4_add_25 (by decide +kernel) ?_
  refine k_iald hx hb hK hP 1 0 rfl rfl 1 (rfl) (by omega) (by decide) dX4_add_26 ?_
  refine k_top (v := nI L.length) ((pk_un (by omega)).trans h1) ?_
  refine k_iadd hx hb (nI (18 + L.length)) (nI_add _ _) dX4_add_27 ?_
  refine lv_iload_n hx hb dX4_add_28 rfl (lv_at hl 1 rfl) ?_
  refine k_iast hx hb hK hP hD hS 1 0 rfl rfl (18 + L.length) (rfl) (by omega) (by decide) dX4_add_29 (fun H locs hP hD hS => ?_)
  have hP : va_P D vwCl [(mo, .inr (4, [.int tw, .int sv, .int sm, .int nt, .ref qi, .ref qs, .ref qe, .ref qn, .ref qk])), (qn, .inl (cI, 42, .inl (upd (upd w (6 + L.length) (nI z)) (18 + L.length) kd)))] H := hP
  have hD : va_D A [(mo, .inr (4, [.int tw, .int sv, .int sm, .int nt, .ref qi, .ref qs, .ref qe, .ref qn, .ref qk])), (qn, .inl (cI, 42, .inl (upd (upd w (6 + L.length) (nI z)) (18 + L.length) kd)))] := hD
  refine lv_aload_n hx hb dX4_add_30 rfl (lv_at hl 0 rfl) ?_
  refine va_get (D := D) (ci := 4) (v := .ref qn) (C := RX4) (T := TX4) (N := 9) hx hb hts iX4 hown hK hP 0 rfl rfl 7 (by decide) f26 (fun _ h9 => h9) rfl dX4_add_31 ?_
  refine lv_iconst (v := nI 1) hx hb dX4_add_34 (by decide +kernel) ?_
  refine lv_dup2_11 hx hb dX4_add_35 rfl rfl ?_
  refine k_iald hx hb hK hP 1 0 rfl rfl 1 (rfl) (by omega) (by decide) dX4_add_36 ?_
  refine k_top (v := nI L.length) ((pk_un (by omega)).trans ((pk_un (by omega)).trans h1)) ?_
  refine lv_iconst (v := nI 1) hx hb dX4_add_37 (by decide +kernel) ?_
  refine k_iadd hx hb (nI (L.length + 1)) (nI_add _ _) dX4_add_38 ?_
  refine k_iast hx hb hK hP hD hS 1 0 rfl rfl 1 (rfl) (by omega) (by decide) dX4_add_39 (fun H locs hP hD hS => ?_)
  have hP : va_P D vwCl [(mo, .inr (4, [.int tw, .int sv, .int sm, .int nt, .ref qi, .ref qs, .ref qe, .ref qn, .ref qk])), (qn, .inl (cI, 42, .inl (upd (upd (upd w (6 + L.length) (nI z)) (18 + L.length) kd) 1 (nI (L.length + 1)))))] H := hP
  have hD : va_D A [(mo, .inr (4, [.int tw, .int sv, .int sm, .int nt, .ref qi, .ref qs, .ref qe, .ref qn, .ref qk])), (qn, .inl (cI, 42, .inl (upd (upd (upd w (6 + L.length) (nI z)) (18 + L.length) kd) 1 (nI (L.length + 1)))))] := hD
  exact ret (upd (upd (upd w (6 + L.length) (nI z)) (18 + L.length) kd) 1 (nI (L.length + 1))) _ _ _ _ _ _ (add_ok hV h12) (hP.sub [0, 1] (rfl)) (hD.sub [0, 1] (by decide) (rfl)) hS (Nat.le_of_ble_eq_true rfl) (Nat.le_of_ble_eq_true rfl) dX4_add_40

abbrev rm_X4_leaveOut_n : Room := { frames := 0, cells := 0, slots := 0, locals := 0 }
set_option maxHeartbeats 4000000 in
set_option maxRecDepth 100000 in
theorem c_X4_leaveOut_n (l : Launch) (D : va_G) (cI : ClassId) (mo : Nat) (qi : Nat) (qs : Nat) (qe : Nat) (qn : Nat) (qk : Nat) (tw : Int32) (sv : Int32) (sm : Int32) (nt : Int32) (w : Nat → Int32) (L : List Tp) (h1 : w 1 = nI L.length) (hV : rV w L) (hsz : ∀ j, j < L.length → (L.getD j tp0).2 ≤ 99) : kM kri l yX4_leaveOut wsX4_leaveOut rm_X4_leaveOut_n D [(cI, .int)] [.ref mo, .int (nI 0)] [(mo, .inr (4, [.int tw, .int sv, .int sm, .int nt, .ref qi, .ref qs, .ref qe, .ref qn, .ref qk])), (qn, .inl (cI, 42, .inl w))] (fun (r : Int32) (u : (Nat → Int32)) => r = nI (L.length - (pf (ndF L) L.length).length) ∧ frB w u ∧ u 1 = nI (pf (ndF L) L.length).length ∧ rV u (pf (ndF L) L.length)) (fun (u : (Nat → Int32)) => [(mo, .inr (4, [.int tw, .int sv, .int sm, .int nt, .ref qi, .ref qs, .ref qe, .ref qn, .ref qk])), (qn, .inl (cI, 42, .inl u))]) := by
  refine k_bodyI (cc := cX4_leaveOut) (maxL := 6) (by decide) rfl (Nat.le_of_ble_eq_true rfl) ?_
  intro p e ss m args below meth c A Q F hname hA hG hK hP hD hS ret ls hl
  obtain ⟨hx, hb, hml, hown, hts⟩ := id F
  have hP : va_P D vwCl [(mo, .inr (4, [.int tw, .int sv, .int sm, .int nt, .ref qi, .ref qs, .ref qe, .ref qn, .ref qk])), (qn, .inl (cI, 42, .inl w))] ss.heap := hP
  have hD : va_D A [(mo, .inr (4, [.int tw, .int sv, .int sm, .int nt, .ref qi, .ref qs, .ref qe, .ref qn, .ref qk])), (qn, .inl (cI, 42, .inl w))] := hD
  have hl : lv_has ls 6 [(0, .ref mo), (1, .int (nI 0))] := hl
  have iX4 : ∀ w ∈ u_ws RX4 TX4 9, w ∈ wsX4_leaveOut := by decide +kernel
  have f26 := hts (.fieldLink RX4 26 "SmallerTalkModel" "now" "[I") (by decide +kernel)
  have h12 := hV.1
  refine lv_iconst (v := nI 0) hx hb dX4_leaveOut_0 (by decide +kernel) ?_
  refine lv_istore_n (lv' := [(2, .int (nI 0)), (0, .ref mo), (1, .int (nI 0))]) hx hb dX4_leaveOut_1 rfl hl (by decide) rfl (fun ls hl => ?_)
  refine lv_aload_n hx hb dX4_leaveOut_2 rfl (lv_at hl 1 rfl) ?_
  refine va_get (D := D) (ci := 4) (v := .ref qn) (C := RX4) (T := TX4) (N := 9) hx hb hts iX4 hown hK hP 0 rfl rfl 7 (by decide) f26 (fun _ h9 => h9) rfl dX4_leaveOut_3 ?_
  refine lv_iconst (v := nI 1) hx hb dX4_leaveOut_6 (by decide +kernel) ?_
  refine k_iald hx hb hK hP 1 0 rfl rfl 1 (rfl) (by omega) (by decide) dX4_leaveOut_7 ?_
  refine k_top (v := nI L.length) (h1) ?_
  refine lv_istore_n (lv' := [(3, .int (nI L.length)), (2, .int (nI 0)), (0, .ref mo), (1, .int (nI 0))]) hx hb dX4_leaveOut_8 rfl hl (by decide) rfl (fun ls hl => ?_)
  refine lv_iconst (v := nI 0) hx hb dX4_leaveOut_9 (by decide +kernel) ?_
  refine lv_istore (lv' := [(4, .int (nI 0)), (3, .int (nI L.length)), (2, .int (nI 0)), (0, .ref mo), (1, .int (nI 0))]) hx hb dX4_leaveOut_10 hl (by decide) rfl (fun ls hl => ?_)
  have loop_1 : ∀ (n : Nat) (i : Nat) (w1 : Nat → Int32), (i ≤ L.length) → (cmpM L.length (ndF L) w w1 i) → L.length - i < n → ∀ (H : Heap) (locs : List Loc), va_P D vwCl [(mo, .inr (4, [.int tw, .int sv, .int sm, .int nt, .ref qi, .ref qs, .ref qe, .ref qn, .ref qk])), (qn, .inl (cI, 42, .inl w1))] H → va_D A [(mo, .inr (4, [.int tw, .int sv, .int sm, .int nt, .ref qi, .ref qs, .ref qe, .ref qn, .ref qk])), (qn, .inl (cI, 42, .inl w1))] → va_S A ss.heap H locs → ∀ ls : Array Slot, lv_has ls 6 [(0, .ref mo), (1, .int (nI 0)), (2, .int (nI ((pf (ndF L) i).length))), (3, .int (nI L.length)), (4, .int (nI i))] → W p l e rm_X4_leaveOut_n ss m args below meth c H locs 0 0 Q (F0 m 12 ls []) := by
    intro n
    induction n with
    | zero => intro i w1 hi hc hn; exact absurd hn (by omega)
    | succ n ih =>
      intro i w1 hi hc hn H locs hP hD hS ls hl
      have hpf := pf_le (ndF L) i
      refine lv_iload hx hb dX4_leaveOut_12 (lv_at hl 4 rfl) ?_
      refine lv_iload_n hx hb dX4_leaveOut_14 rfl (lv_at hl 3 rfl) ?_
      refine k_cmp_ge (tgt := 136) hx hb i L.length rfl rfl (by omega) (by omega) dX4_leaveOut_15 (by decide) (fun c_15 => ?_) (fun c_15 => ?_)
      · skip
        obtain rfl : i = L.length := by omega
        refine lv_aload_n hx hb dX4_leaveOut_136 rfl (lv_at hl 0 rfl) ?_
        refine va_get (D := D) (ci := 4) (v := .ref qn) (C := RX4) (T := TX4) (N := 9) hx hb hts iX4 hown hK hP 0 rfl rfl 7 (by decide) f26 (fun _ h9 => h9) rfl dX4_leaveOut_137 ?_
        refine lv_iconst (v := nI 1) hx hb dX4_leaveOut_140 (by decide +kernel) ?_
        refine lv_iload_n hx hb dX4_leaveOut_141 rfl (lv_at hl 2 rfl) ?_
        refine k_iast hx hb hK hP hD hS 1 0 rfl rfl 1 (rfl) (by omega) (by decide) dX4_leaveOut_142 (fun H locs hP hD hS => ?_)
        have hP : va_P D vwCl [(mo, .inr (4, [.int tw, .int sv, .int sm, .int nt, .ref qi, .ref qs, .ref qe, .ref qn, .ref qk])), (qn, .inl (cI, 42, .inl (upd w1 1 (nI ((pf (ndF L) L.length).length)))))] H := hP
        have hD : va_D A [(mo, .inr (4, [.int tw, .int sv, .int sm, .int nt, .ref qi, .ref qs, .ref qe, .ref qn, .ref qk])), (qn, .inl (cI, 42, .inl (upd w1 1 (nI ((pf (ndF L) L.length).length)))))] := hD
        refine lv_iload_n hx hb dX4_leaveOut_143 rfl (lv_at hl 3 rfl) ?_
        refine lv_iload_n hx hb dX4_leaveOut_144 rfl (lv_at hl 2 rfl) ?_
        refine k_isub hx hb (nI (L.length - (pf (ndF L) L.length).length)) (pk_sub hpf) dX4_leaveOut_145 ?_
        exact ret (nI (L.length - (pf (ndF L) L.length).length)) (upd w1 1 (nI ((pf (ndF L) L.length).length))) _ _ _ _ _ _ (⟨rfl, fr_cmpM hc, pk_us, rV_cmpM h12 hc⟩) (hP.sub [0, 1] (rfl)) (hD.sub [0, 1] (by decide) (rfl)) hS (Nat.le_of_ble_eq_true rfl) (Nat.le_of_ble_eq_true rfl) dX4_leaveOut_146
      · skip
        refine lv_iload_n hx hb dX4_leaveOut_18 rfl (lv_at hl 1 rfl) ?_
        refine k_if_eq (tgt := 60) hx hb 0 rfl (by omega) dX4_leaveOut_19 (by decide) (fun c_19 => ?_) (fun c_19 => ?_)
        · skip
          refine lv_aload_n hx hb dX4_leaveOut_60 rfl (lv_at hl 0 rfl) ?_
          refine va_get (D := D) (ci := 4) (v := .ref qn) (C := RX4) (T := TX4) (N := 9) hx hb hts iX4 hown hK hP 0 rfl rfl 7 (by decide) f26 (fun _ h9 => h9) rfl dX4_leaveOut_61 ?_
          refine lv_bipush (v := nI 6) hx hb dX4_leaveOut_64 (by decide +kernel) ?_
          refine lv_iload hx hb dX4_leaveOut_66 (lv_at hl 4 rfl) ?_
          refine k_iadd hx hb (nI (6 + i)) (nI_add _ _) dX4_leaveOut_68 ?_
          refine k_iald hx hb hK hP 1 0 rfl rfl (6 + i) (rfl) (by omega) (by decide) dX4_leaveOut_69 ?_
          refine k_top (v := nI ((L.getD i tp0).2)) (((hc.2.1 i (Nat.le_refl _) c_15).2.trans (hV.2 i c_15).2)) ?_
          refine lv_iconst (v := nI 2) hx hb dX4_leaveOut_70 (by decide +kernel) ?_
          refine k_cmp_ge (tgt := 78) hx hb ((L.getD i tp0).2) 2 rfl rfl (by have := hsz i c_15; omega) (by omega) dX4_leaveOut_71 (by decide) (fun c_71 => ?_) (fun c_71 => ?_)
          · skip
            refine lv_iconst (v := nI 0) hx hb dX4_leaveOut_78 (by decide +kernel) ?_
            refine lv_istore (lv' := [(5, .int (nI 0)), (0, .ref mo), (1, .int (nI 0)), (2, .int (nI ((pf (ndF L) i).length))), (3, .int (nI L.length)), (4, .int (nI i))]) hx hb dX4_leaveOut_79 hl (by decide) rfl (fun ls hl => ?_)
            refine lv_iload hx hb dX4_leaveOut_81 (lv_at hl 0 rfl) ?_
            refine k_if_eq (tgt := 89) hx hb 0 rfl (by omega) dX4_leaveOut_83 (by decide) (fun c_83 => ?_) (fun c_83 => ?_)
            · skip
              refine lv_aload_n hx hb dX4_leaveOut_89 rfl (lv_at hl 1 rfl) ?_
              refine va_get (D := D) (ci := 4) (v := .ref qn) (C := RX4) (T := TX4) (N := 9) hx hb hts iX4 hown hK hP 0 rfl rfl 7 (by decide) f26 (fun _ h9 => h9) rfl dX4_leaveOut_90 ?_
              refine lv_bipush (v := nI 6) hx hb dX4_leaveOut_93 (by decide +kernel) ?_
              refine lv_iload_n hx hb dX4_leaveOut_95 rfl (lv_at hl 3 rfl) ?_
              refine k_iadd hx hb (nI (6 + ((pf (ndF L) i).length))) (nI_add _ _) dX4_leaveOut_96 ?_
              refine lv_aload_n hx hb dX4_leaveOut_97 rfl (lv_at hl 1 rfl) ?_
              refine va_get (D := D) (ci := 4) (v := .ref qn) (C := RX4) (T := TX4) (N := 9) hx hb hts iX4 hown hK hP 0 rfl rfl 7 (by decide) f26 (fun _ h9 => h9) rfl dX4_leaveOut_98 ?_
              refine lv_bipush (v := nI 6) hx hb dX4_leaveOut_101 (by decide +kernel) ?_
              refine lv_iload hx hb dX4_leaveOut_103 (lv_at hl 5 rfl) ?_
              refine k_iadd hx hb (nI (6 + i)) (nI_add _ _) dX4_leaveOut_105 ?_
              refine k_iald hx hb hK hP 1 0 rfl rfl (6 + i) (rfl) (by omega) (by decide) dX4_leaveOut_106 ?_
              refine k_top (v := nI ((L.getD i tp0).2)) (((hc.2.1 i (Nat.le_refl _) c_15).2.trans (hV.2 i c_15).2)) ?_
              refine k_iast hx hb hK hP hD hS 1 0 rfl rfl (6 + ((pf (ndF L) i).length)) (rfl) (by omega) (by decide) dX4_leaveOut_107 (fun H locs hP hD hS => ?_)
              have hP : va_P D vwCl [(mo, .inr (4, [.int tw, .int sv, .int sm, .int nt, .ref qi, .ref qs, .ref qe, .ref qn, .ref qk])), (qn, .inl (cI, 42, .inl (upd w1 (6 + ((pf (ndF L) i).length)) (nI ((L.getD i tp0).2)))))] H := hP
              have hD : va_D A [(mo, .inr (4, [.int tw, .int sv, .int sm, .int nt, .ref qi, .ref qs, .ref qe, .ref qn, .ref qk])), (qn, .inl (cI, 42, .inl (upd w1 (6 + ((pf (ndF L) i).length)) (nI ((L.getD i tp0).2)))))] := hD
              refine lv_aload_n hx hb dX4_leaveOut_108 rfl (lv_at hl 1 rfl) ?_
              refine va_get (D := D) (ci := 4) (v := .ref qn) (C := RX4) (T := TX4) (N := 9) hx hb hts iX4 hown hK hP 0 rfl rfl 7 (by decide) f26 (fun _ h9 => h9) rfl dX4_leaveOut_109 ?_
              refine lv_bipush (v := nI 18) hx hb dX4_leaveOut_112 (by decide +kernel) ?_
              refine lv_iload_n hx hb dX4_leaveOut_114 rfl (lv_at hl 3 rfl) ?_
              refine k_iadd hx hb (nI (18 + ((pf (ndF L) i).length))) (nI_add _ _) dX4_leaveOut_115 ?_
              refine lv_aload_n hx hb dX4_leaveOut_116 rfl (lv_at hl 1 rfl) ?_
              refine va_get (D := D) (ci := 4) (v := .ref qn) (C := RX4) (T := TX4) (N := 9) hx hb hts iX4 hown hK hP 0 rfl rfl 7 (by decide) f26 (fun _ h9 => h9) rfl dX4_leaveOut_117 ?_
              refine lv_bipush (v := nI 18) hx hb dX4_leaveOut_120 (by decide +kernel) ?_
              refine lv_iload hx hb dX4_leaveOut_122 (lv_at hl 5 rfl) ?_
              refine k_iadd hx hb (nI (18 + i)) (nI_add _ _) dX4_leaveOut_124 ?_
              refine k_iald hx hb hK hP 1 0 rfl rfl (18 + i) (rfl) (by omega) (by decide) dX4_leaveOut_125 ?_
              refine k_top (v := (L.getD i tp0).1) ((pk_un (by omega)).trans ((hc.2.1 i (Nat.le_refl _) c_15).1.trans (hV.2 i c_15).1)) ?_
              refine k_iast hx hb hK hP hD hS 1 0 rfl rfl (18 + ((pf (ndF L) i).length)) (rfl) (by omega) (by decide) dX4_leaveOut_126 (fun H locs hP hD hS => ?_)
              have hP : va_P D vwCl [(mo, .inr (4, [.int tw, .int sv, .int sm, .int nt, .ref qi, .ref qs, .ref qe, .ref qn, .ref qk])), (qn, .inl (cI, 42, .inl (upd (upd w1 (6 + ((pf (ndF L) i).length)) (nI ((L.getD i tp0).2))) (18 + ((pf (ndF L) i).length)) ((L.getD i tp0).1))))] H := hP
              have hD : va_D A [(mo, .inr (4, [.int tw, .int sv, .int sm, .int nt, .ref qi, .ref qs, .ref qe, .ref qn, .ref qk])), (qn, .inl (cI, 42, .inl (upd (upd w1 (6 + ((pf (ndF L) i).length)) (nI ((L.getD i tp0).2))) (18 + ((pf (ndF L) i).length)) ((L.getD i tp0).1))))] := hD
              refine lv_iinc (v := nI (((pf (ndF L) i).length) + 1)) (lv' := [(2, .int (nI (((pf (ndF L) i).length) + 1))), (5, .int (nI 0)), (0, .ref mo), (1, .int (nI 0)), (3, .int (nI L.length)), (4, .int (nI i))]) hx hb dX4_leaveOut_127 hl (k := 3) rfl (nI_1 _) (by decide) rfl (fun ls hl => ?_)
              refine lv_iinc (v := nI (i + 1)) (lv' := [(4, .int (nI (i + 1))), (2, .int (nI (((pf (ndF L) i).length) + 1))), (5, .int (nI 0)), (0, .ref mo), (1, .int (nI 0)), (3, .int (nI L.length))]) hx hb dX4_leaveOut_130 hl (k := 5) rfl (nI_1 _) (by decide) rfl (fun ls hl => ?_)
              refine lv_goto (tgt := 12) hx hb dX4_leaveOut_133 (by decide) ?_
              have hF := ndF_some c_71
              exact ih (i + 1) (upd (upd w1 (6 + ((pf (ndF L) i).length)) (nI ((L.getD i tp0).2))) (18 + ((pf (ndF L) i).length)) ((L.getD i tp0).1)) (by omega) (cmpM_keep h12 c_15 hc hF) (by omega) _ _ (hP.sub [0, 1] (rfl)) (hD.sub [0, 1] (by decide) (rfl)) hS _ (lv_sub hl [3, 4, 1, 5, 0] (by rw [pf_lenS hF]; rfl))
            · exact absurd c_83 (by omega)
          · skip
            refine lv_iconst (v := nI 1) hx hb dX4_leaveOut_74 (by decide +kernel) ?_
            refine lv_goto (tgt := 79) hx hb dX4_leaveOut_75 (by decide) ?_
            refine lv_istore (lv' := [(5, .int (nI 1)), (0, .ref mo), (1, .int (nI 0)), (2, .int (nI ((pf (ndF L) i).length))), (3, .int (nI L.length)), (4, .int (nI i))]) hx hb dX4_leaveOut_79 hl (by decide) rfl (fun ls hl => ?_)
            refine lv_iload hx hb dX4_leaveOut_81 (lv_at hl 0 rfl) ?_
            refine k_if_eq (tgt := 89) hx hb 1 rfl (by omega) dX4_leaveOut_83 (by decide) (fun c_83 => ?_) (fun c_83 => ?_)
            · exact absurd c_83 (by omega)
            · skip
              refine lv_goto (tgt := 130) hx hb dX4_leaveOut_86 (by decide) ?_
              refine lv_iinc (v := nI (i + 1)) (lv' := [(4, .int (nI (i + 1))), (5, .int (nI 1)), (0, .ref mo), (1, .int (nI 0)), (2, .int (nI ((pf (ndF L) i).length))), (3, .int (nI L.length))]) hx hb dX4_leaveOut_130 hl (k := 5) rfl (nI_1 _) (by decide) rfl (fun ls hl => ?_)
              refine lv_goto (tgt := 12) hx hb dX4_leaveOut_133 (by decide) ?_
              have hF := ndF_none c_71
              exact ih (i + 1) w1 (by omega) (cmpM_skip hc hF) (by omega) _ _ (hP.sub [0, 1] (rfl)) (hD.sub [0, 1] (by decide) (rfl)) hS _ (lv_sub hl [2, 3, 4, 5, 0] (by rw [pf_lenN hF]; rfl))
        · exact absurd c_19 (by omega)
  exact loop_1 (L.length + 1) 0 w (Nat.zero_le _) (cmpM_0 _ _ _) (by omega) _ _ (hP.sub [0, 1] (rfl)) (hD.sub [0, 1] (by decide) (rfl)) hS _ (lv_sub hl [3, 4, 2, 1, 0] (rfl))

abbrev rm_X4_leaveOut_w : Room := { frames := 0, cells := 0, slots := 0, locals := 0 }
set_option maxHeartbeats 4000000 in
set_option maxRecDepth 100000 in
theorem c_X4_leaveOut_w (l : Launch) (D : va_G) (cI : ClassId) (mo : Nat) (qi : Nat) (qs : Nat) (qe : Nat) (qn : Nat) (qk : Nat) (tw : Int32) (sv : Int32) (sm : Int32) (nt : Int32) (w : Nat → Int32) (L : List Tp) (h1 : w 1 = nI L.length) (hV : rV w L) : kM kri l yX4_leaveOut wsX4_leaveOut rm_X4_leaveOut_w D [(cI, .int)] [.ref mo, .int (nI 1)] [(mo, .inr (4, [.int tw, .int sv, .int sm, .int nt, .ref qi, .ref qs, .ref qe, .ref qn, .ref qk])), (qn, .inl (cI, 42, .inl w))] (fun (r : Int32) (u : (Nat → Int32)) => r = nI (L.length - (pf (sfF sm L) L.length).length) ∧ frB w u ∧ u 1 = nI (pf (sfF sm L) L.length).length ∧ rV u (pf (sfF sm L) L.length)) (fun (u : (Nat → Int32)) => [(mo, .inr (4, [.int tw, .int sv, .int sm, .int nt, .ref qi, .ref qs, .ref qe, .ref qn, .ref qk])), (qn, .inl (cI, 42, .inl u))]) := by
  refine k_bodyI (cc := cX4_leaveOut) (maxL := 6) (by decide) rfl (Nat.le_of_ble_eq_true rfl) ?_
  intro p e ss m args below meth c A Q F hname hA hG hK hP hD hS ret ls hl
  obtain ⟨hx, hb, hml, hown, hts⟩ := id F
  have hP : va_P D vwCl [(mo, .inr (4, [.int tw, .int sv, .int sm, .int nt, .ref qi, .ref qs, .ref qe, .ref qn, .ref qk])), (qn, .inl (cI, 42, .inl w))] ss.heap := hP
  have hD : va_D A [(mo, .inr (4, [.int tw, .int sv, .int sm, .int nt, .ref qi, .ref qs, .ref qe, .ref qn, .ref qk])), (qn, .inl (cI, 42, .inl w))] := hD
  have hl : lv_has ls 6 [(0, .ref mo), (1, .int (nI 1))] := hl
  have iX4 : ∀ w ∈ u_ws RX4 TX4 9, w ∈ wsX4_leaveOut := by decide +kernel
  have f13 := hts (.fieldLink RX4 13 "SmallerTalkModel" "mesh" "I") (by decide +kernel)
  have f26 := hts (.fieldLink RX4 26 "SmallerTalkModel" "now" "[I") (by decide +kernel)
  have h12 := hV.1
  refine lv_iconst (v := nI 0) hx hb dX4_leaveOut_0 (by decide +kernel) ?_
  refine lv_istore_n (lv' := [(2, .int (nI 0)), (0, .ref mo), (1, .int (nI 1))]) hx hb dX4_leaveOut_1 rfl hl (by decide) rfl (fun ls hl => ?_)
  refine lv_aload_n hx hb dX4_leaveOut_2 rfl (lv_at hl 1 rfl) ?_
  refine va_get (D := D) (ci := 4) (v := .ref qn) (C := RX4) (T := TX4) (N := 9) hx hb hts iX4 hown hK hP 0 rfl rfl 7 (by decide) f26 (fun _ h9 => h9) rfl dX4_leaveOut_3 ?_
  refine lv_iconst (v := nI 1) hx hb dX4_leaveOut_6 (by decide +kernel) ?_
  refine k_iald hx hb hK hP 1 0 rfl rfl 1 (rfl) (by omega) (by decide) dX4_leaveOut_7 ?_
  refine k_top (v := nI L.length) (h1) ?_
  refine lv_istore_n (lv' := [(3, .int (nI L.length)), (2, .int (nI 0)), (0, .ref mo), (1, .int (nI 1))]) hx hb dX4_leaveOut_8 rfl hl (by decide) rfl (fun ls hl => ?_)
  refine lv_iconst (v := nI 0) hx hb dX4_leaveOut_9 (by decide +kernel) ?_
  refine lv_istore (lv' := [(4, .int (nI 0)), (3, .int (nI L.length)), (2, .int (nI 0)), (0, .ref mo), (1, .int (nI 1))]) hx hb dX4_leaveOut_10 hl (by decide) rfl (fun ls hl => ?_)
  have loop_1 : ∀ (n : Nat) (i : Nat) (w1 : Nat → Int32), (i ≤ L.length) → (cmpM L.length (sfF sm L) w w1 i) → L.length - i < n → ∀ (H : Heap) (locs : List Loc), va_P D vwCl [(mo, .inr (4, [.int tw, .int sv, .int sm, .int nt, .ref qi, .ref qs, .ref qe, .ref qn, .ref qk])), (qn, .inl (cI, 42, .inl w1))] H → va_D A [(mo, .inr (4, [.int tw, .int sv, .int sm, .int nt, .ref qi, .ref qs, .ref qe, .ref qn, .ref qk])), (qn, .inl (cI, 42, .inl w1))] → va_S A ss.heap H locs → ∀ ls : Array Slot, lv_has ls 6 [(0, .ref mo), (1, .int (nI 1)), (2, .int (nI ((pf (sfF sm L) i).length))), (3, .int (nI L.length)), (4, .int (nI i))] → W p l e rm_X4_leaveOut_w ss m args below meth c H locs 0 0 Q (F0 m 12 ls []) := by
    intro n
    induction n with
    | zero => intro i w1 hi hc hn; exact absurd hn (by omega)
    | succ n ih =>
      intro i w1 hi hc hn H locs hP hD hS ls hl
      have hpf := pf_le (sfF sm L) i
      refine lv_iload hx hb dX4_leaveOut_12 (lv_at hl 4 rfl) ?_
      refine lv_iload_n hx hb dX4_leaveOut_14 rfl (lv_at hl 3 rfl) ?_
      refine k_cmp_ge (tgt := 136) hx hb i L.length rfl rfl (by omega) (by omega) dX4_leaveOut_15 (by decide) (fun c_15 => ?_) (fun c_15 => ?_)
      · skip
        obtain rfl : i = L.length := by omega
        refine lv_aload_n hx hb dX4_leaveOut_136 rfl (lv_at hl 0 rfl) ?_
        refine va_get (D := D) (ci := 4) (v := .ref qn) (C := RX4) (T := TX4) (N := 9) hx hb hts iX4 hown hK hP 0 rfl rfl 7 (by decide) f26 (fun _ h9 => h9) rfl dX4_leaveOut_137 ?_
        refine lv_iconst (v := nI 1) hx hb dX4_leaveOut_140 (by decide +kernel) ?_
        refine lv_iload_n hx hb dX4_leaveOut_141 rfl (lv_at hl 2 rfl) ?_
        refine k_iast hx hb hK hP hD hS 1 0 rfl rfl 1 (rfl) (by omega) (by decide) dX4_leaveOut_142 (fun H locs hP hD hS => ?_)
        have hP : va_P D vwCl [(mo, .inr (4, [.int tw, .int sv, .int sm, .int nt, .ref qi, .ref qs, .ref qe, .ref qn, .ref qk])), (qn, .inl (cI, 42, .inl (upd w1 1 (nI ((pf (sfF sm L) L.length).length)))))] H := hP
        have hD : va_D A [(mo, .inr (4, [.int tw, .int sv, .int sm, .int nt, .ref qi, .ref qs, .ref qe, .ref qn, .ref qk])), (qn, .inl (cI, 42, .inl (upd w1 1 (nI ((pf (sfF sm L) L.length).length)))))] := hD
        refine lv_iload_n hx hb dX4_leaveOut_143 rfl (lv_at hl 3 rfl) ?_
        refine lv_iload_n hx hb dX4_leaveOut_144 rfl (lv_at hl 2 rfl) ?_
        refine k_isub hx hb (nI (L.length - (pf (sfF sm L) L.length).length)) (pk_sub hpf) dX4_leaveOut_145 ?_
        exact ret (nI (L.length - (pf (sfF sm L) L.length).length)) (upd w1 1 (nI ((pf (sfF sm L) L.length).length))) _ _ _ _ _ _ (⟨rfl, fr_cmpM hc, pk_us, rV_cmpM h12 hc⟩) (hP.sub [0, 1] (rfl)) (hD.sub [0, 1] (by decide) (rfl)) hS (Nat.le_of_ble_eq_true rfl) (Nat.le_of_ble_eq_true rfl) dX4_leaveOut_146
      · skip
        refine lv_iload_n hx hb dX4_leaveOut_18 rfl (lv_at hl 1 rfl) ?_
        refine k_if_eq (tgt := 60) hx hb 1 rfl (by omega) dX4_leaveOut_19 (by decide) (fun c_19 => ?_) (fun c_19 => ?_)
        · exact absurd c_19 (by omega)
        · skip
          refine lv_aload_n hx hb dX4_leaveOut_22 rfl (lv_at hl 0 rfl) ?_
          refine va_get (D := D) (ci := 4) (v := .ref qn) (C := RX4) (T := TX4) (N := 9) hx hb hts iX4 hown hK hP 0 rfl rfl 7 (by decide) f26 (fun _ h9 => h9) rfl dX4_leaveOut_23 ?_
          refine lv_bipush (v := nI 18) hx hb dX4_leaveOut_26 (by decide +kernel) ?_
          refine lv_iload hx hb dX4_leaveOut_28 (lv_at hl 4 rfl) ?_
          refine k_iadd hx hb (nI (18 + i)) (nI_add _ _) dX4_leaveOut_30 ?_
          refine k_iald hx hb hK hP 1 0 rfl rfl (18 + i) (rfl) (by omega) (by decide) dX4_leaveOut_31 ?_
          refine k_top (v := (L.getD i tp0).1) (((hc.2.1 i (Nat.le_refl _) c_15).1.trans (hV.2 i c_15).1)) ?_
          refine lv_if_ne (tgt := 56) hx hb dX4_leaveOut_32 (by decide) (fun c_32 => ?_) (fun c_32 => ?_)
          · skip
            refine lv_iconst (v := nI 0) hx hb dX4_leaveOut_56 (by decide +kernel) ?_
            refine lv_goto (tgt := 79) hx hb dX4_leaveOut_57 (by decide) ?_
            refine lv_istore (lv' := [(5, .int (nI 0)), (0, .ref mo), (1, .int (nI 1)), (2, .int (nI ((pf (sfF sm L) i).length))), (3, .int (nI L.length)), (4, .int (nI i))]) hx hb dX4_leaveOut_79 hl (by decide) rfl (fun ls hl => ?_)
            refine lv_iload hx hb dX4_leaveOut_81 (lv_at hl 0 rfl) ?_
            refine k_if_eq (tgt := 89) hx hb 0 rfl (by omega) dX4_leaveOut_83 (by decide) (fun c_83 => ?_) (fun c_83 => ?_)
            · skip
              refine lv_aload_n hx hb dX4_leaveOut_89 rfl (lv_at hl 1 rfl) ?_
              refine va_get (D := D) (ci := 4) (v := .ref qn) (C := RX4) (T := TX4) (N := 9) hx hb hts iX4 hown hK hP 0 rfl rfl 7 (by decide) f26 (fun _ h9 => h9) rfl dX4_leaveOut_90 ?_
              refine lv_bipush (v := nI 6) hx hb dX4_leaveOut_93 (by decide +kernel) ?_
              refine lv_iload_n hx hb dX4_leaveOut_95 rfl (lv_at hl 3 rfl) ?_
              refine k_iadd hx hb (nI (6 + ((pf (sfF sm L) i).length))) (nI_add _ _) dX4_leaveOut_96 ?_
              refine lv_aload_n hx hb dX4_leaveOut_97 rfl (lv_at hl 1 rfl) ?_
              refine va_get (D := D) (ci := 4) (v := .ref qn) (C := RX4) (T := TX4) (N := 9) hx hb hts iX4 hown hK hP 0 rfl rfl 7 (by decide) f26 (fun _ h9 => h9) rfl dX4_leaveOut_98 ?_
              refine lv_bipush (v := nI 6) hx hb dX4_leaveOut_101 (by decide +kernel) ?_
              refine lv_iload hx hb dX4_leaveOut_103 (lv_at hl 5 rfl) ?_
              refine k_iadd hx hb (nI (6 + i)) (nI_add _ _) dX4_leaveOut_105 ?_
              refine k_iald hx hb hK hP 1 0 rfl rfl (6 + i) (rfl) (by omega) (by decide) dX4_leaveOut_106 ?_
              refine k_top (v := nI ((L.getD i tp0).2)) (((hc.2.1 i (Nat.le_refl _) c_15).2.trans (hV.2 i c_15).2)) ?_
              refine k_iast hx hb hK hP hD hS 1 0 rfl rfl (6 + ((pf (sfF sm L) i).length)) (rfl) (by omega) (by decide) dX4_leaveOut_107 (fun H locs hP hD hS => ?_)
              have hP : va_P D vwCl [(mo, .inr (4, [.int tw, .int sv, .int sm, .int nt, .ref qi, .ref qs, .ref qe, .ref qn, .ref qk])), (qn, .inl (cI, 42, .inl (upd w1 (6 + ((pf (sfF sm L) i).length)) (nI ((L.getD i tp0).2)))))] H := hP
              have hD : va_D A [(mo, .inr (4, [.int tw, .int sv, .int sm, .int nt, .ref qi, .ref qs, .ref qe, .ref qn, .ref qk])), (qn, .inl (cI, 42, .inl (upd w1 (6 + ((pf (sfF sm L) i).length)) (nI ((L.getD i tp0).2)))))] := hD
              refine lv_aload_n hx hb dX4_leaveOut_108 rfl (lv_at hl 1 rfl) ?_
              refine va_get (D := D) (ci := 4) (v := .ref qn) (C := RX4) (T := TX4) (N := 9) hx hb hts iX4 hown hK hP 0 rfl rfl 7 (by decide) f26 (fun _ h9 => h9) rfl dX4_leaveOut_109 ?_
              refine lv_bipush (v := nI 18) hx hb dX4_leaveOut_112 (by decide +kernel) ?_
              refine lv_iload_n hx hb dX4_leaveOut_114 rfl (lv_at hl 3 rfl) ?_
              refine k_iadd hx hb (nI (18 + ((pf (sfF sm L) i).length))) (nI_add _ _) dX4_leaveOut_115 ?_
              refine lv_aload_n hx hb dX4_leaveOut_116 rfl (lv_at hl 1 rfl) ?_
              refine va_get (D := D) (ci := 4) (v := .ref qn) (C := RX4) (T := TX4) (N := 9) hx hb hts iX4 hown hK hP 0 rfl rfl 7 (by decide) f26 (fun _ h9 => h9) rfl dX4_leaveOut_117 ?_
              refine lv_bipush (v := nI 18) hx hb dX4_leaveOut_120 (by decide +kernel) ?_
              refine lv_iload hx hb dX4_leaveOut_122 (lv_at hl 5 rfl) ?_
              refine k_iadd hx hb (nI (18 + i)) (nI_add _ _) dX4_leaveOut_124 ?_
              refine k_iald hx hb hK hP 1 0 rfl rfl (18 + i) (rfl) (by omega) (by decide) dX4_leaveOut_125 ?_
              refine k_top (v := (L.getD i tp0).1) ((pk_un (by omega)).trans ((hc.2.1 i (Nat.le_refl _) c_15).1.trans (hV.2 i c_15).1)) ?_
              refine k_iast hx hb hK hP hD hS 1 0 rfl rfl (18 + ((pf (sfF sm L) i).length)) (rfl) (by omega) (by decide) dX4_leaveOut_126 (fun H locs hP hD hS => ?_)
              have hP : va_P D vwCl [(mo, .inr (4, [.int tw, .int sv, .int sm, .int nt, .ref qi, .ref qs, .ref qe, .ref qn, .ref qk])), (qn, .inl (cI, 42, .inl (upd (upd w1 (6 + ((pf (sfF sm L) i).length)) (nI ((L.getD i tp0).2))) (18 + ((pf (sfF sm L) i).length)) ((L.getD i tp0).1))))] H := hP
              have hD : va_D A [(mo, .inr (4, [.int tw, .int sv, .int sm, .int nt, .ref qi, .ref qs, .ref qe, .ref qn, .ref qk])), (qn, .inl (cI, 42, .inl (upd (upd w1 (6 + ((pf (sfF sm L) i).length)) (nI ((L.getD i tp0).2))) (18 + ((pf (sfF sm L) i).length)) ((L.getD i tp0).1))))] := hD
              refine lv_iinc (v := nI (((pf (sfF sm L) i).length) + 1)) (lv' := [(2, .int (nI (((pf (sfF sm L) i).length) + 1))), (5, .int (nI 0)), (0, .ref mo), (1, .int (nI 1)), (3, .int (nI L.length)), (4, .int (nI i))]) hx hb dX4_leaveOut_127 hl (k := 3) rfl (nI_1 _) (by decide) rfl (fun ls hl => ?_)
              refine lv_iinc (v := nI (i + 1)) (lv' := [(4, .int (nI (i + 1))), (2, .int (nI (((pf (sfF sm L) i).length) + 1))), (5, .int (nI 0)), (0, .ref mo), (1, .int (nI 1)), (3, .int (nI L.length))]) hx hb dX4_leaveOut_130 hl (k := 5) rfl (nI_1 _) (by decide) rfl (fun ls hl => ?_)
              refine lv_goto (tgt := 12) hx hb dX4_leaveOut_133 (by decide) ?_
              have hF := sfF_some (me := sm) (L := L) (i := i) (fun h9 => c_32 h9.1)
              exact ih (i + 1) (upd (upd w1 (6 + ((pf (sfF sm L) i).length)) (nI ((L.getD i tp0).2))) (18 + ((pf (sfF sm L) i).length)) ((L.getD i tp0).1)) (by omega) (cmpM_keep h12 c_15 hc hF) (by omega) _ _ (hP.sub [0, 1] (rfl)) (hD.sub [0, 1] (by decide) (rfl)) hS _ (lv_sub hl [3, 4, 1, 5, 0] (by rw [pf_lenS hF]; rfl))
            · exact absurd c_83 (by omega)
          · skip
            refine lv_aload_n hx hb dX4_leaveOut_35 rfl (lv_at hl 0 rfl) ?_
            refine va_get (D := D) (ci := 4) (v := .ref qn) (C := RX4) (T := TX4) (N := 9) hx hb hts iX4 hown hK hP 0 rfl rfl 7 (by decide) f26 (fun _ h9 => h9) rfl dX4_leaveOut_36 ?_
            refine lv_bipush (v := nI 6) hx hb dX4_leaveOut_39 (by decide +kernel) ?_
            refine lv_iload hx hb dX4_leaveOut_41 (lv_at hl 4 rfl) ?_
            refine k_iadd hx hb (nI (6 + i)) (nI_add _ _) dX4_leaveOut_43 ?_
            refine k_iald hx hb hK hP 1 0 rfl rfl (6 + i) (rfl) (by omega) (by decide) dX4_leaveOut_44 ?_
            refine k_top (v := nI ((L.getD i tp0).2)) (((hc.2.1 i (Nat.le_refl _) c_15).2.trans (hV.2 i c_15).2)) ?_
            refine lv_aload_n hx hb dX4_leaveOut_45 rfl (lv_at hl 0 rfl) ?_
            refine va_get (D := D) (ci := 4) (v := .int sm) (C := RX4) (T := TX4) (N := 9) hx hb hts iX4 hown hK hP 0 rfl rfl 2 (by decide) f13 (fun _ h9 => h9) rfl dX4_leaveOut_46 ?_
            refine lv_icmp_ge (tgt := 56) hx hb dX4_leaveOut_49 (by decide) (fun c_49 => ?_) (fun c_49 => ?_)
            · skip
              refine lv_iconst (v := nI 0) hx hb dX4_leaveOut_56 (by decide +kernel) ?_
              refine lv_goto (tgt := 79) hx hb dX4_leaveOut_57 (by decide) ?_
              refine lv_istore (lv' := [(5, .int (nI 0)), (0, .ref mo), (1, .int (nI 1)), (2, .int (nI ((pf (sfF sm L) i).length))), (3, .int (nI L.length)), (4, .int (nI i))]) hx hb dX4_leaveOut_79 hl (by decide) rfl (fun ls hl => ?_)
              refine lv_iload hx hb dX4_leaveOut_81 (lv_at hl 0 rfl) ?_
              refine k_if_eq (tgt := 89) hx hb 0 rfl (by omega) dX4_leaveOut_83 (by decide) (fun c_83 => ?_) (fun c_83 => ?_)
              · skip
                refine lv_aload_n hx hb dX4_leaveOut_89 rfl (lv_at hl 1 rfl) ?_
                refine va_get (D := D) (ci := 4) (v := .ref qn) (C := RX4) (T := TX4) (N := 9) hx hb hts iX4 hown hK hP 0 rfl rfl 7 (by decide) f26 (fun _ h9 => h9) rfl dX4_leaveOut_90 ?_
                refine lv_bipush (v := nI 6) hx hb dX4_leaveOut_93 (by decide +kernel) ?_
                refine lv_iload_n hx hb dX4_leaveOut_95 rfl (lv_at hl 3 rfl) ?_
                refine k_iadd hx hb (nI (6 + ((pf (sfF sm L) i).length))) (nI_add _ _) dX4_leaveOut_96 ?_
                refine lv_aload_n hx hb dX4_leaveOut_97 rfl (lv_at hl 1 rfl) ?_
                refine va_get (D := D) (ci := 4) (v := .ref qn) (C := RX4) (T := TX4) (N := 9) hx hb hts iX4 hown hK hP 0 rfl rfl 7 (by decide) f26 (fun _ h9 => h9) rfl dX4_leaveOut_98 ?_
                refine lv_bipush (v := nI 6) hx hb dX4_leaveOut_101 (by decide +kernel) ?_
                refine lv_iload hx hb dX4_leaveOut_103 (lv_at hl 5 rfl) ?_
                refine k_iadd hx hb (nI (6 + i)) (nI_add _ _) dX4_leaveOut_105 ?_
                refine k_iald hx hb hK hP 1 0 rfl rfl (6 + i) (rfl) (by omega) (by decide) dX4_leaveOut_106 ?_
                refine k_top (v := nI ((L.getD i tp0).2)) (((hc.2.1 i (Nat.le_refl _) c_15).2.trans (hV.2 i c_15).2)) ?_
                refine k_iast hx hb hK hP hD hS 1 0 rfl rfl (6 + ((pf (sfF sm L) i).length)) (rfl) (by omega) (by decide) dX4_leaveOut_107 (fun H locs hP hD hS => ?_)
                have hP : va_P D vwCl [(mo, .inr (4, [.int tw, .int sv, .int sm, .int nt, .ref qi, .ref qs, .ref qe, .ref qn, .ref qk])), (qn, .inl (cI, 42, .inl (upd w1 (6 + ((pf (sfF sm L) i).length)) (nI ((L.getD i tp0).2)))))] H := hP
                have hD : va_D A [(mo, .inr (4, [.int tw, .int sv, .int sm, .int nt, .ref qi, .ref qs, .ref qe, .ref qn, .ref qk])), (qn, .inl (cI, 42, .inl (upd w1 (6 + ((pf (sfF sm L) i).length)) (nI ((L.getD i tp0).2)))))] := hD
                refine lv_aload_n hx hb dX4_leaveOut_108 rfl (lv_at hl 1 rfl) ?_
                refine va_get (D := D) (ci := 4) (v := .ref qn) (C := RX4) (T := TX4) (N := 9) hx hb hts iX4 hown hK hP 0 rfl rfl 7 (by decide) f26 (fun _ h9 => h9) rfl dX4_leaveOut_109 ?_
                refine lv_bipush (v := nI 18) hx hb dX4_leaveOut_112 (by decide +kernel) ?_
                refine lv_iload_n hx hb dX4_leaveOut_114 rfl (lv_at hl 3 rfl) ?_
                refine k_iadd hx hb (nI (18 + ((pf (sfF sm L) i).length))) (nI_add _ _) dX4_leaveOut_115 ?_
                refine lv_aload_n hx hb dX4_leaveOut_116 rfl (lv_at hl 1 rfl) ?_
                refine va_get (D := D) (ci := 4) (v := .ref qn) (C := RX4) (T := TX4) (N := 9) hx hb hts iX4 hown hK hP 0 rfl rfl 7 (by decide) f26 (fun _ h9 => h9) rfl dX4_leaveOut_117 ?_
                refine lv_bipush (v := nI 18) hx hb dX4_leaveOut_120 (by decide +kernel) ?_
                refine lv_iload hx hb dX4_leaveOut_122 (lv_at hl 5 rfl) ?_
                refine k_iadd hx hb (nI (18 + i)) (nI_add _ _) dX4_leaveOut_124 ?_
                refine k_iald hx hb hK hP 1 0 rfl rfl (18 + i) (rfl) (by omega) (by decide) dX4_leaveOut_125 ?_
                refine k_top (v := (L.getD i tp0).1) ((pk_un (by omega)).trans ((hc.2.1 i (Nat.le_refl _) c_15).1.trans (hV.2 i c_15).1)) ?_
                refine k_iast hx hb hK hP hD hS 1 0 rfl rfl (18 + ((pf (sfF sm L) i).length)) (rfl) (by omega) (by decide) dX4_leaveOut_126 (fun H locs hP hD hS => ?_)
                have hP : va_P D vwCl [(mo, .inr (4, [.int tw, .int sv, .int sm, .int nt, .ref qi, .ref qs, .ref qe, .ref qn, .ref qk])), (qn, .inl (cI, 42, .inl (upd (upd w1 (6 + ((pf (sfF sm L) i).length)) (nI ((L.getD i tp0).2))) (18 + ((pf (sfF sm L) i).length)) ((L.getD i tp0).1))))] H := hP
                have hD : va_D A [(mo, .inr (4, [.int tw, .int sv, .int sm, .int nt, .ref qi, .ref qs, .ref qe, .ref qn, .ref qk])), (qn, .inl (cI, 42, .inl (upd (upd w1 (6 + ((pf (sfF sm L) i).length)) (nI ((L.getD i tp0).2))) (18 + ((pf (sfF sm L) i).length)) ((L.getD i tp0).1))))] := hD
                refine lv_iinc (v := nI (((pf (sfF sm L) i).length) + 1)) (lv' := [(2, .int (nI (((pf (sfF sm L) i).length) + 1))), (5, .int (nI 0)), (0, .ref mo), (1, .int (nI 1)), (3, .int (nI L.length)), (4, .int (nI i))]) hx hb dX4_leaveOut_127 hl (k := 3) rfl (nI_1 _) (by decide) rfl (fun ls hl => ?_)
                refine lv_iinc (v := nI (i + 1)) (lv' := [(4, .int (nI (i + 1))), (2, .int (nI (((pf (sfF sm L) i).length) + 1))), (5, .int (nI 0)), (0, .ref mo), (1, .int (nI 1)), (3, .int (nI L.length))]) hx hb dX4_leaveOut_130 hl (k := 5) rfl (nI_1 _) (by decide) rfl (fun ls hl => ?_)
                refine lv_goto (tgt := 12) hx hb dX4_leaveOut_133 (by decide) ?_
                have hF := sfF_some (me := sm) (L := L) (i := i) (fun h9 => Int32.not_lt.mpr c_49 h9.2)
                exact ih (i + 1) (upd (upd w1 (6 + ((pf (sfF sm L) i).length)) (nI ((L.getD i tp0).2))) (18 + ((pf (sfF sm L) i).length)) ((L.getD i tp0).1)) (by omega) (cmpM_keep h12 c_15 hc hF) (by omega) _ _ (hP.sub [0, 1] (rfl)) (hD.sub [0, 1] (by decide) (rfl)) hS _ (lv_sub hl [3, 4, 1, 5, 0] (by rw [pf_lenS hF]; rfl))
              · exact absurd c_83 (by omega)
            · skip
              refine lv_iconst (v := nI 1) hx hb dX4_leaveOut_52 (by decide +kernel) ?_
              refine lv_goto (tgt := 79) hx hb dX4_leaveOut_53 (by decide) ?_
              refine lv_istore (lv' := [(5, .int (nI 1)), (0, .ref mo), (1, .int (nI 1)), (2, .int (nI ((pf (sfF sm L) i).length))), (3, .int (nI L.length)), (4, .int (nI i))]) hx hb dX4_leaveOut_79 hl (by decide) rfl (fun ls hl => ?_)
              refine lv_iload hx hb dX4_leaveOut_81 (lv_at hl 0 rfl) ?_
              refine k_if_eq (tgt := 89) hx hb 1 rfl (by omega) dX4_leaveOut_83 (by decide) (fun c_83 => ?_) (fun c_83 => ?_)
              · exact absurd c_83 (by omega)
              · skip
                refine lv_goto (tgt := 130) hx hb dX4_leaveOut_86 (by decide) ?_
                refine lv_iinc (v := nI (i + 1)) (lv' := [(4, .int (nI (i + 1))), (5, .int (nI 1)), (0, .ref mo), (1, .int (nI 1)), (2, .int (nI ((pf (sfF sm L) i).length))), (3, .int (nI L.length))]) hx hb dX4_leaveOut_130 hl (k := 5) rfl (nI_1 _) (by decide) rfl (fun ls hl => ?_)
                refine lv_goto (tgt := 12) hx hb dX4_leaveOut_133 (by decide) ?_
                have hF := sfF_none c_32 (Int32.not_le.mp c_49)
                exact ih (i + 1) w1 (by omega) (cmpM_skip hc hF) (by omega) _ _ (hP.sub [0, 1] (rfl)) (hD.sub [0, 1] (by decide) (rfl)) hS _ (lv_sub hl [2, 3, 4, 5, 0] (by rw [pf_lenN hF]; rfl))
  exact loop_1 (L.length + 1) 0 w (Nat.zero_le _) (cmpM_0 _ _ _) (by omega) _ _ (hP.sub [0, 1] (rfl)) (hD.sub [0, 1] (by decide) (rfl)) hS _ (lv_sub hl [3, 4, 2, 1, 0] (rfl))

abbrev rm_X4_isThere : Room := { frames := 0, cells := 0, slots := 0, locals := 0 }
set_option maxHeartbeats 4000000 in
set_option maxRecDepth 100000 in
theorem c_X4_isThere (l : Launch) (D : va_G) (cI : ClassId) (mo : Nat) (qi : Nat) (qs : Nat) (qe : Nat) (qn : Nat) (qk : Nat) (tw : Int32) (sv : Int32) (sm : Int32) (nt : Int32) (w : Nat → Int32) (j : Nat) (xx : Int32) (hxx : w (36 + j) = xx) (hj : j < 6) : kM kri l yX4_isThere wsX4_isThere rm_X4_isThere D [(cI, .int)] [.ref mo, .int (nI j)] [(mo, .inr (4, [.int tw, .int sv, .int sm, .int nt, .ref qi, .ref qs, .ref qe, .ref qn, .ref qk])), (qn, .inl (cI, 42, .inl w))] (fun (r : Int32) (u : Unit) => r = (if xx = -1 then 1 else 0)) (fun (u : Unit) => [(mo, .inr (4, [.int tw, .int sv, .int sm, .int nt, .ref qi, .ref qs, .ref qe, .ref qn, .ref qk])), (qn, .inl (cI, 42, .inl w))]) := by
  refine k_bodyZ (cc := cX4_isThere) (maxL := 2) (by decide) rfl (Nat.le_of_ble_eq_true rfl) ?_
  intro p e ss m args below meth c A Q F hname hA hG hK hP hD hS ret ls hl
  obtain ⟨hx, hb, hml, hown, hts⟩ := id F
  have hP : va_P D vwCl [(mo, .inr (4, [.int tw, .int sv, .int sm, .int nt, .ref qi, .ref qs, .ref qe, .ref qn, .ref qk])), (qn, .inl (cI, 42, .inl w))] ss.heap := hP
  have hD : va_D A [(mo, .inr (4, [.int tw, .int sv, .int sm, .int nt, .ref qi, .ref qs, .ref qe, .ref qn, .ref qk])), (qn, .inl (cI, 42, .inl w))] := hD
  have hl : lv_has ls 2 [(0, .ref mo), (1, .int (nI j))] := hl
  have iX4 : ∀ w ∈ u_ws RX4 TX4 9, w ∈ wsX4_isThere := by decide +kernel
  have f26 := hts (.fieldLink RX4 26 "SmallerTalkModel" "now" "[I") (by decide +kernel)
  refine lv_aload_n hx hb dX4_isThere_0 rfl (lv_at hl 0 rfl) ?_
  refine va_get (D := D) (ci := 4) (v := .ref qn) (C := RX4) (T := TX4) (N := 9) hx hb hts iX4 hown hK hP 0 rfl rfl 7 (by decide) f26 (fun _ h9 => h9) rfl dX4_isThere_1 ?_
  refine lv_bipush (v := nI 36) hx hb dX4_isThere_4 (by decide +kernel) ?_
  refine lv_iload_n hx hb dX4_isThere_6 rfl (lv_at hl 1 rfl) ?_
  refine k_iadd hx hb (nI (36 + j)) (nI_add _ _) dX4_isThere_7 ?_
  refine k_iald hx hb hK hP 1 0 rfl rfl (36 + j) (rfl) (by omega) (by decide) dX4_isThere_8 ?_
  refine k_top (v := xx) (hxx) ?_
  refine lv_iconst (v := -1) hx hb dX4_isThere_9 (by decide +kernel) ?_
  refine lv_icmp_ne (tgt := 17) hx hb dX4_isThere_10 (by decide) (fun c_10 => ?_) (fun c_10 => ?_)
  · skip
    refine lv_iconst (v := nI 0) hx hb dX4_isThere_17 (by decide +kernel) ?_
    exact ret (nI 0) () _ _ _ _ _ _ rfl (by rw [if_neg c_10]; rfl) (hP.sub [0, 1] (rfl)) (hD.sub [0, 1] (by decide) (rfl)) hS (Nat.le_of_ble_eq_true rfl) (Nat.le_of_ble_eq_true rfl) dX4_isThere_18
  · skip
    refine lv_iconst (v := nI 1) hx hb dX4_isThere_13 (by decide +kernel) ?_
    refine lv_goto (tgt := 18) hx hb dX4_isThere_14 (by decide) ?_
    exact ret (nI 1) () _ _ _ _ _ _ rfl (by rw [if_pos c_10]; rfl) (hP.sub [0, 1] (rfl)) (hD.sub [0, 1] (by decide) (rfl)) hS (Nat.le_of_ble_eq_true rfl) (Nat.le_of_ble_eq_true rfl) dX4_isThere_18

abbrev rm_X4_talk : Room := { frames := 1, cells := 0, slots := 0, locals := 22 }
set_option maxHeartbeats 4000000 in
set_option maxRecDepth 100000 in
theorem c_X4_talk (l : Launch) (D : va_G) (cI : ClassId) (mo : Nat) (qi : Nat) (qs : Nat) (qe : Nat) (qn : Nat) (qk : Nat) (tw : Int32) (sv : Int32) (sm : Int32) (gi : Nat → Int32) (gs : Nat → Int32) (ge : Nat → Int32) (w : Nat → Int32) (L : List Tp) (T : List Tk) (mi : Nat) (h1 : w 1 = nI L.length) (hV : rV w L) (hT : rT gi gs ge w T) (hO : okT T) (hz : ns L ≤ 1188) (h0 : w 0 = nI mi) : kM kri l yX4_talk wsX4_talk rm_X4_talk D [(cI, .int)] [.ref mo] [(mo, .inr (4, [.int tw, .int sv, .int sm, .int (nI T.length), .ref qi, .ref qs, .ref qe, .ref qn, .ref qk])), (qn, .inl (cI, 42, .inl w))] (fun (r : Int32) (u : (Nat → Int32)) => r = nI (cnN (isG (ns L) T) T.length) ∧ (∀ j, j < 30 → u j = w j) ∧ rT gi gs ge u (hrT (ns L) mi T)) (fun (u : (Nat → Int32)) => [(mo, .inr (4, [.int tw, .int sv, .int sm, .int (nI T.length), .ref qi, .ref qs, .ref qe, .ref qn, .ref qk])), (qn, .inl (cI, 42, .inl u))]) := by
  refine k_bodyI (cc := cX4_talk) (maxL := 4) (by decide) rfl (Nat.le_of_ble_eq_true rfl) ?_
  intro p e ss m args below meth c A Q F hname hA hG hK hP hD hS ret ls hl
  obtain ⟨hx, hb, hml, hown, hts⟩ := id F
  have hP : va_P D vwCl [(mo, .inr (4, [.int tw, .int sv, .int sm, .int (nI T.length), .ref qi, .ref qs, .ref qe, .ref qn, .ref qk])), (qn, .inl (cI, 42, .inl w))] ss.heap := hP
  have hD : va_D A [(mo, .inr (4, [.int tw, .int sv, .int sm, .int (nI T.length), .ref qi, .ref qs, .ref qe, .ref qn, .ref qk])), (qn, .inl (cI, 42, .inl w))] := hD
  have hl : lv_has ls 4 [(0, .ref mo)] := hl
  have iX4 : ∀ w ∈ u_ws RX4 TX4 9, w ∈ wsX4_talk := by decide +kernel
  have f26 := hts (.fieldLink RX4 26 "SmallerTalkModel" "now" "[I") (by decide +kernel)
  have f39 := hts (.fieldLink RX4 39 "SmallerTalkModel" "talkers" "I") (by decide +kernel)
  have h6 := hT.1
  refine lv_aload_n hx hb dX4_talk_0 rfl (lv_at hl 0 rfl) ?_
  refine k_callV (As := []) (rest := []) (wr := []) F (c_X4_noiseNow l D cI mo qi qs qe qn qk tw sv sm (nI T.length) w L h1 hV) gX4_talk_X4_noiseNow rfl (nA := 0) (by decide +kernel) rfl ⟨Nat.le_of_ble_eq_true rfl, Nat.le_of_ble_eq_true rfl⟩ hK hP hD hS hA hG (ci := 4) (q0 := 0) rfl rfl rfl [0, 1] [] rfl (by decide) rfl (by decide) (by decide) [0] rfl rfl hl.1 (Nat.le_of_ble_eq_true rfl) dX4_talk_1 ⟨Nat.le_of_ble_eq_true rfl, Nat.le_of_ble_eq_true rfl⟩ (fun r_1 u H locs hr_1 hP hD hS => ?_)
  try dsimp only at hr_1
  have hP : va_P D vwCl [(mo, .inr (4, [.int tw, .int sv, .int sm, .int (nI T.length), .ref qi, .ref qs, .ref qe, .ref qn, .ref qk])), (qn, .inl (cI, 42, .inl w))] H := hP
  have hD : va_D A [(mo, .inr (4, [.int tw, .int sv, .int sm, .int (nI T.length), .ref qi, .ref qs, .ref qe, .ref qn, .ref qk])), (qn, .inl (cI, 42, .inl w))] := hD
  refine W.eq (g2 := F0 m 4 ls [.int r_1]) rfl ?_
  refine W.widen (k := 0) (n := 0) (Nat.le_of_ble_eq_true rfl) (Nat.le_of_ble_eq_true rfl) ?_
  refine k_top (v := nI (ns L)) (hr_1) ?_
  refine lv_istore_n (lv' := [(1, .int (nI (ns L))), (0, .ref mo)]) hx hb dX4_talk_4 rfl hl (by decide) rfl (fun ls hl => ?_)
  refine lv_iconst (v := nI 0) hx hb dX4_talk_5 (by decide +kernel) ?_
  refine lv_istore_n (lv' := [(2, .int (nI 0)), (1, .int (nI (ns L))), (0, .ref mo)]) hx hb dX4_talk_6 rfl hl (by decide) rfl (fun ls hl => ?_)
  refine lv_iconst (v := nI 0) hx hb dX4_talk_7 (by decide +kernel) ?_
  refine lv_istore_n (lv' := [(3, .int (nI 0)), (2, .int (nI 0)), (1, .int (nI (ns L))), (0, .ref mo)]) hx hb dX4_talk_8 rfl hl (by decide) rfl (fun ls hl => ?_)
  have loop_2 : ∀ (n : Nat) (i : Nat) (w1 : Nat → Int32), (i ≤ T.length) → (hriM (ns L) mi T w w1 i) → T.length - i < n → ∀ (H : Heap) (locs : List Loc), va_P D vwCl [(mo, .inr (4, [.int tw, .int sv, .int sm, .int (nI T.length), .ref qi, .ref qs, .ref qe, .ref qn, .ref qk])), (qn, .inl (cI, 42, .inl w1))] H → va_D A [(mo, .inr (4, [.int tw, .int sv, .int sm, .int (nI T.length), .ref qi, .ref qs, .ref qe, .ref qn, .ref qk])), (qn, .inl (cI, 42, .inl w1))] → va_S A ss.heap H locs → ∀ ls : Array Slot, lv_has ls 4 [(0, .ref mo), (1, .int (nI (ns L))), (2, .int (nI (cnN (isG (ns L) T) i))), (3, .int (nI i))] → W p l e rm_X4_talk ss m args below meth c H locs 0 0 Q (F0 m 9 ls []) := by
    intro n
    induction n with
    | zero => intro i w1 hi hh hn; exact absurd hn (by omega)
    | succ n ih =>
      intro i w1 hi hh hn H locs hP hD hS ls hl
      have hcn := cnN_le (isG (ns L) T) i
      refine lv_iload_n hx hb dX4_talk_9 rfl (lv_at hl 3 rfl) ?_
      refine lv_aload_n hx hb dX4_talk_10 rfl (lv_at hl 0 rfl) ?_
      refine va_get (D := D) (ci := 4) (v := .int (nI T.length)) (C := RX4) (T := TX4) (N := 9) hx hb hts iX4 hown hK hP 0 rfl rfl 3 (by decide) f39 (fun _ h9 => h9) rfl dX4_talk_11 ?_
      refine k_cmp_ge (tgt := 119) hx hb i T.length rfl rfl (by omega) (by omega) dX4_talk_14 (by decide) (fun c_14 => ?_) (fun c_14 => ?_)
      · skip
        obtain rfl : i = T.length := by omega
        refine lv_iload_n hx hb dX4_talk_119 rfl (lv_at hl 2 rfl) ?_
        exact ret (nI (cnN (isG (ns L) T) T.length)) w1 _ _ _ _ _ _ (⟨rfl, hh.2.2, rT_hr hT hh⟩) (hP.sub [0, 1] (rfl)) (hD.sub [0, 1] (by decide) (rfl)) hS (Nat.le_of_ble_eq_true rfl) (Nat.le_of_ble_eq_true rfl) dX4_talk_120
      · skip
        refine lv_aload_n hx hb dX4_talk_17 rfl (lv_at hl 0 rfl) ?_
        refine lv_iload_n hx hb dX4_talk_18 rfl (lv_at hl 3 rfl) ?_
        refine k_callV (As := [.int (nI i)]) (rest := []) (wr := []) F (c_X4_isThere l D cI mo qi qs qe qn qk tw sv sm (nI T.length) w1 i (tkX (T.getD i tk0)) ((hh.2.1 i (Nat.le_refl _) c_14).2.trans (hT.2 i c_14).2.2.2.2) (by omega)) gX4_talk_X4_isThere rfl (nA := 1) (by decide +kernel) rfl ⟨Nat.le_of_ble_eq_true rfl, Nat.le_of_ble_eq_true rfl⟩ hK hP hD hS hA hG (ci := 4) (q0 := 0) rfl rfl rfl [0, 1] [] rfl (by decide) rfl (by decide) (by decide) [0] rfl rfl hl.1 (Nat.le_of_ble_eq_true rfl) dX4_talk_19 ⟨Nat.le_of_ble_eq_true rfl, Nat.le_of_ble_eq_true rfl⟩ (fun r_3 u H locs hr_19 hP hD hS => ?_)
        try dsimp only at hr_19
        have hP : va_P D vwCl [(mo, .inr (4, [.int tw, .int sv, .int sm, .int (nI T.length), .ref qi, .ref qs, .ref qe, .ref qn, .ref qk])), (qn, .inl (cI, 42, .inl w1))] H := hP
        have hD : va_D A [(mo, .inr (4, [.int tw, .int sv, .int sm, .int (nI T.length), .ref qi, .ref qs, .ref qe, .ref qn, .ref qk])), (qn, .inl (cI, 42, .inl w1))] := hD
        refine W.eq (g2 := F0 m 22 ls [.int r_3]) rfl ?_
        refine W.widen (k := 0) (n := 0) (Nat.le_of_ble_eq_true rfl) (Nat.le_of_ble_eq_true rfl) ?_
        refine lv_if_ne (tgt := 28) hx hb dX4_talk_22 (by decide) (fun c_22 => ?_) (fun c_22 => ?_)
        · skip
          have hX9 := bI_ne0 hr_19 c_22
          refine lv_aload_n hx hb dX4_talk_28 rfl (lv_at hl 0 rfl) ?_
          refine va_get (D := D) (ci := 4) (v := .ref qn) (C := RX4) (T := TX4) (N := 9) hx hb hts iX4 hown hK hP 0 rfl rfl 7 (by decide) f26 (fun _ h9 => h9) rfl dX4_talk_29 ?_
          refine lv_bipush (v := nI 30) hx hb dX4_talk_32 (by decide +kernel) ?_
          refine lv_iload_n hx hb dX4_talk_34 rfl (lv_at hl 3 rfl) ?_
          refine k_iadd hx hb (nI (30 + i)) (nI_add _ _) dX4_talk_35 ?_
          refine lv_iload_n hx hb dX4_talk_36 rfl (lv_at hl 1 rfl) ?_
          refine k_if_le (tgt := 63) hx hb (ns L) rfl (by omega) dX4_talk_37 (by decide) (fun c_37 => ?_) (fun c_37 => ?_)
          · skip
            refine lv_bipush (v := nI 30) hx hb dX4_talk_63 (by decide +kernel) ?_
            refine lv_aload_n hx hb dX4_talk_65 rfl (lv_at hl 0 rfl) ?_
            refine va_get (D := D) (ci := 4) (v := .ref qn) (C := RX4) (T := TX4) (N := 9) hx hb hts iX4 hown hK hP 0 rfl rfl 7 (by decide) f26 (fun _ h9 => h9) rfl dX4_talk_66 ?_
            refine lv_bipush (v := nI 30) hx hb dX4_talk_69 (by decide +kernel) ?_
            refine lv_iload_n hx hb dX4_talk_71 rfl (lv_at hl 3 rfl) ?_
            refine k_iadd hx hb (nI (30 + i)) (nI_add _ _) dX4_talk_72 ?_
            refine k_iald hx hb hK hP 1 0 rfl rfl (30 + i) (rfl) (by omega) (by decide) dX4_talk_73 ?_
            refine k_top (v := nI (tkP (T.getD i tk0))) (((hh.2.1 i (Nat.le_refl _) c_14).1.trans (hT.2 i c_14).2.2.2.1)) ?_
            refine lv_iconst (v := nI 1) hx hb dX4_talk_74 (by decide +kernel) ?_
            refine k_iadd hx hb (nI ((tkP (T.getD i tk0)) + 1)) (nI_add _ _) dX4_talk_75 ?_
            refine va_mmin hx hb (hml.trans hl.1.symm) hown (hts (.methodLink RX4 62 Lib.Math.min.name) (by decide +kernel)) (hts (.static Lib.Math.min.name) (by decide +kernel)) (hts (.initialized "java/lang/Math") (by decide +kernel)) (hts (.code Lib.Math.min.name Lib.Math.min.code 2 (some .int)) (by decide +kernel)) (Nat.le_of_ble_eq_true rfl) (Nat.le_of_ble_eq_true rfl) (Nat.le_of_ble_eq_true rfl) (Nat.le_of_ble_eq_true rfl) dX4_talk_76 ?_
            refine k_top (v := nI (hrP (ns L) (tkP (T.getD i tk0)))) (tk_eq2 c_37 (hO i c_14).2.2.2) ?_
            refine k_iast hx hb hK hP hD hS 1 0 rfl rfl (30 + i) (rfl) (by omega) (by decide) dX4_talk_79 (fun H locs hP hD hS => ?_)
            have hP : va_P D vwCl [(mo, .inr (4, [.int tw, .int sv, .int sm, .int (nI T.length), .ref qi, .ref qs, .ref qe, .ref qn, .ref qk])), (qn, .inl (cI, 42, .inl (upd w1 (30 + i) (nI (hrP (ns L) (tkP (T.getD i tk0)))))))] H := hP
            have hD : va_D A [(mo, .inr (4, [.int tw, .int sv, .int sm, .int (nI T.length), .ref qi, .ref qs, .ref qe, .ref qn, .ref qk])), (qn, .inl (cI, 42, .inl (upd w1 (30 + i) (nI (hrP (ns L) (tkP (T.getD i tk0)))))))] := hD
            refine lv_aload_n hx hb dX4_talk_80 rfl (lv_at hl 0 rfl) ?_
            refine va_get (D := D) (ci := 4) (v := .ref qn) (C := RX4) (T := TX4) (N := 9) hx hb hts iX4 hown hK hP 0 rfl rfl 7 (by decide) f26 (fun _ h9 => h9) rfl dX4_talk_81 ?_
            refine lv_bipush (v := nI 30) hx hb dX4_talk_84 (by decide +kernel) ?_
            refine lv_iload_n hx hb dX4_talk_86 rfl (lv_at hl 3 rfl) ?_
            refine k_iadd hx hb (nI (30 + i)) (nI_add _ _) dX4_talk_87 ?_
            refine k_iald hx hb hK hP 1 0 rfl rfl (30 + i) (rfl) (by omega) (by decide) dX4_talk_88 ?_
            refine k_top (v := nI (hrP (ns L) (tkP (T.getD i tk0)))) (pk_us) ?_
            refine k_if_le (tgt := 95) hx hb (hrP (ns L) (tkP (T.getD i tk0))) rfl (by have := hrP_le (ns L) (hO i c_14).2.2.2; omega) dX4_talk_89 (by decide) (fun c_89 => ?_) (fun c_89 => ?_)
            · skip
              refine lv_aload_n hx hb dX4_talk_95 rfl (lv_at hl 0 rfl) ?_
              refine va_get (D := D) (ci := 4) (v := .ref qn) (C := RX4) (T := TX4) (N := 9) hx hb hts iX4 hown hK hP 0 rfl rfl 7 (by decide) f26 (fun _ h9 => h9) rfl dX4_talk_96 ?_
              refine lv_bipush (v := nI 36) hx hb dX4_talk_99 (by decide +kernel) ?_
              refine lv_iload_n hx hb dX4_talk_101 rfl (lv_at hl 3 rfl) ?_
              refine k_iadd hx hb (nI (36 + i)) (nI_add _ _) dX4_talk_102 ?_
              refine lv_aload_n hx hb dX4_talk_103 rfl (lv_at hl 0 rfl) ?_
              refine va_get (D := D) (ci := 4) (v := .ref qn) (C := RX4) (T := TX4) (N := 9) hx hb hts iX4 hown hK hP 0 rfl rfl 7 (by decide) f26 (fun _ h9 => h9) rfl dX4_talk_104 ?_
              refine lv_iconst (v := nI 0) hx hb dX4_talk_107 (by decide +kernel) ?_
              refine k_iald hx hb hK hP 1 0 rfl rfl 0 (rfl) (by omega) (by decide) dX4_talk_108 ?_
              refine k_top (v := nI mi) ((pk_un (by omega)).trans ((hh.2.2 0 (by omega)).trans h0)) ?_
              refine k_iast hx hb hK hP hD hS 1 0 rfl rfl (36 + i) (rfl) (by omega) (by decide) dX4_talk_109 (fun H locs hP hD hS => ?_)
              have hP : va_P D vwCl [(mo, .inr (4, [.int tw, .int sv, .int sm, .int (nI T.length), .ref qi, .ref qs, .ref qe, .ref qn, .ref qk])), (qn, .inl (cI, 42, .inl (upd (upd w1 (30 + i) (nI (hrP (ns L) (tkP (T.getD i tk0))))) (36 + i) (nI mi))))] H := hP
              have hD : va_D A [(mo, .inr (4, [.int tw, .int sv, .int sm, .int (nI T.length), .ref qi, .ref qs, .ref qe, .ref qn, .ref qk])), (qn, .inl (cI, 42, .inl (upd (upd w1 (30 + i) (nI (hrP (ns L) (tkP (T.getD i tk0))))) (36 + i) (nI mi))))] := hD
              refine lv_iinc (v := nI ((cnN (isG (ns L) T) i) + 1)) (lv' := [(2, .int (nI ((cnN (isG (ns L) T) i) + 1))), (0, .ref mo), (1, .int (nI (ns L))), (3, .int (nI i))]) hx hb dX4_talk_110 hl (k := 2) rfl (nI_1 _) (by decide) rfl (fun ls hl => ?_)
              refine lv_iinc (v := nI (i + 1)) (lv' := [(3, .int (nI (i + 1))), (2, .int (nI ((cnN (isG (ns L) T) i) + 1))), (0, .ref mo), (1, .int (nI (ns L)))]) hx hb dX4_talk_113 hl (k := 3) rfl (nI_1 _) (by decide) rfl (fun ls hl => ?_)
              refine lv_goto (tgt := 9) hx hb dX4_talk_116 (by decide) ?_
              exact ih (i + 1) (upd (upd w1 (30 + i) (nI (hrP (ns L) (tkP (T.getD i tk0))))) (36 + i) (nI mi)) (by omega) (hriM_gone hh hT c_14 hX9 c_89) (by omega) _ _ (hP.sub [0, 1] (rfl)) (hD.sub [0, 1] (by decide) (rfl)) hS _ (lv_sub hl [2, 3, 1, 0] (by rw [cn_t (decide_eq_true ⟨hX9, c_89⟩)]; rfl))
            · skip
              refine lv_goto (tgt := 113) hx hb dX4_talk_92 (by decide) ?_
              refine lv_iinc (v := nI (i + 1)) (lv' := [(3, .int (nI (i + 1))), (0, .ref mo), (1, .int (nI (ns L))), (2, .int (nI (cnN (isG (ns L) T) i)))]) hx hb dX4_talk_113 hl (k := 3) rfl (nI_1 _) (by decide) rfl (fun ls hl => ?_)
              refine lv_goto (tgt := 9) hx hb dX4_talk_116 (by decide) ?_
              exact ih (i + 1) (upd w1 (30 + i) (nI (hrP (ns L) (tkP (T.getD i tk0))))) (by omega) (hriM_keep hh hT c_14 hX9 c_89) (by omega) _ _ (hP.sub [0, 1] (rfl)) (hD.sub [0, 1] (by decide) (rfl)) hS _ (lv_sub hl [1, 2, 3, 0] (by rw [cn_f (decide_eq_false (fun h9 => by have := h9.2; omega))]; rfl))
          · skip
            refine lv_iconst (v := nI 0) hx hb dX4_talk_40 (by decide +kernel) ?_
            refine lv_aload_n hx hb dX4_talk_41 rfl (lv_at hl 0 rfl) ?_
            refine va_get (D := D) (ci := 4) (v := .ref qn) (C := RX4) (T := TX4) (N := 9) hx hb hts iX4 hown hK hP 0 rfl rfl 7 (by decide) f26 (fun _ h9 => h9) rfl dX4_talk_42 ?_
            refine lv_bipush (v := nI 30) hx hb dX4_talk_45 (by decide +kernel) ?_
            refine lv_iload_n hx hb dX4_talk_47 rfl (lv_at hl 3 rfl) ?_
            refine k_iadd hx hb (nI (30 + i)) (nI_add _ _) dX4_talk_48 ?_
            refine k_iald hx hb hK hP 1 0 rfl rfl (30 + i) (rfl) (by omega) (by decide) dX4_talk_49 ?_
            refine k_top (v := nI (tkP (T.getD i tk0))) (((hh.2.1 i (Nat.le_refl _) c_14).1.trans (hT.2 i c_14).2.2.2.1)) ?_
            refine lv_iload_n hx hb dX4_talk_50 rfl (lv_at hl 1 rfl) ?_
            refine lv_bipush (v := nI 20) hx hb dX4_talk_51 (by decide +kernel) ?_
            refine k_idiv hx hb (nI ((ns L) / 20)) (by decide +kernel) (pk_div (by omega) (by omega) (by omega)) dX4_talk_53 ?_
            refine k_isub hx hb ((nI (tkP (T.getD i tk0))) - (nI ((ns L) / 20))) (rfl) dX4_talk_54 ?_
            refine lv_iconst (v := nI 1) hx hb dX4_talk_55 (by decide +kernel) ?_
            refine k_isub hx hb (((nI (tkP (T.getD i tk0))) - (nI ((ns L) / 20))) - (nI 1)) (rfl) dX4_talk_56 ?_
            refine va_mmax hx hb (hml.trans hl.1.symm) hown (hts (.methodLink RX4 56 Lib.Math.max.name) (by decide +kernel)) (hts (.static Lib.Math.max.name) (by decide +kernel)) (hts (.initialized "java/lang/Math") (by decide +kernel)) (hts (.code Lib.Math.max.name Lib.Math.max.code 2 (some .int)) (by decide +kernel)) (Nat.le_of_ble_eq_true rfl) (Nat.le_of_ble_eq_true rfl) (Nat.le_of_ble_eq_true rfl) (Nat.le_of_ble_eq_true rfl) dX4_talk_57 ?_
            refine k_top (v := nI (hrP (ns L) (tkP (T.getD i tk0)))) (tk_eq1 c_37 hz (hO i c_14).2.2.2) ?_
            refine lv_goto (tgt := 79) hx hb dX4_talk_60 (by decide) ?_
            refine k_iast hx hb hK hP hD hS 1 0 rfl rfl (30 + i) (rfl) (by omega) (by decide) dX4_talk_79 (fun H locs hP hD hS => ?_)
            have hP : va_P D vwCl [(mo, .inr (4, [.int tw, .int sv, .int sm, .int (nI T.length), .ref qi, .ref qs, .ref qe, .ref qn, .ref qk])), (qn, .inl (cI, 42, .inl (upd w1 (30 + i) (nI (hrP (ns L) (tkP (T.getD i tk0)))))))] H := hP
            have hD : va_D A [(mo, .inr (4, [.int tw, .int sv, .int sm, .int (nI T.length), .ref qi, .ref qs, .ref qe, .ref qn, .ref qk])), (qn, .inl (cI, 42, .inl (upd w1 (30 + i) (nI (hrP (ns L) (tkP (T.getD i tk0)))))))] := hD
            refine lv_aload_n hx hb dX4_talk_80 rfl (lv_at hl 0 rfl) ?_
            refine va_get (D := D) (ci := 4) (v := .ref qn) (C := RX4) (T := TX4) (N := 9) hx hb hts iX4 hown hK hP 0 rfl rfl 7 (by decide) f26 (fun _ h9 => h9) rfl dX4_talk_81 ?_
            refine lv_bipush (v := nI 30) hx hb dX4_talk_84 (by decide +kernel) ?_
            refine lv_iload_n hx hb dX4_talk_86 rfl (lv_at hl 3 rfl) ?_
            refine k_iadd hx hb (nI (30 + i)) (nI_add _ _) dX4_talk_87 ?_
            refine k_iald hx hb hK hP 1 0 rfl rfl (30 + i) (rfl) (by omega) (by decide) dX4_talk_88 ?_
            refine k_top (v := nI (hrP (ns L) (tkP (T.getD i tk0)))) (pk_us) ?_
            refine k_if_le (tgt := 95) hx hb (hrP (ns L) (tkP (T.getD i tk0))) rfl (by have := hrP_le (ns L) (hO i c_14).2.2.2; omega) dX4_talk_89 (by decide) (fun c_89 => ?_) (fun c_89 => ?_)
            · skip
              refine lv_aload_n hx hb dX4_talk_95 rfl (lv_at hl 0 rfl) ?_
              refine va_get (D := D) (ci := 4) (v := .ref qn) (C := RX4) (T := TX4) (N := 9) hx hb hts iX4 hown hK hP 0 rfl rfl 7 (by decide) f26 (fun _ h9 => h9) rfl dX4_talk_96 ?_
              refine lv_bipush (v := nI 36) hx hb dX4_talk_99 (by decide +kernel) ?_
              refine lv_iload_n hx hb dX4_talk_101 rfl (lv_at hl 3 rfl) ?_
              refine k_iadd hx hb (nI (36 + i)) (nI_add _ _) dX4_talk_102 ?_
              refine lv_aload_n hx hb dX4_talk_103 rfl (lv_at hl 0 rfl) ?_
              refine va_get (D := D) (ci := 4) (v := .ref qn) (C := RX4) (T := TX4) (N := 9) hx hb hts iX4 hown hK hP 0 rfl rfl 7 (by decide) f26 (fun _ h9 => h9) rfl dX4_talk_104 ?_
              refine lv_iconst (v := nI 0) hx hb dX4_talk_107 (by decide +kernel) ?_
              refine k_iald hx hb hK hP 1 0 rfl rfl 0 (rfl) (by omega) (by decide) dX4_talk_108 ?_
              refine k_top (v := nI mi) ((pk_un (by omega)).trans ((hh.2.2 0 (by omega)).trans h0)) ?_
              refine k_iast hx hb hK hP hD hS 1 0 rfl rfl (36 + i) (rfl) (by omega) (by decide) dX4_talk_109 (fun H locs hP hD hS => ?_)
              have hP : va_P D vwCl [(mo, .inr (4, [.int tw, .int sv, .int sm, .int (nI T.length), .ref qi, .ref qs, .ref qe, .ref qn, .ref qk])), (qn, .inl (cI, 42, .inl (upd (upd w1 (30 + i) (nI (hrP (ns L) (tkP (T.getD i tk0))))) (36 + i) (nI mi))))] H := hP
              have hD : va_D A [(mo, .inr (4, [.int tw, .int sv, .int sm, .int (nI T.length), .ref qi, .ref qs, .ref qe, .ref qn, .ref qk])), (qn, .inl (cI, 42, .inl (upd (upd w1 (30 + i) (nI (hrP (ns L) (tkP (T.getD i tk0))))) (36 + i) (nI mi))))] := hD
              refine lv_iinc (v := nI ((cnN (isG (ns L) T) i) + 1)) (lv' := [(2, .int (nI ((cnN (isG (ns L) T) i) + 1))), (0, .ref mo), (1, .int (nI (ns L))), (3, .int (nI i))]) hx hb dX4_talk_110 hl (k := 2) rfl (nI_1 _) (by decide) rfl (fun ls hl => ?_)
              refine lv_iinc (v := nI (i + 1)) (lv' := [(3, .int (nI (i + 1))), (2, .int (nI ((cnN (isG (ns L) T) i) + 1))), (0, .ref mo), (1, .int (nI (ns L)))]) hx hb dX4_talk_113 hl (k := 3) rfl (nI_1 _) (by decide) rfl (fun ls hl => ?_)
              refine lv_goto (tgt := 9) hx hb dX4_talk_116 (by decide) ?_
              exact ih (i + 1) (upd (upd w1 (30 + i) (nI (hrP (ns L) (tkP (T.getD i tk0))))) (36 + i) (nI mi)) (by omega) (hriM_gone hh hT c_14 hX9 c_89) (by omega) _ _ (hP.sub [0, 1] (rfl)) (hD.sub [0, 1] (by decide) (rfl)) hS _ (lv_sub hl [2, 3, 1, 0] (by rw [cn_t (decide_eq_true ⟨hX9, c_89⟩)]; rfl))
            · skip
              refine lv_goto (tgt := 113) hx hb dX4_talk_92 (by decide) ?_
              refine lv_iinc (v := nI (i + 1)) (lv' := [(3, .int (nI (i + 1))), (0, .ref mo), (1, .int (nI (ns L))), (2, .int (nI (cnN (isG (ns L) T) i)))]) hx hb dX4_talk_113 hl (k := 3) rfl (nI_1 _) (by decide) rfl (fun ls hl => ?_)
              refine lv_goto (tgt := 9) hx hb dX4_talk_116 (by decide) ?_
              exact ih (i + 1) (upd w1 (30 + i) (nI (hrP (ns L) (tkP (T.getD i tk0))))) (by omega) (hriM_keep hh hT c_14 hX9 c_89) (by omega) _ _ (hP.sub [0, 1] (rfl)) (hD.sub [0, 1] (by decide) (rfl)) hS _ (lv_sub hl [1, 2, 3, 0] (by rw [cn_f (decide_eq_false (fun h9 => by have := h9.2; omega))]; rfl))
        · skip
          have hX9 := bI_eq0 hr_19 c_22
          refine lv_goto (tgt := 113) hx hb dX4_talk_25 (by decide) ?_
          refine lv_iinc (v := nI (i + 1)) (lv' := [(3, .int (nI (i + 1))), (0, .ref mo), (1, .int (nI (ns L))), (2, .int (nI (cnN (isG (ns L) T) i)))]) hx hb dX4_talk_113 hl (k := 3) rfl (nI_1 _) (by decide) rfl (fun ls hl => ?_)
          refine lv_goto (tgt := 9) hx hb dX4_talk_116 (by decide) ?_
          exact ih (i + 1) w1 (by omega) (hriM_skip hh hT c_14 hX9) (by omega) _ _ (hP.sub [0, 1] (rfl)) (hD.sub [0, 1] (by decide) (rfl)) hS _ (lv_sub hl [1, 2, 3, 0] (by rw [cn_f (decide_eq_false (fun h9 => hX9 h9.1))]; rfl))
  exact loop_2 (T.length + 1) 0 w (Nat.zero_le _) (hriM_0 _ _ _ _) (by omega) _ _ (hP.sub [0, 1] (rfl)) (hD.sub [0, 1] (by decide) (rfl)) hS _ (lv_sub hl [3, 2, 1, 0] (rfl))

abbrev rm_X4_pass : Room := { frames := 2, cells := 0, slots := 0, locals := 45 }
set_option maxHeartbeats 4000000 in
set_option maxRecDepth 100000 in
theorem c_X4_pass (l : Launch) (D : va_G) (cI : ClassId) (mo : Nat) (qi : Nat) (qs : Nat) (qe : Nat) (qn : Nat) (qk : Nat) (tw : Int32) (sm : Int32) (sl : Nat) (nl : Nat) (gi : Nat → Int32) (gs : Nat → Int32) (ge : Nat → Int32) (w : Nat → Int32) (q : St) (hsl : sl = stS q) (hsm : sm = stM q) (hnl : nl = (stT q).length) (hN : rN gi gs ge w q) (hO : okS q) (hmi : stI q < 1000000) : kM kri l yX4_pass wsX4_pass rm_X4_pass D [(cI, .int)] [.ref mo] [(mo, .inr (4, [.int tw, .int (nI sl), .int sm, .int (nI nl), .ref qi, .ref qs, .ref qe, .ref qn, .ref qk])), (qi, .inl (cI, 6, .inl gi)), (qs, .inl (cI, 6, .inl gs)), (qe, .inl (cI, 6, .inl ge)), (qn, .inl (cI, 42, .inl w))] (fun (r : Int32) (u : (Nat → Int32)) => r = nI (ctT (stT q) - ctT (stT (mnt q))) ∧ rN gi gs ge u (mnt q)) (fun (u : (Nat → Int32)) => [(mo, .inr (4, [.int tw, .int (nI sl), .int sm, .int (nI nl), .ref qi, .ref qs, .ref qe, .ref qn, .ref qk])), (qi, .inl (cI, 6, .inl gi)), (qs, .inl (cI, 6, .inl gs)), (qe, .inl (cI, 6, .inl ge)), (qn, .inl (cI, 42, .inl u))]) := by
  refine k_bodyI (cc := cX4_pass) (maxL := 3) (by decide) rfl (Nat.le_of_ble_eq_true rfl) ?_
  intro p e ss m args below meth c A Q F hname hA hG hK hP hD hS ret ls hl
  obtain ⟨hx, hb, hml, hown, hts⟩ := id F
  have hP : va_P D vwCl [(mo, .inr (4, [.int tw, .int (nI sl), .int sm, .int (nI nl), .ref qi, .ref qs, .ref qe, .ref qn, .ref qk])), (qi, .inl (cI, 6, .inl gi)), (qs, .inl (cI, 6, .inl gs)), (qe, .inl (cI, 6, .inl ge)), (qn, .inl (cI, 42, .inl w))] ss.heap := hP
  have hD : va_D A [(mo, .inr (4, [.int tw, .int (nI sl), .int sm, .int (nI nl), .ref qi, .ref qs, .ref qe, .ref qn, .ref qk])), (qi, .inl (cI, 6, .inl gi)), (qs, .inl (cI, 6, .inl gs)), (qe, .inl (cI, 6, .inl ge)), (qn, .inl (cI, 42, .inl w))] := hD
  have hl : lv_has ls 3 [(0, .ref mo)] := hl
  have iX4 : ∀ w ∈ u_ws RX4 TX4 9, w ∈ wsX4_pass := by decide +kernel
  have f9 := hts (.fieldLink RX4 9 "SmallerTalkModel" "stones" "I") (by decide +kernel)
  have f16 := hts (.fieldLink RX4 16 "SmallerTalkModel" "its" "[I") (by decide +kernel)
  have f20 := hts (.fieldLink RX4 20 "SmallerTalkModel" "size" "[I") (by decide +kernel)
  have f23 := hts (.fieldLink RX4 23 "SmallerTalkModel" "each" "[I") (by decide +kernel)
  have f26 := hts (.fieldLink RX4 26 "SmallerTalkModel" "now" "[I") (by decide +kernel)
  have f39 := hts (.fieldLink RX4 39 "SmallerTalkModel" "talkers" "I") (by decide +kernel)
  subst hsl hsm hnl
  obtain ⟨n0, n1, n2, n3, n4, n5, nB, nT⟩ := id hN
  obtain ⟨o1, o2, o3, o4, o5, o6, o7⟩ := id hO
  have hn1 := mN1_le hO
  have tm : okT (mT q) := okT_hr o3
  have hml9 : (mT q).length = (stT q).length := hrT_len _ _ _
  refine lv_iconst (v := nI 0) hx hb dX4_pass_0 (by decide +kernel) ?_
  refine lv_istore_n (lv' := [(1, .int (nI 0)), (0, .ref mo)]) hx hb dX4_pass_1 rfl hl (by decide) rfl (fun ls hl => ?_)
  have loop_1 : ∀ (n : Nat) (i : Nat) (w1 : Nat → Int32), (i ≤ min (stS q) (stB q).length) → (dvI (stS q) (stG q) (stB q) w w1 i) → min (stS q) (stB q).length - i < n → ∀ (H : Heap) (locs : List Loc), va_P D vwCl [(mo, .inr (4, [.int tw, .int (nI (stS q)), .int (stM q), .int (nI ((stT q).length)), .ref qi, .ref qs, .ref qe, .ref qn, .ref qk])), (qi, .inl (cI, 6, .inl gi)), (qs, .inl (cI, 6, .inl gs)), (qe, .inl (cI, 6, .inl ge)), (qn, .inl (cI, 42, .inl w1))] H → va_D A [(mo, .inr (4, [.int tw, .int (nI (stS q)), .int (stM q), .int (nI ((stT q).length)), .ref qi, .ref qs, .ref qe, .ref qn, .ref qk])), (qi, .inl (cI, 6, .inl gi)), (qs, .inl (cI, 6, .inl gs)), (qe, .inl (cI, 6, .inl ge)), (qn, .inl (cI, 42, .inl w1))] → va_S A ss.heap H locs → ∀ ls : Array Slot, lv_has ls 3 [(0, .ref mo), (1, .int (nI i))] → W p l e rm_X4_pass ss m args below meth c H locs 0 0 Q (F0 m 2 ls []) := by
    intro n
    induction n with
    | zero => intro i w1 hi hd hn; exact absurd hn (by omega)
    | succ n ih =>
      intro i w1 hi hd hn H locs hP hD hS ls hl
      refine lv_iload_n hx hb dX4_pass_2 rfl (lv_at hl 1 rfl) ?_
      refine lv_aload_n hx hb dX4_pass_3 rfl (lv_at hl 0 rfl) ?_
      refine va_get (D := D) (ci := 4) (v := .int (nI (stS q))) (C := RX4) (T := TX4) (N := 9) hx hb hts iX4 hown hK hP 0 rfl rfl 1 (by decide) f9 (fun _ h9 => h9) rfl dX4_pass_4 ?_
      refine lv_aload_n hx hb dX4_pass_7 rfl (lv_at hl 0 rfl) ?_
      refine va_get (D := D) (ci := 4) (v := .ref qn) (C := RX4) (T := TX4) (N := 9) hx hb hts iX4 hown hK hP 0 rfl rfl 7 (by decide) f26 (fun _ h9 => h9) rfl dX4_pass_8 ?_
      refine lv_iconst (v := nI 1) hx hb dX4_pass_11 (by decide +kernel) ?_
      refine k_iald hx hb hK hP 4 0 rfl rfl 1 (rfl) (by omega) (by decide) dX4_pass_12 ?_
      refine k_top (v := nI ((stB q).length)) ((hd.2 1 (by omega)).trans n1) ?_
      refine va_mmin hx hb (hml.trans hl.1.symm) hown (hts (.methodLink RX4 62 Lib.Math.min.name) (by decide +kernel)) (hts (.static Lib.Math.min.name) (by decide +kernel)) (hts (.initialized "java/lang/Math") (by decide +kernel)) (hts (.code Lib.Math.min.name Lib.Math.min.code 2 (some .int)) (by decide +kernel)) (Nat.le_of_ble_eq_true rfl) (Nat.le_of_ble_eq_true rfl) (Nat.le_of_ble_eq_true rfl) (Nat.le_of_ble_eq_true rfl) dX4_pass_13 ?_
      refine k_top (v := nI (min (stS q) (stB q).length)) (mn_eq (by omega) (by omega)) ?_
      refine k_cmp_ge (tgt := 43) hx hb i (min (stS q) (stB q).length) rfl rfl (by omega) (by omega) dX4_pass_16 (by decide) (fun c_16 => ?_) (fun c_16 => ?_)
      · skip
        have ei : i = min (stS q) (stB q).length := by omega
        have hV1 := rV_dvI nB ei hd
        refine lv_aload_n hx hb dX4_pass_43 rfl (lv_at hl 0 rfl) ?_
        refine va_get (D := D) (ci := 4) (v := .ref qn) (C := RX4) (T := TX4) (N := 9) hx hb hts iX4 hown hK hP 0 rfl rfl 7 (by decide) f26 (fun _ h9 => h9) rfl dX4_pass_44 ?_
        refine lv_iconst (v := nI 2) hx hb dX4_pass_47 (by decide +kernel) ?_
        refine lv_dup2_11 hx hb dX4_pass_48 rfl rfl ?_
        refine k_iald hx hb hK hP 4 0 rfl rfl 2 (rfl) (by omega) (by decide) dX4_pass_49 ?_
        refine k_top (v := nI (stN q)) ((hd.2 2 (by omega)).trans n2) ?_
        refine lv_aload_n hx hb dX4_pass_50 rfl (lv_at hl 0 rfl) ?_
        refine lv_iconst (v := nI 0) hx hb dX4_pass_51 (by decide +kernel) ?_
        refine k_callV (As := [.int (nI 0)]) (rest := [.int (nI (stN q)), .int (nI 2), .ref qn]) (wr := [(qi, .inl (cI, 6, .inl gi)), (qs, .inl (cI, 6, .inl gs)), (qe, .inl (cI, 6, .inl ge))]) F (c_X4_leaveOut_n l D cI mo qi qs qe qn qk tw (nI (stS q)) (stM q) (nI ((stT q).length)) w1 (dvL (stS q) (stG q) (stB q)) ((hd.2 1 (by omega)).trans (n1.trans (by rw [dvL_len]))) hV1 (dvL_sz o1)) gX4_pass_X4_leaveOut rfl (nA := 1) (by decide +kernel) rfl ⟨Nat.le_of_ble_eq_true rfl, Nat.le_of_ble_eq_true rfl⟩ hK hP hD hS hA hG (ci := 4) (q0 := 0) rfl rfl rfl [0, 4] [1, 2, 3] rfl (by decide) rfl (by decide) (by decide) [0] rfl rfl hl.1 (Nat.le_of_ble_eq_true rfl) dX4_pass_52 ⟨Nat.le_of_ble_eq_true rfl, Nat.le_of_ble_eq_true rfl⟩ (fun r_2 u H locs hr_52 hP hD hS => ?_)
        obtain ⟨v2, rfl⟩ : ∃ z, z = u := ⟨_, rfl⟩
        try dsimp only at hr_52
        have hP : va_P D vwCl [(qi, .inl (cI, 6, .inl gi)), (qs, .inl (cI, 6, .inl gs)), (qe, .inl (cI, 6, .inl ge)), (mo, .inr (4, [.int tw, .int (nI (stS q)), .int (stM q), .int (nI ((stT q).length)), .ref qi, .ref qs, .ref qe, .ref qn, .ref qk])), (qn, .inl (cI, 42, .inl v2))] H := hP
        have hD : va_D A [(qi, .inl (cI, 6, .inl gi)), (qs, .inl (cI, 6, .inl gs)), (qe, .inl (cI, 6, .inl ge)), (mo, .inr (4, [.int tw, .int (nI (stS q)), .int (stM q), .int (nI ((stT q).length)), .ref qi, .ref qs, .ref qe, .ref qn, .ref qk])), (qn, .inl (cI, 42, .inl v2))] := hD
        refine W.eq (g2 := F0 m 55 ls [.int r_2, .int (nI (stN q)), .int (nI 2), .ref qn]) rfl ?_
        refine W.widen (k := 0) (n := 0) (Nat.le_of_ble_eq_true rfl) (Nat.le_of_ble_eq_true rfl) ?_
        refine k_top (v := nI ((stB q).length - (mB1 q).length)) (hr_52.1.trans (by rw [dvL_nd, dvL_len]; rfl)) ?_
        have f2 := hr_52.2.1
        have v2n : v2 1 = nI (mB1 q).length := hr_52.2.2.1.trans (by rw [dvL_nd]; rfl)
        have V2 : rV v2 (mB1 q) := by have h := hr_52.2.2.2; rw [dvL_nd] at h; exact h
        refine k_iadd hx hb (nI (mN1 q)) (nI_add _ _) dX4_pass_55 ?_
        refine k_iast hx hb hK hP hD hS 4 0 rfl rfl 2 (rfl) (by omega) (by decide) dX4_pass_56 (fun H locs hP hD hS => ?_)
        have hP : va_P D vwCl [(qi, .inl (cI, 6, .inl gi)), (qs, .inl (cI, 6, .inl gs)), (qe, .inl (cI, 6, .inl ge)), (mo, .inr (4, [.int tw, .int (nI (stS q)), .int (stM q), .int (nI ((stT q).length)), .ref qi, .ref qs, .ref qe, .ref qn, .ref qk])), (qn, .inl (cI, 42, .inl (upd v2 2 (nI (mN1 q)))))] H := hP
        have hD : va_D A [(qi, .inl (cI, 6, .inl gi)), (qs, .inl (cI, 6, .inl gs)), (qe, .inl (cI, 6, .inl ge)), (mo, .inr (4, [.int tw, .int (nI (stS q)), .int (stM q), .int (nI ((stT q).length)), .ref qi, .ref qs, .ref qe, .ref qn, .ref qk])), (qn, .inl (cI, 42, .inl (upd v2 2 (nI (mN1 q)))))] := hD
        refine lv_aload_n hx hb dX4_pass_57 rfl (lv_at hl 0 rfl) ?_
        refine va_get (D := D) (ci := 4) (v := .ref qn) (C := RX4) (T := TX4) (N := 9) hx hb hts iX4 hown hK hP 3 rfl rfl 7 (by decide) f26 (fun _ h9 => h9) rfl dX4_pass_58 ?_
        refine lv_iconst (v := nI 4) hx hb dX4_pass_61 (by decide +kernel) ?_
        refine lv_dup2_11 hx hb dX4_pass_62 rfl rfl ?_
        refine k_iald hx hb hK hP 4 0 rfl rfl 4 (rfl) (by omega) (by decide) dX4_pass_63 ?_
        refine k_top (v := stV q) ((pk_un (by omega)).trans ((f2 4 (by omega)).trans ((hd.2 4 (by omega)).trans (n4)))) ?_
        refine lv_aload_n hx hb dX4_pass_64 rfl (lv_at hl 0 rfl) ?_
        refine lv_iconst (v := nI 1) hx hb dX4_pass_65 (by decide +kernel) ?_
        refine k_callV (As := [.int (nI 1)]) (rest := [.int (stV q), .int (nI 4), .ref qn]) (wr := [(qi, .inl (cI, 6, .inl gi)), (qs, .inl (cI, 6, .inl gs)), (qe, .inl (cI, 6, .inl ge))]) F (c_X4_leaveOut_w l D cI mo qi qs qe qn qk tw (nI (stS q)) (stM q) (nI ((stT q).length)) (upd v2 2 (nI (mN1 q))) (mB1 q) ((pk_un (by omega)).trans v2n) (rV_lo V2 (by omega))) gX4_pass_X4_leaveOut rfl (nA := 1) (by decide +kernel) rfl ⟨Nat.le_of_ble_eq_true rfl, Nat.le_of_ble_eq_true rfl⟩ hK hP hD hS hA hG (ci := 4) (q0 := 3) rfl rfl rfl [3, 4] [0, 1, 2] rfl (by decide) rfl (by decide) (by decide) [0] rfl rfl hl.1 (Nat.le_of_ble_eq_true rfl) dX4_pass_66 ⟨Nat.le_of_ble_eq_true rfl, Nat.le_of_ble_eq_true rfl⟩ (fun r_3 u H locs hr_66 hP hD hS => ?_)
        obtain ⟨v4, rfl⟩ : ∃ z, z = u := ⟨_, rfl⟩
        try dsimp only at hr_66
        have hP : va_P D vwCl [(qi, .inl (cI, 6, .inl gi)), (qs, .inl (cI, 6, .inl gs)), (qe, .inl (cI, 6, .inl ge)), (mo, .inr (4, [.int tw, .int (nI (stS q)), .int (stM q), .int (nI ((stT q).length)), .ref qi, .ref qs, .ref qe, .ref qn, .ref qk])), (qn, .inl (cI, 42, .inl v4))] H := hP
        have hD : va_D A [(qi, .inl (cI, 6, .inl gi)), (qs, .inl (cI, 6, .inl gs)), (qe, .inl (cI, 6, .inl ge)), (mo, .inr (4, [.int tw, .int (nI (stS q)), .int (stM q), .int (nI ((stT q).length)), .ref qi, .ref qs, .ref qe, .ref qn, .ref qk])), (qn, .inl (cI, 42, .inl v4))] := hD
        refine W.eq (g2 := F0 m 69 ls [.int r_3, .int (stV q), .int (nI 4), .ref qn]) rfl ?_
        refine W.widen (k := 0) (n := 0) (Nat.le_of_ble_eq_true rfl) (Nat.le_of_ble_eq_true rfl) ?_
        refine k_top (v := nI ((mB1 q).length - (mB2 q).length)) (hr_66.1) ?_
        have f4 := hr_66.2.1
        have v4n : v4 1 = nI (mB2 q).length := hr_66.2.2.1
        have V4 : rV v4 (mB2 q) := hr_66.2.2.2
        refine k_iadd hx hb ((stV q) + (nI ((mB1 q).length - (mB2 q).length))) (rfl) dX4_pass_69 ?_
        refine k_iast hx hb hK hP hD hS 4 0 rfl rfl 4 (rfl) (by omega) (by decide) dX4_pass_70 (fun H locs hP hD hS => ?_)
        have hP : va_P D vwCl [(qi, .inl (cI, 6, .inl gi)), (qs, .inl (cI, 6, .inl gs)), (qe, .inl (cI, 6, .inl ge)), (mo, .inr (4, [.int tw, .int (nI (stS q)), .int (stM q), .int (nI ((stT q).length)), .ref qi, .ref qs, .ref qe, .ref qn, .ref qk])), (qn, .inl (cI, 42, .inl (upd v4 4 ((stV q) + (nI ((mB1 q).length - (mB2 q).length))))))] H := hP
        have hD : va_D A [(qi, .inl (cI, 6, .inl gi)), (qs, .inl (cI, 6, .inl gs)), (qe, .inl (cI, 6, .inl ge)), (mo, .inr (4, [.int tw, .int (nI (stS q)), .int (stM q), .int (nI ((stT q).length)), .ref qi, .ref qs, .ref qe, .ref qn, .ref qk])), (qn, .inl (cI, 42, .inl (upd v4 4 ((stV q) + (nI ((mB1 q).length - (mB2 q).length))))))] := hD
        refine lv_aload_n hx hb dX4_pass_71 rfl (lv_at hl 0 rfl) ?_
        refine va_get (D := D) (ci := 4) (v := .ref qn) (C := RX4) (T := TX4) (N := 9) hx hb hts iX4 hown hK hP 3 rfl rfl 7 (by decide) f26 (fun _ h9 => h9) rfl dX4_pass_72 ?_
        refine lv_iconst (v := nI 3) hx hb dX4_pass_75 (by decide +kernel) ?_
        refine lv_dup2_11 hx hb dX4_pass_76 rfl rfl ?_
        refine k_iald hx hb hK hP 4 0 rfl rfl 3 (rfl) (by omega) (by decide) dX4_pass_77 ?_
        refine k_top (v := stO q) ((pk_un (by omega)).trans ((f4 3 (by omega)).trans ((pk_un (by omega)).trans ((f2 3 (by omega)).trans ((hd.2 3 (by omega)).trans (n3)))))) ?_
        refine lv_aload_n hx hb dX4_pass_78 rfl (lv_at hl 0 rfl) ?_
        refine va_get (D := D) (ci := 4) (v := .ref qn) (C := RX4) (T := TX4) (N := 9) hx hb hts iX4 hown hK hP 3 rfl rfl 7 (by decide) f26 (fun _ h9 => h9) rfl dX4_pass_79 ?_
        refine lv_iconst (v := nI 2) hx hb dX4_pass_82 (by decide +kernel) ?_
        refine k_iald hx hb hK hP 4 0 rfl rfl 2 (rfl) (by omega) (by decide) dX4_pass_83 ?_
        refine k_top (v := nI (mN1 q)) ((pk_un (by omega)).trans ((f4 2 (by omega)).trans (pk_us))) ?_
        refine lv_bipush (v := nI 6) hx hb dX4_pass_84 (by decide +kernel) ?_
        refine k_idiv hx hb (nI ((mN1 q) / 6)) (by decide +kernel) (pk_div (by omega) (by omega) (by omega)) dX4_pass_86 ?_
        refine k_iadd hx hb ((stO q) + (nI ((mN1 q) / 6))) (rfl) dX4_pass_87 ?_
        refine k_iast hx hb hK hP hD hS 4 0 rfl rfl 3 (rfl) (by omega) (by decide) dX4_pass_88 (fun H locs hP hD hS => ?_)
        have hP : va_P D vwCl [(qi, .inl (cI, 6, .inl gi)), (qs, .inl (cI, 6, .inl gs)), (qe, .inl (cI, 6, .inl ge)), (mo, .inr (4, [.int tw, .int (nI (stS q)), .int (stM q), .int (nI ((stT q).length)), .ref qi, .ref qs, .ref qe, .ref qn, .ref qk])), (qn, .inl (cI, 42, .inl (upd (upd v4 4 ((stV q) + (nI ((mB1 q).length - (mB2 q).length)))) 3 ((stO q) + (nI ((mN1 q) / 6))))))] H := hP
        have hD : va_D A [(qi, .inl (cI, 6, .inl gi)), (qs, .inl (cI, 6, .inl gs)), (qe, .inl (cI, 6, .inl ge)), (mo, .inr (4, [.int tw, .int (nI (stS q)), .int (stM q), .int (nI ((stT q).length)), .ref qi, .ref qs, .ref qe, .ref qn, .ref qk])), (qn, .inl (cI, 42, .inl (upd (upd v4 4 ((stV q) + (nI ((mB1 q).length - (mB2 q).length)))) 3 ((stO q) + (nI ((mN1 q) / 6))))))] := hD
        refine lv_aload_n hx hb dX4_pass_89 rfl (lv_at hl 0 rfl) ?_
        refine va_get (D := D) (ci := 4) (v := .ref qn) (C := RX4) (T := TX4) (N := 9) hx hb hts iX4 hown hK hP 3 rfl rfl 7 (by decide) f26 (fun _ h9 => h9) rfl dX4_pass_90 ?_
        refine lv_iconst (v := nI 2) hx hb dX4_pass_93 (by decide +kernel) ?_
        refine lv_dup2_11 hx hb dX4_pass_94 rfl rfl ?_
        refine k_iald hx hb hK hP 4 0 rfl rfl 2 (rfl) (by omega) (by decide) dX4_pass_95 ?_
        refine k_top (v := nI (mN1 q)) ((pk_un (by omega)).trans ((pk_un (by omega)).trans ((f4 2 (by omega)).trans (pk_us)))) ?_
        refine lv_bipush (v := nI 6) hx hb dX4_pass_96 (by decide +kernel) ?_
        refine k_irem hx hb (nI ((mN1 q) % 6)) (by decide +kernel) (pk_rem (by omega) (by omega) (by omega)) dX4_pass_98 ?_
        refine k_iast hx hb hK hP hD hS 4 0 rfl rfl 2 (rfl) (by omega) (by decide) dX4_pass_99 (fun H locs hP hD hS => ?_)
        have hP : va_P D vwCl [(qi, .inl (cI, 6, .inl gi)), (qs, .inl (cI, 6, .inl gs)), (qe, .inl (cI, 6, .inl ge)), (mo, .inr (4, [.int tw, .int (nI (stS q)), .int (stM q), .int (nI ((stT q).length)), .ref qi, .ref qs, .ref qe, .ref qn, .ref qk])), (qn, .inl (cI, 42, .inl (upd (upd (upd v4 4 ((stV q) + (nI ((mB1 q).length - (mB2 q).length)))) 3 ((stO q) + (nI ((mN1 q) / 6)))) 2 (nI ((mN1 q) % 6)))))] H := hP
        have hD : va_D A [(qi, .inl (cI, 6, .inl gi)), (qs, .inl (cI, 6, .inl gs)), (qe, .inl (cI, 6, .inl ge)), (mo, .inr (4, [.int tw, .int (nI (stS q)), .int (stM q), .int (nI ((stT q).length)), .ref qi, .ref qs, .ref qe, .ref qn, .ref qk])), (qn, .inl (cI, 42, .inl (upd (upd (upd v4 4 ((stV q) + (nI ((mB1 q).length - (mB2 q).length)))) 3 ((stO q) + (nI ((mN1 q) / 6)))) 2 (nI ((mN1 q) % 6)))))] := hD
        obtain ⟨w7, ew7⟩ : ∃ z, z = upd (upd (upd v4 4 ((stV q) + (nI ((mB1 q).length - (mB2 q).length)))) 3 ((stO q) + (nI ((mN1 q) / 6)))) 2 (nI ((mN1 q) % 6)) := ⟨_, rfl⟩
        rw [← ew7] at hP hD
        have g7 : ∀ j, j < 2 ∨ 5 ≤ j → w7 j = v4 j := fun j hj => by rw [ew7, pk_un (by omega), pk_un (by omega), pk_un (by omega)]
        have g4 : ∀ j, (j < 6 ∧ j ≠ 1 ∧ j ≠ 2) ∨ 30 ≤ j → v4 j = w j := fun j hj => (f4 j (by omega)).trans ((pk_un (by omega)).trans ((f2 j (by omega)).trans (hd.2 j (by omega))))
        have e72 : w7 2 = nI (mN1 q % 6) := by rw [ew7]; exact pk_us
        have e73 : w7 3 = stO q + nI (mN1 q / 6) := by rw [ew7]; exact (pk_un (by omega)).trans pk_us
        have e74 : w7 4 = stV q + nI ((mB1 q).length - (mB2 q).length) := by rw [ew7]; exact (pk_un (by omega)).trans ((pk_un (by omega)).trans pk_us)
        have e71 : w7 1 = nI (mB2 q).length := (g7 1 (by omega)).trans v4n
        have e70 : w7 0 = nI (stI q) := (g7 0 (by omega)).trans ((g4 0 (by omega)).trans n0)
        have V7 : rV w7 (mB2 q) := rV_of V4 (fun j h1 h2 => g7 j (by omega))
        have T7 : rT gi gs ge w7 (stT q) := rT_of nT (fun j hj => (g7 j (by omega)).trans (g4 j (by omega)))
        refine lv_aload_n hx hb dX4_pass_100 rfl (lv_at hl 0 rfl) ?_
        refine k_callV (As := []) (rest := []) (wr := [(qi, .inl (cI, 6, .inl gi)), (qs, .inl (cI, 6, .inl gs)), (qe, .inl (cI, 6, .inl ge))]) F (c_X4_talk l D cI mo qi qs qe qn qk tw (nI (stS q)) (stM q) gi gs ge w7 (mB2 q) (stT q) (stI q) e71 V7 T7 o3 (ns_le (okB2 hO) (lenB2 hO)) e70) gX4_pass_X4_talk rfl (nA := 0) (by decide +kernel) rfl ⟨Nat.le_of_ble_eq_true rfl, Nat.le_of_ble_eq_true rfl⟩ hK hP hD hS hA hG (ci := 4) (q0 := 3) rfl rfl rfl [3, 4] [0, 1, 2] rfl (by decide) rfl (by decide) (by decide) [0] rfl rfl hl.1 (Nat.le_of_ble_eq_true rfl) dX4_pass_101 ⟨Nat.le_of_ble_eq_true rfl, Nat.le_of_ble_eq_true rfl⟩ (fun r_4 u H locs hr_101 hP hD hS => ?_)
        obtain ⟨w8, rfl⟩ : ∃ z, z = u := ⟨_, rfl⟩
        try dsimp only at hr_101
        have hP : va_P D vwCl [(qi, .inl (cI, 6, .inl gi)), (qs, .inl (cI, 6, .inl gs)), (qe, .inl (cI, 6, .inl ge)), (mo, .inr (4, [.int tw, .int (nI (stS q)), .int (stM q), .int (nI ((stT q).length)), .ref qi, .ref qs, .ref qe, .ref qn, .ref qk])), (qn, .inl (cI, 42, .inl w8))] H := hP
        have hD : va_D A [(qi, .inl (cI, 6, .inl gi)), (qs, .inl (cI, 6, .inl gs)), (qe, .inl (cI, 6, .inl ge)), (mo, .inr (4, [.int tw, .int (nI (stS q)), .int (stM q), .int (nI ((stT q).length)), .ref qi, .ref qs, .ref qe, .ref qn, .ref qk])), (qn, .inl (cI, 42, .inl w8))] := hD
        refine W.eq (g2 := F0 m 104 ls [.int r_4]) rfl ?_
        refine W.widen (k := 0) (n := 0) (Nat.le_of_ble_eq_true rfl) (Nat.le_of_ble_eq_true rfl) ?_
        refine k_top (v := nI (ctT (stT q) - ctT (mT q))) (hr_101.1.trans (by rw [go_eq (mi := stI q) (by omega)]; rfl)) ?_
        have e80 : w8 0 = nI (stI q) := (hr_101.2.1 0 (by omega)).trans e70
        have T8 : rT gi gs ge w8 (mT q) := hr_101.2.2
        have V8 : rV w8 (mB2 q) := rV_of V7 (fun j h1 h2 => hr_101.2.1 j h2)
        have e81 : w8 1 = nI (mB2 q).length := (hr_101.2.1 1 (by omega)).trans e71
        refine lv_istore_n (lv' := [(1, .int (nI (ctT (stT q) - ctT (mT q)))), (0, .ref mo)]) hx hb dX4_pass_104 rfl hl (by decide) rfl (fun ls hl => ?_)
        refine lv_iconst (v := nI 0) hx hb dX4_pass_105 (by decide +kernel) ?_
        refine lv_istore_n (lv' := [(2, .int (nI 0)), (1, .int (nI (ctT (stT q) - ctT (mT q)))), (0, .ref mo)]) hx hb dX4_pass_106 rfl hl (by decide) rfl (fun ls hl => ?_)
        have loop_5 : ∀ (n : Nat) (i : Nat) (w9 : Nat → Int32), (i ≤ (stT q).length) → (rV w9 (skN (mT q) (stI q) (mB2 q) i)) → (w9 1 = nI (skN (mT q) (stI q) (mB2 q) i).length) → (frB w8 w9) → (stT q).length - i < n → ∀ (H : Heap) (locs : List Loc), va_P D vwCl [(mo, .inr (4, [.int tw, .int (nI (stS q)), .int (stM q), .int (nI ((stT q).length)), .ref qi, .ref qs, .ref qe, .ref qn, .ref qk])), (qi, .inl (cI, 6, .inl gi)), (qs, .inl (cI, 6, .inl gs)), (qe, .inl (cI, 6, .inl ge)), (qn, .inl (cI, 42, .inl w9))] H → va_D A [(mo, .inr (4, [.int tw, .int (nI (stS q)), .int (stM q), .int (nI ((stT q).length)), .ref qi, .ref qs, .ref qe, .ref qn, .ref qk])), (qi, .inl (cI, 6, .inl gi)), (qs, .inl (cI, 6, .inl gs)), (qe, .inl (cI, 6, .inl ge)), (qn, .inl (cI, 42, .inl w9))] → va_S A ss.heap H locs → ∀ ls : Array Slot, lv_has ls 3 [(0, .ref mo), (1, .int (nI (ctT (stT q) - ctT (mT q)))), (2, .int (nI i))] → W p l e rm_X4_pass ss m args below meth c H locs 0 0 Q (F0 m 107 ls []) := by
          intro n
          induction n with
          | zero => intro i w9 hi h9V h91 h9f hn; exact absurd hn (by omega)
          | succ n ih =>
            intro i w9 hi h9V h91 h9f hn H locs hP hD hS ls hl
            refine lv_iload_n hx hb dX4_pass_107 rfl (lv_at hl 2 rfl) ?_
            refine lv_aload_n hx hb dX4_pass_108 rfl (lv_at hl 0 rfl) ?_
            refine va_get (D := D) (ci := 4) (v := .int (nI ((stT q).length))) (C := RX4) (T := TX4) (N := 9) hx hb hts iX4 hown hK hP 0 rfl rfl 3 (by decide) f39 (fun _ h9 => h9) rfl dX4_pass_109 ?_
            refine k_cmp_ge (tgt := 172) hx hb i ((stT q).length) rfl rfl (by omega) (by omega) dX4_pass_112 (by decide) (fun c_112 => ?_) (fun c_112 => ?_)
            · skip
              obtain rfl : i = (stT q).length := by omega
              refine lv_aload_n hx hb dX4_pass_172 rfl (lv_at hl 0 rfl) ?_
              refine va_get (D := D) (ci := 4) (v := .ref qn) (C := RX4) (T := TX4) (N := 9) hx hb hts iX4 hown hK hP 0 rfl rfl 7 (by decide) f26 (fun _ h9 => h9) rfl dX4_pass_173 ?_
              refine lv_iconst (v := nI 0) hx hb dX4_pass_176 (by decide +kernel) ?_
              refine lv_dup2_11 hx hb dX4_pass_177 rfl rfl ?_
              refine k_iald hx hb hK hP 4 0 rfl rfl 0 (rfl) (by omega) (by decide) dX4_pass_178 ?_
              refine k_top (v := nI (stI q)) ((h9f 0 (by omega)).trans e80) ?_
              refine lv_iconst (v := nI 1) hx hb dX4_pass_179 (by decide +kernel) ?_
              refine k_iadd hx hb (nI (stI q + 1)) (nI_add _ _) dX4_pass_180 ?_
              refine k_iast hx hb hK hP hD hS 4 0 rfl rfl 0 (rfl) (by omega) (by decide) dX4_pass_181 (fun H locs hP hD hS => ?_)
              have hP : va_P D vwCl [(mo, .inr (4, [.int tw, .int (nI (stS q)), .int (stM q), .int (nI ((stT q).length)), .ref qi, .ref qs, .ref qe, .ref qn, .ref qk])), (qi, .inl (cI, 6, .inl gi)), (qs, .inl (cI, 6, .inl gs)), (qe, .inl (cI, 6, .inl ge)), (qn, .inl (cI, 42, .inl (upd w9 0 (nI (stI q + 1)))))] H := hP
              have hD : va_D A [(mo, .inr (4, [.int tw, .int (nI (stS q)), .int (stM q), .int (nI ((stT q).length)), .ref qi, .ref qs, .ref qe, .ref qn, .ref qk])), (qi, .inl (cI, 6, .inl gi)), (qs, .inl (cI, 6, .inl gs)), (qe, .inl (cI, 6, .inl ge)), (qn, .inl (cI, 42, .inl (upd w9 0 (nI (stI q + 1)))))] := hD
              refine lv_iload_n hx hb dX4_pass_182 rfl (lv_at hl 1 rfl) ?_
              have e3 : mB3 q = skN (mT q) (stI q) (mB2 q) (stT q).length := by rw [mB3, sk, hml9]
              exact ret (nI (ctT (stT q) - ctT (mT q))) (upd w9 0 (nI (stI q + 1))) _ _ _ _ _ _ (⟨rfl, pk_us, (pk_un (by omega)).trans (by rw [h91, ← e3]; rfl), (pk_un (by omega)).trans ((h9f 2 (by omega)).trans ((hr_101.2.1 2 (by omega)).trans (e72))), (pk_un (by omega)).trans ((h9f 3 (by omega)).trans ((hr_101.2.1 3 (by omega)).trans (e73))), (pk_un (by omega)).trans ((h9f 4 (by omega)).trans ((hr_101.2.1 4 (by omega)).trans (e74))), (pk_un (by omega)).trans ((h9f 5 (by omega)).trans ((hr_101.2.1 5 (by omega)).trans ((g7 5 (by omega)).trans ((g4 5 (by omega)).trans (n5))))), rV_lo (by rw [← e3] at h9V; exact h9V) (by omega), rT_of T8 (fun j hj => (pk_un (by omega)).trans (h9f j (by omega)))⟩) (hP.sub [0, 1, 2, 3, 4] (rfl)) (hD.sub [0, 1, 2, 3, 4] (by decide) (rfl)) hS (Nat.le_of_ble_eq_true rfl) (Nat.le_of_ble_eq_true rfl) dX4_pass_183
            · skip
              refine lv_aload_n hx hb dX4_pass_115 rfl (lv_at hl 0 rfl) ?_
              refine lv_iload_n hx hb dX4_pass_116 rfl (lv_at hl 2 rfl) ?_
              refine k_callV (As := [.int (nI i)]) (rest := []) (wr := [(qi, .inl (cI, 6, .inl gi)), (qs, .inl (cI, 6, .inl gs)), (qe, .inl (cI, 6, .inl ge))]) F (c_X4_isThere l D cI mo qi qs qe qn qk tw (nI (stS q)) (stM q) (nI ((stT q).length)) w9 i (tkX ((mT q).getD i tk0)) ((h9f (36 + i) (by omega)).trans (T8.2 i (by omega)).2.2.2.2) (by omega)) gX4_pass_X4_isThere rfl (nA := 1) (by decide +kernel) rfl ⟨Nat.le_of_ble_eq_true rfl, Nat.le_of_ble_eq_true rfl⟩ hK hP hD hS hA hG (ci := 4) (q0 := 0) rfl rfl rfl [0, 4] [1, 2, 3] rfl (by decide) rfl (by decide) (by decide) [0] rfl rfl hl.1 (Nat.le_of_ble_eq_true rfl) dX4_pass_117 ⟨Nat.le_of_ble_eq_true rfl, Nat.le_of_ble_eq_true rfl⟩ (fun r_6 u H locs hr_117 hP hD hS => ?_)
              try dsimp only at hr_117
              have hP : va_P D vwCl [(qi, .inl (cI, 6, .inl gi)), (qs, .inl (cI, 6, .inl gs)), (qe, .inl (cI, 6, .inl ge)), (mo, .inr (4, [.int tw, .int (nI (stS q)), .int (stM q), .int (nI ((stT q).length)), .ref qi, .ref qs, .ref qe, .ref qn, .ref qk])), (qn, .inl (cI, 42, .inl w9))] H := hP
              have hD : va_D A [(qi, .inl (cI, 6, .inl gi)), (qs, .inl (cI, 6, .inl gs)), (qe, .inl (cI, 6, .inl ge)), (mo, .inr (4, [.int tw, .int (nI (stS q)), .int (stM q), .int (nI ((stT q).length)), .ref qi, .ref qs, .ref qe, .ref qn, .ref qk])), (qn, .inl (cI, 42, .inl w9))] := hD
              refine W.eq (g2 := F0 m 120 ls [.int r_6]) rfl ?_
              refine W.widen (k := 0) (n := 0) (Nat.le_of_ble_eq_true rfl) (Nat.le_of_ble_eq_true rfl) ?_
              refine lv_if_eq (tgt := 166) hx hb dX4_pass_120 (by decide) (fun c_120 => ?_) (fun c_120 => ?_)
              · skip
                refine lv_iinc (v := nI (i + 1)) (lv' := [(2, .int (nI (i + 1))), (0, .ref mo), (1, .int (nI (ctT (stT q) - ctT (mT q))))]) hx hb dX4_pass_166 hl (k := 2) rfl (nI_1 _) (by decide) rfl (fun ls hl => ?_)
                refine lv_goto (tgt := 107) hx hb dX4_pass_169 (by decide) ?_
                have e8 : skN (mT q) (stI q) (mB2 q) (i + 1) = _ := sk_f1 (mi := stI q) (L := mB2 q) (bI_eq0 hr_117 c_120)
                exact ih (i + 1) w9 (by omega) (by rw [e8]; exact h9V) (by rw [e8]; exact h91) h9f (by omega) _ _ (hP.sub [3, 0, 1, 2, 4] (rfl)) (hD.sub [3, 0, 1, 2, 4] (by decide) (rfl)) hS _ (lv_sub hl [1, 2, 0] (rfl))
              · skip
                refine lv_aload_n hx hb dX4_pass_123 rfl (lv_at hl 0 rfl) ?_
                refine va_get (D := D) (ci := 4) (v := .ref qn) (C := RX4) (T := TX4) (N := 9) hx hb hts iX4 hown hK hP 3 rfl rfl 7 (by decide) f26 (fun _ h9 => h9) rfl dX4_pass_124 ?_
                refine lv_iconst (v := nI 0) hx hb dX4_pass_127 (by decide +kernel) ?_
                refine k_iald hx hb hK hP 4 0 rfl rfl 0 (rfl) (by omega) (by decide) dX4_pass_128 ?_
                refine k_top (v := nI (stI q)) ((h9f 0 (by omega)).trans e80) ?_
                refine lv_aload_n hx hb dX4_pass_129 rfl (lv_at hl 0 rfl) ?_
                refine va_get (D := D) (ci := 4) (v := .ref qe) (C := RX4) (T := TX4) (N := 9) hx hb hts iX4 hown hK hP 3 rfl rfl 6 (by decide) f23 (fun _ h9 => h9) rfl dX4_pass_130 ?_
                refine lv_iload_n hx hb dX4_pass_133 rfl (lv_at hl 2 rfl) ?_
                refine k_iald hx hb hK hP 2 0 rfl rfl i (rfl) (by omega) (by decide) dX4_pass_134 ?_
                refine k_top (v := tkE ((mT q).getD i tk0)) ((T8.2 i (by omega)).2.2.1) ?_
                refine k_irem hx hb (nI (stI q) - nI (stI q) / tkE ((mT q).getD i tk0) * tkE ((mT q).getD i tk0)) ((tm i (by omega)).2.2.1) (rfl) dX4_pass_135 ?_
                refine lv_if_ne (tgt := 166) hx hb dX4_pass_136 (by decide) (fun c_136 => ?_) (fun c_136 => ?_)
                · skip
                  refine lv_iinc (v := nI (i + 1)) (lv' := [(2, .int (nI (i + 1))), (0, .ref mo), (1, .int (nI (ctT (stT q) - ctT (mT q))))]) hx hb dX4_pass_166 hl (k := 2) rfl (nI_1 _) (by decide) rfl (fun ls hl => ?_)
                  refine lv_goto (tgt := 107) hx hb dX4_pass_169 (by decide) ?_
                  have e8 : skN (mT q) (stI q) (mB2 q) (i + 1) = _ := sk_f2 (L := mB2 q) c_136
                  exact ih (i + 1) w9 (by omega) (by rw [e8]; exact h9V) (by rw [e8]; exact h91) h9f (by omega) _ _ (hP.sub [3, 0, 1, 2, 4] (rfl)) (hD.sub [3, 0, 1, 2, 4] (by decide) (rfl)) hS _ (lv_sub hl [1, 2, 0] (rfl))
                · skip
                  refine lv_aload_n hx hb dX4_pass_139 rfl (lv_at hl 0 rfl) ?_
                  refine va_get (D := D) (ci := 4) (v := .ref qn) (C := RX4) (T := TX4) (N := 9) hx hb hts iX4 hown hK hP 3 rfl rfl 7 (by decide) f26 (fun _ h9 => h9) rfl dX4_pass_140 ?_
                  refine lv_iconst (v := nI 1) hx hb dX4_pass_143 (by decide +kernel) ?_
                  refine k_iald hx hb hK hP 4 0 rfl rfl 1 (rfl) (by omega) (by decide) dX4_pass_144 ?_
                  refine k_top (v := nI ((skN (mT q) (stI q) (mB2 q) i).length)) (h91) ?_
                  refine lv_bipush (v := nI 12) hx hb dX4_pass_145 (by decide +kernel) ?_
                  refine k_cmp_ge (tgt := 166) hx hb ((skN (mT q) (stI q) (mB2 q) i).length) 12 rfl rfl (by have := h9V.1; omega) (by omega) dX4_pass_147 (by decide) (fun c_147 => ?_) (fun c_147 => ?_)
                  · skip
                    refine lv_iinc (v := nI (i + 1)) (lv' := [(2, .int (nI (i + 1))), (0, .ref mo), (1, .int (nI (ctT (stT q) - ctT (mT q))))]) hx hb dX4_pass_166 hl (k := 2) rfl (nI_1 _) (by decide) rfl (fun ls hl => ?_)
                    refine lv_goto (tgt := 107) hx hb dX4_pass_169 (by decide) ?_
                    have e8 : skN (mT q) (stI q) (mB2 q) (i + 1) = _ := (sk_t (L := mB2 q) (bI_ne0 hr_117 c_120) c_136).trans (app_full (by omega))
                    exact ih (i + 1) w9 (by omega) (by rw [e8]; exact h9V) (by rw [e8]; exact h91) h9f (by omega) _ _ (hP.sub [3, 0, 1, 2, 4] (rfl)) (hD.sub [3, 0, 1, 2, 4] (by decide) (rfl)) hS _ (lv_sub hl [1, 2, 0] (rfl))
                  · skip
                    refine lv_aload_n hx hb dX4_pass_150 rfl (lv_at hl 0 rfl) ?_
                    refine lv_aload_n hx hb dX4_pass_151 rfl (lv_at hl 0 rfl) ?_
                    refine va_get (D := D) (ci := 4) (v := .ref qi) (C := RX4) (T := TX4) (N := 9) hx hb hts iX4 hown hK hP 3 rfl rfl 4 (by decide) f16 (fun _ h9 => h9) rfl dX4_pass_152 ?_
                    refine lv_iload_n hx hb dX4_pass_155 rfl (lv_at hl 2 rfl) ?_
                    refine k_iald hx hb hK hP 0 0 rfl rfl i (rfl) (by omega) (by decide) dX4_pass_156 ?_
                    refine k_top (v := tkK ((mT q).getD i tk0)) ((T8.2 i (by omega)).1) ?_
                    refine lv_aload_n hx hb dX4_pass_157 rfl (lv_at hl 0 rfl) ?_
                    refine va_get (D := D) (ci := 4) (v := .ref qs) (C := RX4) (T := TX4) (N := 9) hx hb hts iX4 hown hK hP 3 rfl rfl 5 (by decide) f20 (fun _ h9 => h9) rfl dX4_pass_158 ?_
                    refine lv_iload_n hx hb dX4_pass_161 rfl (lv_at hl 2 rfl) ?_
                    refine k_iald hx hb hK hP 1 0 rfl rfl i (rfl) (by omega) (by decide) dX4_pass_162 ?_
                    refine k_top (v := nI (tkS ((mT q).getD i tk0))) ((T8.2 i (by omega)).2.1) ?_
                    refine k_callV (As := [.int (tkK ((mT q).getD i tk0)), .int (nI (tkS ((mT q).getD i tk0)))]) (rest := []) (wr := [(qi, .inl (cI, 6, .inl gi)), (qs, .inl (cI, 6, .inl gs)), (qe, .inl (cI, 6, .inl ge))]) F (c_X4_add l D cI mo qi qs qe qn qk tw (nI (stS q)) (stM q) (nI ((stT q).length)) w9 (skN (mT q) (stI q) (mB2 q) i) (tkK ((mT q).getD i tk0)) (tkS ((mT q).getD i tk0)) h91 h9V c_147) gX4_pass_X4_add rfl (nA := 2) (by decide +kernel) rfl ⟨Nat.le_of_ble_eq_true rfl, Nat.le_of_ble_eq_true rfl⟩ hK hP hD hS hA hG (ci := 4) (q0 := 3) rfl rfl rfl [3, 4] [0, 1, 2] rfl (by decide) rfl (by decide) (by decide) [0] rfl rfl hl.1 (Nat.le_of_ble_eq_true rfl) dX4_pass_163 ⟨Nat.le_of_ble_eq_true rfl, Nat.le_of_ble_eq_true rfl⟩ (fun r_7 u H locs hr_163 hP hD hS => ?_)
                    obtain ⟨wa, rfl⟩ : ∃ z, z = u := ⟨_, rfl⟩
                    try dsimp only at hr_163
                    have hP : va_P D vwCl [(qi, .inl (cI, 6, .inl gi)), (qs, .inl (cI, 6, .inl gs)), (qe, .inl (cI, 6, .inl ge)), (mo, .inr (4, [.int tw, .int (nI (stS q)), .int (stM q), .int (nI ((stT q).length)), .ref qi, .ref qs, .ref qe, .ref qn, .ref qk])), (qn, .inl (cI, 42, .inl wa))] H := hP
                    have hD : va_D A [(qi, .inl (cI, 6, .inl gi)), (qs, .inl (cI, 6, .inl gs)), (qe, .inl (cI, 6, .inl ge)), (mo, .inr (4, [.int tw, .int (nI (stS q)), .int (stM q), .int (nI ((stT q).length)), .ref qi, .ref qs, .ref qe, .ref qn, .ref qk])), (qn, .inl (cI, 42, .inl wa))] := hD
                    refine W.widen (k := 0) (n := 0) (Nat.le_of_ble_eq_true rfl) (Nat.le_of_ble_eq_true rfl) ?_
                    refine lv_iinc (v := nI (i + 1)) (lv' := [(2, .int (nI (i + 1))), (0, .ref mo), (1, .int (nI (ctT (stT q) - ctT (mT q))))]) hx hb dX4_pass_166 hl (k := 2) rfl (nI_1 _) (by decide) rfl (fun ls hl => ?_)
                    refine lv_goto (tgt := 107) hx hb dX4_pass_169 (by decide) ?_
                    have e8 : skN (mT q) (stI q) (mB2 q) (i + 1) = _ := sk_t (L := mB2 q) (bI_ne0 hr_117 c_120) c_136
                    exact ih (i + 1) wa (by omega) (by rw [e8]; exact hr_163.2.2) (by rw [e8]; exact hr_163.2.1) (fun j hj => (hr_163.1 j hj).trans (h9f j hj)) (by omega) _ _ (hP.sub [3, 0, 1, 2, 4] (rfl)) (hD.sub [3, 0, 1, 2, 4] (by decide) (rfl)) hS _ (lv_sub hl [1, 2, 0] (rfl))
        exact loop_5 (((stT q).length) + 1) 0 w8 (Nat.zero_le _) V8 e81 (fun _ _ => rfl) (by omega) _ _ (hP.sub [3, 0, 1, 2, 4] (rfl)) (hD.sub [3, 0, 1, 2, 4] (by decide) (rfl)) hS _ (lv_sub hl [2, 1, 0] (rfl))
      · skip
        refine lv_aload_n hx hb dX4_pass_19 rfl (lv_at hl 0 rfl) ?_
        refine va_get (D := D) (ci := 4) (v := .ref qn) (C := RX4) (T := TX4) (N := 9) hx hb hts iX4 hown hK hP 0 rfl rfl 7 (by decide) f26 (fun _ h9 => h9) rfl dX4_pass_20 ?_
        refine lv_bipush (v := nI 6) hx hb dX4_pass_23 (by decide +kernel) ?_
        refine lv_iload_n hx hb dX4_pass_25 rfl (lv_at hl 1 rfl) ?_
        refine k_iadd hx hb (nI (6 + i)) (nI_add _ _) dX4_pass_26 ?_
        refine lv_dup2_11 hx hb dX4_pass_27 rfl rfl ?_
        refine k_iald hx hb hK hP 4 0 rfl rfl (6 + i) (rfl) (by omega) (by decide) dX4_pass_28 ?_
        refine k_top (v := nI (((stB q).getD i tp0).2)) ((hd.1 i (by omega)).trans (by rw [if_neg (by omega)])) ?_
        refine lv_aload_n hx hb dX4_pass_29 rfl (lv_at hl 0 rfl) ?_
        refine va_get (D := D) (ci := 4) (v := .ref qn) (C := RX4) (T := TX4) (N := 9) hx hb hts iX4 hown hK hP 0 rfl rfl 7 (by decide) f26 (fun _ h9 => h9) rfl dX4_pass_30 ?_
        refine lv_iconst (v := nI 5) hx hb dX4_pass_33 (by decide +kernel) ?_
        refine k_iald hx hb hK hP 4 0 rfl rfl 5 (rfl) (by omega) (by decide) dX4_pass_34 ?_
        refine k_top (v := nI (stG q)) ((hd.2 5 (by omega)).trans n5) ?_
        refine k_idiv hx hb (nI (((stB q).getD i tp0).2 / stG q)) (nI_ne0 (by omega) (by omega)) (pk_div (by have := (o1 i (by omega)).2; omega) (by omega) (by omega)) dX4_pass_35 ?_
        refine k_iast hx hb hK hP hD hS 4 0 rfl rfl (6 + i) (rfl) (by omega) (by decide) dX4_pass_36 (fun H locs hP hD hS => ?_)
        have hP : va_P D vwCl [(mo, .inr (4, [.int tw, .int (nI (stS q)), .int (stM q), .int (nI ((stT q).length)), .ref qi, .ref qs, .ref qe, .ref qn, .ref qk])), (qi, .inl (cI, 6, .inl gi)), (qs, .inl (cI, 6, .inl gs)), (qe, .inl (cI, 6, .inl ge)), (qn, .inl (cI, 42, .inl (upd w1 (6 + i) (nI (((stB q).getD i tp0).2 / stG q)))))] H := hP
        have hD : va_D A [(mo, .inr (4, [.int tw, .int (nI (stS q)), .int (stM q), .int (nI ((stT q).length)), .ref qi, .ref qs, .ref qe, .ref qn, .ref qk])), (qi, .inl (cI, 6, .inl gi)), (qs, .inl (cI, 6, .inl gs)), (qe, .inl (cI, 6, .inl ge)), (qn, .inl (cI, 42, .inl (upd w1 (6 + i) (nI (((stB q).getD i tp0).2 / stG q)))))] := hD
        refine lv_iinc (v := nI (i + 1)) (lv' := [(1, .int (nI (i + 1))), (0, .ref mo)]) hx hb dX4_pass_37 hl (k := 1) rfl (nI_1 _) (by decide) rfl (fun ls hl => ?_)
        refine lv_goto (tgt := 2) hx hb dX4_pass_40 (by decide) ?_
        exact ih (i + 1) (upd w1 (6 + i) (nI (((stB q).getD i tp0).2 / stG q))) (by omega) (dvI_s o2 (by omega) hd) (by omega) _ _ (hP.sub [0, 1, 2, 3, 4] (rfl)) (hD.sub [0, 1, 2, 3, 4] (by decide) (rfl)) hS _ (lv_sub hl [1, 0] (rfl))
  exact loop_1 ((min (stS q) (stB q).length) + 1) 0 w (Nat.zero_le _) (dvI_0 nB) (by omega) _ _ (hP.sub [0, 1, 2, 3, 4] (rfl)) (hD.sub [0, 1, 2, 3, 4] (by decide) (rfl)) hS _ (lv_sub hl [1, 0] (rfl))

abbrev rm_X4_passes : Room := { frames := 3, cells := 0, slots := 0, locals := 67 }
set_option maxHeartbeats 4000000 in
set_option maxRecDepth 100000 in
theorem c_X4_passes (l : Launch) (D : va_G) (cI : ClassId) (mo : Nat) (qi : Nat) (qs : Nat) (qe : Nat) (qn : Nat) (qk : Nat) (tw : Int32) (sm : Int32) (sl : Nat) (nl : Nat) (gi : Nat → Int32) (gs : Nat → Int32) (ge : Nat → Int32) (w : Nat → Int32) (q : St) (kk : Nat) (hsl : sl = stS q) (hsm : sm = stM q) (hnl : nl = (stT q).length) (hN : rN gi gs ge w q) (hO : okS q) (hmi : stI q < 100000) (hk : kk < 1000) : kM kri l yX4_passes wsX4_passes rm_X4_passes D [(cI, .int)] [.ref mo, .int (nI kk)] [(mo, .inr (4, [.int tw, .int (nI sl), .int sm, .int (nI nl), .ref qi, .ref qs, .ref qe, .ref qn, .ref qk])), (qi, .inl (cI, 6, .inl gi)), (qs, .inl (cI, 6, .inl gs)), (qe, .inl (cI, 6, .inl ge)), (qn, .inl (cI, 42, .inl w))] (fun (r : Int32) (u : (Nat → Int32)) => r = nI (ctT (stT q) - ctT (stT (itS q kk))) ∧ rN gi gs ge u (itS q kk)) (fun (u : (Nat → Int32)) => [(mo, .inr (4, [.int tw, .int (nI sl), .int sm, .int (nI nl), .ref qi, .ref qs, .ref qe, .ref qn, .ref qk])), (qi, .inl (cI, 6, .inl gi)), (qs, .inl (cI, 6, .inl gs)), (qe, .inl (cI, 6, .inl ge)), (qn, .inl (cI, 42, .inl u))]) := by
  refine k_bodyI (cc := cX4_passes) (maxL := 4) (by decide) rfl (Nat.le_of_ble_eq_true rfl) ?_
  intro p e ss m args below meth c A Q F hname hA hG hK hP hD hS ret ls hl
  obtain ⟨hx, hb, hml, hown, hts⟩ := id F
  have hP : va_P D vwCl [(mo, .inr (4, [.int tw, .int (nI sl), .int sm, .int (nI nl), .ref qi, .ref qs, .ref qe, .ref qn, .ref qk])), (qi, .inl (cI, 6, .inl gi)), (qs, .inl (cI, 6, .inl gs)), (qe, .inl (cI, 6, .inl ge)), (qn, .inl (cI, 42, .inl w))] ss.heap := hP
  have hD : va_D A [(mo, .inr (4, [.int tw, .int (nI sl), .int sm, .int (nI nl), .ref qi, .ref qs, .ref qe, .ref qn, .ref qk])), (qi, .inl (cI, 6, .inl gi)), (qs, .inl (cI, 6, .inl gs)), (qe, .inl (cI, 6, .inl ge)), (qn, .inl (cI, 42, .inl w))] := hD
  have hl : lv_has ls 4 [(0, .ref mo), (1, .int (nI kk))] := hl
  subst hsl hsm hnl
  refine lv_iconst (v := nI 0) hx hb dX4_passes_0 (by decide +kernel) ?_
  refine lv_istore_n (lv' := [(2, .int (nI 0)), (0, .ref mo), (1, .int (nI kk))]) hx hb dX4_passes_1 rfl hl (by decide) rfl (fun ls hl => ?_)
  refine lv_iconst (v := nI 0) hx hb dX4_passes_2 (by decide +kernel) ?_
  refine lv_istore_n (lv' := [(3, .int (nI 0)), (2, .int (nI 0)), (0, .ref mo), (1, .int (nI kk))]) hx hb dX4_passes_3 rfl hl (by decide) rfl (fun ls hl => ?_)
  have loop_1 : ∀ (n : Nat) (i : Nat) (w1 : Nat → Int32), (i ≤ kk) → (rN gi gs ge w1 (itS q i)) → kk - i < n → ∀ (H : Heap) (locs : List Loc), va_P D vwCl [(mo, .inr (4, [.int tw, .int (nI (stS q)), .int (stM q), .int (nI ((stT q).length)), .ref qi, .ref qs, .ref qe, .ref qn, .ref qk])), (qi, .inl (cI, 6, .inl gi)), (qs, .inl (cI, 6, .inl gs)), (qe, .inl (cI, 6, .inl ge)), (qn, .inl (cI, 42, .inl w1))] H → va_D A [(mo, .inr (4, [.int tw, .int (nI (stS q)), .int (stM q), .int (nI ((stT q).length)), .ref qi, .ref qs, .ref qe, .ref qn, .ref qk])), (qi, .inl (cI, 6, .inl gi)), (qs, .inl (cI, 6, .inl gs)), (qe, .inl (cI, 6, .inl ge)), (qn, .inl (cI, 42, .inl w1))] → va_S A ss.heap H locs → ∀ ls : Array Slot, lv_has ls 4 [(0, .ref mo), (1, .int (nI kk)), (2, .int (nI (ctT (stT q) - ctT (stT (itS q i))))), (3, .int (nI i))] → W p l e rm_X4_passes ss m args below meth c H locs 0 0 Q (F0 m 4 ls []) := by
    intro n
    induction n with
    | zero => intro i w1 hi hn9 hn; exact absurd hn (by omega)
    | succ n ih =>
      intro i w1 hi hn9 hn H locs hP hD hS ls hl
      refine lv_iload_n hx hb dX4_passes_4 rfl (lv_at hl 3 rfl) ?_
      refine lv_iload_n hx hb dX4_passes_5 rfl (lv_at hl 1 rfl) ?_
      refine k_cmp_ge (tgt := 22) hx hb i kk rfl rfl (by omega) (by omega) dX4_passes_6 (by decide) (fun c_6 => ?_) (fun c_6 => ?_)
      · skip
        obtain rfl : i = kk := by omega
        refine lv_iload_n hx hb dX4_passes_22 rfl (lv_at hl 2 rfl) ?_
        exact ret (nI (ctT (stT q) - ctT (stT (itS q i)))) w1 _ _ _ _ _ _ (⟨rfl, hn9⟩) (hP.sub [0, 1, 2, 3, 4] (rfl)) (hD.sub [0, 1, 2, 3, 4] (by decide) (rfl)) hS (Nat.le_of_ble_eq_true rfl) (Nat.le_of_ble_eq_true rfl) dX4_passes_23
      · skip
        refine lv_iload_n hx hb dX4_passes_9 rfl (lv_at hl 2 rfl) ?_
        refine lv_aload_n hx hb dX4_passes_10 rfl (lv_at hl 0 rfl) ?_
        refine k_callV (As := []) (rest := [.int (nI (ctT (stT q) - ctT (stT (itS q i))))]) (wr := []) F (c_X4_pass l D cI mo qi qs qe qn qk tw (stM q) (stS q) ((stT q).length) gi gs ge w1 (itS q i) ((stS_it q i).symm) ((stM_it q i).symm) ((stT_len q i).symm) hn9 (okS_it hO i) (by rw [stI_it]; omega)) gX4_passes_X4_pass rfl (nA := 0) (by decide +kernel) rfl ⟨Nat.le_of_ble_eq_true rfl, Nat.le_of_ble_eq_true rfl⟩ hK hP hD hS hA hG (ci := 4) (q0 := 0) rfl rfl rfl [0, 1, 2, 3, 4] [] rfl (by decide) rfl (by decide) (by decide) [0] rfl rfl hl.1 (Nat.le_of_ble_eq_true rfl) dX4_passes_11 ⟨Nat.le_of_ble_eq_true rfl, Nat.le_of_ble_eq_true rfl⟩ (fun r_2 u H locs hr_11 hP hD hS => ?_)
        obtain ⟨w2, rfl⟩ : ∃ z, z = u := ⟨_, rfl⟩
        try dsimp only at hr_11
        have hP : va_P D vwCl [(mo, .inr (4, [.int tw, .int (nI (stS q)), .int (stM q), .int (nI ((stT q).length)), .ref qi, .ref qs, .ref qe, .ref qn, .ref qk])), (qi, .inl (cI, 6, .inl gi)), (qs, .inl (cI, 6, .inl gs)), (qe, .inl (cI, 6, .inl ge)), (qn, .inl (cI, 42, .inl w2))] H := hP
        have hD : va_D A [(mo, .inr (4, [.int tw, .int (nI (stS q)), .int (stM q), .int (nI ((stT q).length)), .ref qi, .ref qs, .ref qe, .ref qn, .ref qk])), (qi, .inl (cI, 6, .inl gi)), (qs, .inl (cI, 6, .inl gs)), (qe, .inl (cI, 6, .inl ge)), (qn, .inl (cI, 42, .inl w2))] := hD
        refine W.eq (g2 := F0 m 14 ls [.int r_2, .int (nI (ctT (stT q) - ctT (stT (itS q i))))]) rfl ?_
        refine W.widen (k := 0) (n := 0) (Nat.le_of_ble_eq_true rfl) (Nat.le_of_ble_eq_true rfl) ?_
        refine k_top (v := nI (ctT (stT (itS q i)) - ctT (stT (mnt (itS q i))))) (hr_11.1) ?_
        refine k_iadd hx hb (nI (ctT (stT q) - ctT (stT (itS q (i + 1))))) ((nI_add _ _).trans (congrArg nI (go_add q i))) dX4_passes_14 ?_
        refine lv_istore_n (lv' := [(2, .int (nI (ctT (stT q) - ctT (stT (itS q (i + 1)))))), (0, .ref mo), (1, .int (nI kk)), (3, .int (nI i))]) hx hb dX4_passes_15 rfl hl (by decide) rfl (fun ls hl => ?_)
        refine lv_iinc (v := nI (i + 1)) (lv' := [(3, .int (nI (i + 1))), (2, .int (nI (ctT (stT q) - ctT (stT (itS q (i + 1)))))), (0, .ref mo), (1, .int (nI kk))]) hx hb dX4_passes_16 hl (k := 3) rfl (nI_1 _) (by decide) rfl (fun ls hl => ?_)
        refine lv_goto (tgt := 4) hx hb dX4_passes_19 (by decide) ?_
        exact ih (i + 1) w2 (by omega) hr_11.2 (by omega) _ _ (hP.sub [0, 1, 2, 3, 4] (rfl)) (hD.sub [0, 1, 2, 3, 4] (by decide) (rfl)) hS _ (lv_sub hl [2, 3, 1, 0] (rfl))
  exact loop_1 (kk + 1) 0 w (Nat.zero_le _) hN (by omega) _ _ (hP.sub [0, 1, 2, 3, 4] (rfl)) (hD.sub [0, 1, 2, 3, 4] (by decide) (rfl)) hS _ (lv_sub hl [2, 3, 1, 0] (by rw [show ctT (stT q) - ctT (stT (itS q 0)) = 0 from Nat.sub_self _]; rfl))

