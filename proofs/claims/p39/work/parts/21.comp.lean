abbrev rm_X3_divides : Room := { frames := 0, cells := 0, slots := 0, locals := 0 }
set_option maxHeartbeats 4000000 in
set_option maxRecDepth 100000 in
theorem c_X3_divides (l : Launch) (D : va_G) (cI : ClassId) (d : Int32) (mi : Nat) (hd9 : ¬ d = 0) : kM kri l yX3_divides wsX3_divides rm_X3_divides D [(cI, .int)] [.int d, .int (nI mi)] [] (fun (r : Int32) (u : Unit) => r = (if nI mi - nI mi / d * d = 0 then 1 else 0)) (fun (u : Unit) => []) := by
  refine k_bodyZ (cc := cX3_divides) (maxL := 2) (by decide) rfl (Nat.le_of_ble_eq_true rfl) ?_
  intro p e ss m args below meth c A Q F hname hA hG hK hP hD hS ret ls hl
  obtain ⟨hx, hb, hml, hown, hts⟩ := id F
  have hP : va_P D vwCl [] ss.heap := hP
  have hD : va_D A [] := hD
  have hl : lv_has ls 2 [(0, .int d), (1, .int (nI mi))] := hl
  refine lv_iload_n hx hb dX3_divides_0 rfl (lv_at hl 0 rfl) ?_
  refine lv_if_eq (tgt := 14) hx hb dX3_divides_1 (by decide) (fun c_1 => ?_) (fun c_1 => ?_)
  · skip
    exact absurd c_1 hd9
  · skip
    refine lv_iload_n hx hb dX3_divides_4 rfl (lv_at hl 1 rfl) ?_
    refine lv_iload_n hx hb dX3_divides_5 rfl (lv_at hl 0 rfl) ?_
    refine k_irem hx hb (nI mi - nI mi / d * d) (hd9) (rfl) dX3_divides_6 ?_
    refine lv_if_ne (tgt := 14) hx hb dX3_divides_7 (by decide) (fun c_7 => ?_) (fun c_7 => ?_)
    · skip
      refine lv_iconst (v := nI 0) hx hb dX3_divides_14 (by decide +kernel) ?_
      exact ret (nI 0) () _ _ _ _ _ _ rfl (by rw [if_neg c_7]; rfl) (hP.sub [] (rfl)) (hD.sub [] (by decide) (rfl)) hS (Nat.le_of_ble_eq_true rfl) (Nat.le_of_ble_eq_true rfl) dX3_divides_15
    · skip
      refine lv_iconst (v := nI 1) hx hb dX3_divides_10 (by decide +kernel) ?_
      refine lv_goto (tgt := 15) hx hb dX3_divides_11 (by decide) ?_
      exact ret (nI 1) () _ _ _ _ _ _ rfl (by rw [if_pos c_7]; rfl) (hP.sub [] (rfl)) (hD.sub [] (by decide) (rfl)) hS (Nat.le_of_ble_eq_true rfl) (Nat.le_of_ble_eq_true rfl) dX3_divides_15

abbrev rm_X1_isFull : Room := { frames := 0, cells := 0, slots := 0, locals := 0 }
set_option maxHeartbeats 4000000 in
set_option maxRecDepth 100000 in
theorem c_X1_isFull (l : Launch) (D : va_G) (cI : ClassId) (ca : Nat) (c1 : Nat) (c2 : Nat) (c3 : Nat) (c4 : Nat) (c5 : Nat) (n : Nat) (hn : n ≤ 6) : kM kri l yX1_isFull wsX1_isFull rm_X1_isFull D [(cI, .int)] [.ref ca] [(ca, .inr (1, [.ref c1, .ref c2, .ref c3, .ref c4, .ref c5, .int (nI n)]))] (fun (r : Int32) (u : Unit) => r = (if 6 ≤ n then 1 else 0)) (fun (u : Unit) => [(ca, .inr (1, [.ref c1, .ref c2, .ref c3, .ref c4, .ref c5, .int (nI n)]))]) := by
  refine k_bodyZ (cc := cX1_isFull) (maxL := 1) (by decide) rfl (Nat.le_of_ble_eq_true rfl) ?_
  intro p e ss m args below meth c A Q F hname hA hG hK hP hD hS ret ls hl
  obtain ⟨hx, hb, hml, hown, hts⟩ := id F
  have hP : va_P D vwCl [(ca, .inr (1, [.ref c1, .ref c2, .ref c3, .ref c4, .ref c5, .int (nI n)]))] ss.heap := hP
  have hD : va_D A [(ca, .inr (1, [.ref c1, .ref c2, .ref c3, .ref c4, .ref c5, .int (nI n)]))] := hD
  have hl : lv_has ls 1 [(0, .ref ca)] := hl
  have iX1 : ∀ w ∈ u_ws RX1 TX1 6, w ∈ wsX1_isFull := by decide +kernel
  have f27 := hts (.fieldLink RX1 27 "SmallerTalk$Company" "count" "I") (by decide +kernel)
  refine lv_aload_n hx hb dX1_isFull_0 rfl (lv_at hl 0 rfl) ?_
  refine va_get (D := D) (ci := 1) (v := .int (nI n)) (C := RX1) (T := TX1) (N := 6) hx hb hts iX1 hown hK hP 0 rfl rfl 5 (by decide) f27 (fun _ h9 => h9) rfl dX1_isFull_1 ?_
  refine lv_bipush (v := nI 6) hx hb dX1_isFull_4 (by decide +kernel) ?_
  refine k_cmp_lt (tgt := 13) hx hb n 6 rfl rfl (by omega) (by omega) dX1_isFull_6 (by decide) (fun c_6 => ?_) (fun c_6 => ?_)
  · skip
    refine lv_iconst (v := nI 0) hx hb dX1_isFull_13 (by decide +kernel) ?_
    exact ret (nI 0) () _ _ _ _ _ _ rfl (by rw [if_neg (by omega)]; rfl) (hP.sub [0] (rfl)) (hD.sub [0] (by decide) (rfl)) hS (Nat.le_of_ble_eq_true rfl) (Nat.le_of_ble_eq_true rfl) dX1_isFull_14
  · skip
    refine lv_iconst (v := nI 1) hx hb dX1_isFull_9 (by decide +kernel) ?_
    refine lv_goto (tgt := 14) hx hb dX1_isFull_10 (by decide) ?_
    exact ret (nI 1) () _ _ _ _ _ _ rfl (by rw [if_pos (by omega)]; rfl) (hP.sub [0] (rfl)) (hD.sub [0] (by decide) (rfl)) hS (Nat.le_of_ble_eq_true rfl) (Nat.le_of_ble_eq_true rfl) dX1_isFull_14

abbrev rm_X1_knows : Room := { frames := 0, cells := 0, slots := 0, locals := 0 }
set_option maxHeartbeats 4000000 in
set_option maxRecDepth 100000 in
theorem c_X1_knows (l : Launch) (D : va_G) (cI : ClassId) (ca : Nat) (c1 : Nat) (c2 : Nat) (c3 : Nat) (c4 : Nat) (c5 : Nat) (n : Nat) (j : Nat) (hn : n ≤ 6) (hj : j < n) : kM kri l yX1_knows wsX1_knows rm_X1_knows D [(cI, .int)] [.ref ca, .int (nI j)] [(ca, .inr (1, [.ref c1, .ref c2, .ref c3, .ref c4, .ref c5, .int (nI n)]))] (fun (r : Int32) (u : Unit) => r = 1) (fun (u : Unit) => [(ca, .inr (1, [.ref c1, .ref c2, .ref c3, .ref c4, .ref c5, .int (nI n)]))]) := by
  refine k_bodyZ (cc := cX1_knows) (maxL := 2) (by decide) rfl (Nat.le_of_ble_eq_true rfl) ?_
  intro p e ss m args below meth c A Q F hname hA hG hK hP hD hS ret ls hl
  obtain ⟨hx, hb, hml, hown, hts⟩ := id F
  have hP : va_P D vwCl [(ca, .inr (1, [.ref c1, .ref c2, .ref c3, .ref c4, .ref c5, .int (nI n)]))] ss.heap := hP
  have hD : va_D A [(ca, .inr (1, [.ref c1, .ref c2, .ref c3, .ref c4, .ref c5, .int (nI n)]))] := hD
  have hl : lv_has ls 2 [(0, .ref ca), (1, .int (nI j))] := hl
  have iX1 : ∀ w ∈ u_ws RX1 TX1 6, w ∈ wsX1_knows := by decide +kernel
  have f27 := hts (.fieldLink RX1 27 "SmallerTalk$Company" "count" "I") (by decide +kernel)
  refine lv_iload_n hx hb dX1_knows_0 rfl (lv_at hl 1 rfl) ?_
  refine k_if_lt (tgt := 16) hx hb j rfl (by omega) dX1_knows_1 (by decide) (fun c_1 => ?_) (fun c_1 => ?_)
  · exact c_1.elim
  · skip
    refine lv_iload_n hx hb dX1_knows_4 rfl (lv_at hl 1 rfl) ?_
    refine lv_aload_n hx hb dX1_knows_5 rfl (lv_at hl 0 rfl) ?_
    refine va_get (D := D) (ci := 1) (v := .int (nI n)) (C := RX1) (T := TX1) (N := 6) hx hb hts iX1 hown hK hP 0 rfl rfl 5 (by decide) f27 (fun _ h9 => h9) rfl dX1_knows_6 ?_
    refine k_cmp_ge (tgt := 16) hx hb j n rfl rfl (by omega) (by omega) dX1_knows_9 (by decide) (fun c_9 => ?_) (fun c_9 => ?_)
    · skip
      exact absurd c_9 (by omega)
    · skip
      refine lv_iconst (v := nI 1) hx hb dX1_knows_12 (by decide +kernel) ?_
      refine lv_goto (tgt := 17) hx hb dX1_knows_13 (by decide) ?_
      exact ret (nI 1) () _ _ _ _ _ _ rfl (rfl) (hP.sub [0] (rfl)) (hD.sub [0] (by decide) (rfl)) hS (Nat.le_of_ble_eq_true rfl) (Nat.le_of_ble_eq_true rfl) dX1_knows_17

abbrev rm_X1_knows_no : Room := { frames := 0, cells := 0, slots := 0, locals := 0 }
set_option maxHeartbeats 4000000 in
set_option maxRecDepth 100000 in
theorem c_X1_knows_no (l : Launch) (D : va_G) (cI : ClassId) (ca : Nat) (c1 : Nat) (c2 : Nat) (c3 : Nat) (c4 : Nat) (c5 : Nat) (n : Nat) (x : Int32) (hn : n ≤ 6) (hx9 : ∀ j, j < n → ¬ x = nI j) : kM kri l yX1_knows wsX1_knows rm_X1_knows_no D [(cI, .int)] [.ref ca, .int x] [(ca, .inr (1, [.ref c1, .ref c2, .ref c3, .ref c4, .ref c5, .int (nI n)]))] (fun (r : Int32) (u : Unit) => r = 0) (fun (u : Unit) => [(ca, .inr (1, [.ref c1, .ref c2, .ref c3, .ref c4, .ref c5, .int (nI n)]))]) := by
  refine k_bodyZ (cc := cX1_knows) (maxL := 2) (by decide) rfl (Nat.le_of_ble_eq_true rfl) ?_
  intro p e ss m args below meth c A Q F hname hA hG hK hP hD hS ret ls hl
  obtain ⟨hx, hb, hml, hown, hts⟩ := id F
  have hP : va_P D vwCl [(ca, .inr (1, [.ref c1, .ref c2, .ref c3, .ref c4, .ref c5, .int (nI n)]))] ss.heap := hP
  have hD : va_D A [(ca, .inr (1, [.ref c1, .ref c2, .ref c3, .ref c4, .ref c5, .int (nI n)]))] := hD
  have hl : lv_has ls 2 [(0, .ref ca), (1, .int x)] := hl
  have iX1 : ∀ w ∈ u_ws RX1 TX1 6, w ∈ wsX1_knows := by decide +kernel
  have f27 := hts (.fieldLink RX1 27 "SmallerTalk$Company" "count" "I") (by decide +kernel)
  refine lv_iload_n hx hb dX1_knows_0 rfl (lv_at hl 1 rfl) ?_
  refine lv_if_lt (tgt := 16) hx hb dX1_knows_1 (by decide) (fun c_1 => ?_) (fun c_1 => ?_)
  · skip
    refine lv_iconst (v := nI 0) hx hb dX1_knows_16 (by decide +kernel) ?_
    exact ret (nI 0) () _ _ _ _ _ _ rfl (rfl) (hP.sub [0] (rfl)) (hD.sub [0] (by decide) (rfl)) hS (Nat.le_of_ble_eq_true rfl) (Nat.le_of_ble_eq_true rfl) dX1_knows_17
  · skip
    refine lv_iload_n hx hb dX1_knows_4 rfl (lv_at hl 1 rfl) ?_
    refine lv_aload_n hx hb dX1_knows_5 rfl (lv_at hl 0 rfl) ?_
    refine va_get (D := D) (ci := 1) (v := .int (nI n)) (C := RX1) (T := TX1) (N := 6) hx hb hts iX1 hown hK hP 0 rfl rfl 5 (by decide) f27 (fun _ h9 => h9) rfl dX1_knows_6 ?_
    refine lv_icmp_ge (tgt := 16) hx hb dX1_knows_9 (by decide) (fun c_9 => ?_) (fun c_9 => ?_)
    · skip
      refine lv_iconst (v := nI 0) hx hb dX1_knows_16 (by decide +kernel) ?_
      exact ret (nI 0) () _ _ _ _ _ _ rfl (rfl) (hP.sub [0] (rfl)) (hD.sub [0] (by decide) (rfl)) hS (Nat.le_of_ble_eq_true rfl) (Nat.le_of_ble_eq_true rfl) dX1_knows_17
    · skip
      exact (k_out (by omega) hx9 c_1 c_9).elim

abbrev rm_X1_isThere : Room := { frames := 1, cells := 0, slots := 0, locals := 21 }
set_option maxHeartbeats 4000000 in
set_option maxRecDepth 100000 in
theorem c_X1_isThere (l : Launch) (D : va_G) (cI : ClassId) (ca : Nat) (c1 : Nat) (c2 : Nat) (c3 : Nat) (c4 : Nat) (c5 : Nat) (w1 : Nat → Int32) (w2 : Nat → Int32) (w3 : Nat → Int32) (w4 : Nat → Int32) (w5 : Nat → Int32) (T : List Tk) (j : Nat) (hC : rC w1 w2 w3 w4 w5 T) (hj : j < T.length) : kM kri l yX1_isThere wsX1_isThere rm_X1_isThere D [(cI, .int)] [.ref ca, .int (nI j)] [(ca, .inr (1, [.ref c1, .ref c2, .ref c3, .ref c4, .ref c5, .int (nI T.length)])), (c5, .inl (cI, 6, .inl w5))] (fun (r : Int32) (u : Unit) => r = (if tkX (T.getD j tk0) = -1 then 1 else 0)) (fun (u : Unit) => [(ca, .inr (1, [.ref c1, .ref c2, .ref c3, .ref c4, .ref c5, .int (nI T.length)])), (c5, .inl (cI, 6, .inl w5))]) := by
  refine k_bodyZ (cc := cX1_isThere) (maxL := 2) (by decide) rfl (Nat.le_of_ble_eq_true rfl) ?_
  intro p e ss m args below meth c A Q F hname hA hG hK hP hD hS ret ls hl
  obtain ⟨hx, hb, hml, hown, hts⟩ := id F
  have hP : va_P D vwCl [(ca, .inr (1, [.ref c1, .ref c2, .ref c3, .ref c4, .ref c5, .int (nI T.length)])), (c5, .inl (cI, 6, .inl w5))] ss.heap := hP
  have hD : va_D A [(ca, .inr (1, [.ref c1, .ref c2, .ref c3, .ref c4, .ref c5, .int (nI T.length)])), (c5, .inl (cI, 6, .inl w5))] := hD
  have hl : lv_has ls 2 [(0, .ref ca), (1, .int (nI j))] := hl
  have iX1 : ∀ w ∈ u_ws RX1 TX1 6, w ∈ wsX1_isThere := by decide +kernel
  have f24 := hts (.fieldLink RX1 24 "SmallerTalk$Company" "exits" "[I") (by decide +kernel)
  have h6 := hC.1
  refine lv_aload_n hx hb dX1_isThere_0 rfl (lv_at hl 0 rfl) ?_
  refine lv_iload_n hx hb dX1_isThere_1 rfl (lv_at hl 1 rfl) ?_
  refine k_callV (As := [.int (nI j)]) (rest := []) (wr := [(c5, .inl (cI, 6, .inl w5))]) F (c_X1_knows l D cI ca c1 c2 c3 c4 c5 T.length j h6 hj) gX1_isThere_X1_knows rfl (nA := 1) (by decide +kernel) rfl ⟨Nat.le_of_ble_eq_true rfl, Nat.le_of_ble_eq_true rfl⟩ hK hP hD hS hA hG (ci := 1) (q0 := 0) rfl rfl rfl [0] [1] rfl (by decide) rfl (by decide) (by decide) [0] rfl rfl hl.1 (Nat.le_of_ble_eq_true rfl) dX1_isThere_2 ⟨Nat.le_of_ble_eq_true rfl, Nat.le_of_ble_eq_true rfl⟩ (fun r_1 u H locs hr_2 hP hD hS => ?_)
  try dsimp only at hr_2
  have hP : va_P D vwCl [(c5, .inl (cI, 6, .inl w5)), (ca, .inr (1, [.ref c1, .ref c2, .ref c3, .ref c4, .ref c5, .int (nI T.length)]))] H := hP
  have hD : va_D A [(c5, .inl (cI, 6, .inl w5)), (ca, .inr (1, [.ref c1, .ref c2, .ref c3, .ref c4, .ref c5, .int (nI T.length)]))] := hD
  refine W.eq (g2 := F0 m 5 ls [.int r_1]) rfl ?_
  refine W.widen (k := 0) (n := 0) (Nat.le_of_ble_eq_true rfl) (Nat.le_of_ble_eq_true rfl) ?_
  refine k_top (v := nI 1) (hr_2) ?_
  refine k_if_eq (tgt := 22) hx hb 1 rfl (by omega) dX1_isThere_5 (by decide) (fun c_5 => ?_) (fun c_5 => ?_)
  · exact absurd c_5 (by omega)
  · skip
    refine lv_aload_n hx hb dX1_isThere_8 rfl (lv_at hl 0 rfl) ?_
    refine va_get (D := D) (ci := 1) (v := .ref c5) (C := RX1) (T := TX1) (N := 6) hx hb hts iX1 hown hK hP 1 rfl rfl 4 (by decide) f24 (fun _ h9 => h9) rfl dX1_isThere_9 ?_
    refine lv_iload_n hx hb dX1_isThere_12 rfl (lv_at hl 1 rfl) ?_
    refine k_iald hx hb hK hP 0 0 rfl rfl j (rfl) (by omega) (by decide) dX1_isThere_13 ?_
    refine k_top (v := tkX (T.getD j tk0)) ((hC.2 j hj).2.2.2.2) ?_
    refine lv_iconst (v := -1) hx hb dX1_isThere_14 (by decide +kernel) ?_
    refine lv_icmp_ne (tgt := 22) hx hb dX1_isThere_15 (by decide) (fun c_15 => ?_) (fun c_15 => ?_)
    · skip
      refine lv_iconst (v := nI 0) hx hb dX1_isThere_22 (by decide +kernel) ?_
      exact ret (nI 0) () _ _ _ _ _ _ rfl (by rw [if_neg c_15]; rfl) (hP.sub [1, 0] (rfl)) (hD.sub [1, 0] (by decide) (rfl)) hS (Nat.le_of_ble_eq_true rfl) (Nat.le_of_ble_eq_true rfl) dX1_isThere_23
    · skip
      refine lv_iconst (v := nI 1) hx hb dX1_isThere_18 (by decide +kernel) ?_
      refine lv_goto (tgt := 23) hx hb dX1_isThere_19 (by decide) ?_
      exact ret (nI 1) () _ _ _ _ _ _ rfl (by rw [if_pos c_15]; rfl) (hP.sub [1, 0] (rfl)) (hD.sub [1, 0] (by decide) (rfl)) hS (Nat.le_of_ble_eq_true rfl) (Nat.le_of_ble_eq_true rfl) dX1_isThere_23

abbrev rm_X1_join : Room := { frames := 1, cells := 0, slots := 0, locals := 20 }
set_option maxHeartbeats 4000000 in
set_option maxRecDepth 100000 in
theorem c_X1_join (l : Launch) (D : va_G) (cI : ClassId) (ca : Nat) (c1 : Nat) (c2 : Nat) (c3 : Nat) (c4 : Nat) (c5 : Nat) (w1 : Nat → Int32) (w2 : Nat → Int32) (w3 : Nat → Int32) (w4 : Nat → Int32) (w5 : Nat → Int32) (T : List Tk) (kd : Int32) (ea : Int32) (z : Nat) (hC : rC w1 w2 w3 w4 w5 T) (h6 : T.length < 6) : kM krv l yX1_join wsX1_join rm_X1_join D [(cI, .int)] [.ref ca, .int kd, .int (nI z), .int ea] [(ca, .inr (1, [.ref c1, .ref c2, .ref c3, .ref c4, .ref c5, .int (nI T.length)])), (c1, .inl (cI, 6, .inl w1)), (c2, .inl (cI, 6, .inl w2)), (c3, .inl (cI, 6, .inl w3)), (c4, .inl (cI, 6, .inl w4)), (c5, .inl (cI, 6, .inl w5))] (fun (r : Unit) (u : (Nat → Int32) × (Nat → Int32) × (Nat → Int32) × (Nat → Int32) × (Nat → Int32)) => rC u.1 u.2.1 u.2.2.1 u.2.2.2.1 u.2.2.2.2 (T ++ [(kd, z, ea, 30, -1)])) (fun (u : (Nat → Int32) × (Nat → Int32) × (Nat → Int32) × (Nat → Int32) × (Nat → Int32)) => [(ca, .inr (1, [.ref c1, .ref c2, .ref c3, .ref c4, .ref c5, .int (nI ((T ++ [(kd, z, ea, 30, -1)]).length))])), (c1, .inl (cI, 6, .inl u.1)), (c2, .inl (cI, 6, .inl u.2.1)), (c3, .inl (cI, 6, .inl u.2.2.1)), (c4, .inl (cI, 6, .inl u.2.2.2.1)), (c5, .inl (cI, 6, .inl u.2.2.2.2))]) := by
  refine k_bodyV (cc := cX1_join) (maxL := 4) (by decide) rfl (Nat.le_of_ble_eq_true rfl) ?_
  intro p e ss m args below meth c A Q F hname hA hG hK hP hD hS ret ls hl
  obtain ⟨hx, hb, hml, hown, hts⟩ := id F
  have hP : va_P D vwCl [(ca, .inr (1, [.ref c1, .ref c2, .ref c3, .ref c4, .ref c5, .int (nI T.length)])), (c1, .inl (cI, 6, .inl w1)), (c2, .inl (cI, 6, .inl w2)), (c3, .inl (cI, 6, .inl w3)), (c4, .inl (cI, 6, .inl w4)), (c5, .inl (cI, 6, .inl w5))] ss.heap := hP
  have hD : va_D A [(ca, .inr (1, [.ref c1, .ref c2, .ref c3, .ref c4, .ref c5, .int (nI T.length)])), (c1, .inl (cI, 6, .inl w1)), (c2, .inl (cI, 6, .inl w2)), (c3, .inl (cI, 6, .inl w3)), (c4, .inl (cI, 6, .inl w4)), (c5, .inl (cI, 6, .inl w5))] := hD
  have hl : lv_has ls 4 [(0, .ref ca), (1, .int kd), (2, .int (nI z)), (3, .int ea)] := hl
  have iX1 : ∀ w ∈ u_ws RX1 TX1 6, w ∈ wsX1_join := by decide +kernel
  have f9 := hts (.fieldLink RX1 9 "SmallerTalk$Company" "kinds" "[I") (by decide +kernel)
  have f15 := hts (.fieldLink RX1 15 "SmallerTalk$Company" "sizes" "[I") (by decide +kernel)
  have f18 := hts (.fieldLink RX1 18 "SmallerTalk$Company" "minutesBetween" "[I") (by decide +kernel)
  have f21 := hts (.fieldLink RX1 21 "SmallerTalk$Company" "patience" "[I") (by decide +kernel)
  have f24 := hts (.fieldLink RX1 24 "SmallerTalk$Company" "exits" "[I") (by decide +kernel)
  have f27 := hts (.fieldLink RX1 27 "SmallerTalk$Company" "count" "I") (by decide +kernel)
  refine lv_aload_n hx hb dX1_join_0 rfl (lv_at hl 0 rfl) ?_
  refine k_callV (As := []) (rest := []) (wr := [(c1, .inl (cI, 6, .inl w1)), (c2, .inl (cI, 6, .inl w2)), (c3, .inl (cI, 6, .inl w3)), (c4, .inl (cI, 6, .inl w4)), (c5, .inl (cI, 6, .inl w5))]) F (c_X1_isFull l D cI ca c1 c2 c3 c4 c5 T.length (by omega)) gX1_join_X1_isFull rfl (nA := 0) (by decide +kernel) rfl ⟨Nat.le_of_ble_eq_true rfl, Nat.le_of_ble_eq_true rfl⟩ hK hP hD hS hA hG (ci := 1) (q0 := 0) rfl rfl rfl [0] [1, 2, 3, 4, 5] rfl (by decide) rfl (by decide) (by decide) [0] rfl rfl hl.1 (Nat.le_of_ble_eq_true rfl) dX1_join_1 ⟨Nat.le_of_ble_eq_true rfl, Nat.le_of_ble_eq_true rfl⟩ (fun r_1 u H locs hr_1 hP hD hS => ?_)
  try dsimp only at hr_1
  have hP : va_P D vwCl [(c1, .inl (cI, 6, .inl w1)), (c2, .inl (cI, 6, .inl w2)), (c3, .inl (cI, 6, .inl w3)), (c4, .inl (cI, 6, .inl w4)), (c5, .inl (cI, 6, .inl w5)), (ca, .inr (1, [.ref c1, .ref c2, .ref c3, .ref c4, .ref c5, .int (nI T.length)]))] H := hP
  have hD : va_D A [(c1, .inl (cI, 6, .inl w1)), (c2, .inl (cI, 6, .inl w2)), (c3, .inl (cI, 6, .inl w3)), (c4, .inl (cI, 6, .inl w4)), (c5, .inl (cI, 6, .inl w5)), (ca, .inr (1, [.ref c1, .ref c2, .ref c3, .ref c4, .ref c5, .int (nI T.length)]))] := hD
  refine W.eq (g2 := F0 m 4 ls [.int r_1]) rfl ?_
  refine W.widen (k := 0) (n := 0) (Nat.le_of_ble_eq_true rfl) (Nat.le_of_ble_eq_true rfl) ?_
  refine k_top (v := nI 0) (hr_1.trans (if_neg (by omega))) ?_
  refine k_if_eq (tgt := 8) hx hb 0 rfl (by omega) dX1_join_4 (by decide) (fun c_4 => ?_) (fun c_4 => ?_)
  · skip
    refine lv_aload_n hx hb dX1_join_8 rfl (lv_at hl 0 rfl) ?_
    refine va_get (D := D) (ci := 1) (v := .ref c1) (C := RX1) (T := TX1) (N := 6) hx hb hts iX1 hown hK hP 5 rfl rfl 0 (by decide) f9 (fun _ h9 => h9) rfl dX1_join_9 ?_
    refine lv_aload_n hx hb dX1_join_12 rfl (lv_at hl 0 rfl) ?_
    refine va_get (D := D) (ci := 1) (v := .int (nI T.length)) (C := RX1) (T := TX1) (N := 6) hx hb hts iX1 hown hK hP 5 rfl rfl 5 (by decide) f27 (fun _ h9 => h9) rfl dX1_join_13 ?_
    refine lv_iload_n hx hb dX1_join_16 rfl (lv_at hl 1 rfl) ?_
    refine k_iast hx hb hK hP hD hS 0 0 rfl rfl T.length (rfl) (by omega) (by decide) dX1_join_17 (fun H locs hP hD hS => ?_)
    have hP : va_P D vwCl [(c1, .inl (cI, 6, .inl (upd w1 T.length kd))), (c2, .inl (cI, 6, .inl w2)), (c3, .inl (cI, 6, .inl w3)), (c4, .inl (cI, 6, .inl w4)), (c5, .inl (cI, 6, .inl w5)), (ca, .inr (1, [.ref c1, .ref c2, .ref c3, .ref c4, .ref c5, .int (nI T.length)]))] H := hP
    have hD : va_D A [(c1, .inl (cI, 6, .inl (upd w1 T.length kd))), (c2, .inl (cI, 6, .inl w2)), (c3, .inl (cI, 6, .inl w3)), (c4, .inl (cI, 6, .inl w4)), (c5, .inl (cI, 6, .inl w5)), (ca, .inr (1, [.ref c1, .ref c2, .ref c3, .ref c4, .ref c5, .int (nI T.length)]))] := hD
    refine lv_aload_n hx hb dX1_join_18 rfl (lv_at hl 0 rfl) ?_
    refine va_get (D := D) (ci := 1) (v := .ref c2) (C := RX1) (T := TX1) (N := 6) hx hb hts iX1 hown hK hP 5 rfl rfl 1 (by decide) f15 (fun _ h9 => h9) rfl dX1_join_19 ?_
    refine lv_aload_n hx hb dX1_join_22 rfl (lv_at hl 0 rfl) ?_
    refine va_get (D := D) (ci := 1) (v := .int (nI T.length)) (C := RX1) (T := TX1) (N := 6) hx hb hts iX1 hown hK hP 5 rfl rfl 5 (by decide) f27 (fun _ h9 => h9) rfl dX1_join_23 ?_
    refine lv_iload_n hx hb dX1_join_26 rfl (lv_at hl 2 rfl) ?_
    refine k_iast hx hb hK hP hD hS 1 0 rfl rfl T.length (rfl) (by omega) (by decide) dX1_join_27 (fun H locs hP hD hS => ?_)
    have hP : va_P D vwCl [(c1, .inl (cI, 6, .inl (upd w1 T.length kd))), (c2, .inl (cI, 6, .inl (upd w2 T.length (nI z)))), (c3, .inl (cI, 6, .inl w3)), (c4, .inl (cI, 6, .inl w4)), (c5, .inl (cI, 6, .inl w5)), (ca, .inr (1, [.ref c1, .ref c2, .ref c3, .ref c4, .ref c5, .int (nI T.length)]))] H := hP
    have hD : va_D A [(c1, .inl (cI, 6, .inl (upd w1 T.length kd))), (c2, .inl (cI, 6, .inl (upd w2 T.length (nI z)))), (c3, .inl (cI, 6, .inl w3)), (c4, .inl (cI, 6, .inl w4)), (c5, .inl (cI, 6, .inl w5)), (ca, .inr (1, [.ref c1, .ref c2, .ref c3, .ref c4, .ref c5, .int (nI T.length)]))] := hD
    refine lv_aload_n hx hb dX1_join_28 rfl (lv_at hl 0 rfl) ?_
    refine va_get (D := D) (ci := 1) (v := .ref c3) (C := RX1) (T := TX1) (N := 6) hx hb hts iX1 hown hK hP 5 rfl rfl 2 (by decide) f18 (fun _ h9 => h9) rfl dX1_join_29 ?_
    refine lv_aload_n hx hb dX1_join_32 rfl (lv_at hl 0 rfl) ?_
    refine va_get (D := D) (ci := 1) (v := .int (nI T.length)) (C := RX1) (T := TX1) (N := 6) hx hb hts iX1 hown hK hP 5 rfl rfl 5 (by decide) f27 (fun _ h9 => h9) rfl dX1_join_33 ?_
    refine lv_iload_n hx hb dX1_join_36 rfl (lv_at hl 3 rfl) ?_
    refine k_iast hx hb hK hP hD hS 2 0 rfl rfl T.length (rfl) (by omega) (by decide) dX1_join_37 (fun H locs hP hD hS => ?_)
    have hP : va_P D vwCl [(c1, .inl (cI, 6, .inl (upd w1 T.length kd))), (c2, .inl (cI, 6, .inl (upd w2 T.length (nI z)))), (c3, .inl (cI, 6, .inl (upd w3 T.length ea))), (c4, .inl (cI, 6, .inl w4)), (c5, .inl (cI, 6, .inl w5)), (ca, .inr (1, [.ref c1, .ref c2, .ref c3, .ref c4, .ref c5, .int (nI T.length)]))] H := hP
    have hD : va_D A [(c1, .inl (cI, 6, .inl (upd w1 T.length kd))), (c2, .inl (cI, 6, .inl (upd w2 T.length (nI z)))), (c3, .inl (cI, 6, .inl (upd w3 T.length ea))), (c4, .inl (cI, 6, .inl w4)), (c5, .inl (cI, 6, .inl w5)), (ca, .inr (1, [.ref c1, .ref c2, .ref c3, .ref c4, .ref c5, .int (nI T.length)]))] := hD
    refine lv_aload_n hx hb dX1_join_38 rfl (lv_at hl 0 rfl) ?_
    refine va_get (D := D) (ci := 1) (v := .ref c4) (C := RX1) (T := TX1) (N := 6) hx hb hts iX1 hown hK hP 5 rfl rfl 3 (by decide) f21 (fun _ h9 => h9) rfl dX1_join_39 ?_
    refine lv_aload_n hx hb dX1_join_42 rfl (lv_at hl 0 rfl) ?_
    refine va_get (D := D) (ci := 1) (v := .int (nI T.length)) (C := RX1) (T := TX1) (N := 6) hx hb hts iX1 hown hK hP 5 rfl rfl 5 (by decide) f27 (fun _ h9 => h9) rfl dX1_join_43 ?_
    refine lv_bipush (v := nI 30) hx hb dX1_join_46 (by decide +kernel) ?_
    refine k_iast hx hb hK hP hD hS 3 0 rfl rfl T.length (rfl) (by omega) (by decide) dX1_join_48 (fun H locs hP hD hS => ?_)
    have hP : va_P D vwCl [(c1, .inl (cI, 6, .inl (upd w1 T.length kd))), (c2, .inl (cI, 6, .inl (upd w2 T.length (nI z)))), (c3, .inl (cI, 6, .inl (upd w3 T.length ea))), (c4, .inl (cI, 6, .inl (upd w4 T.length (nI 30)))), (c5, .inl (cI, 6, .inl w5)), (ca, .inr (1, [.ref c1, .ref c2, .ref c3, .ref c4, .ref c5, .int (nI T.length)]))] H := hP
    have hD : va_D A [(c1, .inl (cI, 6, .inl (upd w1 T.length kd))), (c2, .inl (cI, 6, .inl (upd w2 T.length (nI z)))), (c3, .inl (cI, 6, .inl (upd w3 T.length ea))), (c4, .inl (cI, 6, .inl (upd w4 T.length (nI 30)))), (c5, .inl (cI, 6, .inl w5)), (ca, .inr (1, [.ref c1, .ref c2, .ref c3, .ref c4, .ref c5, .int (nI T.length)]))] := hD
    refine lv_aload_n hx hb dX1_join_49 rfl (lv_at hl 0 rfl) ?_
    refine va_get (D := D) (ci := 1) (v := .ref c5) (C := RX1) (T := TX1) (N := 6) hx hb hts iX1 hown hK hP 5 rfl rfl 4 (by decide) f24 (fun _ h9 => h9) rfl dX1_join_50 ?_
    refine lv_aload_n hx hb dX1_join_53 rfl (lv_at hl 0 rfl) ?_
    refine va_get (D := D) (ci := 1) (v := .int (nI T.length)) (C := RX1) (T := TX1) (N := 6) hx hb hts iX1 hown hK hP 5 rfl rfl 5 (by decide) f27 (fun _ h9 => h9) rfl dX1_join_54 ?_
    refine lv_iconst (v := -1) hx hb dX1_join_57 (by decide +kernel) ?_
    refine k_iast hx hb hK hP hD hS 4 0 rfl rfl T.length (rfl) (by omega) (by decide) dX1_join_58 (fun H locs hP hD hS => ?_)
    have hP : va_P D vwCl [(c1, .inl (cI, 6, .inl (upd w1 T.length kd))), (c2, .inl (cI, 6, .inl (upd w2 T.length (nI z)))), (c3, .inl (cI, 6, .inl (upd w3 T.length ea))), (c4, .inl (cI, 6, .inl (upd w4 T.length (nI 30)))), (c5, .inl (cI, 6, .inl (upd w5 T.length (-1)))), (ca, .inr (1, [.ref c1, .ref c2, .ref c3, .ref c4, .ref c5, .int (nI T.length)]))] H := hP
    have hD : va_D A [(c1, .inl (cI, 6, .inl (upd w1 T.length kd))), (c2, .inl (cI, 6, .inl (upd w2 T.length (nI z)))), (c3, .inl (cI, 6, .inl (upd w3 T.length ea))), (c4, .inl (cI, 6, .inl (upd w4 T.length (nI 30)))), (c5, .inl (cI, 6, .inl (upd w5 T.length (-1)))), (ca, .inr (1, [.ref c1, .ref c2, .ref c3, .ref c4, .ref c5, .int (nI T.length)]))] := hD
    refine lv_aload_n hx hb dX1_join_59 rfl (lv_at hl 0 rfl) ?_
    refine lv_dup hx hb dX1_join_60 rfl ?_
    refine va_get (D := D) (ci := 1) (v := .int (nI T.length)) (C := RX1) (T := TX1) (N := 6) hx hb hts iX1 hown hK hP 5 rfl rfl 5 (by decide) f27 (fun _ h9 => h9) rfl dX1_join_61 ?_
    refine lv_iconst (v := nI 1) hx hb dX1_join_64 (by decide +kernel) ?_
    refine k_iadd hx hb (nI ((T ++ [(kd, z, ea, 30, -1)]).length)) (by rw [nI_add, List.length_append]; rfl) dX1_join_65 ?_
    refine va_put (D := D) (ci := 1) (v := .int (nI ((T ++ [(kd, z, ea, 30, -1)]).length))) (ty := .int) (C := RX1) (T := TX1) (N := 6) hx hb hts iX1 tyX1 tyX1_ok nmX1 hown hK hP hD hS 5 rfl rfl 5 (by decide) f27 (fun _ h9 => h9) rfl (by decide +kernel) rfl rfl (Nat.le_of_ble_eq_true rfl) dX1_join_66 (fun H locs hP hD hS => ?_)
    have hP : va_P D vwCl [(c1, .inl (cI, 6, .inl (upd w1 T.length kd))), (c2, .inl (cI, 6, .inl (upd w2 T.length (nI z)))), (c3, .inl (cI, 6, .inl (upd w3 T.length ea))), (c4, .inl (cI, 6, .inl (upd w4 T.length (nI 30)))), (c5, .inl (cI, 6, .inl (upd w5 T.length (-1)))), (ca, .inr (1, [.ref c1, .ref c2, .ref c3, .ref c4, .ref c5, .int (nI ((T ++ [(kd, z, ea, 30, -1)]).length))]))] H := hP
    have hD : va_D A [(c1, .inl (cI, 6, .inl (upd w1 T.length kd))), (c2, .inl (cI, 6, .inl (upd w2 T.length (nI z)))), (c3, .inl (cI, 6, .inl (upd w3 T.length ea))), (c4, .inl (cI, 6, .inl (upd w4 T.length (nI 30)))), (c5, .inl (cI, 6, .inl (upd w5 T.length (-1)))), (ca, .inr (1, [.ref c1, .ref c2, .ref c3, .ref c4, .ref c5, .int (nI ((T ++ [(kd, z, ea, 30, -1)]).length))]))] := hD
    exact ret ⟨upd w1 T.length kd, upd w2 T.length (nI z), upd w3 T.length ea, upd w4 T.length (nI 30), upd w5 T.length (-1)⟩ _ _ _ _ _ _ (rC_join hC h6) (hP.sub [5, 0, 1, 2, 3, 4] (rfl)) (hD.sub [5, 0, 1, 2, 3, 4] (by decide) (rfl)) hS (Nat.le_of_ble_eq_true rfl) (Nat.le_of_ble_eq_true rfl) dX1_join_69
  · exact absurd c_4 (by omega)

abbrev rm_X1_countPresent : Room := { frames := 0, cells := 0, slots := 0, locals := 0 }
set_option maxHeartbeats 4000000 in
set_option maxRecDepth 100000 in
theorem c_X1_countPresent (l : Launch) (D : va_G) (cI : ClassId) (ca : Nat) (c1 : Nat) (c2 : Nat) (c3 : Nat) (c4 : Nat) (c5 : Nat) (w1 : Nat → Int32) (w2 : Nat → Int32) (w3 : Nat → Int32) (w4 : Nat → Int32) (w5 : Nat → Int32) (T : List Tk) (hC : rC w1 w2 w3 w4 w5 T) : kM kri l yX1_countPresent wsX1_countPresent rm_X1_countPresent D [(cI, .int)] [.ref ca] [(ca, .inr (1, [.ref c1, .ref c2, .ref c3, .ref c4, .ref c5, .int (nI T.length)])), (c5, .inl (cI, 6, .inl w5))] (fun (r : Int32) (u : Unit) => r = nI (ctT T)) (fun (u : Unit) => [(ca, .inr (1, [.ref c1, .ref c2, .ref c3, .ref c4, .ref c5, .int (nI T.length)])), (c5, .inl (cI, 6, .inl w5))]) := by
  refine k_bodyI (cc := cX1_countPresent) (maxL := 3) (by decide) rfl (Nat.le_of_ble_eq_true rfl) ?_
  intro p e ss m args below meth c A Q F hname hA hG hK hP hD hS ret ls hl
  obtain ⟨hx, hb, hml, hown, hts⟩ := id F
  have hP : va_P D vwCl [(ca, .inr (1, [.ref c1, .ref c2, .ref c3, .ref c4, .ref c5, .int (nI T.length)])), (c5, .inl (cI, 6, .inl w5))] ss.heap := hP
  have hD : va_D A [(ca, .inr (1, [.ref c1, .ref c2, .ref c3, .ref c4, .ref c5, .int (nI T.length)])), (c5, .inl (cI, 6, .inl w5))] := hD
  have hl : lv_has ls 3 [(0, .ref ca)] := hl
  have iX1 : ∀ w ∈ u_ws RX1 TX1 6, w ∈ wsX1_countPresent := by decide +kernel
  have f24 := hts (.fieldLink RX1 24 "SmallerTalk$Company" "exits" "[I") (by decide +kernel)
  have f27 := hts (.fieldLink RX1 27 "SmallerTalk$Company" "count" "I") (by decide +kernel)
  have h6 := hC.1
  refine lv_iconst (v := nI 0) hx hb dX1_countPresent_0 (by decide +kernel) ?_
  refine lv_istore_n (lv' := [(1, .int (nI 0)), (0, .ref ca)]) hx hb dX1_countPresent_1 rfl hl (by decide) rfl (fun ls hl => ?_)
  refine lv_iconst (v := nI 0) hx hb dX1_countPresent_2 (by decide +kernel) ?_
  refine lv_istore_n (lv' := [(2, .int (nI 0)), (1, .int (nI 0)), (0, .ref ca)]) hx hb dX1_countPresent_3 rfl hl (by decide) rfl (fun ls hl => ?_)
  have loop_1 : ∀ (n : Nat) (i : Nat), (i ≤ T.length) → T.length - i < n → ∀ (H : Heap) (locs : List Loc), va_P D vwCl [(ca, .inr (1, [.ref c1, .ref c2, .ref c3, .ref c4, .ref c5, .int (nI T.length)])), (c5, .inl (cI, 6, .inl w5))] H → va_D A [(ca, .inr (1, [.ref c1, .ref c2, .ref c3, .ref c4, .ref c5, .int (nI T.length)])), (c5, .inl (cI, 6, .inl w5))] → va_S A ss.heap H locs → ∀ ls : Array Slot, lv_has ls 3 [(0, .ref ca), (1, .int (nI (cnN (isT T) i))), (2, .int (nI i))] → W p l e rm_X1_countPresent ss m args below meth c H locs 0 0 Q (F0 m 4 ls []) := by
    intro n
    induction n with
    | zero => intro i hi hn; exact absurd hn (by omega)
    | succ n ih =>
      intro i hi hn H locs hP hD hS ls hl
      refine lv_iload_n hx hb dX1_countPresent_4 rfl (lv_at hl 2 rfl) ?_
      refine lv_aload_n hx hb dX1_countPresent_5 rfl (lv_at hl 0 rfl) ?_
      refine va_get (D := D) (ci := 1) (v := .int (nI T.length)) (C := RX1) (T := TX1) (N := 6) hx hb hts iX1 hown hK hP 0 rfl rfl 5 (by decide) f27 (fun _ h9 => h9) rfl dX1_countPresent_6 ?_
      refine k_cmp_ge (tgt := 31) hx hb i T.length rfl rfl (by omega) (by omega) dX1_countPresent_9 (by decide) (fun c_9 => ?_) (fun c_9 => ?_)
      · skip
        obtain rfl : i = T.length := by omega
        refine lv_iload_n hx hb dX1_countPresent_31 rfl (lv_at hl 1 rfl) ?_
        exact ret (nI (cnN (isT T) T.length)) () _ _ _ _ _ _ (rfl) (hP.sub [0, 1] (rfl)) (hD.sub [0, 1] (by decide) (rfl)) hS (Nat.le_of_ble_eq_true rfl) (Nat.le_of_ble_eq_true rfl) dX1_countPresent_32
      · skip
        refine lv_aload_n hx hb dX1_countPresent_12 rfl (lv_at hl 0 rfl) ?_
        refine va_get (D := D) (ci := 1) (v := .ref c5) (C := RX1) (T := TX1) (N := 6) hx hb hts iX1 hown hK hP 0 rfl rfl 4 (by decide) f24 (fun _ h9 => h9) rfl dX1_countPresent_13 ?_
        refine lv_iload_n hx hb dX1_countPresent_16 rfl (lv_at hl 2 rfl) ?_
        refine k_iald hx hb hK hP 1 0 rfl rfl i (rfl) (by omega) (by decide) dX1_countPresent_17 ?_
        refine k_top (v := tkX (T.getD i tk0)) ((hC.2 i c_9).2.2.2.2) ?_
        refine lv_iconst (v := -1) hx hb dX1_countPresent_18 (by decide +kernel) ?_
        refine lv_icmp_ne (tgt := 25) hx hb dX1_countPresent_19 (by decide) (fun c_19 => ?_) (fun c_19 => ?_)
        · skip
          refine lv_iinc (v := nI (i + 1)) (lv' := [(2, .int (nI (i + 1))), (0, .ref ca), (1, .int (nI (cnN (isT T) i)))]) hx hb dX1_countPresent_25 hl (k := 2) rfl (nI_1 _) (by decide) rfl (fun ls hl => ?_)
          refine lv_goto (tgt := 4) hx hb dX1_countPresent_28 (by decide) ?_
          exact ih (i + 1) (by omega) (by omega) _ _ (hP.sub [0, 1] (rfl)) (hD.sub [0, 1] (by decide) (rfl)) hS _ (lv_sub hl [1, 2, 0] (by rw [cn_f (isT_f c_19)]; rfl))
        · skip
          refine lv_iinc (v := nI ((cnN (isT T) i) + 1)) (lv' := [(1, .int (nI ((cnN (isT T) i) + 1))), (0, .ref ca), (2, .int (nI i))]) hx hb dX1_countPresent_22 hl (k := 1) rfl (nI_1 _) (by decide) rfl (fun ls hl => ?_)
          refine lv_iinc (v := nI (i + 1)) (lv' := [(2, .int (nI (i + 1))), (1, .int (nI ((cnN (isT T) i) + 1))), (0, .ref ca)]) hx hb dX1_countPresent_25 hl (k := 2) rfl (nI_1 _) (by decide) rfl (fun ls hl => ?_)
          refine lv_goto (tgt := 4) hx hb dX1_countPresent_28 (by decide) ?_
          exact ih (i + 1) (by omega) (by omega) _ _ (hP.sub [0, 1] (rfl)) (hD.sub [0, 1] (by decide) (rfl)) hS _ (lv_sub hl [2, 1, 0] (by rw [cn_t (isT_t c_19)]; rfl))
  exact loop_1 (T.length + 1) 0 (Nat.zero_le _) (by omega) _ _ (hP.sub [0, 1] (rfl)) (hD.sub [0, 1] (by decide) (rfl)) hS _ (lv_sub hl [2, 1, 0] (rfl))

abbrev rm_X1_patienceInAll : Room := { frames := 0, cells := 0, slots := 0, locals := 0 }
set_option maxHeartbeats 4000000 in
set_option maxRecDepth 100000 in
theorem c_X1_patienceInAll (l : Launch) (D : va_G) (cI : ClassId) (ca : Nat) (c1 : Nat) (c2 : Nat) (c3 : Nat) (c4 : Nat) (c5 : Nat) (w1 : Nat → Int32) (w2 : Nat → Int32) (w3 : Nat → Int32) (w4 : Nat → Int32) (w5 : Nat → Int32) (T : List Tk) (hC : rC w1 w2 w3 w4 w5 T) : kM kri l yX1_patienceInAll wsX1_patienceInAll rm_X1_patienceInAll D [(cI, .int)] [.ref ca] [(ca, .inr (1, [.ref c1, .ref c2, .ref c3, .ref c4, .ref c5, .int (nI T.length)])), (c4, .inl (cI, 6, .inl w4)), (c5, .inl (cI, 6, .inl w5))] (fun (r : Int32) (u : Unit) => r = nI (spT T)) (fun (u : Unit) => [(ca, .inr (1, [.ref c1, .ref c2, .ref c3, .ref c4, .ref c5, .int (nI T.length)])), (c4, .inl (cI, 6, .inl w4)), (c5, .inl (cI, 6, .inl w5))]) := by
  refine k_bodyI (cc := cX1_patienceInAll) (maxL := 3) (by decide) rfl (Nat.le_of_ble_eq_true rfl) ?_
  intro p e ss m args below meth c A Q F hname hA hG hK hP hD hS ret ls hl
  obtain ⟨hx, hb, hml, hown, hts⟩ := id F
  have hP : va_P D vwCl [(ca, .inr (1, [.ref c1, .ref c2, .ref c3, .ref c4, .ref c5, .int (nI T.length)])), (c4, .inl (cI, 6, .inl w4)), (c5, .inl (cI, 6, .inl w5))] ss.heap := hP
  have hD : va_D A [(ca, .inr (1, [.ref c1, .ref c2, .ref c3, .ref c4, .ref c5, .int (nI T.length)])), (c4, .inl (cI, 6, .inl w4)), (c5, .inl (cI, 6, .inl w5))] := hD
  have hl : lv_has ls 3 [(0, .ref ca)] := hl
  have iX1 : ∀ w ∈ u_ws RX1 TX1 6, w ∈ wsX1_patienceInAll := by decide +kernel
  have f21 := hts (.fieldLink RX1 21 "SmallerTalk$Company" "patience" "[I") (by decide +kernel)
  have f24 := hts (.fieldLink RX1 24 "SmallerTalk$Company" "exits" "[I") (by decide +kernel)
  have f27 := hts (.fieldLink RX1 27 "SmallerTalk$Company" "count" "I") (by decide +kernel)
  have h6 := hC.1
  refine lv_iconst (v := nI 0) hx hb dX1_patienceInAll_0 (by decide +kernel) ?_
  refine lv_istore_n (lv' := [(1, .int (nI 0)), (0, .ref ca)]) hx hb dX1_patienceInAll_1 rfl hl (by decide) rfl (fun ls hl => ?_)
  refine lv_iconst (v := nI 0) hx hb dX1_patienceInAll_2 (by decide +kernel) ?_
  refine lv_istore_n (lv' := [(2, .int (nI 0)), (1, .int (nI 0)), (0, .ref ca)]) hx hb dX1_patienceInAll_3 rfl hl (by decide) rfl (fun ls hl => ?_)
  have loop_1 : ∀ (n : Nat) (i : Nat), (i ≤ T.length) → T.length - i < n → ∀ (H : Heap) (locs : List Loc), va_P D vwCl [(ca, .inr (1, [.ref c1, .ref c2, .ref c3, .ref c4, .ref c5, .int (nI T.length)])), (c4, .inl (cI, 6, .inl w4)), (c5, .inl (cI, 6, .inl w5))] H → va_D A [(ca, .inr (1, [.ref c1, .ref c2, .ref c3, .ref c4, .ref c5, .int (nI T.length)])), (c4, .inl (cI, 6, .inl w4)), (c5, .inl (cI, 6, .inl w5))] → va_S A ss.heap H locs → ∀ ls : Array Slot, lv_has ls 3 [(0, .ref ca), (1, .int (nI (spN T i))), (2, .int (nI i))] → W p l e rm_X1_patienceInAll ss m args below meth c H locs 0 0 Q (F0 m 4 ls []) := by
    intro n
    induction n with
    | zero => intro i hi hn; exact absurd hn (by omega)
    | succ n ih =>
      intro i hi hn H locs hP hD hS ls hl
      refine lv_iload_n hx hb dX1_patienceInAll_4 rfl (lv_at hl 2 rfl) ?_
      refine lv_aload_n hx hb dX1_patienceInAll_5 rfl (lv_at hl 0 rfl) ?_
      refine va_get (D := D) (ci := 1) (v := .int (nI T.length)) (C := RX1) (T := TX1) (N := 6) hx hb hts iX1 hown hK hP 0 rfl rfl 5 (by decide) f27 (fun _ h9 => h9) rfl dX1_patienceInAll_6 ?_
      refine k_cmp_ge (tgt := 37) hx hb i T.length rfl rfl (by omega) (by omega) dX1_patienceInAll_9 (by decide) (fun c_9 => ?_) (fun c_9 => ?_)
      · skip
        obtain rfl : i = T.length := by omega
        refine lv_iload_n hx hb dX1_patienceInAll_37 rfl (lv_at hl 1 rfl) ?_
        exact ret (nI (spN T T.length)) () _ _ _ _ _ _ (rfl) (hP.sub [0, 1, 2] (rfl)) (hD.sub [0, 1, 2] (by decide) (rfl)) hS (Nat.le_of_ble_eq_true rfl) (Nat.le_of_ble_eq_true rfl) dX1_patienceInAll_38
      · skip
        refine lv_aload_n hx hb dX1_patienceInAll_12 rfl (lv_at hl 0 rfl) ?_
        refine va_get (D := D) (ci := 1) (v := .ref c5) (C := RX1) (T := TX1) (N := 6) hx hb hts iX1 hown hK hP 0 rfl rfl 4 (by decide) f24 (fun _ h9 => h9) rfl dX1_patienceInAll_13 ?_
        refine lv_iload_n hx hb dX1_patienceInAll_16 rfl (lv_at hl 2 rfl) ?_
        refine k_iald hx hb hK hP 2 0 rfl rfl i (rfl) (by omega) (by decide) dX1_patienceInAll_17 ?_
        refine k_top (v := tkX (T.getD i tk0)) ((hC.2 i c_9).2.2.2.2) ?_
        refine lv_iconst (v := -1) hx hb dX1_patienceInAll_18 (by decide +kernel) ?_
        refine lv_icmp_ne (tgt := 31) hx hb dX1_patienceInAll_19 (by decide) (fun c_19 => ?_) (fun c_19 => ?_)
        · skip
          refine lv_iinc (v := nI (i + 1)) (lv' := [(2, .int (nI (i + 1))), (0, .ref ca), (1, .int (nI (spN T i)))]) hx hb dX1_patienceInAll_31 hl (k := 2) rfl (nI_1 _) (by decide) rfl (fun ls hl => ?_)
          refine lv_goto (tgt := 4) hx hb dX1_patienceInAll_34 (by decide) ?_
          exact ih (i + 1) (by omega) (by omega) _ _ (hP.sub [0, 1, 2] (rfl)) (hD.sub [0, 1, 2] (by decide) (rfl)) hS _ (lv_sub hl [1, 2, 0] (by rw [sp_f c_19]; rfl))
        · skip
          refine lv_iload_n hx hb dX1_patienceInAll_22 rfl (lv_at hl 1 rfl) ?_
          refine lv_aload_n hx hb dX1_patienceInAll_23 rfl (lv_at hl 0 rfl) ?_
          refine va_get (D := D) (ci := 1) (v := .ref c4) (C := RX1) (T := TX1) (N := 6) hx hb hts iX1 hown hK hP 0 rfl rfl 3 (by decide) f21 (fun _ h9 => h9) rfl dX1_patienceInAll_24 ?_
          refine lv_iload_n hx hb dX1_patienceInAll_27 rfl (lv_at hl 2 rfl) ?_
          refine k_iald hx hb hK hP 1 0 rfl rfl i (rfl) (by omega) (by decide) dX1_patienceInAll_28 ?_
          refine k_top (v := nI (tkP (T.getD i tk0))) ((hC.2 i c_9).2.2.2.1) ?_
          refine k_iadd hx hb (nI (spN T i + (tkP (T.getD i tk0)))) (nI_add _ _) dX1_patienceInAll_29 ?_
          refine lv_istore_n (lv' := [(1, .int (nI (spN T i + (tkP (T.getD i tk0))))), (0, .ref ca), (2, .int (nI i))]) hx hb dX1_patienceInAll_30 rfl hl (by decide) rfl (fun ls hl => ?_)
          refine lv_iinc (v := nI (i + 1)) (lv' := [(2, .int (nI (i + 1))), (1, .int (nI (spN T i + (tkP (T.getD i tk0))))), (0, .ref ca)]) hx hb dX1_patienceInAll_31 hl (k := 2) rfl (nI_1 _) (by decide) rfl (fun ls hl => ?_)
          refine lv_goto (tgt := 4) hx hb dX1_patienceInAll_34 (by decide) ?_
          exact ih (i + 1) (by omega) (by omega) _ _ (hP.sub [0, 1, 2] (rfl)) (hD.sub [0, 1, 2] (by decide) (rfl)) hS _ (lv_sub hl [2, 1, 0] (by rw [sp_t c_19]; rfl))
  exact loop_1 (T.length + 1) 0 (Nat.zero_le _) (by omega) _ _ (hP.sub [0, 1, 2] (rfl)) (hD.sub [0, 1, 2] (by decide) (rfl)) hS _ (lv_sub hl [2, 1, 0] (rfl))

abbrev rm_X1_leastPatient : Room := { frames := 0, cells := 0, slots := 0, locals := 0 }
set_option maxHeartbeats 4000000 in
set_option maxRecDepth 100000 in
theorem c_X1_leastPatient (l : Launch) (D : va_G) (cI : ClassId) (ca : Nat) (c1 : Nat) (c2 : Nat) (c3 : Nat) (c4 : Nat) (c5 : Nat) (w1 : Nat → Int32) (w2 : Nat → Int32) (w3 : Nat → Int32) (w4 : Nat → Int32) (w5 : Nat → Int32) (T : List Tk) (hC : rC w1 w2 w3 w4 w5 T) (hO : okT T) : kM kri l yX1_leastPatient wsX1_leastPatient rm_X1_leastPatient D [(cI, .int)] [.ref ca] [(ca, .inr (1, [.ref c1, .ref c2, .ref c3, .ref c4, .ref c5, .int (nI T.length)])), (c4, .inl (cI, 6, .inl w4)), (c5, .inl (cI, 6, .inl w5))] (fun (r : Int32) (u : Unit) => r = oI (ntg T)) (fun (u : Unit) => [(ca, .inr (1, [.ref c1, .ref c2, .ref c3, .ref c4, .ref c5, .int (nI T.length)])), (c4, .inl (cI, 6, .inl w4)), (c5, .inl (cI, 6, .inl w5))]) := by
  refine k_bodyI (cc := cX1_leastPatient) (maxL := 4) (by decide) rfl (Nat.le_of_ble_eq_true rfl) ?_
  intro p e ss m args below meth c A Q F hname hA hG hK hP hD hS ret ls hl
  obtain ⟨hx, hb, hml, hown, hts⟩ := id F
  have hP : va_P D vwCl [(ca, .inr (1, [.ref c1, .ref c2, .ref c3, .ref c4, .ref c5, .int (nI T.length)])), (c4, .inl (cI, 6, .inl w4)), (c5, .inl (cI, 6, .inl w5))] ss.heap := hP
  have hD : va_D A [(ca, .inr (1, [.ref c1, .ref c2, .ref c3, .ref c4, .ref c5, .int (nI T.length)])), (c4, .inl (cI, 6, .inl w4)), (c5, .inl (cI, 6, .inl w5))] := hD
  have hl : lv_has ls 4 [(0, .ref ca)] := hl
  have iX1 : ∀ w ∈ u_ws RX1 TX1 6, w ∈ wsX1_leastPatient := by decide +kernel
  have f21 := hts (.fieldLink RX1 21 "SmallerTalk$Company" "patience" "[I") (by decide +kernel)
  have f24 := hts (.fieldLink RX1 24 "SmallerTalk$Company" "exits" "[I") (by decide +kernel)
  have f27 := hts (.fieldLink RX1 27 "SmallerTalk$Company" "count" "I") (by decide +kernel)
  have h6 := hC.1
  refine lv_iconst (v := -1) hx hb dX1_leastPatient_0 (by decide +kernel) ?_
  refine lv_istore_n (lv' := [(1, .int (-1)), (0, .ref ca)]) hx hb dX1_leastPatient_1 rfl hl (by decide) rfl (fun ls hl => ?_)
  refine lv_bipush (v := nI 31) hx hb dX1_leastPatient_2 (by decide +kernel) ?_
  refine lv_istore_n (lv' := [(2, .int (nI 31)), (1, .int (-1)), (0, .ref ca)]) hx hb dX1_leastPatient_4 rfl hl (by decide) rfl (fun ls hl => ?_)
  refine lv_iconst (v := nI 0) hx hb dX1_leastPatient_5 (by decide +kernel) ?_
  refine lv_istore_n (lv' := [(3, .int (nI 0)), (2, .int (nI 31)), (1, .int (-1)), (0, .ref ca)]) hx hb dX1_leastPatient_6 rfl hl (by decide) rfl (fun ls hl => ?_)
  have loop_1 : ∀ (n : Nat) (i : Nat), (i ≤ T.length) → T.length - i < n → ∀ (H : Heap) (locs : List Loc), va_P D vwCl [(ca, .inr (1, [.ref c1, .ref c2, .ref c3, .ref c4, .ref c5, .int (nI T.length)])), (c4, .inl (cI, 6, .inl w4)), (c5, .inl (cI, 6, .inl w5))] H → va_D A [(ca, .inr (1, [.ref c1, .ref c2, .ref c3, .ref c4, .ref c5, .int (nI T.length)])), (c4, .inl (cI, 6, .inl w4)), (c5, .inl (cI, 6, .inl w5))] → va_S A ss.heap H locs → ∀ ls : Array Slot, lv_has ls 4 [(0, .ref ca), (1, .int (oI (am (isT T) (bPt T) i))), (2, .int (nI (ltP T i))), (3, .int (nI i))] → W p l e rm_X1_leastPatient ss m args below meth c H locs 0 0 Q (F0 m 7 ls []) := by
    intro n
    induction n with
    | zero => intro i hi hn; exact absurd hn (by omega)
    | succ n ih =>
      intro i hi hn H locs hP hD hS ls hl
      refine lv_iload_n hx hb dX1_leastPatient_7 rfl (lv_at hl 3 rfl) ?_
      refine lv_aload_n hx hb dX1_leastPatient_8 rfl (lv_at hl 0 rfl) ?_
      refine va_get (D := D) (ci := 1) (v := .int (nI T.length)) (C := RX1) (T := TX1) (N := 6) hx hb hts iX1 hown hK hP 0 rfl rfl 5 (by decide) f27 (fun _ h9 => h9) rfl dX1_leastPatient_9 ?_
      refine k_cmp_ge (tgt := 50) hx hb i T.length rfl rfl (by omega) (by omega) dX1_leastPatient_12 (by decide) (fun c_12 => ?_) (fun c_12 => ?_)
      · skip
        obtain rfl : i = T.length := by omega
        refine lv_iload_n hx hb dX1_leastPatient_50 rfl (lv_at hl 1 rfl) ?_
        exact ret (oI (am (isT T) (bPt T) T.length)) () _ _ _ _ _ _ (rfl) (hP.sub [0, 1, 2] (rfl)) (hD.sub [0, 1, 2] (by decide) (rfl)) hS (Nat.le_of_ble_eq_true rfl) (Nat.le_of_ble_eq_true rfl) dX1_leastPatient_51
      · skip
        refine lv_aload_n hx hb dX1_leastPatient_15 rfl (lv_at hl 0 rfl) ?_
        refine va_get (D := D) (ci := 1) (v := .ref c5) (C := RX1) (T := TX1) (N := 6) hx hb hts iX1 hown hK hP 0 rfl rfl 4 (by decide) f24 (fun _ h9 => h9) rfl dX1_leastPatient_16 ?_
        refine lv_iload_n hx hb dX1_leastPatient_19 rfl (lv_at hl 3 rfl) ?_
        refine k_iald hx hb hK hP 2 0 rfl rfl i (rfl) (by omega) (by decide) dX1_leastPatient_20 ?_
        refine k_top (v := tkX (T.getD i tk0)) ((hC.2 i c_12).2.2.2.2) ?_
        refine lv_iconst (v := -1) hx hb dX1_leastPatient_21 (by decide +kernel) ?_
        refine lv_icmp_ne (tgt := 44) hx hb dX1_leastPatient_22 (by decide) (fun c_22 => ?_) (fun c_22 => ?_)
        · skip
          refine lv_iinc (v := nI (i + 1)) (lv' := [(3, .int (nI (i + 1))), (0, .ref ca), (1, .int (oI (am (isT T) (bPt T) i))), (2, .int (nI (ltP T i)))]) hx hb dX1_leastPatient_44 hl (k := 3) rfl (nI_1 _) (by decide) rfl (fun ls hl => ?_)
          refine lv_goto (tgt := 7) hx hb dX1_leastPatient_47 (by decide) ?_
          have e8 := lp_skip c_22
          have e9 := ltP_keep e8
          exact ih (i + 1) (by omega) (by omega) _ _ (hP.sub [0, 1, 2] (rfl)) (hD.sub [0, 1, 2] (by decide) (rfl)) hS _ (lv_sub hl [1, 2, 3, 0] (by rw [e8, e9]; rfl))
        · skip
          refine lv_aload_n hx hb dX1_leastPatient_25 rfl (lv_at hl 0 rfl) ?_
          refine va_get (D := D) (ci := 1) (v := .ref c4) (C := RX1) (T := TX1) (N := 6) hx hb hts iX1 hown hK hP 0 rfl rfl 3 (by decide) f21 (fun _ h9 => h9) rfl dX1_leastPatient_26 ?_
          refine lv_iload_n hx hb dX1_leastPatient_29 rfl (lv_at hl 3 rfl) ?_
          refine k_iald hx hb hK hP 1 0 rfl rfl i (rfl) (by omega) (by decide) dX1_leastPatient_30 ?_
          refine k_top (v := nI (tkP (T.getD i tk0))) ((hC.2 i c_12).2.2.2.1) ?_
          refine lv_iload_n hx hb dX1_leastPatient_31 rfl (lv_at hl 2 rfl) ?_
          refine k_cmp_ge (tgt := 44) hx hb (tkP (T.getD i tk0)) (ltP T i) rfl rfl (by have := (hO i c_12).2.2.2; omega) (by have := ltP_le hO (Nat.le_of_lt c_12); omega) dX1_leastPatient_32 (by decide) (fun c_32 => ?_) (fun c_32 => ?_)
          · skip
            refine lv_iinc (v := nI (i + 1)) (lv' := [(3, .int (nI (i + 1))), (0, .ref ca), (1, .int (oI (am (isT T) (bPt T) i))), (2, .int (nI (ltP T i)))]) hx hb dX1_leastPatient_44 hl (k := 3) rfl (nI_1 _) (by decide) rfl (fun ls hl => ?_)
            refine lv_goto (tgt := 7) hx hb dX1_leastPatient_47 (by decide) ?_
            have e8 := lp_keep hO c_12 c_32
            have e9 := ltP_keep e8
            exact ih (i + 1) (by omega) (by omega) _ _ (hP.sub [0, 1, 2] (rfl)) (hD.sub [0, 1, 2] (by decide) (rfl)) hS _ (lv_sub hl [1, 2, 3, 0] (by rw [e8, e9]; rfl))
          · skip
            refine lv_aload_n hx hb dX1_leastPatient_35 rfl (lv_at hl 0 rfl) ?_
            refine va_get (D := D) (ci := 1) (v := .ref c4) (C := RX1) (T := TX1) (N := 6) hx hb hts iX1 hown hK hP 0 rfl rfl 3 (by decide) f21 (fun _ h9 => h9) rfl dX1_leastPatient_36 ?_
            refine lv_iload_n hx hb dX1_leastPatient_39 rfl (lv_at hl 3 rfl) ?_
            refine k_iald hx hb hK hP 1 0 rfl rfl i (rfl) (by omega) (by decide) dX1_leastPatient_40 ?_
            refine k_top (v := nI (tkP (T.getD i tk0))) ((hC.2 i c_12).2.2.2.1) ?_
            refine lv_istore_n (lv' := [(2, .int (nI (tkP (T.getD i tk0)))), (0, .ref ca), (1, .int (oI (am (isT T) (bPt T) i))), (3, .int (nI i))]) hx hb dX1_leastPatient_41 rfl hl (by decide) rfl (fun ls hl => ?_)
            refine lv_iload_n hx hb dX1_leastPatient_42 rfl (lv_at hl 3 rfl) ?_
            refine lv_istore_n (lv' := [(1, .int (nI i)), (2, .int (nI (tkP (T.getD i tk0)))), (0, .ref ca), (3, .int (nI i))]) hx hb dX1_leastPatient_43 rfl hl (by decide) rfl (fun ls hl => ?_)
            refine lv_iinc (v := nI (i + 1)) (lv' := [(3, .int (nI (i + 1))), (1, .int (nI i)), (2, .int (nI (tkP (T.getD i tk0)))), (0, .ref ca)]) hx hb dX1_leastPatient_44 hl (k := 3) rfl (nI_1 _) (by decide) rfl (fun ls hl => ?_)
            refine lv_goto (tgt := 7) hx hb dX1_leastPatient_47 (by decide) ?_
            have e8 := lp_new c_22 c_32
            have e9 := ltP_new e8
            exact ih (i + 1) (by omega) (by omega) _ _ (hP.sub [0, 1, 2] (rfl)) (hD.sub [0, 1, 2] (by decide) (rfl)) hS _ (lv_sub hl [3, 1, 2, 0] (by rw [e8, e9]; rfl))
  exact loop_1 (T.length + 1) 0 (Nat.zero_le _) (by omega) _ _ (hP.sub [0, 1, 2] (rfl)) (hD.sub [0, 1, 2] (by decide) (rfl)) hS _ (lv_sub hl [3, 2, 1, 0] (rfl))

abbrev rm_X1_hear : Room := { frames := 1, cells := 0, slots := 0, locals := 16 }
set_option maxHeartbeats 4000000 in
set_option maxRecDepth 100000 in
theorem c_X1_hear (l : Launch) (D : va_G) (cI : ClassId) (ca : Nat) (c1 : Nat) (c2 : Nat) (c3 : Nat) (c4 : Nat) (c5 : Nat) (w1 : Nat → Int32) (w2 : Nat → Int32) (w3 : Nat → Int32) (w4 : Nat → Int32) (w5 : Nat → Int32) (T : List Tk) (z : Nat) (mi : Nat) (hC : rC w1 w2 w3 w4 w5 T) (hO : okT T) (hz : z ≤ 1188) : kM krv l yX1_hear wsX1_hear rm_X1_hear D [(cI, .int)] [.ref ca, .int (nI z), .int (nI mi)] [(ca, .inr (1, [.ref c1, .ref c2, .ref c3, .ref c4, .ref c5, .int (nI T.length)])), (c1, .inl (cI, 6, .inl w1)), (c2, .inl (cI, 6, .inl w2)), (c3, .inl (cI, 6, .inl w3)), (c4, .inl (cI, 6, .inl w4)), (c5, .inl (cI, 6, .inl w5))] (fun (r : Unit) (u : (Nat → Int32) × (Nat → Int32)) => rC w1 w2 w3 u.1 u.2 (hrT z mi T)) (fun (u : (Nat → Int32) × (Nat → Int32)) => [(ca, .inr (1, [.ref c1, .ref c2, .ref c3, .ref c4, .ref c5, .int (nI ((hrT z mi T).length))])), (c1, .inl (cI, 6, .inl w1)), (c2, .inl (cI, 6, .inl w2)), (c3, .inl (cI, 6, .inl w3)), (c4, .inl (cI, 6, .inl u.1)), (c5, .inl (cI, 6, .inl u.2))]) := by
  refine k_bodyV (cc := cX1_hear) (maxL := 5) (by decide) rfl (Nat.le_of_ble_eq_true rfl) ?_
  intro p e ss m args below meth c A Q F hname hA hG hK hP hD hS ret ls hl
  obtain ⟨hx, hb, hml, hown, hts⟩ := id F
  have hP : va_P D vwCl [(ca, .inr (1, [.ref c1, .ref c2, .ref c3, .ref c4, .ref c5, .int (nI T.length)])), (c1, .inl (cI, 6, .inl w1)), (c2, .inl (cI, 6, .inl w2)), (c3, .inl (cI, 6, .inl w3)), (c4, .inl (cI, 6, .inl w4)), (c5, .inl (cI, 6, .inl w5))] ss.heap := hP
  have hD : va_D A [(ca, .inr (1, [.ref c1, .ref c2, .ref c3, .ref c4, .ref c5, .int (nI T.length)])), (c1, .inl (cI, 6, .inl w1)), (c2, .inl (cI, 6, .inl w2)), (c3, .inl (cI, 6, .inl w3)), (c4, .inl (cI, 6, .inl w4)), (c5, .inl (cI, 6, .inl w5))] := hD
  have hl : lv_has ls 5 [(0, .ref ca), (1, .int (nI z)), (2, .int (nI mi))] := hl
  have iX1 : ∀ w ∈ u_ws RX1 TX1 6, w ∈ wsX1_hear := by decide +kernel
  have f21 := hts (.fieldLink RX1 21 "SmallerTalk$Company" "patience" "[I") (by decide +kernel)
  have f24 := hts (.fieldLink RX1 24 "SmallerTalk$Company" "exits" "[I") (by decide +kernel)
  have f27 := hts (.fieldLink RX1 27 "SmallerTalk$Company" "count" "I") (by decide +kernel)
  have h6 := hC.1
  refine lv_iload_n hx hb dX1_hear_0 rfl (lv_at hl 1 rfl) ?_
  refine k_if_le (tgt := 14) hx hb z rfl (by omega) dX1_hear_1 (by decide) (fun c_1 => ?_) (fun c_1 => ?_)
  · skip
    refine lv_iconst (v := nI 1) hx hb dX1_hear_14 (by decide +kernel) ?_
    refine k_top (v := chg z) (by rw [chg, if_neg (by omega)]; rfl) ?_
    refine lv_istore_n (lv' := [(3, .int (chg z)), (0, .ref ca), (1, .int (nI z)), (2, .int (nI mi))]) hx hb dX1_hear_15 rfl hl (by decide) rfl (fun ls hl => ?_)
    refine lv_iconst (v := nI 0) hx hb dX1_hear_16 (by decide +kernel) ?_
    refine lv_istore (lv' := [(4, .int (nI 0)), (3, .int (chg z)), (0, .ref ca), (1, .int (nI z)), (2, .int (nI mi))]) hx hb dX1_hear_17 hl (by decide) rfl (fun ls hl => ?_)
    have loop_1 : ∀ (n : Nat) (i : Nat) (p1 : Nat → Int32) (x1 : Nat → Int32), (i ≤ T.length) → (hri z mi T w4 w5 p1 x1 i) → T.length - i < n → ∀ (H : Heap) (locs : List Loc), va_P D vwCl [(ca, .inr (1, [.ref c1, .ref c2, .ref c3, .ref c4, .ref c5, .int (nI T.length)])), (c1, .inl (cI, 6, .inl w1)), (c2, .inl (cI, 6, .inl w2)), (c3, .inl (cI, 6, .inl w3)), (c4, .inl (cI, 6, .inl p1)), (c5, .inl (cI, 6, .inl x1))] H → va_D A [(ca, .inr (1, [.ref c1, .ref c2, .ref c3, .ref c4, .ref c5, .int (nI T.length)])), (c1, .inl (cI, 6, .inl w1)), (c2, .inl (cI, 6, .inl w2)), (c3, .inl (cI, 6, .inl w3)), (c4, .inl (cI, 6, .inl p1)), (c5, .inl (cI, 6, .inl x1))] → va_S A ss.heap H locs → ∀ ls : Array Slot, lv_has ls 5 [(0, .ref ca), (1, .int (nI z)), (2, .int (nI mi)), (3, .int (chg z)), (4, .int (nI i))] → W p l e rm_X1_hear ss m args below meth c H locs 0 0 Q (F0 m 19 ls []) := by
      intro n
      induction n with
      | zero => intro i p1 x1 hi hh hn; exact absurd hn (by omega)
      | succ n ih =>
        intro i p1 x1 hi hh hn H locs hP hD hS ls hl
        refine lv_iload hx hb dX1_hear_19 (lv_at hl 4 rfl) ?_
        refine lv_aload_n hx hb dX1_hear_21 rfl (lv_at hl 0 rfl) ?_
        refine va_get (D := D) (ci := 1) (v := .int (nI T.length)) (C := RX1) (T := TX1) (N := 6) hx hb hts iX1 hown hK hP 0 rfl rfl 5 (by decide) f27 (fun _ h9 => h9) rfl dX1_hear_22 ?_
        refine k_cmp_ge (tgt := 88) hx hb i T.length rfl rfl (by omega) (by omega) dX1_hear_25 (by decide) (fun c_25 => ?_) (fun c_25 => ?_)
        · skip
          obtain rfl : i = T.length := by omega
          exact ret ⟨p1, x1⟩ _ _ _ _ _ _ (rC_hr hC hh) (hP.sub [0, 1, 2, 3, 4, 5] (by rw [hrT_len]; rfl)) (hD.sub [0, 1, 2, 3, 4, 5] (by decide) (by rw [hrT_len]; rfl)) hS (Nat.le_of_ble_eq_true rfl) (Nat.le_of_ble_eq_true rfl) dX1_hear_88
        · skip
          refine lv_aload_n hx hb dX1_hear_28 rfl (lv_at hl 0 rfl) ?_
          refine va_get (D := D) (ci := 1) (v := .ref c5) (C := RX1) (T := TX1) (N := 6) hx hb hts iX1 hown hK hP 0 rfl rfl 4 (by decide) f24 (fun _ h9 => h9) rfl dX1_hear_29 ?_
          refine lv_iload hx hb dX1_hear_32 (lv_at hl 4 rfl) ?_
          refine k_iald hx hb hK hP 5 0 rfl rfl i (rfl) (by omega) (by decide) dX1_hear_34 ?_
          refine k_top (v := tkX (T.getD i tk0)) (((hh.2 i (Nat.le_refl _) c_25).2.trans (hC.2 i c_25).2.2.2.2)) ?_
          refine lv_iconst (v := -1) hx hb dX1_hear_35 (by decide +kernel) ?_
          refine lv_icmp_ne (tgt := 82) hx hb dX1_hear_36 (by decide) (fun c_36 => ?_) (fun c_36 => ?_)
          · skip
            refine lv_iinc (v := nI (i + 1)) (lv' := [(4, .int (nI (i + 1))), (0, .ref ca), (1, .int (nI z)), (2, .int (nI mi)), (3, .int (chg z))]) hx hb dX1_hear_82 hl (k := 4) rfl (nI_1 _) (by decide) rfl (fun ls hl => ?_)
            refine lv_goto (tgt := 19) hx hb dX1_hear_85 (by decide) ?_
            exact ih (i + 1) p1 x1 (by omega) (hri_skip hh hC c_25 c_36) (by omega) _ _ (hP.sub [0, 1, 2, 3, 4, 5] (rfl)) (hD.sub [0, 1, 2, 3, 4, 5] (by decide) (rfl)) hS _ (lv_sub hl [1, 2, 3, 4, 0] (rfl))
          · skip
            refine lv_aload_n hx hb dX1_hear_39 rfl (lv_at hl 0 rfl) ?_
            refine va_get (D := D) (ci := 1) (v := .ref c4) (C := RX1) (T := TX1) (N := 6) hx hb hts iX1 hown hK hP 0 rfl rfl 3 (by decide) f21 (fun _ h9 => h9) rfl dX1_hear_40 ?_
            refine lv_iload hx hb dX1_hear_43 (lv_at hl 4 rfl) ?_
            refine lv_iconst (v := nI 0) hx hb dX1_hear_45 (by decide +kernel) ?_
            refine lv_bipush (v := nI 30) hx hb dX1_hear_46 (by decide +kernel) ?_
            refine lv_aload_n hx hb dX1_hear_48 rfl (lv_at hl 0 rfl) ?_
            refine va_get (D := D) (ci := 1) (v := .ref c4) (C := RX1) (T := TX1) (N := 6) hx hb hts iX1 hown hK hP 0 rfl rfl 3 (by decide) f21 (fun _ h9 => h9) rfl dX1_hear_49 ?_
            refine lv_iload hx hb dX1_hear_52 (lv_at hl 4 rfl) ?_
            refine k_iald hx hb hK hP 4 0 rfl rfl i (rfl) (by omega) (by decide) dX1_hear_54 ?_
            refine k_top (v := nI (tkP (T.getD i tk0))) (((hh.2 i (Nat.le_refl _) c_25).1.trans (hC.2 i c_25).2.2.2.1)) ?_
            refine lv_iload_n hx hb dX1_hear_55 rfl (lv_at hl 3 rfl) ?_
            refine k_iadd hx hb ((nI (tkP (T.getD i tk0))) + (chg z)) (rfl) dX1_hear_56 ?_
            refine va_mmin hx hb (hml.trans hl.1.symm) hown (hts (.methodLink RX1 39 Lib.Math.min.name) (by decide +kernel)) (hts (.static Lib.Math.min.name) (by decide +kernel)) (hts (.initialized "java/lang/Math") (by decide +kernel)) (hts (.code Lib.Math.min.name Lib.Math.min.code 2 (some .int)) (by decide +kernel)) (Nat.le_of_ble_eq_true rfl) (Nat.le_of_ble_eq_true rfl) (Nat.le_of_ble_eq_true rfl) (Nat.le_of_ble_eq_true rfl) dX1_hear_57 ?_
            refine va_mmax hx hb (hml.trans hl.1.symm) hown (hts (.methodLink RX1 45 Lib.Math.max.name) (by decide +kernel)) (hts (.static Lib.Math.max.name) (by decide +kernel)) (hts (.initialized "java/lang/Math") (by decide +kernel)) (hts (.code Lib.Math.max.name Lib.Math.max.code 2 (some .int)) (by decide +kernel)) (Nat.le_of_ble_eq_true rfl) (Nat.le_of_ble_eq_true rfl) (Nat.le_of_ble_eq_true rfl) (Nat.le_of_ble_eq_true rfl) dX1_hear_60 ?_
            refine k_top (v := nI (hrP z (tkP (T.getD i tk0)))) (hr_eq hz (hO i c_25).2.2.2) ?_
            refine k_iast hx hb hK hP hD hS 4 0 rfl rfl i (rfl) (by omega) (by decide) dX1_hear_63 (fun H locs hP hD hS => ?_)
            have hP : va_P D vwCl [(ca, .inr (1, [.ref c1, .ref c2, .ref c3, .ref c4, .ref c5, .int (nI T.length)])), (c1, .inl (cI, 6, .inl w1)), (c2, .inl (cI, 6, .inl w2)), (c3, .inl (cI, 6, .inl w3)), (c4, .inl (cI, 6, .inl (upd p1 i (nI (hrP z (tkP (T.getD i tk0))))))), (c5, .inl (cI, 6, .inl x1))] H := hP
            have hD : va_D A [(ca, .inr (1, [.ref c1, .ref c2, .ref c3, .ref c4, .ref c5, .int (nI T.length)])), (c1, .inl (cI, 6, .inl w1)), (c2, .inl (cI, 6, .inl w2)), (c3, .inl (cI, 6, .inl w3)), (c4, .inl (cI, 6, .inl (upd p1 i (nI (hrP z (tkP (T.getD i tk0))))))), (c5, .inl (cI, 6, .inl x1))] := hD
            refine lv_aload_n hx hb dX1_hear_64 rfl (lv_at hl 0 rfl) ?_
            refine va_get (D := D) (ci := 1) (v := .ref c4) (C := RX1) (T := TX1) (N := 6) hx hb hts iX1 hown hK hP 0 rfl rfl 3 (by decide) f21 (fun _ h9 => h9) rfl dX1_hear_65 ?_
            refine lv_iload hx hb dX1_hear_68 (lv_at hl 4 rfl) ?_
            refine k_iald hx hb hK hP 4 0 rfl rfl i (rfl) (by omega) (by decide) dX1_hear_70 ?_
            refine k_top (v := nI (hrP z (tkP (T.getD i tk0)))) (pk_us) ?_
            refine k_if_ne (tgt := 82) hx hb (hrP z (tkP (T.getD i tk0))) rfl (by have := hrP_le z (hO i c_25).2.2.2; omega) dX1_hear_71 (by decide) (fun c_71 => ?_) (fun c_71 => ?_)
            · skip
              refine lv_iinc (v := nI (i + 1)) (lv' := [(4, .int (nI (i + 1))), (0, .ref ca), (1, .int (nI z)), (2, .int (nI mi)), (3, .int (chg z))]) hx hb dX1_hear_82 hl (k := 4) rfl (nI_1 _) (by decide) rfl (fun ls hl => ?_)
              refine lv_goto (tgt := 19) hx hb dX1_hear_85 (by decide) ?_
              exact ih (i + 1) (upd p1 i (nI (hrP z (tkP (T.getD i tk0))))) x1 (by omega) (hri_keep hh hC c_25 c_36 c_71) (by omega) _ _ (hP.sub [0, 1, 2, 3, 4, 5] (rfl)) (hD.sub [0, 1, 2, 3, 4, 5] (by decide) (rfl)) hS _ (lv_sub hl [1, 2, 3, 4, 0] (rfl))
            · skip
              refine lv_aload_n hx hb dX1_hear_74 rfl (lv_at hl 0 rfl) ?_
              refine va_get (D := D) (ci := 1) (v := .ref c5) (C := RX1) (T := TX1) (N := 6) hx hb hts iX1 hown hK hP 0 rfl rfl 4 (by decide) f24 (fun _ h9 => h9) rfl dX1_hear_75 ?_
              refine lv_iload hx hb dX1_hear_78 (lv_at hl 4 rfl) ?_
              refine lv_iload_n hx hb dX1_hear_80 rfl (lv_at hl 2 rfl) ?_
              refine k_iast hx hb hK hP hD hS 5 0 rfl rfl i (rfl) (by omega) (by decide) dX1_hear_81 (fun H locs hP hD hS => ?_)
              have hP : va_P D vwCl [(ca, .inr (1, [.ref c1, .ref c2, .ref c3, .ref c4, .ref c5, .int (nI T.length)])), (c1, .inl (cI, 6, .inl w1)), (c2, .inl (cI, 6, .inl w2)), (c3, .inl (cI, 6, .inl w3)), (c4, .inl (cI, 6, .inl (upd p1 i (nI (hrP z (tkP (T.getD i tk0))))))), (c5, .inl (cI, 6, .inl (upd x1 i (nI mi))))] H := hP
              have hD : va_D A [(ca, .inr (1, [.ref c1, .ref c2, .ref c3, .ref c4, .ref c5, .int (nI T.length)])), (c1, .inl (cI, 6, .inl w1)), (c2, .inl (cI, 6, .inl w2)), (c3, .inl (cI, 6, .inl w3)), (c4, .inl (cI, 6, .inl (upd p1 i (nI (hrP z (tkP (T.getD i tk0))))))), (c5, .inl (cI, 6, .inl (upd x1 i (nI mi))))] := hD
              refine lv_iinc (v := nI (i + 1)) (lv' := [(4, .int (nI (i + 1))), (0, .ref ca), (1, .int (nI z)), (2, .int (nI mi)), (3, .int (chg z))]) hx hb dX1_hear_82 hl (k := 4) rfl (nI_1 _) (by decide) rfl (fun ls hl => ?_)
              refine lv_goto (tgt := 19) hx hb dX1_hear_85 (by decide) ?_
              exact ih (i + 1) (upd p1 i (nI (hrP z (tkP (T.getD i tk0))))) (upd x1 i (nI mi)) (by omega) (hri_gone hh hC c_25 c_36 c_71) (by omega) _ _ (hP.sub [0, 1, 2, 3, 4, 5] (rfl)) (hD.sub [0, 1, 2, 3, 4, 5] (by decide) (rfl)) hS _ (lv_sub hl [1, 2, 3, 4, 0] (rfl))
    exact loop_1 (T.length + 1) 0 w4 w5 (Nat.zero_le _) (hri_0 _ _ _ _ _) (by omega) _ _ (hP.sub [0, 1, 2, 3, 4, 5] (rfl)) (hD.sub [0, 1, 2, 3, 4, 5] (by decide) (rfl)) hS _ (lv_sub hl [2, 3, 4, 1, 0] (rfl))
  · skip
    refine lv_iload_n hx hb dX1_hear_4 rfl (lv_at hl 1 rfl) ?_
    refine lv_bipush (v := nI 20) hx hb dX1_hear_5 (by decide +kernel) ?_
    refine k_idiv hx hb (nI (z / 20)) (by decide +kernel) (pk_div (by omega) (by omega) (by omega)) dX1_hear_7 ?_
    refine lv_iconst (v := nI 1) hx hb dX1_hear_8 (by decide +kernel) ?_
    refine k_iadd hx hb (nI ((z / 20) + 1)) (nI_add _ _) dX1_hear_9 ?_
    refine k_ineg hx hb (chg z) (by rw [chg, if_pos c_1]) dX1_hear_10 ?_
    refine lv_goto (tgt := 15) hx hb dX1_hear_11 (by decide) ?_
    refine lv_istore_n (lv' := [(3, .int (chg z)), (0, .ref ca), (1, .int (nI z)), (2, .int (nI mi))]) hx hb dX1_hear_15 rfl hl (by decide) rfl (fun ls hl => ?_)
    refine lv_iconst (v := nI 0) hx hb dX1_hear_16 (by decide +kernel) ?_
    refine lv_istore (lv' := [(4, .int (nI 0)), (3, .int (chg z)), (0, .ref ca), (1, .int (nI z)), (2, .int (nI mi))]) hx hb dX1_hear_17 hl (by decide) rfl (fun ls hl => ?_)
    have loop_2 : ∀ (n : Nat) (i : Nat) (p1 : Nat → Int32) (x1 : Nat → Int32), (i ≤ T.length) → (hri z mi T w4 w5 p1 x1 i) → T.length - i < n → ∀ (H : Heap) (locs : List Loc), va_P D vwCl [(ca, .inr (1, [.ref c1, .ref c2, .ref c3, .ref c4, .ref c5, .int (nI T.length)])), (c1, .inl (cI, 6, .inl w1)), (c2, .inl (cI, 6, .inl w2)), (c3, .inl (cI, 6, .inl w3)), (c4, .inl (cI, 6, .inl p1)), (c5, .inl (cI, 6, .inl x1))] H → va_D A [(ca, .inr (1, [.ref c1, .ref c2, .ref c3, .ref c4, .ref c5, .int (nI T.length)])), (c1, .inl (cI, 6, .inl w1)), (c2, .inl (cI, 6, .inl w2)), (c3, .inl (cI, 6, .inl w3)), (c4, .inl (cI, 6, .inl p1)), (c5, .inl (cI, 6, .inl x1))] → va_S A ss.heap H locs → ∀ ls : Array Slot, lv_has ls 5 [(0, .ref ca), (1, .int (nI z)), (2, .int (nI mi)), (3, .int (chg z)), (4, .int (nI i))] → W p l e rm_X1_hear ss m args below meth c H locs 0 0 Q (F0 m 19 ls []) := by
      intro n
      induction n with
      | zero => intro i p1 x1 hi hh hn; exact absurd hn (by omega)
      | succ n ih =>
        intro i p1 x1 hi hh hn H locs hP hD hS ls hl
        refine lv_iload hx hb dX1_hear_19 (lv_at hl 4 rfl) ?_
        refine lv_aload_n hx hb dX1_hear_21 rfl (lv_at hl 0 rfl) ?_
        refine va_get (D := D) (ci := 1) (v := .int (nI T.length)) (C := RX1) (T := TX1) (N := 6) hx hb hts iX1 hown hK hP 0 rfl rfl 5 (by decide) f27 (fun _ h9 => h9) rfl dX1_hear_22 ?_
        refine k_cmp_ge (tgt := 88) hx hb i T.length rfl rfl (by omega) (by omega) dX1_hear_25 (by decide) (fun c_25 => ?_) (fun c_25 => ?_)
        · skip
          obtain rfl : i = T.length := by omega
          exact ret ⟨p1, x1⟩ _ _ _ _ _ _ (rC_hr hC hh) (hP.sub [0, 1, 2, 3, 4, 5] (by rw [hrT_len]; rfl)) (hD.sub [0, 1, 2, 3, 4, 5] (by decide) (by rw [hrT_len]; rfl)) hS (Nat.le_of_ble_eq_true rfl) (Nat.le_of_ble_eq_true rfl) dX1_hear_88
        · skip
          refine lv_aload_n hx hb dX1_hear_28 rfl (lv_at hl 0 rfl) ?_
          refine va_get (D := D) (ci := 1) (v := .ref c5) (C := RX1) (T := TX1) (N := 6) hx hb hts iX1 hown hK hP 0 rfl rfl 4 (by decide) f24 (fun _ h9 => h9) rfl dX1_hear_29 ?_
          refine lv_iload hx hb dX1_hear_32 (lv_at hl 4 rfl) ?_
          refine k_iald hx hb hK hP 5 0 rfl rfl i (rfl) (by omega) (by decide) dX1_hear_34 ?_
          refine k_top (v := tkX (T.getD i tk0)) (((hh.2 i (Nat.le_refl _) c_25).2.trans (hC.2 i c_25).2.2.2.2)) ?_
          refine lv_iconst (v := -1) hx hb dX1_hear_35 (by decide +kernel) ?_
          refine lv_icmp_ne (tgt := 82) hx hb dX1_hear_36 (by decide) (fun c_36 => ?_) (fun c_36 => ?_)
          · skip
            refine lv_iinc (v := nI (i + 1)) (lv' := [(4, .int (nI (i + 1))), (0, .ref ca), (1, .int (nI z)), (2, .int (nI mi)), (3, .int (chg z))]) hx hb dX1_hear_82 hl (k := 4) rfl (nI_1 _) (by decide) rfl (fun ls hl => ?_)
            refine lv_goto (tgt := 19) hx hb dX1_hear_85 (by decide) ?_
            exact ih (i + 1) p1 x1 (by omega) (hri_skip hh hC c_25 c_36) (by omega) _ _ (hP.sub [0, 1, 2, 3, 4, 5] (rfl)) (hD.sub [0, 1, 2, 3, 4, 5] (by decide) (rfl)) hS _ (lv_sub hl [1, 2, 3, 4, 0] (rfl))
          · skip
            refine lv_aload_n hx hb dX1_hear_39 rfl (lv_at hl 0 rfl) ?_
            refine va_get (D := D) (ci := 1) (v := .ref c4) (C := RX1) (T := TX1) (N := 6) hx hb hts iX1 hown hK hP 0 rfl rfl 3 (by decide) f21 (fun _ h9 => h9) rfl dX1_hear_40 ?_
            refine lv_iload hx hb dX1_hear_43 (lv_at hl 4 rfl) ?_
            refine lv_iconst (v := nI 0) hx hb dX1_hear_45 (by decide +kernel) ?_
            refine lv_bipush (v := nI 30) hx hb dX1_hear_46 (by decide +kernel) ?_
            refine lv_aload_n hx hb dX1_hear_48 rfl (lv_at hl 0 rfl) ?_
            refine va_get (D := D) (ci := 1) (v := .ref c4) (C := RX1) (T := TX1) (N := 6) hx hb hts iX1 hown hK hP 0 rfl rfl 3 (by decide) f21 (fun _ h9 => h9) rfl dX1_hear_49 ?_
            refine lv_iload hx hb dX1_hear_52 (lv_at hl 4 rfl) ?_
            refine k_iald hx hb hK hP 4 0 rfl rfl i (rfl) (by omega) (by decide) dX1_hear_54 ?_
            refine k_top (v := nI (tkP (T.getD i tk0))) (((hh.2 i (Nat.le_refl _) c_25).1.trans (hC.2 i c_25).2.2.2.1)) ?_
            refine lv_iload_n hx hb dX1_hear_55 rfl (lv_at hl 3 rfl) ?_
            refine k_iadd hx hb ((nI (tkP (T.getD i tk0))) + (chg z)) (rfl) dX1_hear_56 ?_
            refine va_mmin hx hb (hml.trans hl.1.symm) hown (hts (.methodLink RX1 39 Lib.Math.min.name) (by decide +kernel)) (hts (.static Lib.Math.min.name) (by decide +kernel)) (hts (.initialized "java/lang/Math") (by decide +kernel)) (hts (.code Lib.Math.min.name Lib.Math.min.code 2 (some .int)) (by decide +kernel)) (Nat.le_of_ble_eq_true rfl) (Nat.le_of_ble_eq_true rfl) (Nat.le_of_ble_eq_true rfl) (Nat.le_of_ble_eq_true rfl) dX1_hear_57 ?_
            refine va_mmax hx hb (hml.trans hl.1.symm) hown (hts (.methodLink RX1 45 Lib.Math.max.name) (by decide +kernel)) (hts (.static Lib.Math.max.name) (by decide +kernel)) (hts (.initialized "java/lang/Math") (by decide +kernel)) (hts (.code Lib.Math.max.name Lib.Math.max.code 2 (some .int)) (by decide +kernel)) (Nat.le_of_ble_eq_true rfl) (Nat.le_of_ble_eq_true rfl) (Nat.le_of_ble_eq_true rfl) (Nat.le_of_ble_eq_true rfl) dX1_hear_60 ?_
            refine k_top (v := nI (hrP z (tkP (T.getD i tk0)))) (hr_eq hz (hO i c_25).2.2.2) ?_
            refine k_iast hx hb hK hP hD hS 4 0 rfl rfl i (rfl) (by omega) (by decide) dX1_hear_63 (fun H locs hP hD hS => ?_)
            have hP : va_P D vwCl [(ca, .inr (1, [.ref c1, .ref c2, .ref c3, .ref c4, .ref c5, .int (nI T.length)])), (c1, .inl (cI, 6, .inl w1)), (c2, .inl (cI, 6, .inl w2)), (c3, .inl (cI, 6, .inl w3)), (c4, .inl (cI, 6, .inl (upd p1 i (nI (hrP z (tkP (T.getD i tk0))))))), (c5, .inl (cI, 6, .inl x1))] H := hP
            have hD : va_D A [(ca, .inr (1, [.ref c1, .ref c2, .ref c3, .ref c4, .ref c5, .int (nI T.length)])), (c1, .inl (cI, 6, .inl w1)), (c2, .inl (cI, 6, .inl w2)), (c3, .inl (cI, 6, .inl w3)), (c4, .inl (cI, 6, .inl (upd p1 i (nI (hrP z (tkP (T.getD i tk0))))))), (c5, .inl (cI, 6, .inl x1))] := hD
            refine lv_aload_n hx hb dX1_hear_64 rfl (lv_at hl 0 rfl) ?_
            refine va_get (D := D) (ci := 1) (v := .ref c4) (C := RX1) (T := TX1) (N := 6) hx hb hts iX1 hown hK hP 0 rfl rfl 3 (by decide) f21 (fun _ h9 => h9) rfl dX1_hear_65 ?_
            refine lv_iload hx hb dX1_hear_68 (lv_at hl 4 rfl) ?_
            refine k_iald hx hb hK hP 4 0 rfl rfl i (rfl) (by omega) (by decide) dX1_hear_70 ?_
            refine k_top (v := nI (hrP z (tkP (T.getD i tk0)))) (pk_us) ?_
            refine k_if_ne (tgt := 82) hx hb (hrP z (tkP (T.getD i tk0))) rfl (by have := hrP_le z (hO i c_25).2.2.2; omega) dX1_hear_71 (by decide) (fun c_71 => ?_) (fun c_71 => ?_)
            · skip
              refine lv_iinc (v := nI (i + 1)) (lv' := [(4, .int (nI (i + 1))), (0, .ref ca), (1, .int (nI z)), (2, .int (nI mi)), (3, .int (chg z))]) hx hb dX1_hear_82 hl (k := 4) rfl (nI_1 _) (by decide) rfl (fun ls hl => ?_)
              refine lv_goto (tgt := 19) hx hb dX1_hear_85 (by decide) ?_
              exact ih (i + 1) (upd p1 i (nI (hrP z (tkP (T.getD i tk0))))) x1 (by omega) (hri_keep hh hC c_25 c_36 c_71) (by omega) _ _ (hP.sub [0, 1, 2, 3, 4, 5] (rfl)) (hD.sub [0, 1, 2, 3, 4, 5] (by decide) (rfl)) hS _ (lv_sub hl [1, 2, 3, 4, 0] (rfl))
            · skip
              refine lv_aload_n hx hb dX1_hear_74 rfl (lv_at hl 0 rfl) ?_
              refine va_get (D := D) (ci := 1) (v := .ref c5) (C := RX1) (T := TX1) (N := 6) hx hb hts iX1 hown hK hP 0 rfl rfl 4 (by decide) f24 (fun _ h9 => h9) rfl dX1_hear_75 ?_
              refine lv_iload hx hb dX1_hear_78 (lv_at hl 4 rfl) ?_
              refine lv_iload_n hx hb dX1_hear_80 rfl (lv_at hl 2 rfl) ?_
              refine k_iast hx hb hK hP hD hS 5 0 rfl rfl i (rfl) (by omega) (by decide) dX1_hear_81 (fun H locs hP hD hS => ?_)
              have hP : va_P D vwCl [(ca, .inr (1, [.ref c1, .ref c2, .ref c3, .ref c4, .ref c5, .int (nI T.length)])), (c1, .inl (cI, 6, .inl w1)), (c2, .inl (cI, 6, .inl w2)), (c3, .inl (cI, 6, .inl w3)), (c4, .inl (cI, 6, .inl (upd p1 i (nI (hrP z (tkP (T.getD i tk0))))))), (c5, .inl (cI, 6, .inl (upd x1 i (nI mi))))] H := hP
              have hD : va_D A [(ca, .inr (1, [.ref c1, .ref c2, .ref c3, .ref c4, .ref c5, .int (nI T.length)])), (c1, .inl (cI, 6, .inl w1)), (c2, .inl (cI, 6, .inl w2)), (c3, .inl (cI, 6, .inl w3)), (c4, .inl (cI, 6, .inl (upd p1 i (nI (hrP z (tkP (T.getD i tk0))))))), (c5, .inl (cI, 6, .inl (upd x1 i (nI mi))))] := hD
              refine lv_iinc (v := nI (i + 1)) (lv' := [(4, .int (nI (i + 1))), (0, .ref ca), (1, .int (nI z)), (2, .int (nI mi)), (3, .int (chg z))]) hx hb dX1_hear_82 hl (k := 4) rfl (nI_1 _) (by decide) rfl (fun ls hl => ?_)
              refine lv_goto (tgt := 19) hx hb dX1_hear_85 (by decide) ?_
              exact ih (i + 1) (upd p1 i (nI (hrP z (tkP (T.getD i tk0))))) (upd x1 i (nI mi)) (by omega) (hri_gone hh hC c_25 c_36 c_71) (by omega) _ _ (hP.sub [0, 1, 2, 3, 4, 5] (rfl)) (hD.sub [0, 1, 2, 3, 4, 5] (by decide) (rfl)) hS _ (lv_sub hl [1, 2, 3, 4, 0] (rfl))
    exact loop_2 (T.length + 1) 0 w4 w5 (Nat.zero_le _) (hri_0 _ _ _ _ _) (by omega) _ _ (hP.sub [0, 1, 2, 3, 4, 5] (rfl)) (hD.sub [0, 1, 2, 3, 4, 5] (by decide) (rfl)) hS _ (lv_sub hl [2, 3, 4, 1, 0] (rfl))

abbrev rm_X1_speak : Room := { frames := 2, cells := 0, slots := 0, locals := 42 }
set_option maxHeartbeats 4000000 in
set_option maxRecDepth 100000 in
theorem c_X1_speak (l : Launch) (D : va_G) (cI : ClassId) (ca : Nat) (c1 : Nat) (c2 : Nat) (c3 : Nat) (c4 : Nat) (c5 : Nat) (w1 : Nat → Int32) (w2 : Nat → Int32) (w3 : Nat → Int32) (w4 : Nat → Int32) (w5 : Nat → Int32) (T : List Tk) (b : Nat) (bk : Nat) (bs : Nat) (k : Nat → Int32) (s : Nat → Int32) (L : List Tp) (mi : Nat) (hC : rC w1 w2 w3 w4 w5 T) (hO : okT T) (hB : rB k s L) : kM krv l yX1_speak wsX1_speak rm_X1_speak D [(cI, .int)] [.ref ca, .int (nI mi), .ref b] [(ca, .inr (1, [.ref c1, .ref c2, .ref c3, .ref c4, .ref c5, .int (nI T.length)])), (c1, .inl (cI, 6, .inl w1)), (c2, .inl (cI, 6, .inl w2)), (c3, .inl (cI, 6, .inl w3)), (c4, .inl (cI, 6, .inl w4)), (c5, .inl (cI, 6, .inl w5)), (b, .inr (0, [.ref bk, .ref bs, .int (nI L.length)])), (bk, .inl (cI, 12, .inl k)), (bs, .inl (cI, 12, .inl s))] (fun (r : Unit) (u : (Nat → Int32) × (Nat → Int32)) => rB u.1 u.2 (sk T mi L)) (fun (u : (Nat → Int32) × (Nat → Int32)) => [(ca, .inr (1, [.ref c1, .ref c2, .ref c3, .ref c4, .ref c5, .int (nI T.length)])), (c1, .inl (cI, 6, .inl w1)), (c2, .inl (cI, 6, .inl w2)), (c3, .inl (cI, 6, .inl w3)), (c4, .inl (cI, 6, .inl w4)), (c5, .inl (cI, 6, .inl w5)), (b, .inr (0, [.ref bk, .ref bs, .int (nI ((sk T mi L).length))])), (bk, .inl (cI, 12, .inl u.1)), (bs, .inl (cI, 12, .inl u.2))]) := by
  refine k_bodyV (cc := cX1_speak) (maxL := 4) (by decide) rfl (Nat.le_of_ble_eq_true rfl) ?_
  intro p e ss m args below meth c A Q F hname hA hG hK hP hD hS ret ls hl
  obtain ⟨hx, hb, hml, hown, hts⟩ := id F
  have hP : va_P D vwCl [(ca, .inr (1, [.ref c1, .ref c2, .ref c3, .ref c4, .ref c5, .int (nI T.length)])), (c1, .inl (cI, 6, .inl w1)), (c2, .inl (cI, 6, .inl w2)), (c3, .inl (cI, 6, .inl w3)), (c4, .inl (cI, 6, .inl w4)), (c5, .inl (cI, 6, .inl w5)), (b, .inr (0, [.ref bk, .ref bs, .int (nI L.length)])), (bk, .inl (cI, 12, .inl k)), (bs, .inl (cI, 12, .inl s))] ss.heap := hP
  have hD : va_D A [(ca, .inr (1, [.ref c1, .ref c2, .ref c3, .ref c4, .ref c5, .int (nI T.length)])), (c1, .inl (cI, 6, .inl w1)), (c2, .inl (cI, 6, .inl w2)), (c3, .inl (cI, 6, .inl w3)), (c4, .inl (cI, 6, .inl w4)), (c5, .inl (cI, 6, .inl w5)), (b, .inr (0, [.ref bk, .ref bs, .int (nI L.length)])), (bk, .inl (cI, 12, .inl k)), (bs, .inl (cI, 12, .inl s))] := hD
  have hl : lv_has ls 4 [(0, .ref ca), (1, .int (nI mi)), (2, .ref b)] := hl
  have iX1 : ∀ w ∈ u_ws RX1 TX1 6, w ∈ wsX1_speak := by decide +kernel
  have f9 := hts (.fieldLink RX1 9 "SmallerTalk$Company" "kinds" "[I") (by decide +kernel)
  have f15 := hts (.fieldLink RX1 15 "SmallerTalk$Company" "sizes" "[I") (by decide +kernel)
  have f18 := hts (.fieldLink RX1 18 "SmallerTalk$Company" "minutesBetween" "[I") (by decide +kernel)
  have f24 := hts (.fieldLink RX1 24 "SmallerTalk$Company" "exits" "[I") (by decide +kernel)
  have f27 := hts (.fieldLink RX1 27 "SmallerTalk$Company" "count" "I") (by decide +kernel)
  have h6 := hC.1
  refine lv_iconst (v := nI 0) hx hb dX1_speak_0 (by decide +kernel) ?_
  refine lv_istore_n (lv' := [(3, .int (nI 0)), (0, .ref ca), (1, .int (nI mi)), (2, .ref b)]) hx hb dX1_speak_1 rfl hl (by decide) rfl (fun ls hl => ?_)
  have loop_1 : ∀ (n : Nat) (i : Nat) (k1 : Nat → Int32) (s1 : Nat → Int32), (i ≤ T.length) → (rB k1 s1 (skN T mi L i)) → T.length - i < n → ∀ (H : Heap) (locs : List Loc), va_P D vwCl [(ca, .inr (1, [.ref c1, .ref c2, .ref c3, .ref c4, .ref c5, .int (nI T.length)])), (c1, .inl (cI, 6, .inl w1)), (c2, .inl (cI, 6, .inl w2)), (c3, .inl (cI, 6, .inl w3)), (c4, .inl (cI, 6, .inl w4)), (c5, .inl (cI, 6, .inl w5)), (b, .inr (0, [.ref bk, .ref bs, .int (nI ((skN T mi L i).length))])), (bk, .inl (cI, 12, .inl k1)), (bs, .inl (cI, 12, .inl s1))] H → va_D A [(ca, .inr (1, [.ref c1, .ref c2, .ref c3, .ref c4, .ref c5, .int (nI T.length)])), (c1, .inl (cI, 6, .inl w1)), (c2, .inl (cI, 6, .inl w2)), (c3, .inl (cI, 6, .inl w3)), (c4, .inl (cI, 6, .inl w4)), (c5, .inl (cI, 6, .inl w5)), (b, .inr (0, [.ref bk, .ref bs, .int (nI ((skN T mi L i).length))])), (bk, .inl (cI, 12, .inl k1)), (bs, .inl (cI, 12, .inl s1))] → va_S A ss.heap H locs → ∀ ls : Array Slot, lv_has ls 4 [(0, .ref ca), (1, .int (nI mi)), (2, .ref b), (3, .int (nI i))] → W p l e rm_X1_speak ss m args below meth c H locs 0 0 Q (F0 m 2 ls []) := by
    intro n
    induction n with
    | zero => intro i k1 s1 hi hb9 hn; exact absurd hn (by omega)
    | succ n ih =>
      intro i k1 s1 hi hb9 hn H locs hP hD hS ls hl
      refine lv_iload_n hx hb dX1_speak_2 rfl (lv_at hl 3 rfl) ?_
      refine lv_aload_n hx hb dX1_speak_3 rfl (lv_at hl 0 rfl) ?_
      refine va_get (D := D) (ci := 1) (v := .int (nI T.length)) (C := RX1) (T := TX1) (N := 6) hx hb hts iX1 hown hK hP 0 rfl rfl 5 (by decide) f27 (fun _ h9 => h9) rfl dX1_speak_4 ?_
      refine k_cmp_ge (tgt := 55) hx hb i T.length rfl rfl (by omega) (by omega) dX1_speak_7 (by decide) (fun c_7 => ?_) (fun c_7 => ?_)
      · skip
        obtain rfl : i = T.length := by omega
        exact ret ⟨k1, s1⟩ _ _ _ _ _ _ (hb9) (hP.sub [0, 1, 2, 3, 4, 5, 6, 7, 8] (rfl)) (hD.sub [0, 1, 2, 3, 4, 5, 6, 7, 8] (by decide) (rfl)) hS (Nat.le_of_ble_eq_true rfl) (Nat.le_of_ble_eq_true rfl) dX1_speak_55
      · skip
        refine lv_aload_n hx hb dX1_speak_10 rfl (lv_at hl 0 rfl) ?_
        refine va_get (D := D) (ci := 1) (v := .ref c5) (C := RX1) (T := TX1) (N := 6) hx hb hts iX1 hown hK hP 0 rfl rfl 4 (by decide) f24 (fun _ h9 => h9) rfl dX1_speak_11 ?_
        refine lv_iload_n hx hb dX1_speak_14 rfl (lv_at hl 3 rfl) ?_
        refine k_iald hx hb hK hP 5 0 rfl rfl i (rfl) (by omega) (by decide) dX1_speak_15 ?_
        refine k_top (v := tkX (T.getD i tk0)) ((hC.2 i c_7).2.2.2.2) ?_
        refine lv_iconst (v := -1) hx hb dX1_speak_16 (by decide +kernel) ?_
        refine lv_icmp_ne (tgt := 49) hx hb dX1_speak_17 (by decide) (fun c_17 => ?_) (fun c_17 => ?_)
        · skip
          refine lv_iinc (v := nI (i + 1)) (lv' := [(3, .int (nI (i + 1))), (0, .ref ca), (1, .int (nI mi)), (2, .ref b)]) hx hb dX1_speak_49 hl (k := 3) rfl (nI_1 _) (by decide) rfl (fun ls hl => ?_)
          refine lv_goto (tgt := 2) hx hb dX1_speak_52 (by decide) ?_
          have e8 := sk_f1 (T := T) (mi := mi) (L := L) (i := i) c_17
          exact ih (i + 1) k1 s1 (by omega) (by rw [e8]; exact hb9) (by omega) _ _ (hP.sub [0, 1, 2, 3, 4, 5, 6, 7, 8] (by rw [e8]; rfl)) (hD.sub [0, 1, 2, 3, 4, 5, 6, 7, 8] (by decide) (by rw [e8]; rfl)) hS _ (lv_sub hl [1, 2, 3, 0] (rfl))
        · skip
          refine lv_aload_n hx hb dX1_speak_20 rfl (lv_at hl 0 rfl) ?_
          refine va_get (D := D) (ci := 1) (v := .ref c3) (C := RX1) (T := TX1) (N := 6) hx hb hts iX1 hown hK hP 0 rfl rfl 2 (by decide) f18 (fun _ h9 => h9) rfl dX1_speak_21 ?_
          refine lv_iload_n hx hb dX1_speak_24 rfl (lv_at hl 3 rfl) ?_
          refine k_iald hx hb hK hP 3 0 rfl rfl i (rfl) (by omega) (by decide) dX1_speak_25 ?_
          refine k_top (v := tkE (T.getD i tk0)) ((hC.2 i c_7).2.2.1) ?_
          refine lv_iload_n hx hb dX1_speak_26 rfl (lv_at hl 1 rfl) ?_
          refine k_callSN (As := [.int (tkE (T.getD i tk0)), .int (nI mi)]) (rest := []) (wr := [(ca, .inr (1, [.ref c1, .ref c2, .ref c3, .ref c4, .ref c5, .int (nI T.length)])), (c1, .inl (cI, 6, .inl w1)), (c2, .inl (cI, 6, .inl w2)), (c3, .inl (cI, 6, .inl w3)), (c4, .inl (cI, 6, .inl w4)), (c5, .inl (cI, 6, .inl w5)), (b, .inr (0, [.ref bk, .ref bs, .int (nI ((skN T mi L i).length))])), (bk, .inl (cI, 12, .inl k1)), (bs, .inl (cI, 12, .inl s1))]) F (c_X3_divides l D cI (tkE (T.getD i tk0)) mi ((hO i c_7).2.2.1)) ggX1_speak_X3_divides rfl hG.1.2 (by decide +kernel) (by decide +kernel) (nA := 2) (by decide +kernel) rfl ⟨Nat.le_of_ble_eq_true rfl, Nat.le_of_ble_eq_true rfl⟩ hK hP hD hS hA hG [] [0, 1, 2, 3, 4, 5, 6, 7, 8] rfl (by decide) rfl (by decide) (by decide) [0] rfl rfl hl.1 (Nat.le_of_ble_eq_true rfl) dX1_speak_27 ⟨Nat.le_of_ble_eq_true rfl, Nat.le_of_ble_eq_true rfl⟩ (fun r_2 u H locs hr_27 hP hD hS => ?_)
          try dsimp only at hr_27
          have hP : va_P D vwCl [(ca, .inr (1, [.ref c1, .ref c2, .ref c3, .ref c4, .ref c5, .int (nI T.length)])), (c1, .inl (cI, 6, .inl w1)), (c2, .inl (cI, 6, .inl w2)), (c3, .inl (cI, 6, .inl w3)), (c4, .inl (cI, 6, .inl w4)), (c5, .inl (cI, 6, .inl w5)), (b, .inr (0, [.ref bk, .ref bs, .int (nI ((skN T mi L i).length))])), (bk, .inl (cI, 12, .inl k1)), (bs, .inl (cI, 12, .inl s1))] H := hP
          have hD : va_D A [(ca, .inr (1, [.ref c1, .ref c2, .ref c3, .ref c4, .ref c5, .int (nI T.length)])), (c1, .inl (cI, 6, .inl w1)), (c2, .inl (cI, 6, .inl w2)), (c3, .inl (cI, 6, .inl w3)), (c4, .inl (cI, 6, .inl w4)), (c5, .inl (cI, 6, .inl w5)), (b, .inr (0, [.ref bk, .ref bs, .int (nI ((skN T mi L i).length))])), (bk, .inl (cI, 12, .inl k1)), (bs, .inl (cI, 12, .inl s1))] := hD
          refine W.eq (g2 := F0 m 30 ls [.int r_2]) rfl ?_
          refine W.widen (k := 0) (n := 0) (Nat.le_of_ble_eq_true rfl) (Nat.le_of_ble_eq_true rfl) ?_
          refine lv_if_eq (tgt := 49) hx hb dX1_speak_30 (by decide) (fun c_30 => ?_) (fun c_30 => ?_)
          · skip
            refine lv_iinc (v := nI (i + 1)) (lv' := [(3, .int (nI (i + 1))), (0, .ref ca), (1, .int (nI mi)), (2, .ref b)]) hx hb dX1_speak_49 hl (k := 3) rfl (nI_1 _) (by decide) rfl (fun ls hl => ?_)
            refine lv_goto (tgt := 2) hx hb dX1_speak_52 (by decide) ?_
            have e8 := sk_f2 (T := T) (mi := mi) (L := L) (i := i) (bI_eq0 hr_27 c_30)
            exact ih (i + 1) k1 s1 (by omega) (by rw [e8]; exact hb9) (by omega) _ _ (hP.sub [0, 1, 2, 3, 4, 5, 6, 7, 8] (by rw [e8]; rfl)) (hD.sub [0, 1, 2, 3, 4, 5, 6, 7, 8] (by decide) (by rw [e8]; rfl)) hS _ (lv_sub hl [1, 2, 3, 0] (rfl))
          · skip
            refine lv_aload_n hx hb dX1_speak_33 rfl (lv_at hl 2 rfl) ?_
            refine lv_aload_n hx hb dX1_speak_34 rfl (lv_at hl 0 rfl) ?_
            refine va_get (D := D) (ci := 1) (v := .ref c1) (C := RX1) (T := TX1) (N := 6) hx hb hts iX1 hown hK hP 0 rfl rfl 0 (by decide) f9 (fun _ h9 => h9) rfl dX1_speak_35 ?_
            refine lv_iload_n hx hb dX1_speak_38 rfl (lv_at hl 3 rfl) ?_
            refine k_iald hx hb hK hP 1 0 rfl rfl i (rfl) (by omega) (by decide) dX1_speak_39 ?_
            refine k_top (v := tkK (T.getD i tk0)) ((hC.2 i c_7).1) ?_
            refine lv_aload_n hx hb dX1_speak_40 rfl (lv_at hl 0 rfl) ?_
            refine va_get (D := D) (ci := 1) (v := .ref c2) (C := RX1) (T := TX1) (N := 6) hx hb hts iX1 hown hK hP 0 rfl rfl 1 (by decide) f15 (fun _ h9 => h9) rfl dX1_speak_41 ?_
            refine lv_iload_n hx hb dX1_speak_44 rfl (lv_at hl 3 rfl) ?_
            refine k_iald hx hb hK hP 2 0 rfl rfl i (rfl) (by omega) (by decide) dX1_speak_45 ?_
            refine k_top (v := nI (tkS (T.getD i tk0))) ((hC.2 i c_7).2.1) ?_
            refine k_callV (As := [.int (tkK (T.getD i tk0)), .int (nI (tkS (T.getD i tk0)))]) (rest := []) (wr := [(ca, .inr (1, [.ref c1, .ref c2, .ref c3, .ref c4, .ref c5, .int (nI T.length)])), (c1, .inl (cI, 6, .inl w1)), (c2, .inl (cI, 6, .inl w2)), (c3, .inl (cI, 6, .inl w3)), (c4, .inl (cI, 6, .inl w4)), (c5, .inl (cI, 6, .inl w5))]) F (c_X0_append l D cI b bk bs k1 s1 (skN T mi L i) (tkK (T.getD i tk0)) (tkS (T.getD i tk0)) hb9) gX1_speak_X0_append rfl (nA := 2) (by decide +kernel) rfl ⟨Nat.le_of_ble_eq_true rfl, Nat.le_of_ble_eq_true rfl⟩ hK hP hD hS hA hG (ci := 0) (q0 := 6) rfl rfl rfl [6, 7, 8] [0, 1, 2, 3, 4, 5] rfl (by decide) rfl (by decide) (by decide) [0] rfl rfl hl.1 (Nat.le_of_ble_eq_true rfl) dX1_speak_46 ⟨Nat.le_of_ble_eq_true rfl, Nat.le_of_ble_eq_true rfl⟩ (fun r_5 u H locs hr_46 hP hD hS => ?_)
            obtain ⟨k1__3, s1__4⟩ := u
            try dsimp only at hr_46
            have hP : va_P D vwCl [(ca, .inr (1, [.ref c1, .ref c2, .ref c3, .ref c4, .ref c5, .int (nI T.length)])), (c1, .inl (cI, 6, .inl w1)), (c2, .inl (cI, 6, .inl w2)), (c3, .inl (cI, 6, .inl w3)), (c4, .inl (cI, 6, .inl w4)), (c5, .inl (cI, 6, .inl w5)), (b, .inr (0, [.ref bk, .ref bs, .int (nI ((app (skN T mi L i) ((tkK (T.getD i tk0)), (tkS (T.getD i tk0)))).length))])), (bk, .inl (cI, 12, .inl k1__3)), (bs, .inl (cI, 12, .inl s1__4))] H := hP
            have hD : va_D A [(ca, .inr (1, [.ref c1, .ref c2, .ref c3, .ref c4, .ref c5, .int (nI T.length)])), (c1, .inl (cI, 6, .inl w1)), (c2, .inl (cI, 6, .inl w2)), (c3, .inl (cI, 6, .inl w3)), (c4, .inl (cI, 6, .inl w4)), (c5, .inl (cI, 6, .inl w5)), (b, .inr (0, [.ref bk, .ref bs, .int (nI ((app (skN T mi L i) ((tkK (T.getD i tk0)), (tkS (T.getD i tk0)))).length))])), (bk, .inl (cI, 12, .inl k1__3)), (bs, .inl (cI, 12, .inl s1__4))] := hD
            refine W.widen (k := 0) (n := 0) (Nat.le_of_ble_eq_true rfl) (Nat.le_of_ble_eq_true rfl) ?_
            refine lv_iinc (v := nI (i + 1)) (lv' := [(3, .int (nI (i + 1))), (0, .ref ca), (1, .int (nI mi)), (2, .ref b)]) hx hb dX1_speak_49 hl (k := 3) rfl (nI_1 _) (by decide) rfl (fun ls hl => ?_)
            refine lv_goto (tgt := 2) hx hb dX1_speak_52 (by decide) ?_
            have e8 := sk_t (T := T) (mi := mi) (L := L) (i := i) c_17 (bI_ne0 hr_27 c_30)
            exact ih (i + 1) k1__3 s1__4 (by omega) (by rw [e8]; exact hr_46) (by omega) _ _ (hP.sub [0, 1, 2, 3, 4, 5, 6, 7, 8] (by rw [e8]; rfl)) (hD.sub [0, 1, 2, 3, 4, 5, 6, 7, 8] (by decide) (by rw [e8]; rfl)) hS _ (lv_sub hl [1, 2, 3, 0] (rfl))
  exact loop_1 (T.length + 1) 0 k s (Nat.zero_le _) hB (by omega) _ _ (hP.sub [0, 1, 2, 3, 4, 5, 6, 7, 8] (rfl)) (hD.sub [0, 1, 2, 3, 4, 5, 6, 7, 8] (by decide) (rfl)) hS _ (lv_sub hl [1, 2, 3, 0] (rfl))

abbrev rm_X1_init : Room := { frames := 1, cells := 5, slots := 30, locals := 12 }
set_option maxHeartbeats 4000000 in
set_option maxRecDepth 100000 in
theorem c_X1_init (l : Launch) (D : va_G) (cI : ClassId) (ca : Nat) : kM krv l yX1_init wsX1_init rm_X1_init D [(cI, .int)] [.ref ca] [(ca, .inr (1, [.null, .null, .null, .null, .null, .int (nI 0)]))] (fun (r : Unit) (u : Nat × Nat × Nat × Nat × Nat) => True) (fun (u : Nat × Nat × Nat × Nat × Nat) => [(ca, .inr (1, [.ref u.1, .ref u.2.1, .ref u.2.2.1, .ref u.2.2.2.1, .ref u.2.2.2.2, .int (nI 0)])), (u.1, .inl (cI, 6, .inl (fun _ => 0))), (u.2.1, .inl (cI, 6, .inl (fun _ => 0))), (u.2.2.1, .inl (cI, 6, .inl (fun _ => 0))), (u.2.2.2.1, .inl (cI, 6, .inl (fun _ => 0))), (u.2.2.2.2, .inl (cI, 6, .inl (fun _ => 0)))]) := by
  refine k_bodyV (cc := cX1_init) (maxL := 1) (by decide) rfl (Nat.le_of_ble_eq_true rfl) ?_
  intro p e ss m args below meth c A Q F hname hA hG hK hP hD hS ret ls hl
  obtain ⟨hx, hb, hml, hown, hts⟩ := id F
  have hP : va_P D vwCl [(ca, .inr (1, [.null, .null, .null, .null, .null, .int (nI 0)]))] ss.heap := hP
  have hD : va_D A [(ca, .inr (1, [.null, .null, .null, .null, .null, .int (nI 0)]))] := hD
  have hl : lv_has ls 1 [(0, .ref ca)] := hl
  have iX1 : ∀ w ∈ u_ws RX1 TX1 6, w ∈ wsX1_init := by decide +kernel
  have f9 := hts (.fieldLink RX1 9 "SmallerTalk$Company" "kinds" "[I") (by decide +kernel)
  have f15 := hts (.fieldLink RX1 15 "SmallerTalk$Company" "sizes" "[I") (by decide +kernel)
  have f18 := hts (.fieldLink RX1 18 "SmallerTalk$Company" "minutesBetween" "[I") (by decide +kernel)
  have f21 := hts (.fieldLink RX1 21 "SmallerTalk$Company" "patience" "[I") (by decide +kernel)
  have f24 := hts (.fieldLink RX1 24 "SmallerTalk$Company" "exits" "[I") (by decide +kernel)
  have f27 := hts (.fieldLink RX1 27 "SmallerTalk$Company" "count" "I") (by decide +kernel)
  refine lv_aload_n hx hb dX1_init_0 rfl (lv_at hl 0 rfl) ?_
  refine W.objInit hx hb hown (hts (.methodLink RX1 3 objectInit) (by decide +kernel)) (hts (.instanceMethod objectInit) (by decide +kernel)) (hts (.code objectInit ⟨#[0xb1]⟩ 1 none) (by decide +kernel)) rfl (by rw [hml]; exact hl.1) rfl dX1_init_1 (Nat.le_of_ble_eq_true rfl) (Nat.le_of_ble_eq_true rfl) ?_
  refine W.eq (g2 := F0 m 4 ls []) rfl ?_
  refine lv_aload_n hx hb dX1_init_4 rfl (lv_at hl 0 rfl) ?_
  refine lv_bipush (v := nI 6) hx hb dX1_init_5 (by decide +kernel) ?_
  refine va_newa (atype := .int) (a0 := (6, .inl (fun _ => 0))) (N' := 6) hx hb (hts (.arrayClass .int) (by decide +kernel)) rfl hK hP hD hS hA (fun _ => rfl) (by decide +kernel) (by decide +kernel) (Nat.le_of_ble_eq_true rfl) (Nat.le_of_ble_eq_true rfl) (Nat.le_of_ble_eq_true rfl) dX1_init_7 (fun q_1 cA H hK2 hP hD hS => ?_)
  obtain rfl : cI = cA := (k_same hK2).symm
  have hP : va_P D vwCl [(ca, .inr (1, [.null, .null, .null, .null, .null, .int (nI 0)])), (q_1, .inl (cI, 6, .inl (fun _ => 0)))] H := hP
  have hD : va_D A [(ca, .inr (1, [.null, .null, .null, .null, .null, .int (nI 0)])), (q_1, .inl (cI, 6, .inl (fun _ => 0)))] := hD
  refine va_putF (D := D) (ci := 1) (v := .ref q_1) (ty := (.array .int)) (C := RX1) (T := TX1) (N := 6) hx hb hts iX1 tyX1 tyX1_ok nmX1 hown hK hP hD hS 0 rfl rfl 0 (by decide) f9 (fun _ h9 => h9) rfl hname rfl (by decide +kernel) rfl rfl (Nat.le_of_ble_eq_true rfl) dX1_init_9 (fun H locs hP hD hS => ?_)
  have hP : va_P D vwCl [(ca, .inr (1, [.ref q_1, .null, .null, .null, .null, .int (nI 0)])), (q_1, .inl (cI, 6, .inl (fun _ => 0)))] H := hP
  have hD : va_D A [(ca, .inr (1, [.ref q_1, .null, .null, .null, .null, .int (nI 0)])), (q_1, .inl (cI, 6, .inl (fun _ => 0)))] := hD
  refine lv_aload_n hx hb dX1_init_12 rfl (lv_at hl 0 rfl) ?_
  refine lv_bipush (v := nI 6) hx hb dX1_init_13 (by decide +kernel) ?_
  refine va_newa (atype := .int) (a0 := (6, .inl (fun _ => 0))) (N' := 6) hx hb (hts (.arrayClass .int) (by decide +kernel)) rfl hK hP hD hS hA (fun _ => rfl) (by decide +kernel) (by decide +kernel) (Nat.le_of_ble_eq_true rfl) (Nat.le_of_ble_eq_true rfl) (Nat.le_of_ble_eq_true rfl) dX1_init_15 (fun q_2 cA H hK2 hP hD hS => ?_)
  obtain rfl : cI = cA := (k_same hK2).symm
  have hP : va_P D vwCl [(ca, .inr (1, [.ref q_1, .null, .null, .null, .null, .int (nI 0)])), (q_1, .inl (cI, 6, .inl (fun _ => 0))), (q_2, .inl (cI, 6, .inl (fun _ => 0)))] H := hP
  have hD : va_D A [(ca, .inr (1, [.ref q_1, .null, .null, .null, .null, .int (nI 0)])), (q_1, .inl (cI, 6, .inl (fun _ => 0))), (q_2, .inl (cI, 6, .inl (fun _ => 0)))] := hD
  refine va_putF (D := D) (ci := 1) (v := .ref q_2) (ty := (.array .int)) (C := RX1) (T := TX1) (N := 6) hx hb hts iX1 tyX1 tyX1_ok nmX1 hown hK hP hD hS 0 rfl rfl 1 (by decide) f15 (fun _ h9 => h9) rfl hname rfl (by decide +kernel) rfl rfl (Nat.le_of_ble_eq_true rfl) dX1_init_17 (fun H locs hP hD hS => ?_)
  have hP : va_P D vwCl [(ca, .inr (1, [.ref q_1, .ref q_2, .null, .null, .null, .int (nI 0)])), (q_1, .inl (cI, 6, .inl (fun _ => 0))), (q_2, .inl (cI, 6, .inl (fun _ => 0)))] H := hP
  have hD : va_D A [(ca, .inr (1, [.ref q_1, .ref q_2, .null, .null, .null, .int (nI 0)])), (q_1, .inl (cI, 6, .inl (fun _ => 0))), (q_2, .inl (cI, 6, .inl (fun _ => 0)))] := hD
  refine lv_aload_n hx hb dX1_init_20 rfl (lv_at hl 0 rfl) ?_
  refine lv_bipush (v := nI 6) hx hb dX1_init_21 (by decide +kernel) ?_
  refine va_newa (atype := .int) (a0 := (6, .inl (fun _ => 0))) (N' := 6) hx hb (hts (.arrayClass .int) (by decide +kernel)) rfl hK hP hD hS hA (fun _ => rfl) (by decide +kernel) (by decide +kernel) (Nat.le_of_ble_eq_true rfl) (Nat.le_of_ble_eq_true rfl) (Nat.le_of_ble_eq_true rfl) dX1_init_23 (fun q_3 cA H hK2 hP hD hS => ?_)
  obtain rfl : cI = cA := (k_same hK2).symm
  have hP : va_P D vwCl [(ca, .inr (1, [.ref q_1, .ref q_2, .null, .null, .null, .int (nI 0)])), (q_1, .inl (cI, 6, .inl (fun _ => 0))), (q_2, .inl (cI, 6, .inl (fun _ => 0))), (q_3, .inl (cI, 6, .inl (fun _ => 0)))] H := hP
  have hD : va_D A [(ca, .inr (1, [.ref q_1, .ref q_2, .null, .null, .null, .int (nI 0)])), (q_1, .inl (cI, 6, .inl (fun _ => 0))), (q_2, .inl (cI, 6, .inl (fun _ => 0))), (q_3, .inl (cI, 6, .inl (fun _ => 0)))] := hD
  refine va_putF (D := D) (ci := 1) (v := .ref q_3) (ty := (.array .int)) (C := RX1) (T := TX1) (N := 6) hx hb hts iX1 tyX1 tyX1_ok nmX1 hown hK hP hD hS 0 rfl rfl 2 (by decide) f18 (fun _ h9 => h9) rfl hname rfl (by decide +kernel) rfl rfl (Nat.le_of_ble_eq_true rfl) dX1_init_25 (fun H locs hP hD hS => ?_)
  have hP : va_P D vwCl [(ca, .inr (1, [.ref q_1, .ref q_2, .ref q_3, .null, .null, .int (nI 0)])), (q_1, .inl (cI, 6, .inl (fun _ => 0))), (q_2, .inl (cI, 6, .inl (fun _ => 0))), (q_3, .inl (cI, 6, .inl (fun _ => 0)))] H := hP
  have hD : va_D A [(ca, .inr (1, [.ref q_1, .ref q_2, .ref q_3, .null, .null, .int (nI 0)])), (q_1, .inl (cI, 6, .inl (fun _ => 0))), (q_2, .inl (cI, 6, .inl (fun _ => 0))), (q_3, .inl (cI, 6, .inl (fun _ => 0)))] := hD
  refine lv_aload_n hx hb dX1_init_28 rfl (lv_at hl 0 rfl) ?_
  refine lv_bipush (v := nI 6) hx hb dX1_init_29 (by decide +kernel) ?_
  refine va_newa (atype := .int) (a0 := (6, .inl (fun _ => 0))) (N' := 6) hx hb (hts (.arrayClass .int) (by decide +kernel)) rfl hK hP hD hS hA (fun _ => rfl) (by decide +kernel) (by decide +kernel) (Nat.le_of_ble_eq_true rfl) (Nat.le_of_ble_eq_true rfl) (Nat.le_of_ble_eq_true rfl) dX1_init_31 (fun q_4 cA H hK2 hP hD hS => ?_)
  obtain rfl : cI = cA := (k_same hK2).symm
  have hP : va_P D vwCl [(ca, .inr (1, [.ref q_1, .ref q_2, .ref q_3, .null, .null, .int (nI 0)])), (q_1, .inl (cI, 6, .inl (fun _ => 0))), (q_2, .inl (cI, 6, .inl (fun _ => 0))), (q_3, .inl (cI, 6, .inl (fun _ => 0))), (q_4, .inl (cI, 6, .inl (fun _ => 0)))] H := hP
  have hD : va_D A [(ca, .inr (1, [.ref q_1, .ref q_2, .ref q_3, .null, .null, .int (nI 0)])), (q_1, .inl (cI, 6, .inl (fun _ => 0))), (q_2, .inl (cI, 6, .inl (fun _ => 0))), (q_3, .inl (cI, 6, .inl (fun _ => 0))), (q_4, .inl (cI, 6, .inl (fun _ => 0)))] := hD
  refine va_putF (D := D) (ci := 1) (v := .ref q_4) (ty := (.array .int)) (C := RX1) (T := TX1) (N := 6) hx hb hts iX1 tyX1 tyX1_ok nmX1 hown hK hP hD hS 0 rfl rfl 3 (by decide) f21 (fun _ h9 => h9) rfl hname rfl (by decide +kernel) rfl rfl (Nat.le_of_ble_eq_true rfl) dX1_init_33 (fun H locs hP hD hS => ?_)
  have hP : va_P D vwCl [(ca, .inr (1, [.ref q_1, .ref q_2, .ref q_3, .ref q_4, .null, .int (nI 0)])), (q_1, .inl (cI, 6, .inl (fun _ => 0))), (q_2, .inl (cI, 6, .inl (fun _ => 0))), (q_3, .inl (cI, 6, .inl (fun _ => 0))), (q_4, .inl (cI, 6, .inl (fun _ => 0)))] H := hP
  have hD : va_D A [(ca, .inr (1, [.ref q_1, .ref q_2, .ref q_3, .ref q_4, .null, .int (nI 0)])), (q_1, .inl (cI, 6, .inl (fun _ => 0))), (q_2, .inl (cI, 6, .inl (fun _ => 0))), (q_3, .inl (cI, 6, .inl (fun _ => 0))), (q_4, .inl (cI, 6, .inl (fun _ => 0)))] := hD
  refine lv_aload_n hx hb dX1_init_36 rfl (lv_at hl 0 rfl) ?_
  refine lv_bipush (v := nI 6) hx hb dX1_init_37 (by decide +kernel) ?_
  refine va_newa (atype := .int) (a0 := (6, .inl (fun _ => 0))) (N' := 6) hx hb (hts (.arrayClass .int) (by decide +kernel)) rfl hK hP hD hS hA (fun _ => rfl) (by decide +kernel) (by decide +kernel) (Nat.le_of_ble_eq_true rfl) (Nat.le_of_ble_eq_true rfl) (Nat.le_of_ble_eq_true rfl) dX1_init_39 (fun q_5 cA H hK2 hP hD hS => ?_)
  obtain rfl : cI = cA := (k_same hK2).symm
  have hP : va_P D vwCl [(ca, .inr (1, [.ref q_1, .ref q_2, .ref q_3, .ref q_4, .null, .int (nI 0)])), (q_1, .inl (cI, 6, .inl (fun _ => 0))), (q_2, .inl (cI, 6, .inl (fun _ => 0))), (q_3, .inl (cI, 6, .inl (fun _ => 0))), (q_4, .inl (cI, 6, .inl (fun _ => 0))), (q_5, .inl (cI, 6, .inl (fun _ => 0)))] H := hP
  have hD : va_D A [(ca, .inr (1, [.ref q_1, .ref q_2, .ref q_3, .ref q_4, .null, .int (nI 0)])), (q_1, .inl (cI, 6, .inl (fun _ => 0))), (q_2, .inl (cI, 6, .inl (fun _ => 0))), (q_3, .inl (cI, 6, .inl (fun _ => 0))), (q_4, .inl (cI, 6, .inl (fun _ => 0))), (q_5, .inl (cI, 6, .inl (fun _ => 0)))] := hD
  refine va_putF (D := D) (ci := 1) (v := .ref q_5) (ty := (.array .int)) (C := RX1) (T := TX1) (N := 6) hx hb hts iX1 tyX1 tyX1_ok nmX1 hown hK hP hD hS 0 rfl rfl 4 (by decide) f24 (fun _ h9 => h9) rfl hname rfl (by decide +kernel) rfl rfl (Nat.le_of_ble_eq_true rfl) dX1_init_41 (fun H locs hP hD hS => ?_)
  have hP : va_P D vwCl [(ca, .inr (1, [.ref q_1, .ref q_2, .ref q_3, .ref q_4, .ref q_5, .int (nI 0)])), (q_1, .inl (cI, 6, .inl (fun _ => 0))), (q_2, .inl (cI, 6, .inl (fun _ => 0))), (q_3, .inl (cI, 6, .inl (fun _ => 0))), (q_4, .inl (cI, 6, .inl (fun _ => 0))), (q_5, .inl (cI, 6, .inl (fun _ => 0)))] H := hP
  have hD : va_D A [(ca, .inr (1, [.ref q_1, .ref q_2, .ref q_3, .ref q_4, .ref q_5, .int (nI 0)])), (q_1, .inl (cI, 6, .inl (fun _ => 0))), (q_2, .inl (cI, 6, .inl (fun _ => 0))), (q_3, .inl (cI, 6, .inl (fun _ => 0))), (q_4, .inl (cI, 6, .inl (fun _ => 0))), (q_5, .inl (cI, 6, .inl (fun _ => 0)))] := hD
  refine lv_aload_n hx hb dX1_init_44 rfl (lv_at hl 0 rfl) ?_
  refine lv_iconst (v := nI 0) hx hb dX1_init_45 (by decide +kernel) ?_
  refine va_put (D := D) (ci := 1) (v := .int (nI 0)) (ty := .int) (C := RX1) (T := TX1) (N := 6) hx hb hts iX1 tyX1 tyX1_ok nmX1 hown hK hP hD hS 0 rfl rfl 5 (by decide) f27 (fun _ h9 => h9) rfl (by decide +kernel) rfl rfl (Nat.le_of_ble_eq_true rfl) dX1_init_46 (fun H locs hP hD hS => ?_)
  have hP : va_P D vwCl [(ca, .inr (1, [.ref q_1, .ref q_2, .ref q_3, .ref q_4, .ref q_5, .int (nI 0)])), (q_1, .inl (cI, 6, .inl (fun _ => 0))), (q_2, .inl (cI, 6, .inl (fun _ => 0))), (q_3, .inl (cI, 6, .inl (fun _ => 0))), (q_4, .inl (cI, 6, .inl (fun _ => 0))), (q_5, .inl (cI, 6, .inl (fun _ => 0)))] H := hP
  have hD : va_D A [(ca, .inr (1, [.ref q_1, .ref q_2, .ref q_3, .ref q_4, .ref q_5, .int (nI 0)])), (q_1, .inl (cI, 6, .inl (fun _ => 0))), (q_2, .inl (cI, 6, .inl (fun _ => 0))), (q_3, .inl (cI, 6, .inl (fun _ => 0))), (q_4, .inl (cI, 6, .inl (fun _ => 0))), (q_5, .inl (cI, 6, .inl (fun _ => 0)))] := hD
  exact ret ⟨q_1, q_2, q_3, q_4, q_5⟩ _ _ _ _ _ _ (trivial) (hP.sub [0, 1, 2, 3, 4, 5] (rfl)) (hD.sub [0, 1, 2, 3, 4, 5] (by decide) (rfl)) hS (Nat.le_of_ble_eq_true rfl) (Nat.le_of_ble_eq_true rfl) dX1_init_49

abbrev rm_X1_copyFrom : Room := { frames := 0, cells := 0, slots := 0, locals := 0 }
set_option maxHeartbeats 4000000 in
set_option maxRecDepth 100000 in
theorem c_X1_copyFrom (l : Launch) (D : va_G) (cI : ClassId) (ca : Nat) (c1 : Nat) (c2 : Nat) (c3 : Nat) (c4 : Nat) (c5 : Nat) (cb : Nat) (g1 : Nat) (g2 : Nat) (g3 : Nat) (g4 : Nat) (g5 : Nat) (n0 : Int32) (w1 : Nat → Int32) (w2 : Nat → Int32) (w3 : Nat → Int32) (w4 : Nat → Int32) (w5 : Nat → Int32) (o1 : Nat → Int32) (o2 : Nat → Int32) (o3 : Nat → Int32) (o4 : Nat → Int32) (o5 : Nat → Int32) (T : List Tk) (hC : rC o1 o2 o3 o4 o5 T) : kM krv l yX1_copyFrom wsX1_copyFrom rm_X1_copyFrom D [(cI, .int)] [.ref ca, .ref cb] [(ca, .inr (1, [.ref c1, .ref c2, .ref c3, .ref c4, .ref c5, .int n0])), (c1, .inl (cI, 6, .inl w1)), (c2, .inl (cI, 6, .inl w2)), (c3, .inl (cI, 6, .inl w3)), (c4, .inl (cI, 6, .inl w4)), (c5, .inl (cI, 6, .inl w5)), (cb, .inr (1, [.ref g1, .ref g2, .ref g3, .ref g4, .ref g5, .int (nI T.length)])), (g1, .inl (cI, 6, .inl o1)), (g2, .inl (cI, 6, .inl o2)), (g3, .inl (cI, 6, .inl o3)), (g4, .inl (cI, 6, .inl o4)), (g5, .inl (cI, 6, .inl o5))] (fun (r : Unit) (u : (Nat → Int32) × (Nat → Int32) × (Nat → Int32) × (Nat → Int32) × (Nat → Int32)) => rC u.1 u.2.1 u.2.2.1 u.2.2.2.1 u.2.2.2.2 T) (fun (u : (Nat → Int32) × (Nat → Int32) × (Nat → Int32) × (Nat → Int32) × (Nat → Int32)) => [(ca, .inr (1, [.ref c1, .ref c2, .ref c3, .ref c4, .ref c5, .int (nI T.length)])), (c1, .inl (cI, 6, .inl u.1)), (c2, .inl (cI, 6, .inl u.2.1)), (c3, .inl (cI, 6, .inl u.2.2.1)), (c4, .inl (cI, 6, .inl u.2.2.2.1)), (c5, .inl (cI, 6, .inl u.2.2.2.2)), (cb, .inr (1, [.ref g1, .ref g2, .ref g3, .ref g4, .ref g5, .int (nI T.length)])), (g1, .inl (cI, 6, .inl o1)), (g2, .inl (cI, 6, .inl o2)), (g3, .inl (cI, 6, .inl o3)), (g4, .inl (cI, 6, .inl o4)), (g5, .inl (cI, 6, .inl o5))]) := by
  refine k_bodyV (cc := cX1_copyFrom) (maxL := 3) (by decide) rfl (Nat.le_of_ble_eq_true rfl) ?_
  intro p e ss m args below meth c A Q F hname hA hG hK hP hD hS ret ls hl
  obtain ⟨hx, hb, hml, hown, hts⟩ := id F
  have hP : va_P D vwCl [(ca, .inr (1, [.ref c1, .ref c2, .ref c3, .ref c4, .ref c5, .int n0])), (c1, .inl (cI, 6, .inl w1)), (c2, .inl (cI, 6, .inl w2)), (c3, .inl (cI, 6, .inl w3)), (c4, .inl (cI, 6, .inl w4)), (c5, .inl (cI, 6, .inl w5)), (cb, .inr (1, [.ref g1, .ref g2, .ref g3, .ref g4, .ref g5, .int (nI T.length)])), (g1, .inl (cI, 6, .inl o1)), (g2, .inl (cI, 6, .inl o2)), (g3, .inl (cI, 6, .inl o3)), (g4, .inl (cI, 6, .inl o4)), (g5, .inl (cI, 6, .inl o5))] ss.heap := hP
  have hD : va_D A [(ca, .inr (1, [.ref c1, .ref c2, .ref c3, .ref c4, .ref c5, .int n0])), (c1, .inl (cI, 6, .inl w1)), (c2, .inl (cI, 6, .inl w2)), (c3, .inl (cI, 6, .inl w3)), (c4, .inl (cI, 6, .inl w4)), (c5, .inl (cI, 6, .inl w5)), (cb, .inr (1, [.ref g1, .ref g2, .ref g3, .ref g4, .ref g5, .int (nI T.length)])), (g1, .inl (cI, 6, .inl o1)), (g2, .inl (cI, 6, .inl o2)), (g3, .inl (cI, 6, .inl o3)), (g4, .inl (cI, 6, .inl o4)), (g5, .inl (cI, 6, .inl o5))] := hD
  have hl : lv_has ls 3 [(0, .ref ca), (1, .ref cb)] := hl
  have iX1 : ∀ w ∈ u_ws RX1 TX1 6, w ∈ wsX1_copyFrom := by decide +kernel
  have f9 := hts (.fieldLink RX1 9 "SmallerTalk$Company" "kinds" "[I") (by decide +kernel)
  have f15 := hts (.fieldLink RX1 15 "SmallerTalk$Company" "sizes" "[I") (by decide +kernel)
  have f18 := hts (.fieldLink RX1 18 "SmallerTalk$Company" "minutesBetween" "[I") (by decide +kernel)
  have f21 := hts (.fieldLink RX1 21 "SmallerTalk$Company" "patience" "[I") (by decide +kernel)
  have f24 := hts (.fieldLink RX1 24 "SmallerTalk$Company" "exits" "[I") (by decide +kernel)
  have f27 := hts (.fieldLink RX1 27 "SmallerTalk$Company" "count" "I") (by decide +kernel)
  have h6 := hC.1
  refine lv_iconst (v := nI 0) hx hb dX1_copyFrom_0 (by decide +kernel) ?_
  refine lv_istore_n (lv' := [(2, .int (nI 0)), (0, .ref ca), (1, .ref cb)]) hx hb dX1_copyFrom_1 rfl hl (by decide) rfl (fun ls hl => ?_)
  have loop_1 : ∀ (n : Nat) (i : Nat) (v1 : Nat → Int32) (v2 : Nat → Int32) (v3 : Nat → Int32) (v4 : Nat → Int32) (v5 : Nat → Int32), (i ≤ T.length) → (∀ q, q < i → v1 q = o1 q ∧ v2 q = o2 q ∧ v3 q = o3 q ∧ v4 q = o4 q ∧ v5 q = o5 q) → T.length - i < n → ∀ (H : Heap) (locs : List Loc), va_P D vwCl [(ca, .inr (1, [.ref c1, .ref c2, .ref c3, .ref c4, .ref c5, .int n0])), (c1, .inl (cI, 6, .inl v1)), (c2, .inl (cI, 6, .inl v2)), (c3, .inl (cI, 6, .inl v3)), (c4, .inl (cI, 6, .inl v4)), (c5, .inl (cI, 6, .inl v5)), (cb, .inr (1, [.ref g1, .ref g2, .ref g3, .ref g4, .ref g5, .int (nI T.length)])), (g1, .inl (cI, 6, .inl o1)), (g2, .inl (cI, 6, .inl o2)), (g3, .inl (cI, 6, .inl o3)), (g4, .inl (cI, 6, .inl o4)), (g5, .inl (cI, 6, .inl o5))] H → va_D A [(ca, .inr (1, [.ref c1, .ref c2, .ref c3, .ref c4, .ref c5, .int n0])), (c1, .inl (cI, 6, .inl v1)), (c2, .inl (cI, 6, .inl v2)), (c3, .inl (cI, 6, .inl v3)), (c4, .inl (cI, 6, .inl v4)), (c5, .inl (cI, 6, .inl v5)), (cb, .inr (1, [.ref g1, .ref g2, .ref g3, .ref g4, .ref g5, .int (nI T.length)])), (g1, .inl (cI, 6, .inl o1)), (g2, .inl (cI, 6, .inl o2)), (g3, .inl (cI, 6, .inl o3)), (g4, .inl (cI, 6, .inl o4)), (g5, .inl (cI, 6, .inl o5))] → va_S A ss.heap H locs → ∀ ls : Array Slot, lv_has ls 3 [(0, .ref ca), (1, .ref cb), (2, .int (nI i))] → W p l e rm_X1_copyFrom ss m args below meth c H locs 0 0 Q (F0 m 2 ls []) := by
    intro n
    induction n with
    | zero => intro i v1 v2 v3 v4 v5 hi hc hn; exact absurd hn (by omega)
    | succ n ih =>
      intro i v1 v2 v3 v4 v5 hi hc hn H locs hP hD hS ls hl
      refine lv_iload_n hx hb dX1_copyFrom_2 rfl (lv_at hl 2 rfl) ?_
      refine lv_aload_n hx hb dX1_copyFrom_3 rfl (lv_at hl 1 rfl) ?_
      refine va_get (D := D) (ci := 1) (v := .int (nI T.length)) (C := RX1) (T := TX1) (N := 6) hx hb hts iX1 hown hK hP 6 rfl rfl 5 (by decide) f27 (fun _ h9 => h9) rfl dX1_copyFrom_4 ?_
      refine k_cmp_ge (tgt := 76) hx hb i T.length rfl rfl (by omega) (by omega) dX1_copyFrom_7 (by decide) (fun c_7 => ?_) (fun c_7 => ?_)
      · skip
        obtain rfl : i = T.length := by omega
        refine lv_aload_n hx hb dX1_copyFrom_76 rfl (lv_at hl 0 rfl) ?_
        refine lv_aload_n hx hb dX1_copyFrom_77 rfl (lv_at hl 1 rfl) ?_
        refine va_get (D := D) (ci := 1) (v := .int (nI T.length)) (C := RX1) (T := TX1) (N := 6) hx hb hts iX1 hown hK hP 6 rfl rfl 5 (by decide) f27 (fun _ h9 => h9) rfl dX1_copyFrom_78 ?_
        refine va_put (D := D) (ci := 1) (v := .int (nI T.length)) (ty := .int) (C := RX1) (T := TX1) (N := 6) hx hb hts iX1 tyX1 tyX1_ok nmX1 hown hK hP hD hS 0 rfl rfl 5 (by decide) f27 (fun _ h9 => h9) rfl (by decide +kernel) rfl rfl (Nat.le_of_ble_eq_true rfl) dX1_copyFrom_81 (fun H locs hP hD hS => ?_)
        have hP : va_P D vwCl [(ca, .inr (1, [.ref c1, .ref c2, .ref c3, .ref c4, .ref c5, .int (nI T.length)])), (c1, .inl (cI, 6, .inl v1)), (c2, .inl (cI, 6, .inl v2)), (c3, .inl (cI, 6, .inl v3)), (c4, .inl (cI, 6, .inl v4)), (c5, .inl (cI, 6, .inl v5)), (cb, .inr (1, [.ref g1, .ref g2, .ref g3, .ref g4, .ref g5, .int (nI T.length)])), (g1, .inl (cI, 6, .inl o1)), (g2, .inl (cI, 6, .inl o2)), (g3, .inl (cI, 6, .inl o3)), (g4, .inl (cI, 6, .inl o4)), (g5, .inl (cI, 6, .inl o5))] H := hP
        have hD : va_D A [(ca, .inr (1, [.ref c1, .ref c2, .ref c3, .ref c4, .ref c5, .int (nI T.length)])), (c1, .inl (cI, 6, .inl v1)), (c2, .inl (cI, 6, .inl v2)), (c3, .inl (cI, 6, .inl v3)), (c4, .inl (cI, 6, .inl v4)), (c5, .inl (cI, 6, .inl v5)), (cb, .inr (1, [.ref g1, .ref g2, .ref g3, .ref g4, .ref g5, .int (nI T.length)])), (g1, .inl (cI, 6, .inl o1)), (g2, .inl (cI, 6, .inl o2)), (g3, .inl (cI, 6, .inl o3)), (g4, .inl (cI, 6, .inl o4)), (g5, .inl (cI, 6, .inl o5))] := hD
        exact ret ⟨v1, v2, v3, v4, v5⟩ _ _ _ _ _ _ (rC_cpy hC hc) (hP.sub [0, 1, 2, 3, 4, 5, 6, 7, 8, 9, 10, 11] (rfl)) (hD.sub [0, 1, 2, 3, 4, 5, 6, 7, 8, 9, 10, 11] (by decide) (rfl)) hS (Nat.le_of_ble_eq_true rfl) (Nat.le_of_ble_eq_true rfl) dX1_copyFrom_84
      · skip
        refine lv_aload_n hx hb dX1_copyFrom_10 rfl (lv_at hl 0 rfl) ?_
        refine va_get (D := D) (ci := 1) (v := .ref c1) (C := RX1) (T := TX1) (N := 6) hx hb hts iX1 hown hK hP 0 rfl rfl 0 (by decide) f9 (fun _ h9 => h9) rfl dX1_copyFrom_11 ?_
        refine lv_iload_n hx hb dX1_copyFrom_14 rfl (lv_at hl 2 rfl) ?_
        refine lv_aload_n hx hb dX1_copyFrom_15 rfl (lv_at hl 1 rfl) ?_
        refine va_get (D := D) (ci := 1) (v := .ref g1) (C := RX1) (T := TX1) (N := 6) hx hb hts iX1 hown hK hP 6 rfl rfl 0 (by decide) f9 (fun _ h9 => h9) rfl dX1_copyFrom_16 ?_
        refine lv_iload_n hx hb dX1_copyFrom_19 rfl (lv_at hl 2 rfl) ?_
        refine k_iald hx hb hK hP 7 0 rfl rfl i (rfl) (by omega) (by decide) dX1_copyFrom_20 ?_
        refine k_iast hx hb hK hP hD hS 1 0 rfl rfl i (rfl) (by omega) (by decide) dX1_copyFrom_21 (fun H locs hP hD hS => ?_)
        have hP : va_P D vwCl [(ca, .inr (1, [.ref c1, .ref c2, .ref c3, .ref c4, .ref c5, .int n0])), (c1, .inl (cI, 6, .inl (upd v1 i (o1 i)))), (c2, .inl (cI, 6, .inl v2)), (c3, .inl (cI, 6, .inl v3)), (c4, .inl (cI, 6, .inl v4)), (c5, .inl (cI, 6, .inl v5)), (cb, .inr (1, [.ref g1, .ref g2, .ref g3, .ref g4, .ref g5, .int (nI T.length)])), (g1, .inl (cI, 6, .inl o1)), (g2, .inl (cI, 6, .inl o2)), (g3, .inl (cI, 6, .inl o3)), (g4, .inl (cI, 6, .inl o4)), (g5, .inl (cI, 6, .inl o5))] H := hP
        have hD : va_D A [(ca, .inr (1, [.ref c1, .ref c2, .ref c3, .ref c4, .ref c5, .int n0])), (c1, .inl (cI, 6, .inl (upd v1 i (o1 i)))), (c2, .inl (cI, 6, .inl v2)), (c3, .inl (cI, 6, .inl v3)), (c4, .inl (cI, 6, .inl v4)), (c5, .inl (cI, 6, .inl v5)), (cb, .inr (1, [.ref g1, .ref g2, .ref g3, .ref g4, .ref g5, .int (nI T.length)])), (g1, .inl (cI, 6, .inl o1)), (g2, .inl (cI, 6, .inl o2)), (g3, .inl (cI, 6, .inl o3)), (g4, .inl (cI, 6, .inl o4)), (g5, .inl (cI, 6, .inl o5))] := hD
        refine lv_aload_n hx hb dX1_copyFrom_22 rfl (lv_at hl 0 rfl) ?_
        refine va_get (D := D) (ci := 1) (v := .ref c2) (C := RX1) (T := TX1) (N := 6) hx hb hts iX1 hown hK hP 0 rfl rfl 1 (by decide) f15 (fun _ h9 => h9) rfl dX1_copyFrom_23 ?_
        refine lv_iload_n hx hb dX1_copyFrom_26 rfl (lv_at hl 2 rfl) ?_
        refine lv_aload_n hx hb dX1_copyFrom_27 rfl (lv_at hl 1 rfl) ?_
        refine va_get (D := D) (ci := 1) (v := .ref g2) (C := RX1) (T := TX1) (N := 6) hx hb hts iX1 hown hK hP 6 rfl rfl 1 (by decide) f15 (fun _ h9 => h9) rfl dX1_copyFrom_28 ?_
        refine lv_iload_n hx hb dX1_copyFrom_31 rfl (lv_at hl 2 rfl) ?_
        refine k_iald hx hb hK hP 8 0 rfl rfl i (rfl) (by omega) (by decide) dX1_copyFrom_32 ?_
        refine k_iast hx hb hK hP hD hS 2 0 rfl rfl i (rfl) (by omega) (by decide) dX1_copyFrom_33 (fun H locs hP hD hS => ?_)
        have hP : va_P D vwCl [(ca, .inr (1, [.ref c1, .ref c2, .ref c3, .ref c4, .ref c5, .int n0])), (c1, .inl (cI, 6, .inl (upd v1 i (o1 i)))), (c2, .inl (cI, 6, .inl (upd v2 i (o2 i)))), (c3, .inl (cI, 6, .inl v3)), (c4, .inl (cI, 6, .inl v4)), (c5, .inl (cI, 6, .inl v5)), (cb, .inr (1, [.ref g1, .ref g2, .ref g3, .ref g4, .ref g5, .int (nI T.length)])), (g1, .inl (cI, 6, .inl o1)), (g2, .inl (cI, 6, .inl o2)), (g3, .inl (cI, 6, .inl o3)), (g4, .inl (cI, 6, .inl o4)), (g5, .inl (cI, 6, .inl o5))] H := hP
        have hD : va_D A [(ca, .inr (1, [.ref c1, .ref c2, .ref c3, .ref c4, .ref c5, .int n0])), (c1, .inl (cI, 6, .inl (upd v1 i (o1 i)))), (c2, .inl (cI, 6, .inl (upd v2 i (o2 i)))), (c3, .inl (cI, 6, .inl v3)), (c4, .inl (cI, 6, .inl v4)), (c5, .inl (cI, 6, .inl v5)), (cb, .inr (1, [.ref g1, .ref g2, .ref g3, .ref g4, .ref g5, .int (nI T.length)])), (g1, .inl (cI, 6, .inl o1)), (g2, .inl (cI, 6, .inl o2)), (g3, .inl (cI, 6, .inl o3)), (g4, .inl (cI, 6, .inl o4)), (g5, .inl (cI, 6, .inl o5))] := hD
        refine lv_aload_n hx hb dX1_copyFrom_34 rfl (lv_at hl 0 rfl) ?_
        refine va_get (D := D) (ci := 1) (v := .ref c3) (C := RX1) (T := TX1) (N := 6) hx hb hts iX1 hown hK hP 0 rfl rfl 2 (by decide) f18 (fun _ h9 => h9) rfl dX1_copyFrom_35 ?_
        refine lv_iload_n hx hb dX1_copyFrom_38 rfl (lv_at hl 2 rfl) ?_
        refine lv_aload_n hx hb dX1_copyFrom_39 rfl (lv_at hl 1 rfl) ?_
        refine va_get (D := D) (ci := 1) (v := .ref g3) (C := RX1) (T := TX1) (N := 6) hx hb hts iX1 hown hK hP 6 rfl rfl 2 (by decide) f18 (fun _ h9 => h9) rfl dX1_copyFrom_40 ?_
        refine lv_iload_n hx hb dX1_copyFrom_43 rfl (lv_at hl 2 rfl) ?_
        refine k_iald hx hb hK hP 9 0 rfl rfl i (rfl) (by omega) (by decide) dX1_copyFrom_44 ?_
        refine k_iast hx hb hK hP hD hS 3 0 rfl rfl i (rfl) (by omega) (by decide) dX1_copyFrom_45 (fun H locs hP hD hS => ?_)
        have hP : va_P D vwCl [(ca, .inr (1, [.ref c1, .ref c2, .ref c3, .ref c4, .ref c5, .int n0])), (c1, .inl (cI, 6, .inl (upd v1 i (o1 i)))), (c2, .inl (cI, 6, .inl (upd v2 i (o2 i)))), (c3, .inl (cI, 6, .inl (upd v3 i (o3 i)))), (c4, .inl (cI, 6, .inl v4)), (c5, .inl (cI, 6, .inl v5)), (cb, .inr (1, [.ref g1, .ref g2, .ref g3, .ref g4, .ref g5, .int (nI T.length)])), (g1, .inl (cI, 6, .inl o1)), (g2, .inl (cI, 6, .inl o2)), (g3, .inl (cI, 6, .inl o3)), (g4, .inl (cI, 6, .inl o4)), (g5, .inl (cI, 6, .inl o5))] H := hP
        have hD : va_D A [(ca, .inr (1, [.ref c1, .ref c2, .ref c3, .ref c4, .ref c5, .int n0])), (c1, .inl (cI, 6, .inl (upd v1 i (o1 i)))), (c2, .inl (cI, 6, .inl (upd v2 i (o2 i)))), (c3, .inl (cI, 6, .inl (upd v3 i (o3 i)))), (c4, .inl (cI, 6, .inl v4)), (c5, .inl (cI, 6, .inl v5)), (cb, .inr (1, [.ref g1, .ref g2, .ref g3, .ref g4, .ref g5, .int (nI T.length)])), (g1, .inl (cI, 6, .inl o1)), (g2, .inl (cI, 6, .inl o2)), (g3, .inl (cI, 6, .inl o3)), (g4, .inl (cI, 6, .inl o4)), (g5, .inl (cI, 6, .inl o5))] := hD
        refine lv_aload_n hx hb dX1_copyFrom_46 rfl (lv_at hl 0 rfl) ?_
        refine va_get (D := D) (ci := 1) (v := .ref c4) (C := RX1) (T := TX1) (N := 6) hx hb hts iX1 hown hK hP 0 rfl rfl 3 (by decide) f21 (fun _ h9 => h9) rfl dX1_copyFrom_47 ?_
        refine lv_iload_n hx hb dX1_copyFrom_50 rfl (lv_at hl 2 rfl) ?_
        refine lv_aload_n hx hb dX1_copyFrom_51 rfl (lv_at hl 1 rfl) ?_
        refine va_get (D := D) (ci := 1) (v := .ref g4) (C := RX1) (T := TX1) (N := 6) hx hb hts iX1 hown hK hP 6 rfl rfl 3 (by decide) f21 (fun _ h9 => h9) rfl dX1_copyFrom_52 ?_
        refine lv_iload_n hx hb dX1_copyFrom_55 rfl (lv_at hl 2 rfl) ?_
        refine k_iald hx hb hK hP 10 0 rfl rfl i (rfl) (by omega) (by decide) dX1_copyFrom_56 ?_
        refine k_iast hx hb hK hP hD hS 4 0 rfl rfl i (rfl) (by omega) (by decide) dX1_copyFrom_57 (fun H locs hP hD hS => ?_)
        have hP : va_P D vwCl [(ca, .inr (1, [.ref c1, .ref c2, .ref c3, .ref c4, .ref c5, .int n0])), (c1, .inl (cI, 6, .inl (upd v1 i (o1 i)))), (c2, .inl (cI, 6, .inl (upd v2 i (o2 i)))), (c3, .inl (cI, 6, .inl (upd v3 i (o3 i)))), (c4, .inl (cI, 6, .inl (upd v4 i (o4 i)))), (c5, .inl (cI, 6, .inl v5)), (cb, .inr (1, [.ref g1, .ref g2, .ref g3, .ref g4, .ref g5, .int (nI T.length)])), (g1, .inl (cI, 6, .inl o1)), (g2, .inl (cI, 6, .inl o2)), (g3, .inl (cI, 6, .inl o3)), (g4, .inl (cI, 6, .inl o4)), (g5, .inl (cI, 6, .inl o5))] H := hP
        have hD : va_D A [(ca, .inr (1, [.ref c1, .ref c2, .ref c3, .ref c4, .ref c5, .int n0])), (c1, .inl (cI, 6, .inl (upd v1 i (o1 i)))), (c2, .inl (cI, 6, .inl (upd v2 i (o2 i)))), (c3, .inl (cI, 6, .inl (upd v3 i (o3 i)))), (c4, .inl (cI, 6, .inl (upd v4 i (o4 i)))), (c5, .inl (cI, 6, .inl v5)), (cb, .inr (1, [.ref g1, .ref g2, .ref g3, .ref g4, .ref g5, .int (nI T.length)])), (g1, .inl (cI, 6, .inl o1)), (g2, .inl (cI, 6, .inl o2)), (g3, .inl (cI, 6, .inl o3)), (g4, .inl (cI, 6, .inl o4)), (g5, .inl (cI, 6, .inl o5))] := hD
        refine lv_aload_n hx hb dX1_copyFrom_58 rfl (lv_at hl 0 rfl) ?_
        refine va_get (D := D) (ci := 1) (v := .ref c5) (C := RX1) (T := TX1) (N := 6) hx hb hts iX1 hown hK hP 0 rfl rfl 4 (by decide) f24 (fun _ h9 => h9) rfl dX1_copyFrom_59 ?_
        refine lv_iload_n hx hb dX1_copyFrom_62 rfl (lv_at hl 2 rfl) ?_
        refine lv_aload_n hx hb dX1_copyFrom_63 rfl (lv_at hl 1 rfl) ?_
        refine va_get (D := D) (ci := 1) (v := .ref g5) (C := RX1) (T := TX1) (N := 6) hx hb hts iX1 hown hK hP 6 rfl rfl 4 (by decide) f24 (fun _ h9 => h9) rfl dX1_copyFrom_64 ?_
        refine lv_iload_n hx hb dX1_copyFrom_67 rfl (lv_at hl 2 rfl) ?_
        refine k_iald hx hb hK hP 11 0 rfl rfl i (rfl) (by omega) (by decide) dX1_copyFrom_68 ?_
        refine k_iast hx hb hK hP hD hS 5 0 rfl rfl i (rfl) (by omega) (by decide) dX1_copyFrom_69 (fun H locs hP hD hS => ?_)
        have hP : va_P D vwCl [(ca, .inr (1, [.ref c1, .ref c2, .ref c3, .ref c4, .ref c5, .int n0])), (c1, .inl (cI, 6, .inl (upd v1 i (o1 i)))), (c2, .inl (cI, 6, .inl (upd v2 i (o2 i)))), (c3, .inl (cI, 6, .inl (upd v3 i (o3 i)))), (c4, .inl (cI, 6, .inl (upd v4 i (o4 i)))), (c5, .inl (cI, 6, .inl (upd v5 i (o5 i)))), (cb, .inr (1, [.ref g1, .ref g2, .ref g3, .ref g4, .ref g5, .int (nI T.length)])), (g1, .inl (cI, 6, .inl o1)), (g2, .inl (cI, 6, .inl o2)), (g3, .inl (cI, 6, .inl o3)), (g4, .inl (cI, 6, .inl o4)), (g5, .inl (cI, 6, .inl o5))] H := hP
        have hD : va_D A [(ca, .inr (1, [.ref c1, .ref c2, .ref c3, .ref c4, .ref c5, .int n0])), (c1, .inl (cI, 6, .inl (upd v1 i (o1 i)))), (c2, .inl (cI, 6, .inl (upd v2 i (o2 i)))), (c3, .inl (cI, 6, .inl (upd v3 i (o3 i)))), (c4, .inl (cI, 6, .inl (upd v4 i (o4 i)))), (c5, .inl (cI, 6, .inl (upd v5 i (o5 i)))), (cb, .inr (1, [.ref g1, .ref g2, .ref g3, .ref g4, .ref g5, .int (nI T.length)])), (g1, .inl (cI, 6, .inl o1)), (g2, .inl (cI, 6, .inl o2)), (g3, .inl (cI, 6, .inl o3)), (g4, .inl (cI, 6, .inl o4)), (g5, .inl (cI, 6, .inl o5))] := hD
        refine lv_iinc (v := nI (i + 1)) (lv' := [(2, .int (nI (i + 1))), (0, .ref ca), (1, .ref cb)]) hx hb dX1_copyFrom_70 hl (k := 2) rfl (nI_1 _) (by decide) rfl (fun ls hl => ?_)
        refine lv_goto (tgt := 2) hx hb dX1_copyFrom_73 (by decide) ?_
        exact ih (i + 1) (upd v1 i (o1 i)) (upd v2 i (o2 i)) (upd v3 i (o3 i)) (upd v4 i (o4 i)) (upd v5 i (o5 i)) (by omega) (cpy5_s hc) (by omega) _ _ (hP.sub [0, 1, 2, 3, 4, 5, 6, 7, 8, 9, 10, 11] (rfl)) (hD.sub [0, 1, 2, 3, 4, 5, 6, 7, 8, 9, 10, 11] (by decide) (rfl)) hS _ (lv_sub hl [1, 2, 0] (rfl))
  exact loop_1 (T.length + 1) 0 w1 w2 w3 w4 w5 (Nat.zero_le _) (fun _ h => absurd h (by omega)) (by omega) _ _ (hP.sub [0, 1, 2, 3, 4, 5, 6, 7, 8, 9, 10, 11] (rfl)) (hD.sub [0, 1, 2, 3, 4, 5, 6, 7, 8, 9, 10, 11] (by decide) (rfl)) hS _ (lv_sub hl [1, 2, 0] (rfl))

