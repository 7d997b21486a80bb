abbrev rm_X3_ground : Room := { frames := 0, cells := 0, slots := 0, locals := 0 }
set_option maxHeartbeats 4000000 in
set_option maxRecDepth 100000 in
/-- ground(z, g) -/
theorem c_X3_ground (l : Launch) (D : va_G) (cI : ClassId) (z : Nat) (g : Nat) (hz : z < 2147483648) (hg : 2 ≤ g) (hg2 : g < 2147483648) : kM kri l yX3_ground wsX3_ground rm_X3_ground D [(cI, .int)] [.int (nI z), .int (nI g)] [] (fun (r : Int32) (u : Unit) => r = nI (z / g)) (fun (u : Unit) => []) := by
  refine k_bodyI (cc := cX3_ground) (maxL := 2) (by decide) rfl (Nat.le_of_ble_eq_true rfl) ?_
  intro p e ss m args below meth c A Q F hname hA hG hK hP hD hS ret ls hl
  obtain ⟨hx, hb, hml, hown, hts⟩ := id F
  have hP : va_P D vwCl [] ss.heap := hP
  have hD : va_D A [] := hD
  have hl : lv_has ls 2 [(0, .int (nI z)), (1, .int (nI g))] := hl
  refine lv_iload_n hx hb dX3_ground_0 rfl (lv_at hl 1 rfl) ?_
  refine lv_iconst (v := nI 2) hx hb dX3_ground_1 (by decide +kernel) ?_
  refine k_cmp_ge (tgt := 9) hx hb g 2 rfl rfl (by omega) (by omega) dX3_ground_2 (by decide) (fun c_2 => ?_) (fun c_2 => ?_)
  · skip
    refine lv_iload_n hx hb dX3_ground_9 rfl (lv_at hl 0 rfl) ?_
    refine lv_iload_n hx hb dX3_ground_10 rfl (lv_at hl 1 rfl) ?_
    refine k_idiv hx hb (nI (z / g)) (nI_ne0 (by omega) (by omega)) (pk_div (by omega) (by omega) (by omega)) dX3_ground_11 ?_
    exact ret (nI (z / g)) () _ _ _ _ _ _ (rfl) (hP.sub [] (rfl)) (hD.sub [] (by decide) (rfl)) hS (Nat.le_of_ble_eq_true rfl) (Nat.le_of_ble_eq_true rfl) dX3_ground_12
  · skip
    exact absurd c_2 (by omega)

abbrev rm_X0_isFull : Room := { frames := 0, cells := 0, slots := 0, locals := 0 }
set_option maxHeartbeats 4000000 in
set_option maxRecDepth 100000 in
theorem c_X0_isFull (l : Launch) (D : va_G) (cI : ClassId) (b : Nat) (bk : Nat) (bs : Nat) (n : Nat) (hn : n ≤ 12) : kM kri l yX0_isFull wsX0_isFull rm_X0_isFull D [(cI, .int)] [.ref b] [(b, .inr (0, [.ref bk, .ref bs, .int (nI n)]))] (fun (r : Int32) (u : Unit) => r = (if 12 ≤ n then 1 else 0)) (fun (u : Unit) => [(b, .inr (0, [.ref bk, .ref bs, .int (nI n)]))]) := by
  refine k_bodyZ (cc := cX0_isFull) (maxL := 1) (by decide) rfl (Nat.le_of_ble_eq_true rfl) ?_
  intro p e ss m args below meth c A Q F hname hA hG hK hP hD hS ret ls hl
  obtain ⟨hx, hb, hml, hown, hts⟩ := id F
  have hP : va_P D vwCl [(b, .inr (0, [.ref bk, .ref bs, .int (nI n)]))] ss.heap := hP
  have hD : va_D A [(b, .inr (0, [.ref bk, .ref bs, .int (nI n)]))] := hD
  have hl : lv_has ls 1 [(0, .ref b)] := hl
  have iX0 : ∀ w ∈ u_ws RX0 TX0 3, w ∈ wsX0_isFull := by decide +kernel
  have f18 := hts (.fieldLink RX0 18 "SmallerTalk$Belt" "count" "I") (by decide +kernel)
  refine lv_aload_n hx hb dX0_isFull_0 rfl (lv_at hl 0 rfl) ?_
  refine va_get (D := D) (ci := 0) (v := .int (nI n)) (C := RX0) (T := TX0) (N := 3) hx hb hts iX0 hown hK hP 0 rfl rfl 2 (by decide) f18 (fun _ h9 => h9) rfl dX0_isFull_1 ?_
  refine lv_bipush (v := nI 12) hx hb dX0_isFull_4 (by decide +kernel) ?_
  refine k_cmp_lt (tgt := 13) hx hb n 12 rfl rfl (by omega) (by omega) dX0_isFull_6 (by decide) (fun c_6 => ?_) (fun c_6 => ?_)
  · skip
    refine lv_iconst (v := nI 0) hx hb dX0_isFull_13 (by decide +kernel) ?_
    exact ret (nI 0) () _ _ _ _ _ _ rfl (by rw [if_neg (by omega)]; rfl) (hP.sub [0] (rfl)) (hD.sub [0] (by decide) (rfl)) hS (Nat.le_of_ble_eq_true rfl) (Nat.le_of_ble_eq_true rfl) dX0_isFull_14
  · skip
    refine lv_iconst (v := nI 1) hx hb dX0_isFull_9 (by decide +kernel) ?_
    refine lv_goto (tgt := 14) hx hb dX0_isFull_10 (by decide) ?_
    exact ret (nI 1) () _ _ _ _ _ _ rfl (by rw [if_pos (by omega)]; rfl) (hP.sub [0] (rfl)) (hD.sub [0] (by decide) (rfl)) hS (Nat.le_of_ble_eq_true rfl) (Nat.le_of_ble_eq_true rfl) dX0_isFull_14

abbrev rm_X0_holds : Room := { frames := 0, cells := 0, slots := 0, locals := 0 }
set_option maxHeartbeats 4000000 in
set_option maxRecDepth 100000 in
theorem c_X0_holds (l : Launch) (D : va_G) (cI : ClassId) (b : Nat) (bk : Nat) (bs : Nat) (n : Nat) (j : Nat) (hn : n ≤ 12) (hj : j < n) : kM kri l yX0_holds wsX0_holds rm_X0_holds D [(cI, .int)] [.ref b, .int (nI j)] [(b, .inr (0, [.ref bk, .ref bs, .int (nI n)]))] (fun (r : Int32) (u : Unit) => r = 1) (fun (u : Unit) => [(b, .inr (0, [.ref bk, .ref bs, .int (nI n)]))]) := by
  refine k_bodyZ (cc := cX0_holds) (maxL := 2) (by decide) rfl (Nat.le_of_ble_eq_true rfl) ?_
  intro p e ss m args below meth c A Q F hname hA hG hK hP hD hS ret ls hl
  obtain ⟨hx, hb, hml, hown, hts⟩ := id F
  have hP : va_P D vwCl [(b, .inr (0, [.ref bk, .ref bs, .int (nI n)]))] ss.heap := hP
  have hD : va_D A [(b, .inr (0, [.ref bk, .ref bs, .int (nI n)]))] := hD
  have hl : lv_has ls 2 [(0, .ref b), (1, .int (nI j))] := hl
  have iX0 : ∀ w ∈ u_ws RX0 TX0 3, w ∈ wsX0_holds := by decide +kernel
  have f18 := hts (.fieldLink RX0 18 "SmallerTalk$Belt" "count" "I") (by decide +kernel)
  refine lv_iload_n hx hb dX0_holds_0 rfl (lv_at hl 1 rfl) ?_
  refine k_if_lt (tgt := 16) hx hb j rfl (by omega) dX0_holds_1 (by decide) (fun c_1 => ?_) (fun c_1 => ?_)
  · exact c_1.elim
  · skip
    refine lv_iload_n hx hb dX0_holds_4 rfl (lv_at hl 1 rfl) ?_
    refine lv_aload_n hx hb dX0_holds_5 rfl (lv_at hl 0 rfl) ?_
    refine va_get (D := D) (ci := 0) (v := .int (nI n)) (C := RX0) (T := TX0) (N := 3) hx hb hts iX0 hown hK hP 0 rfl rfl 2 (by decide) f18 (fun _ h9 => h9) rfl dX0_holds_6 ?_
    refine k_cmp_ge (tgt := 16) hx hb j n rfl rfl (by omega) (by omega) dX0_holds_9 (by decide) (fun c_9 => ?_) (fun c_9 => ?_)
    · skip
      exact absurd c_9 (by omega)
    · skip
      refine lv_iconst (v := nI 1) hx hb dX0_holds_12 (by decide +kernel) ?_
      refine lv_goto (tgt := 17) hx hb dX0_holds_13 (by decide) ?_
      exact ret (nI 1) () _ _ _ _ _ _ rfl (rfl) (hP.sub [0] (rfl)) (hD.sub [0] (by decide) (rfl)) hS (Nat.le_of_ble_eq_true rfl) (Nat.le_of_ble_eq_true rfl) dX0_holds_17

abbrev rm_X0_holds_no : Room := { frames := 0, cells := 0, slots := 0, locals := 0 }
set_option maxHeartbeats 4000000 in
set_option maxRecDepth 100000 in
theorem c_X0_holds_no (l : Launch) (D : va_G) (cI : ClassId) (b : Nat) (bk : Nat) (bs : Nat) (n : Nat) (x : Int32) (hn : n ≤ 12) (hx9 : ∀ j, j < n → ¬ x = nI j) : kM kri l yX0_holds wsX0_holds rm_X0_holds_no D [(cI, .int)] [.ref b, .int x] [(b, .inr (0, [.ref bk, .ref bs, .int (nI n)]))] (fun (r : Int32) (u : Unit) => r = 0) (fun (u : Unit) => [(b, .inr (0, [.ref bk, .ref bs, .int (nI n)]))]) := by
  refine k_bodyZ (cc := cX0_holds) (maxL := 2) (by decide) rfl (Nat.le_of_ble_eq_true rfl) ?_
  intro p e ss m args below meth c A Q F hname hA hG hK hP hD hS ret ls hl
  obtain ⟨hx, hb, hml, hown, hts⟩ := id F
  have hP : va_P D vwCl [(b, .inr (0, [.ref bk, .ref bs, .int (nI n)]))] ss.heap := hP
  have hD : va_D A [(b, .inr (0, [.ref bk, .ref bs, .int (nI n)]))] := hD
  have hl : lv_has ls 2 [(0, .ref b), (1, .int x)] := hl
  have iX0 : ∀ w ∈ u_ws RX0 TX0 3, w ∈ wsX0_holds := by decide +kernel
  have f18 := hts (.fieldLink RX0 18 "SmallerTalk$Belt" "count" "I") (by decide +kernel)
  refine lv_iload_n hx hb dX0_holds_0 rfl (lv_at hl 1 rfl) ?_
  refine lv_if_lt (tgt := 16) hx hb dX0_holds_1 (by decide) (fun c_1 => ?_) (fun c_1 => ?_)
  · skip
    refine lv_iconst (v := nI 0) hx hb dX0_holds_16 (by decide +kernel) ?_
    exact ret (nI 0) () _ _ _ _ _ _ rfl (rfl) (hP.sub [0] (rfl)) (hD.sub [0] (by decide) (rfl)) hS (Nat.le_of_ble_eq_true rfl) (Nat.le_of_ble_eq_true rfl) dX0_holds_17
  · skip
    refine lv_iload_n hx hb dX0_holds_4 rfl (lv_at hl 1 rfl) ?_
    refine lv_aload_n hx hb dX0_holds_5 rfl (lv_at hl 0 rfl) ?_
    refine va_get (D := D) (ci := 0) (v := .int (nI n)) (C := RX0) (T := TX0) (N := 3) hx hb hts iX0 hown hK hP 0 rfl rfl 2 (by decide) f18 (fun _ h9 => h9) rfl dX0_holds_6 ?_
    refine lv_icmp_ge (tgt := 16) hx hb dX0_holds_9 (by decide) (fun c_9 => ?_) (fun c_9 => ?_)
    · skip
      refine lv_iconst (v := nI 0) hx hb dX0_holds_16 (by decide +kernel) ?_
      exact ret (nI 0) () _ _ _ _ _ _ rfl (rfl) (hP.sub [0] (rfl)) (hD.sub [0] (by decide) (rfl)) hS (Nat.le_of_ble_eq_true rfl) (Nat.le_of_ble_eq_true rfl) dX0_holds_17
    · skip
      exact (k_out (by omega) hx9 c_1 c_9).elim

abbrev rm_X0_append : Room := { frames := 1, cells := 0, slots := 0, locals := 20 }
set_option maxHeartbeats 4000000 in
set_option maxRecDepth 100000 in
theorem c_X0_append (l : Launch) (D : va_G) (cI : ClassId) (b : Nat) (bk : Nat) (bs : Nat) (k : Nat → Int32) (s : Nat → Int32) (L : List Tp) (kd : Int32) (z : Nat) (hB : rB k s L) : kM krv l yX0_append wsX0_append rm_X0_append D [(cI, .int)] [.ref b, .int kd, .int (nI z)] [(b, .inr (0, [.ref bk, .ref bs, .int (nI L.length)])), (bk, .inl (cI, 12, .inl k)), (bs, .inl (cI, 12, .inl s))] (fun (r : Unit) (u : (Nat → Int32) × (Nat → Int32)) => rB u.1 u.2 (app L (kd, z))) (fun (u : (Nat → Int32) × (Nat → Int32)) => [(b, .inr (0, [.ref bk, .ref bs, .int (nI ((app L (kd, z)).length))])), (bk, .inl (cI, 12, .inl u.1)), (bs, .inl (cI, 12, .inl u.2))]) := by
  refine k_bodyV (cc := cX0_append) (maxL := 3) (by decide) rfl (Nat.le_of_ble_eq_true rfl) ?_
  intro p e ss m args below meth c A Q F hname hA hG hK hP hD hS ret ls hl
  obtain ⟨hx, hb, hml, hown, hts⟩ := id F
  have hP : va_P D vwCl [(b, .inr (0, [.ref bk, .ref bs, .int (nI L.length)])), (bk, .inl (cI, 12, .inl k)), (bs, .inl (cI, 12, .inl s))] ss.heap := hP
  have hD : va_D A [(b, .inr (0, [.ref bk, .ref bs, .int (nI L.length)])), (bk, .inl (cI, 12, .inl k)), (bs, .inl (cI, 12, .inl s))] := hD
  have hl : lv_has ls 3 [(0, .ref b), (1, .int kd), (2, .int (nI z))] := hl
  have iX0 : ∀ w ∈ u_ws RX0 TX0 3, w ∈ wsX0_append := by decide +kernel
  have f9 := hts (.fieldLink RX0 9 "SmallerTalk$Belt" "kinds" "[I") (by decide +kernel)
  have f15 := hts (.fieldLink RX0 15 "SmallerTalk$Belt" "sizes" "[I") (by decide +kernel)
  have f18 := hts (.fieldLink RX0 18 "SmallerTalk$Belt" "count" "I") (by decide +kernel)
  have h12 := hB.1
  refine lv_aload_n hx hb dX0_append_0 rfl (lv_at hl 0 rfl) ?_
  refine k_callV (As := []) (rest := []) (wr := [(bk, .inl (cI, 12, .inl k)), (bs, .inl (cI, 12, .inl s))]) F (c_X0_isFull l D cI b bk bs L.length h12) gX0_append_X0_isFull rfl (nA := 0) (by decide +kernel) rfl ⟨Nat.le_of_ble_eq_true rfl, Nat.le_of_ble_eq_true rfl⟩ hK hP hD hS hA hG (ci := 0) (q0 := 0) rfl rfl rfl [0] [1, 2] rfl (by decide) rfl (by decide) (by decide) [0] rfl rfl hl.1 (Nat.le_of_ble_eq_true rfl) dX0_append_1 ⟨Nat.le_of_ble_eq_true rfl, Nat.le_of_ble_eq_true rfl⟩ (fun r_1 u H locs hr_1 hP hD hS => ?_)
  try dsimp only at hr_1
  have hP : va_P D vwCl [(bk, .inl (cI, 12, .inl k)), (bs, .inl (cI, 12, .inl s)), (b, .inr (0, [.ref bk, .ref bs, .int (nI L.length)]))] H := hP
  have hD : va_D A [(bk, .inl (cI, 12, .inl k)), (bs, .inl (cI, 12, .inl s)), (b, .inr (0, [.ref bk, .ref bs, .int (nI L.length)]))] := hD
  refine W.eq (g2 := F0 m 4 ls [.int r_1]) rfl ?_
  refine W.widen (k := 0) (n := 0) (Nat.le_of_ble_eq_true rfl) (Nat.le_of_ble_eq_true rfl) ?_
  refine lv_if_eq (tgt := 8) hx hb dX0_append_4 (by decide) (fun c_4 => ?_) (fun c_4 => ?_)
  · skip
    have hf : L.length < 12 := Nat.lt_of_not_le (bI_eq0 hr_1 c_4)
    refine lv_aload_n hx hb dX0_append_8 rfl (lv_at hl 0 rfl) ?_
    refine va_get (D := D) (ci := 0) (v := .ref bk) (C := RX0) (T := TX0) (N := 3) hx hb hts iX0 hown hK hP 2 rfl rfl 0 (by decide) f9 (fun _ h9 => h9) rfl dX0_append_9 ?_
    refine lv_aload_n hx hb dX0_append_12 rfl (lv_at hl 0 rfl) ?_
    refine va_get (D := D) (ci := 0) (v := .int (nI L.length)) (C := RX0) (T := TX0) (N := 3) hx hb hts iX0 hown hK hP 2 rfl rfl 2 (by decide) f18 (fun _ h9 => h9) rfl dX0_append_13 ?_
    refine lv_iload_n hx hb dX0_append_16 rfl (lv_at hl 1 rfl) ?_
    refine k_iast hx hb hK hP hD hS 0 0 rfl rfl L.length (rfl) (by omega) (by decide) dX0_append_17 (fun H locs hP hD hS => ?_)
    have hP : va_P D vwCl [(bk, .inl (cI, 12, .inl (upd k L.length kd))), (bs, .inl (cI, 12, .inl s)), (b, .inr (0, [.ref bk, .ref bs, .int (nI L.length)]))] H := hP
    have hD : va_D A [(bk, .inl (cI, 12, .inl (upd k L.length kd))), (bs, .inl (cI, 12, .inl s)), (b, .inr (0, [.ref bk, .ref bs, .int (nI L.length)]))] := hD
    refine lv_aload_n hx hb dX0_append_18 rfl (lv_at hl 0 rfl) ?_
    refine va_get (D := D) (ci := 0) (v := .ref bs) (C := RX0) (T := TX0) (N := 3) hx hb hts iX0 hown hK hP 2 rfl rfl 1 (by decide) f15 (fun _ h9 => h9) rfl dX0_append_19 ?_
    refine lv_aload_n hx hb dX0_append_22 rfl (lv_at hl 0 rfl) ?_
    refine va_get (D := D) (ci := 0) (v := .int (nI L.length)) (C := RX0) (T := TX0) (N := 3) hx hb hts iX0 hown hK hP 2 rfl rfl 2 (by decide) f18 (fun _ h9 => h9) rfl dX0_append_23 ?_
    refine lv_iload_n hx hb dX0_append_26 rfl (lv_at hl 2 rfl) ?_
    refine k_iast hx hb hK hP hD hS 1 0 rfl rfl L.length (rfl) (by omega) (by decide) dX0_append_27 (fun H locs hP hD hS => ?_)
    have hP : va_P D vwCl [(bk, .inl (cI, 12, .inl (upd k L.length kd))), (bs, .inl (cI, 12, .inl (upd s L.length (nI z)))), (b, .inr (0, [.ref bk, .ref bs, .int (nI L.length)]))] H := hP
    have hD : va_D A [(bk, .inl (cI, 12, .inl (upd k L.length kd))), (bs, .inl (cI, 12, .inl (upd s L.length (nI z)))), (b, .inr (0, [.ref bk, .ref bs, .int (nI L.length)]))] := hD
    refine lv_aload_n hx hb dX0_append_28 rfl (lv_at hl 0 rfl) ?_
    refine lv_dup hx hb dX0_append_29 rfl ?_
    refine va_get (D := D) (ci := 0) (v := .int (nI L.length)) (C := RX0) (T := TX0) (N := 3) hx hb hts iX0 hown hK hP 2 rfl rfl 2 (by decide) f18 (fun _ h9 => h9) rfl dX0_append_30 ?_
    refine lv_iconst (v := nI 1) hx hb dX0_append_33 (by decide +kernel) ?_
    refine k_iadd hx hb (nI ((app L (kd, z)).length)) (by rw [nI_add, app, if_pos hf, List.length_append]; rfl) dX0_append_34 ?_
    refine va_put (D := D) (ci := 0) (v := .int (nI ((app L (kd, z)).length))) (ty := .int) (C := RX0) (T := TX0) (N := 3) hx hb hts iX0 tyX0 tyX0_ok nmX0 hown hK hP hD hS 2 rfl rfl 2 (by decide) f18 (fun _ h9 => h9) rfl (by decide +kernel) rfl rfl (Nat.le_of_ble_eq_true rfl) dX0_append_35 (fun H locs hP hD hS => ?_)
    have hP : va_P D vwCl [(bk, .inl (cI, 12, .inl (upd k L.length kd))), (bs, .inl (cI, 12, .inl (upd s L.length (nI z)))), (b, .inr (0, [.ref bk, .ref bs, .int (nI ((app L (kd, z)).length))]))] H := hP
    have hD : va_D A [(bk, .inl (cI, 12, .inl (upd k L.length kd))), (bs, .inl (cI, 12, .inl (upd s L.length (nI z)))), (b, .inr (0, [.ref bk, .ref bs, .int (nI ((app L (kd, z)).length))]))] := hD
    exact ret ⟨upd k L.length kd, upd s L.length (nI z)⟩ _ _ _ _ _ _ (rB_app hB hf) (hP.sub [2, 0, 1] (rfl)) (hD.sub [2, 0, 1] (by decide) (rfl)) hS (Nat.le_of_ble_eq_true rfl) (Nat.le_of_ble_eq_true rfl) dX0_append_38
  · skip
    have hf : ¬ L.length < 12 := Nat.not_lt.mpr (bI_ne0 hr_1 c_4)
    exact ret ⟨k, s⟩ _ _ _ _ _ _ (by rw [app_full hf]; exact hB) (hP.sub [2, 0, 1] (by rw [app_full hf]; rfl)) (hD.sub [2, 0, 1] (by decide) (by rw [app_full hf]; rfl)) hS (Nat.le_of_ble_eq_true rfl) (Nat.le_of_ble_eq_true rfl) dX0_append_7

abbrev rm_X0_moveToFront : Room := { frames := 1, cells := 0, slots := 0, locals := 21 }
set_option maxHeartbeats 4000000 in
set_option maxRecDepth 100000 in
theorem c_X0_moveToFront (l : Launch) (D : va_G) (cI : ClassId) (b : Nat) (bk : Nat) (bs : Nat) (k : Nat → Int32) (s : Nat → Int32) (L : List Tp) (j : Nat) (hB : rB k s L) (hj : j < L.length) : kM krv l yX0_moveToFront wsX0_moveToFront rm_X0_moveToFront D [(cI, .int)] [.ref b, .int (nI j)] [(b, .inr (0, [.ref bk, .ref bs, .int (nI L.length)])), (bk, .inl (cI, 12, .inl k)), (bs, .inl (cI, 12, .inl s))] (fun (r : Unit) (u : (Nat → Int32) × (Nat → Int32)) => rB u.1 u.2 (mtf L j)) (fun (u : (Nat → Int32) × (Nat → Int32)) => [(b, .inr (0, [.ref bk, .ref bs, .int (nI ((mtf L j).length))])), (bk, .inl (cI, 12, .inl u.1)), (bs, .inl (cI, 12, .inl u.2))]) := by
  refine k_bodyV (cc := cX0_moveToFront) (maxL := 5) (by decide) rfl (Nat.le_of_ble_eq_true rfl) ?_
  intro p e ss m args below meth c A Q F hname hA hG hK hP hD hS ret ls hl
  obtain ⟨hx, hb, hml, hown, hts⟩ := id F
  have hP : va_P D vwCl [(b, .inr (0, [.ref bk, .ref bs, .int (nI L.length)])), (bk, .inl (cI, 12, .inl k)), (bs, .inl (cI, 12, .inl s))] ss.heap := hP
  have hD : va_D A [(b, .inr (0, [.ref bk, .ref bs, .int (nI L.length)])), (bk, .inl (cI, 12, .inl k)), (bs, .inl (cI, 12, .inl s))] := hD
  have hl : lv_has ls 5 [(0, .ref b), (1, .int (nI j))] := hl
  have iX0 : ∀ w ∈ u_ws RX0 TX0 3, w ∈ wsX0_moveToFront := by decide +kernel
  have f9 := hts (.fieldLink RX0 9 "SmallerTalk$Belt" "kinds" "[I") (by decide +kernel)
  have f15 := hts (.fieldLink RX0 15 "SmallerTalk$Belt" "sizes" "[I") (by decide +kernel)
  have h12 := hB.1
  refine lv_aload_n hx hb dX0_moveToFront_0 rfl (lv_at hl 0 rfl) ?_
  refine lv_iload_n hx hb dX0_moveToFront_1 rfl (lv_at hl 1 rfl) ?_
  refine k_callV (As := [.int (nI j)]) (rest := []) (wr := [(bk, .inl (cI, 12, .inl k)), (bs, .inl (cI, 12, .inl s))]) F (c_X0_holds l D cI b bk bs L.length j h12 hj) gX0_moveToFront_X0_holds rfl (nA := 1) (by decide +kernel) rfl ⟨Nat.le_of_ble_eq_true rfl, Nat.le_of_ble_eq_true rfl⟩ hK hP hD hS hA hG (ci := 0) (q0 := 0) rfl rfl rfl [0] [1, 2] rfl (by decide) rfl (by decide) (by decide) [0] rfl rfl hl.1 (Nat.le_of_ble_eq_true rfl) dX0_moveToFront_2 ⟨Nat.le_of_ble_eq_true rfl, Nat.le_of_ble_eq_true rfl⟩ (fun r_1 u H locs hr_2 hP hD hS => ?_)
  try dsimp only at hr_2
  have hP : va_P D vwCl [(bk, .inl (cI, 12, .inl k)), (bs, .inl (cI, 12, .inl s)), (b, .inr (0, [.ref bk, .ref bs, .int (nI L.length)]))] H := hP
  have hD : va_D A [(bk, .inl (cI, 12, .inl k)), (bs, .inl (cI, 12, .inl s)), (b, .inr (0, [.ref bk, .ref bs, .int (nI L.length)]))] := hD
  refine W.eq (g2 := F0 m 5 ls [.int r_1]) rfl ?_
  refine W.widen (k := 0) (n := 0) (Nat.le_of_ble_eq_true rfl) (Nat.le_of_ble_eq_true rfl) ?_
  refine k_top (v := nI 1) (hr_2) ?_
  refine k_if_ne (tgt := 9) hx hb 1 rfl (by omega) dX0_moveToFront_5 (by decide) (fun c_5 => ?_) (fun c_5 => ?_)
  · skip
    refine lv_aload_n hx hb dX0_moveToFront_9 rfl (lv_at hl 0 rfl) ?_
    refine va_get (D := D) (ci := 0) (v := .ref bk) (C := RX0) (T := TX0) (N := 3) hx hb hts iX0 hown hK hP 2 rfl rfl 0 (by decide) f9 (fun _ h9 => h9) rfl dX0_moveToFront_10 ?_
    refine lv_iload_n hx hb dX0_moveToFront_13 rfl (lv_at hl 1 rfl) ?_
    refine k_iald hx hb hK hP 0 0 rfl rfl j (rfl) (by omega) (by decide) dX0_moveToFront_14 ?_
    refine lv_istore_n (lv' := [(2, .int (k j)), (0, .ref b), (1, .int (nI j))]) hx hb dX0_moveToFront_15 rfl hl (by decide) rfl (fun ls hl => ?_)
    refine lv_aload_n hx hb dX0_moveToFront_16 rfl (lv_at hl 1 rfl) ?_
    refine va_get (D := D) (ci := 0) (v := .ref bs) (C := RX0) (T := TX0) (N := 3) hx hb hts iX0 hown hK hP 2 rfl rfl 1 (by decide) f15 (fun _ h9 => h9) rfl dX0_moveToFront_17 ?_
    refine lv_iload_n hx hb dX0_moveToFront_20 rfl (lv_at hl 2 rfl) ?_
    refine k_iald hx hb hK hP 1 0 rfl rfl j (rfl) (by omega) (by decide) dX0_moveToFront_21 ?_
    refine lv_istore_n (lv' := [(3, .int (s j)), (2, .int (k j)), (0, .ref b), (1, .int (nI j))]) hx hb dX0_moveToFront_22 rfl hl (by decide) rfl (fun ls hl => ?_)
    refine lv_iload_n hx hb dX0_moveToFront_23 rfl (lv_at hl 3 rfl) ?_
    refine lv_istore (lv' := [(4, .int (nI j)), (3, .int (s j)), (2, .int (k j)), (0, .ref b), (1, .int (nI j))]) hx hb dX0_moveToFront_24 hl (by decide) rfl (fun ls hl => ?_)
    have loop_2 : ∀ (n : Nat) (t : Nat) (k2 : Nat → Int32) (s2 : Nat → Int32), (t ≤ j) → (sh k k2 t j) → (sh s s2 t j) → t < n → ∀ (H : Heap) (locs : List Loc), va_P D vwCl [(b, .inr (0, [.ref bk, .ref bs, .int (nI L.length)])), (bk, .inl (cI, 12, .inl k2)), (bs, .inl (cI, 12, .inl s2))] H → va_D A [(b, .inr (0, [.ref bk, .ref bs, .int (nI L.length)])), (bk, .inl (cI, 12, .inl k2)), (bs, .inl (cI, 12, .inl s2))] → va_S A ss.heap H locs → ∀ ls : Array Slot, lv_has ls 5 [(0, .ref b), (1, .int (nI j)), (2, .int (k j)), (3, .int (s j)), (4, .int (nI t))] → W p l e rm_X0_moveToFront ss m args below meth c H locs 0 0 Q (F0 m 26 ls []) := by
      intro n
      induction n with
      | zero => intro t k2 s2 ht h1 h2 hn; exact absurd hn (by omega)
      | succ n ih =>
        intro t k2 s2 ht h1 h2 hn H locs hP hD hS ls hl
        refine lv_iload hx hb dX0_moveToFront_26 (lv_at hl 4 rfl) ?_
        refine k_if_le (tgt := 69) hx hb t rfl (by omega) dX0_moveToFront_28 (by decide) (fun c_28 => ?_) (fun c_28 => ?_)
        · skip
          subst c_28
          refine lv_aload_n hx hb dX0_moveToFront_69 rfl (lv_at hl 0 rfl) ?_
          refine va_get (D := D) (ci := 0) (v := .ref bk) (C := RX0) (T := TX0) (N := 3) hx hb hts iX0 hown hK hP 0 rfl rfl 0 (by decide) f9 (fun _ h9 => h9) rfl dX0_moveToFront_70 ?_
          refine lv_iconst (v := nI 0) hx hb dX0_moveToFront_73 (by decide +kernel) ?_
          refine lv_iload_n hx hb dX0_moveToFront_74 rfl (lv_at hl 2 rfl) ?_
          refine k_iast hx hb hK hP hD hS 1 0 rfl rfl 0 (rfl) (by omega) (by decide) dX0_moveToFront_75 (fun H locs hP hD hS => ?_)
          have hP : va_P D vwCl [(b, .inr (0, [.ref bk, .ref bs, .int (nI L.length)])), (bk, .inl (cI, 12, .inl (upd k2 0 (k j)))), (bs, .inl (cI, 12, .inl s2))] H := hP
          have hD : va_D A [(b, .inr (0, [.ref bk, .ref bs, .int (nI L.length)])), (bk, .inl (cI, 12, .inl (upd k2 0 (k j)))), (bs, .inl (cI, 12, .inl s2))] := hD
          refine lv_aload_n hx hb dX0_moveToFront_76 rfl (lv_at hl 0 rfl) ?_
          refine va_get (D := D) (ci := 0) (v := .ref bs) (C := RX0) (T := TX0) (N := 3) hx hb hts iX0 hown hK hP 0 rfl rfl 1 (by decide) f15 (fun _ h9 => h9) rfl dX0_moveToFront_77 ?_
          refine lv_iconst (v := nI 0) hx hb dX0_moveToFront_80 (by decide +kernel) ?_
          refine lv_iload_n hx hb dX0_moveToFront_81 rfl (lv_at hl 3 rfl) ?_
          refine k_iast hx hb hK hP hD hS 2 0 rfl rfl 0 (rfl) (by omega) (by decide) dX0_moveToFront_82 (fun H locs hP hD hS => ?_)
          have hP : va_P D vwCl [(b, .inr (0, [.ref bk, .ref bs, .int (nI L.length)])), (bk, .inl (cI, 12, .inl (upd k2 0 (k j)))), (bs, .inl (cI, 12, .inl (upd s2 0 (s j))))] H := hP
          have hD : va_D A [(b, .inr (0, [.ref bk, .ref bs, .int (nI L.length)])), (bk, .inl (cI, 12, .inl (upd k2 0 (k j)))), (bs, .inl (cI, 12, .inl (upd s2 0 (s j))))] := hD
          exact ret ⟨upd k2 0 (k j), upd s2 0 (s j)⟩ _ _ _ _ _ _ (rB_mtf hB hj h1 h2) (hP.sub [0, 1, 2] (by rw [mtf_len hj]; rfl)) (hD.sub [0, 1, 2] (by decide) (by rw [mtf_len hj]; rfl)) hS (Nat.le_of_ble_eq_true rfl) (Nat.le_of_ble_eq_true rfl) dX0_moveToFront_83
        · skip
          obtain ⟨t1, rfl⟩ : ∃ z, t = z + 1 := ⟨t - 1, by omega⟩
          refine lv_aload_n hx hb dX0_moveToFront_31 rfl (lv_at hl 0 rfl) ?_
          refine va_get (D := D) (ci := 0) (v := .ref bk) (C := RX0) (T := TX0) (N := 3) hx hb hts iX0 hown hK hP 0 rfl rfl 0 (by decide) f9 (fun _ h9 => h9) rfl dX0_moveToFront_32 ?_
          refine lv_iload hx hb dX0_moveToFront_35 (lv_at hl 4 rfl) ?_
          refine lv_aload_n hx hb dX0_moveToFront_37 rfl (lv_at hl 0 rfl) ?_
          refine va_get (D := D) (ci := 0) (v := .ref bk) (C := RX0) (T := TX0) (N := 3) hx hb hts iX0 hown hK hP 0 rfl rfl 0 (by decide) f9 (fun _ h9 => h9) rfl dX0_moveToFront_38 ?_
          refine lv_iload hx hb dX0_moveToFront_41 (lv_at hl 4 rfl) ?_
          refine lv_iconst (v := nI 1) hx hb dX0_moveToFront_43 (by decide +kernel) ?_
          refine k_isub hx hb (nI t1) (k_subN _ _) dX0_moveToFront_44 ?_
          refine k_iald hx hb hK hP 1 0 rfl rfl t1 (rfl) (by omega) (by decide) dX0_moveToFront_45 ?_
          refine k_iast hx hb hK hP hD hS 1 0 rfl rfl (t1 + 1) (rfl) (by omega) (by decide) dX0_moveToFront_46 (fun H locs hP hD hS => ?_)
          have hP : va_P D vwCl [(b, .inr (0, [.ref bk, .ref bs, .int (nI L.length)])), (bk, .inl (cI, 12, .inl (upd k2 (t1 + 1) (k2 t1)))), (bs, .inl (cI, 12, .inl s2))] H := hP
          have hD : va_D A [(b, .inr (0, [.ref bk, .ref bs, .int (nI L.length)])), (bk, .inl (cI, 12, .inl (upd k2 (t1 + 1) (k2 t1)))), (bs, .inl (cI, 12, .inl s2))] := hD
          refine lv_aload_n hx hb dX0_moveToFront_47 rfl (lv_at hl 0 rfl) ?_
          refine va_get (D := D) (ci := 0) (v := .ref bs) (C := RX0) (T := TX0) (N := 3) hx hb hts iX0 hown hK hP 0 rfl rfl 1 (by decide) f15 (fun _ h9 => h9) rfl dX0_moveToFront_48 ?_
          refine lv_iload hx hb dX0_moveToFront_51 (lv_at hl 4 rfl) ?_
          refine lv_aload_n hx hb dX0_moveToFront_53 rfl (lv_at hl 0 rfl) ?_
          refine va_get (D := D) (ci := 0) (v := .ref bs) (C := RX0) (T := TX0) (N := 3) hx hb hts iX0 hown hK hP 0 rfl rfl 1 (by decide) f15 (fun _ h9 => h9) rfl dX0_moveToFront_54 ?_
          refine lv_iload hx hb dX0_moveToFront_57 (lv_at hl 4 rfl) ?_
          refine lv_iconst (v := nI 1) hx hb dX0_moveToFront_59 (by decide +kernel) ?_
          refine k_isub hx hb (nI t1) (k_subN _ _) dX0_moveToFront_60 ?_
          refine k_iald hx hb hK hP 2 0 rfl rfl t1 (rfl) (by omega) (by decide) dX0_moveToFront_61 ?_
          refine k_iast hx hb hK hP hD hS 2 0 rfl rfl (t1 + 1) (rfl) (by omega) (by decide) dX0_moveToFront_62 (fun H locs hP hD hS => ?_)
          have hP : va_P D vwCl [(b, .inr (0, [.ref bk, .ref bs, .int (nI L.length)])), (bk, .inl (cI, 12, .inl (upd k2 (t1 + 1) (k2 t1)))), (bs, .inl (cI, 12, .inl (upd s2 (t1 + 1) (s2 t1))))] H := hP
          have hD : va_D A [(b, .inr (0, [.ref bk, .ref bs, .int (nI L.length)])), (bk, .inl (cI, 12, .inl (upd k2 (t1 + 1) (k2 t1)))), (bs, .inl (cI, 12, .inl (upd s2 (t1 + 1) (s2 t1))))] := hD
          refine lv_iinc (v := nI t1) (lv' := [(4, .int (nI t1)), (0, .ref b), (1, .int (nI j)), (2, .int (k j)), (3, .int (s j))]) hx hb dX0_moveToFront_63 hl (k := 4) rfl (k_m1 _) (by decide) rfl (fun ls hl => ?_)
          refine lv_goto (tgt := 26) hx hb dX0_moveToFront_66 (by decide) ?_
          exact ih t1 (upd k2 (t1 + 1) (k2 t1)) (upd s2 (t1 + 1) (s2 t1)) (by omega) (sh_s h1 ht) (sh_s h2 ht) (by omega) _ _ (hP.sub [0, 1, 2] (rfl)) (hD.sub [0, 1, 2] (by decide) (rfl)) hS _ (lv_sub hl [1, 2, 3, 4, 0] (rfl))
    exact loop_2 (j + 1) j k s (Nat.le_refl _) (sh_0 _ _) (sh_0 _ _) (by omega) _ _ (hP.sub [2, 0, 1] (rfl)) (hD.sub [2, 0, 1] (by decide) (rfl)) hS _ (lv_sub hl [3, 4, 2, 1, 0] (rfl))
  · exact absurd c_5 (by omega)

abbrev rm_X0_takeOff : Room := { frames := 1, cells := 0, slots := 0, locals := 21 }
set_option maxHeartbeats 4000000 in
set_option maxRecDepth 100000 in
theorem c_X0_takeOff (l : Launch) (D : va_G) (cI : ClassId) (b : Nat) (bk : Nat) (bs : Nat) (k : Nat → Int32) (s : Nat → Int32) (L : List Tp) (j : Nat) (hB : rB k s L) (hj : j < L.length) : kM krv l yX0_takeOff wsX0_takeOff rm_X0_takeOff D [(cI, .int)] [.ref b, .int (nI j)] [(b, .inr (0, [.ref bk, .ref bs, .int (nI L.length)])), (bk, .inl (cI, 12, .inl k)), (bs, .inl (cI, 12, .inl s))] (fun (r : Unit) (u : (Nat → Int32) × (Nat → Int32)) => rB u.1 u.2 (L.eraseIdx j)) (fun (u : (Nat → Int32) × (Nat → Int32)) => [(b, .inr (0, [.ref bk, .ref bs, .int (nI ((L.eraseIdx j).length))])), (bk, .inl (cI, 12, .inl u.1)), (bs, .inl (cI, 12, .inl u.2))]) := by
  refine k_bodyV (cc := cX0_takeOff) (maxL := 3) (by decide) rfl (Nat.le_of_ble_eq_true rfl) ?_
  intro p e ss m args below meth c A Q F hname hA hG hK hP hD hS ret ls hl
  obtain ⟨hx, hb, hml, hown, hts⟩ := id F
  have hP : va_P D vwCl [(b, .inr (0, [.ref bk, .ref bs, .int (nI L.length)])), (bk, .inl (cI, 12, .inl k)), (bs, .inl (cI, 12, .inl s))] ss.heap := hP
  have hD : va_D A [(b, .inr (0, [.ref bk, .ref bs, .int (nI L.length)])), (bk, .inl (cI, 12, .inl k)), (bs, .inl (cI, 12, .inl s))] := hD
  have hl : lv_has ls 3 [(0, .ref b), (1, .int (nI j))] := hl
  have iX0 : ∀ w ∈ u_ws RX0 TX0 3, w ∈ wsX0_takeOff := by decide +kernel
  have f9 := hts (.fieldLink RX0 9 "SmallerTalk$Belt" "kinds" "[I") (by decide +kernel)
  have f15 := hts (.fieldLink RX0 15 "SmallerTalk$Belt" "sizes" "[I") (by decide +kernel)
  have f18 := hts (.fieldLink RX0 18 "SmallerTalk$Belt" "count" "I") (by decide +kernel)
  have h12 := hB.1
  refine lv_aload_n hx hb dX0_takeOff_0 rfl (lv_at hl 0 rfl) ?_
  refine lv_iload_n hx hb dX0_takeOff_1 rfl (lv_at hl 1 rfl) ?_
  refine k_callV (As := [.int (nI j)]) (rest := []) (wr := [(bk, .inl (cI, 12, .inl k)), (bs, .inl (cI, 12, .inl s))]) F (c_X0_holds l D cI b bk bs L.length j h12 hj) gX0_takeOff_X0_holds rfl (nA := 1) (by decide +kernel) rfl ⟨Nat.le_of_ble_eq_true rfl, Nat.le_of_ble_eq_true rfl⟩ hK hP hD hS hA hG (ci := 0) (q0 := 0) rfl rfl rfl [0] [1, 2] rfl (by decide) rfl (by decide) (by decide) [0] rfl rfl hl.1 (Nat.le_of_ble_eq_true rfl) dX0_takeOff_2 ⟨Nat.le_of_ble_eq_true rfl, Nat.le_of_ble_eq_true rfl⟩ (fun r_1 u H locs hr_2 hP hD hS => ?_)
  try dsimp only at hr_2
  have hP : va_P D vwCl [(bk, .inl (cI, 12, .inl k)), (bs, .inl (cI, 12, .inl s)), (b, .inr (0, [.ref bk, .ref bs, .int (nI L.length)]))] H := hP
  have hD : va_D A [(bk, .inl (cI, 12, .inl k)), (bs, .inl (cI, 12, .inl s)), (b, .inr (0, [.ref bk, .ref bs, .int (nI L.length)]))] := hD
  refine W.eq (g2 := F0 m 5 ls [.int r_1]) rfl ?_
  refine W.widen (k := 0) (n := 0) (Nat.le_of_ble_eq_true rfl) (Nat.le_of_ble_eq_true rfl) ?_
  refine k_top (v := nI 1) (hr_2) ?_
  refine k_if_ne (tgt := 9) hx hb 1 rfl (by omega) dX0_takeOff_5 (by decide) (fun c_5 => ?_) (fun c_5 => ?_)
  · skip
    refine lv_iload_n hx hb dX0_takeOff_9 rfl (lv_at hl 1 rfl) ?_
    refine lv_iconst (v := nI 1) hx hb dX0_takeOff_10 (by decide +kernel) ?_
    refine k_iadd hx hb (nI (j + 1)) (nI_add _ _) dX0_takeOff_11 ?_
    refine lv_istore_n (lv' := [(2, .int (nI (j + 1))), (0, .ref b), (1, .int (nI j))]) hx hb dX0_takeOff_12 rfl hl (by decide) rfl (fun ls hl => ?_)
    have loop_2 : ∀ (n : Nat) (i : Nat) (k2 : Nat → Int32) (s2 : Nat → Int32), (j ≤ i ∧ i < L.length) → (sd k k2 j i) → (sd s s2 j i) → L.length - i < n → ∀ (H : Heap) (locs : List Loc), va_P D vwCl [(b, .inr (0, [.ref bk, .ref bs, .int (nI L.length)])), (bk, .inl (cI, 12, .inl k2)), (bs, .inl (cI, 12, .inl s2))] H → va_D A [(b, .inr (0, [.ref bk, .ref bs, .int (nI L.length)])), (bk, .inl (cI, 12, .inl k2)), (bs, .inl (cI, 12, .inl s2))] → va_S A ss.heap H locs → ∀ ls : Array Slot, lv_has ls 3 [(0, .ref b), (2, .int (nI (i + 1)))] → W p l e rm_X0_takeOff ss m args below meth c H locs 0 0 Q (F0 m 13 ls []) := by
      intro n
      induction n with
      | zero => intro i k2 s2 hi h1 h2 hn; exact absurd hn (by omega)
      | succ n ih =>
        intro i k2 s2 hi h1 h2 hn H locs hP hD hS ls hl
        refine lv_iload_n hx hb dX0_takeOff_13 rfl (lv_at hl 1 rfl) ?_
        refine lv_aload_n hx hb dX0_takeOff_14 rfl (lv_at hl 0 rfl) ?_
        refine va_get (D := D) (ci := 0) (v := .int (nI L.length)) (C := RX0) (T := TX0) (N := 3) hx hb hts iX0 hown hK hP 0 rfl rfl 2 (by decide) f18 (fun _ h9 => h9) rfl dX0_takeOff_15 ?_
        refine k_cmp_ge (tgt := 55) hx hb (i + 1) L.length rfl rfl (by omega) (by omega) dX0_takeOff_18 (by decide) (fun c_18 => ?_) (fun c_18 => ?_)
        · skip
          refine lv_aload_n hx hb dX0_takeOff_55 rfl (lv_at hl 0 rfl) ?_
          refine lv_dup hx hb dX0_takeOff_56 rfl ?_
          refine va_get (D := D) (ci := 0) (v := .int (nI L.length)) (C := RX0) (T := TX0) (N := 3) hx hb hts iX0 hown hK hP 0 rfl rfl 2 (by decide) f18 (fun _ h9 => h9) rfl dX0_takeOff_57 ?_
          refine lv_iconst (v := nI 1) hx hb dX0_takeOff_60 (by decide +kernel) ?_
          refine k_isub hx hb (nI ((L.eraseIdx j).length)) (by rw [er_len hj]; exact pk_sub (by omega)) dX0_takeOff_61 ?_
          refine va_put (D := D) (ci := 0) (v := .int (nI ((L.eraseIdx j).length))) (ty := .int) (C := RX0) (T := TX0) (N := 3) hx hb hts iX0 tyX0 tyX0_ok nmX0 hown hK hP hD hS 0 rfl rfl 2 (by decide) f18 (fun _ h9 => h9) rfl (by decide +kernel) rfl rfl (Nat.le_of_ble_eq_true rfl) dX0_takeOff_62 (fun H locs hP hD hS => ?_)
          have hP : va_P D vwCl [(b, .inr (0, [.ref bk, .ref bs, .int (nI ((L.eraseIdx j).length))])), (bk, .inl (cI, 12, .inl k2)), (bs, .inl (cI, 12, .inl s2))] H := hP
          have hD : va_D A [(b, .inr (0, [.ref bk, .ref bs, .int (nI ((L.eraseIdx j).length))])), (bk, .inl (cI, 12, .inl k2)), (bs, .inl (cI, 12, .inl s2))] := hD
          exact ret ⟨k2, s2⟩ _ _ _ _ _ _ (rB_er hB hj (by omega) h1 h2) (hP.sub [0, 1, 2] (rfl)) (hD.sub [0, 1, 2] (by decide) (rfl)) hS (Nat.le_of_ble_eq_true rfl) (Nat.le_of_ble_eq_true rfl) dX0_takeOff_65
        · skip
          refine lv_aload_n hx hb dX0_takeOff_21 rfl (lv_at hl 0 rfl) ?_
          refine va_get (D := D) (ci := 0) (v := .ref bk) (C := RX0) (T := TX0) (N := 3) hx hb hts iX0 hown hK hP 0 rfl rfl 0 (by decide) f9 (fun _ h9 => h9) rfl dX0_takeOff_22 ?_
          refine lv_iload_n hx hb dX0_takeOff_25 rfl (lv_at hl 1 rfl) ?_
          refine lv_iconst (v := nI 1) hx hb dX0_takeOff_26 (by decide +kernel) ?_
          refine k_isub hx hb (nI i) (k_subN _ _) dX0_takeOff_27 ?_
          refine lv_aload_n hx hb dX0_takeOff_28 rfl (lv_at hl 0 rfl) ?_
          refine va_get (D := D) (ci := 0) (v := .ref bk) (C := RX0) (T := TX0) (N := 3) hx hb hts iX0 hown hK hP 0 rfl rfl 0 (by decide) f9 (fun _ h9 => h9) rfl dX0_takeOff_29 ?_
          refine lv_iload_n hx hb dX0_takeOff_32 rfl (lv_at hl 1 rfl) ?_
          refine k_iald hx hb hK hP 1 0 rfl rfl (i + 1) (rfl) (by omega) (by decide) dX0_takeOff_33 ?_
          refine k_iast hx hb hK hP hD hS 1 0 rfl rfl i (rfl) (by omega) (by decide) dX0_takeOff_34 (fun H locs hP hD hS => ?_)
          have hP : va_P D vwCl [(b, .inr (0, [.ref bk, .ref bs, .int (nI L.length)])), (bk, .inl (cI, 12, .inl (upd k2 i (k2 (i + 1))))), (bs, .inl (cI, 12, .inl s2))] H := hP
          have hD : va_D A [(b, .inr (0, [.ref bk, .ref bs, .int (nI L.length)])), (bk, .inl (cI, 12, .inl (upd k2 i (k2 (i + 1))))), (bs, .inl (cI, 12, .inl s2))] := hD
          refine lv_aload_n hx hb dX0_takeOff_35 rfl (lv_at hl 0 rfl) ?_
          refine va_get (D := D) (ci := 0) (v := .ref bs) (C := RX0) (T := TX0) (N := 3) hx hb hts iX0 hown hK hP 0 rfl rfl 1 (by decide) f15 (fun _ h9 => h9) rfl dX0_takeOff_36 ?_
          refine lv_iload_n hx hb dX0_takeOff_39 rfl (lv_at hl 1 rfl) ?_
          refine lv_iconst (v := nI 1) hx hb dX0_takeOff_40 (by decide +kernel) ?_
          refine k_isub hx hb (nI i) (k_subN _ _) dX0_takeOff_41 ?_
          refine lv_aload_n hx hb dX0_takeOff_42 rfl (lv_at hl 0 rfl) ?_
          refine va_get (D := D) (ci := 0) (v := .ref bs) (C := RX0) (T := TX0) (N := 3) hx hb hts iX0 hown hK hP 0 rfl rfl 1 (by decide) f15 (fun _ h9 => h9) rfl dX0_takeOff_43 ?_
          refine lv_iload_n hx hb dX0_takeOff_46 rfl (lv_at hl 1 rfl) ?_
          refine k_iald hx hb hK hP 2 0 rfl rfl (i + 1) (rfl) (by omega) (by decide) dX0_takeOff_47 ?_
          refine k_iast hx hb hK hP hD hS 2 0 rfl rfl i (rfl) (by omega) (by decide) dX0_takeOff_48 (fun H locs hP hD hS => ?_)
          have hP : va_P D vwCl [(b, .inr (0, [.ref bk, .ref bs, .int (nI L.length)])), (bk, .inl (cI, 12, .inl (upd k2 i (k2 (i + 1))))), (bs, .inl (cI, 12, .inl (upd s2 i (s2 (i + 1)))))] H := hP
          have hD : va_D A [(b, .inr (0, [.ref bk, .ref bs, .int (nI L.length)])), (bk, .inl (cI, 12, .inl (upd k2 i (k2 (i + 1))))), (bs, .inl (cI, 12, .inl (upd s2 i (s2 (i + 1)))))] := hD
          refine lv_iinc (v := nI (i + 1 + 1)) (lv' := [(2, .int (nI (i + 1 + 1))), (0, .ref b)]) hx hb dX0_takeOff_49 hl (k := 1) rfl (nI_1 _) (by decide) rfl (fun ls hl => ?_)
          refine lv_goto (tgt := 13) hx hb dX0_takeOff_52 (by decide) ?_
          exact ih (i + 1) (upd k2 i (k2 (i + 1))) (upd s2 i (s2 (i + 1))) (by omega) (sd_s h1 hi.1) (sd_s h2 hi.1) (by omega) _ _ (hP.sub [0, 1, 2] (rfl)) (hD.sub [0, 1, 2] (by decide) (rfl)) hS _ (lv_sub hl [1, 0] (rfl))
    exact loop_2 (L.length + 1) j k s (by omega) (sd_0 _ _) (sd_0 _ _) (by omega) _ _ (hP.sub [2, 0, 1] (rfl)) (hD.sub [2, 0, 1] (by decide) (rfl)) hS _ (lv_sub hl [1, 0] (rfl))
  · exact absurd c_5 (by omega)

abbrev rm_X0_loudness : Room := { frames := 0, cells := 0, slots := 0, locals := 0 }
set_option maxHeartbeats 4000000 in
set_option maxRecDepth 100000 in
theorem c_X0_loudness (l : Launch) (D : va_G) (cI : ClassId) (b : Nat) (bk : Nat) (bs : Nat) (k : Nat → Int32) (s : Nat → Int32) (L : List Tp) (hB : rB k s L) : kM kri l yX0_loudness wsX0_loudness rm_X0_loudness D [(cI, .int)] [.ref b] [(b, .inr (0, [.ref bk, .ref bs, .int (nI L.length)])), (bs, .inl (cI, 12, .inl s))] (fun (r : Int32) (u : Unit) => r = nI (ns L)) (fun (u : Unit) => [(b, .inr (0, [.ref bk, .ref bs, .int (nI L.length)])), (bs, .inl (cI, 12, .inl s))]) := by
  refine k_bodyI (cc := cX0_loudness) (maxL := 3) (by decide) rfl (Nat.le_of_ble_eq_true rfl) ?_
  intro p e ss m args below meth c A Q F hname hA hG hK hP hD hS ret ls hl
  obtain ⟨hx, hb, hml, hown, hts⟩ := id F
  have hP : va_P D vwCl [(b, .inr (0, [.ref bk, .ref bs, .int (nI L.length)])), (bs, .inl (cI, 12, .inl s))] ss.heap := hP
  have hD : va_D A [(b, .inr (0, [.ref bk, .ref bs, .int (nI L.length)])), (bs, .inl (cI, 12, .inl s))] := hD
  have hl : lv_has ls 3 [(0, .ref b)] := hl
  have iX0 : ∀ w ∈ u_ws RX0 TX0 3, w ∈ wsX0_loudness := by decide +kernel
  have f15 := hts (.fieldLink RX0 15 "SmallerTalk$Belt" "sizes" "[I") (by decide +kernel)
  have f18 := hts (.fieldLink RX0 18 "SmallerTalk$Belt" "count" "I") (by decide +kernel)
  have h12 := hB.1
  refine lv_iconst (v := nI 0) hx hb dX0_loudness_0 (by decide +kernel) ?_
  refine lv_istore_n (lv' := [(1, .int (nI 0)), (0, .ref b)]) hx hb dX0_loudness_1 rfl hl (by decide) rfl (fun ls hl => ?_)
  refine lv_iconst (v := nI 0) hx hb dX0_loudness_2 (by decide +kernel) ?_
  refine lv_istore_n (lv' := [(2, .int (nI 0)), (1, .int (nI 0)), (0, .ref b)]) hx hb dX0_loudness_3 rfl hl (by decide) rfl (fun ls hl => ?_)
  have loop_1 : ∀ (n : Nat) (i : Nat), (i ≤ L.length) → L.length - i < n → ∀ (H : Heap) (locs : List Loc), va_P D vwCl [(b, .inr (0, [.ref bk, .ref bs, .int (nI L.length)])), (bs, .inl (cI, 12, .inl s))] H → va_D A [(b, .inr (0, [.ref bk, .ref bs, .int (nI L.length)])), (bs, .inl (cI, 12, .inl s))] → va_S A ss.heap H locs → ∀ ls : Array Slot, lv_has ls 3 [(0, .ref b), (1, .int (nI (nsN L i))), (2, .int (nI i))] → W p l e rm_X0_loudness ss m args below meth c H locs 0 0 Q (F0 m 4 ls []) := by
    intro n
    induction n with
    | zero => intro i hi hn; exact absurd hn (by omega)
    | succ n ih =>
      intro i hi hn H locs hP hD hS ls hl
      refine lv_iload_n hx hb dX0_loudness_4 rfl (lv_at hl 2 rfl) ?_
      refine lv_aload_n hx hb dX0_loudness_5 rfl (lv_at hl 0 rfl) ?_
      refine va_get (D := D) (ci := 0) (v := .int (nI L.length)) (C := RX0) (T := TX0) (N := 3) hx hb hts iX0 hown hK hP 0 rfl rfl 2 (by decide) f18 (fun _ h9 => h9) rfl dX0_loudness_6 ?_
      refine k_cmp_ge (tgt := 27) hx hb i L.length rfl rfl (by omega) (by omega) dX0_loudness_9 (by decide) (fun c_9 => ?_) (fun c_9 => ?_)
      · skip
        obtain rfl : i = L.length := by omega
        refine lv_iload_n hx hb dX0_loudness_27 rfl (lv_at hl 1 rfl) ?_
        exact ret (nI (nsN L L.length)) () _ _ _ _ _ _ (rfl) (hP.sub [0, 1] (rfl)) (hD.sub [0, 1] (by decide) (rfl)) hS (Nat.le_of_ble_eq_true rfl) (Nat.le_of_ble_eq_true rfl) dX0_loudness_28
      · skip
        refine lv_iload_n hx hb dX0_loudness_12 rfl (lv_at hl 1 rfl) ?_
        refine lv_aload_n hx hb dX0_loudness_13 rfl (lv_at hl 0 rfl) ?_
        refine va_get (D := D) (ci := 0) (v := .ref bs) (C := RX0) (T := TX0) (N := 3) hx hb hts iX0 hown hK hP 0 rfl rfl 1 (by decide) f15 (fun _ h9 => h9) rfl dX0_loudness_14 ?_
        refine lv_iload_n hx hb dX0_loudness_17 rfl (lv_at hl 2 rfl) ?_
        refine k_iald hx hb hK hP 1 0 rfl rfl i (rfl) (by omega) (by decide) dX0_loudness_18 ?_
        refine k_iadd hx hb (nI (nsN L (i + 1))) (by rw [(hB.2 i c_9).2]; exact nI_add _ _) dX0_loudness_19 ?_
        refine lv_istore_n (lv' := [(1, .int (nI (nsN L (i + 1)))), (0, .ref b), (2, .int (nI i))]) hx hb dX0_loudness_20 rfl hl (by decide) rfl (fun ls hl => ?_)
        refine lv_iinc (v := nI (i + 1)) (lv' := [(2, .int (nI (i + 1))), (1, .int (nI (nsN L (i + 1)))), (0, .ref b)]) hx hb dX0_loudness_21 hl (k := 2) rfl (nI_1 _) (by decide) rfl (fun ls hl => ?_)
        refine lv_goto (tgt := 4) hx hb dX0_loudness_24 (by decide) ?_
        exact ih (i + 1) (by omega) (by omega) _ _ (hP.sub [0, 1] (rfl)) (hD.sub [0, 1] (by decide) (rfl)) hS _ (lv_sub hl [2, 1, 0] (rfl))
  exact loop_1 (L.length + 1) 0 (Nat.zero_le _) (by omega) _ _ (hP.sub [0, 1] (rfl)) (hD.sub [0, 1] (by decide) (rfl)) hS _ (lv_sub hl [2, 1, 0] (rfl))

abbrev rm_X0_placeOfLargest : Room := { frames := 0, cells := 0, slots := 0, locals := 0 }
set_option maxHeartbeats 4000000 in
set_option maxRecDepth 100000 in
theorem c_X0_placeOfLargest (l : Launch) (D : va_G) (cI : ClassId) (b : Nat) (bk : Nat) (bs : Nat) (k : Nat → Int32) (s : Nat → Int32) (L : List Tp) (hB : rB k s L) (hO : okB L) : kM kri l yX0_placeOfLargest wsX0_placeOfLargest rm_X0_placeOfLargest D [(cI, .int)] [.ref b] [(b, .inr (0, [.ref bk, .ref bs, .int (nI L.length)])), (bs, .inl (cI, 12, .inl s))] (fun (r : Int32) (u : Unit) => r = oI (lgst L)) (fun (u : Unit) => [(b, .inr (0, [.ref bk, .ref bs, .int (nI L.length)])), (bs, .inl (cI, 12, .inl s))]) := by
  refine k_bodyI (cc := cX0_placeOfLargest) (maxL := 4) (by decide) rfl (Nat.le_of_ble_eq_true rfl) ?_
  intro p e ss m args below meth c A Q F hname hA hG hK hP hD hS ret ls hl
  obtain ⟨hx, hb, hml, hown, hts⟩ := id F
  have hP : va_P D vwCl [(b, .inr (0, [.ref bk, .ref bs, .int (nI L.length)])), (bs, .inl (cI, 12, .inl s))] ss.heap := hP
  have hD : va_D A [(b, .inr (0, [.ref bk, .ref bs, .int (nI L.length)])), (bs, .inl (cI, 12, .inl s))] := hD
  have hl : lv_has ls 4 [(0, .ref b)] := hl
  have iX0 : ∀ w ∈ u_ws RX0 TX0 3, w ∈ wsX0_placeOfLargest := by decide +kernel
  have f15 := hts (.fieldLink RX0 15 "SmallerTalk$Belt" "sizes" "[I") (by decide +kernel)
  have f18 := hts (.fieldLink RX0 18 "SmallerTalk$Belt" "count" "I") (by decide +kernel)
  have h12 := hB.1
  refine lv_iconst (v := -1) hx hb dX0_placeOfLargest_0 (by decide +kernel) ?_
  refine lv_istore_n (lv' := [(1, .int (-1)), (0, .ref b)]) hx hb dX0_placeOfLargest_1 rfl hl (by decide) rfl (fun ls hl => ?_)
  refine lv_iconst (v := nI 0) hx hb dX0_placeOfLargest_2 (by decide +kernel) ?_
  refine lv_istore_n (lv' := [(2, .int (nI 0)), (1, .int (-1)), (0, .ref b)]) hx hb dX0_placeOfLargest_3 rfl hl (by decide) rfl (fun ls hl => ?_)
  refine lv_iconst (v := nI 0) hx hb dX0_placeOfLargest_4 (by decide +kernel) ?_
  refine lv_istore_n (lv' := [(3, .int (nI 0)), (2, .int (nI 0)), (1, .int (-1)), (0, .ref b)]) hx hb dX0_placeOfLargest_5 rfl hl (by decide) rfl (fun ls hl => ?_)
  have loop_1 : ∀ (n : Nat) (i : Nat), (i ≤ L.length) → L.length - i < n → ∀ (H : Heap) (locs : List Loc), va_P D vwCl [(b, .inr (0, [.ref bk, .ref bs, .int (nI L.length)])), (bs, .inl (cI, 12, .inl s))] H → va_D A [(b, .inr (0, [.ref bk, .ref bs, .int (nI L.length)])), (bs, .inl (cI, 12, .inl s))] → va_S A ss.heap H locs → ∀ ls : Array Slot, lv_has ls 4 [(0, .ref b), (1, .int (oI (am (fun _ => true) (bLg L) i))), (2, .int (nI (lgM L i))), (3, .int (nI i))] → W p l e rm_X0_placeOfLargest ss m args below meth c H locs 0 0 Q (F0 m 6 ls []) := by
    intro n
    induction n with
    | zero => intro i hi hn; exact absurd hn (by omega)
    | succ n ih =>
      intro i hi hn H locs hP hD hS ls hl
      refine lv_iload_n hx hb dX0_placeOfLargest_6 rfl (lv_at hl 3 rfl) ?_
      refine lv_aload_n hx hb dX0_placeOfLargest_7 rfl (lv_at hl 0 rfl) ?_
      refine va_get (D := D) (ci := 0) (v := .int (nI L.length)) (C := RX0) (T := TX0) (N := 3) hx hb hts iX0 hown hK hP 0 rfl rfl 2 (by decide) f18 (fun _ h9 => h9) rfl dX0_placeOfLargest_8 ?_
      refine k_cmp_ge (tgt := 39) hx hb i L.length rfl rfl (by omega) (by omega) dX0_placeOfLargest_11 (by decide) (fun c_11 => ?_) (fun c_11 => ?_)
      · skip
        obtain rfl : i = L.length := by omega
        refine lv_iload_n hx hb dX0_placeOfLargest_39 rfl (lv_at hl 1 rfl) ?_
        exact ret (oI (am (fun _ => true) (bLg L) L.length)) () _ _ _ _ _ _ (rfl) (hP.sub [0, 1] (rfl)) (hD.sub [0, 1] (by decide) (rfl)) hS (Nat.le_of_ble_eq_true rfl) (Nat.le_of_ble_eq_true rfl) dX0_placeOfLargest_40
      · skip
        refine lv_aload_n hx hb dX0_placeOfLargest_14 rfl (lv_at hl 0 rfl) ?_
        refine va_get (D := D) (ci := 0) (v := .ref bs) (C := RX0) (T := TX0) (N := 3) hx hb hts iX0 hown hK hP 0 rfl rfl 1 (by decide) f15 (fun _ h9 => h9) rfl dX0_placeOfLargest_15 ?_
        refine lv_iload_n hx hb dX0_placeOfLargest_18 rfl (lv_at hl 3 rfl) ?_
        refine k_iald hx hb hK hP 1 0 rfl rfl i (rfl) (by omega) (by decide) dX0_placeOfLargest_19 ?_
        refine k_top (v := nI ((L.getD i tp0).2)) ((hB.2 i c_11).2) ?_
        refine lv_iload_n hx hb dX0_placeOfLargest_20 rfl (lv_at hl 2 rfl) ?_
        refine k_cmp_le (tgt := 33) hx hb ((L.getD i tp0).2) (lgM L i) rfl rfl (by have := (hO i c_11).2; omega) (by have := lgM_le hO (Nat.le_of_lt c_11); omega) dX0_placeOfLargest_21 (by decide) (fun c_21 => ?_) (fun c_21 => ?_)
        · skip
          refine lv_iinc (v := nI (i + 1)) (lv' := [(3, .int (nI (i + 1))), (0, .ref b), (1, .int (oI (am (fun _ => true) (bLg L) i))), (2, .int (nI (lgM L i)))]) hx hb dX0_placeOfLargest_33 hl (k := 3) rfl (nI_1 _) (by decide) rfl (fun ls hl => ?_)
          refine lv_goto (tgt := 6) hx hb dX0_placeOfLargest_36 (by decide) ?_
          have e8 := lg_keep hO c_11 c_21
          have e9 := lgM_keep e8
          exact ih (i + 1) (by omega) (by omega) _ _ (hP.sub [0, 1] (rfl)) (hD.sub [0, 1] (by decide) (rfl)) hS _ (lv_sub hl [1, 2, 3, 0] (by rw [e8, e9]; rfl))
        · skip
          refine lv_aload_n hx hb dX0_placeOfLargest_24 rfl (lv_at hl 0 rfl) ?_
          refine va_get (D := D) (ci := 0) (v := .ref bs) (C := RX0) (T := TX0) (N := 3) hx hb hts iX0 hown hK hP 0 rfl rfl 1 (by decide) f15 (fun _ h9 => h9) rfl dX0_placeOfLargest_25 ?_
          refine lv_iload_n hx hb dX0_placeOfLargest_28 rfl (lv_at hl 3 rfl) ?_
          refine k_iald hx hb hK hP 1 0 rfl rfl i (rfl) (by omega) (by decide) dX0_placeOfLargest_29 ?_
          refine k_top (v := nI ((L.getD i tp0).2)) ((hB.2 i c_11).2) ?_
          refine lv_istore_n (lv' := [(2, .int (nI ((L.getD i tp0).2))), (0, .ref b), (1, .int (oI (am (fun _ => true) (bLg L) i))), (3, .int (nI i))]) hx hb dX0_placeOfLargest_30 rfl hl (by decide) rfl (fun ls hl => ?_)
          refine lv_iload_n hx hb dX0_placeOfLargest_31 rfl (lv_at hl 3 rfl) ?_
          refine lv_istore_n (lv' := [(1, .int (nI i)), (2, .int (nI ((L.getD i tp0).2))), (0, .ref b), (3, .int (nI i))]) hx hb dX0_placeOfLargest_32 rfl hl (by decide) rfl (fun ls hl => ?_)
          refine lv_iinc (v := nI (i + 1)) (lv' := [(3, .int (nI (i + 1))), (1, .int (nI i)), (2, .int (nI ((L.getD i tp0).2))), (0, .ref b)]) hx hb dX0_placeOfLargest_33 hl (k := 3) rfl (nI_1 _) (by decide) rfl (fun ls hl => ?_)
          refine lv_goto (tgt := 6) hx hb dX0_placeOfLargest_36 (by decide) ?_
          have e8 := lg_new c_21
          have e9 := lgM_new e8
          exact ih (i + 1) (by omega) (by omega) _ _ (hP.sub [0, 1] (rfl)) (hD.sub [0, 1] (by decide) (rfl)) hS _ (lv_sub hl [3, 1, 2, 0] (by rw [e8, e9]; rfl))
  exact loop_1 (L.length + 1) 0 (Nat.zero_le _) (by omega) _ _ (hP.sub [0, 1] (rfl)) (hD.sub [0, 1] (by decide) (rfl)) hS _ (lv_sub hl [3, 2, 1, 0] (rfl))

abbrev rm_X0_countOf : Room := { frames := 0, cells := 0, slots := 0, locals := 0 }
set_option maxHeartbeats 4000000 in
set_option maxRecDepth 100000 in
theorem c_X0_countOf (l : Launch) (D : va_G) (cI : ClassId) (b : Nat) (bk : Nat) (bs : Nat) (k : Nat → Int32) (s : Nat → Int32) (L : List Tp) (kd : Int32) (hB : rB k s L) : kM kri l yX0_countOf wsX0_countOf rm_X0_countOf D [(cI, .int)] [.ref b, .int kd] [(b, .inr (0, [.ref bk, .ref bs, .int (nI L.length)])), (bk, .inl (cI, 12, .inl k))] (fun (r : Int32) (u : Unit) => r = nI (ctB kd L)) (fun (u : Unit) => [(b, .inr (0, [.ref bk, .ref bs, .int (nI L.length)])), (bk, .inl (cI, 12, .inl k))]) := by
  refine k_bodyI (cc := cX0_countOf) (maxL := 4) (by decide) rfl (Nat.le_of_ble_eq_true rfl) ?_
  intro p e ss m args below meth c A Q F hname hA hG hK hP hD hS ret ls hl
  obtain ⟨hx, hb, hml, hown, hts⟩ := id F
  have hP : va_P D vwCl [(b, .inr (0, [.ref bk, .ref bs, .int (nI L.length)])), (bk, .inl (cI, 12, .inl k))] ss.heap := hP
  have hD : va_D A [(b, .inr (0, [.ref bk, .ref bs, .int (nI L.length)])), (bk, .inl (cI, 12, .inl k))] := hD
  have hl : lv_has ls 4 [(0, .ref b), (1, .int kd)] := hl
  have iX0 : ∀ w ∈ u_ws RX0 TX0 3, w ∈ wsX0_countOf := by decide +kernel
  have f9 := hts (.fieldLink RX0 9 "SmallerTalk$Belt" "kinds" "[I") (by decide +kernel)
  have f18 := hts (.fieldLink RX0 18 "SmallerTalk$Belt" "count" "I") (by decide +kernel)
  have h12 := hB.1
  refine lv_iconst (v := nI 0) hx hb dX0_countOf_0 (by decide +kernel) ?_
  refine lv_istore_n (lv' := [(2, .int (nI 0)), (0, .ref b), (1, .int kd)]) hx hb dX0_countOf_1 rfl hl (by decide) rfl (fun ls hl => ?_)
  refine lv_iconst (v := nI 0) hx hb dX0_countOf_2 (by decide +kernel) ?_
  refine lv_istore_n (lv' := [(3, .int (nI 0)), (2, .int (nI 0)), (0, .ref b), (1, .int kd)]) hx hb dX0_countOf_3 rfl hl (by decide) rfl (fun ls hl => ?_)
  have loop_1 : ∀ (n : Nat) (i : Nat), (i ≤ L.length) → L.length - i < n → ∀ (H : Heap) (locs : List Loc), va_P D vwCl [(b, .inr (0, [.ref bk, .ref bs, .int (nI L.length)])), (bk, .inl (cI, 12, .inl k))] H → va_D A [(b, .inr (0, [.ref bk, .ref bs, .int (nI L.length)])), (bk, .inl (cI, 12, .inl k))] → va_S A ss.heap H locs → ∀ ls : Array Slot, lv_has ls 4 [(0, .ref b), (1, .int kd), (2, .int (nI (cnN (isK kd L) i))), (3, .int (nI i))] → W p l e rm_X0_countOf ss m args below meth c H locs 0 0 Q (F0 m 4 ls []) := by
    intro n
    induction n with
    | zero => intro i hi hn; exact absurd hn (by omega)
    | succ n ih =>
      intro i hi hn H locs hP hD hS ls hl
      refine lv_iload_n hx hb dX0_countOf_4 rfl (lv_at hl 3 rfl) ?_
      refine lv_aload_n hx hb dX0_countOf_5 rfl (lv_at hl 0 rfl) ?_
      refine va_get (D := D) (ci := 0) (v := .int (nI L.length)) (C := RX0) (T := TX0) (N := 3) hx hb hts iX0 hown hK hP 0 rfl rfl 2 (by decide) f18 (fun _ h9 => h9) rfl dX0_countOf_6 ?_
      refine k_cmp_ge (tgt := 31) hx hb i L.length rfl rfl (by omega) (by omega) dX0_countOf_9 (by decide) (fun c_9 => ?_) (fun c_9 => ?_)
      · skip
        obtain rfl : i = L.length := by omega
        refine lv_iload_n hx hb dX0_countOf_31 rfl (lv_at hl 2 rfl) ?_
        exact ret (nI (cnN (isK kd L) L.length)) () _ _ _ _ _ _ (rfl) (hP.sub [0, 1] (rfl)) (hD.sub [0, 1] (by decide) (rfl)) hS (Nat.le_of_ble_eq_true rfl) (Nat.le_of_ble_eq_true rfl) dX0_countOf_32
      · skip
        refine lv_aload_n hx hb dX0_countOf_12 rfl (lv_at hl 0 rfl) ?_
        refine va_get (D := D) (ci := 0) (v := .ref bk) (C := RX0) (T := TX0) (N := 3) hx hb hts iX0 hown hK hP 0 rfl rfl 0 (by decide) f9 (fun _ h9 => h9) rfl dX0_countOf_13 ?_
        refine lv_iload_n hx hb dX0_countOf_16 rfl (lv_at hl 3 rfl) ?_
        refine k_iald hx hb hK hP 1 0 rfl rfl i (rfl) (by omega) (by decide) dX0_countOf_17 ?_
        refine k_top (v := (L.getD i tp0).1) ((hB.2 i c_9).1) ?_
        refine lv_iload_n hx hb dX0_countOf_18 rfl (lv_at hl 1 rfl) ?_
        refine lv_icmp_ne (tgt := 25) hx hb dX0_countOf_19 (by decide) (fun c_19 => ?_) (fun c_19 => ?_)
        · skip
          refine lv_iinc (v := nI (i + 1)) (lv' := [(3, .int (nI (i + 1))), (0, .ref b), (1, .int kd), (2, .int (nI (cnN (isK kd L) i)))]) hx hb dX0_countOf_25 hl (k := 3) rfl (nI_1 _) (by decide) rfl (fun ls hl => ?_)
          refine lv_goto (tgt := 4) hx hb dX0_countOf_28 (by decide) ?_
          exact ih (i + 1) (by omega) (by omega) _ _ (hP.sub [0, 1] (rfl)) (hD.sub [0, 1] (by decide) (rfl)) hS _ (lv_sub hl [1, 2, 3, 0] (by rw [cn_f (decide_eq_false c_19)]; rfl))
        · skip
          refine lv_iinc (v := nI ((cnN (isK kd L) i) + 1)) (lv' := [(2, .int (nI ((cnN (isK kd L) i) + 1))), (0, .ref b), (1, .int kd), (3, .int (nI i))]) hx hb dX0_countOf_22 hl (k := 2) rfl (nI_1 _) (by decide) rfl (fun ls hl => ?_)
          refine lv_iinc (v := nI (i + 1)) (lv' := [(3, .int (nI (i + 1))), (2, .int (nI ((cnN (isK kd L) i) + 1))), (0, .ref b), (1, .int kd)]) hx hb dX0_countOf_25 hl (k := 3) rfl (nI_1 _) (by decide) rfl (fun ls hl => ?_)
          refine lv_goto (tgt := 4) hx hb dX0_countOf_28 (by decide) ?_
          exact ih (i + 1) (by omega) (by omega) _ _ (hP.sub [0, 1] (rfl)) (hD.sub [0, 1] (by decide) (rfl)) hS _ (lv_sub hl [2, 3, 1, 0] (by rw [cn_t (decide_eq_true c_19)]; rfl))
  exact loop_1 (L.length + 1) 0 (Nat.zero_le _) (by omega) _ _ (hP.sub [0, 1] (rfl)) (hD.sub [0, 1] (by decide) (rfl)) hS _ (lv_sub hl [2, 3, 1, 0] (rfl))

abbrev rm_X0_grind : Room := { frames := 1, cells := 0, slots := 0, locals := 21 }
set_option maxHeartbeats 4000000 in
set_option maxRecDepth 100000 in
theorem c_X0_grind (l : Launch) (D : va_G) (cI : ClassId) (b : Nat) (bk : Nat) (bs : Nat) (k : Nat → Int32) (s : Nat → Int32) (L : List Tp) (st : Nat) (g : Nat) (hB : rB k s L) (hO : okB L) (hst : st < 2147483648) (hg : 2 ≤ g) (hg2 : g < 2147483648) : kM kri l yX0_grind wsX0_grind rm_X0_grind D [(cI, .int)] [.ref b, .int (nI st), .int (nI g)] [(b, .inr (0, [.ref bk, .ref bs, .int (nI L.length)])), (bk, .inl (cI, 12, .inl k)), (bs, .inl (cI, 12, .inl s))] (fun (r : Int32) (u : (Nat → Int32) × (Nat → Int32)) => r = nI (L.length - (gnd st g L).length) ∧ rB u.1 u.2 (gnd st g L)) (fun (u : (Nat → Int32) × (Nat → Int32)) => [(b, .inr (0, [.ref bk, .ref bs, .int (nI ((gnd st g L).length))])), (bk, .inl (cI, 12, .inl u.1)), (bs, .inl (cI, 12, .inl u.2))]) := by
  refine k_bodyI (cc := cX0_grind) (maxL := 7) (by decide) rfl (Nat.le_of_ble_eq_true rfl) ?_
  intro p e ss m args below meth c A Q F hname hA hG hK hP hD hS ret ls hl
  obtain ⟨hx, hb, hml, hown, hts⟩ := id F
  have hP : va_P D vwCl [(b, .inr (0, [.ref bk, .ref bs, .int (nI L.length)])), (bk, .inl (cI, 12, .inl k)), (bs, .inl (cI, 12, .inl s))] ss.heap := hP
  have hD : va_D A [(b, .inr (0, [.ref bk, .ref bs, .int (nI L.length)])), (bk, .inl (cI, 12, .inl k)), (bs, .inl (cI, 12, .inl s))] := hD
  have hl : lv_has ls 7 [(0, .ref b), (1, .int (nI st)), (2, .int (nI g))] := hl
  have iX0 : ∀ w ∈ u_ws RX0 TX0 3, w ∈ wsX0_grind := by decide +kernel
  have f9 := hts (.fieldLink RX0 9 "SmallerTalk$Belt" "kinds" "[I") (by decide +kernel)
  have f15 := hts (.fieldLink RX0 15 "SmallerTalk$Belt" "sizes" "[I") (by decide +kernel)
  have f18 := hts (.fieldLink RX0 18 "SmallerTalk$Belt" "count" "I") (by decide +kernel)
  have h12 := hB.1
  refine lv_aload_n hx hb dX0_grind_0 rfl (lv_at hl 0 rfl) ?_
  refine va_get (D := D) (ci := 0) (v := .int (nI L.length)) (C := RX0) (T := TX0) (N := 3) hx hb hts iX0 hown hK hP 0 rfl rfl 2 (by decide) f18 (fun _ h9 => h9) rfl dX0_grind_1 ?_
  refine lv_istore_n (lv' := [(3, .int (nI L.length)), (0, .ref b), (1, .int (nI st)), (2, .int (nI g))]) hx hb dX0_grind_4 rfl hl (by decide) rfl (fun ls hl => ?_)
  refine lv_iconst (v := nI 0) hx hb dX0_grind_5 (by decide +kernel) ?_
  refine lv_istore (lv' := [(4, .int (nI 0)), (3, .int (nI L.length)), (0, .ref b), (1, .int (nI st)), (2, .int (nI g))]) hx hb dX0_grind_6 hl (by decide) rfl (fun ls hl => ?_)
  refine lv_iconst (v := nI 0) hx hb dX0_grind_8 (by decide +kernel) ?_
  refine lv_istore (lv' := [(5, .int (nI 0)), (4, .int (nI 0)), (3, .int (nI L.length)), (0, .ref b), (1, .int (nI st)), (2, .int (nI g))]) hx hb dX0_grind_9 hl (by decide) rfl (fun ls hl => ?_)
  have loop_1 : ∀ (n : Nat) (i : Nat) (k1 : Nat → Int32) (s1 : Nat → Int32), (i ≤ L.length) → (cmp L.length (gnF st g L) k s k1 s1 i) → L.length - i < n → ∀ (H : Heap) (locs : List Loc), va_P D vwCl [(b, .inr (0, [.ref bk, .ref bs, .int (nI L.length)])), (bk, .inl (cI, 12, .inl k1)), (bs, .inl (cI, 12, .inl s1))] H → va_D A [(b, .inr (0, [.ref bk, .ref bs, .int (nI L.length)])), (bk, .inl (cI, 12, .inl k1)), (bs, .inl (cI, 12, .inl s1))] → va_S A ss.heap H locs → ∀ ls : Array Slot, lv_has ls 7 [(0, .ref b), (1, .int (nI st)), (2, .int (nI g)), (3, .int (nI L.length)), (4, .int (nI ((pf (gnF st g L) i).length))), (5, .int (nI i))] → W p l e rm_X0_grind ss m args below meth c H locs 0 0 Q (F0 m 11 ls []) := by
    intro n
    induction n with
    | zero => intro i k1 s1 hi hc hn; exact absurd hn (by omega)
    | succ n ih =>
      intro i k1 s1 hi hc hn H locs hP hD hS ls hl
      have hpf := pf_le (gnF st g L) i
      refine lv_iload hx hb dX0_grind_11 (lv_at hl 5 rfl) ?_
      refine lv_iload_n hx hb dX0_grind_13 rfl (lv_at hl 3 rfl) ?_
      refine k_cmp_ge (tgt := 84) hx hb i L.length rfl rfl (by omega) (by omega) dX0_grind_14 (by decide) (fun c_14 => ?_) (fun c_14 => ?_)
      · skip
        obtain rfl : i = L.length := by omega
        refine lv_aload_n hx hb dX0_grind_84 rfl (lv_at hl 0 rfl) ?_
        refine lv_iload hx hb dX0_grind_85 (lv_at hl 4 rfl) ?_
        refine va_put (D := D) (ci := 0) (v := .int (nI ((pf (gnF st g L) L.length).length))) (ty := .int) (C := RX0) (T := TX0) (N := 3) hx hb hts iX0 tyX0 tyX0_ok nmX0 hown hK hP hD hS 0 rfl rfl 2 (by decide) f18 (fun _ h9 => h9) rfl (by decide +kernel) rfl rfl (Nat.le_of_ble_eq_true rfl) dX0_grind_87 (fun H locs hP hD hS => ?_)
        have hP : va_P D vwCl [(b, .inr (0, [.ref bk, .ref bs, .int (nI ((pf (gnF st g L) L.length).length))])), (bk, .inl (cI, 12, .inl k1)), (bs, .inl (cI, 12, .inl s1))] H := hP
        have hD : va_D A [(b, .inr (0, [.ref bk, .ref bs, .int (nI ((pf (gnF st g L) L.length).length))])), (bk, .inl (cI, 12, .inl k1)), (bs, .inl (cI, 12, .inl s1))] := hD
        refine lv_iload_n hx hb dX0_grind_90 rfl (lv_at hl 3 rfl) ?_
        refine lv_iload hx hb dX0_grind_91 (lv_at hl 4 rfl) ?_
        refine k_isub hx hb (nI (L.length - (gnd st g L).length)) (pk_sub hpf) dX0_grind_93 ?_
        exact ret (nI (L.length - (gnd st g L).length)) ⟨k1, s1⟩ _ _ _ _ _ _ (⟨rfl, rB_cmp h12 hc⟩) (hP.sub [0, 1, 2] (rfl)) (hD.sub [0, 1, 2] (by decide) (rfl)) hS (Nat.le_of_ble_eq_true rfl) (Nat.le_of_ble_eq_true rfl) dX0_grind_94
      · skip
        refine lv_iload hx hb dX0_grind_17 (lv_at hl 5 rfl) ?_
        refine lv_iload_n hx hb dX0_grind_19 rfl (lv_at hl 1 rfl) ?_
        refine k_cmp_ge (tgt := 37) hx hb i st rfl rfl (by omega) (by omega) dX0_grind_20 (by decide) (fun c_20 => ?_) (fun c_20 => ?_)
        · skip
          refine lv_aload_n hx hb dX0_grind_37 rfl (lv_at hl 0 rfl) ?_
          refine va_get (D := D) (ci := 0) (v := .ref bs) (C := RX0) (T := TX0) (N := 3) hx hb hts iX0 hown hK hP 0 rfl rfl 1 (by decide) f15 (fun _ h9 => h9) rfl dX0_grind_38 ?_
          refine lv_iload hx hb dX0_grind_41 (lv_at hl 5 rfl) ?_
          refine k_iald hx hb hK hP 2 0 rfl rfl i (rfl) (by omega) (by decide) dX0_grind_43 ?_
          refine k_top (v := nI (gnZ st g L i)) (((hc.2 i (Nat.le_refl _) c_14).2.trans (hB.2 i c_14).2).trans (by rw [gnZ, if_neg (by omega)])) ?_
          refine lv_istore (lv' := [(6, .int (nI (gnZ st g L i))), (0, .ref b), (1, .int (nI st)), (2, .int (nI g)), (3, .int (nI L.length)), (4, .int (nI ((pf (gnF st g L) i).length))), (5, .int (nI i))]) hx hb dX0_grind_44 hl (by decide) rfl (fun ls hl => ?_)
          refine lv_iload hx hb dX0_grind_46 (lv_at hl 0 rfl) ?_
          refine lv_iconst (v := nI 2) hx hb dX0_grind_48 (by decide +kernel) ?_
          refine k_cmp_lt (tgt := 78) hx hb (gnZ st g L i) 2 rfl rfl (by have := gnZ_le (st := st) (g := g) hO c_14; omega) (by omega) dX0_grind_49 (by decide) (fun c_49 => ?_) (fun c_49 => ?_)
          · skip
            refine lv_iinc (v := nI (i + 1)) (lv' := [(5, .int (nI (i + 1))), (6, .int (nI (gnZ st g L i))), (0, .ref b), (1, .int (nI st)), (2, .int (nI g)), (3, .int (nI L.length)), (4, .int (nI ((pf (gnF st g L) i).length)))]) hx hb dX0_grind_78 hl (k := 6) rfl (nI_1 _) (by decide) rfl (fun ls hl => ?_)
            refine lv_goto (tgt := 11) hx hb dX0_grind_81 (by decide) ?_
            have hF := gnF_none (L := L) c_49
            exact ih (i + 1) k1 s1 (by omega) (cmp_skip hc hF) (by omega) _ _ (hP.sub [0, 1, 2] (rfl)) (hD.sub [0, 1, 2] (by decide) (rfl)) hS _ (lv_sub hl [2, 3, 4, 5, 6, 0] (by rw [pf_lenN hF]; rfl))
          · skip
            refine lv_aload_n hx hb dX0_grind_52 rfl (lv_at hl 1 rfl) ?_
            refine va_get (D := D) (ci := 0) (v := .ref bk) (C := RX0) (T := TX0) (N := 3) hx hb hts iX0 hown hK hP 0 rfl rfl 0 (by decide) f9 (fun _ h9 => h9) rfl dX0_grind_53 ?_
            refine lv_iload hx hb dX0_grind_56 (lv_at hl 5 rfl) ?_
            refine lv_aload_n hx hb dX0_grind_58 rfl (lv_at hl 1 rfl) ?_
            refine va_get (D := D) (ci := 0) (v := .ref bk) (C := RX0) (T := TX0) (N := 3) hx hb hts iX0 hown hK hP 0 rfl rfl 0 (by decide) f9 (fun _ h9 => h9) rfl dX0_grind_59 ?_
            refine lv_iload hx hb dX0_grind_62 (lv_at hl 6 rfl) ?_
            refine k_iald hx hb hK hP 1 0 rfl rfl i (rfl) (by omega) (by decide) dX0_grind_64 ?_
            refine k_top (v := (L.getD i tp0).1) (((hc.2 i (Nat.le_refl _) c_14).1.trans (hB.2 i c_14).1)) ?_
            refine k_iast hx hb hK hP hD hS 1 0 rfl rfl ((pf (gnF st g L) i).length) (rfl) (by omega) (by decide) dX0_grind_65 (fun H locs hP hD hS => ?_)
            have hP : va_P D vwCl [(b, .inr (0, [.ref bk, .ref bs, .int (nI L.length)])), (bk, .inl (cI, 12, .inl (upd k1 ((pf (gnF st g L) i).length) ((L.getD i tp0).1)))), (bs, .inl (cI, 12, .inl s1))] H := hP
            have hD : va_D A [(b, .inr (0, [.ref bk, .ref bs, .int (nI L.length)])), (bk, .inl (cI, 12, .inl (upd k1 ((pf (gnF st g L) i).length) ((L.getD i tp0).1)))), (bs, .inl (cI, 12, .inl s1))] := hD
            refine lv_aload_n hx hb dX0_grind_66 rfl (lv_at hl 1 rfl) ?_
            refine va_get (D := D) (ci := 0) (v := .ref bs) (C := RX0) (T := TX0) (N := 3) hx hb hts iX0 hown hK hP 0 rfl rfl 1 (by decide) f15 (fun _ h9 => h9) rfl dX0_grind_67 ?_
            refine lv_iload hx hb dX0_grind_70 (lv_at hl 5 rfl) ?_
            refine lv_iload hx hb dX0_grind_72 (lv_at hl 0 rfl) ?_
            refine k_iast hx hb hK hP hD hS 2 0 rfl rfl ((pf (gnF st g L) i).length) (rfl) (by omega) (by decide) dX0_grind_74 (fun H locs hP hD hS => ?_)
            have hP : va_P D vwCl [(b, .inr (0, [.ref bk, .ref bs, .int (nI L.length)])), (bk, .inl (cI, 12, .inl (upd k1 ((pf (gnF st g L) i).length) ((L.getD i tp0).1)))), (bs, .inl (cI, 12, .inl (upd s1 ((pf (gnF st g L) i).length) (nI (gnZ st g L i)))))] H := hP
            have hD : va_D A [(b, .inr (0, [.ref bk, .ref bs, .int (nI L.length)])), (bk, .inl (cI, 12, .inl (upd k1 ((pf (gnF st g L) i).length) ((L.getD i tp0).1)))), (bs, .inl (cI, 12, .inl (upd s1 ((pf (gnF st g L) i).length) (nI (gnZ st g L i)))))] := hD
            refine lv_iinc (v := nI (((pf (gnF st g L) i).length) + 1)) (lv' := [(4, .int (nI (((pf (gnF st g L) i).length) + 1))), (6, .int (nI (gnZ st g L i))), (0, .ref b), (1, .int (nI st)), (2, .int (nI g)), (3, .int (nI L.length)), (5, .int (nI i))]) hx hb dX0_grind_75 hl (k := 5) rfl (nI_1 _) (by decide) rfl (fun ls hl => ?_)
            refine lv_iinc (v := nI (i + 1)) (lv' := [(5, .int (nI (i + 1))), (4, .int (nI (((pf (gnF st g L) i).length) + 1))), (6, .int (nI (gnZ st g L i))), (0, .ref b), (1, .int (nI st)), (2, .int (nI g)), (3, .int (nI L.length))]) hx hb dX0_grind_78 hl (k := 6) rfl (nI_1 _) (by decide) rfl (fun ls hl => ?_)
            refine lv_goto (tgt := 11) hx hb dX0_grind_81 (by decide) ?_
            have hF := gnF_some (L := L) c_49
            exact ih (i + 1) (upd k1 ((pf (gnF st g L) i).length) ((L.getD i tp0).1)) (upd s1 ((pf (gnF st g L) i).length) (nI (gnZ st g L i))) (by omega) (cmp_keep hc hF) (by omega) _ _ (hP.sub [0, 1, 2] (rfl)) (hD.sub [0, 1, 2] (by decide) (rfl)) hS _ (lv_sub hl [3, 4, 5, 6, 1, 0] (by rw [pf_lenS hF]; rfl))
        · skip
          refine lv_aload_n hx hb dX0_grind_23 rfl (lv_at hl 0 rfl) ?_
          refine va_get (D := D) (ci := 0) (v := .ref bs) (C := RX0) (T := TX0) (N := 3) hx hb hts iX0 hown hK hP 0 rfl rfl 1 (by decide) f15 (fun _ h9 => h9) rfl dX0_grind_24 ?_
          refine lv_iload hx hb dX0_grind_27 (lv_at hl 5 rfl) ?_
          refine k_iald hx hb hK hP 2 0 rfl rfl i (rfl) (by omega) (by decide) dX0_grind_29 ?_
          refine k_top (v := nI ((L.getD i tp0).2)) (((hc.2 i (Nat.le_refl _) c_14).2.trans (hB.2 i c_14).2)) ?_
          refine lv_iload_n hx hb dX0_grind_30 rfl (lv_at hl 2 rfl) ?_
          refine k_callSN (As := [.int (nI ((L.getD i tp0).2)), .int (nI g)]) (rest := []) (wr := [(b, .inr (0, [.ref bk, .ref bs, .int (nI L.length)])), (bk, .inl (cI, 12, .inl k1)), (bs, .inl (cI, 12, .inl s1))]) F (c_X3_ground l D cI ((L.getD i tp0).2) g (by have := (hO i c_14).2; omega) hg hg2) ggX0_grind_X3_ground rfl hG.1.1 (by decide +kernel) (by decide +kernel) (nA := 2) (by decide +kernel) rfl ⟨Nat.le_of_ble_eq_true rfl, Nat.le_of_ble_eq_true rfl⟩ hK hP hD hS hA hG [] [0, 1, 2] rfl (by decide) rfl (by decide) (by decide) [0] rfl rfl hl.1 (Nat.le_of_ble_eq_true rfl) dX0_grind_31 ⟨Nat.le_of_ble_eq_true rfl, Nat.le_of_ble_eq_true rfl⟩ (fun r_2 u H locs hr_31 hP hD hS => ?_)
          try dsimp only at hr_31
          have hP : va_P D vwCl [(b, .inr (0, [.ref bk, .ref bs, .int (nI L.length)])), (bk, .inl (cI, 12, .inl k1)), (bs, .inl (cI, 12, .inl s1))] H := hP
          have hD : va_D A [(b, .inr (0, [.ref bk, .ref bs, .int (nI L.length)])), (bk, .inl (cI, 12, .inl k1)), (bs, .inl (cI, 12, .inl s1))] := hD
          refine W.eq (g2 := F0 m 34 ls [.int r_2]) rfl ?_
          refine W.widen (k := 0) (n := 0) (Nat.le_of_ble_eq_true rfl) (Nat.le_of_ble_eq_true rfl) ?_
          refine k_top (v := nI (gnZ st g L i)) (by rw [hr_31, gnZ, if_pos c_20]) ?_
          refine lv_goto (tgt := 44) hx hb dX0_grind_34 (by decide) ?_
          refine lv_istore (lv' := [(6, .int (nI (gnZ st g L i))), (0, .ref b), (1, .int (nI st)), (2, .int (nI g)), (3, .int (nI L.length)), (4, .int (nI ((pf (gnF st g L) i).length))), (5, .int (nI i))]) hx hb dX0_grind_44 hl (by decide) rfl (fun ls hl => ?_)
          refine lv_iload hx hb dX0_grind_46 (lv_at hl 0 rfl) ?_
          refine lv_iconst (v := nI 2) hx hb dX0_grind_48 (by decide +kernel) ?_
          refine k_cmp_lt (tgt := 78) hx hb (gnZ st g L i) 2 rfl rfl (by have := gnZ_le (st := st) (g := g) hO c_14; omega) (by omega) dX0_grind_49 (by decide) (fun c_49 => ?_) (fun c_49 => ?_)
          · skip
            refine lv_iinc (v := nI (i + 1)) (lv' := [(5, .int (nI (i + 1))), (6, .int (nI (gnZ st g L i))), (0, .ref b), (1, .int (nI st)), (2, .int (nI g)), (3, .int (nI L.length)), (4, .int (nI ((pf (gnF st g L) i).length)))]) hx hb dX0_grind_78 hl (k := 6) rfl (nI_1 _) (by decide) rfl (fun ls hl => ?_)
            refine lv_goto (tgt := 11) hx hb dX0_grind_81 (by decide) ?_
            have hF := gnF_none (L := L) c_49
            exact ih (i + 1) k1 s1 (by omega) (cmp_skip hc hF) (by omega) _ _ (hP.sub [0, 1, 2] (rfl)) (hD.sub [0, 1, 2] (by decide) (rfl)) hS _ (lv_sub hl [2, 3, 4, 5, 6, 0] (by rw [pf_lenN hF]; rfl))
          · skip
            refine lv_aload_n hx hb dX0_grind_52 rfl (lv_at hl 1 rfl) ?_
            refine va_get (D := D) (ci := 0) (v := .ref bk) (C := RX0) (T := TX0) (N := 3) hx hb hts iX0 hown hK hP 0 rfl rfl 0 (by decide) f9 (fun _ h9 => h9) rfl dX0_grind_53 ?_
            refine lv_iload hx hb dX0_grind_56 (lv_at hl 5 rfl) ?_
            refine lv_aload_n hx hb dX0_grind_58 rfl (lv_at hl 1 rfl) ?_
            refine va_get (D := D) (ci := 0) (v := .ref bk) (C := RX0) (T := TX0) (N := 3) hx hb hts iX0 hown hK hP 0 rfl rfl 0 (by decide) f9 (fun _ h9 => h9) rfl dX0_grind_59 ?_
            refine lv_iload hx hb dX0_grind_62 (lv_at hl 6 rfl) ?_
            refine k_iald hx hb hK hP 1 0 rfl rfl i (rfl) (by omega) (by decide) dX0_grind_64 ?_
            refine k_top (v := (L.getD i tp0).1) (((hc.2 i (Nat.le_refl _) c_14).1.trans (hB.2 i c_14).1)) ?_
            refine k_iast hx hb hK hP hD hS 1 0 rfl rfl ((pf (gnF st g L) i).length) (rfl) (by omega) (by decide) dX0_grind_65 (fun H locs hP hD hS => ?_)
            have hP : va_P D vwCl [(b, .inr (0, [.ref bk, .ref bs, .int (nI L.length)])), (bk, .inl (cI, 12, .inl (upd k1 ((pf (gnF st g L) i).length) ((L.getD i tp0).1)))), (bs, .inl (cI, 12, .inl s1))] H := hP
            have hD : va_D A [(b, .inr (0, [.ref bk, .ref bs, .int (nI L.length)])), (bk, .inl (cI, 12, .inl (upd k1 ((pf (gnF st g L) i).length) ((L.getD i tp0).1)))), (bs, .inl (cI, 12, .inl s1))] := hD
            refine lv_aload_n hx hb dX0_grind_66 rfl (lv_at hl 1 rfl) ?_
            refine va_get (D := D) (ci := 0) (v := .ref bs) (C := RX0) (T := TX0) (N := 3) hx hb hts iX0 hown hK hP 0 rfl rfl 1 (by decide) f15 (fun _ h9 => h9) rfl dX0_grind_67 ?_
            refine lv_iload hx hb dX0_grind_70 (lv_at hl 5 rfl) ?_
            refine lv_iload hx hb dX0_grind_72 (lv_at hl 0 rfl) ?_
            refine k_iast hx hb hK hP hD hS 2 0 rfl rfl ((pf (gnF st g L) i).length) (rfl) (by omega) (by decide) dX0_grind_74 (fun H locs hP hD hS => ?_)
            have hP : va_P D vwCl [(b, .inr (0, [.ref bk, .ref bs, .int (nI L.length)])), (bk, .inl (cI, 12, .inl (upd k1 ((pf (gnF st g L) i).length) ((L.getD i tp0).1)))), (bs, .inl (cI, 12, .inl (upd s1 ((pf (gnF st g L) i).length) (nI (gnZ st g L i)))))] H := hP
            have hD : va_D A [(b, .inr (0, [.ref bk, .ref bs, .int (nI L.length)])), (bk, .inl (cI, 12, .inl (upd k1 ((pf (gnF st g L) i).length) ((L.getD i tp0).1)))), (bs, .inl (cI, 12, .inl (upd s1 ((pf (gnF st g L) i).length) (nI (gnZ st g L i)))))] := hD
            refine lv_iinc (v := nI (((pf (gnF st g L) i).length) + 1)) (lv' := [(4, .int (nI (((pf (gnF st g L) i).length) + 1))), (6, .int (nI (gnZ st g L i))), (0, .ref b), (1, .int (nI st)), (2, .int (nI g)), (3, .int (nI L.length)), (5, .int (nI i))]) hx hb dX0_grind_75 hl (k := 5) rfl (nI_1 _) (by decide) rfl (fun ls hl => ?_)
            refine lv_iinc (v := nI (i + 1)) (lv' := [(5, .int (nI (i + 1))), (4, .int (nI (((pf (gnF st g L) i).length) + 1))), (6, .int (nI (gnZ st g L i))), (0, .ref b), (1, .int (nI st)), (2, .int (nI g)), (3, .int (nI L.length))]) hx hb dX0_grind_78 hl (k := 6) rfl (nI_1 _) (by decide) rfl (fun ls hl => ?_)
            refine lv_goto (tgt := 11) hx hb dX0_grind_81 (by decide) ?_
            have hF := gnF_some (L := L) c_49
            exact ih (i + 1) (upd k1 ((pf (gnF st g L) i).length) ((L.getD i tp0).1)) (upd s1 ((pf (gnF st g L) i).length) (nI (gnZ st g L i))) (by omega) (cmp_keep hc hF) (by omega) _ _ (hP.sub [0, 1, 2] (rfl)) (hD.sub [0, 1, 2] (by decide) (rfl)) hS _ (lv_sub hl [3, 4, 5, 6, 1, 0] (by rw [pf_lenS hF]; rfl))
  exact loop_1 (L.length + 1) 0 k s (Nat.zero_le _) (cmp_0 _ _ _ _) (by omega) _ _ (hP.sub [0, 1, 2] (rfl)) (hD.sub [0, 1, 2] (by decide) (rfl)) hS _ (lv_sub hl [3, 4, 5, 2, 1, 0] (rfl))

abbrev rm_X0_sift : Room := { frames := 0, cells := 0, slots := 0, locals := 0 }
set_option maxHeartbeats 4000000 in
set_option maxRecDepth 100000 in
theorem c_X0_sift (l : Launch) (D : va_G) (cI : ClassId) (b : Nat) (bk : Nat) (bs : Nat) (k : Nat → Int32) (s : Nat → Int32) (L : List Tp) (me : Int32) (hB : rB k s L) : kM kri l yX0_sift wsX0_sift rm_X0_sift D [(cI, .int)] [.ref b, .int me] [(b, .inr (0, [.ref bk, .ref bs, .int (nI L.length)])), (bk, .inl (cI, 12, .inl k)), (bs, .inl (cI, 12, .inl s))] (fun (r : Int32) (u : (Nat → Int32) × (Nat → Int32)) => r = nI (L.length - (sft me L).length) ∧ rB u.1 u.2 (sft me L)) (fun (u : (Nat → Int32) × (Nat → Int32)) => [(b, .inr (0, [.ref bk, .ref bs, .int (nI ((sft me L).length))])), (bk, .inl (cI, 12, .inl u.1)), (bs, .inl (cI, 12, .inl u.2))]) := by
  refine k_bodyI (cc := cX0_sift) (maxL := 5) (by decide) rfl (Nat.le_of_ble_eq_true rfl) ?_
  intro p e ss m args below meth c A Q F hname hA hG hK hP hD hS ret ls hl
  obtain ⟨hx, hb, hml, hown, hts⟩ := id F
  have hP : va_P D vwCl [(b, .inr (0, [.ref bk, .ref bs, .int (nI L.length)])), (bk, .inl (cI, 12, .inl k)), (bs, .inl (cI, 12, .inl s))] ss.heap := hP
  have hD : va_D A [(b, .inr (0, [.ref bk, .ref bs, .int (nI L.length)])), (bk, .inl (cI, 12, .inl k)), (bs, .inl (cI, 12, .inl s))] := hD
  have hl : lv_has ls 5 [(0, .ref b), (1, .int me)] := hl
  have iX0 : ∀ w ∈ u_ws RX0 TX0 3, w ∈ wsX0_sift := by decide +kernel
  have f9 := hts (.fieldLink RX0 9 "SmallerTalk$Belt" "kinds" "[I") (by decide +kernel)
  have f15 := hts (.fieldLink RX0 15 "SmallerTalk$Belt" "sizes" "[I") (by decide +kernel)
  have f18 := hts (.fieldLink RX0 18 "SmallerTalk$Belt" "count" "I") (by decide +kernel)
  have h12 := hB.1
  refine lv_aload_n hx hb dX0_sift_0 rfl (lv_at hl 0 rfl) ?_
  refine va_get (D := D) (ci := 0) (v := .int (nI L.length)) (C := RX0) (T := TX0) (N := 3) hx hb hts iX0 hown hK hP 0 rfl rfl 2 (by decide) f18 (fun _ h9 => h9) rfl dX0_sift_1 ?_
  refine lv_istore_n (lv' := [(2, .int (nI L.length)), (0, .ref b), (1, .int me)]) hx hb dX0_sift_4 rfl hl (by decide) rfl (fun ls hl => ?_)
  refine lv_iconst (v := nI 0) hx hb dX0_sift_5 (by decide +kernel) ?_
  refine lv_istore_n (lv' := [(3, .int (nI 0)), (2, .int (nI L.length)), (0, .ref b), (1, .int me)]) hx hb dX0_sift_6 rfl hl (by decide) rfl (fun ls hl => ?_)
  refine lv_iconst (v := nI 0) hx hb dX0_sift_7 (by decide +kernel) ?_
  refine lv_istore (lv' := [(4, .int (nI 0)), (3, .int (nI 0)), (2, .int (nI L.length)), (0, .ref b), (1, .int me)]) hx hb dX0_sift_8 hl (by decide) rfl (fun ls hl => ?_)
  have loop_1 : ∀ (n : Nat) (i : Nat) (k1 : Nat → Int32) (s1 : Nat → Int32), (i ≤ L.length) → (cmp L.length (sfF me L) k s k1 s1 i) → L.length - i < n → ∀ (H : Heap) (locs : List Loc), va_P D vwCl [(b, .inr (0, [.ref bk, .ref bs, .int (nI L.length)])), (bk, .inl (cI, 12, .inl k1)), (bs, .inl (cI, 12, .inl s1))] H → va_D A [(b, .inr (0, [.ref bk, .ref bs, .int (nI L.length)])), (bk, .inl (cI, 12, .inl k1)), (bs, .inl (cI, 12, .inl s1))] → va_S A ss.heap H locs → ∀ ls : Array Slot, lv_has ls 5 [(0, .ref b), (1, .int me), (2, .int (nI L.length)), (3, .int (nI ((pf (sfF me L) i).length))), (4, .int (nI i))] → W p l e rm_X0_sift ss m args below meth c H locs 0 0 Q (F0 m 10 ls []) := by
    intro n
    induction n with
    | zero => intro i k1 s1 hi hc hn; exact absurd hn (by omega)
    | succ n ih =>
      intro i k1 s1 hi hc hn H locs hP hD hS ls hl
      have hpf := pf_le (sfF me L) i
      refine lv_iload hx hb dX0_sift_10 (lv_at hl 4 rfl) ?_
      refine lv_iload_n hx hb dX0_sift_12 rfl (lv_at hl 2 rfl) ?_
      refine k_cmp_ge (tgt := 72) hx hb i L.length rfl rfl (by omega) (by omega) dX0_sift_13 (by decide) (fun c_13 => ?_) (fun c_13 => ?_)
      · skip
        obtain rfl : i = L.length := by omega
        refine lv_aload_n hx hb dX0_sift_72 rfl (lv_at hl 0 rfl) ?_
        refine lv_iload_n hx hb dX0_sift_73 rfl (lv_at hl 3 rfl) ?_
        refine va_put (D := D) (ci := 0) (v := .int (nI ((pf (sfF me L) L.length).length))) (ty := .int) (C := RX0) (T := TX0) (N := 3) hx hb hts iX0 tyX0 tyX0_ok nmX0 hown hK hP hD hS 0 rfl rfl 2 (by decide) f18 (fun _ h9 => h9) rfl (by decide +kernel) rfl rfl (Nat.le_of_ble_eq_true rfl) dX0_sift_74 (fun H locs hP hD hS => ?_)
        have hP : va_P D vwCl [(b, .inr (0, [.ref bk, .ref bs, .int (nI ((pf (sfF me L) L.length).length))])), (bk, .inl (cI, 12, .inl k1)), (bs, .inl (cI, 12, .inl s1))] H := hP
        have hD : va_D A [(b, .inr (0, [.ref bk, .ref bs, .int (nI ((pf (sfF me L) L.length).length))])), (bk, .inl (cI, 12, .inl k1)), (bs, .inl (cI, 12, .inl s1))] := hD
        refine lv_iload_n hx hb dX0_sift_77 rfl (lv_at hl 2 rfl) ?_
        refine lv_iload_n hx hb dX0_sift_78 rfl (lv_at hl 3 rfl) ?_
        refine k_isub hx hb (nI (L.length - (sft me L).length)) (pk_sub hpf) dX0_sift_79 ?_
        exact ret (nI (L.length - (sft me L).length)) ⟨k1, s1⟩ _ _ _ _ _ _ (⟨rfl, rB_cmp h12 hc⟩) (hP.sub [0, 1, 2] (rfl)) (hD.sub [0, 1, 2] (by decide) (rfl)) hS (Nat.le_of_ble_eq_true rfl) (Nat.le_of_ble_eq_true rfl) dX0_sift_80
      · skip
        refine lv_aload_n hx hb dX0_sift_16 rfl (lv_at hl 0 rfl) ?_
        refine va_get (D := D) (ci := 0) (v := .ref bk) (C := RX0) (T := TX0) (N := 3) hx hb hts iX0 hown hK hP 0 rfl rfl 0 (by decide) f9 (fun _ h9 => h9) rfl dX0_sift_17 ?_
        refine lv_iload hx hb dX0_sift_20 (lv_at hl 4 rfl) ?_
        refine k_iald hx hb hK hP 1 0 rfl rfl i (rfl) (by omega) (by decide) dX0_sift_22 ?_
        refine k_top (v := (L.getD i tp0).1) (((hc.2 i (Nat.le_refl _) c_13).1.trans (hB.2 i c_13).1)) ?_
        refine lv_if_ne (tgt := 37) hx hb dX0_sift_23 (by decide) (fun c_23 => ?_) (fun c_23 => ?_)
        · skip
          refine lv_aload_n hx hb dX0_sift_37 rfl (lv_at hl 0 rfl) ?_
          refine va_get (D := D) (ci := 0) (v := .ref bk) (C := RX0) (T := TX0) (N := 3) hx hb hts iX0 hown hK hP 0 rfl rfl 0 (by decide) f9 (fun _ h9 => h9) rfl dX0_sift_38 ?_
          refine lv_iload_n hx hb dX0_sift_41 rfl (lv_at hl 3 rfl) ?_
          refine lv_aload_n hx hb dX0_sift_42 rfl (lv_at hl 0 rfl) ?_
          refine va_get (D := D) (ci := 0) (v := .ref bk) (C := RX0) (T := TX0) (N := 3) hx hb hts iX0 hown hK hP 0 rfl rfl 0 (by decide) f9 (fun _ h9 => h9) rfl dX0_sift_43 ?_
          refine lv_iload hx hb dX0_sift_46 (lv_at hl 4 rfl) ?_
          refine k_iald hx hb hK hP 1 0 rfl rfl i (rfl) (by omega) (by decide) dX0_sift_48 ?_
          refine k_top (v := (L.getD i tp0).1) (((hc.2 i (Nat.le_refl _) c_13).1.trans (hB.2 i c_13).1)) ?_
          refine k_iast hx hb hK hP hD hS 1 0 rfl rfl ((pf (sfF me L) i).length) (rfl) (by omega) (by decide) dX0_sift_49 (fun H locs hP hD hS => ?_)
          have hP : va_P D vwCl [(b, .inr (0, [.ref bk, .ref bs, .int (nI L.length)])), (bk, .inl (cI, 12, .inl (upd k1 ((pf (sfF me L) i).length) ((L.getD i tp0).1)))), (bs, .inl (cI, 12, .inl s1))] H := hP
          have hD : va_D A [(b, .inr (0, [.ref bk, .ref bs, .int (nI L.length)])), (bk, .inl (cI, 12, .inl (upd k1 ((pf (sfF me L) i).length) ((L.getD i tp0).1)))), (bs, .inl (cI, 12, .inl s1))] := hD
          refine lv_aload_n hx hb dX0_sift_50 rfl (lv_at hl 0 rfl) ?_
          refine va_get (D := D) (ci := 0) (v := .ref bs) (C := RX0) (T := TX0) (N := 3) hx hb hts iX0 hown hK hP 0 rfl rfl 1 (by decide) f15 (fun _ h9 => h9) rfl dX0_sift_51 ?_
          refine lv_iload_n hx hb dX0_sift_54 rfl (lv_at hl 3 rfl) ?_
          refine lv_aload_n hx hb dX0_sift_55 rfl (lv_at hl 0 rfl) ?_
          refine va_get (D := D) (ci := 0) (v := .ref bs) (C := RX0) (T := TX0) (N := 3) hx hb hts iX0 hown hK hP 0 rfl rfl 1 (by decide) f15 (fun _ h9 => h9) rfl dX0_sift_56 ?_
          refine lv_iload hx hb dX0_sift_59 (lv_at hl 4 rfl) ?_
          refine k_iald hx hb hK hP 2 0 rfl rfl i (rfl) (by omega) (by decide) dX0_sift_61 ?_
          refine k_top (v := nI ((L.getD i tp0).2)) (((hc.2 i (Nat.le_refl _) c_13).2.trans (hB.2 i c_13).2)) ?_
          refine k_iast hx hb hK hP hD hS 2 0 rfl rfl ((pf (sfF me L) i).length) (rfl) (by omega) (by decide) dX0_sift_62 (fun H locs hP hD hS => ?_)
          have hP : va_P D vwCl [(b, .inr (0, [.ref bk, .ref bs, .int (nI L.length)])), (bk, .inl (cI, 12, .inl (upd k1 ((pf (sfF me L) i).length) ((L.getD i tp0).1)))), (bs, .inl (cI, 12, .inl (upd s1 ((pf (sfF me L) i).length) (nI ((L.getD i tp0).2)))))] H := hP
          have hD : va_D A [(b, .inr (0, [.ref bk, .ref bs, .int (nI L.length)])), (bk, .inl (cI, 12, .inl (upd k1 ((pf (sfF me L) i).length) ((L.getD i tp0).1)))), (bs, .inl (cI, 12, .inl (upd s1 ((pf (sfF me L) i).length) (nI ((L.getD i tp0).2)))))] := hD
          refine lv_iinc (v := nI (((pf (sfF me L) i).length) + 1)) (lv' := [(3, .int (nI (((pf (sfF me L) i).length) + 1))), (0, .ref b), (1, .int me), (2, .int (nI L.length)), (4, .int (nI i))]) hx hb dX0_sift_63 hl (k := 3) rfl (nI_1 _) (by decide) rfl (fun ls hl => ?_)
          refine lv_iinc (v := nI (i + 1)) (lv' := [(4, .int (nI (i + 1))), (3, .int (nI (((pf (sfF me L) i).length) + 1))), (0, .ref b), (1, .int me), (2, .int (nI L.length))]) hx hb dX0_sift_66 hl (k := 4) rfl (nI_1 _) (by decide) rfl (fun ls hl => ?_)
          refine lv_goto (tgt := 10) hx hb dX0_sift_69 (by decide) ?_
          have hF := sfF_some (me := me) (fun h9 => c_23 h9.1)
          exact ih (i + 1) (upd k1 ((pf (sfF me L) i).length) ((L.getD i tp0).1)) (upd s1 ((pf (sfF me L) i).length) (nI ((L.getD i tp0).2))) (by omega) (cmp_keep hc hF) (by omega) _ _ (hP.sub [0, 1, 2] (rfl)) (hD.sub [0, 1, 2] (by decide) (rfl)) hS _ (lv_sub hl [2, 3, 4, 1, 0] (by rw [pf_lenS hF]; rfl))
        · skip
          refine lv_aload_n hx hb dX0_sift_26 rfl (lv_at hl 0 rfl) ?_
          refine va_get (D := D) (ci := 0) (v := .ref bs) (C := RX0) (T := TX0) (N := 3) hx hb hts iX0 hown hK hP 0 rfl rfl 1 (by decide) f15 (fun _ h9 => h9) rfl dX0_sift_27 ?_
          refine lv_iload hx hb dX0_sift_30 (lv_at hl 4 rfl) ?_
          refine k_iald hx hb hK hP 2 0 rfl rfl i (rfl) (by omega) (by decide) dX0_sift_32 ?_
          refine k_top (v := nI ((L.getD i tp0).2)) (((hc.2 i (Nat.le_refl _) c_13).2.trans (hB.2 i c_13).2)) ?_
          refine lv_iload_n hx hb dX0_sift_33 rfl (lv_at hl 1 rfl) ?_
          refine lv_icmp_lt (tgt := 66) hx hb dX0_sift_34 (by decide) (fun c_34 => ?_) (fun c_34 => ?_)
          · skip
            refine lv_iinc (v := nI (i + 1)) (lv' := [(4, .int (nI (i + 1))), (0, .ref b), (1, .int me), (2, .int (nI L.length)), (3, .int (nI ((pf (sfF me L) i).length)))]) hx hb dX0_sift_66 hl (k := 4) rfl (nI_1 _) (by decide) rfl (fun ls hl => ?_)
            refine lv_goto (tgt := 10) hx hb dX0_sift_69 (by decide) ?_
            have hF := sfF_none c_23 c_34
            exact ih (i + 1) k1 s1 (by omega) (cmp_skip hc hF) (by omega) _ _ (hP.sub [0, 1, 2] (rfl)) (hD.sub [0, 1, 2] (by decide) (rfl)) hS _ (lv_sub hl [1, 2, 3, 4, 0] (by rw [pf_lenN hF]; rfl))
          · skip
            refine lv_aload_n hx hb dX0_sift_37 rfl (lv_at hl 0 rfl) ?_
            refine va_get (D := D) (ci := 0) (v := .ref bk) (C := RX0) (T := TX0) (N := 3) hx hb hts iX0 hown hK hP 0 rfl rfl 0 (by decide) f9 (fun _ h9 => h9) rfl dX0_sift_38 ?_
            refine lv_iload_n hx hb dX0_sift_41 rfl (lv_at hl 3 rfl) ?_
            refine lv_aload_n hx hb dX0_sift_42 rfl (lv_at hl 0 rfl) ?_
            refine va_get (D := D) (ci := 0) (v := .ref bk) (C := RX0) (T := TX0) (N := 3) hx hb hts iX0 hown hK hP 0 rfl rfl 0 (by decide) f9 (fun _ h9 => h9) rfl dX0_sift_43 ?_
            refine lv_iload hx hb dX0_sift_46 (lv_at hl 4 rfl) ?_
            refine k_iald hx hb hK hP 1 0 rfl rfl i (rfl) (by omega) (by decide) dX0_sift_48 ?_
            refine k_top (v := (L.getD i tp0).1) (((hc.2 i (Nat.le_refl _) c_13).1.trans (hB.2 i c_13).1)) ?_
            refine k_iast hx hb hK hP hD hS 1 0 rfl rfl ((pf (sfF me L) i).length) (rfl) (by omega) (by decide) dX0_sift_49 (fun H locs hP hD hS => ?_)
            have hP : va_P D vwCl [(b, .inr (0, [.ref bk, .ref bs, .int (nI L.length)])), (bk, .inl (cI, 12, .inl (upd k1 ((pf (sfF me L) i).length) ((L.getD i tp0).1)))), (bs, .inl (cI, 12, .inl s1))] H := hP
            have hD : va_D A [(b, .inr (0, [.ref bk, .ref bs, .int (nI L.length)])), (bk, .inl (cI, 12, .inl (upd k1 ((pf (sfF me L) i).length) ((L.getD i tp0).1)))), (bs, .inl (cI, 12, .inl s1))] := hD
            refine lv_aload_n hx hb dX0_sift_50 rfl (lv_at hl 0 rfl) ?_
            refine va_get (D := D) (ci := 0) (v := .ref bs) (C := RX0) (T := TX0) (N := 3) hx hb hts iX0 hown hK hP 0 rfl rfl 1 (by decide) f15 (fun _ h9 => h9) rfl dX0_sift_51 ?_
            refine lv_iload_n hx hb dX0_sift_54 rfl (lv_at hl 3 rfl) ?_
            refine lv_aload_n hx hb dX0_sift_55 rfl (lv_at hl 0 rfl) ?_
            refine va_get (D := D) (ci := 0) (v := .ref bs) (C := RX0) (T := TX0) (N := 3) hx hb hts iX0 hown hK hP 0 rfl rfl 1 (by decide) f15 (fun _ h9 => h9) rfl dX0_sift_56 ?_
            refine lv_iload hx hb dX0_sift_59 (lv_at hl 4 rfl) ?_
            refine k_iald hx hb hK hP 2 0 rfl rfl i (rfl) (by omega) (by decide) dX0_sift_61 ?_
            refine k_top (v := nI ((L.getD i tp0).2)) (((hc.2 i (Nat.le_refl _) c_13).2.trans (hB.2 i c_13).2)) ?_
            refine k_iast hx hb hK hP hD hS 2 0 rfl rfl ((pf (sfF me L) i).length) (rfl) (by omega) (by decide) dX0_sift_62 (fun H locs hP hD hS => ?_)
            have hP : va_P D vwCl [(b, .inr (0, [.ref bk, .ref bs, .int (nI L.length)])), (bk, .inl (cI, 12, .inl (upd k1 ((pf (sfF me L) i).length) ((L.getD i tp0).1)))), (bs, .inl (cI, 12, .inl (upd s1 ((pf (sfF me L) i).length) (nI ((L.getD i tp0).2)))))] H := hP
            have hD : va_D A [(b, .inr (0, [.ref bk, .ref bs, .int (nI L.length)])), (bk, .inl (cI, 12, .inl (upd k1 ((pf (sfF me L) i).length) ((L.getD i tp0).1)))), (bs, .inl (cI, 12, .inl (upd s1 ((pf (sfF me L) i).length) (nI ((L.getD i tp0).2)))))] := hD
            refine lv_iinc (v := nI (((pf (sfF me L) i).length) + 1)) (lv' := [(3, .int (nI (((pf (sfF me L) i).length) + 1))), (0, .ref b), (1, .int me), (2, .int (nI L.length)), (4, .int (nI i))]) hx hb dX0_sift_63 hl (k := 3) rfl (nI_1 _) (by decide) rfl (fun ls hl => ?_)
            refine lv_iinc (v := nI (i + 1)) (lv' := [(4, .int (nI (i + 1))), (3, .int (nI (((pf (sfF me L) i).length) + 1))), (0, .ref b), (1, .int me), (2, .int (nI L.length))]) hx hb dX0_sift_66 hl (k := 4) rfl (nI_1 _) (by decide) rfl (fun ls hl => ?_)
            refine lv_goto (tgt := 10) hx hb dX0_sift_69 (by decide) ?_
            have hF := sfF_some (me := me) (fun h9 => c_34 h9.2)
            exact ih (i + 1) (upd k1 ((pf (sfF me L) i).length) ((L.getD i tp0).1)) (upd s1 ((pf (sfF me L) i).length) (nI ((L.getD i tp0).2))) (by omega) (cmp_keep hc hF) (by omega) _ _ (hP.sub [0, 1, 2] (rfl)) (hD.sub [0, 1, 2] (by decide) (rfl)) hS _ (lv_sub hl [2, 3, 4, 1, 0] (by rw [pf_lenS hF]; rfl))
  exact loop_1 (L.length + 1) 0 k s (Nat.zero_le _) (cmp_0 _ _ _ _) (by omega) _ _ (hP.sub [0, 1, 2] (rfl)) (hD.sub [0, 1, 2] (by decide) (rfl)) hS _ (lv_sub hl [3, 4, 2, 1, 0] (rfl))

abbrev rm_X0_init : Room := { frames := 1, cells := 2, slots := 24, locals := 12 }
set_option maxHeartbeats 4000000 in
set_option maxRecDepth 100000 in
theorem c_X0_init (l : Launch) (D : va_G) (cI : ClassId) (b : Nat) : kM krv l yX0_init wsX0_init rm_X0_init D [(cI, .int)] [.ref b] [(b, .inr (0, [.null, .null, .int (nI 0)]))] (fun (r : Unit) (u : Nat × Nat) => True) (fun (u : Nat × Nat) => [(b, .inr (0, [.ref u.1, .ref u.2, .int (nI 0)])), (u.1, .inl (cI, 12, .inl (fun _ => 0))), (u.2, .inl (cI, 12, .inl (fun _ => 0)))]) := by
  refine k_bodyV (cc := cX0_init) (maxL := 1) (by decide) rfl (Nat.le_of_ble_eq_true rfl) ?_
  intro p e ss m args below meth c A Q F hname hA hG hK hP hD hS ret ls hl
  obtain ⟨hx, hb, hml, hown, hts⟩ := id F
  have hP : va_P D vwCl [(b, .inr (0, [.null, .null, .int (nI 0)]))] ss.heap := hP
  have hD : va_D A [(b, .inr (0, [.null, .null, .int (nI 0)]))] := hD
  have hl : lv_has ls 1 [(0, .ref b)] := hl
  have iX0 : ∀ w ∈ u_ws RX0 TX0 3, w ∈ wsX0_init := by decide +kernel
  have f9 := hts (.fieldLink RX0 9 "SmallerTalk$Belt" "kinds" "[I") (by decide +kernel)
  have f15 := hts (.fieldLink RX0 15 "SmallerTalk$Belt" "sizes" "[I") (by decide +kernel)
  have f18 := hts (.fieldLink RX0 18 "SmallerTalk$Belt" "count" "I") (by decide +kernel)
  refine lv_aload_n hx hb dX0_init_0 rfl (lv_at hl 0 rfl) ?_
  refine W.objInit hx hb hown (hts (.methodLink RX0 3 objectInit) (by decide +kernel)) (hts (.instanceMethod objectInit) (by decide +kernel)) (hts (.code objectInit ⟨#[0xb1]⟩ 1 none) (by decide +kernel)) rfl (by rw [hml]; exact hl.1) rfl dX0_init_1 (Nat.le_of_ble_eq_true rfl) (Nat.le_of_ble_eq_true rfl) ?_
  refine W.eq (g2 := F0 m 4 ls []) rfl ?_
  refine lv_aload_n hx hb dX0_init_4 rfl (lv_at hl 0 rfl) ?_
  refine lv_bipush (v := nI 12) hx hb dX0_init_5 (by decide +kernel) ?_
  refine va_newa (atype := .int) (a0 := (12, .inl (fun _ => 0))) (N' := 12) hx hb (hts (.arrayClass .int) (by decide +kernel)) rfl hK hP hD hS hA (fun _ => rfl) (by decide +kernel) (by decide +kernel) (Nat.le_of_ble_eq_true rfl) (Nat.le_of_ble_eq_true rfl) (Nat.le_of_ble_eq_true rfl) dX0_init_7 (fun q_1 cA H hK2 hP hD hS => ?_)
  obtain rfl : cI = cA := (k_same hK2).symm
  have hP : va_P D vwCl [(b, .inr (0, [.null, .null, .int (nI 0)])), (q_1, .inl (cI, 12, .inl (fun _ => 0)))] H := hP
  have hD : va_D A [(b, .inr (0, [.null, .null, .int (nI 0)])), (q_1, .inl (cI, 12, .inl (fun _ => 0)))] := hD
  refine va_putF (D := D) (ci := 0) (v := .ref q_1) (ty := (.array .int)) (C := RX0) (T := TX0) (N := 3) hx hb hts iX0 tyX0 tyX0_ok nmX0 hown hK hP hD hS 0 rfl rfl 0 (by decide) f9 (fun _ h9 => h9) rfl hname rfl (by decide +kernel) rfl rfl (Nat.le_of_ble_eq_true rfl) dX0_init_9 (fun H locs hP hD hS => ?_)
  have hP : va_P D vwCl [(b, .inr (0, [.ref q_1, .null, .int (nI 0)])), (q_1, .inl (cI, 12, .inl (fun _ => 0)))] H := hP
  have hD : va_D A [(b, .inr (0, [.ref q_1, .null, .int (nI 0)])), (q_1, .inl (cI, 12, .inl (fun _ => 0)))] := hD
  refine lv_aload_n hx hb dX0_init_12 rfl (lv_at hl 0 rfl) ?_
  refine lv_bipush (v := nI 12) hx hb dX0_init_13 (by decide +kernel) ?_
  refine va_newa (atype := .int) (a0 := (12, .inl (fun _ => 0))) (N' := 12) hx hb (hts (.arrayClass .int) (by decide +kernel)) rfl hK hP hD hS hA (fun _ => rfl) (by decide +kernel) (by decide +kernel) (Nat.le_of_ble_eq_true rfl) (Nat.le_of_ble_eq_true rfl) (Nat.le_of_ble_eq_true rfl) dX0_init_15 (fun q_2 cA H hK2 hP hD hS => ?_)
  obtain rfl : cI = cA := (k_same hK2).symm
  have hP : va_P D vwCl [(b, .inr (0, [.ref q_1, .null, .int (nI 0)])), (q_1, .inl (cI, 12, .inl (fun _ => 0))), (q_2, .inl (cI, 12, .inl (fun _ => 0)))] H := hP
  have hD : va_D A [(b, .inr (0, [.ref q_1, .null, .int (nI 0)])), (q_1, .inl (cI, 12, .inl (fun _ => 0))), (q_2, .inl (cI, 12, .inl (fun _ => 0)))] := hD
  refine va_putF (D := D) (ci := 0) (v := .ref q_2) (ty := (.array .int)) (C := RX0) (T := TX0) (N := 3) hx hb hts iX0 tyX0 tyX0_ok nmX0 hown hK hP hD hS 0 rfl rfl 1 (by decide) f15 (fun _ h9 => h9) rfl hname rfl (by decide +kernel) rfl rfl (Nat.le_of_ble_eq_true rfl) dX0_init_17 (fun H locs hP hD hS => ?_)
  have hP : va_P D vwCl [(b, .inr (0, [.ref q_1, .ref q_2, .int (nI 0)])), (q_1, .inl (cI, 12, .inl (fun _ => 0))), (q_2, .inl (cI, 12, .inl (fun _ => 0)))] H := hP
  have hD : va_D A [(b, .inr (0, [.ref q_1, .ref q_2, .int (nI 0)])), (q_1, .inl (cI, 12, .inl (fun _ => 0))), (q_2, .inl (cI, 12, .inl (fun _ => 0)))] := hD
  refine lv_aload_n hx hb dX0_init_20 rfl (lv_at hl 0 rfl) ?_
  refine lv_iconst (v := nI 0) hx hb dX0_init_21 (by decide +kernel) ?_
  refine va_put (D := D) (ci := 0) (v := .int (nI 0)) (ty := .int) (C := RX0) (T := TX0) (N := 3) hx hb hts iX0 tyX0 tyX0_ok nmX0 hown hK hP hD hS 0 rfl rfl 2 (by decide) f18 (fun _ h9 => h9) rfl (by decide +kernel) rfl rfl (Nat.le_of_ble_eq_true rfl) dX0_init_22 (fun H locs hP hD hS => ?_)
  have hP : va_P D vwCl [(b, .inr (0, [.ref q_1, .ref q_2, .int (nI 0)])), (q_1, .inl (cI, 12, .inl (fun _ => 0))), (q_2, .inl (cI, 12, .inl (fun _ => 0)))] H := hP
  have hD : va_D A [(b, .inr (0, [.ref q_1, .ref q_2, .int (nI 0)])), (q_1, .inl (cI, 12, .inl (fun _ => 0))), (q_2, .inl (cI, 12, .inl (fun _ => 0)))] := hD
  exact ret ⟨q_1, q_2⟩ _ _ _ _ _ _ (trivial) (hP.sub [0, 1, 2] (rfl)) (hD.sub [0, 1, 2] (by decide) (rfl)) hS (Nat.le_of_ble_eq_true rfl) (Nat.le_of_ble_eq_true rfl) dX0_init_25

abbrev rm_X0_copyFrom : Room := { frames := 0, cells := 0, slots := 0, locals := 0 }
set_option maxHeartbeats 4000000 in
set_option maxRecDepth 100000 in
theorem c_X0_copyFrom (l : Launch) (D : va_G) (cI : ClassId) (b : Nat) (bk : Nat) (bs : Nat) (b2 : Nat) (bk2 : Nat) (bs2 : Nat) (n0 : Int32) (k : Nat → Int32) (s : Nat → Int32) (k2 : Nat → Int32) (s2 : Nat → Int32) (L : List Tp) (hB : rB k2 s2 L) : kM krv l yX0_copyFrom wsX0_copyFrom rm_X0_copyFrom D [(cI, .int)] [.ref b, .ref b2] [(b, .inr (0, [.ref bk, .ref bs, .int n0])), (bk, .inl (cI, 12, .inl k)), (bs, .inl (cI, 12, .inl s)), (b2, .inr (0, [.ref bk2, .ref bs2, .int (nI L.length)])), (bk2, .inl (cI, 12, .inl k2)), (bs2, .inl (cI, 12, .inl s2))] (fun (r : Unit) (u : (Nat → Int32) × (Nat → Int32)) => rB u.1 u.2 L) (fun (u : (Nat → Int32) × (Nat → Int32)) => [(b, .inr (0, [.ref bk, .ref bs, .int (nI L.length)])), (bk, .inl (cI, 12, .inl u.1)), (bs, .inl (cI, 12, .inl u.2)), (b2, .inr (0, [.ref bk2, .ref bs2, .int (nI L.length)])), (bk2, .inl (cI, 12, .inl k2)), (bs2, .inl (cI, 12, .inl s2))]) := by
  refine k_bodyV (cc := cX0_copyFrom) (maxL := 3) (by decide) rfl (Nat.le_of_ble_eq_true rfl) ?_
  intro p e ss m args below meth c A Q F hname hA hG hK hP hD hS ret ls hl
  obtain ⟨hx, hb, hml, hown, hts⟩ := id F
  have hP : va_P D vwCl [(b, .inr (0, [.ref bk, .ref bs, .int n0])), (bk, .inl (cI, 12, .inl k)), (bs, .inl (cI, 12, .inl s)), (b2, .inr (0, [.ref bk2, .ref bs2, .int (nI L.length)])), (bk2, .inl (cI, 12, .inl k2)), (bs2, .inl (cI, 12, .inl s2))] ss.heap := hP
  have hD : va_D A [(b, .inr (0, [.ref bk, .ref bs, .int n0])), (bk, .inl (cI, 12, .inl k)), (bs, .inl (cI, 12, .inl s)), (b2, .inr (0, [.ref bk2, .ref bs2, .int (nI L.length)])), (bk2, .inl (cI, 12, .inl k2)), (bs2, .inl (cI, 12, .inl s2))] := hD
  have hl : lv_has ls 3 [(0, .ref b), (1, .ref b2)] := hl
  have iX0 : ∀ w ∈ u_ws RX0 TX0 3, w ∈ wsX0_copyFrom := by decide +kernel
  have f9 := hts (.fieldLink RX0 9 "SmallerTalk$Belt" "kinds" "[I") (by decide +kernel)
  have f15 := hts (.fieldLink RX0 15 "SmallerTalk$Belt" "sizes" "[I") (by decide +kernel)
  have f18 := hts (.fieldLink RX0 18 "SmallerTalk$Belt" "count" "I") (by decide +kernel)
  have h12 := hB.1
  refine lv_iconst (v := nI 0) hx hb dX0_copyFrom_0 (by decide +kernel) ?_
  refine lv_istore_n (lv' := [(2, .int (nI 0)), (0, .ref b), (1, .ref b2)]) hx hb dX0_copyFrom_1 rfl hl (by decide) rfl (fun ls hl => ?_)
  have loop_1 : ∀ (n : Nat) (i : Nat) (k1 : Nat → Int32) (s1 : Nat → Int32), (i ≤ L.length) → (∀ q, q < i → k1 q = k2 q ∧ s1 q = s2 q) → L.length - i < n → ∀ (H : Heap) (locs : List Loc), va_P D vwCl [(b, .inr (0, [.ref bk, .ref bs, .int n0])), (bk, .inl (cI, 12, .inl k1)), (bs, .inl (cI, 12, .inl s1)), (b2, .inr (0, [.ref bk2, .ref bs2, .int (nI L.length)])), (bk2, .inl (cI, 12, .inl k2)), (bs2, .inl (cI, 12, .inl s2))] H → va_D A [(b, .inr (0, [.ref bk, .ref bs, .int n0])), (bk, .inl (cI, 12, .inl k1)), (bs, .inl (cI, 12, .inl s1)), (b2, .inr (0, [.ref bk2, .ref bs2, .int (nI L.length)])), (bk2, .inl (cI, 12, .inl k2)), (bs2, .inl (cI, 12, .inl s2))] → va_S A ss.heap H locs → ∀ ls : Array Slot, lv_has ls 3 [(0, .ref b), (1, .ref b2), (2, .int (nI i))] → W p l e rm_X0_copyFrom ss m args below meth c H locs 0 0 Q (F0 m 2 ls []) := by
    intro n
    induction n with
    | zero => intro i k1 s1 hi hc hn; exact absurd hn (by omega)
    | succ n ih =>
      intro i k1 s1 hi hc hn H locs hP hD hS ls hl
      refine lv_iload_n hx hb dX0_copyFrom_2 rfl (lv_at hl 2 rfl) ?_
      refine lv_aload_n hx hb dX0_copyFrom_3 rfl (lv_at hl 1 rfl) ?_
      refine va_get (D := D) (ci := 0) (v := .int (nI L.length)) (C := RX0) (T := TX0) (N := 3) hx hb hts iX0 hown hK hP 3 rfl rfl 2 (by decide) f18 (fun _ h9 => h9) rfl dX0_copyFrom_4 ?_
      refine k_cmp_ge (tgt := 40) hx hb i L.length rfl rfl (by omega) (by omega) dX0_copyFrom_7 (by decide) (fun c_7 => ?_) (fun c_7 => ?_)
      · skip
        obtain rfl : i = L.length := by omega
        refine lv_aload_n hx hb dX0_copyFrom_40 rfl (lv_at hl 0 rfl) ?_
        refine lv_aload_n hx hb dX0_copyFrom_41 rfl (lv_at hl 1 rfl) ?_
        refine va_get (D := D) (ci := 0) (v := .int (nI L.length)) (C := RX0) (T := TX0) (N := 3) hx hb hts iX0 hown hK hP 3 rfl rfl 2 (by decide) f18 (fun _ h9 => h9) rfl dX0_copyFrom_42 ?_
        refine va_put (D := D) (ci := 0) (v := .int (nI L.length)) (ty := .int) (C := RX0) (T := TX0) (N := 3) hx hb hts iX0 tyX0 tyX0_ok nmX0 hown hK hP hD hS 0 rfl rfl 2 (by decide) f18 (fun _ h9 => h9) rfl (by decide +kernel) rfl rfl (Nat.le_of_ble_eq_true rfl) dX0_copyFrom_45 (fun H locs hP hD hS => ?_)
        have hP : va_P D vwCl [(b, .inr (0, [.ref bk, .ref bs, .int (nI L.length)])), (bk, .inl (cI, 12, .inl k1)), (bs, .inl (cI, 12, .inl s1)), (b2, .inr (0, [.ref bk2, .ref bs2, .int (nI L.length)])), (bk2, .inl (cI, 12, .inl k2)), (bs2, .inl (cI, 12, .inl s2))] H := hP
        have hD : va_D A [(b, .inr (0, [.ref bk, .ref bs, .int (nI L.length)])), (bk, .inl (cI, 12, .inl k1)), (bs, .inl (cI, 12, .inl s1)), (b2, .inr (0, [.ref bk2, .ref bs2, .int (nI L.length)])), (bk2, .inl (cI, 12, .inl k2)), (bs2, .inl (cI, 12, .inl s2))] := hD
        exact ret ⟨k1, s1⟩ _ _ _ _ _ _ (⟨h12, fun q hq => ⟨(hc q hq).1.trans (hB.2 q hq).1, (hc q hq).2.trans (hB.2 q hq).2⟩⟩) (hP.sub [0, 1, 2, 3, 4, 5] (rfl)) (hD.sub [0, 1, 2, 3, 4, 5] (by decide) (rfl)) hS (Nat.le_of_ble_eq_true rfl) (Nat.le_of_ble_eq_true rfl) dX0_copyFrom_48
      · skip
        refine lv_aload_n hx hb dX0_copyFrom_10 rfl (lv_at hl 0 rfl) ?_
        refine va_get (D := D) (ci := 0) (v := .ref bk) (C := RX0) (T := TX0) (N := 3) hx hb hts iX0 hown hK hP 0 rfl rfl 0 (by decide) f9 (fun _ h9 => h9) rfl dX0_copyFrom_11 ?_
        refine lv_iload_n hx hb dX0_copyFrom_14 rfl (lv_at hl 2 rfl) ?_
        refine lv_aload_n hx hb dX0_copyFrom_15 rfl (lv_at hl 1 rfl) ?_
        refine va_get (D := D) (ci := 0) (v := .ref bk2) (C := RX0) (T := TX0) (N := 3) hx hb hts iX0 hown hK hP 3 rfl rfl 0 (by decide) f9 (fun _ h9 => h9) rfl dX0_copyFrom_16 ?_
        refine lv_iload_n hx hb dX0_copyFrom_19 rfl (lv_at hl 2 rfl) ?_
        refine k_iald hx hb hK hP 4 0 rfl rfl i (rfl) (by omega) (by decide) dX0_copyFrom_20 ?_
        refine k_iast hx hb hK hP hD hS 1 0 rfl rfl i (rfl) (by omega) (by decide) dX0_copyFrom_21 (fun H locs hP hD hS => ?_)
        have hP : va_P D vwCl [(b, .inr (0, [.ref bk, .ref bs, .int n0])), (bk, .inl (cI, 12, .inl (upd k1 i (k2 i)))), (bs, .inl (cI, 12, .inl s1)), (b2, .inr (0, [.ref bk2, .ref bs2, .int (nI L.length)])), (bk2, .inl (cI, 12, .inl k2)), (bs2, .inl (cI, 12, .inl s2))] H := hP
        have hD : va_D A [(b, .inr (0, [.ref bk, .ref bs, .int n0])), (bk, .inl (cI, 12, .inl (upd k1 i (k2 i)))), (bs, .inl (cI, 12, .inl s1)), (b2, .inr (0, [.ref bk2, .ref bs2, .int (nI L.length)])), (bk2, .inl (cI, 12, .inl k2)), (bs2, .inl (cI, 12, .inl s2))] := hD
        refine lv_aload_n hx hb dX0_copyFrom_22 rfl (lv_at hl 0 rfl) ?_
        refine va_get (D := D) (ci := 0) (v := .ref bs) (C := RX0) (T := TX0) (N := 3) hx hb hts iX0 hown hK hP 0 rfl rfl 1 (by decide) f15 (fun _ h9 => h9) rfl dX0_copyFrom_23 ?_
        refine lv_iload_n hx hb dX0_copyFrom_26 rfl (lv_at hl 2 rfl) ?_
        refine lv_aload_n hx hb dX0_copyFrom_27 rfl (lv_at hl 1 rfl) ?_
        refine va_get (D := D) (ci := 0) (v := .ref bs2) (C := RX0) (T := TX0) (N := 3) hx hb hts iX0 hown hK hP 3 rfl rfl 1 (by decide) f15 (fun _ h9 => h9) rfl dX0_copyFrom_28 ?_
        refine lv_iload_n hx hb dX0_copyFrom_31 rfl (lv_at hl 2 rfl) ?_
        refine k_iald hx hb hK hP 5 0 rfl rfl i (rfl) (by omega) (by decide) dX0_copyFrom_32 ?_
        refine k_iast hx hb hK hP hD hS 2 0 rfl rfl i (rfl) (by omega) (by decide) dX0_copyFrom_33 (fun H locs hP hD hS => ?_)
        have hP : va_P D vwCl [(b, .inr (0, [.ref bk, .ref bs, .int n0])), (bk, .inl (cI, 12, .inl (upd k1 i (k2 i)))), (bs, .inl (cI, 12, .inl (upd s1 i (s2 i)))), (b2, .inr (0, [.ref bk2, .ref bs2, .int (nI L.length)])), (bk2, .inl (cI, 12, .inl k2)), (bs2, .inl (cI, 12, .inl s2))] H := hP
        have hD : va_D A [(b, .inr (0, [.ref bk, .ref bs, .int n0])), (bk, .inl (cI, 12, .inl (upd k1 i (k2 i)))), (bs, .inl (cI, 12, .inl (upd s1 i (s2 i)))), (b2, .inr (0, [.ref bk2, .ref bs2, .int (nI L.length)])), (bk2, .inl (cI, 12, .inl k2)), (bs2, .inl (cI, 12, .inl s2))] := hD
        refine lv_iinc (v := nI (i + 1)) (lv' := [(2, .int (nI (i + 1))), (0, .ref b), (1, .ref b2)]) hx hb dX0_copyFrom_34 hl (k := 2) rfl (nI_1 _) (by decide) rfl (fun ls hl => ?_)
        refine lv_goto (tgt := 2) hx hb dX0_copyFrom_37 (by decide) ?_
        exact ih (i + 1) (upd k1 i (k2 i)) (upd s1 i (s2 i)) (by omega) (cpy_s hc) (by omega) _ _ (hP.sub [0, 1, 2, 3, 4, 5] (rfl)) (hD.sub [0, 1, 2, 3, 4, 5] (by decide) (rfl)) hS _ (lv_sub hl [1, 2, 0] (rfl))
  exact loop_1 (L.length + 1) 0 k s (Nat.zero_le _) (fun _ h => absurd h (by omega)) (by omega) _ _ (hP.sub [0, 1, 2, 3, 4, 5] (rfl)) (hD.sub [0, 1, 2, 3, 4, 5] (by decide) (rfl)) hS _ (lv_sub hl [1, 2, 0] (rfl))

