abbrev rm_X4_digest : Room := { frames := 6, cells := 1, slots := 13, locals := 136 }
set_option maxHeartbeats 4000000 in
set_option maxRecDepth 100000 in
theorem c_X4_digest (l : Launch) (D : va_G) (cI : ClassId) (mo : Nat) (qi : Nat) (qs : Nat) (qe : Nat) (qn : Nat) (qk : Nat) (tw : Int32) (gi : Nat → Int32) (gs : Nat → Int32) (ge : Nat → Int32) (w : Nat → Int32) (q : St) (kp : Nat → Int32) (hN : rN gi gs ge w q) (hO : okS q) (hmi : stI q < 50000) : kM krl l yX4_digest wsX4_digest rm_X4_digest D [(cI, .int)] [.ref mo] [(mo, .inr (4, [.int tw, .int (nI (stS q)), .int (stM q), .int (nI ((stT q).length)), .ref qi, .ref qs, .ref qe, .ref qn, .ref qk])), (qi, .inl (cI, 6, .inl gi)), (qs, .inl (cI, 6, .inl gs)), (qe, .inl (cI, 6, .inl ge)), (qn, .inl (cI, 42, .inl w)), (qk, .inl (cI, 42, .inl kp))] (fun (r : Int64) (u : (Nat → Int32) × (Nat → Int32)) => r = dgS q ∧ rN gi gs ge u.1 q) (fun (u : (Nat → Int32) × (Nat → Int32)) => [(mo, .inr (4, [.int (nI 0), .int (nI (stS q)), .int (stM q), .int (nI ((stT q).length)), .ref qi, .ref qs, .ref qe, .ref qn, .ref qk])), (qi, .inl (cI, 6, .inl gi)), (qs, .inl (cI, 6, .inl gs)), (qe, .inl (cI, 6, .inl ge)), (qn, .inl (cI, 42, .inl u.1)), (qk, .inl (cI, 42, .inl u.2))]) := by
  refine k_bodyL (cc := cX4_digest) (maxL := 8) (by decide) rfl (Nat.le_of_ble_eq_true rfl) ?_
  intro p e ss m args below meth c A Q F hname hA hG hK hP hD hS ret ls hl
  obtain ⟨hx, hb, hml, hown, hts⟩ := id F
  have hP : va_P D vwCl [(mo, .inr (4, [.int tw, .int (nI (stS q)), .int (stM q), .int (nI ((stT q).length)), .ref qi, .ref qs, .ref qe, .ref qn, .ref qk])), (qi, .inl (cI, 6, .inl gi)), (qs, .inl (cI, 6, .inl gs)), (qe, .inl (cI, 6, .inl ge)), (qn, .inl (cI, 42, .inl w)), (qk, .inl (cI, 42, .inl kp))] ss.heap := hP
  have hD : va_D A [(mo, .inr (4, [.int tw, .int (nI (stS q)), .int (stM q), .int (nI ((stT q).length)), .ref qi, .ref qs, .ref qe, .ref qn, .ref qk])), (qi, .inl (cI, 6, .inl gi)), (qs, .inl (cI, 6, .inl gs)), (qe, .inl (cI, 6, .inl ge)), (qn, .inl (cI, 42, .inl w)), (qk, .inl (cI, 42, .inl kp))] := hD
  have hl : lv_has ls 8 [(0, .ref mo)] := hl
  have iX4 : ∀ w ∈ u_ws RX4 TX4 9, w ∈ wsX4_digest := by decide +kernel
  have f9 := hts (.fieldLink RX4 9 "SmallerTalkModel" "stones" "I") (by decide +kernel)
  have f13 := hts (.fieldLink RX4 13 "SmallerTalkModel" "mesh" "I") (by decide +kernel)
  have f26 := hts (.fieldLink RX4 26 "SmallerTalkModel" "now" "[I") (by decide +kernel)
  have f32 := hts (.fieldLink RX4 32 "SmallerTalkModel" "thrown" "I") (by decide +kernel)
  have f39 := hts (.fieldLink RX4 39 "SmallerTalkModel" "talkers" "I") (by decide +kernel)
  obtain ⟨n0, n1, n2, n3, n4, n5, nB, nT⟩ := id hN
  have h12 := nB.1
  have h6 := nT.1
  refine lv_aload_n hx hb dX4_digest_0 rfl (lv_at hl 0 rfl) ?_
  refine lv_iconst (v := nI 0) hx hb dX4_digest_1 (by decide +kernel) ?_
  refine va_put (D := D) (ci := 4) (v := .int (nI 0)) (ty := .int) (C := RX4) (T := TX4) (N := 9) hx hb hts iX4 tyX4 tyX4_ok nmX4 hown hK hP hD hS 0 rfl rfl 0 (by decide) f32 (fun _ h9 => h9) rfl (by decide +kernel) rfl rfl (Nat.le_of_ble_eq_true rfl) dX4_digest_2 (fun H locs hP hD hS => ?_)
  have hP : va_P D vwCl [(mo, .inr (4, [.int (nI 0), .int (nI (stS q)), .int (stM q), .int (nI ((stT q).length)), .ref qi, .ref qs, .ref qe, .ref qn, .ref qk])), (qi, .inl (cI, 6, .inl gi)), (qs, .inl (cI, 6, .inl gs)), (qe, .inl (cI, 6, .inl ge)), (qn, .inl (cI, 42, .inl w)), (qk, .inl (cI, 42, .inl kp))] H := hP
  have hD : va_D A [(mo, .inr (4, [.int (nI 0), .int (nI (stS q)), .int (stM q), .int (nI ((stT q).length)), .ref qi, .ref qs, .ref qe, .ref qn, .ref qk])), (qi, .inl (cI, 6, .inl gi)), (qs, .inl (cI, 6, .inl gs)), (qe, .inl (cI, 6, .inl ge)), (qn, .inl (cI, 42, .inl w)), (qk, .inl (cI, 42, .inl kp))] := hD
  refine lv_bipush (v := nI 13) hx hb dX4_digest_5 (by decide +kernel) ?_
  refine va_newa (atype := .int) (a0 := (13, .inl (fun _ => 0))) (N' := 13) hx hb (hts (.arrayClass .int) (by decide +kernel)) rfl hK hP hD hS hA (fun _ => rfl) (by decide +kernel) (by decide +kernel) (Nat.le_of_ble_eq_true rfl) (Nat.le_of_ble_eq_true rfl) (Nat.le_of_ble_eq_true rfl) dX4_digest_7 (fun q_1 cA H hK2 hP hD hS => ?_)
  obtain rfl : cI = cA := (k_same hK2).symm
  have hP : va_P D vwCl [(mo, .inr (4, [.int (nI 0), .int (nI (stS q)), .int (stM q), .int (nI ((stT q).length)), .ref qi, .ref qs, .ref qe, .ref qn, .ref qk])), (qi, .inl (cI, 6, .inl gi)), (qs, .inl (cI, 6, .inl gs)), (qe, .inl (cI, 6, .inl ge)), (qn, .inl (cI, 42, .inl w)), (qk, .inl (cI, 42, .inl kp)), (q_1, .inl (cI, 13, .inl (fun _ => 0)))] H := hP
  have hD : va_D A [(mo, .inr (4, [.int (nI 0), .int (nI (stS q)), .int (stM q), .int (nI ((stT q).length)), .ref qi, .ref qs, .ref qe, .ref qn, .ref qk])), (qi, .inl (cI, 6, .inl gi)), (qs, .inl (cI, 6, .inl gs)), (qe, .inl (cI, 6, .inl ge)), (qn, .inl (cI, 42, .inl w)), (qk, .inl (cI, 42, .inl kp)), (q_1, .inl (cI, 13, .inl (fun _ => 0)))] := hD
  refine lv_dup hx hb dX4_digest_9 rfl ?_
  refine lv_iconst (v := nI 0) hx hb dX4_digest_10 (by decide +kernel) ?_
  refine lv_aload_n hx hb dX4_digest_11 rfl (lv_at hl 0 rfl) ?_
  refine va_get (D := D) (ci := 4) (v := .ref qn) (C := RX4) (T := TX4) (N := 9) hx hb hts iX4 hown hK hP 0 rfl rfl 7 (by decide) f26 (fun _ h9 => h9) rfl dX4_digest_12 ?_
  refine lv_iconst (v := nI 0) hx hb dX4_digest_15 (by decide +kernel) ?_
  refine k_iald hx hb hK hP 4 0 rfl rfl 0 (rfl) (by omega) (by decide) dX4_digest_16 ?_
  refine k_top (v := nI (stI q)) (n0) ?_
  refine k_iast hx hb hK hP hD hS 6 0 rfl rfl 0 (rfl) (by omega) (by decide) dX4_digest_17 (fun H locs hP hD hS => ?_)
  have hP : va_P D vwCl [(mo, .inr (4, [.int (nI 0), .int (nI (stS q)), .int (stM q), .int (nI ((stT q).length)), .ref qi, .ref qs, .ref qe, .ref qn, .ref qk])), (qi, .inl (cI, 6, .inl gi)), (qs, .inl (cI, 6, .inl gs)), (qe, .inl (cI, 6, .inl ge)), (qn, .inl (cI, 42, .inl w)), (qk, .inl (cI, 42, .inl kp)), (q_1, .inl (cI, 13, .inl (upd (fun _ => 0) 0 (nI (stI q)))))] H := hP
  have hD : va_D A [(mo, .inr (4, [.int (nI 0), .int (nI (stS q)), .int (stM q), .int (nI ((stT q).length)), .ref qi, .ref qs, .ref qe, .ref qn, .ref qk])), (qi, .inl (cI, 6, .inl gi)), (qs, .inl (cI, 6, .inl gs)), (qe, .inl (cI, 6, .inl ge)), (qn, .inl (cI, 42, .inl w)), (qk, .inl (cI, 42, .inl kp)), (q_1, .inl (cI, 13, .inl (upd (fun _ => 0) 0 (nI (stI q)))))] := hD
  refine lv_dup hx hb dX4_digest_18 rfl ?_
  refine lv_iconst (v := nI 1) hx hb dX4_digest_19 (by decide +kernel) ?_
  refine lv_aload_n hx hb dX4_digest_20 rfl (lv_at hl 0 rfl) ?_
  refine va_get (D := D) (ci := 4) (v := .ref qn) (C := RX4) (T := TX4) (N := 9) hx hb hts iX4 hown hK hP 0 rfl rfl 7 (by decide) f26 (fun _ h9 => h9) rfl dX4_digest_21 ?_
  refine lv_iconst (v := nI 1) hx hb dX4_digest_24 (by decide +kernel) ?_
  refine k_iald hx hb hK hP 4 0 rfl rfl 1 (rfl) (by omega) (by decide) dX4_digest_25 ?_
  refine k_top (v := nI ((stB q).length)) (n1) ?_
  refine k_iast hx hb hK hP hD hS 6 0 rfl rfl 1 (rfl) (by omega) (by decide) dX4_digest_26 (fun H locs hP hD hS => ?_)
  have hP : va_P D vwCl [(mo, .inr (4, [.int (nI 0), .int (nI (stS q)), .int (stM q), .int (nI ((stT q).length)), .ref qi, .ref qs, .ref qe, .ref qn, .ref qk])), (qi, .inl (cI, 6, .inl gi)), (qs, .inl (cI, 6, .inl gs)), (qe, .inl (cI, 6, .inl ge)), (qn, .inl (cI, 42, .inl w)), (qk, .inl (cI, 42, .inl kp)), (q_1, .inl (cI, 13, .inl (upd (upd (fun _ => 0) 0 (nI (stI q))) 1 (nI ((stB q).length)))))] H := hP
  have hD : va_D A [(mo, .inr (4, [.int (nI 0), .int (nI (stS q)), .int (stM q), .int (nI ((stT q).length)), .ref qi, .ref qs, .ref qe, .ref qn, .ref qk])), (qi, .inl (cI, 6, .inl gi)), (qs, .inl (cI, 6, .inl gs)), (qe, .inl (cI, 6, .inl ge)), (qn, .inl (cI, 42, .inl w)), (qk, .inl (cI, 42, .inl kp)), (q_1, .inl (cI, 13, .inl (upd (upd (fun _ => 0) 0 (nI (stI q))) 1 (nI ((stB q).length)))))] := hD
  refine lv_dup hx hb dX4_digest_27 rfl ?_
  refine lv_iconst (v := nI 2) hx hb dX4_digest_28 (by decide +kernel) ?_
  refine lv_aload_n hx hb dX4_digest_29 rfl (lv_at hl 0 rfl) ?_
  refine k_callV (As := []) (rest := [.int (nI 2), .ref q_1, .ref q_1]) (wr := [(qi, .inl (cI, 6, .inl gi)), (qs, .inl (cI, 6, .inl gs)), (qe, .inl (cI, 6, .inl ge)), (qk, .inl (cI, 42, .inl kp)), (q_1, .inl (cI, 13, .inl (upd (upd (fun _ => 0) 0 (nI (stI q))) 1 (nI ((stB q).length)))))]) F (c_X4_noiseNow l D cI mo qi qs qe qn qk (nI 0) (nI (stS q)) (stM q) (nI ((stT q).length)) w (stB q) n1 nB) gX4_digest_X4_noiseNow rfl (nA := 0) (by decide +kernel) rfl ⟨Nat.le_of_ble_eq_true rfl, Nat.le_of_ble_eq_true rfl⟩ hK hP hD hS hA hG (ci := 4) (q0 := 0) rfl rfl rfl [0, 4] [1, 2, 3, 5, 6] rfl (by decide) rfl (by decide) (by decide) [0] rfl rfl hl.1 (Nat.le_of_ble_eq_true rfl) dX4_digest_30 ⟨Nat.le_of_ble_eq_true rfl, Nat.le_of_ble_eq_true rfl⟩ (fun r_2 u H locs hr_30 hP hD hS => ?_)
  try dsimp only at hr_30
  have hP : va_P D vwCl [(qi, .inl (cI, 6, .inl gi)), (qs, .inl (cI, 6, .inl gs)), (qe, .inl (cI, 6, .inl ge)), (qk, .inl (cI, 42, .inl kp)), (q_1, .inl (cI, 13, .inl (upd (upd (fun _ => 0) 0 (nI (stI q))) 1 (nI ((stB q).length))))), (mo, .inr (4, [.int (nI 0), .int (nI (stS q)), .int (stM q), .int (nI ((stT q).length)), .ref qi, .ref qs, .ref qe, .ref qn, .ref qk])), (qn, .inl (cI, 42, .inl w))] H := hP
  have hD : va_D A [(qi, .inl (cI, 6, .inl gi)), (qs, .inl (cI, 6, .inl gs)), (qe, .inl (cI, 6, .inl ge)), (qk, .inl (cI, 42, .inl kp)), (q_1, .inl (cI, 13, .inl (upd (upd (fun _ => 0) 0 (nI (stI q))) 1 (nI ((stB q).length))))), (mo, .inr (4, [.int (nI 0), .int (nI (stS q)), .int (stM q), .int (nI ((stT q).length)), .ref qi, .ref qs, .ref qe, .ref qn, .ref qk])), (qn, .inl (cI, 42, .inl w))] := hD
  refine W.eq (g2 := F0 m 33 ls [.int r_2, .int (nI 2), .ref q_1, .ref q_1]) rfl ?_
  refine W.widen (k := 1) (n := 13) (Nat.le_of_ble_eq_true rfl) (Nat.le_of_ble_eq_true rfl) ?_
  refine k_top (v := nI (ns (stB q))) (hr_30) ?_
  refine k_iast hx hb hK hP hD hS 4 0 rfl rfl 2 (rfl) (by omega) (by decide) dX4_digest_33 (fun H locs hP hD hS => ?_)
  have hP : va_P D vwCl [(qi, .inl (cI, 6, .inl gi)), (qs, .inl (cI, 6, .inl gs)), (qe, .inl (cI, 6, .inl ge)), (qk, .inl (cI, 42, .inl kp)), (q_1, .inl (cI, 13, .inl (upd (upd (upd (fun _ => 0) 0 (nI (stI q))) 1 (nI ((stB q).length))) 2 (nI (ns (stB q)))))), (mo, .inr (4, [.int (nI 0), .int (nI (stS q)), .int (stM q), .int (nI ((stT q).length)), .ref qi, .ref qs, .ref qe, .ref qn, .ref qk])), (qn, .inl (cI, 42, .inl w))] H := hP
  have hD : va_D A [(qi, .inl (cI, 6, .inl gi)), (qs, .inl (cI, 6, .inl gs)), (qe, .inl (cI, 6, .inl ge)), (qk, .inl (cI, 42, .inl kp)), (q_1, .inl (cI, 13, .inl (upd (upd (upd (fun _ => 0) 0 (nI (stI q))) 1 (nI ((stB q).length))) 2 (nI (ns (stB q)))))), (mo, .inr (4, [.int (nI 0), .int (nI (stS q)), .int (stM q), .int (nI ((stT q).length)), .ref qi, .ref qs, .ref qe, .ref qn, .ref qk])), (qn, .inl (cI, 42, .inl w))] := hD
  refine lv_dup hx hb dX4_digest_34 rfl ?_
  refine lv_iconst (v := nI 3) hx hb dX4_digest_35 (by decide +kernel) ?_
  refine lv_aload_n hx hb dX4_digest_36 rfl (lv_at hl 0 rfl) ?_
  refine va_get (D := D) (ci := 4) (v := .ref qn) (C := RX4) (T := TX4) (N := 9) hx hb hts iX4 hown hK hP 5 rfl rfl 7 (by decide) f26 (fun _ h9 => h9) rfl dX4_digest_37 ?_
  refine lv_iconst (v := nI 2) hx hb dX4_digest_40 (by decide +kernel) ?_
  refine k_iald hx hb hK hP 6 0 rfl rfl 2 (rfl) (by omega) (by decide) dX4_digest_41 ?_
  refine k_top (v := nI (stN q)) (n2) ?_
  refine k_iast hx hb hK hP hD hS 4 0 rfl rfl 3 (rfl) (by omega) (by decide) dX4_digest_42 (fun H locs hP hD hS => ?_)
  have hP : va_P D vwCl [(qi, .inl (cI, 6, .inl gi)), (qs, .inl (cI, 6, .inl gs)), (qe, .inl (cI, 6, .inl ge)), (qk, .inl (cI, 42, .inl kp)), (q_1, .inl (cI, 13, .inl (upd (upd (upd (upd (fun _ => 0) 0 (nI (stI q))) 1 (nI ((stB q).length))) 2 (nI (ns (stB q)))) 3 (nI (stN q))))), (mo, .inr (4, [.int (nI 0), .int (nI (stS q)), .int (stM q), .int (nI ((stT q).length)), .ref qi, .ref qs, .ref qe, .ref qn, .ref qk])), (qn, .inl (cI, 42, .inl w))] H := hP
  have hD : va_D A [(qi, .inl (cI, 6, .inl gi)), (qs, .inl (cI, 6, .inl gs)), (qe, .inl (cI, 6, .inl ge)), (qk, .inl (cI, 42, .inl kp)), (q_1, .inl (cI, 13, .inl (upd (upd (upd (upd (fun _ => 0) 0 (nI (stI q))) 1 (nI ((stB q).length))) 2 (nI (ns (stB q)))) 3 (nI (stN q))))), (mo, .inr (4, [.int (nI 0), .int (nI (stS q)), .int (stM q), .int (nI ((stT q).length)), .ref qi, .ref qs, .ref qe, .ref qn, .ref qk])), (qn, .inl (cI, 42, .inl w))] := hD
  refine lv_dup hx hb dX4_digest_43 rfl ?_
  refine lv_iconst (v := nI 4) hx hb dX4_digest_44 (by decide +kernel) ?_
  refine lv_aload_n hx hb dX4_digest_45 rfl (lv_at hl 0 rfl) ?_
  refine va_get (D := D) (ci := 4) (v := .ref qn) (C := RX4) (T := TX4) (N := 9) hx hb hts iX4 hown hK hP 5 rfl rfl 7 (by decide) f26 (fun _ h9 => h9) rfl dX4_digest_46 ?_
  refine lv_iconst (v := nI 3) hx hb dX4_digest_49 (by decide +kernel) ?_
  refine k_iald hx hb hK hP 6 0 rfl rfl 3 (rfl) (by omega) (by decide) dX4_digest_50 ?_
  refine k_top (v := stO q) (n3) ?_
  refine k_iast hx hb hK hP hD hS 4 0 rfl rfl 4 (rfl) (by omega) (by decide) dX4_digest_51 (fun H locs hP hD hS => ?_)
  have hP : va_P D vwCl [(qi, .inl (cI, 6, .inl gi)), (qs, .inl (cI, 6, .inl gs)), (qe, .inl (cI, 6, .inl ge)), (qk, .inl (cI, 42, .inl kp)), (q_1, .inl (cI, 13, .inl (upd (upd (upd (upd (upd (fun _ => 0) 0 (nI (stI q))) 1 (nI ((stB q).length))) 2 (nI (ns (stB q)))) 3 (nI (stN q))) 4 (stO q)))), (mo, .inr (4, [.int (nI 0), .int (nI (stS q)), .int (stM q), .int (nI ((stT q).length)), .ref qi, .ref qs, .ref qe, .ref qn, .ref qk])), (qn, .inl (cI, 42, .inl w))] H := hP
  have hD : va_D A [(qi, .inl (cI, 6, .inl gi)), (qs, .inl (cI, 6, .inl gs)), (qe, .inl (cI, 6, .inl ge)), (qk, .inl (cI, 42, .inl kp)), (q_1, .inl (cI, 13, .inl (upd (upd (upd (upd (upd (fun _ => 0) 0 (nI (stI q))) 1 (nI ((stB q).length))) 2 (nI (ns (stB q)))) 3 (nI (stN q))) 4 (stO q)))), (mo, .inr (4, [.int (nI 0), .int (nI (stS q)), .int (stM q), .int (nI ((stT q).length)), .ref qi, .ref qs, .ref qe, .ref qn, .ref qk])), (qn, .inl (cI, 42, .inl w))] := hD
  refine lv_dup hx hb dX4_digest_52 rfl ?_
  refine lv_iconst (v := nI 5) hx hb dX4_digest_53 (by decide +kernel) ?_
  refine lv_aload_n hx hb dX4_digest_54 rfl (lv_at hl 0 rfl) ?_
  refine va_get (D := D) (ci := 4) (v := .ref qn) (C := RX4) (T := TX4) (N := 9) hx hb hts iX4 hown hK hP 5 rfl rfl 7 (by decide) f26 (fun _ h9 => h9) rfl dX4_digest_55 ?_
  refine lv_iconst (v := nI 4) hx hb dX4_digest_58 (by decide +kernel) ?_
  refine k_iald hx hb hK hP 6 0 rfl rfl 4 (rfl) (by omega) (by decide) dX4_digest_59 ?_
  refine k_top (v := stV q) (n4) ?_
  refine k_iast hx hb hK hP hD hS 4 0 rfl rfl 5 (rfl) (by omega) (by decide) dX4_digest_60 (fun H locs hP hD hS => ?_)
  have hP : va_P D vwCl [(qi, .inl (cI, 6, .inl gi)), (qs, .inl (cI, 6, .inl gs)), (qe, .inl (cI, 6, .inl ge)), (qk, .inl (cI, 42, .inl kp)), (q_1, .inl (cI, 13, .inl (upd (upd (upd (upd (upd (upd (fun _ => 0) 0 (nI (stI q))) 1 (nI ((stB q).length))) 2 (nI (ns (stB q)))) 3 (nI (stN q))) 4 (stO q)) 5 (stV q)))), (mo, .inr (4, [.int (nI 0), .int (nI (stS q)), .int (stM q), .int (nI ((stT q).length)), .ref qi, .ref qs, .ref qe, .ref qn, .ref qk])), (qn, .inl (cI, 42, .inl w))] H := hP
  have hD : va_D A [(qi, .inl (cI, 6, .inl gi)), (qs, .inl (cI, 6, .inl gs)), (qe, .inl (cI, 6, .inl ge)), (qk, .inl (cI, 42, .inl kp)), (q_1, .inl (cI, 13, .inl (upd (upd (upd (upd (upd (upd (fun _ => 0) 0 (nI (stI q))) 1 (nI ((stB q).length))) 2 (nI (ns (stB q)))) 3 (nI (stN q))) 4 (stO q)) 5 (stV q)))), (mo, .inr (4, [.int (nI 0), .int (nI (stS q)), .int (stM q), .int (nI ((stT q).length)), .ref qi, .ref qs, .ref qe, .ref qn, .ref qk])), (qn, .inl (cI, 42, .inl w))] := hD
  refine lv_dup hx hb dX4_digest_61 rfl ?_
  refine lv_bipush (v := nI 6) hx hb dX4_digest_62 (by decide +kernel) ?_
  refine lv_aload_n hx hb dX4_digest_64 rfl (lv_at hl 0 rfl) ?_
  refine va_get (D := D) (ci := 4) (v := .ref qn) (C := RX4) (T := TX4) (N := 9) hx hb hts iX4 hown hK hP 5 rfl rfl 7 (by decide) f26 (fun _ h9 => h9) rfl dX4_digest_65 ?_
  refine lv_iconst (v := nI 5) hx hb dX4_digest_68 (by decide +kernel) ?_
  refine k_iald hx hb hK hP 6 0 rfl rfl 5 (rfl) (by omega) (by decide) dX4_digest_69 ?_
  refine k_top (v := nI (stG q)) (n5) ?_
  refine k_iast hx hb hK hP hD hS 4 0 rfl rfl 6 (rfl) (by omega) (by decide) dX4_digest_70 (fun H locs hP hD hS => ?_)
  have hP : va_P D vwCl [(qi, .inl (cI, 6, .inl gi)), (qs, .inl (cI, 6, .inl gs)), (qe, .inl (cI, 6, .inl ge)), (qk, .inl (cI, 42, .inl kp)), (q_1, .inl (cI, 13, .inl (upd (upd (upd (upd (upd (upd (upd (fun _ => 0) 0 (nI (stI q))) 1 (nI ((stB q).length))) 2 (nI (ns (stB q)))) 3 (nI (stN q))) 4 (stO q)) 5 (stV q)) 6 (nI (stG q))))), (mo, .inr (4, [.int (nI 0), .int (nI (stS q)), .int (stM q), .int (nI ((stT q).length)), .ref qi, .ref qs, .ref qe, .ref qn, .ref qk])), (qn, .inl (cI, 42, .inl w))] H := hP
  have hD : va_D A [(qi, .inl (cI, 6, .inl gi)), (qs, .inl (cI, 6, .inl gs)), (qe, .inl (cI, 6, .inl ge)), (qk, .inl (cI, 42, .inl kp)), (q_1, .inl (cI, 13, .inl (upd (upd (upd (upd (upd (upd (upd (fun _ => 0) 0 (nI (stI q))) 1 (nI ((stB q).length))) 2 (nI (ns (stB q)))) 3 (nI (stN q))) 4 (stO q)) 5 (stV q)) 6 (nI (stG q))))), (mo, .inr (4, [.int (nI 0), .int (nI (stS q)), .int (stM q), .int (nI ((stT q).length)), .ref qi, .ref qs, .ref qe, .ref qn, .ref qk])), (qn, .inl (cI, 42, .inl w))] := hD
  refine lv_dup hx hb dX4_digest_71 rfl ?_
  refine lv_bipush (v := nI 7) hx hb dX4_digest_72 (by decide +kernel) ?_
  refine lv_aload_n hx hb dX4_digest_74 rfl (lv_at hl 0 rfl) ?_
  refine va_get (D := D) (ci := 4) (v := .int (nI (stS q))) (C := RX4) (T := TX4) (N := 9) hx hb hts iX4 hown hK hP 5 rfl rfl 1 (by decide) f9 (fun _ h9 => h9) rfl dX4_digest_75 ?_
  refine k_iast hx hb hK hP hD hS 4 0 rfl rfl 7 (rfl) (by omega) (by decide) dX4_digest_78 (fun H locs hP hD hS => ?_)
  have hP : va_P D vwCl [(qi, .inl (cI, 6, .inl gi)), (qs, .inl (cI, 6, .inl gs)), (qe, .inl (cI, 6, .inl ge)), (qk, .inl (cI, 42, .inl kp)), (q_1, .inl (cI, 13, .inl (upd (upd (upd (upd (upd (upd (upd (upd (fun _ => 0) 0 (nI (stI q))) 1 (nI ((stB q).length))) 2 (nI (ns (stB q)))) 3 (nI (stN q))) 4 (stO q)) 5 (stV q)) 6 (nI (stG q))) 7 (nI (stS q))))), (mo, .inr (4, [.int (nI 0), .int (nI (stS q)), .int (stM q), .int (nI ((stT q).length)), .ref qi, .ref qs, .ref qe, .ref qn, .ref qk])), (qn, .inl (cI, 42, .inl w))] H := hP
  have hD : va_D A [(qi, .inl (cI, 6, .inl gi)), (qs, .inl (cI, 6, .inl gs)), (qe, .inl (cI, 6, .inl ge)), (qk, .inl (cI, 42, .inl kp)), (q_1, .inl (cI, 13, .inl (upd (upd (upd (upd (upd (upd (upd (upd (fun _ => 0) 0 (nI (stI q))) 1 (nI ((stB q).length))) 2 (nI (ns (stB q)))) 3 (nI (stN q))) 4 (stO q)) 5 (stV q)) 6 (nI (stG q))) 7 (nI (stS q))))), (mo, .inr (4, [.int (nI 0), .int (nI (stS q)), .int (stM q), .int (nI ((stT q).length)), .ref qi, .ref qs, .ref qe, .ref qn, .ref qk])), (qn, .inl (cI, 42, .inl w))] := hD
  refine lv_dup hx hb dX4_digest_79 rfl ?_
  refine lv_bipush (v := nI 8) hx hb dX4_digest_80 (by decide +kernel) ?_
  refine lv_aload_n hx hb dX4_digest_82 rfl (lv_at hl 0 rfl) ?_
  refine va_get (D := D) (ci := 4) (v := .int (stM q)) (C := RX4) (T := TX4) (N := 9) hx hb hts iX4 hown hK hP 5 rfl rfl 2 (by decide) f13 (fun _ h9 => h9) rfl dX4_digest_83 ?_
  refine k_iast hx hb hK hP hD hS 4 0 rfl rfl 8 (rfl) (by omega) (by decide) dX4_digest_86 (fun H locs hP hD hS => ?_)
  have hP : va_P D vwCl [(qi, .inl (cI, 6, .inl gi)), (qs, .inl (cI, 6, .inl gs)), (qe, .inl (cI, 6, .inl ge)), (qk, .inl (cI, 42, .inl kp)), (q_1, .inl (cI, 13, .inl (upd (upd (upd (upd (upd (upd (upd (upd (upd (fun _ => 0) 0 (nI (stI q))) 1 (nI ((stB q).length))) 2 (nI (ns (stB q)))) 3 (nI (stN q))) 4 (stO q)) 5 (stV q)) 6 (nI (stG q))) 7 (nI (stS q))) 8 (stM q)))), (mo, .inr (4, [.int (nI 0), .int (nI (stS q)), .int (stM q), .int (nI ((stT q).length)), .ref qi, .ref qs, .ref qe, .ref qn, .ref qk])), (qn, .inl (cI, 42, .inl w))] H := hP
  have hD : va_D A [(qi, .inl (cI, 6, .inl gi)), (qs, .inl (cI, 6, .inl gs)), (qe, .inl (cI, 6, .inl ge)), (qk, .inl (cI, 42, .inl kp)), (q_1, .inl (cI, 13, .inl (upd (upd (upd (upd (upd (upd (upd (upd (upd (fun _ => 0) 0 (nI (stI q))) 1 (nI ((stB q).length))) 2 (nI (ns (stB q)))) 3 (nI (stN q))) 4 (stO q)) 5 (stV q)) 6 (nI (stG q))) 7 (nI (stS q))) 8 (stM q)))), (mo, .inr (4, [.int (nI 0), .int (nI (stS q)), .int (stM q), .int (nI ((stT q).length)), .ref qi, .ref qs, .ref qe, .ref qn, .ref qk])), (qn, .inl (cI, 42, .inl w))] := hD
  refine lv_dup hx hb dX4_digest_87 rfl ?_
  refine lv_bipush (v := nI 9) hx hb dX4_digest_88 (by decide +kernel) ?_
  refine lv_aload_n hx hb dX4_digest_90 rfl (lv_at hl 0 rfl) ?_
  refine va_get (D := D) (ci := 4) (v := .int (nI ((stT q).length))) (C := RX4) (T := TX4) (N := 9) hx hb hts iX4 hown hK hP 5 rfl rfl 3 (by decide) f39 (fun _ h9 => h9) rfl dX4_digest_91 ?_
  refine k_iast hx hb hK hP hD hS 4 0 rfl rfl 9 (rfl) (by omega) (by decide) dX4_digest_94 (fun H locs hP hD hS => ?_)
  have hP : va_P D vwCl [(qi, .inl (cI, 6, .inl gi)), (qs, .inl (cI, 6, .inl gs)), (qe, .inl (cI, 6, .inl ge)), (qk, .inl (cI, 42, .inl kp)), (q_1, .inl (cI, 13, .inl (upd (upd (upd (upd (upd (upd (upd (upd (upd (upd (fun _ => 0) 0 (nI (stI q))) 1 (nI ((stB q).length))) 2 (nI (ns (stB q)))) 3 (nI (stN q))) 4 (stO q)) 5 (stV q)) 6 (nI (stG q))) 7 (nI (stS q))) 8 (stM q)) 9 (nI ((stT q).length))))), (mo, .inr (4, [.int (nI 0), .int (nI (stS q)), .int (stM q), .int (nI ((stT q).length)), .ref qi, .ref qs, .ref qe, .ref qn, .ref qk])), (qn, .inl (cI, 42, .inl w))] H := hP
  have hD : va_D A [(qi, .inl (cI, 6, .inl gi)), (qs, .inl (cI, 6, .inl gs)), (qe, .inl (cI, 6, .inl ge)), (qk, .inl (cI, 42, .inl kp)), (q_1, .inl (cI, 13, .inl (upd (upd (upd (upd (upd (upd (upd (upd (upd (upd (fun _ => 0) 0 (nI (stI q))) 1 (nI ((stB q).length))) 2 (nI (ns (stB q)))) 3 (nI (stN q))) 4 (stO q)) 5 (stV q)) 6 (nI (stG q))) 7 (nI (stS q))) 8 (stM q)) 9 (nI ((stT q).length))))), (mo, .inr (4, [.int (nI 0), .int (nI (stS q)), .int (stM q), .int (nI ((stT q).length)), .ref qi, .ref qs, .ref qe, .ref qn, .ref qk])), (qn, .inl (cI, 42, .inl w))] := hD
  refine lv_dup hx hb dX4_digest_95 rfl ?_
  refine lv_bipush (v := nI 10) hx hb dX4_digest_96 (by decide +kernel) ?_
  refine lv_aload_n hx hb dX4_digest_98 rfl (lv_at hl 0 rfl) ?_
  refine k_callV (As := []) (rest := [.int (nI 10), .ref q_1, .ref q_1]) (wr := [(qk, .inl (cI, 42, .inl kp)), (q_1, .inl (cI, 13, .inl (upd (upd (upd (upd (upd (upd (upd (upd (upd (upd (fun _ => 0) 0 (nI (stI q))) 1 (nI ((stB q).length))) 2 (nI (ns (stB q)))) 3 (nI (stN q))) 4 (stO q)) 5 (stV q)) 6 (nI (stG q))) 7 (nI (stS q))) 8 (stM q)) 9 (nI ((stT q).length)))))]) F (c_X4_there l D cI mo qi qs qe qn qk (nI 0) gi gs ge w q hN) gX4_digest_X4_there rfl (nA := 0) (by decide +kernel) rfl ⟨Nat.le_of_ble_eq_true rfl, Nat.le_of_ble_eq_true rfl⟩ hK hP hD hS hA hG (ci := 4) (q0 := 5) rfl rfl rfl [5, 0, 1, 2, 6] [3, 4] rfl (by decide) rfl (by decide) (by decide) [0] rfl rfl hl.1 (Nat.le_of_ble_eq_true rfl) dX4_digest_99 ⟨Nat.le_of_ble_eq_true rfl, Nat.le_of_ble_eq_true rfl⟩ (fun r_3 u H locs hr_99 hP hD hS => ?_)
  try dsimp only at hr_99
  have hP : va_P D vwCl [(qk, .inl (cI, 42, .inl kp)), (q_1, .inl (cI, 13, .inl (upd (upd (upd (upd (upd (upd (upd (upd (upd (upd (fun _ => 0) 0 (nI (stI q))) 1 (nI ((stB q).length))) 2 (nI (ns (stB q)))) 3 (nI (stN q))) 4 (stO q)) 5 (stV q)) 6 (nI (stG q))) 7 (nI (stS q))) 8 (stM q)) 9 (nI ((stT q).length))))), (mo, .inr (4, [.int (nI 0), .int (nI (stS q)), .int (stM q), .int (nI ((stT q).length)), .ref qi, .ref qs, .ref qe, .ref qn, .ref qk])), (qi, .inl (cI, 6, .inl gi)), (qs, .inl (cI, 6, .inl gs)), (qe, .inl (cI, 6, .inl ge)), (qn, .inl (cI, 42, .inl w))] H := hP
  have hD : va_D A [(qk, .inl (cI, 42, .inl kp)), (q_1, .inl (cI, 13, .inl (upd (upd (upd (upd (upd (upd (upd (upd (upd (upd (fun _ => 0) 0 (nI (stI q))) 1 (nI ((stB q).length))) 2 (nI (ns (stB q)))) 3 (nI (stN q))) 4 (stO q)) 5 (stV q)) 6 (nI (stG q))) 7 (nI (stS q))) 8 (stM q)) 9 (nI ((stT q).length))))), (mo, .inr (4, [.int (nI 0), .int (nI (stS q)), .int (stM q), .int (nI ((stT q).length)), .ref qi, .ref qs, .ref qe, .ref qn, .ref qk])), (qi, .inl (cI, 6, .inl gi)), (qs, .inl (cI, 6, .inl gs)), (qe, .inl (cI, 6, .inl ge)), (qn, .inl (cI, 42, .inl w))] := hD
  refine W.eq (g2 := F0 m 102 ls [.int r_3, .int (nI 10), .ref q_1, .ref q_1]) rfl ?_
  refine W.widen (k := 1) (n := 13) (Nat.le_of_ble_eq_true rfl) (Nat.le_of_ble_eq_true rfl) ?_
  refine k_top (v := nI (ctT (stT q))) (hr_99) ?_
  refine k_iast hx hb hK hP hD hS 1 0 rfl rfl 10 (rfl) (by omega) (by decide) dX4_digest_102 (fun H locs hP hD hS => ?_)
  have hP : va_P D vwCl [(qk, .inl (cI, 42, .inl kp)), (q_1, .inl (cI, 13, .inl (upd (upd (upd (upd (upd (upd (upd (upd (upd (upd (upd (fun _ => 0) 0 (nI (stI q))) 1 (nI ((stB q).length))) 2 (nI (ns (stB q)))) 3 (nI (stN q))) 4 (stO q)) 5 (stV q)) 6 (nI (stG q))) 7 (nI (stS q))) 8 (stM q)) 9 (nI ((stT q).length))) 10 (nI (ctT (stT q)))))), (mo, .inr (4, [.int (nI 0), .int (nI (stS q)), .int (stM q), .int (nI ((stT q).length)), .ref qi, .ref qs, .ref qe, .ref qn, .ref qk])), (qi, .inl (cI, 6, .inl gi)), (qs, .inl (cI, 6, .inl gs)), (qe, .inl (cI, 6, .inl ge)), (qn, .inl (cI, 42, .inl w))] H := hP
  have hD : va_D A [(qk, .inl (cI, 42, .inl kp)), (q_1, .inl (cI, 13, .inl (upd (upd (upd (upd (upd (upd (upd (upd (upd (upd (upd (fun _ => 0) 0 (nI (stI q))) 1 (nI ((stB q).length))) 2 (nI (ns (stB q)))) 3 (nI (stN q))) 4 (stO q)) 5 (stV q)) 6 (nI (stG q))) 7 (nI (stS q))) 8 (stM q)) 9 (nI ((stT q).length))) 10 (nI (ctT (stT q)))))), (mo, .inr (4, [.int (nI 0), .int (nI (stS q)), .int (stM q), .int (nI ((stT q).length)), .ref qi, .ref qs, .ref qe, .ref qn, .ref qk])), (qi, .inl (cI, 6, .inl gi)), (qs, .inl (cI, 6, .inl gs)), (qe, .inl (cI, 6, .inl ge)), (qn, .inl (cI, 42, .inl w))] := hD
  refine lv_dup hx hb dX4_digest_103 rfl ?_
  refine lv_bipush (v := nI 11) hx hb dX4_digest_104 (by decide +kernel) ?_
  refine lv_aload_n hx hb dX4_digest_106 rfl (lv_at hl 0 rfl) ?_
  refine k_callV (As := []) (rest := [.int (nI 11), .ref q_1, .ref q_1]) (wr := [(q_1, .inl (cI, 13, .inl (upd (upd (upd (upd (upd (upd (upd (upd (upd (upd (upd (fun _ => 0) 0 (nI (stI q))) 1 (nI ((stB q).length))) 2 (nI (ns (stB q)))) 3 (nI (stN q))) 4 (stO q)) 5 (stV q)) 6 (nI (stG q))) 7 (nI (stS q))) 8 (stM q)) 9 (nI ((stT q).length))) 10 (nI (ctT (stT q))))))]) F (c_X4_gearBest l D cI mo qi qs qe qn qk (nI 0) gi gs ge w q kp hN hO hmi) gX4_digest_X4_gearBest rfl (nA := 0) (by decide +kernel) rfl ⟨Nat.le_of_ble_eq_true rfl, Nat.le_of_ble_eq_true rfl⟩ hK hP hD hS hA hG (ci := 4) (q0 := 2) rfl rfl rfl [2, 3, 4, 5, 6, 0] [1] rfl (by decide) rfl (by decide) (by decide) [0] rfl rfl hl.1 (Nat.le_of_ble_eq_true rfl) dX4_digest_107 ⟨Nat.le_of_ble_eq_true rfl, Nat.le_of_ble_eq_true rfl⟩ (fun r_4 u H locs hr_107 hP hD hS => ?_)
  obtain ⟨w2, k2⟩ := u
  try dsimp only at hr_107
  have hP : va_P D vwCl [(q_1, .inl (cI, 13, .inl (upd (upd (upd (upd (upd (upd (upd (upd (upd (upd (upd (fun _ => 0) 0 (nI (stI q))) 1 (nI ((stB q).length))) 2 (nI (ns (stB q)))) 3 (nI (stN q))) 4 (stO q)) 5 (stV q)) 6 (nI (stG q))) 7 (nI (stS q))) 8 (stM q)) 9 (nI ((stT q).length))) 10 (nI (ctT (stT q)))))), (mo, .inr (4, [.int (nI 0), .int (nI (stS q)), .int (stM q), .int (nI ((stT q).length)), .ref qi, .ref qs, .ref qe, .ref qn, .ref qk])), (qi, .inl (cI, 6, .inl gi)), (qs, .inl (cI, 6, .inl gs)), (qe, .inl (cI, 6, .inl ge)), (qn, .inl (cI, 42, .inl w2)), (qk, .inl (cI, 42, .inl k2))] H := hP
  have hD : va_D A [(q_1, .inl (cI, 13, .inl (upd (upd (upd (upd (upd (upd (upd (upd (upd (upd (upd (fun _ => 0) 0 (nI (stI q))) 1 (nI ((stB q).length))) 2 (nI (ns (stB q)))) 3 (nI (stN q))) 4 (stO q)) 5 (stV q)) 6 (nI (stG q))) 7 (nI (stS q))) 8 (stM q)) 9 (nI ((stT q).length))) 10 (nI (ctT (stT q)))))), (mo, .inr (4, [.int (nI 0), .int (nI (stS q)), .int (stM q), .int (nI ((stT q).length)), .ref qi, .ref qs, .ref qe, .ref qn, .ref qk])), (qi, .inl (cI, 6, .inl gi)), (qs, .inl (cI, 6, .inl gs)), (qe, .inl (cI, 6, .inl ge)), (qn, .inl (cI, 42, .inl w2)), (qk, .inl (cI, 42, .inl k2))] := hD
  refine W.eq (g2 := F0 m 110 ls [.int r_4, .int (nI 11), .ref q_1, .ref q_1]) rfl ?_
  refine W.widen (k := 1) (n := 13) (Nat.le_of_ble_eq_true rfl) (Nat.le_of_ble_eq_true rfl) ?_
  refine k_top (v := bgS q) (hr_107.1) ?_
  refine k_iast hx hb hK hP hD hS 0 0 rfl rfl 11 (rfl) (by omega) (by decide) dX4_digest_110 (fun H locs hP hD hS => ?_)
  have hP : va_P D vwCl [(q_1, .inl (cI, 13, .inl (upd (upd (upd (upd (upd (upd (upd (upd (upd (upd (upd (upd (fun _ => 0) 0 (nI (stI q))) 1 (nI ((stB q).length))) 2 (nI (ns (stB q)))) 3 (nI (stN q))) 4 (stO q)) 5 (stV q)) 6 (nI (stG q))) 7 (nI (stS q))) 8 (stM q)) 9 (nI ((stT q).length))) 10 (nI (ctT (stT q)))) 11 (bgS q)))), (mo, .inr (4, [.int (nI 0), .int (nI (stS q)), .int (stM q), .int (nI ((stT q).length)), .ref qi, .ref qs, .ref qe, .ref qn, .ref qk])), (qi, .inl (cI, 6, .inl gi)), (qs, .inl (cI, 6, .inl gs)), (qe, .inl (cI, 6, .inl ge)), (qn, .inl (cI, 42, .inl w2)), (qk, .inl (cI, 42, .inl k2))] H := hP
  have hD : va_D A [(q_1, .inl (cI, 13, .inl (upd (upd (upd (upd (upd (upd (upd (upd (upd (upd (upd (upd (fun _ => 0) 0 (nI (stI q))) 1 (nI ((stB q).length))) 2 (nI (ns (stB q)))) 3 (nI (stN q))) 4 (stO q)) 5 (stV q)) 6 (nI (stG q))) 7 (nI (stS q))) 8 (stM q)) 9 (nI ((stT q).length))) 10 (nI (ctT (stT q)))) 11 (bgS q)))), (mo, .inr (4, [.int (nI 0), .int (nI (stS q)), .int (stM q), .int (nI ((stT q).length)), .ref qi, .ref qs, .ref qe, .ref qn, .ref qk])), (qi, .inl (cI, 6, .inl gi)), (qs, .inl (cI, 6, .inl gs)), (qe, .inl (cI, 6, .inl ge)), (qn, .inl (cI, 42, .inl w2)), (qk, .inl (cI, 42, .inl k2))] := hD
  refine lv_dup hx hb dX4_digest_111 rfl ?_
  refine lv_bipush (v := nI 12) hx hb dX4_digest_112 (by decide +kernel) ?_
  refine lv_aload_n hx hb dX4_digest_114 rfl (lv_at hl 0 rfl) ?_
  refine k_callV (As := []) (rest := [.int (nI 12), .ref q_1, .ref q_1]) (wr := [(q_1, .inl (cI, 13, .inl (upd (upd (upd (upd (upd (upd (upd (upd (upd (upd (upd (upd (fun _ => 0) 0 (nI (stI q))) 1 (nI ((stB q).length))) 2 (nI (ns (stB q)))) 3 (nI (stN q))) 4 (stO q)) 5 (stV q)) 6 (nI (stG q))) 7 (nI (stS q))) 8 (stM q)) 9 (nI ((stT q).length))) 10 (nI (ctT (stT q)))) 11 (bgS q))))]) F (c_X4_pushBest l D cI mo qi qs qe qn qk (nI 0) gi gs ge w2 q k2 hr_107.2 hO hmi) gX4_digest_X4_pushBest rfl (nA := 0) (by decide +kernel) rfl ⟨Nat.le_of_ble_eq_true rfl, Nat.le_of_ble_eq_true rfl⟩ hK hP hD hS hA hG (ci := 4) (q0 := 1) rfl rfl rfl [1, 2, 3, 4, 5, 6] [0] rfl (by decide) rfl (by decide) (by decide) [0] rfl rfl hl.1 (Nat.le_of_ble_eq_true rfl) dX4_digest_115 ⟨Nat.le_of_ble_eq_true rfl, Nat.le_of_ble_eq_true rfl⟩ (fun r_5 u H locs hr_115 hP hD hS => ?_)
  obtain ⟨w3, k3⟩ := u
  try dsimp only at hr_115
  have hP : va_P D vwCl [(q_1, .inl (cI, 13, .inl (upd (upd (upd (upd (upd (upd (upd (upd (upd (upd (upd (upd (fun _ => 0) 0 (nI (stI q))) 1 (nI ((stB q).length))) 2 (nI (ns (stB q)))) 3 (nI (stN q))) 4 (stO q)) 5 (stV q)) 6 (nI (stG q))) 7 (nI (stS q))) 8 (stM q)) 9 (nI ((stT q).length))) 10 (nI (ctT (stT q)))) 11 (bgS q)))), (mo, .inr (4, [.int (nI 0), .int (nI (stS q)), .int (stM q), .int (nI ((stT q).length)), .ref qi, .ref qs, .ref qe, .ref qn, .ref qk])), (qi, .inl (cI, 6, .inl gi)), (qs, .inl (cI, 6, .inl gs)), (qe, .inl (cI, 6, .inl ge)), (qn, .inl (cI, 42, .inl w3)), (qk, .inl (cI, 42, .inl k3))] H := hP
  have hD : va_D A [(q_1, .inl (cI, 13, .inl (upd (upd (upd (upd (upd (upd (upd (upd (upd (upd (upd (upd (fun _ => 0) 0 (nI (stI q))) 1 (nI ((stB q).length))) 2 (nI (ns (stB q)))) 3 (nI (stN q))) 4 (stO q)) 5 (stV q)) 6 (nI (stG q))) 7 (nI (stS q))) 8 (stM q)) 9 (nI ((stT q).length))) 10 (nI (ctT (stT q)))) 11 (bgS q)))), (mo, .inr (4, [.int (nI 0), .int (nI (stS q)), .int (stM q), .int (nI ((stT q).length)), .ref qi, .ref qs, .ref qe, .ref qn, .ref qk])), (qi, .inl (cI, 6, .inl gi)), (qs, .inl (cI, 6, .inl gs)), (qe, .inl (cI, 6, .inl ge)), (qn, .inl (cI, 42, .inl w3)), (qk, .inl (cI, 42, .inl k3))] := hD
  refine W.eq (g2 := F0 m 118 ls [.int r_5, .int (nI 12), .ref q_1, .ref q_1]) rfl ?_
  refine W.widen (k := 1) (n := 13) (Nat.le_of_ble_eq_true rfl) (Nat.le_of_ble_eq_true rfl) ?_
  refine k_top (v := bpS q) (hr_115.1) ?_
  obtain ⟨m0, m1, m2, m3, m4, m5, mB, mT⟩ := id hr_115.2
  refine k_iast hx hb hK hP hD hS 0 0 rfl rfl 12 (rfl) (by omega) (by decide) dX4_digest_118 (fun H locs hP hD hS => ?_)
  have hP : va_P D vwCl [(q_1, .inl (cI, 13, .inl (upd (upd (upd (upd (upd (upd (upd (upd (upd (upd (upd (upd (upd (fun _ => 0) 0 (nI (stI q))) 1 (nI ((stB q).length))) 2 (nI (ns (stB q)))) 3 (nI (stN q))) 4 (stO q)) 5 (stV q)) 6 (nI (stG q))) 7 (nI (stS q))) 8 (stM q)) 9 (nI ((stT q).length))) 10 (nI (ctT (stT q)))) 11 (bgS q)) 12 (bpS q)))), (mo, .inr (4, [.int (nI 0), .int (nI (stS q)), .int (stM q), .int (nI ((stT q).length)), .ref qi, .ref qs, .ref qe, .ref qn, .ref qk])), (qi, .inl (cI, 6, .inl gi)), (qs, .inl (cI, 6, .inl gs)), (qe, .inl (cI, 6, .inl ge)), (qn, .inl (cI, 42, .inl w3)), (qk, .inl (cI, 42, .inl k3))] H := hP
  have hD : va_D A [(q_1, .inl (cI, 13, .inl (upd (upd (upd (upd (upd (upd (upd (upd (upd (upd (upd (upd (upd (fun _ => 0) 0 (nI (stI q))) 1 (nI ((stB q).length))) 2 (nI (ns (stB q)))) 3 (nI (stN q))) 4 (stO q)) 5 (stV q)) 6 (nI (stG q))) 7 (nI (stS q))) 8 (stM q)) 9 (nI ((stT q).length))) 10 (nI (ctT (stT q)))) 11 (bgS q)) 12 (bpS q)))), (mo, .inr (4, [.int (nI 0), .int (nI (stS q)), .int (stM q), .int (nI ((stT q).length)), .ref qi, .ref qs, .ref qe, .ref qn, .ref qk])), (qi, .inl (cI, 6, .inl gi)), (qs, .inl (cI, 6, .inl gs)), (qe, .inl (cI, 6, .inl ge)), (qn, .inl (cI, 42, .inl w3)), (qk, .inl (cI, 42, .inl k3))] := hD
  obtain ⟨fa, efa⟩ : ∃ z, z = upd (upd (upd (upd (upd (upd (upd (upd (upd (upd (upd (upd (upd (fun _ => 0) 0 (nI (stI q))) 1 (nI ((stB q).length))) 2 (nI (ns (stB q)))) 3 (nI (stN q))) 4 (stO q)) 5 (stV q)) 6 (nI (stG q))) 7 (nI (stS q))) 8 (stM q)) 9 (nI ((stT q).length))) 10 (nI (ctT (stT q)))) 11 (bgS q)) 12 (bpS q) := ⟨_, rfl⟩
  rw [← efa] at hP hD
  refine lv_astore_n (lv' := [(1, .ref q_1), (0, .ref mo)]) hx hb dX4_digest_119 rfl hl (by decide) rfl (fun ls hl => ?_)
  refine lv_ldc2 (v := 2039) hx hb hown (hts (.constantLong RX4 121 (2039)) (by decide +kernel)) dX4_digest_120 ?_
  refine lv_lstore_n (lv' := [(2, .long 2039), (1, .ref q_1), (0, .ref mo)]) hx hb dX4_digest_123 rfl hl (by decide) rfl (fun ls hl => ?_)
  refine lv_aload_n hx hb dX4_digest_124 rfl (lv_at hl 1 rfl) ?_
  refine lv_astore (lv' := [(4, .ref q_1), (2, .long 2039), (1, .ref q_1), (0, .ref mo)]) hx hb dX4_digest_125 hl (by decide) rfl (fun ls hl => ?_)
  refine lv_aload hx hb dX4_digest_127 (lv_at hl 0 rfl) ?_
  refine va_alen hx hb hK hP 0 0 rfl rfl (v := nI 13) rfl dX4_digest_129 ?_
  refine lv_istore (lv' := [(5, .int (nI 13)), (4, .ref q_1), (2, .long 2039), (1, .ref q_1), (0, .ref mo)]) hx hb dX4_digest_130 hl (by decide) rfl (fun ls hl => ?_)
  refine lv_iconst (v := nI 0) hx hb dX4_digest_132 (by decide +kernel) ?_
  refine lv_istore (lv' := [(6, .int (nI 0)), (5, .int (nI 13)), (4, .ref q_1), (2, .long 2039), (1, .ref q_1), (0, .ref mo)]) hx hb dX4_digest_133 hl (by decide) rfl (fun ls hl => ?_)
  have loop_6 : ∀ (n : Nat) (i : Nat), (i ≤ 13) → 13 - i < n → ∀ (H : Heap) (locs : List Loc), va_P D vwCl [(q_1, .inl (cI, 13, .inl fa)), (mo, .inr (4, [.int (nI 0), .int (nI (stS q)), .int (stM q), .int (nI ((stT q).length)), .ref qi, .ref qs, .ref qe, .ref qn, .ref qk])), (qi, .inl (cI, 6, .inl gi)), (qs, .inl (cI, 6, .inl gs)), (qe, .inl (cI, 6, .inl ge)), (qn, .inl (cI, 42, .inl w3)), (qk, .inl (cI, 42, .inl k3))] H → va_D A [(q_1, .inl (cI, 13, .inl fa)), (mo, .inr (4, [.int (nI 0), .int (nI (stS q)), .int (stM q), .int (nI ((stT q).length)), .ref qi, .ref qs, .ref qe, .ref qn, .ref qk])), (qi, .inl (cI, 6, .inl gi)), (qs, .inl (cI, 6, .inl gs)), (qe, .inl (cI, 6, .inl ge)), (qn, .inl (cI, 42, .inl w3)), (qk, .inl (cI, 42, .inl k3))] → va_S A ss.heap H locs → ∀ ls : Array Slot, lv_has ls 8 [(0, .ref mo), (1, .ref q_1), (2, .long (dgA fa 2039 i)), (4, .ref q_1), (5, .int (nI 13)), (6, .int (nI i))] → W p l e rm_X4_digest ss m args below meth c H locs 1 13 Q (F0 m 135 ls []) := by
    intro n
    induction n with
    | zero => intro i hi hn; exact absurd hn (by omega)
    | succ n ih =>
      intro i hi hn H locs hP hD hS ls hl
      refine lv_iload hx hb dX4_digest_135 (lv_at hl 5 rfl) ?_
      refine lv_iload hx hb dX4_digest_137 (lv_at hl 4 rfl) ?_
      refine k_cmp_ge (tgt := 165) hx hb i 13 rfl rfl (by omega) (by omega) dX4_digest_139 (by decide) (fun c_139 => ?_) (fun c_139 => ?_)
      · skip
        obtain rfl : i = 13 := by omega
        have e13 : dgA fa 2039 13 = dgH q := by rw [efa, dgA13]; rfl
        rw [e13] at hl
        refine lv_iconst (v := nI 0) hx hb dX4_digest_165 (by decide +kernel) ?_
        refine lv_istore (lv' := [(4, .int (nI 0)), (0, .ref mo), (1, .ref q_1), (2, .long (dgH q)), (5, .int (nI 13)), (6, .int (nI 13))]) hx hb dX4_digest_166 hl (by decide) rfl (fun ls hl => ?_)
        have loop_7 : ∀ (n : Nat) (i : Nat), (i ≤ (stB q).length) → (stB q).length - i < n → ∀ (H : Heap) (locs : List Loc), va_P D vwCl [(q_1, .inl (cI, 13, .inl fa)), (mo, .inr (4, [.int (nI 0), .int (nI (stS q)), .int (stM q), .int (nI ((stT q).length)), .ref qi, .ref qs, .ref qe, .ref qn, .ref qk])), (qi, .inl (cI, 6, .inl gi)), (qs, .inl (cI, 6, .inl gs)), (qe, .inl (cI, 6, .inl ge)), (qn, .inl (cI, 42, .inl w3)), (qk, .inl (cI, 42, .inl k3))] H → va_D A [(q_1, .inl (cI, 13, .inl fa)), (mo, .inr (4, [.int (nI 0), .int (nI (stS q)), .int (stM q), .int (nI ((stT q).length)), .ref qi, .ref qs, .ref qe, .ref qn, .ref qk])), (qi, .inl (cI, 6, .inl gi)), (qs, .inl (cI, 6, .inl gs)), (qe, .inl (cI, 6, .inl ge)), (qn, .inl (cI, 42, .inl w3)), (qk, .inl (cI, 42, .inl k3))] → va_S A ss.heap H locs → ∀ ls : Array Slot, lv_has ls 8 [(0, .ref mo), (2, .long (dgB (stB q) (dgH q) i)), (4, .int (nI i))] → W p l e rm_X4_digest ss m args below meth c H locs 1 13 Q (F0 m 168 ls []) := by
          intro n
          induction n with
          | zero => intro i hi hn; exact absurd hn (by omega)
          | succ n ih =>
            intro i hi hn H locs hP hD hS ls hl
            refine lv_iload hx hb dX4_digest_168 (lv_at hl 2 rfl) ?_
            refine lv_aload_n hx hb dX4_digest_170 rfl (lv_at hl 0 rfl) ?_
            refine va_get (D := D) (ci := 4) (v := .ref qn) (C := RX4) (T := TX4) (N := 9) hx hb hts iX4 hown hK hP 1 rfl rfl 7 (by decide) f26 (fun _ h9 => h9) rfl dX4_digest_171 ?_
            refine lv_iconst (v := nI 1) hx hb dX4_digest_174 (by decide +kernel) ?_
            refine k_iald hx hb hK hP 5 0 rfl rfl 1 (rfl) (by omega) (by decide) dX4_digest_175 ?_
            refine k_top (v := nI ((stB q).length)) (m1) ?_
            refine k_cmp_ge (tgt := 219) hx hb i ((stB q).length) rfl rfl (by omega) (by omega) dX4_digest_176 (by decide) (fun c_176 => ?_) (fun c_176 => ?_)
            · skip
              obtain rfl : i = (stB q).length := by omega
              refine lv_iconst (v := nI 0) hx hb dX4_digest_219 (by decide +kernel) ?_
              refine lv_istore (lv' := [(4, .int (nI 0)), (0, .ref mo), (2, .long (dgB (stB q) (dgH q) ((stB q).length)))]) hx hb dX4_digest_220 hl (by decide) rfl (fun ls hl => ?_)
              have loop_8 : ∀ (n : Nat) (i : Nat), (i ≤ (stT q).length) → (stT q).length - i < n → ∀ (H : Heap) (locs : List Loc), va_P D vwCl [(q_1, .inl (cI, 13, .inl fa)), (mo, .inr (4, [.int (nI 0), .int (nI (stS q)), .int (stM q), .int (nI ((stT q).length)), .ref qi, .ref qs, .ref qe, .ref qn, .ref qk])), (qi, .inl (cI, 6, .inl gi)), (qs, .inl (cI, 6, .inl gs)), (qe, .inl (cI, 6, .inl ge)), (qn, .inl (cI, 42, .inl w3)), (qk, .inl (cI, 42, .inl k3))] H → va_D A [(q_1, .inl (cI, 13, .inl fa)), (mo, .inr (4, [.int (nI 0), .int (nI (stS q)), .int (stM q), .int (nI ((stT q).length)), .ref qi, .ref qs, .ref qe, .ref qn, .ref qk])), (qi, .inl (cI, 6, .inl gi)), (qs, .inl (cI, 6, .inl gs)), (qe, .inl (cI, 6, .inl ge)), (qn, .inl (cI, 42, .inl w3)), (qk, .inl (cI, 42, .inl k3))] → va_S A ss.heap H locs → ∀ ls : Array Slot, lv_has ls 8 [(0, .ref mo), (2, .long (dgT (stT q) (dgB (stB q) (dgH q) (stB q).length) i)), (4, .int (nI i))] → W p l e rm_X4_digest ss m args below meth c H locs 1 13 Q (F0 m 222 ls []) := by
                intro n
                induction n with
                | zero => intro i hi hn; exact absurd hn (by omega)
                | succ n ih =>
                  intro i hi hn H locs hP hD hS ls hl
                  refine lv_iload hx hb dX4_digest_222 (lv_at hl 2 rfl) ?_
                  refine lv_aload_n hx hb dX4_digest_224 rfl (lv_at hl 0 rfl) ?_
                  refine va_get (D := D) (ci := 4) (v := .int (nI ((stT q).length))) (C := RX4) (T := TX4) (N := 9) hx hb hts iX4 hown hK hP 1 rfl rfl 3 (by decide) f39 (fun _ h9 => h9) rfl dX4_digest_225 ?_
                  refine k_cmp_ge (tgt := 291) hx hb i ((stT q).length) rfl rfl (by omega) (by omega) dX4_digest_228 (by decide) (fun c_228 => ?_) (fun c_228 => ?_)
                  · skip
                    obtain rfl : i = (stT q).length := by omega
                    refine lv_lload_n hx hb dX4_digest_291 rfl (lv_at hl 1 rfl) ?_
                    exact ret (dgT (stT q) (dgB (stB q) (dgH q) (stB q).length) ((stT q).length)) ⟨w3, k3⟩ _ _ _ _ _ _ (⟨rfl, hr_115.2⟩) (hP.sub [1, 2, 3, 4, 5, 6] (rfl)) (hD.sub [1, 2, 3, 4, 5, 6] (by decide) (rfl)) hS (Nat.le_of_ble_eq_true rfl) (Nat.le_of_ble_eq_true rfl) dX4_digest_292
                  · skip
                    refine lv_lload_n hx hb dX4_digest_231 rfl (lv_at hl 1 rfl) ?_
                    refine lv_ldc2 (v := 31) hx hb hown (hts (.constantLong RX4 123 (31)) (by decide +kernel)) dX4_digest_232 ?_
                    refine lv_lmul hx hb dX4_digest_235 ?_
                    refine lv_aload_n hx hb dX4_digest_236 rfl (lv_at hl 0 rfl) ?_
                    refine lv_iload hx hb dX4_digest_237 (lv_at hl 2 rfl) ?_
                    refine k_callV (As := [.int (nI i)]) (rest := [.long ((dgT (stT q) (dgB (stB q) (dgH q) (stB q).length) i) * 31)]) (wr := [(q_1, .inl (cI, 13, .inl fa)), (qi, .inl (cI, 6, .inl gi)), (qs, .inl (cI, 6, .inl gs)), (qe, .inl (cI, 6, .inl ge)), (qk, .inl (cI, 42, .inl k3))]) F (c_X4_isThere l D cI mo qi qs qe qn qk (nI 0) (nI (stS q)) (stM q) (nI ((stT q).length)) w3 i (tkX ((stT q).getD i tk0)) ((mT.2 i c_228).2.2.2.2) (by omega)) gX4_digest_X4_isThere rfl (nA := 1) (by decide +kernel) rfl ⟨Nat.le_of_ble_eq_true rfl, Nat.le_of_ble_eq_true rfl⟩ hK hP hD hS hA hG (ci := 4) (q0 := 1) rfl rfl rfl [1, 5] [0, 2, 3, 4, 6] rfl (by decide) rfl (by decide) (by decide) [0] rfl rfl hl.1 (Nat.le_of_ble_eq_true rfl) dX4_digest_239 ⟨Nat.le_of_ble_eq_true rfl, Nat.le_of_ble_eq_true rfl⟩ (fun r_9 u H locs hr_239 hP hD hS => ?_)
                    try dsimp only at hr_239
                    have hP : va_P D vwCl [(q_1, .inl (cI, 13, .inl fa)), (qi, .inl (cI, 6, .inl gi)), (qs, .inl (cI, 6, .inl gs)), (qe, .inl (cI, 6, .inl ge)), (qk, .inl (cI, 42, .inl k3)), (mo, .inr (4, [.int (nI 0), .int (nI (stS q)), .int (stM q), .int (nI ((stT q).length)), .ref qi, .ref qs, .ref qe, .ref qn, .ref qk])), (qn, .inl (cI, 42, .inl w3))] H := hP
                    have hD : va_D A [(q_1, .inl (cI, 13, .inl fa)), (qi, .inl (cI, 6, .inl gi)), (qs, .inl (cI, 6, .inl gs)), (qe, .inl (cI, 6, .inl ge)), (qk, .inl (cI, 42, .inl k3)), (mo, .inr (4, [.int (nI 0), .int (nI (stS q)), .int (stM q), .int (nI ((stT q).length)), .ref qi, .ref qs, .ref qe, .ref qn, .ref qk])), (qn, .inl (cI, 42, .inl w3))] := hD
                    refine W.eq (g2 := F0 m 242 ls [.int r_9, .long ((dgT (stT q) (dgB (stB q) (dgH q) (stB q).length) i) * 31)]) rfl ?_
                    refine W.widen (k := 1) (n := 13) (Nat.le_of_ble_eq_true rfl) (Nat.le_of_ble_eq_true rfl) ?_
                    refine lv_if_eq (tgt := 249) hx hb dX4_digest_242 (by decide) (fun c_242 => ?_) (fun c_242 => ?_)
                    · skip
                      refine lv_iconst (v := nI 0) hx hb dX4_digest_249 (by decide +kernel) ?_
                      refine lv_i2l (v := 0) hx hb dX4_digest_250 (by decide +kernel) ?_
                      refine lv_ladd hx hb dX4_digest_251 ?_
                      refine lv_ldc2 (v := 31) hx hb hown (hts (.constantLong RX4 123 (31)) (by decide +kernel)) dX4_digest_252 ?_
                      refine lv_lmul hx hb dX4_digest_255 ?_
                      refine lv_aload_n hx hb dX4_digest_256 rfl (lv_at hl 0 rfl) ?_
                      refine va_get (D := D) (ci := 4) (v := .ref qn) (C := RX4) (T := TX4) (N := 9) hx hb hts iX4 hown hK hP 5 rfl rfl 7 (by decide) f26 (fun _ h9 => h9) rfl dX4_digest_257 ?_
                      refine lv_bipush (v := nI 30) hx hb dX4_digest_260 (by decide +kernel) ?_
                      refine lv_iload hx hb dX4_digest_262 (lv_at hl 2 rfl) ?_
                      refine k_iadd hx hb (nI (30 + i)) (nI_add _ _) dX4_digest_264 ?_
                      refine k_iald hx hb hK hP 6 0 rfl rfl (30 + i) (rfl) (by omega) (by decide) dX4_digest_265 ?_
                      refine k_top (v := nI (tkP ((stT q).getD i tk0))) ((mT.2 i c_228).2.2.2.1) ?_
                      refine lv_i2l (v := (nI (tkP ((stT q).getD i tk0))).toInt64) hx hb dX4_digest_266 rfl ?_
                      refine lv_ladd hx hb dX4_digest_267 ?_
                      refine lv_ldc2 (v := 31) hx hb hown (hts (.constantLong RX4 123 (31)) (by decide +kernel)) dX4_digest_268 ?_
                      refine lv_lmul hx hb dX4_digest_271 ?_
                      refine lv_aload_n hx hb dX4_digest_272 rfl (lv_at hl 0 rfl) ?_
                      refine va_get (D := D) (ci := 4) (v := .ref qn) (C := RX4) (T := TX4) (N := 9) hx hb hts iX4 hown hK hP 5 rfl rfl 7 (by decide) f26 (fun _ h9 => h9) rfl dX4_digest_273 ?_
                      refine lv_bipush (v := nI 36) hx hb dX4_digest_276 (by decide +kernel) ?_
                      refine lv_iload hx hb dX4_digest_278 (lv_at hl 2 rfl) ?_
                      refine k_iadd hx hb (nI (36 + i)) (nI_add _ _) dX4_digest_280 ?_
                      refine k_iald hx hb hK hP 6 0 rfl rfl (36 + i) (rfl) (by omega) (by decide) dX4_digest_281 ?_
                      refine k_top (v := tkX ((stT q).getD i tk0)) ((mT.2 i c_228).2.2.2.2) ?_
                      refine lv_i2l (v := (tkX ((stT q).getD i tk0)).toInt64) hx hb dX4_digest_282 rfl ?_
                      refine lv_ladd hx hb dX4_digest_283 ?_
                      refine lv_lstore_n (lv' := [(2, .long (((((((dgT (stT q) (dgB (stB q) (dgH q) (stB q).length) i) * 31) + 0) * 31) + ((nI (tkP ((stT q).getD i tk0))).toInt64)) * 31) + ((tkX ((stT q).getD i tk0)).toInt64))), (0, .ref mo), (4, .int (nI i))]) hx hb dX4_digest_284 rfl hl (by decide) rfl (fun ls hl => ?_)
                      refine lv_iinc (v := nI (i + 1)) (lv' := [(4, .int (nI (i + 1))), (2, .long (((((((dgT (stT q) (dgB (stB q) (dgH q) (stB q).length) i) * 31) + 0) * 31) + ((nI (tkP ((stT q).getD i tk0))).toInt64)) * 31) + ((tkX ((stT q).getD i tk0)).toInt64))), (0, .ref mo)]) hx hb dX4_digest_285 hl (k := 2) rfl (nI_1 _) (by decide) rfl (fun ls hl => ?_)
                      refine lv_goto (tgt := 222) hx hb dX4_digest_288 (by decide) ?_
                      have e8 : (if tkX ((stT q).getD i tk0) = -1 then (1 : Int64) else 0) = 0 := if_neg (bI_eq0 hr_239 c_242)
                      exact ih (i + 1) (by omega) (by omega) _ _ (hP.sub [0, 5, 1, 2, 3, 6, 4] (rfl)) (hD.sub [0, 5, 1, 2, 3, 6, 4] (by decide) (rfl)) hS _ (lv_sub hl [2, 1, 0] (by simp only [dgT]; rw [e8]; rfl))
                    · skip
                      refine lv_iconst (v := nI 1) hx hb dX4_digest_245 (by decide +kernel) ?_
                      refine lv_goto (tgt := 250) hx hb dX4_digest_246 (by decide) ?_
                      refine lv_i2l (v := 1) hx hb dX4_digest_250 (by decide +kernel) ?_
                      refine lv_ladd hx hb dX4_digest_251 ?_
                      refine lv_ldc2 (v := 31) hx hb hown (hts (.constantLong RX4 123 (31)) (by decide +kernel)) dX4_digest_252 ?_
                      refine lv_lmul hx hb dX4_digest_255 ?_
                      refine lv_aload_n hx hb dX4_digest_256 rfl (lv_at hl 0 rfl) ?_
                      refine va_get (D := D) (ci := 4) (v := .ref qn) (C := RX4) (T := TX4) (N := 9) hx hb hts iX4 hown hK hP 5 rfl rfl 7 (by decide) f26 (fun _ h9 => h9) rfl dX4_digest_257 ?_
                      refine lv_bipush (v := nI 30) hx hb dX4_digest_260 (by decide +kernel) ?_
                      refine lv_iload hx hb dX4_digest_262 (lv_at hl 2 rfl) ?_
                      refine k_iadd hx hb (nI (30 + i)) (nI_add _ _) dX4_digest_264 ?_
                      refine k_iald hx hb hK hP 6 0 rfl rfl (30 + i) (rfl) (by omega) (by decide) dX4_digest_265 ?_
                      refine k_top (v := nI (tkP ((stT q).getD i tk0))) ((mT.2 i c_228).2.2.2.1) ?_
                      refine lv_i2l (v := (nI (tkP ((stT q).getD i tk0))).toInt64) hx hb dX4_digest_266 rfl ?_
                      refine lv_ladd hx hb dX4_digest_267 ?_
                      refine lv_ldc2 (v := 31) hx hb hown (hts (.constantLong RX4 123 (31)) (by decide +kernel)) dX4_digest_268 ?_
                      refine lv_lmul hx hb dX4_digest_271 ?_
                      refine lv_aload_n hx hb dX4_digest_272 rfl (lv_at hl 0 rfl) ?_
                      refine va_get (D := D) (ci := 4) (v := .ref qn) (C := RX4) (T := TX4) (N := 9) hx hb hts iX4 hown hK hP 5 rfl rfl 7 (by decide) f26 (fun _ h9 => h9) rfl dX4_digest_273 ?_
                      refine lv_bipush (v := nI 36) hx hb dX4_digest_276 (by decide +kernel) ?_
                      refine lv_iload hx hb dX4_digest_278 (lv_at hl 2 rfl) ?_
                      refine k_iadd hx hb (nI (36 + i)) (nI_add _ _) dX4_digest_280 ?_
                      refine k_iald hx hb hK hP 6 0 rfl rfl (36 + i) (rfl) (by omega) (by decide) dX4_digest_281 ?_
                      refine k_top (v := tkX ((stT q).getD i tk0)) ((mT.2 i c_228).2.2.2.2) ?_
                      refine lv_i2l (v := (tkX ((stT q).getD i tk0)).toInt64) hx hb dX4_digest_282 rfl ?_
                      refine lv_ladd hx hb dX4_digest_283 ?_
                      refine lv_lstore_n (lv' := [(2, .long (((((((dgT (stT q) (dgB (stB q) (dgH q) (stB q).length) i) * 31) + 1) * 31) + ((nI (tkP ((stT q).getD i tk0))).toInt64)) * 31) + ((tkX ((stT q).getD i tk0)).toInt64))), (0, .ref mo), (4, .int (nI i))]) hx hb dX4_digest_284 rfl hl (by decide) rfl (fun ls hl => ?_)
                      refine lv_iinc (v := nI (i + 1)) (lv' := [(4, .int (nI (i + 1))), (2, .long (((((((dgT (stT q) (dgB (stB q) (dgH q) (stB q).length) i) * 31) + 1) * 31) + ((nI (tkP ((stT q).getD i tk0))).toInt64)) * 31) + ((tkX ((stT q).getD i tk0)).toInt64))), (0, .ref mo)]) hx hb dX4_digest_285 hl (k := 2) rfl (nI_1 _) (by decide) rfl (fun ls hl => ?_)
                      refine lv_goto (tgt := 222) hx hb dX4_digest_288 (by decide) ?_
                      have e8 : (if tkX ((stT q).getD i tk0) = -1 then (1 : Int64) else 0) = 1 := if_pos (bI_ne0 hr_239 c_242)
                      exact ih (i + 1) (by omega) (by omega) _ _ (hP.sub [0, 5, 1, 2, 3, 6, 4] (rfl)) (hD.sub [0, 5, 1, 2, 3, 6, 4] (by decide) (rfl)) hS _ (lv_sub hl [2, 1, 0] (by simp only [dgT]; rw [e8]; rfl))
              exact loop_8 (((stT q).length) + 1) 0 (Nat.zero_le _) (by omega) _ _ (hP.sub [0, 1, 2, 3, 4, 5, 6] (rfl)) (hD.sub [0, 1, 2, 3, 4, 5, 6] (by decide) (rfl)) hS _ (lv_sub hl [1, 2, 0] (rfl))
            · skip
              refine lv_lload_n hx hb dX4_digest_179 rfl (lv_at hl 1 rfl) ?_
              refine lv_ldc2 (v := 31) hx hb hown (hts (.constantLong RX4 123 (31)) (by decide +kernel)) dX4_digest_180 ?_
              refine lv_lmul hx hb dX4_digest_183 ?_
              refine lv_aload_n hx hb dX4_digest_184 rfl (lv_at hl 0 rfl) ?_
              refine va_get (D := D) (ci := 4) (v := .ref qn) (C := RX4) (T := TX4) (N := 9) hx hb hts iX4 hown hK hP 1 rfl rfl 7 (by decide) f26 (fun _ h9 => h9) rfl dX4_digest_185 ?_
              refine lv_bipush (v := nI 6) hx hb dX4_digest_188 (by decide +kernel) ?_
              refine lv_iload hx hb dX4_digest_190 (lv_at hl 2 rfl) ?_
              refine k_iadd hx hb (nI (6 + i)) (nI_add _ _) dX4_digest_192 ?_
              refine k_iald hx hb hK hP 5 0 rfl rfl (6 + i) (rfl) (by omega) (by decide) dX4_digest_193 ?_
              refine k_top (v := nI (((stB q).getD i tp0).2)) ((mB.2 i c_176).2) ?_
              refine lv_i2l (v := (nI (((stB q).getD i tp0).2)).toInt64) hx hb dX4_digest_194 rfl ?_
              refine lv_ladd hx hb dX4_digest_195 ?_
              refine lv_ldc2 (v := 31) hx hb hown (hts (.constantLong RX4 123 (31)) (by decide +kernel)) dX4_digest_196 ?_
              refine lv_lmul hx hb dX4_digest_199 ?_
              refine lv_aload_n hx hb dX4_digest_200 rfl (lv_at hl 0 rfl) ?_
              refine va_get (D := D) (ci := 4) (v := .ref qn) (C := RX4) (T := TX4) (N := 9) hx hb hts iX4 hown hK hP 1 rfl rfl 7 (by decide) f26 (fun _ h9 => h9) rfl dX4_digest_201 ?_
              refine lv_bipush (v := nI 18) hx hb dX4_digest_204 (by decide +kernel) ?_
              refine lv_iload hx hb dX4_digest_206 (lv_at hl 2 rfl) ?_
              refine k_iadd hx hb (nI (18 + i)) (nI_add _ _) dX4_digest_208 ?_
              refine k_iald hx hb hK hP 5 0 rfl rfl (18 + i) (rfl) (by omega) (by decide) dX4_digest_209 ?_
              refine k_top (v := ((stB q).getD i tp0).1) ((mB.2 i c_176).1) ?_
              refine lv_i2l (v := (((stB q).getD i tp0).1).toInt64) hx hb dX4_digest_210 rfl ?_
              refine lv_ladd hx hb dX4_digest_211 ?_
              refine lv_lstore_n (lv' := [(2, .long (((((dgB (stB q) (dgH q) i) * 31) + ((nI (((stB q).getD i tp0).2)).toInt64)) * 31) + ((((stB q).getD i tp0).1).toInt64))), (0, .ref mo), (4, .int (nI i))]) hx hb dX4_digest_212 rfl hl (by decide) rfl (fun ls hl => ?_)
              refine lv_iinc (v := nI (i + 1)) (lv' := [(4, .int (nI (i + 1))), (2, .long (((((dgB (stB q) (dgH q) i) * 31) + ((nI (((stB q).getD i tp0).2)).toInt64)) * 31) + ((((stB q).getD i tp0).1).toInt64))), (0, .ref mo)]) hx hb dX4_digest_213 hl (k := 2) rfl (nI_1 _) (by decide) rfl (fun ls hl => ?_)
              refine lv_goto (tgt := 168) hx hb dX4_digest_216 (by decide) ?_
              exact ih (i + 1) (by omega) (by omega) _ _ (hP.sub [0, 1, 2, 3, 4, 5, 6] (rfl)) (hD.sub [0, 1, 2, 3, 4, 5, 6] (by decide) (rfl)) hS _ (lv_sub hl [2, 1, 0] (rfl))
        exact loop_7 (((stB q).length) + 1) 0 (Nat.zero_le _) (by omega) _ _ (hP.sub [0, 1, 2, 3, 4, 5, 6] (rfl)) (hD.sub [0, 1, 2, 3, 4, 5, 6] (by decide) (rfl)) hS _ (lv_sub hl [1, 3, 0] (rfl))
      · skip
        refine lv_aload hx hb dX4_digest_142 (lv_at hl 3 rfl) ?_
        refine lv_iload hx hb dX4_digest_144 (lv_at hl 5 rfl) ?_
        refine k_iald hx hb hK hP 0 0 rfl rfl i (rfl) (by omega) (by decide) dX4_digest_146 ?_
        refine lv_istore (lv' := [(7, .int (fa i)), (0, .ref mo), (1, .ref q_1), (2, .long (dgA fa 2039 i)), (4, .ref q_1), (5, .int (nI 13)), (6, .int (nI i))]) hx hb dX4_digest_147 hl (by decide) rfl (fun ls hl => ?_)
        refine lv_lload_n hx hb dX4_digest_149 rfl (lv_at hl 3 rfl) ?_
        refine lv_ldc2 (v := 31) hx hb hown (hts (.constantLong RX4 123 (31)) (by decide +kernel)) dX4_digest_150 ?_
        refine lv_lmul hx hb dX4_digest_153 ?_
        refine lv_iload hx hb dX4_digest_154 (lv_at hl 0 rfl) ?_
        refine lv_i2l (v := (fa i).toInt64) hx hb dX4_digest_156 rfl ?_
        refine lv_ladd hx hb dX4_digest_157 ?_
        refine lv_lstore_n (lv' := [(2, .long (((dgA fa 2039 i) * 31) + ((fa i).toInt64))), (7, .int (fa i)), (0, .ref mo), (1, .ref q_1), (4, .ref q_1), (5, .int (nI 13)), (6, .int (nI i))]) hx hb dX4_digest_158 rfl hl (by decide) rfl (fun ls hl => ?_)
        refine lv_iinc (v := nI (i + 1)) (lv' := [(6, .int (nI (i + 1))), (2, .long (((dgA fa 2039 i) * 31) + ((fa i).toInt64))), (7, .int (fa i)), (0, .ref mo), (1, .ref q_1), (4, .ref q_1), (5, .int (nI 13))]) hx hb dX4_digest_159 hl (k := 6) rfl (nI_1 _) (by decide) rfl (fun ls hl => ?_)
        refine lv_goto (tgt := 135) hx hb dX4_digest_162 (by decide) ?_
        exact ih (i + 1) (by omega) (by omega) _ _ (hP.sub [0, 1, 2, 3, 4, 5, 6] (rfl)) (hD.sub [0, 1, 2, 3, 4, 5, 6] (by decide) (rfl)) hS _ (lv_sub hl [3, 4, 1, 5, 6, 0] (rfl))
  exact loop_6 (13 + 1) 0 (by omega) (by omega) _ _ (hP.sub [0, 1, 2, 3, 4, 5, 6] (rfl)) (hD.sub [0, 1, 2, 3, 4, 5, 6] (by decide) (rfl)) hS _ (lv_sub hl [5, 4, 3, 2, 1, 0] (rfl))

abbrev rm_X4_init : Room := { frames := 1, cells := 5, slots := 102, locals := 12 }
set_option maxHeartbeats 4000000 in
set_option maxRecDepth 100000 in
theorem c_X4_init (l : Launch) (D : va_G) (cI : ClassId) (mo : Nat) : kM krv l yX4_init wsX4_init rm_X4_init D [(cI, .int)] [.ref mo] [(mo, .inr (4, [.int (nI 0), .int (nI 0), .int (nI 0), .int (nI 0), .null, .null, .null, .null, .null]))] (fun (r : Unit) (u : Nat × Nat × Nat × Nat × Nat) => True) (fun (u : Nat × Nat × Nat × Nat × Nat) => [(mo, .inr (4, [.int (nI 0), .int (nI 1), .int (nI 3), .int (nI 0), .ref u.1, .ref u.2.1, .ref u.2.2.1, .ref u.2.2.2.1, .ref u.2.2.2.2])), (u.1, .inl (cI, 6, .inl (fun _ => 0))), (u.2.1, .inl (cI, 6, .inl (fun _ => 0))), (u.2.2.1, .inl (cI, 6, .inl (fun _ => 0))), (u.2.2.2.1, .inl (cI, 42, .inl (upd (fun _ => 0) 5 (nI 2)))), (u.2.2.2.2, .inl (cI, 42, .inl (fun _ => 0)))]) := by
  refine k_bodyV (cc := cX4_init) (maxL := 1) (by decide) rfl (Nat.le_of_ble_eq_true rfl) ?_
  intro p e ss m args below meth c A Q F hname hA hG hK hP hD hS ret ls hl
  obtain ⟨hx, hb, hml, hown, hts⟩ := id F
  have hP : va_P D vwCl [(mo, .inr (4, [.int (nI 0), .int (nI 0), .int (nI 0), .int (nI 0), .null, .null, .null, .null, .null]))] ss.heap := hP
  have hD : va_D A [(mo, .inr (4, [.int (nI 0), .int (nI 0), .int (nI 0), .int (nI 0), .null, .null, .null, .null, .null]))] := hD
  have hl : lv_has ls 1 [(0, .ref mo)] := hl
  have iX4 : ∀ w ∈ u_ws RX4 TX4 9, w ∈ wsX4_init := by decide +kernel
  have f9 := hts (.fieldLink RX4 9 "SmallerTalkModel" "stones" "I") (by decide +kernel)
  have f13 := hts (.fieldLink RX4 13 "SmallerTalkModel" "mesh" "I") (by decide +kernel)
  have f16 := hts (.fieldLink RX4 16 "SmallerTalkModel" "its" "[I") (by decide +kernel)
  have f20 := hts (.fieldLink RX4 20 "SmallerTalkModel" "size" "[I") (by decide +kernel)
  have f23 := hts (.fieldLink RX4 23 "SmallerTalkModel" "each" "[I") (by decide +kernel)
  have f26 := hts (.fieldLink RX4 26 "SmallerTalkModel" "now" "[I") (by decide +kernel)
  have f29 := hts (.fieldLink RX4 29 "SmallerTalkModel" "kept" "[I") (by decide +kernel)
  refine lv_aload_n hx hb dX4_init_0 rfl (lv_at hl 0 rfl) ?_
  refine W.objInit hx hb hown (hts (.methodLink RX4 3 objectInit) (by decide +kernel)) (hts (.instanceMethod objectInit) (by decide +kernel)) (hts (.code objectInit ⟨#[0xb1]⟩ 1 none) (by decide +kernel)) rfl (by rw [hml]; exact hl.1) rfl dX4_init_1 (Nat.le_of_ble_eq_true rfl) (Nat.le_of_ble_eq_true rfl) ?_
  refine W.eq (g2 := F0 m 4 ls []) rfl ?_
  refine lv_aload_n hx hb dX4_init_4 rfl (lv_at hl 0 rfl) ?_
  refine lv_iconst (v := nI 1) hx hb dX4_init_5 (by decide +kernel) ?_
  refine va_put (D := D) (ci := 4) (v := .int (nI 1)) (ty := .int) (C := RX4) (T := TX4) (N := 9) hx hb hts iX4 tyX4 tyX4_ok nmX4 hown hK hP hD hS 0 rfl rfl 1 (by decide) f9 (fun _ h9 => h9) rfl (by decide +kernel) rfl rfl (Nat.le_of_ble_eq_true rfl) dX4_init_6 (fun H locs hP hD hS => ?_)
  have hP : va_P D vwCl [(mo, .inr (4, [.int (nI 0), .int (nI 1), .int (nI 0), .int (nI 0), .null, .null, .null, .null, .null]))] H := hP
  have hD : va_D A [(mo, .inr (4, [.int (nI 0), .int (nI 1), .int (nI 0), .int (nI 0), .null, .null, .null, .null, .null]))] := hD
  refine lv_aload_n hx hb dX4_init_9 rfl (lv_at hl 0 rfl) ?_
  refine lv_iconst (v := nI 3) hx hb dX4_init_10 (by decide +kernel) ?_
  refine va_put (D := D) (ci := 4) (v := .int (nI 3)) (ty := .int) (C := RX4) (T := TX4) (N := 9) hx hb hts iX4 tyX4 tyX4_ok nmX4 hown hK hP hD hS 0 rfl rfl 2 (by decide) f13 (fun _ h9 => h9) rfl (by decide +kernel) rfl rfl (Nat.le_of_ble_eq_true rfl) dX4_init_11 (fun H locs hP hD hS => ?_)
  have hP : va_P D vwCl [(mo, .inr (4, [.int (nI 0), .int (nI 1), .int (nI 3), .int (nI 0), .null, .null, .null, .null, .null]))] H := hP
  have hD : va_D A [(mo, .inr (4, [.int (nI 0), .int (nI 1), .int (nI 3), .int (nI 0), .null, .null, .null, .null, .null]))] := hD
  refine lv_aload_n hx hb dX4_init_14 rfl (lv_at hl 0 rfl) ?_
  refine lv_bipush (v := nI 6) hx hb dX4_init_15 (by decide +kernel) ?_
  refine va_newa (atype := .int) (a0 := (6, .inl (fun _ => 0))) (N' := 6) hx hb (hts (.arrayClass .int) (by decide +kernel)) rfl hK hP hD hS hA (fun _ => rfl) (by decide +kernel) (by decide +kernel) (Nat.le_of_ble_eq_true rfl) (Nat.le_of_ble_eq_true rfl) (Nat.le_of_ble_eq_true rfl) dX4_init_17 (fun q_1 cA H hK2 hP hD hS => ?_)
  obtain rfl : cI = cA := (k_same hK2).symm
  have hP : va_P D vwCl [(mo, .inr (4, [.int (nI 0), .int (nI 1), .int (nI 3), .int (nI 0), .null, .null, .null, .null, .null])), (q_1, .inl (cI, 6, .inl (fun _ => 0)))] H := hP
  have hD : va_D A [(mo, .inr (4, [.int (nI 0), .int (nI 1), .int (nI 3), .int (nI 0), .null, .null, .null, .null, .null])), (q_1, .inl (cI, 6, .inl (fun _ => 0)))] := hD
  refine va_putF (D := D) (ci := 4) (v := .ref q_1) (ty := (.array .int)) (C := RX4) (T := TX4) (N := 9) hx hb hts iX4 tyX4 tyX4_ok nmX4 hown hK hP hD hS 0 rfl rfl 4 (by decide) f16 (fun _ h9 => h9) rfl hname rfl (by decide +kernel) rfl rfl (Nat.le_of_ble_eq_true rfl) dX4_init_19 (fun H locs hP hD hS => ?_)
  have hP : va_P D vwCl [(mo, .inr (4, [.int (nI 0), .int (nI 1), .int (nI 3), .int (nI 0), .ref q_1, .null, .null, .null, .null])), (q_1, .inl (cI, 6, .inl (fun _ => 0)))] H := hP
  have hD : va_D A [(mo, .inr (4, [.int (nI 0), .int (nI 1), .int (nI 3), .int (nI 0), .ref q_1, .null, .null, .null, .null])), (q_1, .inl (cI, 6, .inl (fun _ => 0)))] := hD
  refine lv_aload_n hx hb dX4_init_22 rfl (lv_at hl 0 rfl) ?_
  refine lv_bipush (v := nI 6) hx hb dX4_init_23 (by decide +kernel) ?_
  refine va_newa (atype := .int) (a0 := (6, .inl (fun _ => 0))) (N' := 6) hx hb (hts (.arrayClass .int) (by decide +kernel)) rfl hK hP hD hS hA (fun _ => rfl) (by decide +kernel) (by decide +kernel) (Nat.le_of_ble_eq_true rfl) (Nat.le_of_ble_eq_true rfl) (Nat.le_of_ble_eq_true rfl) dX4_init_25 (fun q_2 cA H hK2 hP hD hS => ?_)
  obtain rfl : cI = cA := (k_same hK2).symm
  have hP : va_P D vwCl [(mo, .inr (4, [.int (nI 0), .int (nI 1), .int (nI 3), .int (nI 0), .ref q_1, .null, .null, .null, .null])), (q_1, .inl (cI, 6, .inl (fun _ => 0))), (q_2, .inl (cI, 6, .inl (fun _ => 0)))] H := hP
  have hD : va_D A [(mo, .inr (4, [.int (nI 0), .int (nI 1), .int (nI 3), .int (nI 0), .ref q_1, .null, .null, .null, .null])), (q_1, .inl (cI, 6, .inl (fun _ => 0))), (q_2, .inl (cI, 6, .inl (fun _ => 0)))] := hD
  refine va_putF (D := D) (ci := 4) (v := .ref q_2) (ty := (.array .int)) (C := RX4) (T := TX4) (N := 9) hx hb hts iX4 tyX4 tyX4_ok nmX4 hown hK hP hD hS 0 rfl rfl 5 (by decide) f20 (fun _ h9 => h9) rfl hname rfl (by decide +kernel) rfl rfl (Nat.le_of_ble_eq_true rfl) dX4_init_27 (fun H locs hP hD hS => ?_)
  have hP : va_P D vwCl [(mo, .inr (4, [.int (nI 0), .int (nI 1), .int (nI 3), .int (nI 0), .ref q_1, .ref q_2, .null, .null, .null])), (q_1, .inl (cI, 6, .inl (fun _ => 0))), (q_2, .inl (cI, 6, .inl (fun _ => 0)))] H := hP
  have hD : va_D A [(mo, .inr (4, [.int (nI 0), .int (nI 1), .int (nI 3), .int (nI 0), .ref q_1, .ref q_2, .null, .null, .null])), (q_1, .inl (cI, 6, .inl (fun _ => 0))), (q_2, .inl (cI, 6, .inl (fun _ => 0)))] := hD
  refine lv_aload_n hx hb dX4_init_30 rfl (lv_at hl 0 rfl) ?_
  refine lv_bipush (v := nI 6) hx hb dX4_init_31 (by decide +kernel) ?_
  refine va_newa (atype := .int) (a0 := (6, .inl (fun _ => 0))) (N' := 6) hx hb (hts (.arrayClass .int) (by decide +kernel)) rfl hK hP hD hS hA (fun _ => rfl) (by decide +kernel) (by decide +kernel) (Nat.le_of_ble_eq_true rfl) (Nat.le_of_ble_eq_true rfl) (Nat.le_of_ble_eq_true rfl) dX4_init_33 (fun q_3 cA H hK2 hP hD hS => ?_)
  obtain rfl : cI = cA := (k_same hK2).symm
  have hP : va_P D vwCl [(mo, .inr (4, [.int (nI 0), .int (nI 1), .int (nI 3), .int (nI 0), .ref q_1, .ref q_2, .null, .null, .null])), (q_1, .inl (cI, 6, .inl (fun _ => 0))), (q_2, .inl (cI, 6, .inl (fun _ => 0))), (q_3, .inl (cI, 6, .inl (fun _ => 0)))] H := hP
  have hD : va_D A [(mo, .inr (4, [.int (nI 0), .int (nI 1), .int (nI 3), .int (nI 0), .ref q_1, .ref q_2, .null, .null, .null])), (q_1, .inl (cI, 6, .inl (fun _ => 0))), (q_2, .inl (cI, 6, .inl (fun _ => 0))), (q_3, .inl (cI, 6, .inl (fun _ => 0)))] := hD
  refine va_putF (D := D) (ci := 4) (v := .ref q_3) (ty := (.array .int)) (C := RX4) (T := TX4) (N := 9) hx hb hts iX4 tyX4 tyX4_ok nmX4 hown hK hP hD hS 0 rfl rfl 6 (by decide) f23 (fun _ h9 => h9) rfl hname rfl (by decide +kernel) rfl rfl (Nat.le_of_ble_eq_true rfl) dX4_init_35 (fun H locs hP hD hS => ?_)
  have hP : va_P D vwCl [(mo, .inr (4, [.int (nI 0), .int (nI 1), .int (nI 3), .int (nI 0), .ref q_1, .ref q_2, .ref q_3, .null, .null])), (q_1, .inl (cI, 6, .inl (fun _ => 0))), (q_2, .inl (cI, 6, .inl (fun _ => 0))), (q_3, .inl (cI, 6, .inl (fun _ => 0)))] H := hP
  have hD : va_D A [(mo, .inr (4, [.int (nI 0), .int (nI 1), .int (nI 3), .int (nI 0), .ref q_1, .ref q_2, .ref q_3, .null, .null])), (q_1, .inl (cI, 6, .inl (fun _ => 0))), (q_2, .inl (cI, 6, .inl (fun _ => 0))), (q_3, .inl (cI, 6, .inl (fun _ => 0)))] := hD
  refine lv_aload_n hx hb dX4_init_38 rfl (lv_at hl 0 rfl) ?_
  refine lv_bipush (v := nI 42) hx hb dX4_init_39 (by decide +kernel) ?_
  refine va_newa (atype := .int) (a0 := (42, .inl (fun _ => 0))) (N' := 42) hx hb (hts (.arrayClass .int) (by decide +kernel)) rfl hK hP hD hS hA (fun _ => rfl) (by decide +kernel) (by decide +kernel) (Nat.le_of_ble_eq_true rfl) (Nat.le_of_ble_eq_true rfl) (Nat.le_of_ble_eq_true rfl) dX4_init_41 (fun q_4 cA H hK2 hP hD hS => ?_)
  obtain rfl : cI = cA := (k_same hK2).symm
  have hP : va_P D vwCl [(mo, .inr (4, [.int (nI 0), .int (nI 1), .int (nI 3), .int (nI 0), .ref q_1, .ref q_2, .ref q_3, .null, .null])), (q_1, .inl (cI, 6, .inl (fun _ => 0))), (q_2, .inl (cI, 6, .inl (fun _ => 0))), (q_3, .inl (cI, 6, .inl (fun _ => 0))), (q_4, .inl (cI, 42, .inl (fun _ => 0)))] H := hP
  have hD : va_D A [(mo, .inr (4, [.int (nI 0), .int (nI 1), .int (nI 3), .int (nI 0), .ref q_1, .ref q_2, .ref q_3, .null, .null])), (q_1, .inl (cI, 6, .inl (fun _ => 0))), (q_2, .inl (cI, 6, .inl (fun _ => 0))), (q_3, .inl (cI, 6, .inl (fun _ => 0))), (q_4, .inl (cI, 42, .inl (fun _ => 0)))] := hD
  refine va_putF (D := D) (ci := 4) (v := .ref q_4) (ty := (.array .int)) (C := RX4) (T := TX4) (N := 9) hx hb hts iX4 tyX4 tyX4_ok nmX4 hown hK hP hD hS 0 rfl rfl 7 (by decide) f26 (fun _ h9 => h9) rfl hname rfl (by decide +kernel) rfl rfl (Nat.le_of_ble_eq_true rfl) dX4_init_43 (fun H locs hP hD hS => ?_)
  have hP : va_P D vwCl [(mo, .inr (4, [.int (nI 0), .int (nI 1), .int (nI 3), .int (nI 0), .ref q_1, .ref q_2, .ref q_3, .ref q_4, .null])), (q_1, .inl (cI, 6, .inl (fun _ => 0))), (q_2, .inl (cI, 6, .inl (fun _ => 0))), (q_3, .inl (cI, 6, .inl (fun _ => 0))), (q_4, .inl (cI, 42, .inl (fun _ => 0)))] H := hP
  have hD : va_D A [(mo, .inr (4, [.int (nI 0), .int (nI 1), .int (nI 3), .int (nI 0), .ref q_1, .ref q_2, .ref q_3, .ref q_4, .null])), (q_1, .inl (cI, 6, .inl (fun _ => 0))), (q_2, .inl (cI, 6, .inl (fun _ => 0))), (q_3, .inl (cI, 6, .inl (fun _ => 0))), (q_4, .inl (cI, 42, .inl (fun _ => 0)))] := hD
  refine lv_aload_n hx hb dX4_init_46 rfl (lv_at hl 0 rfl) ?_
  refine lv_bipush (v := nI 42) hx hb dX4_init_47 (by decide +kernel) ?_
  refine va_newa (atype := .int) (a0 := (42, .inl (fun _ => 0))) (N' := 42) hx hb (hts (.arrayClass .int) (by decide +kernel)) rfl hK hP hD hS hA (fun _ => rfl) (by decide +kernel) (by decide +kernel) (Nat.le_of_ble_eq_true rfl) (Nat.le_of_ble_eq_true rfl) (Nat.le_of_ble_eq_true rfl) dX4_init_49 (fun q_5 cA H hK2 hP hD hS => ?_)
  obtain rfl : cI = cA := (k_same hK2).symm
  have hP : va_P D vwCl [(mo, .inr (4, [.int (nI 0), .int (nI 1), .int (nI 3), .int (nI 0), .ref q_1, .ref q_2, .ref q_3, .ref q_4, .null])), (q_1, .inl (cI, 6, .inl (fun _ => 0))), (q_2, .inl (cI, 6, .inl (fun _ => 0))), (q_3, .inl (cI, 6, .inl (fun _ => 0))), (q_4, .inl (cI, 42, .inl (fun _ => 0))), (q_5, .inl (cI, 42, .inl (fun _ => 0)))] H := hP
  have hD : va_D A [(mo, .inr (4, [.int (nI 0), .int (nI 1), .int (nI 3), .int (nI 0), .ref q_1, .ref q_2, .ref q_3, .ref q_4, .null])), (q_1, .inl (cI, 6, .inl (fun _ => 0))), (q_2, .inl (cI, 6, .inl (fun _ => 0))), (q_3, .inl (cI, 6, .inl (fun _ => 0))), (q_4, .inl (cI, 42, .inl (fun _ => 0))), (q_5, .inl (cI, 42, .inl (fun _ => 0)))] := hD
  refine va_putF (D := D) (ci := 4) (v := .ref q_5) (ty := (.array .int)) (C := RX4) (T := TX4) (N := 9) hx hb hts iX4 tyX4 tyX4_ok nmX4 hown hK hP hD hS 0 rfl rfl 8 (by decide) f29 (fun _ h9 => h9) rfl hname rfl (by decide +kernel) rfl rfl (Nat.le_of_ble_eq_true rfl) dX4_init_51 (fun H locs hP hD hS => ?_)
  have hP : va_P D vwCl [(mo, .inr (4, [.int (nI 0), .int (nI 1), .int (nI 3), .int (nI 0), .ref q_1, .ref q_2, .ref q_3, .ref q_4, .ref q_5])), (q_1, .inl (cI, 6, .inl (fun _ => 0))), (q_2, .inl (cI, 6, .inl (fun _ => 0))), (q_3, .inl (cI, 6, .inl (fun _ => 0))), (q_4, .inl (cI, 42, .inl (fun _ => 0))), (q_5, .inl (cI, 42, .inl (fun _ => 0)))] H := hP
  have hD : va_D A [(mo, .inr (4, [.int (nI 0), .int (nI 1), .int (nI 3), .int (nI 0), .ref q_1, .ref q_2, .ref q_3, .ref q_4, .ref q_5])), (q_1, .inl (cI, 6, .inl (fun _ => 0))), (q_2, .inl (cI, 6, .inl (fun _ => 0))), (q_3, .inl (cI, 6, .inl (fun _ => 0))), (q_4, .inl (cI, 42, .inl (fun _ => 0))), (q_5, .inl (cI, 42, .inl (fun _ => 0)))] := hD
  refine lv_aload_n hx hb dX4_init_54 rfl (lv_at hl 0 rfl) ?_
  refine va_get (D := D) (ci := 4) (v := .ref q_4) (C := RX4) (T := TX4) (N := 9) hx hb hts iX4 hown hK hP 0 rfl rfl 7 (by decide) f26 (fun _ h9 => h9) rfl dX4_init_55 ?_
  refine lv_iconst (v := nI 5) hx hb dX4_init_58 (by decide +kernel) ?_
  refine lv_iconst (v := nI 2) hx hb dX4_init_59 (by decide +kernel) ?_
  refine k_iast hx hb hK hP hD hS 4 0 rfl rfl 5 (rfl) (by omega) (by decide) dX4_init_60 (fun H locs hP hD hS => ?_)
  have hP : va_P D vwCl [(mo, .inr (4, [.int (nI 0), .int (nI 1), .int (nI 3), .int (nI 0), .ref q_1, .ref q_2, .ref q_3, .ref q_4, .ref q_5])), (q_1, .inl (cI, 6, .inl (fun _ => 0))), (q_2, .inl (cI, 6, .inl (fun _ => 0))), (q_3, .inl (cI, 6, .inl (fun _ => 0))), (q_4, .inl (cI, 42, .inl (upd (fun _ => 0) 5 (nI 2)))), (q_5, .inl (cI, 42, .inl (fun _ => 0)))] H := hP
  have hD : va_D A [(mo, .inr (4, [.int (nI 0), .int (nI 1), .int (nI 3), .int (nI 0), .ref q_1, .ref q_2, .ref q_3, .ref q_4, .ref q_5])), (q_1, .inl (cI, 6, .inl (fun _ => 0))), (q_2, .inl (cI, 6, .inl (fun _ => 0))), (q_3, .inl (cI, 6, .inl (fun _ => 0))), (q_4, .inl (cI, 42, .inl (upd (fun _ => 0) 5 (nI 2)))), (q_5, .inl (cI, 42, .inl (fun _ => 0)))] := hD
  exact ret ⟨q_1, q_2, q_3, q_4, q_5⟩ _ _ _ _ _ _ (trivial) (hP.sub [0, 1, 2, 3, 4, 5] (rfl)) (hD.sub [0, 1, 2, 3, 4, 5] (by decide) (rfl)) hS (Nat.le_of_ble_eq_true rfl) (Nat.le_of_ble_eq_true rfl) dX4_init_61

