set_option maxHeartbeats 4000000 in
set_option maxRecDepth 100000 in
theorem law_loop {p : Program} {l : Launch} {e : Env} {ss : State} {m : MethodId} {below : List Frame} {meth : Method} {c : Code} {D : va_G} {cI cL : ClassId} {sc L : Nat} {xs : Nat → Int32} {A : Nat → Prop} (hl0 : l.stackTraces = false) (F : CallFix p m c cL_law 9 ss #[.ref sc] wsL_law RL) (hK : va_K D vwCl [(cI, .int), (cL, .long)] ss) (hG : kG A ss) (hA : ∀ q, ss.heap.size ≤ q → A q) (hX : va_X sc L xs ss ss.heap) (hbl : sc < ss.heap.size) (hbA : ¬ A sc) (hL : L ≤ 2048) {x : Nat} {a b : Nat → Nat} {mo qi qs qe qn qk o : Nat} (Q : State → Prop)
    (KE : ∀ (cl sl : Nat) (H : Heap) (locs : List Loc) (ls : Array Slot), cl ≤ 1064 → sl ≤ 10740 → va_S A ss.heap H locs → W p l e room_1 ss m #[.ref sc] below meth c H locs cl sl Q (F0 m 1516 ls [])) :
    ∀ (n i k : Nat), i = 4 * k → i ≤ L → L - i < n → ∀ (cl sl : Nat) (f : Nat → Nat → Int32) (g : Nat → Nat → Int32) (q : St) (q2 : St) (tw : Int32) (gi : Nat → Int32) (gs : Nat → Int32) (ge : Nat → Int32) (w : Nat → Int32) (kp : Nat → Int32) (fo : Nat → Int64), cl ≤ 40 + 2 * k → sl ≤ 500 + 20 * k → rR f q → rN gi gs ge w q → okS q → stI q ≤ 60 * k → ∀ (H : Heap) (locs : List Loc), va_P D vwCl [(x, .inr (3, [.ref (a 0), .ref (b 0)])), ((a 0), .inr (2, [.ref (a 1), .ref (a 4), .int (nI (stG q)), .int (nI (stS q)), .int (stM q), .int (nI (stN q)), .int (stO q), .int (stV q), .int (nI (stI q))])), ((a 1), .inr (0, [.ref (a 2), .ref (a 3), .int (nI ((stB q).length))])), ((a 2), .inl (cI, 12, .inl (f 0))), ((a 3), .inl (cI, 12, .inl (f 1))), ((a 4), .inr (1, [.ref (a 5), .ref (a 6), .ref (a 7), .ref (a 8), .ref (a 9), .int (nI ((stT q).length))])), ((a 5), .inl (cI, 6, .inl (f 2))), ((a 6), .inl (cI, 6, .inl (f 3))), ((a 7), .inl (cI, 6, .inl (f 4))), ((a 8), .inl (cI, 6, .inl (f 5))), ((a 9), .inl (cI, 6, .inl (f 6))), ((b 0), .inr (2, [.ref (b 1), .ref (b 4), .int (nI (stG q2)), .int (nI (stS q2)), .int (stM q2), .int (nI (stN q2)), .int (stO q2), .int (stV q2), .int (nI (stI q2))])), ((b 1), .inr (0, [.ref (b 2), .ref (b 3), .int (nI ((stB q2).length))])), ((b 2), .inl (cI, 12, .inl (g 0))), ((b 3), .inl (cI, 12, .inl (g 1))), ((b 4), .inr (1, [.ref (b 5), .ref (b 6), .ref (b 7), .ref (b 8), .ref (b 9), .int (nI ((stT q2).length))])), ((b 5), .inl (cI, 6, .inl (g 2))), ((b 6), .inl (cI, 6, .inl (g 3))), ((b 7), .inl (cI, 6, .inl (g 4))), ((b 8), .inl (cI, 6, .inl (g 5))), ((b 9), .inl (cI, 6, .inl (g 6))), (mo, .inr (4, [.int tw, .int (nI (stS q)), .int (stM q), .int (nI ((stT q).length)), .ref qi, .ref qs, .ref qe, .ref qn, .ref qk])), (qi, .inl (cI, 6, .inl gi)), (qs, .inl (cI, 6, .inl gs)), (qe, .inl (cI, 6, .inl ge)), (qn, .inl (cI, 42, .inl w)), (qk, .inl (cI, 42, .inl kp)), (o, .inl (cL, 1, .inr (.inl fo)))] H → va_D A [(x, .inr (3, [.ref (a 0), .ref (b 0)])), ((a 0), .inr (2, [.ref (a 1), .ref (a 4), .int (nI (stG q)), .int (nI (stS q)), .int (stM q), .int (nI (stN q)), .int (stO q), .int (stV q), .int (nI (stI q))])), ((a 1), .inr (0, [.ref (a 2), .ref (a 3), .int (nI ((stB q).length))])), ((a 2), .inl (cI, 12, .inl (f 0))), ((a 3), .inl (cI, 12, .inl (f 1))), ((a 4), .inr (1, [.ref (a 5), .ref (a 6), .ref (a 7), .ref (a 8), .ref (a 9), .int (nI ((stT q).length))])), ((a 5), .inl (cI, 6, .inl (f 2))), ((a 6), .inl (cI, 6, .inl (f 3))), ((a 7), .inl (cI, 6, .inl (f 4))), ((a 8), .inl (cI, 6, .inl (f 5))), ((a 9), .inl (cI, 6, .inl (f 6))), ((b 0), .inr (2, [.ref (b 1), .ref (b 4), .int (nI (stG q2)), .int (nI (stS q2)), .int (stM q2), .int (nI (stN q2)), .int (stO q2), .int (stV q2), .int (nI (stI q2))])), ((b 1), .inr (0, [.ref (b 2), .ref (b 3), .int (nI ((stB q2).length))])), ((b 2), .inl (cI, 12, .inl (g 0))), ((b 3), .inl (cI, 12, .inl (g 1))), ((b 4), .inr (1, [.ref (b 5), .ref (b 6), .ref (b 7), .ref (b 8), .ref (b 9), .int (nI ((stT q2).length))])), ((b 5), .inl (cI, 6, .inl (g 2))), ((b 6), .inl (cI, 6, .inl (g 3))), ((b 7), .inl (cI, 6, .inl (g 4))), ((b 8), .inl (cI, 6, .inl (g 5))), ((b 9), .inl (cI, 6, .inl (g 6))), (mo, .inr (4, [.int tw, .int (nI (stS q)), .int (stM q), .int (nI ((stT q).length)), .ref qi, .ref qs, .ref qe, .ref qn, .ref qk])), (qi, .inl (cI, 6, .inl gi)), (qs, .inl (cI, 6, .inl gs)), (qe, .inl (cI, 6, .inl ge)), (qn, .inl (cI, 42, .inl w)), (qk, .inl (cI, 42, .inl kp)), (o, .inl (cL, 1, .inr (.inl fo)))] → va_S A ss.heap H locs → ∀ ls : Array Slot, lv_has ls 9 [(0, .ref sc), (1, .ref x), (2, .ref mo), (3, .ref o), (4, .int (nI i))] → W p l e room_1 ss m #[.ref sc] below meth c H locs cl sl Q (F0 m 23 ls []) := by
  intro n
  induction n with
  | zero => intro i k _ _ h; exact absurd h (by omega)
  | succ n ih =>
    intro i k hik hiL hn cl sl f g q q2 tw gi gs ge w kp fo hcl hsl hR hN hO hI H locs hP hD hS ls hl
    obtain ⟨hx, hb, hml, hown, hts⟩ := id F
    refine lv_iload hx hb dL_law_23 (lv_at hl 4 rfl) ?_
    refine lv_aload_n hx hb dL_law_25 rfl (lv_at hl 0 rfl) ?_
    refine va_slen hx hb hX hbl hbA hS dL_law_26 ?_
    refine lv_iconst (v := nI 4) hx hb dL_law_27 (by decide +kernel) ?_
    refine lv_isub hx hb dL_law_28 ?_
    refine lv_icmp_gt (tgt := 1516) hx hb dL_law_29 (by decide) (fun h9 => ?_) (fun h9 => ?_)
    · exact KE cl sl H locs ls (by omega) (by omega) hS
    · have hi4 := lw_end hL (by omega) h9
      have hk : k ≤ 511 := by omega
      refine lv_aload_n hx hb dL_law_32 rfl (lv_at hl 0 rfl) ?_
      refine lv_iload hx hb dL_law_33 (lv_at hl 4 rfl) ?_
      refine k_sld hx hb hX hbl hbA hS i (by omega) (by omega) dL_law_35 ?_
      refine lv_bipush (v := nI 63) hx hb dL_law_36 (by decide +kernel) ?_
      refine lv_iand hx hb dL_law_38 ?_
      obtain ⟨j, hj, ej⟩ := pk_andE (xs i) (m := nI 63) 6 (by decide +kernel)
      refine k_top (v := nI j) ej ?_
      have KK : ∀ (cl sl : Nat) (f : Nat → Nat → Int32) (g : Nat → Nat → Int32) (q : St) (q2 : St) (tw : Int32) (gi : Nat → Int32) (gs : Nat → Int32) (ge : Nat → Int32) (w : Nat → Int32) (kp : Nat → Int32) (fo : Nat → Int64), cl ≤ 40 + 2 * (k + 1) → sl ≤ 500 + 20 * (k + 1) → rR f q → rN gi gs ge w q → okS q → stI q ≤ 60 * (k + 1) → ∀ (H : Heap) (locs : List Loc), va_P D vwCl [(x, .inr (3, [.ref (a 0), .ref (b 0)])), ((a 0), .inr (2, [.ref (a 1), .ref (a 4), .int (nI (stG q)), .int (nI (stS q)), .int (stM q), .int (nI (stN q)), .int (stO q), .int (stV q), .int (nI (stI q))])), ((a 1), .inr (0, [.ref (a 2), .ref (a 3), .int (nI ((stB q).length))])), ((a 2), .inl (cI, 12, .inl (f 0))), ((a 3), .inl (cI, 12, .inl (f 1))), ((a 4), .inr (1, [.ref (a 5), .ref (a 6), .ref (a 7), .ref (a 8), .ref (a 9), .int (nI ((stT q).length))])), ((a 5), .inl (cI, 6, .inl (f 2))), ((a 6), .inl (cI, 6, .inl (f 3))), ((a 7), .inl (cI, 6, .inl (f 4))), ((a 8), .inl (cI, 6, .inl (f 5))), ((a 9), .inl (cI, 6, .inl (f 6))), ((b 0), .inr (2, [.ref (b 1), .ref (b 4), .int (nI (stG q2)), .int (nI (stS q2)), .int (stM q2), .int (nI (stN q2)), .int (stO q2), .int (stV q2), .int (nI (stI q2))])), ((b 1), .inr (0, [.ref (b 2), .ref (b 3), .int (nI ((stB q2).length))])), ((b 2), .inl (cI, 12, .inl (g 0))), ((b 3), .inl (cI, 12, .inl (g 1))), ((b 4), .inr (1, [.ref (b 5), .ref (b 6), .ref (b 7), .ref (b 8), .ref (b 9), .int (nI ((stT q2).length))])), ((b 5), .inl (cI, 6, .inl (g 2))), ((b 6), .inl (cI, 6, .inl (g 3))), ((b 7), .inl (cI, 6, .inl (g 4))), ((b 8), .inl (cI, 6, .inl (g 5))), ((b 9), .inl (cI, 6, .inl (g 6))), (mo, .inr (4, [.int tw, .int (nI (stS q)), .int (stM q), .int (nI ((stT q).length)), .ref qi, .ref qs, .ref qe, .ref qn, .ref qk])), (qi, .inl (cI, 6, .inl gi)), (qs, .inl (cI, 6, .inl gs)), (qe, .inl (cI, 6, .inl ge)), (qn, .inl (cI, 42, .inl w)), (qk, .inl (cI, 42, .inl kp)), (o, .inl (cL, 1, .inr (.inl fo)))] H → va_D A [(x, .inr (3, [.ref (a 0), .ref (b 0)])), ((a 0), .inr (2, [.ref (a 1), .ref (a 4), .int (nI (stG q)), .int (nI (stS q)), .int (stM q), .int (nI (stN q)), .int (stO q), .int (stV q), .int (nI (stI q))])), ((a 1), .inr (0, [.ref (a 2), .ref (a 3), .int (nI ((stB q).length))])), ((a 2), .inl (cI, 12, .inl (f 0))), ((a 3), .inl (cI, 12, .inl (f 1))), ((a 4), .inr (1, [.ref (a 5), .ref (a 6), .ref (a 7), .ref (a 8), .ref (a 9), .int (nI ((stT q).length))])), ((a 5), .inl (cI, 6, .inl (f 2))), ((a 6), .inl (cI, 6, .inl (f 3))), ((a 7), .inl (cI, 6, .inl (f 4))), ((a 8), .inl (cI, 6, .inl (f 5))), ((a 9), .inl (cI, 6, .inl (f 6))), ((b 0), .inr (2, [.ref (b 1), .ref (b 4), .int (nI (stG q2)), .int (nI (stS q2)), .int (stM q2), .int (nI (stN q2)), .int (stO q2), .int (stV q2), .int (nI (stI q2))])), ((b 1), .inr (0, [.ref (b 2), .ref (b 3), .int (nI ((stB q2).length))])), ((b 2), .inl (cI, 12, .inl (g 0))), ((b 3), .inl (cI, 12, .inl (g 1))), ((b 4), .inr (1, [.ref (b 5), .ref (b 6), .ref (b 7), .ref (b 8), .ref (b 9), .int (nI ((stT q2).length))])), ((b 5), .inl (cI, 6, .inl (g 2))), ((b 6), .inl (cI, 6, .inl (g 3))), ((b 7), .inl (cI, 6, .inl (g 4))), ((b 8), .inl (cI, 6, .inl (g 5))), ((b 9), .inl (cI, 6, .inl (g 6))), (mo, .inr (4, [.int tw, .int (nI (stS q)), .int (stM q), .int (nI ((stT q).length)), .ref qi, .ref qs, .ref qe, .ref qn, .ref qk])), (qi, .inl (cI, 6, .inl gi)), (qs, .inl (cI, 6, .inl gs)), (qe, .inl (cI, 6, .inl ge)), (qn, .inl (cI, 42, .inl w)), (qk, .inl (cI, 42, .inl kp)), (o, .inl (cL, 1, .inr (.inl fo)))] → va_S A ss.heap H locs → ∀ ls : Array Slot, lv_has ls 9 [(0, .ref sc), (1, .ref x), (2, .ref mo), (3, .ref o), (4, .int (nI i))] → W p l e room_1 ss m #[.ref sc] below meth c H locs cl sl Q (F0 m 1510 ls []) := by
        intro cl sl f g q q2 tw gi gs ge w kp fo hcl hsl hR hN hO hI H locs hP hD hS ls hl
        refine lv_iinc (v := nI (i + 4)) (lv' := [(4, .int (nI (i + 4))), (0, .ref sc), (1, .ref x), (2, .ref mo), (3, .ref o)]) hx hb dL_law_1510 hl (k := 4) rfl (nI_add i 4) (by decide) rfl (fun ls hl => ?_)
        refine lv_goto (tgt := 23) hx hb dL_law_1513 (by decide) ?_
        exact ih (i + 4) (k + 1) (by omega) hi4 (by omega) cl sl f g q q2 tw gi gs ge w kp fo hcl hsl hR hN hO hI H locs hP hD hS ls (lv_sub hl [1, 2, 3, 4, 0] rfl)
      rcases Nat.lt_or_ge j 36 with hj2 | hj2
      · have hjj : j = 0 ∨ j = 1 ∨ j = 2 ∨ j = 3 ∨ j = 4 ∨ j = 5 ∨ j = 6 ∨ j = 7 ∨ j = 8 ∨ j = 9 ∨ j = 10 ∨ j = 11 ∨ j = 12 ∨ j = 13 ∨ j = 14 ∨ j = 15 ∨ j = 16 ∨ j = 17 ∨ j = 18 ∨ j = 19 ∨ j = 20 ∨ j = 21 ∨ j = 22 ∨ j = 23 ∨ j = 24 ∨ j = 25 ∨ j = 26 ∨ j = 27 ∨ j = 28 ∨ j = 29 ∨ j = 30 ∨ j = 31 ∨ j = 32 ∨ j = 33 ∨ j = 34 ∨ j = 35 := by omega
        rcases hjj with rfl | rfl | rfl | rfl | rfl | rfl | rfl | rfl | rfl | rfl | rfl | rfl | rfl | rfl | rfl | rfl | rfl | rfl | rfl | rfl | rfl | rfl | rfl | rfl | rfl | rfl | rfl | rfl | rfl | rfl | rfl | rfl | rfl | rfl | rfl | rfl
        · refine lv_tableIn (tgt := 196) (off := 157) hx hb dL_law_39 (by decide +kernel) (by decide +kernel) (by decide +kernel) (by decide) ?_
          exact law_c0 hl0 F hK hG hA hX hbl hbA hL hi4 (by omega) hcl hsl Q KK f g q q2 tw gi gs ge w kp fo hR hN hO hI H locs hP hD hS ls hl
        · refine lv_tableIn (tgt := 264) (off := 225) hx hb dL_law_39 (by decide +kernel) (by decide +kernel) (by decide +kernel) (by decide) ?_
          exact law_c1 hl0 F hK hG hA hX hbl hbA hL hi4 (by omega) hcl hsl Q KK f g q q2 tw gi gs ge w kp fo hR hN hO hI H locs hP hD hS ls hl
        · refine lv_tableIn (tgt := 320) (off := 281) hx hb dL_law_39 (by decide +kernel) (by decide +kernel) (by decide +kernel) (by decide) ?_
          exact law_c2 hl0 F hK hG hA hX hbl hbA hL hi4 (by omega) hcl hsl Q KK f g q q2 tw gi gs ge w kp fo hR hN hO hI H locs hP hD hS ls hl
        · refine lv_tableIn (tgt := 376) (off := 337) hx hb dL_law_39 (by decide +kernel) (by decide +kernel) (by decide +kernel) (by decide) ?_
          exact law_c3 hl0 F hK hG hA hX hbl hbA hL hi4 (by omega) hcl hsl Q KK f g q q2 tw gi gs ge w kp fo hR hN hO hI H locs hP hD hS ls hl
        · refine lv_tableIn (tgt := 432) (off := 393) hx hb dL_law_39 (by decide +kernel) (by decide +kernel) (by decide +kernel) (by decide) ?_
          exact law_c4 hl0 F hK hG hA hX hbl hbA hL hi4 (by omega) hcl hsl Q KK f g q q2 tw gi gs ge w kp fo hR hN hO hI H locs hP hD hS ls hl
        · refine lv_tableIn (tgt := 488) (off := 449) hx hb dL_law_39 (by decide +kernel) (by decide +kernel) (by decide +kernel) (by decide) ?_
          exact law_c5 hl0 F hK hG hA hX hbl hbA hL hi4 (by omega) hcl hsl Q KK f g q q2 tw gi gs ge w kp fo hR hN hO hI H locs hP hD hS ls hl
        · refine lv_tableIn (tgt := 544) (off := 505) hx hb dL_law_39 (by decide +kernel) (by decide +kernel) (by decide +kernel) (by decide) ?_
          exact law_c6 hl0 F hK hG hA hX hbl hbA hL hi4 (by omega) hcl hsl Q KK f g q q2 tw gi gs ge w kp fo hR hN hO hI H locs hP hD hS ls hl
        · refine lv_tableIn (tgt := 624) (off := 585) hx hb dL_law_39 (by decide +kernel) (by decide +kernel) (by decide +kernel) (by decide) ?_
          exact law_c7 hl0 F hK hG hA hX hbl hbA hL hi4 (by omega) hcl hsl Q KK f g q q2 tw gi gs ge w kp fo hR hN hO hI H locs hP hD hS ls hl
        · refine lv_tableIn (tgt := 680) (off := 641) hx hb dL_law_39 (by decide +kernel) (by decide +kernel) (by decide +kernel) (by decide) ?_
          exact law_c8 hl0 F hK hG hA hX hbl hbA hL hi4 (by omega) hcl hsl Q KK f g q q2 tw gi gs ge w kp fo hR hN hO hI H locs hP hD hS ls hl
        · refine lv_tableIn (tgt := 693) (off := 654) hx hb dL_law_39 (by decide +kernel) (by decide +kernel) (by decide +kernel) (by decide) ?_
          exact law_c9 hl0 F hK hG hA hX hbl hbA hL hi4 (by omega) hcl hsl Q KK f g q q2 tw gi gs ge w kp fo hR hN hO hI H locs hP hD hS ls hl
        · refine lv_tableIn (tgt := 706) (off := 667) hx hb dL_law_39 (by decide +kernel) (by decide +kernel) (by decide +kernel) (by decide) ?_
          exact law_c10 hl0 F hK hG hA hX hbl hbA hL hi4 (by omega) hcl hsl Q KK f g q q2 tw gi gs ge w kp fo hR hN hO hI H locs hP hD hS ls hl
        · refine lv_tableIn (tgt := 762) (off := 723) hx hb dL_law_39 (by decide +kernel) (by decide +kernel) (by decide +kernel) (by decide) ?_
          exact law_c11 hl0 F hK hG hA hX hbl hbA hL hi4 (by omega) hcl hsl Q KK f g q q2 tw gi gs ge w kp fo hR hN hO hI H locs hP hD hS ls hl
        · refine lv_tableIn (tgt := 818) (off := 779) hx hb dL_law_39 (by decide +kernel) (by decide +kernel) (by decide +kernel) (by decide) ?_
          exact law_c12 hl0 F hK hG hA hX hbl hbA hL hi4 (by omega) hcl hsl Q KK f g q q2 tw gi gs ge w kp fo hR hN hO hI H locs hP hD hS ls hl
        · refine lv_tableIn (tgt := 831) (off := 792) hx hb dL_law_39 (by decide +kernel) (by decide +kernel) (by decide +kernel) (by decide) ?_
          exact law_c13 hl0 F hK hG hA hX hbl hbA hL hi4 (by omega) hcl hsl Q KK f g q q2 tw gi gs ge w kp fo hR hN hO hI H locs hP hD hS ls hl
        · refine lv_tableIn (tgt := 844) (off := 805) hx hb dL_law_39 (by decide +kernel) (by decide +kernel) (by decide +kernel) (by decide) ?_
          exact law_c14 hl0 F hK hG hA hX hbl hbA hL hi4 (by omega) hcl hsl Q KK f g q q2 tw gi gs ge w kp fo hR hN hO hI H locs hP hD hS ls hl
        · refine lv_tableIn (tgt := 900) (off := 861) hx hb dL_law_39 (by decide +kernel) (by decide +kernel) (by decide +kernel) (by decide) ?_
          exact law_c15 hl0 F hK hG hA hX hbl hbA hL hi4 (by omega) hcl hsl Q KK f g q q2 tw gi gs ge w kp fo hR hN hO hI H locs hP hD hS ls hl
        · refine lv_tableIn (tgt := 956) (off := 917) hx hb dL_law_39 (by decide +kernel) (by decide +kernel) (by decide +kernel) (by decide) ?_
          exact law_c16 hl0 F hK hG hA hX hbl hbA hL hi4 (by omega) hcl hsl Q KK f g q q2 tw gi gs ge w kp fo hR hN hO hI H locs hP hD hS ls hl
        · refine lv_tableIn (tgt := 969) (off := 930) hx hb dL_law_39 (by decide +kernel) (by decide +kernel) (by decide +kernel) (by decide) ?_
          exact law_c17 hl0 F hK hG hA hX hbl hbA hL hi4 (by omega) hcl hsl Q KK f g q q2 tw gi gs ge w kp fo hR hN hO hI H locs hP hD hS ls hl
        · refine lv_tableIn (tgt := 982) (off := 943) hx hb dL_law_39 (by decide +kernel) (by decide +kernel) (by decide +kernel) (by decide) ?_
          exact law_c18 hl0 F hK hG hA hX hbl hbA hL hi4 (by omega) hcl hsl Q KK f g q q2 tw gi gs ge w kp fo hR hN hO hI H locs hP hD hS ls hl
        · refine lv_tableIn (tgt := 995) (off := 956) hx hb dL_law_39 (by decide +kernel) (by decide +kernel) (by decide +kernel) (by decide) ?_
          exact law_c19 hl0 F hK hG hA hX hbl hbA hL hi4 (by omega) hcl hsl Q KK f g q q2 tw gi gs ge w kp fo hR hN hO hI H locs hP hD hS ls hl
        · refine lv_tableIn (tgt := 1008) (off := 969) hx hb dL_law_39 (by decide +kernel) (by decide +kernel) (by decide +kernel) (by decide) ?_
          exact law_c20 hl0 F hK hG hA hX hbl hbA hL hi4 (by omega) hcl hsl Q KK f g q q2 tw gi gs ge w kp fo hR hN hO hI H locs hP hD hS ls hl
        · refine lv_tableIn (tgt := 1021) (off := 982) hx hb dL_law_39 (by decide +kernel) (by decide +kernel) (by decide +kernel) (by decide) ?_
          exact law_c21 hl0 F hK hG hA hX hbl hbA hL hi4 (by omega) hcl hsl Q KK f g q q2 tw gi gs ge w kp fo hR hN hO hI H locs hP hD hS ls hl
        · refine lv_tableIn (tgt := 1034) (off := 995) hx hb dL_law_39 (by decide +kernel) (by decide +kernel) (by decide +kernel) (by decide) ?_
          exact law_c22 hl0 F hK hG hA hX hbl hbA hL hi4 (by omega) hcl hsl Q KK f g q q2 tw gi gs ge w kp fo hR hN hO hI H locs hP hD hS ls hl
        · refine lv_tableIn (tgt := 1047) (off := 1008) hx hb dL_law_39 (by decide +kernel) (by decide +kernel) (by decide +kernel) (by decide) ?_
          exact law_c23 hl0 F hK hG hA hX hbl hbA hL hi4 (by omega) hcl hsl Q KK f g q q2 tw gi gs ge w kp fo hR hN hO hI H locs hP hD hS ls hl
        · refine lv_tableIn (tgt := 1060) (off := 1021) hx hb dL_law_39 (by decide +kernel) (by decide +kernel) (by decide +kernel) (by decide) ?_
          exact law_c24 hl0 F hK hG hA hX hbl hbA hL hi4 (by omega) hcl hsl Q KK f g q q2 tw gi gs ge w kp fo hR hN hO hI H locs hP hD hS ls hl
        · refine lv_tableIn (tgt := 1123) (off := 1084) hx hb dL_law_39 (by decide +kernel) (by decide +kernel) (by decide +kernel) (by decide) ?_
          exact law_c25 hl0 F hK hG hA hX hbl hbA hL hi4 (by omega) hcl hsl Q KK f g q q2 tw gi gs ge w kp fo hR hN hO hI H locs hP hD hS ls hl
        · refine lv_tableIn (tgt := 1179) (off := 1140) hx hb dL_law_39 (by decide +kernel) (by decide +kernel) (by decide +kernel) (by decide) ?_
          exact law_c26 hl0 F hK hG hA hX hbl hbA hL hi4 (by omega) hcl hsl Q KK f g q q2 tw gi gs ge w kp fo hR hN hO hI H locs hP hD hS ls hl
        · refine lv_tableIn (tgt := 1235) (off := 1196) hx hb dL_law_39 (by decide +kernel) (by decide +kernel) (by decide +kernel) (by decide) ?_
          exact law_c27 hl0 F hK hG hA hX hbl hbA hL hi4 (by omega) hcl hsl Q KK f g q q2 tw gi gs ge w kp fo hR hN hO hI H locs hP hD hS ls hl
        · refine lv_tableIn (tgt := 1248) (off := 1209) hx hb dL_law_39 (by decide +kernel) (by decide +kernel) (by decide +kernel) (by decide) ?_
          exact law_c28 hl0 F hK hG hA hX hbl hbA hL hi4 (by omega) hcl hsl Q KK f g q q2 tw gi gs ge w kp fo hR hN hO hI H locs hP hD hS ls hl
        · refine lv_tableIn (tgt := 1304) (off := 1265) hx hb dL_law_39 (by decide +kernel) (by decide +kernel) (by decide +kernel) (by decide) ?_
          exact law_c29 hl0 F hK hG hA hX hbl hbA hL hi4 (by omega) hcl hsl Q KK f g q q2 tw gi gs ge w kp fo hR hN hO hI H locs hP hD hS ls hl
        · refine lv_tableIn (tgt := 1317) (off := 1278) hx hb dL_law_39 (by decide +kernel) (by decide +kernel) (by decide +kernel) (by decide) ?_
          exact law_c30 hl0 F hK hG hA hX hbl hbA hL hi4 (by omega) hcl hsl Q KK f g q q2 tw gi gs ge w kp fo hR hN hO hI H locs hP hD hS ls hl
        · refine lv_tableIn (tgt := 1373) (off := 1334) hx hb dL_law_39 (by decide +kernel) (by decide +kernel) (by decide +kernel) (by decide) ?_
          exact law_c31 hl0 F hK hG hA hX hbl hbA hL hi4 (by omega) hcl hsl Q KK f g q q2 tw gi gs ge w kp fo hR hN hO hI H locs hP hD hS ls hl
        · refine lv_tableIn (tgt := 1386) (off := 1347) hx hb dL_law_39 (by decide +kernel) (by decide +kernel) (by decide +kernel) (by decide) ?_
          exact law_c32 hl0 F hK hG hA hX hbl hbA hL hi4 (by omega) hcl hsl Q KK f g q q2 tw gi gs ge w kp fo hR hN hO hI H locs hP hD hS ls hl
        · refine lv_tableIn (tgt := 1399) (off := 1360) hx hb dL_law_39 (by decide +kernel) (by decide +kernel) (by decide +kernel) (by decide) ?_
          exact law_c33 hl0 F hK hG hA hX hbl hbA hL hi4 (by omega) hcl hsl Q KK f g q q2 tw gi gs ge w kp fo hR hN hO hI H locs hP hD hS ls hl
        · refine lv_tableIn (tgt := 1455) (off := 1416) hx hb dL_law_39 (by decide +kernel) (by decide +kernel) (by decide +kernel) (by decide) ?_
          exact law_c34 hl0 F hK hG hA hX hbl hbA hL hi4 (by omega) hcl hsl Q KK f g q q2 tw gi gs ge w kp fo hR hN hO hI H locs hP hD hS ls hl
        · refine lv_tableIn (tgt := 1496) (off := 1457) hx hb dL_law_39 (by decide +kernel) (by decide +kernel) (by decide +kernel) (by decide) ?_
          exact law_c35 hl0 F hK hG hA hX hbl hbA hL hi4 (by omega) hcl hsl Q KK f g q q2 tw gi gs ge w kp fo hR hN hO hI H locs hP hD hS ls hl
      · refine lv_tableOut (tgt := 1510) hx hb dL_law_39 (Or.inr (by rw [nI_toInt (by omega)]; omega)) (by decide) ?_
        exact KK cl sl f g q q2 tw gi gs ge w kp fo (by omega) (by omega) hR hN hO (by omega) H locs hP hD hS ls hl
