abbrev rm_X4_isSame : Room := { frames := 3, cells := 1, slots := 5, locals := 65 }
set_option maxHeartbeats 4000000 in
set_option maxRecDepth 100000 in
theorem c_X4_isSame (l : Launch) (D : va_G) (cI : ClassId) (cQ : ClassId) (x : Nat) (a : Nat → Nat) (b : Nat → Nat) (f : Nat → Nat → Int32) (g : Nat → Nat → Int32) (q : St) (q2 : St) (s : Nat) (ba : Nat) (ta : Nat) (Rb : List (Nat × Tp)) (Rt : List (Nat × Tk)) (hR : rR f q) (hq : rQ q Rb Rt) (hok : okQ q) (hI : stI q < 900000) : kM kri l yX4_isSame wsX4_isSame rm_X4_isSame D [(cI, .int), (cQ, .array .int)] [.ref s, .ref x] ([(s, .inr (4, [.int (nI (stI q)), .int (nI (stN q)), .int (stO q), .int (stV q), .int (nI (stG q)), .int (nI (stS q)), .int (stM q), .ref ba, .ref ta])), (ba, .inl (cQ, Rb.length, .inr (.inr (.inr (.inr (qf (ad Rb))))))), (ta, .inl (cQ, Rt.length, .inr (.inr (.inr (.inr (qf (ad Rt)))))))] ++ ((sT cI (Rb.map bq) (Rt.map tq)) ++ ((xA cI x a b f q) ++ ((xB cI b g q2) ++ [])))) (fun (r : Int32) (u : Unit) => r = 1) (fun (u : Unit) => ([(s, .inr (4, [.int (nI (stI q)), .int (nI (stN q)), .int (stO q), .int (stV q), .int (nI (stG q)), .int (nI (stS q)), .int (stM q), .ref ba, .ref ta])), (ba, .inl (cQ, Rb.length, .inr (.inr (.inr (.inr (qf (ad Rb))))))), (ta, .inl (cQ, Rt.length, .inr (.inr (.inr (.inr (qf (ad Rt)))))))] ++ ((sT cI (Rb.map bq) (Rt.map tq)) ++ ((xA cI x a b f q) ++ ((xB cI b g q2) ++ []))))) := by
  refine k_bodyZ (cc := cX4_isSame) (maxL := 9) (by decide) rfl (Nat.le_of_ble_eq_true rfl) ?_
  intro p e ss m args below meth c A Q F hname hA hG hK hP hD hS ret ls hl
  obtain ⟨hx, hb, hml, hown, hts⟩ := id F
  have hP : va_P D vwCl ([(s, .inr (4, [.int (nI (stI q)), .int (nI (stN q)), .int (stO q), .int (stV q), .int (nI (stG q)), .int (nI (stS q)), .int (stM q), .ref ba, .ref ta])), (ba, .inl (cQ, Rb.length, .inr (.inr (.inr (.inr (qf (ad Rb))))))), (ta, .inl (cQ, Rt.length, .inr (.inr (.inr (.inr (qf (ad Rt)))))))] ++ ((sT cI (Rb.map bq) (Rt.map tq)) ++ ((xA cI x a b f q) ++ ((xB cI b g q2) ++ [])))) ss.heap := hP
  have hD : va_D A ([(s, .inr (4, [.int (nI (stI q)), .int (nI (stN q)), .int (stO q), .int (stV q), .int (nI (stG q)), .int (nI (stS q)), .int (stM q), .ref ba, .ref ta])), (ba, .inl (cQ, Rb.length, .inr (.inr (.inr (.inr (qf (ad Rb))))))), (ta, .inl (cQ, Rt.length, .inr (.inr (.inr (.inr (qf (ad Rt)))))))] ++ ((sT cI (Rb.map bq) (Rt.map tq)) ++ ((xA cI x a b f q) ++ ((xB cI b g q2) ++ [])))) := hD
  have hl : lv_has ls 9 [(0, .ref s), (1, .ref x)] := hl
  have iX4 : ∀ w ∈ u_ws RX4 TX4 9, w ∈ wsX4_isSame := by decide +kernel
  have f7 := hts (.fieldLink RX4 7 "SmallerTalkLaw$Sim" "gear" "I") (by decide +kernel)
  have f13 := hts (.fieldLink RX4 13 "SmallerTalkLaw$Sim" "stones" "I") (by decide +kernel)
  have f16 := hts (.fieldLink RX4 16 "SmallerTalkLaw$Sim" "mesh" "I") (by decide +kernel)
  have f21 := hts (.fieldLink RX4 21 "SmallerTalkLaw$Sim" "belt" "[[I") (by decide +kernel)
  have f25 := hts (.fieldLink RX4 25 "SmallerTalkLaw$Sim" "talkers" "[[I") (by decide +kernel)
  have f29 := hts (.fieldLink RX4 29 "SmallerTalkLaw$Sim" "minute" "I") (by decide +kernel)
  have f32 := hts (.fieldLink RX4 32 "SmallerTalkLaw$Sim" "nods" "I") (by decide +kernel)
  have f35 := hts (.fieldLink RX4 35 "SmallerTalkLaw$Sim" "bottles" "I") (by decide +kernel)
  have f38 := hts (.fieldLink RX4 38 "SmallerTalkLaw$Sim" "sieved" "I") (by decide +kernel)
  have hO := hok.1
  have hX := okQ_X hok (by omega)
  have hlB : Rb.length = (stB q).length := by rw [hq.1, sn_len]
  have hlT : Rt.length = (stT q).length := by rw [hq.2, sn_len]
  have hb12 : Rb.length ≤ 12 := by have := hO.2.1; omega
  have ht6 : Rt.length ≤ 6 := by have := hO.2.2.2.1; omega
  have hXs : okX (sn Rt) := by rw [← hq.2]; exact hX
  have o5 := hO.2.2.2.2.1
  have hct := ctT_le hO
  have hsp := spT_le hO
  have o6 := hO.2.2.2.2.2.1
  have o7 := hO.2.2.2.2.2.2
  have hns := ns_le hO.1 hO.2.1
  refine lv_iconst (v := nI 5) hx hb dX4_isSame_0 (by decide +kernel) ?_
  refine z_newa hx hb (hts (.arrayClass .int) (by decide +kernel)) hK 0 rfl hP hD hS hA 5 rfl (by omega) (Nat.le_of_ble_eq_true rfl) (Nat.le_of_ble_eq_true rfl) dX4_isSame_1 (fun q_1 H hP hD hS => ?_)
  have hP : va_P D vwCl ([(s, .inr (4, [.int (nI (stI q)), .int (nI (stN q)), .int (stO q), .int (stV q), .int (nI (stG q)), .int (nI (stS q)), .int (stM q), .ref ba, .ref ta])), (ba, .inl (cQ, Rb.length, .inr (.inr (.inr (.inr (qf (ad Rb))))))), (ta, .inl (cQ, Rt.length, .inr (.inr (.inr (.inr (qf (ad Rt))))))), (q_1, .inl (cI, 5, .inl (fun _ => 0)))] ++ ((sT cI (Rb.map bq) (Rt.map tq)) ++ ((xA cI x a b f q) ++ ((xB cI b g q2) ++ [])))) H := hP
  have hD : va_D A ([(s, .inr (4, [.int (nI (stI q)), .int (nI (stN q)), .int (stO q), .int (stV q), .int (nI (stG q)), .int (nI (stS q)), .int (stM q), .ref ba, .ref ta])), (ba, .inl (cQ, Rb.length, .inr (.inr (.inr (.inr (qf (ad Rb))))))), (ta, .inl (cQ, Rt.length, .inr (.inr (.inr (.inr (qf (ad Rt))))))), (q_1, .inl (cI, 5, .inl (fun _ => 0)))] ++ ((sT cI (Rb.map bq) (Rt.map tq)) ++ ((xA cI x a b f q) ++ ((xB cI b g q2) ++ [])))) := hD
  refine lv_astore_n (lv' := [(2, .ref q_1), (0, .ref s), (1, .ref x)]) hx hb dX4_isSame_3 rfl hl (by decide) rfl (fun ls hl => ?_)
  refine lv_iconst (v := -1) hx hb dX4_isSame_4 (by decide +kernel) ?_
  refine lv_istore_n (lv' := [(3, .int (-1)), (2, .ref q_1), (0, .ref s), (1, .ref x)]) hx hb dX4_isSame_5 rfl hl (by decide) rfl (fun ls hl => ?_)
  refine lv_aload_n hx hb dX4_isSame_6 rfl (lv_at hl 2 rfl) ?_
  refine va_get (D := D) (ci := 4) (v := .ref ba) (C := RX4) (T := TX4) (N := 9) hx hb hts iX4 hown hK hP 0 rfl rfl 7 (by decide) f21 (fun _ h9 => h9) rfl dX4_isSame_7 ?_
  refine va_alen hx hb hK hP 1 1 rfl rfl (v := nI Rb.length) rfl dX4_isSame_10 ?_
  refine lv_iconst (v := nI 1) hx hb dX4_isSame_11 (by decide +kernel) ?_
  refine k_isub hx hb (nI (stB q).length - nI 1) (by rw [hlB]) dX4_isSame_12 ?_
  refine lv_istore (lv' := [(4, .int (nI (stB q).length - nI 1)), (3, .int (-1)), (2, .ref q_1), (0, .ref s), (1, .ref x)]) hx hb dX4_isSame_13 hl (by decide) rfl (fun ls hl => ?_)
  have loop_2 : ∀ (n : Nat) (k : Nat) (lv : Int32) (ks : Nat → Int32), (k ≤ (stB q).length) → (lgR (stB q) k lv) → (ksR (stB q) k ks) → k < n → ∀ (H : Heap) (locs : List Loc), va_P D vwCl ([(s, .inr (4, [.int (nI (stI q)), .int (nI (stN q)), .int (stO q), .int (stV q), .int (nI (stG q)), .int (nI (stS q)), .int (stM q), .ref ba, .ref ta])), (ba, .inl (cQ, Rb.length, .inr (.inr (.inr (.inr (qf (ad Rb))))))), (ta, .inl (cQ, Rt.length, .inr (.inr (.inr (.inr (qf (ad Rt))))))), (q_1, .inl (cI, 5, .inl ks))] ++ ((sT cI (Rb.map bq) (Rt.map tq)) ++ ((xA cI x a b f q) ++ ((xB cI b g q2) ++ [])))) H → va_D A ([(s, .inr (4, [.int (nI (stI q)), .int (nI (stN q)), .int (stO q), .int (stV q), .int (nI (stG q)), .int (nI (stS q)), .int (stM q), .ref ba, .ref ta])), (ba, .inl (cQ, Rb.length, .inr (.inr (.inr (.inr (qf (ad Rb))))))), (ta, .inl (cQ, Rt.length, .inr (.inr (.inr (.inr (qf (ad Rt))))))), (q_1, .inl (cI, 5, .inl ks))] ++ ((sT cI (Rb.map bq) (Rt.map tq)) ++ ((xA cI x a b f q) ++ ((xB cI b g q2) ++ [])))) → va_S A ss.heap H locs → ∀ ls : Array Slot, lv_has ls 9 [(0, .ref s), (1, .ref x), (2, .ref q_1), (3, .int lv), (4, .int (nI k - nI 1))] → W p l e rm_X4_isSame ss m args below meth c H locs 1 5 Q (F0 m 15 ls []) := by
    intro n
    induction n with
    | zero => intro k lv ks hk hlg hks hn; exact absurd hn (by omega)
    | succ n ih =>
      intro k lv ks hk hlg hks hn H locs hP hD hS ls hl
      rcases (show k = 0 ∨ (0 < k ∧ k = (stB q).length ∧ lv = -1) ∨ (0 < k ∧ ∃ b, k ≤ b ∧ b < (stB q).length ∧ lv = nI b ∧ ∀ j, k ≤ j → j < (stB q).length → ((stB q).getD j tp0).2 ≤ ((stB q).getD b tp0).2 ∧ (((stB q).getD j tp0).2 = ((stB q).getD b tp0).2 → b ≤ j)) from (Nat.eq_zero_or_pos k).elim Or.inl (fun h => Or.inr (hlg.elim (fun h2 => Or.inl ⟨h, h2⟩) (fun h2 => Or.inr ⟨h, h2⟩)))) with hk0 | ⟨hk0, hlg9, rfl⟩ | ⟨hk0, b9, hb1, hb2, rfl, hb3⟩
      · skip
        subst hk0
        rw [z_d0] at hl
        have elv := lgR_0 hO.1 hlg
        refine lv_iload hx hb dX4_isSame_15 (lv_at hl 4 rfl) ?_
        refine lv_if_lt (tgt := 128) hx hb dX4_isSame_17 (by decide) (fun c_17 => ?_) (fun c_17 => ?_)
        · skip
          refine lv_iconst (v := nI 0) hx hb dX4_isSame_128 (by decide +kernel) ?_
          refine lv_istore (lv' := [(4, .int (nI 0)), (0, .ref s), (1, .ref x), (2, .ref q_1), (3, .int lv)]) hx hb dX4_isSame_129 hl (by decide) rfl (fun ls hl => ?_)
          have loop_3 : ∀ (n : Nat) (i : Nat), (i ≤ 5) → 5 - i < n → ∀ (H : Heap) (locs : List Loc), va_P D vwCl ([(s, .inr (4, [.int (nI (stI q)), .int (nI (stN q)), .int (stO q), .int (stV q), .int (nI (stG q)), .int (nI (stS q)), .int (stM q), .ref ba, .ref ta])), (ba, .inl (cQ, Rb.length, .inr (.inr (.inr (.inr (qf (ad Rb))))))), (ta, .inl (cQ, Rt.length, .inr (.inr (.inr (.inr (qf (ad Rt))))))), (q_1, .inl (cI, 5, .inl ks))] ++ ((sT cI (Rb.map bq) (Rt.map tq)) ++ ((xA cI x a b f q) ++ ((xB cI b g q2) ++ [])))) H → va_D A ([(s, .inr (4, [.int (nI (stI q)), .int (nI (stN q)), .int (stO q), .int (stV q), .int (nI (stG q)), .int (nI (stS q)), .int (stM q), .ref ba, .ref ta])), (ba, .inl (cQ, Rb.length, .inr (.inr (.inr (.inr (qf (ad Rb))))))), (ta, .inl (cQ, Rt.length, .inr (.inr (.inr (.inr (qf (ad Rt))))))), (q_1, .inl (cI, 5, .inl ks))] ++ ((sT cI (Rb.map bq) (Rt.map tq)) ++ ((xA cI x a b f q) ++ ((xB cI b g q2) ++ [])))) → va_S A ss.heap H locs → ∀ ls : Array Slot, lv_has ls 9 [(0, .ref s), (1, .ref x), (2, .ref q_1), (3, .int lv), (4, .int (nI i))] → W p l e rm_X4_isSame ss m args below meth c H locs 1 5 Q (F0 m 131 ls []) := by
            intro n
            induction n with
            | zero => intro i hi hn; exact absurd hn (by omega)
            | succ n ih =>
              intro i hi hn H locs hP hD hS ls hl
              refine lv_iload hx hb dX4_isSame_131 (lv_at hl 4 rfl) ?_
              refine lv_iconst (v := nI 5) hx hb dX4_isSame_133 (by decide +kernel) ?_
              refine k_cmp_ge (tgt := 158) hx hb i 5 rfl rfl (by omega) (by omega) dX4_isSame_134 (by decide) (fun c_134 => ?_) (fun c_134 => ?_)
              · skip
                refine lv_iconst (v := nI 0) hx hb dX4_isSame_158 (by decide +kernel) ?_
                refine lv_istore (lv' := [(4, .int (nI 0)), (0, .ref s), (1, .ref x), (2, .ref q_1), (3, .int lv)]) hx hb dX4_isSame_159 hl (by decide) rfl (fun ls hl => ?_)
                refine lv_iconst (v := nI 0) hx hb dX4_isSame_161 (by decide +kernel) ?_
                refine lv_istore (lv' := [(5, .int (nI 0)), (4, .int (nI 0)), (0, .ref s), (1, .ref x), (2, .ref q_1), (3, .int lv)]) hx hb dX4_isSame_162 hl (by decide) rfl (fun ls hl => ?_)
                refine lv_iconst (v := -1) hx hb dX4_isSame_164 (by decide +kernel) ?_
                refine lv_istore (lv' := [(6, .int (-1)), (5, .int (nI 0)), (4, .int (nI 0)), (0, .ref s), (1, .ref x), (2, .ref q_1), (3, .int lv)]) hx hb dX4_isSame_165 hl (by decide) rfl (fun ls hl => ?_)
                refine lv_aload_n hx hb dX4_isSame_167 rfl (lv_at hl 3 rfl) ?_
                refine va_get (D := D) (ci := 4) (v := .ref ta) (C := RX4) (T := TX4) (N := 9) hx hb hts iX4 hown hK hP 0 rfl rfl 8 (by decide) f25 (fun _ h9 => h9) rfl dX4_isSame_168 ?_
                refine va_alen hx hb hK hP 2 1 rfl rfl (v := nI Rt.length) rfl dX4_isSame_171 ?_
                refine lv_iconst (v := nI 1) hx hb dX4_isSame_172 (by decide +kernel) ?_
                refine k_isub hx hb (nI (stT q).length - nI 1) (by rw [hlT]) dX4_isSame_173 ?_
                refine lv_istore (lv' := [(7, .int (nI (stT q).length - nI 1)), (6, .int (-1)), (5, .int (nI 0)), (4, .int (nI 0)), (0, .ref s), (1, .ref x), (2, .ref q_1), (3, .int lv)]) hx hb dX4_isSame_174 hl (by decide) rfl (fun ls hl => ?_)
                have loop_4 : ∀ (n : Nat) (k : Nat) (nv : Int32), (k ≤ (stT q).length) → (ntR (stT q) k nv) → k < n → ∀ (H : Heap) (locs : List Loc), va_P D vwCl ([(s, .inr (4, [.int (nI (stI q)), .int (nI (stN q)), .int (stO q), .int (stV q), .int (nI (stG q)), .int (nI (stS q)), .int (stM q), .ref ba, .ref ta])), (ba, .inl (cQ, Rb.length, .inr (.inr (.inr (.inr (qf (ad Rb))))))), (ta, .inl (cQ, Rt.length, .inr (.inr (.inr (.inr (qf (ad Rt))))))), (q_1, .inl (cI, 5, .inl ks))] ++ ((sT cI (Rb.map bq) (Rt.map tq)) ++ ((xA cI x a b f q) ++ ((xB cI b g q2) ++ [])))) H → va_D A ([(s, .inr (4, [.int (nI (stI q)), .int (nI (stN q)), .int (stO q), .int (stV q), .int (nI (stG q)), .int (nI (stS q)), .int (stM q), .ref ba, .ref ta])), (ba, .inl (cQ, Rb.length, .inr (.inr (.inr (.inr (qf (ad Rb))))))), (ta, .inl (cQ, Rt.length, .inr (.inr (.inr (.inr (qf (ad Rt))))))), (q_1, .inl (cI, 5, .inl ks))] ++ ((sT cI (Rb.map bq) (Rt.map tq)) ++ ((xA cI x a b f q) ++ ((xB cI b g q2) ++ [])))) → va_S A ss.heap H locs → ∀ ls : Array Slot, lv_has ls 9 [(0, .ref s), (1, .ref x), (3, .int lv), (4, .int (nI (ctT (stT q) - cnN (isT (stT q)) k))), (5, .int (nI (spT (stT q) - spN (stT q) k))), (6, .int nv), (7, .int (nI k - nI 1))] → W p l e rm_X4_isSame ss m args below meth c H locs 1 5 Q (F0 m 176 ls []) := by
                  intro n
                  induction n with
                  | zero => intro k nv hk hnt hn; exact absurd hn (by omega)
                  | succ n ih =>
                    intro k nv hk hnt hn H locs hP hD hS ls hl
                    rcases (show k = 0 ∨ (0 < k ∧ ¬ tkX ((stT q).getD (k - 1) tk0) = -1) ∨ (0 < k ∧ tkX ((stT q).getD (k - 1) tk0) = -1 ∧ (∀ j, k ≤ j → j < (stT q).length → ¬ tkX ((stT q).getD j tk0) = -1) ∧ nv = -1) ∨ (0 < k ∧ tkX ((stT q).getD (k - 1) tk0) = -1 ∧ ∃ b, k ≤ b ∧ b < (stT q).length ∧ nv = nI b ∧ tkX ((stT q).getD b tk0) = -1 ∧ ∀ j, k ≤ j → j < (stT q).length → tkX ((stT q).getD j tk0) = -1 → tkP ((stT q).getD b tk0) ≤ tkP ((stT q).getD j tk0) ∧ (tkP ((stT q).getD j tk0) = tkP ((stT q).getD b tk0) → b ≤ j)) from (Nat.eq_zero_or_pos k).elim Or.inl (fun h => Or.inr ((Classical.em (tkX ((stT q).getD (k - 1) tk0) = -1)).elim (fun hx => Or.inr (hnt.elim (fun h2 => Or.inl ⟨h, hx, h2⟩) (fun h2 => Or.inr ⟨h, hx, h2⟩))) (fun hx => Or.inl ⟨h, hx⟩)))) with hk0 | ⟨hk0, hx9⟩ | ⟨hk0, hx9, hn9, rfl⟩ | ⟨hk0, hx9, b9, hb1, hb2, rfl, hbx, hb3⟩
                    · skip
                      subst hk0
                      rw [z_d0] at hl
                      have env := ntR_0 hnt
                      refine lv_iload hx hb dX4_isSame_176 (lv_at hl 6 rfl) ?_
                      refine lv_if_lt (tgt := 288) hx hb dX4_isSame_178 (by decide) (fun c_178 => ?_) (fun c_178 => ?_)
                      · skip
                        refine lv_aload_n hx hb dX4_isSame_288 rfl (lv_at hl 1 rfl) ?_
                        refine kz_callX (As := []) (rest := []) F (c_ZX3_minute l D cI x a b f q ) gX4_isSame_X3_minute rfl (nA := 0) (by decide +kernel) rfl ⟨Nat.le_of_ble_eq_true rfl, Nat.le_of_ble_eq_true rfl⟩ hK hP hD hS hA hG (ci := 3) (q0 := 0) rfl rfl rfl zp_pn [0] rfl rfl hl.1 (Nat.le_of_ble_eq_true rfl) dX4_isSame_289 ⟨Nat.le_of_ble_eq_true rfl, Nat.le_of_ble_eq_true rfl⟩ (fun r_5 u H locs hr_289 hP hD hS => ?_)
                        try dsimp only at hr_289
                        have hP := z_PS z_pnb hP
                        have hD := z_DS z_pnb hD
                        have hP : va_P D vwCl ([(s, .inr (4, [.int (nI (stI q)), .int (nI (stN q)), .int (stO q), .int (stV q), .int (nI (stG q)), .int (nI (stS q)), .int (stM q), .ref ba, .ref ta])), (ba, .inl (cQ, Rb.length, .inr (.inr (.inr (.inr (qf (ad Rb))))))), (ta, .inl (cQ, Rt.length, .inr (.inr (.inr (.inr (qf (ad Rt))))))), (q_1, .inl (cI, 5, .inl ks))] ++ ((sT cI (Rb.map bq) (Rt.map tq)) ++ ((xA cI x a b f q) ++ ((xB cI b g q2) ++ [])))) H := hP
                        have hD : va_D A ([(s, .inr (4, [.int (nI (stI q)), .int (nI (stN q)), .int (stO q), .int (stV q), .int (nI (stG q)), .int (nI (stS q)), .int (stM q), .ref ba, .ref ta])), (ba, .inl (cQ, Rb.length, .inr (.inr (.inr (.inr (qf (ad Rb))))))), (ta, .inl (cQ, Rt.length, .inr (.inr (.inr (.inr (qf (ad Rt))))))), (q_1, .inl (cI, 5, .inl ks))] ++ ((sT cI (Rb.map bq) (Rt.map tq)) ++ ((xA cI x a b f q) ++ ((xB cI b g q2) ++ [])))) := hD
                        refine W.eq (g2 := F0 m 292 ls [.int r_5]) rfl ?_
                        refine W.widen (k := 1) (n := 5) (Nat.le_refl _) (Nat.le_refl _) ?_
                        refine k_top (v := nI (stI q)) (hr_289) ?_
                        refine lv_aload_n hx hb dX4_isSame_292 rfl (lv_at hl 0 rfl) ?_
                        refine va_get (D := D) (ci := 4) (v := .int (nI (stI q))) (C := RX4) (T := TX4) (N := 9) hx hb hts iX4 hown hK hP 0 rfl rfl 0 (by decide) f29 (fun _ h9 => h9) rfl dX4_isSame_293 ?_
                        refine k_cmp_ne (tgt := 454) hx hb (stI q) (stI q) rfl rfl (by omega) (by omega) dX4_isSame_296 (by decide) (fun c_296 => ?_) (fun c_296 => ?_)
                        · skip
                          exact absurd rfl c_296
                        · skip
                          refine lv_aload_n hx hb dX4_isSame_299 rfl (lv_at hl 1 rfl) ?_
                          refine kz_callX (As := []) (rest := []) F (c_ZX3_topics l D cI x a b f q ) gX4_isSame_X3_topics rfl (nA := 0) (by decide +kernel) rfl ⟨Nat.le_of_ble_eq_true rfl, Nat.le_of_ble_eq_true rfl⟩ hK hP hD hS hA hG (ci := 3) (q0 := 0) rfl rfl rfl zp_pn [0] rfl rfl hl.1 (Nat.le_of_ble_eq_true rfl) dX4_isSame_300 ⟨Nat.le_of_ble_eq_true rfl, Nat.le_of_ble_eq_true rfl⟩ (fun r_6 u H locs hr_300 hP hD hS => ?_)
                          try dsimp only at hr_300
                          have hP := z_PS z_pnb hP
                          have hD := z_DS z_pnb hD
                          have hP : va_P D vwCl ([(s, .inr (4, [.int (nI (stI q)), .int (nI (stN q)), .int (stO q), .int (stV q), .int (nI (stG q)), .int (nI (stS q)), .int (stM q), .ref ba, .ref ta])), (ba, .inl (cQ, Rb.length, .inr (.inr (.inr (.inr (qf (ad Rb))))))), (ta, .inl (cQ, Rt.length, .inr (.inr (.inr (.inr (qf (ad Rt))))))), (q_1, .inl (cI, 5, .inl ks))] ++ ((sT cI (Rb.map bq) (Rt.map tq)) ++ ((xA cI x a b f q) ++ ((xB cI b g q2) ++ [])))) H := hP
                          have hD : va_D A ([(s, .inr (4, [.int (nI (stI q)), .int (nI (stN q)), .int (stO q), .int (stV q), .int (nI (stG q)), .int (nI (stS q)), .int (stM q), .ref ba, .ref ta])), (ba, .inl (cQ, Rb.length, .inr (.inr (.inr (.inr (qf (ad Rb))))))), (ta, .inl (cQ, Rt.length, .inr (.inr (.inr (.inr (qf (ad Rt))))))), (q_1, .inl (cI, 5, .inl ks))] ++ ((sT cI (Rb.map bq) (Rt.map tq)) ++ ((xA cI x a b f q) ++ ((xB cI b g q2) ++ [])))) := hD
                          refine W.eq (g2 := F0 m 303 ls [.int r_6]) rfl ?_
                          refine W.widen (k := 1) (n := 5) (Nat.le_refl _) (Nat.le_refl _) ?_
                          refine k_top (v := nI Rb.length) (hr_300.trans (by rw [hlB])) ?_
                          refine lv_aload_n hx hb dX4_isSame_303 rfl (lv_at hl 0 rfl) ?_
                          refine va_get (D := D) (ci := 4) (v := .ref ba) (C := RX4) (T := TX4) (N := 9) hx hb hts iX4 hown hK hP 0 rfl rfl 7 (by decide) f21 (fun _ h9 => h9) rfl dX4_isSame_304 ?_
                          refine va_alen hx hb hK hP 1 1 rfl rfl (v := nI Rb.length) rfl dX4_isSame_307 ?_
                          refine k_cmp_ne (tgt := 454) hx hb Rb.length Rb.length rfl rfl (by omega) (by omega) dX4_isSame_308 (by decide) (fun c_308 => ?_) (fun c_308 => ?_)
                          · skip
                            exact absurd rfl c_308
                          · skip
                            refine lv_aload_n hx hb dX4_isSame_311 rfl (lv_at hl 1 rfl) ?_
                            refine kz_callX (As := []) (rest := []) F (c_ZX3_noise l D cI x a b f q hR) gX4_isSame_X3_noise rfl (nA := 0) (by decide +kernel) rfl ⟨Nat.le_of_ble_eq_true rfl, Nat.le_of_ble_eq_true rfl⟩ hK hP hD hS hA hG (ci := 3) (q0 := 0) rfl rfl rfl zp_pn [0] rfl rfl hl.1 (Nat.le_of_ble_eq_true rfl) dX4_isSame_312 ⟨Nat.le_of_ble_eq_true rfl, Nat.le_of_ble_eq_true rfl⟩ (fun r_7 u H locs hr_312 hP hD hS => ?_)
                            try dsimp only at hr_312
                            have hP := z_PS z_pnb hP
                            have hD := z_DS z_pnb hD
                            have hP : va_P D vwCl ([(s, .inr (4, [.int (nI (stI q)), .int (nI (stN q)), .int (stO q), .int (stV q), .int (nI (stG q)), .int (nI (stS q)), .int (stM q), .ref ba, .ref ta])), (ba, .inl (cQ, Rb.length, .inr (.inr (.inr (.inr (qf (ad Rb))))))), (ta, .inl (cQ, Rt.length, .inr (.inr (.inr (.inr (qf (ad Rt))))))), (q_1, .inl (cI, 5, .inl ks))] ++ ((sT cI (Rb.map bq) (Rt.map tq)) ++ ((xA cI x a b f q) ++ ((xB cI b g q2) ++ [])))) H := hP
                            have hD : va_D A ([(s, .inr (4, [.int (nI (stI q)), .int (nI (stN q)), .int (stO q), .int (stV q), .int (nI (stG q)), .int (nI (stS q)), .int (stM q), .ref ba, .ref ta])), (ba, .inl (cQ, Rb.length, .inr (.inr (.inr (.inr (qf (ad Rb))))))), (ta, .inl (cQ, Rt.length, .inr (.inr (.inr (.inr (qf (ad Rt))))))), (q_1, .inl (cI, 5, .inl ks))] ++ ((sT cI (Rb.map bq) (Rt.map tq)) ++ ((xA cI x a b f q) ++ ((xB cI b g q2) ++ [])))) := hD
                            refine W.eq (g2 := F0 m 315 ls [.int r_7]) rfl ?_
                            refine W.widen (k := 1) (n := 5) (Nat.le_refl _) (Nat.le_refl _) ?_
                            refine k_top (v := nI (ns (stB q))) (hr_312) ?_
                            refine lv_aload_n hx hb dX4_isSame_315 rfl (lv_at hl 0 rfl) ?_
                            refine kz_callV (As := []) (rest := [.int (nI (ns (stB q)))]) (wp := [(s, .inr (4, [.int (nI (stI q)), .int (nI (stN q)), .int (stO q), .int (stV q), .int (nI (stG q)), .int (nI (stS q)), .int (stM q), .ref ba, .ref ta])), (ba, .inl (cQ, Rb.length, .inr (.inr (.inr (.inr (qf (ad Rb))))))), (ta, .inl (cQ, Rt.length, .inr (.inr (.inr (.inr (qf (ad Rt))))))), (q_1, .inl (cI, 5, .inl ks))]) (wc := [(s, .inr (4, [.int (nI (stI q)), .int (nI (stN q)), .int (stO q), .int (stV q), .int (nI (stG q)), .int (nI (stS q)), .int (stM q), .ref ba, .ref ta])), (ba, .inl (cQ, Rb.length, .inr (.inr (.inr (.inr (qf (ad Rb)))))))]) (wr := [(ta, .inl (cQ, Rt.length, .inr (.inr (.inr (.inr (qf (ad Rt))))))), (q_1, .inl (cI, 5, .inl ks))]) (Z := ((sT cI (Rb.map bq) (Rt.map tq)) ++ ((xA cI x a b f q) ++ ((xB cI b g q2) ++ [])))) (X0 := sT cI (Rb.map bq) (Rt.map tq)) (Y := ((xA cI x a b f q) ++ ((xB cI b g q2) ++ []))) (wc1 := (fun (u : Unit) => [(s, .inr (4, [.int (nI (stI q)), .int (nI (stN q)), .int (stO q), .int (stV q), .int (nI (stG q)), .int (nI (stS q)), .int (stM q), .ref ba, .ref ta])), (ba, .inl (cQ, Rb.length, .inr (.inr (.inr (.inr (qf (ad Rb)))))))])) (X1 := (fun (u : Unit) => (sT cI (Rb.map bq) (Rt.map tq)))) F (c_X4_noise l D cI cQ s ba ta (nI (stI q)) (nI (stN q)) (stO q) (stV q) (nI (stG q)) (nI (stS q)) (stM q) Rb Rt hb12) gX4_isSame_X4_noise rfl (nA := 0) (by decide +kernel) rfl ⟨Nat.le_of_ble_eq_true rfl, Nat.le_of_ble_eq_true rfl⟩ hK hP hD hS hA hG (ci := 4) (q0 := 0) rfl rfl rfl [0, 1] [2, 3] rfl (by decide) (List.Perm.refl _) (by rw [List.append_nil]) (fun u => by simp only [List.append_nil]) [0, 1] rfl rfl hl.1 (Nat.le_of_ble_eq_true rfl) dX4_isSame_316 ⟨Nat.le_of_ble_eq_true rfl, Nat.le_of_ble_eq_true rfl⟩ (fun r_8 u H locs hr_316 hP hD hS => ?_)
                            try dsimp only at hr_316
                            have hP : va_P D vwCl ([(ta, .inl (cQ, Rt.length, .inr (.inr (.inr (.inr (qf (ad Rt))))))), (q_1, .inl (cI, 5, .inl ks)), (s, .inr (4, [.int (nI (stI q)), .int (nI (stN q)), .int (stO q), .int (stV q), .int (nI (stG q)), .int (nI (stS q)), .int (stM q), .ref ba, .ref ta])), (ba, .inl (cQ, Rb.length, .inr (.inr (.inr (.inr (qf (ad Rb)))))))] ++ ((sT cI (Rb.map bq) (Rt.map tq)) ++ ((xA cI x a b f q) ++ ((xB cI b g q2) ++ [])))) H := hP
                            have hD : va_D A ([(ta, .inl (cQ, Rt.length, .inr (.inr (.inr (.inr (qf (ad Rt))))))), (q_1, .inl (cI, 5, .inl ks)), (s, .inr (4, [.int (nI (stI q)), .int (nI (stN q)), .int (stO q), .int (stV q), .int (nI (stG q)), .int (nI (stS q)), .int (stM q), .ref ba, .ref ta])), (ba, .inl (cQ, Rb.length, .inr (.inr (.inr (.inr (qf (ad Rb)))))))] ++ ((sT cI (Rb.map bq) (Rt.map tq)) ++ ((xA cI x a b f q) ++ ((xB cI b g q2) ++ [])))) := hD
                            refine W.eq (g2 := F0 m 319 ls [.int r_8, .int (nI (ns (stB q)))]) rfl ?_
                            refine W.widen (k := 1) (n := 5) (Nat.le_refl _) (Nat.le_refl _) ?_
                            refine k_top (v := nI (ns (stB q))) (hr_316.trans (by rw [hq.1])) ?_
                            refine k_cmp_ne (tgt := 454) hx hb (ns (stB q)) (ns (stB q)) rfl rfl (by omega) (by omega) dX4_isSame_319 (by decide) (fun c_319 => ?_) (fun c_319 => ?_)
                            · skip
                              exact absurd rfl c_319
                            · skip
                              refine lv_aload_n hx hb dX4_isSame_322 rfl (lv_at hl 1 rfl) ?_
                              refine kz_callX (As := []) (rest := []) F (c_ZX3_largest l D cI x a b f q hR hO) gX4_isSame_X3_largest rfl (nA := 0) (by decide +kernel) rfl ⟨Nat.le_of_ble_eq_true rfl, Nat.le_of_ble_eq_true rfl⟩ hK hP hD hS hA hG (ci := 3) (q0 := 0) rfl rfl rfl zp_pn [0] rfl rfl hl.1 (Nat.le_of_ble_eq_true rfl) dX4_isSame_323 ⟨Nat.le_of_ble_eq_true rfl, Nat.le_of_ble_eq_true rfl⟩ (fun r_9 u H locs hr_323 hP hD hS => ?_)
                              try dsimp only at hr_323
                              have hP := z_PS z_pnb hP
                              have hD := z_DS z_pnb hD
                              have hP : va_P D vwCl ([(ta, .inl (cQ, Rt.length, .inr (.inr (.inr (.inr (qf (ad Rt))))))), (q_1, .inl (cI, 5, .inl ks)), (s, .inr (4, [.int (nI (stI q)), .int (nI (stN q)), .int (stO q), .int (stV q), .int (nI (stG q)), .int (nI (stS q)), .int (stM q), .ref ba, .ref ta])), (ba, .inl (cQ, Rb.length, .inr (.inr (.inr (.inr (qf (ad Rb)))))))] ++ ((sT cI (Rb.map bq) (Rt.map tq)) ++ ((xA cI x a b f q) ++ ((xB cI b g q2) ++ [])))) H := hP
                              have hD : va_D A ([(ta, .inl (cQ, Rt.length, .inr (.inr (.inr (.inr (qf (ad Rt))))))), (q_1, .inl (cI, 5, .inl ks)), (s, .inr (4, [.int (nI (stI q)), .int (nI (stN q)), .int (stO q), .int (stV q), .int (nI (stG q)), .int (nI (stS q)), .int (stM q), .ref ba, .ref ta])), (ba, .inl (cQ, Rb.length, .inr (.inr (.inr (.inr (qf (ad Rb)))))))] ++ ((sT cI (Rb.map bq) (Rt.map tq)) ++ ((xA cI x a b f q) ++ ((xB cI b g q2) ++ [])))) := hD
                              refine W.eq (g2 := F0 m 326 ls [.int r_9]) rfl ?_
                              refine W.widen (k := 1) (n := 5) (Nat.le_refl _) (Nat.le_refl _) ?_
                              refine k_top (v := lv) (hr_323.trans elv.symm) ?_
                              refine lv_iload_n hx hb dX4_isSame_326 rfl (lv_at hl 2 rfl) ?_
                              refine lv_icmp_ne (tgt := 454) hx hb dX4_isSame_327 (by decide) (fun c_327 => ?_) (fun c_327 => ?_)
                              · skip
                                exact absurd rfl c_327
                              · skip
                                refine lv_aload_n hx hb dX4_isSame_330 rfl (lv_at hl 1 rfl) ?_
                                refine kz_callX (As := []) (rest := []) F (c_ZX3_nods l D cI x a b f q ) gX4_isSame_X3_nods rfl (nA := 0) (by decide +kernel) rfl ⟨Nat.le_of_ble_eq_true rfl, Nat.le_of_ble_eq_true rfl⟩ hK hP hD hS hA hG (ci := 3) (q0 := 0) rfl rfl rfl zp_pn [0] rfl rfl hl.1 (Nat.le_of_ble_eq_true rfl) dX4_isSame_331 ⟨Nat.le_of_ble_eq_true rfl, Nat.le_of_ble_eq_true rfl⟩ (fun r_10 u H locs hr_331 hP hD hS => ?_)
                                try dsimp only at hr_331
                                have hP := z_PS z_pnb hP
                                have hD := z_DS z_pnb hD
                                have hP : va_P D vwCl ([(ta, .inl (cQ, Rt.length, .inr (.inr (.inr (.inr (qf (ad Rt))))))), (q_1, .inl (cI, 5, .inl ks)), (s, .inr (4, [.int (nI (stI q)), .int (nI (stN q)), .int (stO q), .int (stV q), .int (nI (stG q)), .int (nI (stS q)), .int (stM q), .ref ba, .ref ta])), (ba, .inl (cQ, Rb.length, .inr (.inr (.inr (.inr (qf (ad Rb)))))))] ++ ((sT cI (Rb.map bq) (Rt.map tq)) ++ ((xA cI x a b f q) ++ ((xB cI b g q2) ++ [])))) H := hP
                                have hD : va_D A ([(ta, .inl (cQ, Rt.length, .inr (.inr (.inr (.inr (qf (ad Rt))))))), (q_1, .inl (cI, 5, .inl ks)), (s, .inr (4, [.int (nI (stI q)), .int (nI (stN q)), .int (stO q), .int (stV q), .int (nI (stG q)), .int (nI (stS q)), .int (stM q), .ref ba, .ref ta])), (ba, .inl (cQ, Rb.length, .inr (.inr (.inr (.inr (qf (ad Rb)))))))] ++ ((sT cI (Rb.map bq) (Rt.map tq)) ++ ((xA cI x a b f q) ++ ((xB cI b g q2) ++ [])))) := hD
                                refine W.eq (g2 := F0 m 334 ls [.int r_10]) rfl ?_
                                refine W.widen (k := 1) (n := 5) (Nat.le_refl _) (Nat.le_refl _) ?_
                                refine k_top (v := nI (stN q)) (hr_331) ?_
                                refine lv_aload_n hx hb dX4_isSame_334 rfl (lv_at hl 0 rfl) ?_
                                refine va_get (D := D) (ci := 4) (v := .int (nI (stN q))) (C := RX4) (T := TX4) (N := 9) hx hb hts iX4 hown hK hP 2 rfl rfl 1 (by decide) f32 (fun _ h9 => h9) rfl dX4_isSame_335 ?_
                                refine k_cmp_ne (tgt := 454) hx hb (stN q) (stN q) rfl rfl (by omega) (by omega) dX4_isSame_338 (by decide) (fun c_338 => ?_) (fun c_338 => ?_)
                                · skip
                                  exact absurd rfl c_338
                                · skip
                                  refine lv_aload_n hx hb dX4_isSame_341 rfl (lv_at hl 1 rfl) ?_
                                  refine kz_callX (As := []) (rest := []) F (c_ZX3_bottles l D cI x a b f q ) gX4_isSame_X3_bottles rfl (nA := 0) (by decide +kernel) rfl ⟨Nat.le_of_ble_eq_true rfl, Nat.le_of_ble_eq_true rfl⟩ hK hP hD hS hA hG (ci := 3) (q0 := 0) rfl rfl rfl zp_pn [0] rfl rfl hl.1 (Nat.le_of_ble_eq_true rfl) dX4_isSame_342 ⟨Nat.le_of_ble_eq_true rfl, Nat.le_of_ble_eq_true rfl⟩ (fun r_11 u H locs hr_342 hP hD hS => ?_)
                                  try dsimp only at hr_342
                                  have hP := z_PS z_pnb hP
                                  have hD := z_DS z_pnb hD
                                  have hP : va_P D vwCl ([(ta, .inl (cQ, Rt.length, .inr (.inr (.inr (.inr (qf (ad Rt))))))), (q_1, .inl (cI, 5, .inl ks)), (s, .inr (4, [.int (nI (stI q)), .int (nI (stN q)), .int (stO q), .int (stV q), .int (nI (stG q)), .int (nI (stS q)), .int (stM q), .ref ba, .ref ta])), (ba, .inl (cQ, Rb.length, .inr (.inr (.inr (.inr (qf (ad Rb)))))))] ++ ((sT cI (Rb.map bq) (Rt.map tq)) ++ ((xA cI x a b f q) ++ ((xB cI b g q2) ++ [])))) H := hP
                                  have hD : va_D A ([(ta, .inl (cQ, Rt.length, .inr (.inr (.inr (.inr (qf (ad Rt))))))), (q_1, .inl (cI, 5, .inl ks)), (s, .inr (4, [.int (nI (stI q)), .int (nI (stN q)), .int (stO q), .int (stV q), .int (nI (stG q)), .int (nI (stS q)), .int (stM q), .ref ba, .ref ta])), (ba, .inl (cQ, Rb.length, .inr (.inr (.inr (.inr (qf (ad Rb)))))))] ++ ((sT cI (Rb.map bq) (Rt.map tq)) ++ ((xA cI x a b f q) ++ ((xB cI b g q2) ++ [])))) := hD
                                  refine W.eq (g2 := F0 m 345 ls [.int r_11]) rfl ?_
                                  refine W.widen (k := 1) (n := 5) (Nat.le_refl _) (Nat.le_refl _) ?_
                                  refine k_top (v := stO q) (hr_342) ?_
                                  refine lv_aload_n hx hb dX4_isSame_345 rfl (lv_at hl 0 rfl) ?_
                                  refine va_get (D := D) (ci := 4) (v := .int (stO q)) (C := RX4) (T := TX4) (N := 9) hx hb hts iX4 hown hK hP 2 rfl rfl 2 (by decide) f35 (fun _ h9 => h9) rfl dX4_isSame_346 ?_
                                  refine lv_icmp_ne (tgt := 454) hx hb dX4_isSame_349 (by decide) (fun c_349 => ?_) (fun c_349 => ?_)
                                  · skip
                                    exact absurd rfl c_349
                                  · skip
                                    refine lv_aload_n hx hb dX4_isSame_352 rfl (lv_at hl 1 rfl) ?_
                                    refine kz_callX (As := []) (rest := []) F (c_ZX3_sieved l D cI x a b f q ) gX4_isSame_X3_sieved rfl (nA := 0) (by decide +kernel) rfl ⟨Nat.le_of_ble_eq_true rfl, Nat.le_of_ble_eq_true rfl⟩ hK hP hD hS hA hG (ci := 3) (q0 := 0) rfl rfl rfl zp_pn [0] rfl rfl hl.1 (Nat.le_of_ble_eq_true rfl) dX4_isSame_353 ⟨Nat.le_of_ble_eq_true rfl, Nat.le_of_ble_eq_true rfl⟩ (fun r_12 u H locs hr_353 hP hD hS => ?_)
                                    try dsimp only at hr_353
                                    have hP := z_PS z_pnb hP
                                    have hD := z_DS z_pnb hD
                                    have hP : va_P D vwCl ([(ta, .inl (cQ, Rt.length, .inr (.inr (.inr (.inr (qf (ad Rt))))))), (q_1, .inl (cI, 5, .inl ks)), (s, .inr (4, [.int (nI (stI q)), .int (nI (stN q)), .int (stO q), .int (stV q), .int (nI (stG q)), .int (nI (stS q)), .int (stM q), .ref ba, .ref ta])), (ba, .inl (cQ, Rb.length, .inr (.inr (.inr (.inr (qf (ad Rb)))))))] ++ ((sT cI (Rb.map bq) (Rt.map tq)) ++ ((xA cI x a b f q) ++ ((xB cI b g q2) ++ [])))) H := hP
                                    have hD : va_D A ([(ta, .inl (cQ, Rt.length, .inr (.inr (.inr (.inr (qf (ad Rt))))))), (q_1, .inl (cI, 5, .inl ks)), (s, .inr (4, [.int (nI (stI q)), .int (nI (stN q)), .int (stO q), .int (stV q), .int (nI (stG q)), .int (nI (stS q)), .int (stM q), .ref ba, .ref ta])), (ba, .inl (cQ, Rb.length, .inr (.inr (.inr (.inr (qf (ad Rb)))))))] ++ ((sT cI (Rb.map bq) (Rt.map tq)) ++ ((xA cI x a b f q) ++ ((xB cI b g q2) ++ [])))) := hD
                                    refine W.eq (g2 := F0 m 356 ls [.int r_12]) rfl ?_
                                    refine W.widen (k := 1) (n := 5) (Nat.le_refl _) (Nat.le_refl _) ?_
                                    refine k_top (v := stV q) (hr_353) ?_
                                    refine lv_aload_n hx hb dX4_isSame_356 rfl (lv_at hl 0 rfl) ?_
                                    refine va_get (D := D) (ci := 4) (v := .int (stV q)) (C := RX4) (T := TX4) (N := 9) hx hb hts iX4 hown hK hP 2 rfl rfl 3 (by decide) f38 (fun _ h9 => h9) rfl dX4_isSame_357 ?_
                                    refine lv_icmp_ne (tgt := 454) hx hb dX4_isSame_360 (by decide) (fun c_360 => ?_) (fun c_360 => ?_)
                                    · skip
                                      exact absurd rfl c_360
                                    · skip
                                      refine lv_aload_n hx hb dX4_isSame_363 rfl (lv_at hl 1 rfl) ?_
                                      refine kz_callX (As := []) (rest := []) F (c_ZX3_gear l D cI x a b f q ) gX4_isSame_X3_gear rfl (nA := 0) (by decide +kernel) rfl ⟨Nat.le_of_ble_eq_true rfl, Nat.le_of_ble_eq_true rfl⟩ hK hP hD hS hA hG (ci := 3) (q0 := 0) rfl rfl rfl zp_pn [0] rfl rfl hl.1 (Nat.le_of_ble_eq_true rfl) dX4_isSame_364 ⟨Nat.le_of_ble_eq_true rfl, Nat.le_of_ble_eq_true rfl⟩ (fun r_13 u H locs hr_364 hP hD hS => ?_)
                                      try dsimp only at hr_364
                                      have hP := z_PS z_pnb hP
                                      have hD := z_DS z_pnb hD
                                      have hP : va_P D vwCl ([(ta, .inl (cQ, Rt.length, .inr (.inr (.inr (.inr (qf (ad Rt))))))), (q_1, .inl (cI, 5, .inl ks)), (s, .inr (4, [.int (nI (stI q)), .int (nI (stN q)), .int (stO q), .int (stV q), .int (nI (stG q)), .int (nI (stS q)), .int (stM q), .ref ba, .ref ta])), (ba, .inl (cQ, Rb.length, .inr (.inr (.inr (.inr (qf (ad Rb)))))))] ++ ((sT cI (Rb.map bq) (Rt.map tq)) ++ ((xA cI x a b f q) ++ ((xB cI b g q2) ++ [])))) H := hP
                                      have hD : va_D A ([(ta, .inl (cQ, Rt.length, .inr (.inr (.inr (.inr (qf (ad Rt))))))), (q_1, .inl (cI, 5, .inl ks)), (s, .inr (4, [.int (nI (stI q)), .int (nI (stN q)), .int (stO q), .int (stV q), .int (nI (stG q)), .int (nI (stS q)), .int (stM q), .ref ba, .ref ta])), (ba, .inl (cQ, Rb.length, .inr (.inr (.inr (.inr (qf (ad Rb)))))))] ++ ((sT cI (Rb.map bq) (Rt.map tq)) ++ ((xA cI x a b f q) ++ ((xB cI b g q2) ++ [])))) := hD
                                      refine W.eq (g2 := F0 m 367 ls [.int r_13]) rfl ?_
                                      refine W.widen (k := 1) (n := 5) (Nat.le_refl _) (Nat.le_refl _) ?_
                                      refine k_top (v := nI (stG q)) (hr_364) ?_
                                      refine lv_aload_n hx hb dX4_isSame_367 rfl (lv_at hl 0 rfl) ?_
                                      refine va_get (D := D) (ci := 4) (v := .int (nI (stG q))) (C := RX4) (T := TX4) (N := 9) hx hb hts iX4 hown hK hP 2 rfl rfl 4 (by decide) f7 (fun _ h9 => h9) rfl dX4_isSame_368 ?_
                                      refine k_cmp_ne (tgt := 454) hx hb (stG q) (stG q) rfl rfl (by omega) (by omega) dX4_isSame_371 (by decide) (fun c_371 => ?_) (fun c_371 => ?_)
                                      · skip
                                        exact absurd rfl c_371
                                      · skip
                                        refine lv_aload_n hx hb dX4_isSame_374 rfl (lv_at hl 1 rfl) ?_
                                        refine kz_callX (As := []) (rest := []) F (c_ZX3_stones l D cI x a b f q ) gX4_isSame_X3_stones rfl (nA := 0) (by decide +kernel) rfl ⟨Nat.le_of_ble_eq_true rfl, Nat.le_of_ble_eq_true rfl⟩ hK hP hD hS hA hG (ci := 3) (q0 := 0) rfl rfl rfl zp_pn [0] rfl rfl hl.1 (Nat.le_of_ble_eq_true rfl) dX4_isSame_375 ⟨Nat.le_of_ble_eq_true rfl, Nat.le_of_ble_eq_true rfl⟩ (fun r_14 u H locs hr_375 hP hD hS => ?_)
                                        try dsimp only at hr_375
                                        have hP := z_PS z_pnb hP
                                        have hD := z_DS z_pnb hD
                                        have hP : va_P D vwCl ([(ta, .inl (cQ, Rt.length, .inr (.inr (.inr (.inr (qf (ad Rt))))))), (q_1, .inl (cI, 5, .inl ks)), (s, .inr (4, [.int (nI (stI q)), .int (nI (stN q)), .int (stO q), .int (stV q), .int (nI (stG q)), .int (nI (stS q)), .int (stM q), .ref ba, .ref ta])), (ba, .inl (cQ, Rb.length, .inr (.inr (.inr (.inr (qf (ad Rb)))))))] ++ ((sT cI (Rb.map bq) (Rt.map tq)) ++ ((xA cI x a b f q) ++ ((xB cI b g q2) ++ [])))) H := hP
                                        have hD : va_D A ([(ta, .inl (cQ, Rt.length, .inr (.inr (.inr (.inr (qf (ad Rt))))))), (q_1, .inl (cI, 5, .inl ks)), (s, .inr (4, [.int (nI (stI q)), .int (nI (stN q)), .int (stO q), .int (stV q), .int (nI (stG q)), .int (nI (stS q)), .int (stM q), .ref ba, .ref ta])), (ba, .inl (cQ, Rb.length, .inr (.inr (.inr (.inr (qf (ad Rb)))))))] ++ ((sT cI (Rb.map bq) (Rt.map tq)) ++ ((xA cI x a b f q) ++ ((xB cI b g q2) ++ [])))) := hD
                                        refine W.eq (g2 := F0 m 378 ls [.int r_14]) rfl ?_
                                        refine W.widen (k := 1) (n := 5) (Nat.le_refl _) (Nat.le_refl _) ?_
                                        refine k_top (v := nI (stS q)) (hr_375) ?_
                                        refine lv_aload_n hx hb dX4_isSame_378 rfl (lv_at hl 0 rfl) ?_
                                        refine va_get (D := D) (ci := 4) (v := .int (nI (stS q))) (C := RX4) (T := TX4) (N := 9) hx hb hts iX4 hown hK hP 2 rfl rfl 5 (by decide) f13 (fun _ h9 => h9) rfl dX4_isSame_379 ?_
                                        refine k_cmp_ne (tgt := 454) hx hb (stS q) (stS q) rfl rfl (by omega) (by omega) dX4_isSame_382 (by decide) (fun c_382 => ?_) (fun c_382 => ?_)
                                        · skip
                                          exact absurd rfl c_382
                                        · skip
                                          refine lv_aload_n hx hb dX4_isSame_385 rfl (lv_at hl 1 rfl) ?_
                                          refine kz_callX (As := []) (rest := []) F (c_ZX3_mesh l D cI x a b f q ) gX4_isSame_X3_mesh rfl (nA := 0) (by decide +kernel) rfl ⟨Nat.le_of_ble_eq_true rfl, Nat.le_of_ble_eq_true rfl⟩ hK hP hD hS hA hG (ci := 3) (q0 := 0) rfl rfl rfl zp_pn [0] rfl rfl hl.1 (Nat.le_of_ble_eq_true rfl) dX4_isSame_386 ⟨Nat.le_of_ble_eq_true rfl, Nat.le_of_ble_eq_true rfl⟩ (fun r_15 u H locs hr_386 hP hD hS => ?_)
                                          try dsimp only at hr_386
                                          have hP := z_PS z_pnb hP
                                          have hD := z_DS z_pnb hD
                                          have hP : va_P D vwCl ([(ta, .inl (cQ, Rt.length, .inr (.inr (.inr (.inr (qf (ad Rt))))))), (q_1, .inl (cI, 5, .inl ks)), (s, .inr (4, [.int (nI (stI q)), .int (nI (stN q)), .int (stO q), .int (stV q), .int (nI (stG q)), .int (nI (stS q)), .int (stM q), .ref ba, .ref ta])), (ba, .inl (cQ, Rb.length, .inr (.inr (.inr (.inr (qf (ad Rb)))))))] ++ ((sT cI (Rb.map bq) (Rt.map tq)) ++ ((xA cI x a b f q) ++ ((xB cI b g q2) ++ [])))) H := hP
                                          have hD : va_D A ([(ta, .inl (cQ, Rt.length, .inr (.inr (.inr (.inr (qf (ad Rt))))))), (q_1, .inl (cI, 5, .inl ks)), (s, .inr (4, [.int (nI (stI q)), .int (nI (stN q)), .int (stO q), .int (stV q), .int (nI (stG q)), .int (nI (stS q)), .int (stM q), .ref ba, .ref ta])), (ba, .inl (cQ, Rb.length, .inr (.inr (.inr (.inr (qf (ad Rb)))))))] ++ ((sT cI (Rb.map bq) (Rt.map tq)) ++ ((xA cI x a b f q) ++ ((xB cI b g q2) ++ [])))) := hD
                                          refine W.eq (g2 := F0 m 389 ls [.int r_15]) rfl ?_
                                          refine W.widen (k := 1) (n := 5) (Nat.le_refl _) (Nat.le_refl _) ?_
                                          refine k_top (v := stM q) (hr_386) ?_
                                          refine lv_aload_n hx hb dX4_isSame_389 rfl (lv_at hl 0 rfl) ?_
                                          refine va_get (D := D) (ci := 4) (v := .int (stM q)) (C := RX4) (T := TX4) (N := 9) hx hb hts iX4 hown hK hP 2 rfl rfl 6 (by decide) f16 (fun _ h9 => h9) rfl dX4_isSame_390 ?_
                                          refine lv_icmp_ne (tgt := 454) hx hb dX4_isSame_393 (by decide) (fun c_393 => ?_) (fun c_393 => ?_)
                                          · skip
                                            exact absurd rfl c_393
                                          · skip
                                            refine lv_aload_n hx hb dX4_isSame_396 rfl (lv_at hl 1 rfl) ?_
                                            refine kz_callX (As := []) (rest := []) F (c_ZX3_talkers l D cI x a b f q ) gX4_isSame_X3_talkers rfl (nA := 0) (by decide +kernel) rfl ⟨Nat.le_of_ble_eq_true rfl, Nat.le_of_ble_eq_true rfl⟩ hK hP hD hS hA hG (ci := 3) (q0 := 0) rfl rfl rfl zp_pn [0] rfl rfl hl.1 (Nat.le_of_ble_eq_true rfl) dX4_isSame_397 ⟨Nat.le_of_ble_eq_true rfl, Nat.le_of_ble_eq_true rfl⟩ (fun r_16 u H locs hr_397 hP hD hS => ?_)
                                            try dsimp only at hr_397
                                            have hP := z_PS z_pnb hP
                                            have hD := z_DS z_pnb hD
                                            have hP : va_P D vwCl ([(ta, .inl (cQ, Rt.length, .inr (.inr (.inr (.inr (qf (ad Rt))))))), (q_1, .inl (cI, 5, .inl ks)), (s, .inr (4, [.int (nI (stI q)), .int (nI (stN q)), .int (stO q), .int (stV q), .int (nI (stG q)), .int (nI (stS q)), .int (stM q), .ref ba, .ref ta])), (ba, .inl (cQ, Rb.length, .inr (.inr (.inr (.inr (qf (ad Rb)))))))] ++ ((sT cI (Rb.map bq) (Rt.map tq)) ++ ((xA cI x a b f q) ++ ((xB cI b g q2) ++ [])))) H := hP
                                            have hD : va_D A ([(ta, .inl (cQ, Rt.length, .inr (.inr (.inr (.inr (qf (ad Rt))))))), (q_1, .inl (cI, 5, .inl ks)), (s, .inr (4, [.int (nI (stI q)), .int (nI (stN q)), .int (stO q), .int (stV q), .int (nI (stG q)), .int (nI (stS q)), .int (stM q), .ref ba, .ref ta])), (ba, .inl (cQ, Rb.length, .inr (.inr (.inr (.inr (qf (ad Rb)))))))] ++ ((sT cI (Rb.map bq) (Rt.map tq)) ++ ((xA cI x a b f q) ++ ((xB cI b g q2) ++ [])))) := hD
                                            refine W.eq (g2 := F0 m 400 ls [.int r_16]) rfl ?_
                                            refine W.widen (k := 1) (n := 5) (Nat.le_refl _) (Nat.le_refl _) ?_
                                            refine k_top (v := nI Rt.length) (hr_397.trans (by rw [hlT])) ?_
                                            refine lv_aload_n hx hb dX4_isSame_400 rfl (lv_at hl 0 rfl) ?_
                                            refine va_get (D := D) (ci := 4) (v := .ref ta) (C := RX4) (T := TX4) (N := 9) hx hb hts iX4 hown hK hP 2 rfl rfl 8 (by decide) f25 (fun _ h9 => h9) rfl dX4_isSame_401 ?_
                                            refine va_alen hx hb hK hP 0 1 rfl rfl (v := nI Rt.length) rfl dX4_isSame_404 ?_
                                            refine k_cmp_ne (tgt := 454) hx hb Rt.length Rt.length rfl rfl (by omega) (by omega) dX4_isSame_405 (by decide) (fun c_405 => ?_) (fun c_405 => ?_)
                                            · skip
                                              exact absurd rfl c_405
                                            · skip
                                              refine lv_aload_n hx hb dX4_isSame_408 rfl (lv_at hl 1 rfl) ?_
                                              refine kz_callX (As := []) (rest := []) F (c_ZX3_present l D cI x a b f q hR) gX4_isSame_X3_present rfl (nA := 0) (by decide +kernel) rfl ⟨Nat.le_of_ble_eq_true rfl, Nat.le_of_ble_eq_true rfl⟩ hK hP hD hS hA hG (ci := 3) (q0 := 0) rfl rfl rfl zp_pn [0] rfl rfl hl.1 (Nat.le_of_ble_eq_true rfl) dX4_isSame_409 ⟨Nat.le_of_ble_eq_true rfl, Nat.le_of_ble_eq_true rfl⟩ (fun r_17 u H locs hr_409 hP hD hS => ?_)
                                              try dsimp only at hr_409
                                              have hP := z_PS z_pnb hP
                                              have hD := z_DS z_pnb hD
                                              have hP : va_P D vwCl ([(ta, .inl (cQ, Rt.length, .inr (.inr (.inr (.inr (qf (ad Rt))))))), (q_1, .inl (cI, 5, .inl ks)), (s, .inr (4, [.int (nI (stI q)), .int (nI (stN q)), .int (stO q), .int (stV q), .int (nI (stG q)), .int (nI (stS q)), .int (stM q), .ref ba, .ref ta])), (ba, .inl (cQ, Rb.length, .inr (.inr (.inr (.inr (qf (ad Rb)))))))] ++ ((sT cI (Rb.map bq) (Rt.map tq)) ++ ((xA cI x a b f q) ++ ((xB cI b g q2) ++ [])))) H := hP
                                              have hD : va_D A ([(ta, .inl (cQ, Rt.length, .inr (.inr (.inr (.inr (qf (ad Rt))))))), (q_1, .inl (cI, 5, .inl ks)), (s, .inr (4, [.int (nI (stI q)), .int (nI (stN q)), .int (stO q), .int (stV q), .int (nI (stG q)), .int (nI (stS q)), .int (stM q), .ref ba, .ref ta])), (ba, .inl (cQ, Rb.length, .inr (.inr (.inr (.inr (qf (ad Rb)))))))] ++ ((sT cI (Rb.map bq) (Rt.map tq)) ++ ((xA cI x a b f q) ++ ((xB cI b g q2) ++ [])))) := hD
                                              refine W.eq (g2 := F0 m 412 ls [.int r_17]) rfl ?_
                                              refine W.widen (k := 1) (n := 5) (Nat.le_refl _) (Nat.le_refl _) ?_
                                              refine k_top (v := nI (ctT (stT q) - cnN (isT (stT q)) 0)) (hr_409) ?_
                                              refine lv_iload hx hb dX4_isSame_412 (lv_at hl 3 rfl) ?_
                                              refine k_cmp_ne (tgt := 454) hx hb (ctT (stT q) - cnN (isT (stT q)) 0) (ctT (stT q) - cnN (isT (stT q)) 0) rfl rfl (by omega) (by omega) dX4_isSame_414 (by decide) (fun c_414 => ?_) (fun c_414 => ?_)
                                              · skip
                                                exact absurd rfl c_414
                                              · skip
                                                refine lv_aload_n hx hb dX4_isSame_417 rfl (lv_at hl 1 rfl) ?_
                                                refine kz_callX (As := []) (rest := []) F (c_ZX3_nextToGo l D cI x a b f q hR hO) gX4_isSame_X3_nextToGo rfl (nA := 0) (by decide +kernel) rfl ⟨Nat.le_of_ble_eq_true rfl, Nat.le_of_ble_eq_true rfl⟩ hK hP hD hS hA hG (ci := 3) (q0 := 0) rfl rfl rfl zp_pn [0] rfl rfl hl.1 (Nat.le_of_ble_eq_true rfl) dX4_isSame_418 ⟨Nat.le_of_ble_eq_true rfl, Nat.le_of_ble_eq_true rfl⟩ (fun r_18 u H locs hr_418 hP hD hS => ?_)
                                                try dsimp only at hr_418
                                                have hP := z_PS z_pnb hP
                                                have hD := z_DS z_pnb hD
                                                have hP : va_P D vwCl ([(ta, .inl (cQ, Rt.length, .inr (.inr (.inr (.inr (qf (ad Rt))))))), (q_1, .inl (cI, 5, .inl ks)), (s, .inr (4, [.int (nI (stI q)), .int (nI (stN q)), .int (stO q), .int (stV q), .int (nI (stG q)), .int (nI (stS q)), .int (stM q), .ref ba, .ref ta])), (ba, .inl (cQ, Rb.length, .inr (.inr (.inr (.inr (qf (ad Rb)))))))] ++ ((sT cI (Rb.map bq) (Rt.map tq)) ++ ((xA cI x a b f q) ++ ((xB cI b g q2) ++ [])))) H := hP
                                                have hD : va_D A ([(ta, .inl (cQ, Rt.length, .inr (.inr (.inr (.inr (qf (ad Rt))))))), (q_1, .inl (cI, 5, .inl ks)), (s, .inr (4, [.int (nI (stI q)), .int (nI (stN q)), .int (stO q), .int (stV q), .int (nI (stG q)), .int (nI (stS q)), .int (stM q), .ref ba, .ref ta])), (ba, .inl (cQ, Rb.length, .inr (.inr (.inr (.inr (qf (ad Rb)))))))] ++ ((sT cI (Rb.map bq) (Rt.map tq)) ++ ((xA cI x a b f q) ++ ((xB cI b g q2) ++ [])))) := hD
                                                refine W.eq (g2 := F0 m 421 ls [.int r_18]) rfl ?_
                                                refine W.widen (k := 1) (n := 5) (Nat.le_refl _) (Nat.le_refl _) ?_
                                                refine k_top (v := nv) (hr_418.trans env.symm) ?_
                                                refine lv_iload hx hb dX4_isSame_421 (lv_at hl 5 rfl) ?_
                                                refine lv_icmp_ne (tgt := 454) hx hb dX4_isSame_423 (by decide) (fun c_423 => ?_) (fun c_423 => ?_)
                                                · skip
                                                  exact absurd rfl c_423
                                                · skip
                                                  refine lv_aload_n hx hb dX4_isSame_426 rfl (lv_at hl 1 rfl) ?_
                                                  refine kz_callX (As := []) (rest := []) F (c_ZX3_meanPatience l D cI x a b f q hR hO) gX4_isSame_X3_meanPatience rfl (nA := 0) (by decide +kernel) rfl ⟨Nat.le_of_ble_eq_true rfl, Nat.le_of_ble_eq_true rfl⟩ hK hP hD hS hA hG (ci := 3) (q0 := 0) rfl rfl rfl zp_pn [0] rfl rfl hl.1 (Nat.le_of_ble_eq_true rfl) dX4_isSame_427 ⟨Nat.le_of_ble_eq_true rfl, Nat.le_of_ble_eq_true rfl⟩ (fun r_19 u H locs hr_427 hP hD hS => ?_)
                                                  try dsimp only at hr_427
                                                  have hP := z_PS z_pnb hP
                                                  have hD := z_DS z_pnb hD
                                                  have hP : va_P D vwCl ([(ta, .inl (cQ, Rt.length, .inr (.inr (.inr (.inr (qf (ad Rt))))))), (q_1, .inl (cI, 5, .inl ks)), (s, .inr (4, [.int (nI (stI q)), .int (nI (stN q)), .int (stO q), .int (stV q), .int (nI (stG q)), .int (nI (stS q)), .int (stM q), .ref ba, .ref ta])), (ba, .inl (cQ, Rb.length, .inr (.inr (.inr (.inr (qf (ad Rb)))))))] ++ ((sT cI (Rb.map bq) (Rt.map tq)) ++ ((xA cI x a b f q) ++ ((xB cI b g q2) ++ [])))) H := hP
                                                  have hD : va_D A ([(ta, .inl (cQ, Rt.length, .inr (.inr (.inr (.inr (qf (ad Rt))))))), (q_1, .inl (cI, 5, .inl ks)), (s, .inr (4, [.int (nI (stI q)), .int (nI (stN q)), .int (stO q), .int (stV q), .int (nI (stG q)), .int (nI (stS q)), .int (stM q), .ref ba, .ref ta])), (ba, .inl (cQ, Rb.length, .inr (.inr (.inr (.inr (qf (ad Rb)))))))] ++ ((sT cI (Rb.map bq) (Rt.map tq)) ++ ((xA cI x a b f q) ++ ((xB cI b g q2) ++ [])))) := hD
                                                  refine W.eq (g2 := F0 m 430 ls [.double r_19]) rfl ?_
                                                  refine W.widen (k := 1) (n := 5) (Nat.le_refl _) (Nat.le_refl _) ?_
                                                  refine k_topD (v := mpS q) (hr_427) ?_
                                                  refine lv_iload hx hb dX4_isSame_430 (lv_at hl 3 rfl) ?_
                                                  refine k_if_ne (tgt := 439) hx hb (ctT (stT q) - cnN (isT (stT q)) 0) rfl (by omega) dX4_isSame_432 (by decide) (fun c_432 => ?_) (fun c_432 => ?_)
                                                  · skip
                                                    have h0 : 0 < ctT (stT q) := c_432
                                                    refine lv_iload hx hb dX4_isSame_439 (lv_at hl 4 rfl) ?_
                                                    refine lv_i2d hx hb dX4_isSame_441 ?_
                                                    refine lv_iload hx hb dX4_isSame_442 (lv_at hl 3 rfl) ?_
                                                    refine lv_i2d hx hb dX4_isSame_444 ?_
                                                    refine lv_ddiv hx hb dX4_isSame_445 (mp_ok hO h0) ?_
                                                    refine lv_dcmp hx hb dX4_isSame_446 ?_
                                                    refine k_top (v := nI 0) (mp_dd hO h0) ?_
                                                    refine k_if_ne (tgt := 454) hx hb 0 rfl (by omega) dX4_isSame_447 (by decide) (fun c_447 => ?_) (fun c_447 => ?_)
                                                    · exact absurd c_447 (by omega)
                                                    · skip
                                                      refine lv_iconst (v := nI 1) hx hb dX4_isSame_450 (by decide +kernel) ?_
                                                      refine lv_goto (tgt := 455) hx hb dX4_isSame_451 (by decide) ?_
                                                      exact ret (nI 1) () _ _ _ _ _ _ rfl (rfl) (z_subP hP [2, 3, 0] (rfl)) (z_subD hD [2, 3, 0] (by decide) (rfl)) hS (Nat.le_of_ble_eq_true rfl) (Nat.le_of_ble_eq_true rfl) dX4_isSame_455
                                                  · skip
                                                    have h0 : ctT (stT q) = 0 := c_432
                                                    refine lv_dconst0 hx hb dX4_isSame_435 ?_
                                                    refine lv_goto (tgt := 446) hx hb dX4_isSame_436 (by decide) ?_
                                                    refine lv_dcmp hx hb dX4_isSame_446 ?_
                                                    refine k_top (v := nI 0) (mp_dc hO h0) ?_
                                                    refine k_if_ne (tgt := 454) hx hb 0 rfl (by omega) dX4_isSame_447 (by decide) (fun c_447 => ?_) (fun c_447 => ?_)
                                                    · exact absurd c_447 (by omega)
                                                    · skip
                                                      refine lv_iconst (v := nI 1) hx hb dX4_isSame_450 (by decide +kernel) ?_
                                                      refine lv_goto (tgt := 455) hx hb dX4_isSame_451 (by decide) ?_
                                                      exact ret (nI 1) () _ _ _ _ _ _ rfl (rfl) (z_subP hP [2, 3, 0] (rfl)) (z_subD hD [2, 3, 0] (by decide) (rfl)) hS (Nat.le_of_ble_eq_true rfl) (Nat.le_of_ble_eq_true rfl) dX4_isSame_455
                      · skip
                        exact absurd (by decide) c_178
                    · skip
                      obtain ⟨k1, rfl⟩ : ∃ z, k = z + 1 := ⟨k - 1, by omega⟩
                      rw [z_dn] at hl
                      have hkL : k1 < Rt.length := by omega
                      have hkT : k1 < (stT q).length := by omega
                      have e1 := sn_gdT Rt k1
                      rw [← hq.2] at e1
                      have hx9 : ¬ tkX ((stT q).getD k1 tk0) = -1 := hx9
                      have hx1 : ¬ tkX (Rt.getD k1 td).2 = -1 := by rw [← e1]; exact hx9
                      have hp30 := (stT_okT hq.2 hO hkL).2.2.2
                      refine lv_iload hx hb dX4_isSame_176 (lv_at hl 6 rfl) ?_
                      refine k_if_lt (tgt := 288) hx hb k1 rfl (by omega) dX4_isSame_178 (by decide) (fun c_178 => ?_) (fun c_178 => ?_)
                      · exact c_178.elim
                      · skip
                        refine lv_aload_n hx hb dX4_isSame_181 rfl (lv_at hl 0 rfl) ?_
                        refine va_get (D := D) (ci := 4) (v := .ref ta) (C := RX4) (T := TX4) (N := 9) hx hb hts iX4 hown hK hP 0 rfl rfl 8 (by decide) f25 (fun _ h9 => h9) rfl dX4_isSame_182 ?_
                        refine lv_iload hx hb dX4_isSame_185 (lv_at hl 6 rfl) ?_
                        refine z_qld hx hb hK hP 2 1 rfl rfl k1 rfl (hkL) (by omega) ((Rt.getD k1 td).1) (ad_q hkL) dX4_isSame_187 ?_
                        refine lv_astore (lv' := [(8, .ref ((Rt.getD k1 td).1)), (0, .ref s), (1, .ref x), (3, .int lv), (4, .int (nI (ctT (stT q) - cnN (isT (stT q)) (k1 + 1)))), (5, .int (nI (spT (stT q) - spN (stT q) (k1 + 1)))), (6, .int nv), (7, .int (nI k1))]) hx hb dX4_isSame_188 hl (by decide) rfl (fun ls hl => ?_)
                        refine lv_aload_n hx hb dX4_isSame_190 rfl (lv_at hl 2 rfl) ?_
                        refine lv_iload hx hb dX4_isSame_191 (lv_at hl 7 rfl) ?_
                        refine kz_callX (As := [.int (nI k1)]) (rest := []) F (c_ZX3_isPresent l D cI x a b f q k1 hR hkT) gX4_isSame_X3_isPresent rfl (nA := 1) (by decide +kernel) rfl ⟨Nat.le_of_ble_eq_true rfl, Nat.le_of_ble_eq_true rfl⟩ hK hP hD hS hA hG (ci := 3) (q0 := 0) rfl rfl rfl zp_pn [0] rfl rfl hl.1 (Nat.le_of_ble_eq_true rfl) dX4_isSame_193 ⟨Nat.le_of_ble_eq_true rfl, Nat.le_of_ble_eq_true rfl⟩ (fun r_20 u H locs hr_193 hP hD hS => ?_)
                        try dsimp only at hr_193
                        have hP := z_PS z_pnb hP
                        have hD := z_DS z_pnb hD
                        have hP : va_P D vwCl ([(s, .inr (4, [.int (nI (stI q)), .int (nI (stN q)), .int (stO q), .int (stV q), .int (nI (stG q)), .int (nI (stS q)), .int (stM q), .ref ba, .ref ta])), (ba, .inl (cQ, Rb.length, .inr (.inr (.inr (.inr (qf (ad Rb))))))), (ta, .inl (cQ, Rt.length, .inr (.inr (.inr (.inr (qf (ad Rt))))))), (q_1, .inl (cI, 5, .inl ks))] ++ ((sT cI (Rb.map bq) (Rt.map tq)) ++ ((xA cI x a b f q) ++ ((xB cI b g q2) ++ [])))) H := hP
                        have hD : va_D A ([(s, .inr (4, [.int (nI (stI q)), .int (nI (stN q)), .int (stO q), .int (stV q), .int (nI (stG q)), .int (nI (stS q)), .int (stM q), .ref ba, .ref ta])), (ba, .inl (cQ, Rb.length, .inr (.inr (.inr (.inr (qf (ad Rb))))))), (ta, .inl (cQ, Rt.length, .inr (.inr (.inr (.inr (qf (ad Rt))))))), (q_1, .inl (cI, 5, .inl ks))] ++ ((sT cI (Rb.map bq) (Rt.map tq)) ++ ((xA cI x a b f q) ++ ((xB cI b g q2) ++ [])))) := hD
                        refine W.eq (g2 := F0 m 196 ls [.int r_20]) rfl ?_
                        refine W.widen (k := 1) (n := 5) (Nat.le_refl _) (Nat.le_refl _) ?_
                        refine k_top (v := nI 0) (hr_193.trans (by rw [e1]; exact if_neg hx1)) ?_
                        refine lv_aload_n hx hb dX4_isSame_196 rfl (lv_at hl 1 rfl) ?_
                        refine lv_iload hx hb dX4_isSame_197 (lv_at hl 7 rfl) ?_
                        refine kz_callV (As := [.int (nI k1)]) (rest := [.int (nI 0)]) (wp := [(s, .inr (4, [.int (nI (stI q)), .int (nI (stN q)), .int (stO q), .int (stV q), .int (nI (stG q)), .int (nI (stS q)), .int (stM q), .ref ba, .ref ta])), (ba, .inl (cQ, Rb.length, .inr (.inr (.inr (.inr (qf (ad Rb))))))), (ta, .inl (cQ, Rt.length, .inr (.inr (.inr (.inr (qf (ad Rt))))))), (q_1, .inl (cI, 5, .inl ks))]) (wc := [(s, .inr (4, [.int (nI (stI q)), .int (nI (stN q)), .int (stO q), .int (stV q), .int (nI (stG q)), .int (nI (stS q)), .int (stM q), .ref ba, .ref ta])), (ta, .inl (cQ, Rt.length, .inr (.inr (.inr (.inr (qf (ad Rt)))))))]) (wr := [(ba, .inl (cQ, Rb.length, .inr (.inr (.inr (.inr (qf (ad Rb))))))), (q_1, .inl (cI, 5, .inl ks))]) (Z := ((sT cI (Rb.map bq) (Rt.map tq)) ++ ((xA cI x a b f q) ++ ((xB cI b g q2) ++ [])))) (X0 := sT cI (Rb.map bq) (Rt.map tq)) (Y := ((xA cI x a b f q) ++ ((xB cI b g q2) ++ []))) (wc1 := (fun (u : Unit) => [(s, .inr (4, [.int (nI (stI q)), .int (nI (stN q)), .int (stO q), .int (stV q), .int (nI (stG q)), .int (nI (stS q)), .int (stM q), .ref ba, .ref ta])), (ta, .inl (cQ, Rt.length, .inr (.inr (.inr (.inr (qf (ad Rt)))))))])) (X1 := (fun (u : Unit) => (sT cI (Rb.map bq) (Rt.map tq)))) F (c_X4_isThere l D cI cQ s ba ta (nI (stI q)) (nI (stN q)) (stO q) (stV q) (nI (stG q)) (nI (stS q)) (stM q) Rb Rt k1 hkL ht6 hXs) gX4_isSame_X4_isThere rfl (nA := 1) (by decide +kernel) rfl ⟨Nat.le_of_ble_eq_true rfl, Nat.le_of_ble_eq_true rfl⟩ hK hP hD hS hA hG (ci := 4) (q0 := 0) rfl rfl rfl [0, 2] [1, 3] rfl (by decide) (List.Perm.refl _) (by rw [List.append_nil]) (fun u => by simp only [List.append_nil]) [0, 1] rfl rfl hl.1 (Nat.le_of_ble_eq_true rfl) dX4_isSame_199 ⟨Nat.le_of_ble_eq_true rfl, Nat.le_of_ble_eq_true rfl⟩ (fun r_21 u H locs hr_199 hP hD hS => ?_)
                        try dsimp only at hr_199
                        have hP : va_P D vwCl ([(ba, .inl (cQ, Rb.length, .inr (.inr (.inr (.inr (qf (ad Rb))))))), (q_1, .inl (cI, 5, .inl ks)), (s, .inr (4, [.int (nI (stI q)), .int (nI (stN q)), .int (stO q), .int (stV q), .int (nI (stG q)), .int (nI (stS q)), .int (stM q), .ref ba, .ref ta])), (ta, .inl (cQ, Rt.length, .inr (.inr (.inr (.inr (qf (ad Rt)))))))] ++ ((sT cI (Rb.map bq) (Rt.map tq)) ++ ((xA cI x a b f q) ++ ((xB cI b g q2) ++ [])))) H := hP
                        have hD : va_D A ([(ba, .inl (cQ, Rb.length, .inr (.inr (.inr (.inr (qf (ad Rb))))))), (q_1, .inl (cI, 5, .inl ks)), (s, .inr (4, [.int (nI (stI q)), .int (nI (stN q)), .int (stO q), .int (stV q), .int (nI (stG q)), .int (nI (stS q)), .int (stM q), .ref ba, .ref ta])), (ta, .inl (cQ, Rt.length, .inr (.inr (.inr (.inr (qf (ad Rt)))))))] ++ ((sT cI (Rb.map bq) (Rt.map tq)) ++ ((xA cI x a b f q) ++ ((xB cI b g q2) ++ [])))) := hD
                        refine W.eq (g2 := F0 m 202 ls [.int r_21, .int (nI 0)]) rfl ?_
                        refine W.widen (k := 1) (n := 5) (Nat.le_refl _) (Nat.le_refl _) ?_
                        refine k_top (v := nI 0) (hr_199.trans (if_neg hx1)) ?_
                        refine k_cmp_ne (tgt := 231) hx hb 0 0 rfl rfl (by omega) (by omega) dX4_isSame_202 (by decide) (fun c_202 => ?_) (fun c_202 => ?_)
                        · exact absurd c_202 (by omega)
                        · skip
                          refine lv_aload_n hx hb dX4_isSame_205 rfl (lv_at hl 2 rfl) ?_
                          refine lv_iload hx hb dX4_isSame_206 (lv_at hl 7 rfl) ?_
                          refine kz_callX (As := [.int (nI k1)]) (rest := []) F (c_ZX3_patienceOf l D cI x a b f q k1 hR hkT) gX4_isSame_X3_patienceOf rfl (nA := 1) (by decide +kernel) rfl ⟨Nat.le_of_ble_eq_true rfl, Nat.le_of_ble_eq_true rfl⟩ hK hP hD hS hA hG (ci := 3) (q0 := 0) rfl rfl rfl zp_pn [0] rfl rfl hl.1 (Nat.le_of_ble_eq_true rfl) dX4_isSame_208 ⟨Nat.le_of_ble_eq_true rfl, Nat.le_of_ble_eq_true rfl⟩ (fun r_22 u H locs hr_208 hP hD hS => ?_)
                          try dsimp only at hr_208
                          have hP := z_PS z_pnb hP
                          have hD := z_DS z_pnb hD
                          have hP : va_P D vwCl ([(ba, .inl (cQ, Rb.length, .inr (.inr (.inr (.inr (qf (ad Rb))))))), (q_1, .inl (cI, 5, .inl ks)), (s, .inr (4, [.int (nI (stI q)), .int (nI (stN q)), .int (stO q), .int (stV q), .int (nI (stG q)), .int (nI (stS q)), .int (stM q), .ref ba, .ref ta])), (ta, .inl (cQ, Rt.length, .inr (.inr (.inr (.inr (qf (ad Rt)))))))] ++ ((sT cI (Rb.map bq) (Rt.map tq)) ++ ((xA cI x a b f q) ++ ((xB cI b g q2) ++ [])))) H := hP
                          have hD : va_D A ([(ba, .inl (cQ, Rb.length, .inr (.inr (.inr (.inr (qf (ad Rb))))))), (q_1, .inl (cI, 5, .inl ks)), (s, .inr (4, [.int (nI (stI q)), .int (nI (stN q)), .int (stO q), .int (stV q), .int (nI (stG q)), .int (nI (stS q)), .int (stM q), .ref ba, .ref ta])), (ta, .inl (cQ, Rt.length, .inr (.inr (.inr (.inr (qf (ad Rt)))))))] ++ ((sT cI (Rb.map bq) (Rt.map tq)) ++ ((xA cI x a b f q) ++ ((xB cI b g q2) ++ [])))) := hD
                          refine W.eq (g2 := F0 m 211 ls [.int r_22]) rfl ?_
                          refine W.widen (k := 1) (n := 5) (Nat.le_refl _) (Nat.le_refl _) ?_
                          refine k_top (v := nI (tkP (Rt.getD k1 td).2)) (hr_208.trans (by rw [e1])) ?_
                          refine lv_aload hx hb dX4_isSame_211 (lv_at hl 0 rfl) ?_
                          refine lv_iconst (v := nI 0) hx hb dX4_isSame_213 (by decide +kernel) ?_
                          refine z_tld hx hb hK hP 0 rfl k1 (mp_len hkL) (tq_1 hkL) 0 rfl (by decide) (nI (tkP (Rt.getD k1 td).2)) (tq_p hkL) dX4_isSame_214 ?_
                          refine k_cmp_ne (tgt := 231) hx hb (tkP (Rt.getD k1 td).2) (tkP (Rt.getD k1 td).2) rfl rfl (by omega) (by omega) dX4_isSame_215 (by decide) (fun c_215 => ?_) (fun c_215 => ?_)
                          · skip
                            exact absurd rfl c_215
                          · skip
                            refine lv_aload_n hx hb dX4_isSame_218 rfl (lv_at hl 2 rfl) ?_
                            refine lv_iload hx hb dX4_isSame_219 (lv_at hl 7 rfl) ?_
                            refine kz_callX (As := [.int (nI k1)]) (rest := []) F (c_ZX3_exitOf l D cI x a b f q k1 hR hkT) gX4_isSame_X3_exitOf rfl (nA := 1) (by decide +kernel) rfl ⟨Nat.le_of_ble_eq_true rfl, Nat.le_of_ble_eq_true rfl⟩ hK hP hD hS hA hG (ci := 3) (q0 := 0) rfl rfl rfl zp_pn [0] rfl rfl hl.1 (Nat.le_of_ble_eq_true rfl) dX4_isSame_221 ⟨Nat.le_of_ble_eq_true rfl, Nat.le_of_ble_eq_true rfl⟩ (fun r_23 u H locs hr_221 hP hD hS => ?_)
                            try dsimp only at hr_221
                            have hP := z_PS z_pnb hP
                            have hD := z_DS z_pnb hD
                            have hP : va_P D vwCl ([(ba, .inl (cQ, Rb.length, .inr (.inr (.inr (.inr (qf (ad Rb))))))), (q_1, .inl (cI, 5, .inl ks)), (s, .inr (4, [.int (nI (stI q)), .int (nI (stN q)), .int (stO q), .int (stV q), .int (nI (stG q)), .int (nI (stS q)), .int (stM q), .ref ba, .ref ta])), (ta, .inl (cQ, Rt.length, .inr (.inr (.inr (.inr (qf (ad Rt)))))))] ++ ((sT cI (Rb.map bq) (Rt.map tq)) ++ ((xA cI x a b f q) ++ ((xB cI b g q2) ++ [])))) H := hP
                            have hD : va_D A ([(ba, .inl (cQ, Rb.length, .inr (.inr (.inr (.inr (qf (ad Rb))))))), (q_1, .inl (cI, 5, .inl ks)), (s, .inr (4, [.int (nI (stI q)), .int (nI (stN q)), .int (stO q), .int (stV q), .int (nI (stG q)), .int (nI (stS q)), .int (stM q), .ref ba, .ref ta])), (ta, .inl (cQ, Rt.length, .inr (.inr (.inr (.inr (qf (ad Rt)))))))] ++ ((sT cI (Rb.map bq) (Rt.map tq)) ++ ((xA cI x a b f q) ++ ((xB cI b g q2) ++ [])))) := hD
                            refine W.eq (g2 := F0 m 224 ls [.int r_23]) rfl ?_
                            refine W.widen (k := 1) (n := 5) (Nat.le_refl _) (Nat.le_refl _) ?_
                            refine k_top (v := tkX (Rt.getD k1 td).2) (hr_221.trans (by rw [e1])) ?_
                            refine lv_aload hx hb dX4_isSame_224 (lv_at hl 0 rfl) ?_
                            refine lv_iconst (v := nI 1) hx hb dX4_isSame_226 (by decide +kernel) ?_
                            refine z_tld hx hb hK hP 0 rfl k1 (mp_len hkL) (tq_1 hkL) 1 rfl (by decide) (tkX (Rt.getD k1 td).2) (tq_x hkL) dX4_isSame_227 ?_
                            refine lv_icmp_eq (tgt := 233) hx hb dX4_isSame_228 (by decide) (fun c_228 => ?_) (fun c_228 => ?_)
                            · skip
                              refine lv_aload_n hx hb dX4_isSame_233 rfl (lv_at hl 1 rfl) ?_
                              refine lv_iload hx hb dX4_isSame_234 (lv_at hl 7 rfl) ?_
                              refine kz_callV (As := [.int (nI k1)]) (rest := []) (wp := [(ba, .inl (cQ, Rb.length, .inr (.inr (.inr (.inr (qf (ad Rb))))))), (q_1, .inl (cI, 5, .inl ks)), (s, .inr (4, [.int (nI (stI q)), .int (nI (stN q)), .int (stO q), .int (stV q), .int (nI (stG q)), .int (nI (stS q)), .int (stM q), .ref ba, .ref ta])), (ta, .inl (cQ, Rt.length, .inr (.inr (.inr (.inr (qf (ad Rt)))))))]) (wc := [(s, .inr (4, [.int (nI (stI q)), .int (nI (stN q)), .int (stO q), .int (stV q), .int (nI (stG q)), .int (nI (stS q)), .int (stM q), .ref ba, .ref ta])), (ta, .inl (cQ, Rt.length, .inr (.inr (.inr (.inr (qf (ad Rt)))))))]) (wr := [(ba, .inl (cQ, Rb.length, .inr (.inr (.inr (.inr (qf (ad Rb))))))), (q_1, .inl (cI, 5, .inl ks))]) (Z := ((sT cI (Rb.map bq) (Rt.map tq)) ++ ((xA cI x a b f q) ++ ((xB cI b g q2) ++ [])))) (X0 := sT cI (Rb.map bq) (Rt.map tq)) (Y := ((xA cI x a b f q) ++ ((xB cI b g q2) ++ []))) (wc1 := (fun (u : Unit) => [(s, .inr (4, [.int (nI (stI q)), .int (nI (stN q)), .int (stO q), .int (stV q), .int (nI (stG q)), .int (nI (stS q)), .int (stM q), .ref ba, .ref ta])), (ta, .inl (cQ, Rt.length, .inr (.inr (.inr (.inr (qf (ad Rt)))))))])) (X1 := (fun (u : Unit) => (sT cI (Rb.map bq) (Rt.map tq)))) F (c_X4_isThere l D cI cQ s ba ta (nI (stI q)) (nI (stN q)) (stO q) (stV q) (nI (stG q)) (nI (stS q)) (stM q) Rb Rt k1 hkL ht6 hXs) gX4_isSame_X4_isThere rfl (nA := 1) (by decide +kernel) rfl ⟨Nat.le_of_ble_eq_true rfl, Nat.le_of_ble_eq_true rfl⟩ hK hP hD hS hA hG (ci := 4) (q0 := 0) rfl rfl rfl [2, 3] [0, 1] rfl (by decide) (List.Perm.refl _) (by rw [List.append_nil]) (fun u => by simp only [List.append_nil]) [0, 1] rfl rfl hl.1 (Nat.le_of_ble_eq_true rfl) dX4_isSame_236 ⟨Nat.le_of_ble_eq_true rfl, Nat.le_of_ble_eq_true rfl⟩ (fun r_24 u H locs hr_236 hP hD hS => ?_)
                              try dsimp only at hr_236
                              have hP : va_P D vwCl ([(ba, .inl (cQ, Rb.length, .inr (.inr (.inr (.inr (qf (ad Rb))))))), (q_1, .inl (cI, 5, .inl ks)), (s, .inr (4, [.int (nI (stI q)), .int (nI (stN q)), .int (stO q), .int (stV q), .int (nI (stG q)), .int (nI (stS q)), .int (stM q), .ref ba, .ref ta])), (ta, .inl (cQ, Rt.length, .inr (.inr (.inr (.inr (qf (ad Rt)))))))] ++ ((sT cI (Rb.map bq) (Rt.map tq)) ++ ((xA cI x a b f q) ++ ((xB cI b g q2) ++ [])))) H := hP
                              have hD : va_D A ([(ba, .inl (cQ, Rb.length, .inr (.inr (.inr (.inr (qf (ad Rb))))))), (q_1, .inl (cI, 5, .inl ks)), (s, .inr (4, [.int (nI (stI q)), .int (nI (stN q)), .int (stO q), .int (stV q), .int (nI (stG q)), .int (nI (stS q)), .int (stM q), .ref ba, .ref ta])), (ta, .inl (cQ, Rt.length, .inr (.inr (.inr (.inr (qf (ad Rt)))))))] ++ ((sT cI (Rb.map bq) (Rt.map tq)) ++ ((xA cI x a b f q) ++ ((xB cI b g q2) ++ [])))) := hD
                              refine W.eq (g2 := F0 m 239 ls [.int r_24]) rfl ?_
                              refine W.widen (k := 1) (n := 5) (Nat.le_refl _) (Nat.le_refl _) ?_
                              refine k_top (v := nI 0) (hr_236.trans (if_neg hx1)) ?_
                              refine k_if_ne (tgt := 245) hx hb 0 rfl (by omega) dX4_isSame_239 (by decide) (fun c_239 => ?_) (fun c_239 => ?_)
                              · exact absurd c_239 (by omega)
                              · skip
                                refine lv_goto (tgt := 282) hx hb dX4_isSame_242 (by decide) ?_
                                refine lv_iinc (v := nI k1 - nI 1) (lv' := [(7, .int (nI k1 - nI 1)), (8, .ref ((Rt.getD k1 td).1)), (0, .ref s), (1, .ref x), (3, .int lv), (4, .int (nI (ctT (stT q) - cnN (isT (stT q)) (k1 + 1)))), (5, .int (nI (spT (stT q) - spN (stT q) (k1 + 1)))), (6, .int nv)]) hx hb dX4_isSame_282 hl (k := 7) rfl (z_dec _) (by decide) rfl (fun ls hl => ?_)
                                refine lv_goto (tgt := 176) hx hb dX4_isSame_285 (by decide) ?_
                                have eC : ctT (stT q) - cnN (isT (stT q)) (k1 + 1) = ctT (stT q) - cnN (isT (stT q)) k1 := by rw [cn_f (isT_f hx9)]
                                have eS : spT (stT q) - spN (stT q) (k1 + 1) = spT (stT q) - spN (stT q) k1 := by rw [sp_f hx9]
                                exact ih k1 nv (by omega) (ntR_x hnt hx9) (by omega) _ _ (z_subP hP [2, 0, 3, 1] (rfl)) (z_subD hD [2, 0, 3, 1] (by decide) (rfl)) hS _ (lv_sub hl [2, 3, 4, 5, 6, 7, 0] (by rw [← eC, ← eS]; rfl))
                            · skip
                              exact absurd rfl c_228
                    · skip
                      obtain ⟨k1, rfl⟩ : ∃ z, k = z + 1 := ⟨k - 1, by omega⟩
                      rw [z_dn] at hl
                      have hkL : k1 < Rt.length := by omega
                      have hkT : k1 < (stT q).length := by omega
                      have e1 := sn_gdT Rt k1
                      rw [← hq.2] at e1
                      have hx1 : tkX (Rt.getD k1 td).2 = -1 := by rw [← e1]; exact hx9
                      have hp30 := (stT_okT hq.2 hO hkL).2.2.2
                      refine lv_iload hx hb dX4_isSame_176 (lv_at hl 6 rfl) ?_
                      refine k_if_lt (tgt := 288) hx hb k1 rfl (by omega) dX4_isSame_178 (by decide) (fun c_178 => ?_) (fun c_178 => ?_)
                      · exact c_178.elim
                      · skip
                        refine lv_aload_n hx hb dX4_isSame_181 rfl (lv_at hl 0 rfl) ?_
                        refine va_get (D := D) (ci := 4) (v := .ref ta) (C := RX4) (T := TX4) (N := 9) hx hb hts iX4 hown hK hP 0 rfl rfl 8 (by decide) f25 (fun _ h9 => h9) rfl dX4_isSame_182 ?_
                        refine lv_iload hx hb dX4_isSame_185 (lv_at hl 6 rfl) ?_
                        refine z_qld hx hb hK hP 2 1 rfl rfl k1 rfl (hkL) (by omega) ((Rt.getD k1 td).1) (ad_q hkL) dX4_isSame_187 ?_
                        refine lv_astore (lv' := [(8, .ref ((Rt.getD k1 td).1)), (0, .ref s), (1, .ref x), (3, .int lv), (4, .int (nI (ctT (stT q) - cnN (isT (stT q)) (k1 + 1)))), (5, .int (nI (spT (stT q) - spN (stT q) (k1 + 1)))), (6, .int (-1)), (7, .int (nI k1))]) hx hb dX4_isSame_188 hl (by decide) rfl (fun ls hl => ?_)
                        refine lv_aload_n hx hb dX4_isSame_190 rfl (lv_at hl 2 rfl) ?_
                        refine lv_iload hx hb dX4_isSame_191 (lv_at hl 7 rfl) ?_
                        refine kz_callX (As := [.int (nI k1)]) (rest := []) F (c_ZX3_isPresent l D cI x a b f q k1 hR hkT) gX4_isSame_X3_isPresent rfl (nA := 1) (by decide +kernel) rfl ⟨Nat.le_of_ble_eq_true rfl, Nat.le_of_ble_eq_true rfl⟩ hK hP hD hS hA hG (ci := 3) (q0 := 0) rfl rfl rfl zp_pn [0] rfl rfl hl.1 (Nat.le_of_ble_eq_true rfl) dX4_isSame_193 ⟨Nat.le_of_ble_eq_true rfl, Nat.le_of_ble_eq_true rfl⟩ (fun r_25 u H locs hr_193 hP hD hS => ?_)
                        try dsimp only at hr_193
                        have hP := z_PS z_pnb hP
                        have hD := z_DS z_pnb hD
                        have hP : va_P D vwCl ([(s, .inr (4, [.int (nI (stI q)), .int (nI (stN q)), .int (stO q), .int (stV q), .int (nI (stG q)), .int (nI (stS q)), .int (stM q), .ref ba, .ref ta])), (ba, .inl (cQ, Rb.length, .inr (.inr (.inr (.inr (qf (ad Rb))))))), (ta, .inl (cQ, Rt.length, .inr (.inr (.inr (.inr (qf (ad Rt))))))), (q_1, .inl (cI, 5, .inl ks))] ++ ((sT cI (Rb.map bq) (Rt.map tq)) ++ ((xA cI x a b f q) ++ ((xB cI b g q2) ++ [])))) H := hP
                        have hD : va_D A ([(s, .inr (4, [.int (nI (stI q)), .int (nI (stN q)), .int (stO q), .int (stV q), .int (nI (stG q)), .int (nI (stS q)), .int (stM q), .ref ba, .ref ta])), (ba, .inl (cQ, Rb.length, .inr (.inr (.inr (.inr (qf (ad Rb))))))), (ta, .inl (cQ, Rt.length, .inr (.inr (.inr (.inr (qf (ad Rt))))))), (q_1, .inl (cI, 5, .inl ks))] ++ ((sT cI (Rb.map bq) (Rt.map tq)) ++ ((xA cI x a b f q) ++ ((xB cI b g q2) ++ [])))) := hD
                        refine W.eq (g2 := F0 m 196 ls [.int r_25]) rfl ?_
                        refine W.widen (k := 1) (n := 5) (Nat.le_refl _) (Nat.le_refl _) ?_
                        refine k_top (v := nI 1) (hr_193.trans (by rw [e1]; exact if_pos hx1)) ?_
                        refine lv_aload_n hx hb dX4_isSame_196 rfl (lv_at hl 1 rfl) ?_
                        refine lv_iload hx hb dX4_isSame_197 (lv_at hl 7 rfl) ?_
                        refine kz_callV (As := [.int (nI k1)]) (rest := [.int (nI 1)]) (wp := [(s, .inr (4, [.int (nI (stI q)), .int (nI (stN q)), .int (stO q), .int (stV q), .int (nI (stG q)), .int (nI (stS q)), .int (stM q), .ref ba, .ref ta])), (ba, .inl (cQ, Rb.length, .inr (.inr (.inr (.inr (qf (ad Rb))))))), (ta, .inl (cQ, Rt.length, .inr (.inr (.inr (.inr (qf (ad Rt))))))), (q_1, .inl (cI, 5, .inl ks))]) (wc := [(s, .inr (4, [.int (nI (stI q)), .int (nI (stN q)), .int (stO q), .int (stV q), .int (nI (stG q)), .int (nI (stS q)), .int (stM q), .ref ba, .ref ta])), (ta, .inl (cQ, Rt.length, .inr (.inr (.inr (.inr (qf (ad Rt)))))))]) (wr := [(ba, .inl (cQ, Rb.length, .inr (.inr (.inr (.inr (qf (ad Rb))))))), (q_1, .inl (cI, 5, .inl ks))]) (Z := ((sT cI (Rb.map bq) (Rt.map tq)) ++ ((xA cI x a b f q) ++ ((xB cI b g q2) ++ [])))) (X0 := sT cI (Rb.map bq) (Rt.map tq)) (Y := ((xA cI x a b f q) ++ ((xB cI b g q2) ++ []))) (wc1 := (fun (u : Unit) => [(s, .inr (4, [.int (nI (stI q)), .int (nI (stN q)), .int (stO q), .int (stV q), .int (nI (stG q)), .int (nI (stS q)), .int (stM q), .ref ba, .ref ta])), (ta, .inl (cQ, Rt.length, .inr (.inr (.inr (.inr (qf (ad Rt)))))))])) (X1 := (fun (u : Unit) => (sT cI (Rb.map bq) (Rt.map tq)))) F (c_X4_isThere l D cI cQ s ba ta (nI (stI q)) (nI (stN q)) (stO q) (stV q) (nI (stG q)) (nI (stS q)) (stM q) Rb Rt k1 hkL ht6 hXs) gX4_isSame_X4_isThere rfl (nA := 1) (by decide +kernel) rfl ⟨Nat.le_of_ble_eq_true rfl, Nat.le_of_ble_eq_true rfl⟩ hK hP hD hS hA hG (ci := 4) (q0 := 0) rfl rfl rfl [0, 2] [1, 3] rfl (by decide) (List.Perm.refl _) (by rw [List.append_nil]) (fun u => by simp only [List.append_nil]) [0, 1] rfl rfl hl.1 (Nat.le_of_ble_eq_true rfl) dX4_isSame_199 ⟨Nat.le_of_ble_eq_true rfl, Nat.le_of_ble_eq_true rfl⟩ (fun r_26 u H locs hr_199 hP hD hS => ?_)
                        try dsimp only at hr_199
                        have hP : va_P D vwCl ([(ba, .inl (cQ, Rb.length, .inr (.inr (.inr (.inr (qf (ad Rb))))))), (q_1, .inl (cI, 5, .inl ks)), (s, .inr (4, [.int (nI (stI q)), .int (nI (stN q)), .int (stO q), .int (stV q), .int (nI (stG q)), .int (nI (stS q)), .int (stM q), .ref ba, .ref ta])), (ta, .inl (cQ, Rt.length, .inr (.inr (.inr (.inr (qf (ad Rt)))))))] ++ ((sT cI (Rb.map bq) (Rt.map tq)) ++ ((xA cI x a b f q) ++ ((xB cI b g q2) ++ [])))) H := hP
                        have hD : va_D A ([(ba, .inl (cQ, Rb.length, .inr (.inr (.inr (.inr (qf (ad Rb))))))), (q_1, .inl (cI, 5, .inl ks)), (s, .inr (4, [.int (nI (stI q)), .int (nI (stN q)), .int (stO q), .int (stV q), .int (nI (stG q)), .int (nI (stS q)), .int (stM q), .ref ba, .ref ta])), (ta, .inl (cQ, Rt.length, .inr (.inr (.inr (.inr (qf (ad Rt)))))))] ++ ((sT cI (Rb.map bq) (Rt.map tq)) ++ ((xA cI x a b f q) ++ ((xB cI b g q2) ++ [])))) := hD
                        refine W.eq (g2 := F0 m 202 ls [.int r_26, .int (nI 1)]) rfl ?_
                        refine W.widen (k := 1) (n := 5) (Nat.le_refl _) (Nat.le_refl _) ?_
                        refine k_top (v := nI 1) (hr_199.trans (if_pos hx1)) ?_
                        refine k_cmp_ne (tgt := 231) hx hb 1 1 rfl rfl (by omega) (by omega) dX4_isSame_202 (by decide) (fun c_202 => ?_) (fun c_202 => ?_)
                        · exact absurd c_202 (by omega)
                        · skip
                          refine lv_aload_n hx hb dX4_isSame_205 rfl (lv_at hl 2 rfl) ?_
                          refine lv_iload hx hb dX4_isSame_206 (lv_at hl 7 rfl) ?_
                          refine kz_callX (As := [.int (nI k1)]) (rest := []) F (c_ZX3_patienceOf l D cI x a b f q k1 hR hkT) gX4_isSame_X3_patienceOf rfl (nA := 1) (by decide +kernel) rfl ⟨Nat.le_of_ble_eq_true rfl, Nat.le_of_ble_eq_true rfl⟩ hK hP hD hS hA hG (ci := 3) (q0 := 0) rfl rfl rfl zp_pn [0] rfl rfl hl.1 (Nat.le_of_ble_eq_true rfl) dX4_isSame_208 ⟨Nat.le_of_ble_eq_true rfl, Nat.le_of_ble_eq_true rfl⟩ (fun r_27 u H locs hr_208 hP hD hS => ?_)
                          try dsimp only at hr_208
                          have hP := z_PS z_pnb hP
                          have hD := z_DS z_pnb hD
                          have hP : va_P D vwCl ([(ba, .inl (cQ, Rb.length, .inr (.inr (.inr (.inr (qf (ad Rb))))))), (q_1, .inl (cI, 5, .inl ks)), (s, .inr (4, [.int (nI (stI q)), .int (nI (stN q)), .int (stO q), .int (stV q), .int (nI (stG q)), .int (nI (stS q)), .int (stM q), .ref ba, .ref ta])), (ta, .inl (cQ, Rt.length, .inr (.inr (.inr (.inr (qf (ad Rt)))))))] ++ ((sT cI (Rb.map bq) (Rt.map tq)) ++ ((xA cI x a b f q) ++ ((xB cI b g q2) ++ [])))) H := hP
                          have hD : va_D A ([(ba, .inl (cQ, Rb.length, .inr (.inr (.inr (.inr (qf (ad Rb))))))), (q_1, .inl (cI, 5, .inl ks)), (s, .inr (4, [.int (nI (stI q)), .int (nI (stN q)), .int (stO q), .int (stV q), .int (nI (stG q)), .int (nI (stS q)), .int (stM q), .ref ba, .ref ta])), (ta, .inl (cQ, Rt.length, .inr (.inr (.inr (.inr (qf (ad Rt)))))))] ++ ((sT cI (Rb.map bq) (Rt.map tq)) ++ ((xA cI x a b f q) ++ ((xB cI b g q2) ++ [])))) := hD
                          refine W.eq (g2 := F0 m 211 ls [.int r_27]) rfl ?_
                          refine W.widen (k := 1) (n := 5) (Nat.le_refl _) (Nat.le_refl _) ?_
                          refine k_top (v := nI (tkP (Rt.getD k1 td).2)) (hr_208.trans (by rw [e1])) ?_
                          refine lv_aload hx hb dX4_isSame_211 (lv_at hl 0 rfl) ?_
                          refine lv_iconst (v := nI 0) hx hb dX4_isSame_213 (by decide +kernel) ?_
                          refine z_tld hx hb hK hP 0 rfl k1 (mp_len hkL) (tq_1 hkL) 0 rfl (by decide) (nI (tkP (Rt.getD k1 td).2)) (tq_p hkL) dX4_isSame_214 ?_
                          refine k_cmp_ne (tgt := 231) hx hb (tkP (Rt.getD k1 td).2) (tkP (Rt.getD k1 td).2) rfl rfl (by omega) (by omega) dX4_isSame_215 (by decide) (fun c_215 => ?_) (fun c_215 => ?_)
                          · skip
                            exact absurd rfl c_215
                          · skip
                            refine lv_aload_n hx hb dX4_isSame_218 rfl (lv_at hl 2 rfl) ?_
                            refine lv_iload hx hb dX4_isSame_219 (lv_at hl 7 rfl) ?_
                            refine kz_callX (As := [.int (nI k1)]) (rest := []) F (c_ZX3_exitOf l D cI x a b f q k1 hR hkT) gX4_isSame_X3_exitOf rfl (nA := 1) (by decide +kernel) rfl ⟨Nat.le_of_ble_eq_true rfl, Nat.le_of_ble_eq_true rfl⟩ hK hP hD hS hA hG (ci := 3) (q0 := 0) rfl rfl rfl zp_pn [0] rfl rfl hl.1 (Nat.le_of_ble_eq_true rfl) dX4_isSame_221 ⟨Nat.le_of_ble_eq_true rfl, Nat.le_of_ble_eq_true rfl⟩ (fun r_28 u H locs hr_221 hP hD hS => ?_)
                            try dsimp only at hr_221
                            have hP := z_PS z_pnb hP
                            have hD := z_DS z_pnb hD
                            have hP : va_P D vwCl ([(ba, .inl (cQ, Rb.length, .inr (.inr (.inr (.inr (qf (ad Rb))))))), (q_1, .inl (cI, 5, .inl ks)), (s, .inr (4, [.int (nI (stI q)), .int (nI (stN q)), .int (stO q), .int (stV q), .int (nI (stG q)), .int (nI (stS q)), .int (stM q), .ref ba, .ref ta])), (ta, .inl (cQ, Rt.length, .inr (.inr (.inr (.inr (qf (ad Rt)))))))] ++ ((sT cI (Rb.map bq) (Rt.map tq)) ++ ((xA cI x a b f q) ++ ((xB cI b g q2) ++ [])))) H := hP
                            have hD : va_D A ([(ba, .inl (cQ, Rb.length, .inr (.inr (.inr (.inr (qf (ad Rb))))))), (q_1, .inl (cI, 5, .inl ks)), (s, .inr (4, [.int (nI (stI q)), .int (nI (stN q)), .int (stO q), .int (stV q), .int (nI (stG q)), .int (nI (stS q)), .int (stM q), .ref ba, .ref ta])), (ta, .inl (cQ, Rt.length, .inr (.inr (.inr (.inr (qf (ad Rt)))))))] ++ ((sT cI (Rb.map bq) (Rt.map tq)) ++ ((xA cI x a b f q) ++ ((xB cI b g q2) ++ [])))) := hD
                            refine W.eq (g2 := F0 m 224 ls [.int r_28]) rfl ?_
                            refine W.widen (k := 1) (n := 5) (Nat.le_refl _) (Nat.le_refl _) ?_
                            refine k_top (v := tkX (Rt.getD k1 td).2) (hr_221.trans (by rw [e1])) ?_
                            refine lv_aload hx hb dX4_isSame_224 (lv_at hl 0 rfl) ?_
                            refine lv_iconst (v := nI 1) hx hb dX4_isSame_226 (by decide +kernel) ?_
                            refine z_tld hx hb hK hP 0 rfl k1 (mp_len hkL) (tq_1 hkL) 1 rfl (by decide) (tkX (Rt.getD k1 td).2) (tq_x hkL) dX4_isSame_227 ?_
                            refine lv_icmp_eq (tgt := 233) hx hb dX4_isSame_228 (by decide) (fun c_228 => ?_) (fun c_228 => ?_)
                            · skip
                              refine lv_aload_n hx hb dX4_isSame_233 rfl (lv_at hl 1 rfl) ?_
                              refine lv_iload hx hb dX4_isSame_234 (lv_at hl 7 rfl) ?_
                              refine kz_callV (As := [.int (nI k1)]) (rest := []) (wp := [(ba, .inl (cQ, Rb.length, .inr (.inr (.inr (.inr (qf (ad Rb))))))), (q_1, .inl (cI, 5, .inl ks)), (s, .inr (4, [.int (nI (stI q)), .int (nI (stN q)), .int (stO q), .int (stV q), .int (nI (stG q)), .int (nI (stS q)), .int (stM q), .ref ba, .ref ta])), (ta, .inl (cQ, Rt.length, .inr (.inr (.inr (.inr (qf (ad Rt)))))))]) (wc := [(s, .inr (4, [.int (nI (stI q)), .int (nI (stN q)), .int (stO q), .int (stV q), .int (nI (stG q)), .int (nI (stS q)), .int (stM q), .ref ba, .ref ta])), (ta, .inl (cQ, Rt.length, .inr (.inr (.inr (.inr (qf (ad Rt)))))))]) (wr := [(ba, .inl (cQ, Rb.length, .inr (.inr (.inr (.inr (qf (ad Rb))))))), (q_1, .inl (cI, 5, .inl ks))]) (Z := ((sT cI (Rb.map bq) (Rt.map tq)) ++ ((xA cI x a b f q) ++ ((xB cI b g q2) ++ [])))) (X0 := sT cI (Rb.map bq) (Rt.map tq)) (Y := ((xA cI x a b f q) ++ ((xB cI b g q2) ++ []))) (wc1 := (fun (u : Unit) => [(s, .inr (4, [.int (nI (stI q)), .int (nI (stN q)), .int (stO q), .int (stV q), .int (nI (stG q)), .int (nI (stS q)), .int (stM q), .ref ba, .ref ta])), (ta, .inl (cQ, Rt.length, .inr (.inr (.inr (.inr (qf (ad Rt)))))))])) (X1 := (fun (u : Unit) => (sT cI (Rb.map bq) (Rt.map tq)))) F (c_X4_isThere l D cI cQ s ba ta (nI (stI q)) (nI (stN q)) (stO q) (stV q) (nI (stG q)) (nI (stS q)) (stM q) Rb Rt k1 hkL ht6 hXs) gX4_isSame_X4_isThere rfl (nA := 1) (by decide +kernel) rfl ⟨Nat.le_of_ble_eq_true rfl, Nat.le_of_ble_eq_true rfl⟩ hK hP hD hS hA hG (ci := 4) (q0 := 0) rfl rfl rfl [2, 3] [0, 1] rfl (by decide) (List.Perm.refl _) (by rw [List.append_nil]) (fun u => by simp only [List.append_nil]) [0, 1] rfl rfl hl.1 (Nat.le_of_ble_eq_true rfl) dX4_isSame_236 ⟨Nat.le_of_ble_eq_true rfl, Nat.le_of_ble_eq_true rfl⟩ (fun r_29 u H locs hr_236 hP hD hS => ?_)
                              try dsimp only at hr_236
                              have hP : va_P D vwCl ([(ba, .inl (cQ, Rb.length, .inr (.inr (.inr (.inr (qf (ad Rb))))))), (q_1, .inl (cI, 5, .inl ks)), (s, .inr (4, [.int (nI (stI q)), .int (nI (stN q)), .int (stO q), .int (stV q), .int (nI (stG q)), .int (nI (stS q)), .int (stM q), .ref ba, .ref ta])), (ta, .inl (cQ, Rt.length, .inr (.inr (.inr (.inr (qf (ad Rt)))))))] ++ ((sT cI (Rb.map bq) (Rt.map tq)) ++ ((xA cI x a b f q) ++ ((xB cI b g q2) ++ [])))) H := hP
                              have hD : va_D A ([(ba, .inl (cQ, Rb.length, .inr (.inr (.inr (.inr (qf (ad Rb))))))), (q_1, .inl (cI, 5, .inl ks)), (s, .inr (4, [.int (nI (stI q)), .int (nI (stN q)), .int (stO q), .int (stV q), .int (nI (stG q)), .int (nI (stS q)), .int (stM q), .ref ba, .ref ta])), (ta, .inl (cQ, Rt.length, .inr (.inr (.inr (.inr (qf (ad Rt)))))))] ++ ((sT cI (Rb.map bq) (Rt.map tq)) ++ ((xA cI x a b f q) ++ ((xB cI b g q2) ++ [])))) := hD
                              refine W.eq (g2 := F0 m 239 ls [.int r_29]) rfl ?_
                              refine W.widen (k := 1) (n := 5) (Nat.le_refl _) (Nat.le_refl _) ?_
                              refine k_top (v := nI 1) (hr_236.trans (if_pos hx1)) ?_
                              refine k_if_ne (tgt := 245) hx hb 1 rfl (by omega) dX4_isSame_239 (by decide) (fun c_239 => ?_) (fun c_239 => ?_)
                              · skip
                                refine lv_iinc (v := nI ((ctT (stT q) - cnN (isT (stT q)) (k1 + 1)) + 1)) (lv' := [(4, .int (nI ((ctT (stT q) - cnN (isT (stT q)) (k1 + 1)) + 1))), (8, .ref ((Rt.getD k1 td).1)), (0, .ref s), (1, .ref x), (3, .int lv), (5, .int (nI (spT (stT q) - spN (stT q) (k1 + 1)))), (6, .int (-1)), (7, .int (nI k1))]) hx hb dX4_isSame_245 hl (k := 4) rfl (nI_1 _) (by decide) rfl (fun ls hl => ?_)
                                refine lv_iload hx hb dX4_isSame_248 (lv_at hl 5 rfl) ?_
                                refine lv_aload hx hb dX4_isSame_250 (lv_at hl 1 rfl) ?_
                                refine lv_iconst (v := nI 0) hx hb dX4_isSame_252 (by decide +kernel) ?_
                                refine z_tld hx hb hK hP 0 rfl k1 (mp_len hkL) (tq_1 hkL) 0 rfl (by decide) (nI (tkP (Rt.getD k1 td).2)) (tq_p hkL) dX4_isSame_253 ?_
                                refine k_iadd hx hb (nI ((spT (stT q) - spN (stT q) (k1 + 1)) + (tkP (Rt.getD k1 td).2))) (nI_add _ _) dX4_isSame_254 ?_
                                refine lv_istore (lv' := [(5, .int (nI ((spT (stT q) - spN (stT q) (k1 + 1)) + (tkP (Rt.getD k1 td).2)))), (4, .int (nI ((ctT (stT q) - cnN (isT (stT q)) (k1 + 1)) + 1))), (8, .ref ((Rt.getD k1 td).1)), (0, .ref s), (1, .ref x), (3, .int lv), (6, .int (-1)), (7, .int (nI k1))]) hx hb dX4_isSame_255 hl (by decide) rfl (fun ls hl => ?_)
                                refine lv_iload hx hb dX4_isSame_257 (lv_at hl 6 rfl) ?_
                                refine lv_if_lt (tgt := 278) hx hb dX4_isSame_259 (by decide) (fun c_259 => ?_) (fun c_259 => ?_)
                                · skip
                                  refine lv_iload hx hb dX4_isSame_278 (lv_at hl 7 rfl) ?_
                                  refine lv_istore (lv' := [(6, .int (nI k1)), (5, .int (nI ((spT (stT q) - spN (stT q) (k1 + 1)) + (tkP (Rt.getD k1 td).2)))), (4, .int (nI ((ctT (stT q) - cnN (isT (stT q)) (k1 + 1)) + 1))), (8, .ref ((Rt.getD k1 td).1)), (0, .ref s), (1, .ref x), (3, .int lv), (7, .int (nI k1))]) hx hb dX4_isSame_280 hl (by decide) rfl (fun ls hl => ?_)
                                  refine lv_iinc (v := nI k1 - nI 1) (lv' := [(7, .int (nI k1 - nI 1)), (6, .int (nI k1)), (5, .int (nI ((spT (stT q) - spN (stT q) (k1 + 1)) + (tkP (Rt.getD k1 td).2)))), (4, .int (nI ((ctT (stT q) - cnN (isT (stT q)) (k1 + 1)) + 1))), (8, .ref ((Rt.getD k1 td).1)), (0, .ref s), (1, .ref x), (3, .int lv)]) hx hb dX4_isSame_282 hl (k := 7) rfl (z_dec _) (by decide) rfl (fun ls hl => ?_)
                                  refine lv_goto (tgt := 176) hx hb dX4_isSame_285 (by decide) ?_
                                  have hm1 := cn_mono (isT (stT q)) (k1 + 1) (stT q).length (by omega)
                                  have hm2 := sp_mono (T := stT q) (k1 + 1) (stT q).length (by omega)
                                  have hc1 : cnN (isT (stT q)) (k1 + 1) = cnN (isT (stT q)) k1 + 1 := cn_t (isT_t hx9)
                                  have hc2 : spN (stT q) (k1 + 1) = spN (stT q) k1 + tkP ((stT q).getD k1 tk0) := sp_t hx9
                                  have eC : ctT (stT q) - cnN (isT (stT q)) (k1 + 1) + 1 = ctT (stT q) - cnN (isT (stT q)) k1 := by rw [hc1] at hm1 ⊢; simp only [ctT]; omega
                                  have eS : spT (stT q) - spN (stT q) (k1 + 1) + tkP (Rt.getD k1 td).2 = spT (stT q) - spN (stT q) k1 := by rw [hc2, e1] at hm2 ⊢; simp only [spT]; omega
                                  exact ih k1 (nI k1) (by omega) (ntR_f hkT hx9 hn9) (by omega) _ _ (z_subP hP [2, 0, 3, 1] (rfl)) (z_subD hD [2, 0, 3, 1] (by decide) (rfl)) hS _ (lv_sub hl [5, 6, 7, 3, 2, 1, 0] (by rw [← eC, ← eS]; rfl))
                                · skip
                                  exact absurd (by decide) c_259
                              · exact absurd c_239 (by omega)
                            · skip
                              exact absurd rfl c_228
                    · skip
                      obtain ⟨k1, rfl⟩ : ∃ z, k = z + 1 := ⟨k - 1, by omega⟩
                      rw [z_dn] at hl
                      have hkL : k1 < Rt.length := by omega
                      have hkT : k1 < (stT q).length := by omega
                      have e1 := sn_gdT Rt k1
                      rw [← hq.2] at e1
                      have hx1 : tkX (Rt.getD k1 td).2 = -1 := by rw [← e1]; exact hx9
                      have hp30 := (stT_okT hq.2 hO hkL).2.2.2
                      have hbL : b9 < Rt.length := by omega
                      have eb := sn_gdT Rt b9
                      rw [← hq.2] at eb
                      have hb30 := (stT_okT hq.2 hO hbL).2.2.2
                      refine lv_iload hx hb dX4_isSame_176 (lv_at hl 6 rfl) ?_
                      refine k_if_lt (tgt := 288) hx hb k1 rfl (by omega) dX4_isSame_178 (by decide) (fun c_178 => ?_) (fun c_178 => ?_)
                      · exact c_178.elim
                      · skip
                        refine lv_aload_n hx hb dX4_isSame_181 rfl (lv_at hl 0 rfl) ?_
                        refine va_get (D := D) (ci := 4) (v := .ref ta) (C := RX4) (T := TX4) (N := 9) hx hb hts iX4 hown hK hP 0 rfl rfl 8 (by decide) f25 (fun _ h9 => h9) rfl dX4_isSame_182 ?_
                        refine lv_iload hx hb dX4_isSame_185 (lv_at hl 6 rfl) ?_
                        refine z_qld hx hb hK hP 2 1 rfl rfl k1 rfl (hkL) (by omega) ((Rt.getD k1 td).1) (ad_q hkL) dX4_isSame_187 ?_
                        refine lv_astore (lv' := [(8, .ref ((Rt.getD k1 td).1)), (0, .ref s), (1, .ref x), (3, .int lv), (4, .int (nI (ctT (stT q) - cnN (isT (stT q)) (k1 + 1)))), (5, .int (nI (spT (stT q) - spN (stT q) (k1 + 1)))), (6, .int (nI b9)), (7, .int (nI k1))]) hx hb dX4_isSame_188 hl (by decide) rfl (fun ls hl => ?_)
                        refine lv_aload_n hx hb dX4_isSame_190 rfl (lv_at hl 2 rfl) ?_
                        refine lv_iload hx hb dX4_isSame_191 (lv_at hl 7 rfl) ?_
                        refine kz_callX (As := [.int (nI k1)]) (rest := []) F (c_ZX3_isPresent l D cI x a b f q k1 hR hkT) gX4_isSame_X3_isPresent rfl (nA := 1) (by decide +kernel) rfl ⟨Nat.le_of_ble_eq_true rfl, Nat.le_of_ble_eq_true rfl⟩ hK hP hD hS hA hG (ci := 3) (q0 := 0) rfl rfl rfl zp_pn [0] rfl rfl hl.1 (Nat.le_of_ble_eq_true rfl) dX4_isSame_193 ⟨Nat.le_of_ble_eq_true rfl, Nat.le_of_ble_eq_true rfl⟩ (fun r_30 u H locs hr_193 hP hD hS => ?_)
                        try dsimp only at hr_193
                        have hP := z_PS z_pnb hP
                        have hD := z_DS z_pnb hD
                        have hP : va_P D vwCl ([(s, .inr (4, [.int (nI (stI q)), .int (nI (stN q)), .int (stO q), .int (stV q), .int (nI (stG q)), .int (nI (stS q)), .int (stM q), .ref ba, .ref ta])), (ba, .inl (cQ, Rb.length, .inr (.inr (.inr (.inr (qf (ad Rb))))))), (ta, .inl (cQ, Rt.length, .inr (.inr (.inr (.inr (qf (ad Rt))))))), (q_1, .inl (cI, 5, .inl ks))] ++ ((sT cI (Rb.map bq) (Rt.map tq)) ++ ((xA cI x a b f q) ++ ((xB cI b g q2) ++ [])))) H := hP
                        have hD : va_D A ([(s, .inr (4, [.int (nI (stI q)), .int (nI (stN q)), .int (stO q), .int (stV q), .int (nI (stG q)), .int (nI (stS q)), .int (stM q), .ref ba, .ref ta])), (ba, .inl (cQ, Rb.length, .inr (.inr (.inr (.inr (qf (ad Rb))))))), (ta, .inl (cQ, Rt.length, .inr (.inr (.inr (.inr (qf (ad Rt))))))), (q_1, .inl (cI, 5, .inl ks))] ++ ((sT cI (Rb.map bq) (Rt.map tq)) ++ ((xA cI x a b f q) ++ ((xB cI b g q2) ++ [])))) := hD
                        refine W.eq (g2 := F0 m 196 ls [.int r_30]) rfl ?_
                        refine W.widen (k := 1) (n := 5) (Nat.le_refl _) (Nat.le_refl _) ?_
                        refine k_top (v := nI 1) (hr_193.trans (by rw [e1]; exact if_pos hx1)) ?_
                        refine lv_aload_n hx hb dX4_isSame_196 rfl (lv_at hl 1 rfl) ?_
                        refine lv_iload hx hb dX4_isSame_197 (lv_at hl 7 rfl) ?_
                        refine kz_callV (As := [.int (nI k1)]) (rest := [.int (nI 1)]) (wp := [(s, .inr (4, [.int (nI (stI q)), .int (nI (stN q)), .int (stO q), .int (stV q), .int (nI (stG q)), .int (nI (stS q)), .int (stM q), .ref ba, .ref ta])), (ba, .inl (cQ, Rb.length, .inr (.inr (.inr (.inr (qf (ad Rb))))))), (ta, .inl (cQ, Rt.length, .inr (.inr (.inr (.inr (qf (ad Rt))))))), (q_1, .inl (cI, 5, .inl ks))]) (wc := [(s, .inr (4, [.int (nI (stI q)), .int (nI (stN q)), .int (stO q), .int (stV q), .int (nI (stG q)), .int (nI (stS q)), .int (stM q), .ref ba, .ref ta])), (ta, .inl (cQ, Rt.length, .inr (.inr (.inr (.inr (qf (ad Rt)))))))]) (wr := [(ba, .inl (cQ, Rb.length, .inr (.inr (.inr (.inr (qf (ad Rb))))))), (q_1, .inl (cI, 5, .inl ks))]) (Z := ((sT cI (Rb.map bq) (Rt.map tq)) ++ ((xA cI x a b f q) ++ ((xB cI b g q2) ++ [])))) (X0 := sT cI (Rb.map bq) (Rt.map tq)) (Y := ((xA cI x a b f q) ++ ((xB cI b g q2) ++ []))) (wc1 := (fun (u : Unit) => [(s, .inr (4, [.int (nI (stI q)), .int (nI (stN q)), .int (stO q), .int (stV q), .int (nI (stG q)), .int (nI (stS q)), .int (stM q), .ref ba, .ref ta])), (ta, .inl (cQ, Rt.length, .inr (.inr (.inr (.inr (qf (ad Rt)))))))])) (X1 := (fun (u : Unit) => (sT cI (Rb.map bq) (Rt.map tq)))) F (c_X4_isThere l D cI cQ s ba ta (nI (stI q)) (nI (stN q)) (stO q) (stV q) (nI (stG q)) (nI (stS q)) (stM q) Rb Rt k1 hkL ht6 hXs) gX4_isSame_X4_isThere rfl (nA := 1) (by decide +kernel) rfl ⟨Nat.le_of_ble_eq_true rfl, Nat.le_of_ble_eq_true rfl⟩ hK hP hD hS hA hG (ci := 4) (q0 := 0) rfl rfl rfl [0, 2] [1, 3] rfl (by decide) (List.Perm.refl _) (by rw [List.append_nil]) (fun u => by simp only [List.append_nil]) [0, 1] rfl rfl hl.1 (Nat.le_of_ble_eq_true rfl) dX4_isSame_199 ⟨Nat.le_of_ble_eq_true rfl, Nat.le_of_ble_eq_true rfl⟩ (fun r_31 u H locs hr_199 hP hD hS => ?_)
                        try dsimp only at hr_199
                        have hP : va_P D vwCl ([(ba, .inl (cQ, Rb.length, .inr (.inr (.inr (.inr (qf (ad Rb))))))), (q_1, .inl (cI, 5, .inl ks)), (s, .inr (4, [.int (nI (stI q)), .int (nI (stN q)), .int (stO q), .int (stV q), .int (nI (stG q)), .int (nI (stS q)), .int (stM q), .ref ba, .ref ta])), (ta, .inl (cQ, Rt.length, .inr (.inr (.inr (.inr (qf (ad Rt)))))))] ++ ((sT cI (Rb.map bq) (Rt.map tq)) ++ ((xA cI x a b f q) ++ ((xB cI b g q2) ++ [])))) H := hP
                        have hD : va_D A ([(ba, .inl (cQ, Rb.length, .inr (.inr (.inr (.inr (qf (ad Rb))))))), (q_1, .inl (cI, 5, .inl ks)), (s, .inr (4, [.int (nI (stI q)), .int (nI (stN q)), .int (stO q), .int (stV q), .int (nI (stG q)), .int (nI (stS q)), .int (stM q), .ref ba, .ref ta])), (ta, .inl (cQ, Rt.length, .inr (.inr (.inr (.inr (qf (ad Rt)))))))] ++ ((sT cI (Rb.map bq) (Rt.map tq)) ++ ((xA cI x a b f q) ++ ((xB cI b g q2) ++ [])))) := hD
                        refine W.eq (g2 := F0 m 202 ls [.int r_31, .int (nI 1)]) rfl ?_
                        refine W.widen (k := 1) (n := 5) (Nat.le_refl _) (Nat.le_refl _) ?_
                        refine k_top (v := nI 1) (hr_199.trans (if_pos hx1)) ?_
                        refine k_cmp_ne (tgt := 231) hx hb 1 1 rfl rfl (by omega) (by omega) dX4_isSame_202 (by decide) (fun c_202 => ?_) (fun c_202 => ?_)
                        · exact absurd c_202 (by omega)
                        · skip
                          refine lv_aload_n hx hb dX4_isSame_205 rfl (lv_at hl 2 rfl) ?_
                          refine lv_iload hx hb dX4_isSame_206 (lv_at hl 7 rfl) ?_
                          refine kz_callX (As := [.int (nI k1)]) (rest := []) F (c_ZX3_patienceOf l D cI x a b f q k1 hR hkT) gX4_isSame_X3_patienceOf rfl (nA := 1) (by decide +kernel) rfl ⟨Nat.le_of_ble_eq_true rfl, Nat.le_of_ble_eq_true rfl⟩ hK hP hD hS hA hG (ci := 3) (q0 := 0) rfl rfl rfl zp_pn [0] rfl rfl hl.1 (Nat.le_of_ble_eq_true rfl) dX4_isSame_208 ⟨Nat.le_of_ble_eq_true rfl, Nat.le_of_ble_eq_true rfl⟩ (fun r_32 u H locs hr_208 hP hD hS => ?_)
                          try dsimp only at hr_208
                          have hP := z_PS z_pnb hP
                          have hD := z_DS z_pnb hD
                          have hP : va_P D vwCl ([(ba, .inl (cQ, Rb.length, .inr (.inr (.inr (.inr (qf (ad Rb))))))), (q_1, .inl (cI, 5, .inl ks)), (s, .inr (4, [.int (nI (stI q)), .int (nI (stN q)), .int (stO q), .int (stV q), .int (nI (stG q)), .int (nI (stS q)), .int (stM q), .ref ba, .ref ta])), (ta, .inl (cQ, Rt.length, .inr (.inr (.inr (.inr (qf (ad Rt)))))))] ++ ((sT cI (Rb.map bq) (Rt.map tq)) ++ ((xA cI x a b f q) ++ ((xB cI b g q2) ++ [])))) H := hP
                          have hD : va_D A ([(ba, .inl (cQ, Rb.length, .inr (.inr (.inr (.inr (qf (ad Rb))))))), (q_1, .inl (cI, 5, .inl ks)), (s, .inr (4, [.int (nI (stI q)), .int (nI (stN q)), .int (stO q), .int (stV q), .int (nI (stG q)), .int (nI (stS q)), .int (stM q), .ref ba, .ref ta])), (ta, .inl (cQ, Rt.length, .inr (.inr (.inr (.inr (qf (ad Rt)))))))] ++ ((sT cI (Rb.map bq) (Rt.map tq)) ++ ((xA cI x a b f q) ++ ((xB cI b g q2) ++ [])))) := hD
                          refine W.eq (g2 := F0 m 211 ls [.int r_32]) rfl ?_
                          refine W.widen (k := 1) (n := 5) (Nat.le_refl _) (Nat.le_refl _) ?_
                          refine k_top (v := nI (tkP (Rt.getD k1 td).2)) (hr_208.trans (by rw [e1])) ?_
                          refine lv_aload hx hb dX4_isSame_211 (lv_at hl 0 rfl) ?_
                          refine lv_iconst (v := nI 0) hx hb dX4_isSame_213 (by decide +kernel) ?_
                          refine z_tld hx hb hK hP 0 rfl k1 (mp_len hkL) (tq_1 hkL) 0 rfl (by decide) (nI (tkP (Rt.getD k1 td).2)) (tq_p hkL) dX4_isSame_214 ?_
                          refine k_cmp_ne (tgt := 231) hx hb (tkP (Rt.getD k1 td).2) (tkP (Rt.getD k1 td).2) rfl rfl (by omega) (by omega) dX4_isSame_215 (by decide) (fun c_215 => ?_) (fun c_215 => ?_)
                          · skip
                            exact absurd rfl c_215
                          · skip
                            refine lv_aload_n hx hb dX4_isSame_218 rfl (lv_at hl 2 rfl) ?_
                            refine lv_iload hx hb dX4_isSame_219 (lv_at hl 7 rfl) ?_
                            refine kz_callX (As := [.int (nI k1)]) (rest := []) F (c_ZX3_exitOf l D cI x a b f q k1 hR hkT) gX4_isSame_X3_exitOf rfl (nA := 1) (by decide +kernel) rfl ⟨Nat.le_of_ble_eq_true rfl, Nat.le_of_ble_eq_true rfl⟩ hK hP hD hS hA hG (ci := 3) (q0 := 0) rfl rfl rfl zp_pn [0] rfl rfl hl.1 (Nat.le_of_ble_eq_true rfl) dX4_isSame_221 ⟨Nat.le_of_ble_eq_true rfl, Nat.le_of_ble_eq_true rfl⟩ (fun r_33 u H locs hr_221 hP hD hS => ?_)
                            try dsimp only at hr_221
                            have hP := z_PS z_pnb hP
                            have hD := z_DS z_pnb hD
                            have hP : va_P D vwCl ([(ba, .inl (cQ, Rb.length, .inr (.inr (.inr (.inr (qf (ad Rb))))))), (q_1, .inl (cI, 5, .inl ks)), (s, .inr (4, [.int (nI (stI q)), .int (nI (stN q)), .int (stO q), .int (stV q), .int (nI (stG q)), .int (nI (stS q)), .int (stM q), .ref ba, .ref ta])), (ta, .inl (cQ, Rt.length, .inr (.inr (.inr (.inr (qf (ad Rt)))))))] ++ ((sT cI (Rb.map bq) (Rt.map tq)) ++ ((xA cI x a b f q) ++ ((xB cI b g q2) ++ [])))) H := hP
                            have hD : va_D A ([(ba, .inl (cQ, Rb.length, .inr (.inr (.inr (.inr (qf (ad Rb))))))), (q_1, .inl (cI, 5, .inl ks)), (s, .inr (4, [.int (nI (stI q)), .int (nI (stN q)), .int (stO q), .int (stV q), .int (nI (stG q)), .int (nI (stS q)), .int (stM q), .ref ba, .ref ta])), (ta, .inl (cQ, Rt.length, .inr (.inr (.inr (.inr (qf (ad Rt)))))))] ++ ((sT cI (Rb.map bq) (Rt.map tq)) ++ ((xA cI x a b f q) ++ ((xB cI b g q2) ++ [])))) := hD
                            refine W.eq (g2 := F0 m 224 ls [.int r_33]) rfl ?_
                            refine W.widen (k := 1) (n := 5) (Nat.le_refl _) (Nat.le_refl _) ?_
                            refine k_top (v := tkX (Rt.getD k1 td).2) (hr_221.trans (by rw [e1])) ?_
                            refine lv_aload hx hb dX4_isSame_224 (lv_at hl 0 rfl) ?_
                            refine lv_iconst (v := nI 1) hx hb dX4_isSame_226 (by decide +kernel) ?_
                            refine z_tld hx hb hK hP 0 rfl k1 (mp_len hkL) (tq_1 hkL) 1 rfl (by decide) (tkX (Rt.getD k1 td).2) (tq_x hkL) dX4_isSame_227 ?_
                            refine lv_icmp_eq (tgt := 233) hx hb dX4_isSame_228 (by decide) (fun c_228 => ?_) (fun c_228 => ?_)
                            · skip
                              refine lv_aload_n hx hb dX4_isSame_233 rfl (lv_at hl 1 rfl) ?_
                              refine lv_iload hx hb dX4_isSame_234 (lv_at hl 7 rfl) ?_
                              refine kz_callV (As := [.int (nI k1)]) (rest := []) (wp := [(ba, .inl (cQ, Rb.length, .inr (.inr (.inr (.inr (qf (ad Rb))))))), (q_1, .inl (cI, 5, .inl ks)), (s, .inr (4, [.int (nI (stI q)), .int (nI (stN q)), .int (stO q), .int (stV q), .int (nI (stG q)), .int (nI (stS q)), .int (stM q), .ref ba, .ref ta])), (ta, .inl (cQ, Rt.length, .inr (.inr (.inr (.inr (qf (ad Rt)))))))]) (wc := [(s, .inr (4, [.int (nI (stI q)), .int (nI (stN q)), .int (stO q), .int (stV q), .int (nI (stG q)), .int (nI (stS q)), .int (stM q), .ref ba, .ref ta])), (ta, .inl (cQ, Rt.length, .inr (.inr (.inr (.inr (qf (ad Rt)))))))]) (wr := [(ba, .inl (cQ, Rb.length, .inr (.inr (.inr (.inr (qf (ad Rb))))))), (q_1, .inl (cI, 5, .inl ks))]) (Z := ((sT cI (Rb.map bq) (Rt.map tq)) ++ ((xA cI x a b f q) ++ ((xB cI b g q2) ++ [])))) (X0 := sT cI (Rb.map bq) (Rt.map tq)) (Y := ((xA cI x a b f q) ++ ((xB cI b g q2) ++ []))) (wc1 := (fun (u : Unit) => [(s, .inr (4, [.int (nI (stI q)), .int (nI (stN q)), .int (stO q), .int (stV q), .int (nI (stG q)), .int (nI (stS q)), .int (stM q), .ref ba, .ref ta])), (ta, .inl (cQ, Rt.length, .inr (.inr (.inr (.inr (qf (ad Rt)))))))])) (X1 := (fun (u : Unit) => (sT cI (Rb.map bq) (Rt.map tq)))) F (c_X4_isThere l D cI cQ s ba ta (nI (stI q)) (nI (stN q)) (stO q) (stV q) (nI (stG q)) (nI (stS q)) (stM q) Rb Rt k1 hkL ht6 hXs) gX4_isSame_X4_isThere rfl (nA := 1) (by decide +kernel) rfl ⟨Nat.le_of_ble_eq_true rfl, Nat.le_of_ble_eq_true rfl⟩ hK hP hD hS hA hG (ci := 4) (q0 := 0) rfl rfl rfl [2, 3] [0, 1] rfl (by decide) (List.Perm.refl _) (by rw [List.append_nil]) (fun u => by simp only [List.append_nil]) [0, 1] rfl rfl hl.1 (Nat.le_of_ble_eq_true rfl) dX4_isSame_236 ⟨Nat.le_of_ble_eq_true rfl, Nat.le_of_ble_eq_true rfl⟩ (fun r_34 u H locs hr_236 hP hD hS => ?_)
                              try dsimp only at hr_236
                              have hP : va_P D vwCl ([(ba, .inl (cQ, Rb.length, .inr (.inr (.inr (.inr (qf (ad Rb))))))), (q_1, .inl (cI, 5, .inl ks)), (s, .inr (4, [.int (nI (stI q)), .int (nI (stN q)), .int (stO q), .int (stV q), .int (nI (stG q)), .int (nI (stS q)), .int (stM q), .ref ba, .ref ta])), (ta, .inl (cQ, Rt.length, .inr (.inr (.inr (.inr (qf (ad Rt)))))))] ++ ((sT cI (Rb.map bq) (Rt.map tq)) ++ ((xA cI x a b f q) ++ ((xB cI b g q2) ++ [])))) H := hP
                              have hD : va_D A ([(ba, .inl (cQ, Rb.length, .inr (.inr (.inr (.inr (qf (ad Rb))))))), (q_1, .inl (cI, 5, .inl ks)), (s, .inr (4, [.int (nI (stI q)), .int (nI (stN q)), .int (stO q), .int (stV q), .int (nI (stG q)), .int (nI (stS q)), .int (stM q), .ref ba, .ref ta])), (ta, .inl (cQ, Rt.length, .inr (.inr (.inr (.inr (qf (ad Rt)))))))] ++ ((sT cI (Rb.map bq) (Rt.map tq)) ++ ((xA cI x a b f q) ++ ((xB cI b g q2) ++ [])))) := hD
                              refine W.eq (g2 := F0 m 239 ls [.int r_34]) rfl ?_
                              refine W.widen (k := 1) (n := 5) (Nat.le_refl _) (Nat.le_refl _) ?_
                              refine k_top (v := nI 1) (hr_236.trans (if_pos hx1)) ?_
                              refine k_if_ne (tgt := 245) hx hb 1 rfl (by omega) dX4_isSame_239 (by decide) (fun c_239 => ?_) (fun c_239 => ?_)
                              · skip
                                refine lv_iinc (v := nI ((ctT (stT q) - cnN (isT (stT q)) (k1 + 1)) + 1)) (lv' := [(4, .int (nI ((ctT (stT q) - cnN (isT (stT q)) (k1 + 1)) + 1))), (8, .ref ((Rt.getD k1 td).1)), (0, .ref s), (1, .ref x), (3, .int lv), (5, .int (nI (spT (stT q) - spN (stT q) (k1 + 1)))), (6, .int (nI b9)), (7, .int (nI k1))]) hx hb dX4_isSame_245 hl (k := 4) rfl (nI_1 _) (by decide) rfl (fun ls hl => ?_)
                                refine lv_iload hx hb dX4_isSame_248 (lv_at hl 5 rfl) ?_
                                refine lv_aload hx hb dX4_isSame_250 (lv_at hl 1 rfl) ?_
                                refine lv_iconst (v := nI 0) hx hb dX4_isSame_252 (by decide +kernel) ?_
                                refine z_tld hx hb hK hP 0 rfl k1 (mp_len hkL) (tq_1 hkL) 0 rfl (by decide) (nI (tkP (Rt.getD k1 td).2)) (tq_p hkL) dX4_isSame_253 ?_
                                refine k_iadd hx hb (nI ((spT (stT q) - spN (stT q) (k1 + 1)) + (tkP (Rt.getD k1 td).2))) (nI_add _ _) dX4_isSame_254 ?_
                                refine lv_istore (lv' := [(5, .int (nI ((spT (stT q) - spN (stT q) (k1 + 1)) + (tkP (Rt.getD k1 td).2)))), (4, .int (nI ((ctT (stT q) - cnN (isT (stT q)) (k1 + 1)) + 1))), (8, .ref ((Rt.getD k1 td).1)), (0, .ref s), (1, .ref x), (3, .int lv), (6, .int (nI b9)), (7, .int (nI k1))]) hx hb dX4_isSame_255 hl (by decide) rfl (fun ls hl => ?_)
                                refine lv_iload hx hb dX4_isSame_257 (lv_at hl 6 rfl) ?_
                                refine k_if_lt (tgt := 278) hx hb b9 rfl (by omega) dX4_isSame_259 (by decide) (fun c_259 => ?_) (fun c_259 => ?_)
                                · exact c_259.elim
                                · skip
                                  refine lv_aload hx hb dX4_isSame_262 (lv_at hl 2 rfl) ?_
                                  refine lv_iconst (v := nI 0) hx hb dX4_isSame_264 (by decide +kernel) ?_
                                  refine z_tld hx hb hK hP 0 rfl k1 (mp_len hkL) (tq_1 hkL) 0 rfl (by decide) (nI (tkP (Rt.getD k1 td).2)) (tq_p hkL) dX4_isSame_265 ?_
                                  refine lv_aload_n hx hb dX4_isSame_266 rfl (lv_at hl 3 rfl) ?_
                                  refine va_get (D := D) (ci := 4) (v := .ref ta) (C := RX4) (T := TX4) (N := 9) hx hb hts iX4 hown hK hP 2 rfl rfl 8 (by decide) f25 (fun _ h9 => h9) rfl dX4_isSame_267 ?_
                                  refine lv_iload hx hb dX4_isSame_270 (lv_at hl 6 rfl) ?_
                                  refine z_qld hx hb hK hP 3 1 rfl rfl b9 rfl (hbL) (by omega) ((Rt.getD b9 td).1) (ad_q hbL) dX4_isSame_272 ?_
                                  refine lv_iconst (v := nI 0) hx hb dX4_isSame_273 (by decide +kernel) ?_
                                  refine z_tld hx hb hK hP 0 rfl b9 (mp_len hbL) (tq_1 hbL) 0 rfl (by decide) (nI (tkP (Rt.getD b9 td).2)) (tq_p hbL) dX4_isSame_274 ?_
                                  refine k_cmp_gt (tgt := 282) hx hb (tkP (Rt.getD k1 td).2) (tkP (Rt.getD b9 td).2) rfl rfl (by omega) (by omega) dX4_isSame_275 (by decide) (fun c_275 => ?_) (fun c_275 => ?_)
                                  · skip
                                    refine lv_iinc (v := nI k1 - nI 1) (lv' := [(7, .int (nI k1 - nI 1)), (5, .int (nI ((spT (stT q) - spN (stT q) (k1 + 1)) + (tkP (Rt.getD k1 td).2)))), (4, .int (nI ((ctT (stT q) - cnN (isT (stT q)) (k1 + 1)) + 1))), (8, .ref ((Rt.getD k1 td).1)), (0, .ref s), (1, .ref x), (3, .int lv), (6, .int (nI b9))]) hx hb dX4_isSame_282 hl (k := 7) rfl (z_dec _) (by decide) rfl (fun ls hl => ?_)
                                    refine lv_goto (tgt := 176) hx hb dX4_isSame_285 (by decide) ?_
                                    have hm1 := cn_mono (isT (stT q)) (k1 + 1) (stT q).length (by omega)
                                    have hm2 := sp_mono (T := stT q) (k1 + 1) (stT q).length (by omega)
                                    have hc1 : cnN (isT (stT q)) (k1 + 1) = cnN (isT (stT q)) k1 + 1 := cn_t (isT_t hx9)
                                    have hc2 : spN (stT q) (k1 + 1) = spN (stT q) k1 + tkP ((stT q).getD k1 tk0) := sp_t hx9
                                    have eC : ctT (stT q) - cnN (isT (stT q)) (k1 + 1) + 1 = ctT (stT q) - cnN (isT (stT q)) k1 := by rw [hc1] at hm1 ⊢; simp only [ctT]; omega
                                    have eS : spT (stT q) - spN (stT q) (k1 + 1) + tkP (Rt.getD k1 td).2 = spT (stT q) - spN (stT q) k1 := by rw [hc2, e1] at hm2 ⊢; simp only [spT]; omega
                                    exact ih k1 (nI b9) (by omega) (ntR_k hb1 hb2 hbx hb3 (by rw [e1, eb]; exact c_275)) (by omega) _ _ (z_subP hP [2, 0, 3, 1] (rfl)) (z_subD hD [2, 0, 3, 1] (by decide) (rfl)) hS _ (lv_sub hl [4, 5, 6, 2, 1, 7, 0] (by rw [← eC, ← eS]; rfl))
                                  · skip
                                    refine lv_iload hx hb dX4_isSame_278 (lv_at hl 7 rfl) ?_
                                    refine lv_istore (lv' := [(6, .int (nI k1)), (5, .int (nI ((spT (stT q) - spN (stT q) (k1 + 1)) + (tkP (Rt.getD k1 td).2)))), (4, .int (nI ((ctT (stT q) - cnN (isT (stT q)) (k1 + 1)) + 1))), (8, .ref ((Rt.getD k1 td).1)), (0, .ref s), (1, .ref x), (3, .int lv), (7, .int (nI k1))]) hx hb dX4_isSame_280 hl (by decide) rfl (fun ls hl => ?_)
                                    refine lv_iinc (v := nI k1 - nI 1) (lv' := [(7, .int (nI k1 - nI 1)), (6, .int (nI k1)), (5, .int (nI ((spT (stT q) - spN (stT q) (k1 + 1)) + (tkP (Rt.getD k1 td).2)))), (4, .int (nI ((ctT (stT q) - cnN (isT (stT q)) (k1 + 1)) + 1))), (8, .ref ((Rt.getD k1 td).1)), (0, .ref s), (1, .ref x), (3, .int lv)]) hx hb dX4_isSame_282 hl (k := 7) rfl (z_dec _) (by decide) rfl (fun ls hl => ?_)
                                    refine lv_goto (tgt := 176) hx hb dX4_isSame_285 (by decide) ?_
                                    have hm1 := cn_mono (isT (stT q)) (k1 + 1) (stT q).length (by omega)
                                    have hm2 := sp_mono (T := stT q) (k1 + 1) (stT q).length (by omega)
                                    have hc1 : cnN (isT (stT q)) (k1 + 1) = cnN (isT (stT q)) k1 + 1 := cn_t (isT_t hx9)
                                    have hc2 : spN (stT q) (k1 + 1) = spN (stT q) k1 + tkP ((stT q).getD k1 tk0) := sp_t hx9
                                    have eC : ctT (stT q) - cnN (isT (stT q)) (k1 + 1) + 1 = ctT (stT q) - cnN (isT (stT q)) k1 := by rw [hc1] at hm1 ⊢; simp only [ctT]; omega
                                    have eS : spT (stT q) - spN (stT q) (k1 + 1) + tkP (Rt.getD k1 td).2 = spT (stT q) - spN (stT q) k1 := by rw [hc2, e1] at hm2 ⊢; simp only [spT]; omega
                                    exact ih k1 (nI k1) (by omega) (ntR_s hkT hx9 hb3 (by rw [e1, eb]; exact c_275)) (by omega) _ _ (z_subP hP [2, 0, 3, 1] (rfl)) (z_subD hD [2, 0, 3, 1] (by decide) (rfl)) hS _ (lv_sub hl [5, 6, 7, 3, 2, 1, 0] (by rw [← eC, ← eS]; rfl))
                              · exact absurd c_239 (by omega)
                            · skip
                              exact absurd rfl c_228
                exact loop_4 (((stT q).length) + 1) ((stT q).length) (-1) (Nat.le_refl _) (ntR_n _) (by omega) _ _ (z_subP hP [0, 1, 2, 3] (rfl)) (z_subD hD [0, 1, 2, 3] (by decide) (rfl)) hS _ (lv_sub hl [4, 5, 7, 3, 2, 1, 0] (by rw [show ctT (stT q) - cnN (isT (stT q)) (stT q).length = 0 from Nat.sub_self _, show spT (stT q) - spN (stT q) (stT q).length = 0 from Nat.sub_self _]; rfl))
              · skip
                have hcb : ctB (nI i) (stB q) ≤ (stB q).length := cnN_le _ _
                refine lv_aload_n hx hb dX4_isSame_137 rfl (lv_at hl 1 rfl) ?_
                refine lv_iload hx hb dX4_isSame_138 (lv_at hl 4 rfl) ?_
                refine kz_callX (As := [.int (nI i)]) (rest := []) F (c_ZX3_topicsOf l D cI x a b f q i hR c_134) gX4_isSame_X3_topicsOf rfl (nA := 1) (by decide +kernel) rfl ⟨Nat.le_of_ble_eq_true rfl, Nat.le_of_ble_eq_true rfl⟩ hK hP hD hS hA hG (ci := 3) (q0 := 0) rfl rfl rfl zp_pn [0] rfl rfl hl.1 (Nat.le_of_ble_eq_true rfl) dX4_isSame_140 ⟨Nat.le_of_ble_eq_true rfl, Nat.le_of_ble_eq_true rfl⟩ (fun r_35 u H locs hr_140 hP hD hS => ?_)
                try dsimp only at hr_140
                have hP := z_PS z_pnb hP
                have hD := z_DS z_pnb hD
                have hP : va_P D vwCl ([(s, .inr (4, [.int (nI (stI q)), .int (nI (stN q)), .int (stO q), .int (stV q), .int (nI (stG q)), .int (nI (stS q)), .int (stM q), .ref ba, .ref ta])), (ba, .inl (cQ, Rb.length, .inr (.inr (.inr (.inr (qf (ad Rb))))))), (ta, .inl (cQ, Rt.length, .inr (.inr (.inr (.inr (qf (ad Rt))))))), (q_1, .inl (cI, 5, .inl ks))] ++ ((sT cI (Rb.map bq) (Rt.map tq)) ++ ((xA cI x a b f q) ++ ((xB cI b g q2) ++ [])))) H := hP
                have hD : va_D A ([(s, .inr (4, [.int (nI (stI q)), .int (nI (stN q)), .int (stO q), .int (stV q), .int (nI (stG q)), .int (nI (stS q)), .int (stM q), .ref ba, .ref ta])), (ba, .inl (cQ, Rb.length, .inr (.inr (.inr (.inr (qf (ad Rb))))))), (ta, .inl (cQ, Rt.length, .inr (.inr (.inr (.inr (qf (ad Rt))))))), (q_1, .inl (cI, 5, .inl ks))] ++ ((sT cI (Rb.map bq) (Rt.map tq)) ++ ((xA cI x a b f q) ++ ((xB cI b g q2) ++ [])))) := hD
                refine W.eq (g2 := F0 m 143 ls [.int r_35]) rfl ?_
                refine W.widen (k := 1) (n := 5) (Nat.le_refl _) (Nat.le_refl _) ?_
                refine k_top (v := nI (ctB (nI i) (stB q))) (hr_140) ?_
                refine lv_aload_n hx hb dX4_isSame_143 rfl (lv_at hl 2 rfl) ?_
                refine lv_iload hx hb dX4_isSame_144 (lv_at hl 4 rfl) ?_
                refine k_iald hx hb hK hP 3 0 rfl rfl i (rfl) (by omega) (by decide) dX4_isSame_146 ?_
                refine k_top (v := nI (ctB (nI i) (stB q))) ((hks i c_134).trans rfl) ?_
                refine k_cmp_eq (tgt := 152) hx hb (ctB (nI i) (stB q)) (ctB (nI i) (stB q)) rfl rfl (by omega) (by omega) dX4_isSame_147 (by decide) (fun c_147 => ?_) (fun c_147 => ?_)
                · skip
                  refine lv_iinc (v := nI (i + 1)) (lv' := [(4, .int (nI (i + 1))), (0, .ref s), (1, .ref x), (2, .ref q_1), (3, .int lv)]) hx hb dX4_isSame_152 hl (k := 4) rfl (nI_1 _) (by decide) rfl (fun ls hl => ?_)
                  refine lv_goto (tgt := 131) hx hb dX4_isSame_155 (by decide) ?_
                  exact ih (i + 1) (by omega) (by omega) _ _ (z_subP hP [0, 1, 2, 3] (rfl)) (z_subD hD [0, 1, 2, 3] (by decide) (rfl)) hS _ (lv_sub hl [1, 2, 3, 4, 0] (rfl))
                · skip
                  exact absurd rfl c_147
          exact loop_3 (5 + 1) 0 (by omega) (by omega) _ _ (z_subP hP [0, 1, 2, 3] (rfl)) (z_subD hD [0, 1, 2, 3] (by decide) (rfl)) hS _ (lv_sub hl [1, 2, 3, 4, 0] (rfl))
        · skip
          exact absurd (by decide) c_17
      · skip
        obtain ⟨k1, rfl⟩ : ∃ z, k = z + 1 := ⟨k - 1, by omega⟩
        rw [z_dn] at hl
        have hkL : k1 < Rb.length := by omega
        have hkB : k1 < (stB q).length := by omega
        have e1 := sn_gd Rb k1
        rw [← hq.1] at e1
        obtain ⟨d9, hd9, ed9⟩ := hok.2.1 _ (gd_mem (d := tp0) hkB)
        have ed2 : (Rb.getD k1 bd).2.1 = nI d9 := by rw [← e1]; exact ed9
        have h99 := stB_okB hq.1 hO hkL
        have hkn : k1 + 1 = (stB q).length := hlg9
        refine lv_iload hx hb dX4_isSame_15 (lv_at hl 4 rfl) ?_
        refine k_if_lt (tgt := 128) hx hb k1 rfl (by omega) dX4_isSame_17 (by decide) (fun c_17 => ?_) (fun c_17 => ?_)
        · exact c_17.elim
        · skip
          refine lv_aload_n hx hb dX4_isSame_20 rfl (lv_at hl 2 rfl) ?_
          refine lv_aload_n hx hb dX4_isSame_21 rfl (lv_at hl 0 rfl) ?_
          refine va_get (D := D) (ci := 4) (v := .ref ba) (C := RX4) (T := TX4) (N := 9) hx hb hts iX4 hown hK hP 0 rfl rfl 7 (by decide) f21 (fun _ h9 => h9) rfl dX4_isSame_22 ?_
          refine lv_iload hx hb dX4_isSame_25 (lv_at hl 4 rfl) ?_
          refine z_qld hx hb hK hP 1 1 rfl rfl k1 rfl (hkL) (by omega) ((Rb.getD k1 bd).1) (ad_q hkL) dX4_isSame_27 ?_
          refine lv_iconst (v := nI 1) hx hb dX4_isSame_28 (by decide +kernel) ?_
          refine z_bld hx hb hK hP 0 rfl k1 (mp_len hkL) (bq_1 hkL) 1 rfl (by decide) (nI d9) ((bq_k hkL).trans ed2) dX4_isSame_29 ?_
          refine lv_dup2_11 hx hb dX4_isSame_30 rfl rfl ?_
          refine k_iald hx hb hK hP 3 0 rfl rfl d9 (rfl) (by omega) (by decide) dX4_isSame_31 ?_
          refine k_top (v := nI (ctB (nI d9) (stB q) - cnN (isK (nI d9) (stB q)) (k1 + 1))) (hks d9 hd9) ?_
          refine lv_iconst (v := nI 1) hx hb dX4_isSame_32 (by decide +kernel) ?_
          refine k_iadd hx hb (nI ((ctB (nI d9) (stB q) - cnN (isK (nI d9) (stB q)) (k1 + 1)) + 1)) (nI_add _ _) dX4_isSame_33 ?_
          refine k_iast hx hb hK hP hD hS 3 0 rfl rfl d9 (rfl) (by omega) (by decide) dX4_isSame_34 (fun H locs hP hD hS => ?_)
          have hP : va_P D vwCl ([(s, .inr (4, [.int (nI (stI q)), .int (nI (stN q)), .int (stO q), .int (stV q), .int (nI (stG q)), .int (nI (stS q)), .int (stM q), .ref ba, .ref ta])), (ba, .inl (cQ, Rb.length, .inr (.inr (.inr (.inr (qf (ad Rb))))))), (ta, .inl (cQ, Rt.length, .inr (.inr (.inr (.inr (qf (ad Rt))))))), (q_1, .inl (cI, 5, .inl (upd ks d9 (nI ((ctB (nI d9) (stB q) - cnN (isK (nI d9) (stB q)) (k1 + 1)) + 1)))))] ++ ((sT cI (Rb.map bq) (Rt.map tq)) ++ ((xA cI x a b f q) ++ ((xB cI b g q2) ++ [])))) H := hP
          have hD : va_D A ([(s, .inr (4, [.int (nI (stI q)), .int (nI (stN q)), .int (stO q), .int (stV q), .int (nI (stG q)), .int (nI (stS q)), .int (stM q), .ref ba, .ref ta])), (ba, .inl (cQ, Rb.length, .inr (.inr (.inr (.inr (qf (ad Rb))))))), (ta, .inl (cQ, Rt.length, .inr (.inr (.inr (.inr (qf (ad Rt))))))), (q_1, .inl (cI, 5, .inl (upd ks d9 (nI ((ctB (nI d9) (stB q) - cnN (isK (nI d9) (stB q)) (k1 + 1)) + 1)))))] ++ ((sT cI (Rb.map bq) (Rt.map tq)) ++ ((xA cI x a b f q) ++ ((xB cI b g q2) ++ [])))) := hD
          refine lv_iload_n hx hb dX4_isSame_35 rfl (lv_at hl 3 rfl) ?_
          refine lv_if_lt (tgt := 59) hx hb dX4_isSame_36 (by decide) (fun c_36 => ?_) (fun c_36 => ?_)
          · skip
            refine lv_iload hx hb dX4_isSame_59 (lv_at hl 4 rfl) ?_
            refine lv_istore_n (lv' := [(3, .int (nI k1)), (0, .ref s), (1, .ref x), (2, .ref q_1), (4, .int (nI k1))]) hx hb dX4_isSame_61 rfl hl (by decide) rfl (fun ls hl => ?_)
            refine lv_aload_n hx hb dX4_isSame_62 rfl (lv_at hl 2 rfl) ?_
            refine lv_iload hx hb dX4_isSame_63 (lv_at hl 4 rfl) ?_
            refine kz_callX (As := [.int (nI k1)]) (rest := []) F (c_ZX3_sizeAt l D cI x a b f q k1 hR hkB) gX4_isSame_X3_sizeAt rfl (nA := 1) (by decide +kernel) rfl ⟨Nat.le_of_ble_eq_true rfl, Nat.le_of_ble_eq_true rfl⟩ hK hP hD hS hA hG (ci := 3) (q0 := 0) rfl rfl rfl zp_pn [0] rfl rfl hl.1 (Nat.le_of_ble_eq_true rfl) dX4_isSame_65 ⟨Nat.le_of_ble_eq_true rfl, Nat.le_of_ble_eq_true rfl⟩ (fun r_36 u H locs hr_65 hP hD hS => ?_)
            try dsimp only at hr_65
            have hP := z_PS z_pnb hP
            have hD := z_DS z_pnb hD
            have hP : va_P D vwCl ([(s, .inr (4, [.int (nI (stI q)), .int (nI (stN q)), .int (stO q), .int (stV q), .int (nI (stG q)), .int (nI (stS q)), .int (stM q), .ref ba, .ref ta])), (ba, .inl (cQ, Rb.length, .inr (.inr (.inr (.inr (qf (ad Rb))))))), (ta, .inl (cQ, Rt.length, .inr (.inr (.inr (.inr (qf (ad Rt))))))), (q_1, .inl (cI, 5, .inl (upd ks d9 (nI ((ctB (nI d9) (stB q) - cnN (isK (nI d9) (stB q)) (k1 + 1)) + 1)))))] ++ ((sT cI (Rb.map bq) (Rt.map tq)) ++ ((xA cI x a b f q) ++ ((xB cI b g q2) ++ [])))) H := hP
            have hD : va_D A ([(s, .inr (4, [.int (nI (stI q)), .int (nI (stN q)), .int (stO q), .int (stV q), .int (nI (stG q)), .int (nI (stS q)), .int (stM q), .ref ba, .ref ta])), (ba, .inl (cQ, Rb.length, .inr (.inr (.inr (.inr (qf (ad Rb))))))), (ta, .inl (cQ, Rt.length, .inr (.inr (.inr (.inr (qf (ad Rt))))))), (q_1, .inl (cI, 5, .inl (upd ks d9 (nI ((ctB (nI d9) (stB q) - cnN (isK (nI d9) (stB q)) (k1 + 1)) + 1)))))] ++ ((sT cI (Rb.map bq) (Rt.map tq)) ++ ((xA cI x a b f q) ++ ((xB cI b g q2) ++ [])))) := hD
            refine W.eq (g2 := F0 m 68 ls [.int r_36]) rfl ?_
            refine W.widen (k := 1) (n := 5) (Nat.le_refl _) (Nat.le_refl _) ?_
            refine k_top (v := nI ((Rb.getD k1 bd).2.2)) (hr_65.trans (by rw [e1])) ?_
            refine lv_aload_n hx hb dX4_isSame_68 rfl (lv_at hl 1 rfl) ?_
            refine va_get (D := D) (ci := 4) (v := .ref ba) (C := RX4) (T := TX4) (N := 9) hx hb hts iX4 hown hK hP 0 rfl rfl 7 (by decide) f21 (fun _ h9 => h9) rfl dX4_isSame_69 ?_
            refine lv_iload hx hb dX4_isSame_72 (lv_at hl 4 rfl) ?_
            refine z_qld hx hb hK hP 1 1 rfl rfl k1 rfl (hkL) (by omega) ((Rb.getD k1 bd).1) (ad_q hkL) dX4_isSame_74 ?_
            refine lv_iconst (v := nI 0) hx hb dX4_isSame_75 (by decide +kernel) ?_
            refine z_bld hx hb hK hP 0 rfl k1 (mp_len hkL) (bq_1 hkL) 0 rfl (by decide) (nI ((Rb.getD k1 bd).2.2)) (bq_s hkL) dX4_isSame_76 ?_
            refine k_cmp_ne (tgt := 120) hx hb ((Rb.getD k1 bd).2.2) ((Rb.getD k1 bd).2.2) rfl rfl (by omega) (by omega) dX4_isSame_77 (by decide) (fun c_77 => ?_) (fun c_77 => ?_)
            · skip
              exact absurd rfl c_77
            · skip
              refine lv_aload_n hx hb dX4_isSame_80 rfl (lv_at hl 2 rfl) ?_
              refine lv_iload hx hb dX4_isSame_81 (lv_at hl 4 rfl) ?_
              refine kz_callX (As := [.int (nI k1)]) (rest := []) F (c_ZX3_kindAt l D cI x a b f q k1 hR hkB) gX4_isSame_X3_kindAt rfl (nA := 1) (by decide +kernel) rfl ⟨Nat.le_of_ble_eq_true rfl, Nat.le_of_ble_eq_true rfl⟩ hK hP hD hS hA hG (ci := 3) (q0 := 0) rfl rfl rfl zp_pn [0] rfl rfl hl.1 (Nat.le_of_ble_eq_true rfl) dX4_isSame_83 ⟨Nat.le_of_ble_eq_true rfl, Nat.le_of_ble_eq_true rfl⟩ (fun r_37 u H locs hr_83 hP hD hS => ?_)
              try dsimp only at hr_83
              have hP := z_PS z_pnb hP
              have hD := z_DS z_pnb hD
              have hP : va_P D vwCl ([(s, .inr (4, [.int (nI (stI q)), .int (nI (stN q)), .int (stO q), .int (stV q), .int (nI (stG q)), .int (nI (stS q)), .int (stM q), .ref ba, .ref ta])), (ba, .inl (cQ, Rb.length, .inr (.inr (.inr (.inr (qf (ad Rb))))))), (ta, .inl (cQ, Rt.length, .inr (.inr (.inr (.inr (qf (ad Rt))))))), (q_1, .inl (cI, 5, .inl (upd ks d9 (nI ((ctB (nI d9) (stB q) - cnN (isK (nI d9) (stB q)) (k1 + 1)) + 1)))))] ++ ((sT cI (Rb.map bq) (Rt.map tq)) ++ ((xA cI x a b f q) ++ ((xB cI b g q2) ++ [])))) H := hP
              have hD : va_D A ([(s, .inr (4, [.int (nI (stI q)), .int (nI (stN q)), .int (stO q), .int (stV q), .int (nI (stG q)), .int (nI (stS q)), .int (stM q), .ref ba, .ref ta])), (ba, .inl (cQ, Rb.length, .inr (.inr (.inr (.inr (qf (ad Rb))))))), (ta, .inl (cQ, Rt.length, .inr (.inr (.inr (.inr (qf (ad Rt))))))), (q_1, .inl (cI, 5, .inl (upd ks d9 (nI ((ctB (nI d9) (stB q) - cnN (isK (nI d9) (stB q)) (k1 + 1)) + 1)))))] ++ ((sT cI (Rb.map bq) (Rt.map tq)) ++ ((xA cI x a b f q) ++ ((xB cI b g q2) ++ [])))) := hD
              refine W.eq (g2 := F0 m 86 ls [.int r_37]) rfl ?_
              refine W.widen (k := 1) (n := 5) (Nat.le_refl _) (Nat.le_refl _) ?_
              refine k_top (v := (Rb.getD k1 bd).2.1) (hr_83.trans (by rw [e1])) ?_
              refine lv_aload_n hx hb dX4_isSame_86 rfl (lv_at hl 1 rfl) ?_
              refine va_get (D := D) (ci := 4) (v := .ref ba) (C := RX4) (T := TX4) (N := 9) hx hb hts iX4 hown hK hP 0 rfl rfl 7 (by decide) f21 (fun _ h9 => h9) rfl dX4_isSame_87 ?_
              refine lv_iload hx hb dX4_isSame_90 (lv_at hl 4 rfl) ?_
              refine z_qld hx hb hK hP 1 1 rfl rfl k1 rfl (hkL) (by omega) ((Rb.getD k1 bd).1) (ad_q hkL) dX4_isSame_92 ?_
              refine lv_iconst (v := nI 1) hx hb dX4_isSame_93 (by decide +kernel) ?_
              refine z_bld hx hb hK hP 0 rfl k1 (mp_len hkL) (bq_1 hkL) 1 rfl (by decide) ((Rb.getD k1 bd).2.1) (bq_k hkL) dX4_isSame_94 ?_
              refine lv_icmp_ne (tgt := 120) hx hb dX4_isSame_95 (by decide) (fun c_95 => ?_) (fun c_95 => ?_)
              · skip
                exact absurd rfl c_95
              · skip
                refine lv_aload_n hx hb dX4_isSame_98 rfl (lv_at hl 2 rfl) ?_
                refine lv_iload hx hb dX4_isSame_99 (lv_at hl 4 rfl) ?_
                refine kz_callX (As := [.int (nI k1)]) (rest := []) F (c_ZX3_turnsToNod l D cI x a b f q k1 hR hO hkB) gX4_isSame_X3_turnsToNod rfl (nA := 1) (by decide +kernel) rfl ⟨Nat.le_of_ble_eq_true rfl, Nat.le_of_ble_eq_true rfl⟩ hK hP hD hS hA hG (ci := 3) (q0 := 0) rfl rfl rfl zp_pn [0] rfl rfl hl.1 (Nat.le_of_ble_eq_true rfl) dX4_isSame_101 ⟨Nat.le_of_ble_eq_true rfl, Nat.le_of_ble_eq_true rfl⟩ (fun r_38 u H locs hr_101 hP hD hS => ?_)
                try dsimp only at hr_101
                have hP := z_PS z_pnb hP
                have hD := z_DS z_pnb hD
                have hP : va_P D vwCl ([(s, .inr (4, [.int (nI (stI q)), .int (nI (stN q)), .int (stO q), .int (stV q), .int (nI (stG q)), .int (nI (stS q)), .int (stM q), .ref ba, .ref ta])), (ba, .inl (cQ, Rb.length, .inr (.inr (.inr (.inr (qf (ad Rb))))))), (ta, .inl (cQ, Rt.length, .inr (.inr (.inr (.inr (qf (ad Rt))))))), (q_1, .inl (cI, 5, .inl (upd ks d9 (nI ((ctB (nI d9) (stB q) - cnN (isK (nI d9) (stB q)) (k1 + 1)) + 1)))))] ++ ((sT cI (Rb.map bq) (Rt.map tq)) ++ ((xA cI x a b f q) ++ ((xB cI b g q2) ++ [])))) H := hP
                have hD : va_D A ([(s, .inr (4, [.int (nI (stI q)), .int (nI (stN q)), .int (stO q), .int (stV q), .int (nI (stG q)), .int (nI (stS q)), .int (stM q), .ref ba, .ref ta])), (ba, .inl (cQ, Rb.length, .inr (.inr (.inr (.inr (qf (ad Rb))))))), (ta, .inl (cQ, Rt.length, .inr (.inr (.inr (.inr (qf (ad Rt))))))), (q_1, .inl (cI, 5, .inl (upd ks d9 (nI ((ctB (nI d9) (stB q) - cnN (isK (nI d9) (stB q)) (k1 + 1)) + 1)))))] ++ ((sT cI (Rb.map bq) (Rt.map tq)) ++ ((xA cI x a b f q) ++ ((xB cI b g q2) ++ [])))) := hD
                refine W.eq (g2 := F0 m 104 ls [.int r_38]) rfl ?_
                refine W.widen (k := 1) (n := 5) (Nat.le_refl _) (Nat.le_refl _) ?_
                refine lv_aload_n hx hb dX4_isSame_104 rfl (lv_at hl 1 rfl) ?_
                refine lv_aload_n hx hb dX4_isSame_105 rfl (lv_at hl 1 rfl) ?_
                refine va_get (D := D) (ci := 4) (v := .ref ba) (C := RX4) (T := TX4) (N := 9) hx hb hts iX4 hown hK hP 0 rfl rfl 7 (by decide) f21 (fun _ h9 => h9) rfl dX4_isSame_106 ?_
                refine lv_iload hx hb dX4_isSame_109 (lv_at hl 4 rfl) ?_
                refine z_qld hx hb hK hP 1 1 rfl rfl k1 rfl (hkL) (by omega) ((Rb.getD k1 bd).1) (ad_q hkL) dX4_isSame_111 ?_
                refine lv_iconst (v := nI 0) hx hb dX4_isSame_112 (by decide +kernel) ?_
                refine z_bld hx hb hK hP 0 rfl k1 (mp_len hkL) (bq_1 hkL) 0 rfl (by decide) (nI ((Rb.getD k1 bd).2.2)) (bq_s hkL) dX4_isSame_113 ?_
                refine kz_callV (As := [.int (nI ((Rb.getD k1 bd).2.2))]) (rest := [.int r_38]) (wp := [(s, .inr (4, [.int (nI (stI q)), .int (nI (stN q)), .int (stO q), .int (stV q), .int (nI (stG q)), .int (nI (stS q)), .int (stM q), .ref ba, .ref ta])), (ba, .inl (cQ, Rb.length, .inr (.inr (.inr (.inr (qf (ad Rb))))))), (ta, .inl (cQ, Rt.length, .inr (.inr (.inr (.inr (qf (ad Rt))))))), (q_1, .inl (cI, 5, .inl (upd ks d9 (nI ((ctB (nI d9) (stB q) - cnN (isK (nI d9) (stB q)) (k1 + 1)) + 1)))))]) (wc := [(s, .inr (4, [.int (nI (stI q)), .int (nI (stN q)), .int (stO q), .int (stV q), .int (nI (stG q)), .int (nI (stS q)), .int (stM q), .ref ba, .ref ta]))]) (wr := [(ba, .inl (cQ, Rb.length, .inr (.inr (.inr (.inr (qf (ad Rb))))))), (ta, .inl (cQ, Rt.length, .inr (.inr (.inr (.inr (qf (ad Rt))))))), (q_1, .inl (cI, 5, .inl (upd ks d9 (nI ((ctB (nI d9) (stB q) - cnN (isK (nI d9) (stB q)) (k1 + 1)) + 1)))))]) (Z := ((sT cI (Rb.map bq) (Rt.map tq)) ++ ((xA cI x a b f q) ++ ((xB cI b g q2) ++ [])))) (X0 := []) (Y := ((sT cI (Rb.map bq) (Rt.map tq)) ++ ((xA cI x a b f q) ++ ((xB cI b g q2) ++ [])))) (wc1 := (fun (u : Unit) => [(s, .inr (4, [.int (nI (stI q)), .int (nI (stN q)), .int (stO q), .int (stV q), .int (nI (stG q)), .int (nI (stS q)), .int (stM q), .ref ba, .ref ta]))])) (X1 := (fun (u : Unit) => [])) F (c_X4_turns l D cI cQ s ba ta (nI (stI q)) (nI (stN q)) (stO q) (stV q) (nI (stS q)) (stM q) (stG q) ((Rb.getD k1 bd).2.2) o5 h99.2) gX4_isSame_X4_turns rfl (nA := 1) (by decide +kernel) rfl ⟨Nat.le_of_ble_eq_true rfl, Nat.le_of_ble_eq_true rfl⟩ hK hP hD hS hA hG (ci := 4) (q0 := 0) rfl rfl rfl [0] [1, 2, 3] rfl (by decide) (List.Perm.refl _) rfl (fun _ => rfl) [0, 1] rfl rfl hl.1 (Nat.le_of_ble_eq_true rfl) dX4_isSame_114 ⟨Nat.le_of_ble_eq_true rfl, Nat.le_of_ble_eq_true rfl⟩ (fun r_39 u H locs hr_114 hP hD hS => ?_)
                try dsimp only at hr_114
                have hP : va_P D vwCl ([(ba, .inl (cQ, Rb.length, .inr (.inr (.inr (.inr (qf (ad Rb))))))), (ta, .inl (cQ, Rt.length, .inr (.inr (.inr (.inr (qf (ad Rt))))))), (q_1, .inl (cI, 5, .inl (upd ks d9 (nI ((ctB (nI d9) (stB q) - cnN (isK (nI d9) (stB q)) (k1 + 1)) + 1))))), (s, .inr (4, [.int (nI (stI q)), .int (nI (stN q)), .int (stO q), .int (stV q), .int (nI (stG q)), .int (nI (stS q)), .int (stM q), .ref ba, .ref ta]))] ++ ((sT cI (Rb.map bq) (Rt.map tq)) ++ ((xA cI x a b f q) ++ ((xB cI b g q2) ++ [])))) H := hP
                have hD : va_D A ([(ba, .inl (cQ, Rb.length, .inr (.inr (.inr (.inr (qf (ad Rb))))))), (ta, .inl (cQ, Rt.length, .inr (.inr (.inr (.inr (qf (ad Rt))))))), (q_1, .inl (cI, 5, .inl (upd ks d9 (nI ((ctB (nI d9) (stB q) - cnN (isK (nI d9) (stB q)) (k1 + 1)) + 1))))), (s, .inr (4, [.int (nI (stI q)), .int (nI (stN q)), .int (stO q), .int (stV q), .int (nI (stG q)), .int (nI (stS q)), .int (stM q), .ref ba, .ref ta]))] ++ ((sT cI (Rb.map bq) (Rt.map tq)) ++ ((xA cI x a b f q) ++ ((xB cI b g q2) ++ [])))) := hD
                refine W.eq (g2 := F0 m 117 ls [.int r_39, .int r_38]) rfl ?_
                refine W.widen (k := 1) (n := 5) (Nat.le_refl _) (Nat.le_refl _) ?_
                refine lv_icmp_eq (tgt := 122) hx hb dX4_isSame_117 (by decide) (fun c_117 => ?_) (fun c_117 => ?_)
                · skip
                  refine lv_iinc (v := nI k1 - nI 1) (lv' := [(4, .int (nI k1 - nI 1)), (3, .int (nI k1)), (0, .ref s), (1, .ref x), (2, .ref q_1)]) hx hb dX4_isSame_122 hl (k := 4) rfl (z_dec _) (by decide) rfl (fun ls hl => ?_)
                  refine lv_goto (tgt := 15) hx hb dX4_isSame_125 (by decide) ?_
                  exact ih k1 (nI k1) (upd ks d9 (nI ((ctB (nI d9) (stB q) - cnN (isK (nI d9) (stB q)) (k1 + 1)) + 1))) (by omega) (lgR_f hkn) (ksR_s hks hkB hd9 ed9) (by omega) _ _ (z_subP hP [3, 0, 1, 2] (rfl)) (z_subD hD [3, 0, 1, 2] (by decide) (rfl)) hS _ (lv_sub hl [2, 3, 4, 1, 0] (rfl))
                · skip
                  exact absurd (tnR_eq hr_101 (by rw [e1]; exact hr_114)) c_117
          · skip
            exact absurd (by decide) c_36
      · skip
        obtain ⟨k1, rfl⟩ : ∃ z, k = z + 1 := ⟨k - 1, by omega⟩
        rw [z_dn] at hl
        have hkL : k1 < Rb.length := by omega
        have hkB : k1 < (stB q).length := by omega
        have e1 := sn_gd Rb k1
        rw [← hq.1] at e1
        obtain ⟨d9, hd9, ed9⟩ := hok.2.1 _ (gd_mem (d := tp0) hkB)
        have ed2 : (Rb.getD k1 bd).2.1 = nI d9 := by rw [← e1]; exact ed9
        have h99 := stB_okB hq.1 hO hkL
        have hbL : b9 < Rb.length := by omega
        have hb99 := stB_okB hq.1 hO hbL
        have eb := sn_gd Rb b9
        rw [← hq.1] at eb
        refine lv_iload hx hb dX4_isSame_15 (lv_at hl 4 rfl) ?_
        refine k_if_lt (tgt := 128) hx hb k1 rfl (by omega) dX4_isSame_17 (by decide) (fun c_17 => ?_) (fun c_17 => ?_)
        · exact c_17.elim
        · skip
          refine lv_aload_n hx hb dX4_isSame_20 rfl (lv_at hl 2 rfl) ?_
          refine lv_aload_n hx hb dX4_isSame_21 rfl (lv_at hl 0 rfl) ?_
          refine va_get (D := D) (ci := 4) (v := .ref ba) (C := RX4) (T := TX4) (N := 9) hx hb hts iX4 hown hK hP 0 rfl rfl 7 (by decide) f21 (fun _ h9 => h9) rfl dX4_isSame_22 ?_
          refine lv_iload hx hb dX4_isSame_25 (lv_at hl 4 rfl) ?_
          refine z_qld hx hb hK hP 1 1 rfl rfl k1 rfl (hkL) (by omega) ((Rb.getD k1 bd).1) (ad_q hkL) dX4_isSame_27 ?_
          refine lv_iconst (v := nI 1) hx hb dX4_isSame_28 (by decide +kernel) ?_
          refine z_bld hx hb hK hP 0 rfl k1 (mp_len hkL) (bq_1 hkL) 1 rfl (by decide) (nI d9) ((bq_k hkL).trans ed2) dX4_isSame_29 ?_
          refine lv_dup2_11 hx hb dX4_isSame_30 rfl rfl ?_
          refine k_iald hx hb hK hP 3 0 rfl rfl d9 (rfl) (by omega) (by decide) dX4_isSame_31 ?_
          refine k_top (v := nI (ctB (nI d9) (stB q) - cnN (isK (nI d9) (stB q)) (k1 + 1))) (hks d9 hd9) ?_
          refine lv_iconst (v := nI 1) hx hb dX4_isSame_32 (by decide +kernel) ?_
          refine k_iadd hx hb (nI ((ctB (nI d9) (stB q) - cnN (isK (nI d9) (stB q)) (k1 + 1)) + 1)) (nI_add _ _) dX4_isSame_33 ?_
          refine k_iast hx hb hK hP hD hS 3 0 rfl rfl d9 (rfl) (by omega) (by decide) dX4_isSame_34 (fun H locs hP hD hS => ?_)
          have hP : va_P D vwCl ([(s, .inr (4, [.int (nI (stI q)), .int (nI (stN q)), .int (stO q), .int (stV q), .int (nI (stG q)), .int (nI (stS q)), .int (stM q), .ref ba, .ref ta])), (ba, .inl (cQ, Rb.length, .inr (.inr (.inr (.inr (qf (ad Rb))))))), (ta, .inl (cQ, Rt.length, .inr (.inr (.inr (.inr (qf (ad Rt))))))), (q_1, .inl (cI, 5, .inl (upd ks d9 (nI ((ctB (nI d9) (stB q) - cnN (isK (nI d9) (stB q)) (k1 + 1)) + 1)))))] ++ ((sT cI (Rb.map bq) (Rt.map tq)) ++ ((xA cI x a b f q) ++ ((xB cI b g q2) ++ [])))) H := hP
          have hD : va_D A ([(s, .inr (4, [.int (nI (stI q)), .int (nI (stN q)), .int (stO q), .int (stV q), .int (nI (stG q)), .int (nI (stS q)), .int (stM q), .ref ba, .ref ta])), (ba, .inl (cQ, Rb.length, .inr (.inr (.inr (.inr (qf (ad Rb))))))), (ta, .inl (cQ, Rt.length, .inr (.inr (.inr (.inr (qf (ad Rt))))))), (q_1, .inl (cI, 5, .inl (upd ks d9 (nI ((ctB (nI d9) (stB q) - cnN (isK (nI d9) (stB q)) (k1 + 1)) + 1)))))] ++ ((sT cI (Rb.map bq) (Rt.map tq)) ++ ((xA cI x a b f q) ++ ((xB cI b g q2) ++ [])))) := hD
          refine lv_iload_n hx hb dX4_isSame_35 rfl (lv_at hl 3 rfl) ?_
          refine k_if_lt (tgt := 59) hx hb b9 rfl (by omega) dX4_isSame_36 (by decide) (fun c_36 => ?_) (fun c_36 => ?_)
          · exact c_36.elim
          · skip
            refine lv_aload_n hx hb dX4_isSame_39 rfl (lv_at hl 0 rfl) ?_
            refine va_get (D := D) (ci := 4) (v := .ref ba) (C := RX4) (T := TX4) (N := 9) hx hb hts iX4 hown hK hP 0 rfl rfl 7 (by decide) f21 (fun _ h9 => h9) rfl dX4_isSame_40 ?_
            refine lv_iload hx hb dX4_isSame_43 (lv_at hl 4 rfl) ?_
            refine z_qld hx hb hK hP 1 1 rfl rfl k1 rfl (hkL) (by omega) ((Rb.getD k1 bd).1) (ad_q hkL) dX4_isSame_45 ?_
            refine lv_iconst (v := nI 0) hx hb dX4_isSame_46 (by decide +kernel) ?_
            refine z_bld hx hb hK hP 0 rfl k1 (mp_len hkL) (bq_1 hkL) 0 rfl (by decide) (nI ((Rb.getD k1 bd).2.2)) (bq_s hkL) dX4_isSame_47 ?_
            refine lv_aload_n hx hb dX4_isSame_48 rfl (lv_at hl 0 rfl) ?_
            refine va_get (D := D) (ci := 4) (v := .ref ba) (C := RX4) (T := TX4) (N := 9) hx hb hts iX4 hown hK hP 0 rfl rfl 7 (by decide) f21 (fun _ h9 => h9) rfl dX4_isSame_49 ?_
            refine lv_iload_n hx hb dX4_isSame_52 rfl (lv_at hl 3 rfl) ?_
            refine z_qld hx hb hK hP 1 1 rfl rfl b9 rfl (hbL) (by omega) ((Rb.getD b9 bd).1) (ad_q hbL) dX4_isSame_53 ?_
            refine lv_iconst (v := nI 0) hx hb dX4_isSame_54 (by decide +kernel) ?_
            refine z_bld hx hb hK hP 0 rfl b9 (mp_len hbL) (bq_1 hbL) 0 rfl (by decide) (nI ((Rb.getD b9 bd).2.2)) (bq_s hbL) dX4_isSame_55 ?_
            refine k_cmp_lt (tgt := 62) hx hb ((Rb.getD k1 bd).2.2) ((Rb.getD b9 bd).2.2) rfl rfl (by omega) (by omega) dX4_isSame_56 (by decide) (fun c_56 => ?_) (fun c_56 => ?_)
            · skip
              refine lv_aload_n hx hb dX4_isSame_62 rfl (lv_at hl 1 rfl) ?_
              refine lv_iload hx hb dX4_isSame_63 (lv_at hl 4 rfl) ?_
              refine kz_callX (As := [.int (nI k1)]) (rest := []) F (c_ZX3_sizeAt l D cI x a b f q k1 hR hkB) gX4_isSame_X3_sizeAt rfl (nA := 1) (by decide +kernel) rfl ⟨Nat.le_of_ble_eq_true rfl, Nat.le_of_ble_eq_true rfl⟩ hK hP hD hS hA hG (ci := 3) (q0 := 0) rfl rfl rfl zp_pn [0] rfl rfl hl.1 (Nat.le_of_ble_eq_true rfl) dX4_isSame_65 ⟨Nat.le_of_ble_eq_true rfl, Nat.le_of_ble_eq_true rfl⟩ (fun r_40 u H locs hr_65 hP hD hS => ?_)
              try dsimp only at hr_65
              have hP := z_PS z_pnb hP
              have hD := z_DS z_pnb hD
              have hP : va_P D vwCl ([(s, .inr (4, [.int (nI (stI q)), .int (nI (stN q)), .int (stO q), .int (stV q), .int (nI (stG q)), .int (nI (stS q)), .int (stM q), .ref ba, .ref ta])), (ba, .inl (cQ, Rb.length, .inr (.inr (.inr (.inr (qf (ad Rb))))))), (ta, .inl (cQ, Rt.length, .inr (.inr (.inr (.inr (qf (ad Rt))))))), (q_1, .inl (cI, 5, .inl (upd ks d9 (nI ((ctB (nI d9) (stB q) - cnN (isK (nI d9) (stB q)) (k1 + 1)) + 1)))))] ++ ((sT cI (Rb.map bq) (Rt.map tq)) ++ ((xA cI x a b f q) ++ ((xB cI b g q2) ++ [])))) H := hP
              have hD : va_D A ([(s, .inr (4, [.int (nI (stI q)), .int (nI (stN q)), .int (stO q), .int (stV q), .int (nI (stG q)), .int (nI (stS q)), .int (stM q), .ref ba, .ref ta])), (ba, .inl (cQ, Rb.length, .inr (.inr (.inr (.inr (qf (ad Rb))))))), (ta, .inl (cQ, Rt.length, .inr (.inr (.inr (.inr (qf (ad Rt))))))), (q_1, .inl (cI, 5, .inl (upd ks d9 (nI ((ctB (nI d9) (stB q) - cnN (isK (nI d9) (stB q)) (k1 + 1)) + 1)))))] ++ ((sT cI (Rb.map bq) (Rt.map tq)) ++ ((xA cI x a b f q) ++ ((xB cI b g q2) ++ [])))) := hD
              refine W.eq (g2 := F0 m 68 ls [.int r_40]) rfl ?_
              refine W.widen (k := 1) (n := 5) (Nat.le_refl _) (Nat.le_refl _) ?_
              refine k_top (v := nI ((Rb.getD k1 bd).2.2)) (hr_65.trans (by rw [e1])) ?_
              refine lv_aload_n hx hb dX4_isSame_68 rfl (lv_at hl 0 rfl) ?_
              refine va_get (D := D) (ci := 4) (v := .ref ba) (C := RX4) (T := TX4) (N := 9) hx hb hts iX4 hown hK hP 0 rfl rfl 7 (by decide) f21 (fun _ h9 => h9) rfl dX4_isSame_69 ?_
              refine lv_iload hx hb dX4_isSame_72 (lv_at hl 4 rfl) ?_
              refine z_qld hx hb hK hP 1 1 rfl rfl k1 rfl (hkL) (by omega) ((Rb.getD k1 bd).1) (ad_q hkL) dX4_isSame_74 ?_
              refine lv_iconst (v := nI 0) hx hb dX4_isSame_75 (by decide +kernel) ?_
              refine z_bld hx hb hK hP 0 rfl k1 (mp_len hkL) (bq_1 hkL) 0 rfl (by decide) (nI ((Rb.getD k1 bd).2.2)) (bq_s hkL) dX4_isSame_76 ?_
              refine k_cmp_ne (tgt := 120) hx hb ((Rb.getD k1 bd).2.2) ((Rb.getD k1 bd).2.2) rfl rfl (by omega) (by omega) dX4_isSame_77 (by decide) (fun c_77 => ?_) (fun c_77 => ?_)
              · skip
                exact absurd rfl c_77
              · skip
                refine lv_aload_n hx hb dX4_isSame_80 rfl (lv_at hl 1 rfl) ?_
                refine lv_iload hx hb dX4_isSame_81 (lv_at hl 4 rfl) ?_
                refine kz_callX (As := [.int (nI k1)]) (rest := []) F (c_ZX3_kindAt l D cI x a b f q k1 hR hkB) gX4_isSame_X3_kindAt rfl (nA := 1) (by decide +kernel) rfl ⟨Nat.le_of_ble_eq_true rfl, Nat.le_of_ble_eq_true rfl⟩ hK hP hD hS hA hG (ci := 3) (q0 := 0) rfl rfl rfl zp_pn [0] rfl rfl hl.1 (Nat.le_of_ble_eq_true rfl) dX4_isSame_83 ⟨Nat.le_of_ble_eq_true rfl, Nat.le_of_ble_eq_true rfl⟩ (fun r_41 u H locs hr_83 hP hD hS => ?_)
                try dsimp only at hr_83
                have hP := z_PS z_pnb hP
                have hD := z_DS z_pnb hD
                have hP : va_P D vwCl ([(s, .inr (4, [.int (nI (stI q)), .int (nI (stN q)), .int (stO q), .int (stV q), .int (nI (stG q)), .int (nI (stS q)), .int (stM q), .ref ba, .ref ta])), (ba, .inl (cQ, Rb.length, .inr (.inr (.inr (.inr (qf (ad Rb))))))), (ta, .inl (cQ, Rt.length, .inr (.inr (.inr (.inr (qf (ad Rt))))))), (q_1, .inl (cI, 5, .inl (upd ks d9 (nI ((ctB (nI d9) (stB q) - cnN (isK (nI d9) (stB q)) (k1 + 1)) + 1)))))] ++ ((sT cI (Rb.map bq) (Rt.map tq)) ++ ((xA cI x a b f q) ++ ((xB cI b g q2) ++ [])))) H := hP
                have hD : va_D A ([(s, .inr (4, [.int (nI (stI q)), .int (nI (stN q)), .int (stO q), .int (stV q), .int (nI (stG q)), .int (nI (stS q)), .int (stM q), .ref ba, .ref ta])), (ba, .inl (cQ, Rb.length, .inr (.inr (.inr (.inr (qf (ad Rb))))))), (ta, .inl (cQ, Rt.length, .inr (.inr (.inr (.inr (qf (ad Rt))))))), (q_1, .inl (cI, 5, .inl (upd ks d9 (nI ((ctB (nI d9) (stB q) - cnN (isK (nI d9) (stB q)) (k1 + 1)) + 1)))))] ++ ((sT cI (Rb.map bq) (Rt.map tq)) ++ ((xA cI x a b f q) ++ ((xB cI b g q2) ++ [])))) := hD
                refine W.eq (g2 := F0 m 86 ls [.int r_41]) rfl ?_
                refine W.widen (k := 1) (n := 5) (Nat.le_refl _) (Nat.le_refl _) ?_
                refine k_top (v := (Rb.getD k1 bd).2.1) (hr_83.trans (by rw [e1])) ?_
                refine lv_aload_n hx hb dX4_isSame_86 rfl (lv_at hl 0 rfl) ?_
                refine va_get (D := D) (ci := 4) (v := .ref ba) (C := RX4) (T := TX4) (N := 9) hx hb hts iX4 hown hK hP 0 rfl rfl 7 (by decide) f21 (fun _ h9 => h9) rfl dX4_isSame_87 ?_
                refine lv_iload hx hb dX4_isSame_90 (lv_at hl 4 rfl) ?_
                refine z_qld hx hb hK hP 1 1 rfl rfl k1 rfl (hkL) (by omega) ((Rb.getD k1 bd).1) (ad_q hkL) dX4_isSame_92 ?_
                refine lv_iconst (v := nI 1) hx hb dX4_isSame_93 (by decide +kernel) ?_
                refine z_bld hx hb hK hP 0 rfl k1 (mp_len hkL) (bq_1 hkL) 1 rfl (by decide) ((Rb.getD k1 bd).2.1) (bq_k hkL) dX4_isSame_94 ?_
                refine lv_icmp_ne (tgt := 120) hx hb dX4_isSame_95 (by decide) (fun c_95 => ?_) (fun c_95 => ?_)
                · skip
                  exact absurd rfl c_95
                · skip
                  refine lv_aload_n hx hb dX4_isSame_98 rfl (lv_at hl 1 rfl) ?_
                  refine lv_iload hx hb dX4_isSame_99 (lv_at hl 4 rfl) ?_
                  refine kz_callX (As := [.int (nI k1)]) (rest := []) F (c_ZX3_turnsToNod l D cI x a b f q k1 hR hO hkB) gX4_isSame_X3_turnsToNod rfl (nA := 1) (by decide +kernel) rfl ⟨Nat.le_of_ble_eq_true rfl, Nat.le_of_ble_eq_true rfl⟩ hK hP hD hS hA hG (ci := 3) (q0 := 0) rfl rfl rfl zp_pn [0] rfl rfl hl.1 (Nat.le_of_ble_eq_true rfl) dX4_isSame_101 ⟨Nat.le_of_ble_eq_true rfl, Nat.le_of_ble_eq_true rfl⟩ (fun r_42 u H locs hr_101 hP hD hS => ?_)
                  try dsimp only at hr_101
                  have hP := z_PS z_pnb hP
                  have hD := z_DS z_pnb hD
                  have hP : va_P D vwCl ([(s, .inr (4, [.int (nI (stI q)), .int (nI (stN q)), .int (stO q), .int (stV q), .int (nI (stG q)), .int (nI (stS q)), .int (stM q), .ref ba, .ref ta])), (ba, .inl (cQ, Rb.length, .inr (.inr (.inr (.inr (qf (ad Rb))))))), (ta, .inl (cQ, Rt.length, .inr (.inr (.inr (.inr (qf (ad Rt))))))), (q_1, .inl (cI, 5, .inl (upd ks d9 (nI ((ctB (nI d9) (stB q) - cnN (isK (nI d9) (stB q)) (k1 + 1)) + 1)))))] ++ ((sT cI (Rb.map bq) (Rt.map tq)) ++ ((xA cI x a b f q) ++ ((xB cI b g q2) ++ [])))) H := hP
                  have hD : va_D A ([(s, .inr (4, [.int (nI (stI q)), .int (nI (stN q)), .int (stO q), .int (stV q), .int (nI (stG q)), .int (nI (stS q)), .int (stM q), .ref ba, .ref ta])), (ba, .inl (cQ, Rb.length, .inr (.inr (.inr (.inr (qf (ad Rb))))))), (ta, .inl (cQ, Rt.length, .inr (.inr (.inr (.inr (qf (ad Rt))))))), (q_1, .inl (cI, 5, .inl (upd ks d9 (nI ((ctB (nI d9) (stB q) - cnN (isK (nI d9) (stB q)) (k1 + 1)) + 1)))))] ++ ((sT cI (Rb.map bq) (Rt.map tq)) ++ ((xA cI x a b f q) ++ ((xB cI b g q2) ++ [])))) := hD
                  refine W.eq (g2 := F0 m 104 ls [.int r_42]) rfl ?_
                  refine W.widen (k := 1) (n := 5) (Nat.le_refl _) (Nat.le_refl _) ?_
                  refine lv_aload_n hx hb dX4_isSame_104 rfl (lv_at hl 0 rfl) ?_
                  refine lv_aload_n hx hb dX4_isSame_105 rfl (lv_at hl 0 rfl) ?_
                  refine va_get (D := D) (ci := 4) (v := .ref ba) (C := RX4) (T := TX4) (N := 9) hx hb hts iX4 hown hK hP 0 rfl rfl 7 (by decide) f21 (fun _ h9 => h9) rfl dX4_isSame_106 ?_
                  refine lv_iload hx hb dX4_isSame_109 (lv_at hl 4 rfl) ?_
                  refine z_qld hx hb hK hP 1 1 rfl rfl k1 rfl (hkL) (by omega) ((Rb.getD k1 bd).1) (ad_q hkL) dX4_isSame_111 ?_
                  refine lv_iconst (v := nI 0) hx hb dX4_isSame_112 (by decide +kernel) ?_
                  refine z_bld hx hb hK hP 0 rfl k1 (mp_len hkL) (bq_1 hkL) 0 rfl (by decide) (nI ((Rb.getD k1 bd).2.2)) (bq_s hkL) dX4_isSame_113 ?_
                  refine kz_callV (As := [.int (nI ((Rb.getD k1 bd).2.2))]) (rest := [.int r_42]) (wp := [(s, .inr (4, [.int (nI (stI q)), .int (nI (stN q)), .int (stO q), .int (stV q), .int (nI (stG q)), .int (nI (stS q)), .int (stM q), .ref ba, .ref ta])), (ba, .inl (cQ, Rb.length, .inr (.inr (.inr (.inr (qf (ad Rb))))))), (ta, .inl (cQ, Rt.length, .inr (.inr (.inr (.inr (qf (ad Rt))))))), (q_1, .inl (cI, 5, .inl (upd ks d9 (nI ((ctB (nI d9) (stB q) - cnN (isK (nI d9) (stB q)) (k1 + 1)) + 1)))))]) (wc := [(s, .inr (4, [.int (nI (stI q)), .int (nI (stN q)), .int (stO q), .int (stV q), .int (nI (stG q)), .int (nI (stS q)), .int (stM q), .ref ba, .ref ta]))]) (wr := [(ba, .inl (cQ, Rb.length, .inr (.inr (.inr (.inr (qf (ad Rb))))))), (ta, .inl (cQ, Rt.length, .inr (.inr (.inr (.inr (qf (ad Rt))))))), (q_1, .inl (cI, 5, .inl (upd ks d9 (nI ((ctB (nI d9) (stB q) - cnN (isK (nI d9) (stB q)) (k1 + 1)) + 1)))))]) (Z := ((sT cI (Rb.map bq) (Rt.map tq)) ++ ((xA cI x a b f q) ++ ((xB cI b g q2) ++ [])))) (X0 := []) (Y := ((sT cI (Rb.map bq) (Rt.map tq)) ++ ((xA cI x a b f q) ++ ((xB cI b g q2) ++ [])))) (wc1 := (fun (u : Unit) => [(s, .inr (4, [.int (nI (stI q)), .int (nI (stN q)), .int (stO q), .int (stV q), .int (nI (stG q)), .int (nI (stS q)), .int (stM q), .ref ba, .ref ta]))])) (X1 := (fun (u : Unit) => [])) F (c_X4_turns l D cI cQ s ba ta (nI (stI q)) (nI (stN q)) (stO q) (stV q) (nI (stS q)) (stM q) (stG q) ((Rb.getD k1 bd).2.2) o5 h99.2) gX4_isSame_X4_turns rfl (nA := 1) (by decide +kernel) rfl ⟨Nat.le_of_ble_eq_true rfl, Nat.le_of_ble_eq_true rfl⟩ hK hP hD hS hA hG (ci := 4) (q0 := 0) rfl rfl rfl [0] [1, 2, 3] rfl (by decide) (List.Perm.refl _) rfl (fun _ => rfl) [0, 1] rfl rfl hl.1 (Nat.le_of_ble_eq_true rfl) dX4_isSame_114 ⟨Nat.le_of_ble_eq_true rfl, Nat.le_of_ble_eq_true rfl⟩ (fun r_43 u H locs hr_114 hP hD hS => ?_)
                  try dsimp only at hr_114
                  have hP : va_P D vwCl ([(ba, .inl (cQ, Rb.length, .inr (.inr (.inr (.inr (qf (ad Rb))))))), (ta, .inl (cQ, Rt.length, .inr (.inr (.inr (.inr (qf (ad Rt))))))), (q_1, .inl (cI, 5, .inl (upd ks d9 (nI ((ctB (nI d9) (stB q) - cnN (isK (nI d9) (stB q)) (k1 + 1)) + 1))))), (s, .inr (4, [.int (nI (stI q)), .int (nI (stN q)), .int (stO q), .int (stV q), .int (nI (stG q)), .int (nI (stS q)), .int (stM q), .ref ba, .ref ta]))] ++ ((sT cI (Rb.map bq) (Rt.map tq)) ++ ((xA cI x a b f q) ++ ((xB cI b g q2) ++ [])))) H := hP
                  have hD : va_D A ([(ba, .inl (cQ, Rb.length, .inr (.inr (.inr (.inr (qf (ad Rb))))))), (ta, .inl (cQ, Rt.length, .inr (.inr (.inr (.inr (qf (ad Rt))))))), (q_1, .inl (cI, 5, .inl (upd ks d9 (nI ((ctB (nI d9) (stB q) - cnN (isK (nI d9) (stB q)) (k1 + 1)) + 1))))), (s, .inr (4, [.int (nI (stI q)), .int (nI (stN q)), .int (stO q), .int (stV q), .int (nI (stG q)), .int (nI (stS q)), .int (stM q), .ref ba, .ref ta]))] ++ ((sT cI (Rb.map bq) (Rt.map tq)) ++ ((xA cI x a b f q) ++ ((xB cI b g q2) ++ [])))) := hD
                  refine W.eq (g2 := F0 m 117 ls [.int r_43, .int r_42]) rfl ?_
                  refine W.widen (k := 1) (n := 5) (Nat.le_refl _) (Nat.le_refl _) ?_
                  refine lv_icmp_eq (tgt := 122) hx hb dX4_isSame_117 (by decide) (fun c_117 => ?_) (fun c_117 => ?_)
                  · skip
                    refine lv_iinc (v := nI k1 - nI 1) (lv' := [(4, .int (nI k1 - nI 1)), (0, .ref s), (1, .ref x), (2, .ref q_1), (3, .int (nI b9))]) hx hb dX4_isSame_122 hl (k := 4) rfl (z_dec _) (by decide) rfl (fun ls hl => ?_)
                    refine lv_goto (tgt := 15) hx hb dX4_isSame_125 (by decide) ?_
                    exact ih k1 (nI b9) (upd ks d9 (nI ((ctB (nI d9) (stB q) - cnN (isK (nI d9) (stB q)) (k1 + 1)) + 1))) (by omega) (lgR_k hb1 hb2 hb3 (by rw [e1, eb]; exact c_56)) (ksR_s hks hkB hd9 ed9) (by omega) _ _ (z_subP hP [3, 0, 1, 2] (rfl)) (z_subD hD [3, 0, 1, 2] (by decide) (rfl)) hS _ (lv_sub hl [1, 2, 3, 4, 0] (rfl))
                  · skip
                    exact absurd (tnR_eq hr_101 (by rw [e1]; exact hr_114)) c_117
            · skip
              refine lv_iload hx hb dX4_isSame_59 (lv_at hl 4 rfl) ?_
              refine lv_istore_n (lv' := [(3, .int (nI k1)), (0, .ref s), (1, .ref x), (2, .ref q_1), (4, .int (nI k1))]) hx hb dX4_isSame_61 rfl hl (by decide) rfl (fun ls hl => ?_)
              refine lv_aload_n hx hb dX4_isSame_62 rfl (lv_at hl 2 rfl) ?_
              refine lv_iload hx hb dX4_isSame_63 (lv_at hl 4 rfl) ?_
              refine kz_callX (As := [.int (nI k1)]) (rest := []) F (c_ZX3_sizeAt l D cI x a b f q k1 hR hkB) gX4_isSame_X3_sizeAt rfl (nA := 1) (by decide +kernel) rfl ⟨Nat.le_of_ble_eq_true rfl, Nat.le_of_ble_eq_true rfl⟩ hK hP hD hS hA hG (ci := 3) (q0 := 0) rfl rfl rfl zp_pn [0] rfl rfl hl.1 (Nat.le_of_ble_eq_true rfl) dX4_isSame_65 ⟨Nat.le_of_ble_eq_true rfl, Nat.le_of_ble_eq_true rfl⟩ (fun r_44 u H locs hr_65 hP hD hS => ?_)
              try dsimp only at hr_65
              have hP := z_PS z_pnb hP
              have hD := z_DS z_pnb hD
              have hP : va_P D vwCl ([(s, .inr (4, [.int (nI (stI q)), .int (nI (stN q)), .int (stO q), .int (stV q), .int (nI (stG q)), .int (nI (stS q)), .int (stM q), .ref ba, .ref ta])), (ba, .inl (cQ, Rb.length, .inr (.inr (.inr (.inr (qf (ad Rb))))))), (ta, .inl (cQ, Rt.length, .inr (.inr (.inr (.inr (qf (ad Rt))))))), (q_1, .inl (cI, 5, .inl (upd ks d9 (nI ((ctB (nI d9) (stB q) - cnN (isK (nI d9) (stB q)) (k1 + 1)) + 1)))))] ++ ((sT cI (Rb.map bq) (Rt.map tq)) ++ ((xA cI x a b f q) ++ ((xB cI b g q2) ++ [])))) H := hP
              have hD : va_D A ([(s, .inr (4, [.int (nI (stI q)), .int (nI (stN q)), .int (stO q), .int (stV q), .int (nI (stG q)), .int (nI (stS q)), .int (stM q), .ref ba, .ref ta])), (ba, .inl (cQ, Rb.length, .inr (.inr (.inr (.inr (qf (ad Rb))))))), (ta, .inl (cQ, Rt.length, .inr (.inr (.inr (.inr (qf (ad Rt))))))), (q_1, .inl (cI, 5, .inl (upd ks d9 (nI ((ctB (nI d9) (stB q) - cnN (isK (nI d9) (stB q)) (k1 + 1)) + 1)))))] ++ ((sT cI (Rb.map bq) (Rt.map tq)) ++ ((xA cI x a b f q) ++ ((xB cI b g q2) ++ [])))) := hD
              refine W.eq (g2 := F0 m 68 ls [.int r_44]) rfl ?_
              refine W.widen (k := 1) (n := 5) (Nat.le_refl _) (Nat.le_refl _) ?_
              refine k_top (v := nI ((Rb.getD k1 bd).2.2)) (hr_65.trans (by rw [e1])) ?_
              refine lv_aload_n hx hb dX4_isSame_68 rfl (lv_at hl 1 rfl) ?_
              refine va_get (D := D) (ci := 4) (v := .ref ba) (C := RX4) (T := TX4) (N := 9) hx hb hts iX4 hown hK hP 0 rfl rfl 7 (by decide) f21 (fun _ h9 => h9) rfl dX4_isSame_69 ?_
              refine lv_iload hx hb dX4_isSame_72 (lv_at hl 4 rfl) ?_
              refine z_qld hx hb hK hP 1 1 rfl rfl k1 rfl (hkL) (by omega) ((Rb.getD k1 bd).1) (ad_q hkL) dX4_isSame_74 ?_
              refine lv_iconst (v := nI 0) hx hb dX4_isSame_75 (by decide +kernel) ?_
              refine z_bld hx hb hK hP 0 rfl k1 (mp_len hkL) (bq_1 hkL) 0 rfl (by decide) (nI ((Rb.getD k1 bd).2.2)) (bq_s hkL) dX4_isSame_76 ?_
              refine k_cmp_ne (tgt := 120) hx hb ((Rb.getD k1 bd).2.2) ((Rb.getD k1 bd).2.2) rfl rfl (by omega) (by omega) dX4_isSame_77 (by decide) (fun c_77 => ?_) (fun c_77 => ?_)
              · skip
                exact absurd rfl c_77
              · skip
                refine lv_aload_n hx hb dX4_isSame_80 rfl (lv_at hl 2 rfl) ?_
                refine lv_iload hx hb dX4_isSame_81 (lv_at hl 4 rfl) ?_
                refine kz_callX (As := [.int (nI k1)]) (rest := []) F (c_ZX3_kindAt l D cI x a b f q k1 hR hkB) gX4_isSame_X3_kindAt rfl (nA := 1) (by decide +kernel) rfl ⟨Nat.le_of_ble_eq_true rfl, Nat.le_of_ble_eq_true rfl⟩ hK hP hD hS hA hG (ci := 3) (q0 := 0) rfl rfl rfl zp_pn [0] rfl rfl hl.1 (Nat.le_of_ble_eq_true rfl) dX4_isSame_83 ⟨Nat.le_of_ble_eq_true rfl, Nat.le_of_ble_eq_true rfl⟩ (fun r_45 u H locs hr_83 hP hD hS => ?_)
                try dsimp only at hr_83
                have hP := z_PS z_pnb hP
                have hD := z_DS z_pnb hD
                have hP : va_P D vwCl ([(s, .inr (4, [.int (nI (stI q)), .int (nI (stN q)), .int (stO q), .int (stV q), .int (nI (stG q)), .int (nI (stS q)), .int (stM q), .ref ba, .ref ta])), (ba, .inl (cQ, Rb.length, .inr (.inr (.inr (.inr (qf (ad Rb))))))), (ta, .inl (cQ, Rt.length, .inr (.inr (.inr (.inr (qf (ad Rt))))))), (q_1, .inl (cI, 5, .inl (upd ks d9 (nI ((ctB (nI d9) (stB q) - cnN (isK (nI d9) (stB q)) (k1 + 1)) + 1)))))] ++ ((sT cI (Rb.map bq) (Rt.map tq)) ++ ((xA cI x a b f q) ++ ((xB cI b g q2) ++ [])))) H := hP
                have hD : va_D A ([(s, .inr (4, [.int (nI (stI q)), .int (nI (stN q)), .int (stO q), .int (stV q), .int (nI (stG q)), .int (nI (stS q)), .int (stM q), .ref ba, .ref ta])), (ba, .inl (cQ, Rb.length, .inr (.inr (.inr (.inr (qf (ad Rb))))))), (ta, .inl (cQ, Rt.length, .inr (.inr (.inr (.inr (qf (ad Rt))))))), (q_1, .inl (cI, 5, .inl (upd ks d9 (nI ((ctB (nI d9) (stB q) - cnN (isK (nI d9) (stB q)) (k1 + 1)) + 1)))))] ++ ((sT cI (Rb.map bq) (Rt.map tq)) ++ ((xA cI x a b f q) ++ ((xB cI b g q2) ++ [])))) := hD
                refine W.eq (g2 := F0 m 86 ls [.int r_45]) rfl ?_
                refine W.widen (k := 1) (n := 5) (Nat.le_refl _) (Nat.le_refl _) ?_
                refine k_top (v := (Rb.getD k1 bd).2.1) (hr_83.trans (by rw [e1])) ?_
                refine lv_aload_n hx hb dX4_isSame_86 rfl (lv_at hl 1 rfl) ?_
                refine va_get (D := D) (ci := 4) (v := .ref ba) (C := RX4) (T := TX4) (N := 9) hx hb hts iX4 hown hK hP 0 rfl rfl 7 (by decide) f21 (fun _ h9 => h9) rfl dX4_isSame_87 ?_
                refine lv_iload hx hb dX4_isSame_90 (lv_at hl 4 rfl) ?_
                refine z_qld hx hb hK hP 1 1 rfl rfl k1 rfl (hkL) (by omega) ((Rb.getD k1 bd).1) (ad_q hkL) dX4_isSame_92 ?_
                refine lv_iconst (v := nI 1) hx hb dX4_isSame_93 (by decide +kernel) ?_
                refine z_bld hx hb hK hP 0 rfl k1 (mp_len hkL) (bq_1 hkL) 1 rfl (by decide) ((Rb.getD k1 bd).2.1) (bq_k hkL) dX4_isSame_94 ?_
                refine lv_icmp_ne (tgt := 120) hx hb dX4_isSame_95 (by decide) (fun c_95 => ?_) (fun c_95 => ?_)
                · skip
                  exact absurd rfl c_95
                · skip
                  refine lv_aload_n hx hb dX4_isSame_98 rfl (lv_at hl 2 rfl) ?_
                  refine lv_iload hx hb dX4_isSame_99 (lv_at hl 4 rfl) ?_
                  refine kz_callX (As := [.int (nI k1)]) (rest := []) F (c_ZX3_turnsToNod l D cI x a b f q k1 hR hO hkB) gX4_isSame_X3_turnsToNod rfl (nA := 1) (by decide +kernel) rfl ⟨Nat.le_of_ble_eq_true rfl, Nat.le_of_ble_eq_true rfl⟩ hK hP hD hS hA hG (ci := 3) (q0 := 0) rfl rfl rfl zp_pn [0] rfl rfl hl.1 (Nat.le_of_ble_eq_true rfl) dX4_isSame_101 ⟨Nat.le_of_ble_eq_true rfl, Nat.le_of_ble_eq_true rfl⟩ (fun r_46 u H locs hr_101 hP hD hS => ?_)
                  try dsimp only at hr_101
                  have hP := z_PS z_pnb hP
                  have hD := z_DS z_pnb hD
                  have hP : va_P D vwCl ([(s, .inr (4, [.int (nI (stI q)), .int (nI (stN q)), .int (stO q), .int (stV q), .int (nI (stG q)), .int (nI (stS q)), .int (stM q), .ref ba, .ref ta])), (ba, .inl (cQ, Rb.length, .inr (.inr (.inr (.inr (qf (ad Rb))))))), (ta, .inl (cQ, Rt.length, .inr (.inr (.inr (.inr (qf (ad Rt))))))), (q_1, .inl (cI, 5, .inl (upd ks d9 (nI ((ctB (nI d9) (stB q) - cnN (isK (nI d9) (stB q)) (k1 + 1)) + 1)))))] ++ ((sT cI (Rb.map bq) (Rt.map tq)) ++ ((xA cI x a b f q) ++ ((xB cI b g q2) ++ [])))) H := hP
                  have hD : va_D A ([(s, .inr (4, [.int (nI (stI q)), .int (nI (stN q)), .int (stO q), .int (stV q), .int (nI (stG q)), .int (nI (stS q)), .int (stM q), .ref ba, .ref ta])), (ba, .inl (cQ, Rb.length, .inr (.inr (.inr (.inr (qf (ad Rb))))))), (ta, .inl (cQ, Rt.length, .inr (.inr (.inr (.inr (qf (ad Rt))))))), (q_1, .inl (cI, 5, .inl (upd ks d9 (nI ((ctB (nI d9) (stB q) - cnN (isK (nI d9) (stB q)) (k1 + 1)) + 1)))))] ++ ((sT cI (Rb.map bq) (Rt.map tq)) ++ ((xA cI x a b f q) ++ ((xB cI b g q2) ++ [])))) := hD
                  refine W.eq (g2 := F0 m 104 ls [.int r_46]) rfl ?_
                  refine W.widen (k := 1) (n := 5) (Nat.le_refl _) (Nat.le_refl _) ?_
                  refine lv_aload_n hx hb dX4_isSame_104 rfl (lv_at hl 1 rfl) ?_
                  refine lv_aload_n hx hb dX4_isSame_105 rfl (lv_at hl 1 rfl) ?_
                  refine va_get (D := D) (ci := 4) (v := .ref ba) (C := RX4) (T := TX4) (N := 9) hx hb hts iX4 hown hK hP 0 rfl rfl 7 (by decide) f21 (fun _ h9 => h9) rfl dX4_isSame_106 ?_
                  refine lv_iload hx hb dX4_isSame_109 (lv_at hl 4 rfl) ?_
                  refine z_qld hx hb hK hP 1 1 rfl rfl k1 rfl (hkL) (by omega) ((Rb.getD k1 bd).1) (ad_q hkL) dX4_isSame_111 ?_
                  refine lv_iconst (v := nI 0) hx hb dX4_isSame_112 (by decide +kernel) ?_
                  refine z_bld hx hb hK hP 0 rfl k1 (mp_len hkL) (bq_1 hkL) 0 rfl (by decide) (nI ((Rb.getD k1 bd).2.2)) (bq_s hkL) dX4_isSame_113 ?_
                  refine kz_callV (As := [.int (nI ((Rb.getD k1 bd).2.2))]) (rest := [.int r_46]) (wp := [(s, .inr (4, [.int (nI (stI q)), .int (nI (stN q)), .int (stO q), .int (stV q), .int (nI (stG q)), .int (nI (stS q)), .int (stM q), .ref ba, .ref ta])), (ba, .inl (cQ, Rb.length, .inr (.inr (.inr (.inr (qf (ad Rb))))))), (ta, .inl (cQ, Rt.length, .inr (.inr (.inr (.inr (qf (ad Rt))))))), (q_1, .inl (cI, 5, .inl (upd ks d9 (nI ((ctB (nI d9) (stB q) - cnN (isK (nI d9) (stB q)) (k1 + 1)) + 1)))))]) (wc := [(s, .inr (4, [.int (nI (stI q)), .int (nI (stN q)), .int (stO q), .int (stV q), .int (nI (stG q)), .int (nI (stS q)), .int (stM q), .ref ba, .ref ta]))]) (wr := [(ba, .inl (cQ, Rb.length, .inr (.inr (.inr (.inr (qf (ad Rb))))))), (ta, .inl (cQ, Rt.length, .inr (.inr (.inr (.inr (qf (ad Rt))))))), (q_1, .inl (cI, 5, .inl (upd ks d9 (nI ((ctB (nI d9) (stB q) - cnN (isK (nI d9) (stB q)) (k1 + 1)) + 1)))))]) (Z := ((sT cI (Rb.map bq) (Rt.map tq)) ++ ((xA cI x a b f q) ++ ((xB cI b g q2) ++ [])))) (X0 := []) (Y := ((sT cI (Rb.map bq) (Rt.map tq)) ++ ((xA cI x a b f q) ++ ((xB cI b g q2) ++ [])))) (wc1 := (fun (u : Unit) => [(s, .inr (4, [.int (nI (stI q)), .int (nI (stN q)), .int (stO q), .int (stV q), .int (nI (stG q)), .int (nI (stS q)), .int (stM q), .ref ba, .ref ta]))])) (X1 := (fun (u : Unit) => [])) F (c_X4_turns l D cI cQ s ba ta (nI (stI q)) (nI (stN q)) (stO q) (stV q) (nI (stS q)) (stM q) (stG q) ((Rb.getD k1 bd).2.2) o5 h99.2) gX4_isSame_X4_turns rfl (nA := 1) (by decide +kernel) rfl ⟨Nat.le_of_ble_eq_true rfl, Nat.le_of_ble_eq_true rfl⟩ hK hP hD hS hA hG (ci := 4) (q0 := 0) rfl rfl rfl [0] [1, 2, 3] rfl (by decide) (List.Perm.refl _) rfl (fun _ => rfl) [0, 1] rfl rfl hl.1 (Nat.le_of_ble_eq_true rfl) dX4_isSame_114 ⟨Nat.le_of_ble_eq_true rfl, Nat.le_of_ble_eq_true rfl⟩ (fun r_47 u H locs hr_114 hP hD hS => ?_)
                  try dsimp only at hr_114
                  have hP : va_P D vwCl ([(ba, .inl (cQ, Rb.length, .inr (.inr (.inr (.inr (qf (ad Rb))))))), (ta, .inl (cQ, Rt.length, .inr (.inr (.inr (.inr (qf (ad Rt))))))), (q_1, .inl (cI, 5, .inl (upd ks d9 (nI ((ctB (nI d9) (stB q) - cnN (isK (nI d9) (stB q)) (k1 + 1)) + 1))))), (s, .inr (4, [.int (nI (stI q)), .int (nI (stN q)), .int (stO q), .int (stV q), .int (nI (stG q)), .int (nI (stS q)), .int (stM q), .ref ba, .ref ta]))] ++ ((sT cI (Rb.map bq) (Rt.map tq)) ++ ((xA cI x a b f q) ++ ((xB cI b g q2) ++ [])))) H := hP
                  have hD : va_D A ([(ba, .inl (cQ, Rb.length, .inr (.inr (.inr (.inr (qf (ad Rb))))))), (ta, .inl (cQ, Rt.length, .inr (.inr (.inr (.inr (qf (ad Rt))))))), (q_1, .inl (cI, 5, .inl (upd ks d9 (nI ((ctB (nI d9) (stB q) - cnN (isK (nI d9) (stB q)) (k1 + 1)) + 1))))), (s, .inr (4, [.int (nI (stI q)), .int (nI (stN q)), .int (stO q), .int (stV q), .int (nI (stG q)), .int (nI (stS q)), .int (stM q), .ref ba, .ref ta]))] ++ ((sT cI (Rb.map bq) (Rt.map tq)) ++ ((xA cI x a b f q) ++ ((xB cI b g q2) ++ [])))) := hD
                  refine W.eq (g2 := F0 m 117 ls [.int r_47, .int r_46]) rfl ?_
                  refine W.widen (k := 1) (n := 5) (Nat.le_refl _) (Nat.le_refl _) ?_
                  refine lv_icmp_eq (tgt := 122) hx hb dX4_isSame_117 (by decide) (fun c_117 => ?_) (fun c_117 => ?_)
                  · skip
                    refine lv_iinc (v := nI k1 - nI 1) (lv' := [(4, .int (nI k1 - nI 1)), (3, .int (nI k1)), (0, .ref s), (1, .ref x), (2, .ref q_1)]) hx hb dX4_isSame_122 hl (k := 4) rfl (z_dec _) (by decide) rfl (fun ls hl => ?_)
                    refine lv_goto (tgt := 15) hx hb dX4_isSame_125 (by decide) ?_
                    exact ih k1 (nI k1) (upd ks d9 (nI ((ctB (nI d9) (stB q) - cnN (isK (nI d9) (stB q)) (k1 + 1)) + 1))) (by omega) (lgR_s hkB hb3 (by rw [e1, eb]; exact c_56)) (ksR_s hks hkB hd9 ed9) (by omega) _ _ (z_subP hP [3, 0, 1, 2] (rfl)) (z_subD hD [3, 0, 1, 2] (by decide) (rfl)) hS _ (lv_sub hl [2, 3, 4, 1, 0] (rfl))
                  · skip
                    exact absurd (tnR_eq hr_101 (by rw [e1]; exact hr_114)) c_117
  exact loop_2 (((stB q).length) + 1) ((stB q).length) (-1) (fun _ => 0) (Nat.le_refl _) (lgR_n _) (ksR_n _) (by omega) _ _ (z_subP hP [0, 1, 2, 3] (rfl)) (z_subD hD [0, 1, 2, 3] (by decide) (rfl)) hS _ (lv_sub hl [3, 4, 2, 1, 0] (rfl))

