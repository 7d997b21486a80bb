abbrev rm_X4_pass : Room := { frames := 1, cells := 25, slots := 246, locals := 25 }
set_option maxHeartbeats 4000000 in
set_option maxRecDepth 100000 in
theorem c_X4_pass (l : Launch) (D : va_G) (cI : ClassId) (cQ : ClassId) (s : Nat) (ba : Nat) (ta : Nat) (q : St) (Rb : List (Nat × Tp)) (Rt : List (Nat × Tk)) (hQ : rQ q Rb Rt) (hO : okS q) (hX : okX (stT q)) (hI : stI q < 1000000) : kM kri l yX4_pass wsX4_pass rm_X4_pass D [(cI, .int), (cQ, .array .int)] [.ref s] ([(s, .inr (4, [.int (nI (stI q)), .int (nI (stN q)), .int (stO q), .int (stV q), .int (nI (stG q)), .int (nI (stS q)), .int (stM q), .ref ba, .ref ta])), (ba, .inl (cQ, Rb.length, .inr (.inr (.inr (.inr (qf (ad Rb))))))), (ta, .inl (cQ, Rt.length, .inr (.inr (.inr (.inr (qf (ad Rt)))))))] ++ ((sT cI (Rb.map bq) (Rt.map tq)) ++ [])) (fun (r : Int32) (u : Nat × (List (Nat × Tp)) × (List (Nat × Tk))) => r = nI (ctT (stT q) - ctT (stT (mnt q))) ∧ rQ (mnt q) u.2.1 u.2.2) (fun (u : Nat × (List (Nat × Tp)) × (List (Nat × Tk))) => ([(s, .inr (4, [.int (nI (stI (mnt q))), .int (nI (stN (mnt q))), .int (stO (mnt q)), .int (stV (mnt q)), .int (nI (stG (mnt q))), .int (nI (stS (mnt q))), .int (stM (mnt q)), .ref u.1, .ref ta])), (u.1, .inl (cQ, u.2.1.length, .inr (.inr (.inr (.inr (qf (ad u.2.1))))))), (ta, .inl (cQ, u.2.2.length, .inr (.inr (.inr (.inr (qf (ad u.2.2)))))))] ++ ((sT cI (u.2.1.map bq) (u.2.2.map tq)) ++ []))) := by
  refine k_bodyI (cc := cX4_pass) (maxL := 8) (by decide) rfl (Nat.le_of_ble_eq_true rfl) ?_
  intro p e ss m args below meth c A Q F hname hA hG hK hP hD hS ret ls hl
  obtain ⟨hx, hb, hml, hown, hts⟩ := id F
  have hP : va_P D vwCl ([(s, .inr (4, [.int (nI (stI q)), .int (nI (stN q)), .int (stO q), .int (stV q), .int (nI (stG q)), .int (nI (stS q)), .int (stM q), .ref ba, .ref ta])), (ba, .inl (cQ, Rb.length, .inr (.inr (.inr (.inr (qf (ad Rb))))))), (ta, .inl (cQ, Rt.length, .inr (.inr (.inr (.inr (qf (ad Rt)))))))] ++ ((sT cI (Rb.map bq) (Rt.map tq)) ++ [])) ss.heap := hP
  have hD : va_D A ([(s, .inr (4, [.int (nI (stI q)), .int (nI (stN q)), .int (stO q), .int (stV q), .int (nI (stG q)), .int (nI (stS q)), .int (stM q), .ref ba, .ref ta])), (ba, .inl (cQ, Rb.length, .inr (.inr (.inr (.inr (qf (ad Rb))))))), (ta, .inl (cQ, Rt.length, .inr (.inr (.inr (.inr (qf (ad Rt)))))))] ++ ((sT cI (Rb.map bq) (Rt.map tq)) ++ [])) := hD
  have hl : lv_has ls 8 [(0, .ref s)] := hl
  have iX4 : ∀ w ∈ u_ws RX4 TX4 9, w ∈ wsX4_pass := by decide +kernel
  have f7 := hts (.fieldLink RX4 7 "SmallerTalkLaw$Sim" "gear" "I") (by decide +kernel)
  have f13 := hts (.fieldLink RX4 13 "SmallerTalkLaw$Sim" "stones" "I") (by decide +kernel)
  have f16 := hts (.fieldLink RX4 16 "SmallerTalkLaw$Sim" "mesh" "I") (by decide +kernel)
  have f21 := hts (.fieldLink RX4 21 "SmallerTalkLaw$Sim" "belt" "[[I") (by decide +kernel)
  have f25 := hts (.fieldLink RX4 25 "SmallerTalkLaw$Sim" "talkers" "[[I") (by decide +kernel)
  have f29 := hts (.fieldLink RX4 29 "SmallerTalkLaw$Sim" "minute" "I") (by decide +kernel)
  have f32 := hts (.fieldLink RX4 32 "SmallerTalkLaw$Sim" "nods" "I") (by decide +kernel)
  have f35 := hts (.fieldLink RX4 35 "SmallerTalkLaw$Sim" "bottles" "I") (by decide +kernel)
  have f38 := hts (.fieldLink RX4 38 "SmallerTalkLaw$Sim" "sieved" "I") (by decide +kernel)
  have hl12 : Rb.length ≤ 12 := by have := hO.2.1; rw [hQ.1, sn_len] at this; exact this
  have hl6 : Rt.length ≤ 6 := by have := hO.2.2.2.1; rw [hQ.2, sn_len] at this; exact this
  have o5 := hO.2.2.2.2.1
  have o6 := hO.2.2.2.2.2.1
  have o7 := hO.2.2.2.2.2.2
  have hz9 : ns (mB2 q) ≤ 1188 := ns_le (okB2 hO) (lenB2 hO)
  have hm1 := mN1_le hO
  refine lv_iconst (v := nI 0) hx hb dX4_pass_0 (by decide +kernel) ?_
  refine z_qnew hx hb hown (hts (.classLink RX4 19 "[I") (by decide +kernel)) hG.2.2.1.2.2.2.2.2.2.2.2 hK 1 rfl hP hD hS hA 0 rfl (by omega) (Nat.le_of_ble_eq_true rfl) (Nat.le_of_ble_eq_true rfl) dX4_pass_1 (fun q_1 H hP hD hS => ?_)
  have hP : va_P D vwCl ([(s, .inr (4, [.int (nI (stI q)), .int (nI (stN q)), .int (stO q), .int (stV q), .int (nI (stG q)), .int (nI (stS q)), .int (stM q), .ref ba, .ref ta])), (ba, .inl (cQ, Rb.length, .inr (.inr (.inr (.inr (qf (ad Rb))))))), (ta, .inl (cQ, Rt.length, .inr (.inr (.inr (.inr (qf (ad Rt))))))), (q_1, .inl (cQ, 0, .inr (.inr (.inr (.inr (fun _ => none))))))] ++ ((sT cI (Rb.map bq) (Rt.map tq)) ++ [])) H := hP
  have hD : va_D A ([(s, .inr (4, [.int (nI (stI q)), .int (nI (stN q)), .int (stO q), .int (stV q), .int (nI (stG q)), .int (nI (stS q)), .int (stM q), .ref ba, .ref ta])), (ba, .inl (cQ, Rb.length, .inr (.inr (.inr (.inr (qf (ad Rb))))))), (ta, .inl (cQ, Rt.length, .inr (.inr (.inr (.inr (qf (ad Rt))))))), (q_1, .inl (cQ, 0, .inr (.inr (.inr (.inr (fun _ => none))))))] ++ ((sT cI (Rb.map bq) (Rt.map tq)) ++ [])) := hD
  refine lv_astore_n (lv' := [(1, .ref q_1), (0, .ref s)]) hx hb dX4_pass_4 rfl hl (by decide) rfl (fun ls hl => ?_)
  refine lv_iconst (v := nI 0) hx hb dX4_pass_5 (by decide +kernel) ?_
  refine lv_istore_n (lv' := [(2, .int (nI 0)), (1, .ref q_1), (0, .ref s)]) hx hb dX4_pass_6 rfl hl (by decide) rfl (fun ls hl => ?_)
  have loop_2 : ∀ (n : Nat) (cl sl : Nat) (i : Nat) (qm : Nat) (RB : List Rw), (i ≤ Rb.length) → (cl ≤ 1 + i ∧ sl ≤ 13 * i) → (grd (stS q) (stG q) Rb RB i) → Rb.length - i < n → ∀ (H : Heap) (locs : List Loc), va_P D vwCl ([(s, .inr (4, [.int (nI (stI q)), .int (nI (stN q + (i - (gnN (stS q) (stG q) Rb i).length))), .int (stO q), .int (stV q + nI ((gnN (stS q) (stG q) Rb i).length - (lfN (stS q) (stG q) (stM q) Rb i).length)), .int (nI (stG q)), .int (nI (stS q)), .int (stM q), .ref ba, .ref ta])), (ba, .inl (cQ, Rb.length, .inr (.inr (.inr (.inr (qf (ad Rb))))))), (ta, .inl (cQ, Rt.length, .inr (.inr (.inr (.inr (qf (ad Rt))))))), (qm, .inl (cQ, (lfN (stS q) (stG q) (stM q) Rb i).length, .inr (.inr (.inr (.inr (qf (ad (lfN (stS q) (stG q) (stM q) Rb i))))))))] ++ ((sT cI RB (Rt.map tq)) ++ [])) H → va_D A ([(s, .inr (4, [.int (nI (stI q)), .int (nI (stN q + (i - (gnN (stS q) (stG q) Rb i).length))), .int (stO q), .int (stV q + nI ((gnN (stS q) (stG q) Rb i).length - (lfN (stS q) (stG q) (stM q) Rb i).length)), .int (nI (stG q)), .int (nI (stS q)), .int (stM q), .ref ba, .ref ta])), (ba, .inl (cQ, Rb.length, .inr (.inr (.inr (.inr (qf (ad Rb))))))), (ta, .inl (cQ, Rt.length, .inr (.inr (.inr (.inr (qf (ad Rt))))))), (qm, .inl (cQ, (lfN (stS q) (stG q) (stM q) Rb i).length, .inr (.inr (.inr (.inr (qf (ad (lfN (stS q) (stG q) (stM q) Rb i))))))))] ++ ((sT cI RB (Rt.map tq)) ++ [])) → va_S A ss.heap H locs → ∀ ls : Array Slot, lv_has ls 8 [(0, .ref s), (1, .ref qm), (2, .int (nI i))] → W p l e rm_X4_pass ss m args below meth c H locs cl sl Q (F0 m 7 ls []) := by
    intro n
    induction n with
    | zero => intro cl sl i qm RB hi hc9 hg hn; exact absurd hn (by omega)
    | succ n ih =>
      intro cl sl i qm RB hi hc9 hg hn H locs hP hD hS ls hl
      refine lv_iload_n hx hb dX4_pass_7 rfl (lv_at hl 2 rfl) ?_
      refine lv_aload_n hx hb dX4_pass_8 rfl (lv_at hl 0 rfl) ?_
      refine va_get (D := D) (ci := 4) (v := .ref ba) (C := RX4) (T := TX4) (N := 9) hx hb hts iX4 hown hK hP 0 rfl rfl 7 (by decide) f21 (fun _ h9 => h9) rfl dX4_pass_9 ?_
      refine va_alen hx hb hK hP 1 1 rfl rfl (v := nI Rb.length) rfl dX4_pass_12 ?_
      refine k_cmp_ge (tgt := 103) hx hb i Rb.length rfl rfl (by omega) (by omega) dX4_pass_13 (by decide) (fun c_13 => ?_) (fun c_13 => ?_)
      · skip
        obtain rfl : i = Rb.length := by omega
        refine lv_aload_n hx hb dX4_pass_103 rfl (lv_at hl 0 rfl) ?_
        refine lv_aload_n hx hb dX4_pass_104 rfl (lv_at hl 1 rfl) ?_
        refine va_put (D := D) (ci := 4) (v := .ref qm) (ty := (.array (.array .int))) (C := RX4) (T := TX4) (N := 9) hx hb hts iX4 tyX4 tyX4_ok nmX4 hown hK hP hD hS 0 rfl rfl 7 (by decide) f21 (fun _ h9 => h9) rfl (by decide +kernel) rfl rfl (Nat.le_of_ble_eq_true rfl) dX4_pass_105 (fun H locs hP hD hS => ?_)
        have hP : va_P D vwCl ([(s, .inr (4, [.int (nI (stI q)), .int (nI (stN q + (Rb.length - (gnN (stS q) (stG q) Rb Rb.length).length))), .int (stO q), .int (stV q + nI ((gnN (stS q) (stG q) Rb Rb.length).length - (lfN (stS q) (stG q) (stM q) Rb Rb.length).length)), .int (nI (stG q)), .int (nI (stS q)), .int (stM q), .ref qm, .ref ta])), (ba, .inl (cQ, Rb.length, .inr (.inr (.inr (.inr (qf (ad Rb))))))), (ta, .inl (cQ, Rt.length, .inr (.inr (.inr (.inr (qf (ad Rt))))))), (qm, .inl (cQ, (lfN (stS q) (stG q) (stM q) Rb Rb.length).length, .inr (.inr (.inr (.inr (qf (ad (lfN (stS q) (stG q) (stM q) Rb Rb.length))))))))] ++ ((sT cI RB (Rt.map tq)) ++ [])) H := hP
        have hD : va_D A ([(s, .inr (4, [.int (nI (stI q)), .int (nI (stN q + (Rb.length - (gnN (stS q) (stG q) Rb Rb.length).length))), .int (stO q), .int (stV q + nI ((gnN (stS q) (stG q) Rb Rb.length).length - (lfN (stS q) (stG q) (stM q) Rb Rb.length).length)), .int (nI (stG q)), .int (nI (stS q)), .int (stM q), .ref qm, .ref ta])), (ba, .inl (cQ, Rb.length, .inr (.inr (.inr (.inr (qf (ad Rb))))))), (ta, .inl (cQ, Rt.length, .inr (.inr (.inr (.inr (qf (ad Rt))))))), (qm, .inl (cQ, (lfN (stS q) (stG q) (stM q) Rb Rb.length).length, .inr (.inr (.inr (.inr (qf (ad (lfN (stS q) (stG q) (stM q) Rb Rb.length))))))))] ++ ((sT cI RB (Rt.map tq)) ++ [])) := hD
        have loop_3 : ∀ (n : Nat) (k : Nat), (6 * k ≤ mN1 q) → mN1 q - 6 * k < n → ∀ (H : Heap) (locs : List Loc), va_P D vwCl ([(s, .inr (4, [.int (nI (stI q)), .int (nI (mN1 q - 6 * k)), .int (stO q + nI k), .int (stV q + nI ((mB1 q).length - (mB2 q).length)), .int (nI (stG q)), .int (nI (stS q)), .int (stM q), .ref qm, .ref ta])), (qm, .inl (cQ, (lfN (stS q) (stG q) (stM q) Rb Rb.length).length, .inr (.inr (.inr (.inr (qf (ad (lfN (stS q) (stG q) (stM q) Rb Rb.length)))))))), (ta, .inl (cQ, Rt.length, .inr (.inr (.inr (.inr (qf (ad Rt)))))))] ++ ((sT cI ((lfN (stS q) (stG q) (stM q) Rb Rb.length).map bq) (Rt.map tq)) ++ [])) H → va_D A ([(s, .inr (4, [.int (nI (stI q)), .int (nI (mN1 q - 6 * k)), .int (stO q + nI k), .int (stV q + nI ((mB1 q).length - (mB2 q).length)), .int (nI (stG q)), .int (nI (stS q)), .int (stM q), .ref qm, .ref ta])), (qm, .inl (cQ, (lfN (stS q) (stG q) (stM q) Rb Rb.length).length, .inr (.inr (.inr (.inr (qf (ad (lfN (stS q) (stG q) (stM q) Rb Rb.length)))))))), (ta, .inl (cQ, Rt.length, .inr (.inr (.inr (.inr (qf (ad Rt)))))))] ++ ((sT cI ((lfN (stS q) (stG q) (stM q) Rb Rb.length).map bq) (Rt.map tq)) ++ [])) → va_S A ss.heap H locs → ∀ ls : Array Slot, lv_has ls 8 [(0, .ref s)] → W p l e rm_X4_pass ss m args below meth c H locs cl sl Q (F0 m 108 ls []) := by
          intro n
          induction n with
          | zero => intro k hk hn; exact absurd hn (by omega)
          | succ n ih =>
            intro k hk hn H locs hP hD hS ls hl
            refine lv_aload_n hx hb dX4_pass_108 rfl (lv_at hl 0 rfl) ?_
            refine va_get (D := D) (ci := 4) (v := .int (nI (mN1 q - 6 * k))) (C := RX4) (T := TX4) (N := 9) hx hb hts iX4 hown hK hP 0 rfl rfl 1 (by decide) f32 (fun _ h9 => h9) rfl dX4_pass_109 ?_
            refine lv_iconst (v := nI 5) hx hb dX4_pass_112 (by decide +kernel) ?_
            refine k_cmp_le (tgt := 140) hx hb (mN1 q - 6 * k) 5 rfl rfl (by omega) (by omega) dX4_pass_113 (by decide) (fun c_113 => ?_) (fun c_113 => ?_)
            · skip
              obtain rfl : k = mN1 q / 6 := by omega
              have e6 : mN1 q - 6 * (mN1 q / 6) = mN1 q % 6 := by omega
              rw [e6] at hP hD
              refine lv_aload_n hx hb dX4_pass_140 rfl (lv_at hl 0 rfl) ?_
              refine kz_callV (As := []) (rest := []) (wp := [(s, .inr (4, [.int (nI (stI q)), .int (nI (mN1 q % 6)), .int (stO q + nI (mN1 q / 6)), .int (stV q + nI ((mB1 q).length - (mB2 q).length)), .int (nI (stG q)), .int (nI (stS q)), .int (stM q), .ref qm, .ref ta])), (qm, .inl (cQ, (lfN (stS q) (stG q) (stM q) Rb Rb.length).length, .inr (.inr (.inr (.inr (qf (ad (lfN (stS q) (stG q) (stM q) Rb Rb.length)))))))), (ta, .inl (cQ, Rt.length, .inr (.inr (.inr (.inr (qf (ad Rt)))))))]) (wc := [(s, .inr (4, [.int (nI (stI q)), .int (nI (mN1 q % 6)), .int (stO q + nI (mN1 q / 6)), .int (stV q + nI ((mB1 q).length - (mB2 q).length)), .int (nI (stG q)), .int (nI (stS q)), .int (stM q), .ref qm, .ref ta])), (qm, .inl (cQ, (lfN (stS q) (stG q) (stM q) Rb Rb.length).length, .inr (.inr (.inr (.inr (qf (ad (lfN (stS q) (stG q) (stM q) Rb Rb.length))))))))]) (wr := [(ta, .inl (cQ, Rt.length, .inr (.inr (.inr (.inr (qf (ad Rt)))))))]) (Z := ((sT cI ((lfN (stS q) (stG q) (stM q) Rb Rb.length).map bq) (Rt.map tq)) ++ [])) (X0 := sT cI ((lfN (stS q) (stG q) (stM q) Rb Rb.length).map bq) (Rt.map tq)) (Y := []) (wc1 := (fun (u : Unit) => [(s, .inr (4, [.int (nI (stI q)), .int (nI (mN1 q % 6)), .int (stO q + nI (mN1 q / 6)), .int (stV q + nI ((mB1 q).length - (mB2 q).length)), .int (nI (stG q)), .int (nI (stS q)), .int (stM q), .ref qm, .ref ta])), (qm, .inl (cQ, (lfN (stS q) (stG q) (stM q) Rb Rb.length).length, .inr (.inr (.inr (.inr (qf (ad (lfN (stS q) (stG q) (stM q) Rb Rb.length))))))))])) (X1 := (fun (u : Unit) => sT cI ((lfN (stS q) (stG q) (stM q) Rb Rb.length).map bq) (Rt.map tq))) F (c_X4_noise l D cI cQ s qm ta (nI (stI q)) (nI (mN1 q % 6)) (stO q + nI (mN1 q / 6)) (stV q + nI ((mB1 q).length - (mB2 q).length)) (nI (stG q)) (nI (stS q)) (stM q) (lfN (stS q) (stG q) (stM q) Rb Rb.length) Rt (by have := lf_le (stS q) (stG q) (stM q) Rb Rb.length; have := gn_le (stS q) (stG q) Rb Rb.length; omega)) gX4_pass_X4_noise rfl (nA := 0) (by decide +kernel) rfl ⟨Nat.le_of_ble_eq_true rfl, Nat.le_of_ble_eq_true rfl⟩ hK hP hD hS hA hG (ci := 4) (q0 := 0) rfl rfl rfl [0, 1] [2] rfl (by decide) (List.Perm.refl _) (by rw [List.append_nil]) (fun u => by simp only [List.append_nil]) [0, 1] rfl rfl hl.1 (Nat.le_of_ble_eq_true rfl) dX4_pass_141 ⟨(show cl + 0 ≤ 25 by omega), (show sl + 0 ≤ 246 by omega)⟩ (fun r_4 u H locs hr_141 hP hD hS => ?_)
              try dsimp only at hr_141
              have hP : va_P D vwCl ([(ta, .inl (cQ, Rt.length, .inr (.inr (.inr (.inr (qf (ad Rt))))))), (s, .inr (4, [.int (nI (stI q)), .int (nI (mN1 q % 6)), .int (stO q + nI (mN1 q / 6)), .int (stV q + nI ((mB1 q).length - (mB2 q).length)), .int (nI (stG q)), .int (nI (stS q)), .int (stM q), .ref qm, .ref ta])), (qm, .inl (cQ, (lfN (stS q) (stG q) (stM q) Rb Rb.length).length, .inr (.inr (.inr (.inr (qf (ad (lfN (stS q) (stG q) (stM q) Rb Rb.length))))))))] ++ ((sT cI ((lfN (stS q) (stG q) (stM q) Rb Rb.length).map bq) (Rt.map tq)) ++ [])) H := hP
              have hD : va_D A ([(ta, .inl (cQ, Rt.length, .inr (.inr (.inr (.inr (qf (ad Rt))))))), (s, .inr (4, [.int (nI (stI q)), .int (nI (mN1 q % 6)), .int (stO q + nI (mN1 q / 6)), .int (stV q + nI ((mB1 q).length - (mB2 q).length)), .int (nI (stG q)), .int (nI (stS q)), .int (stM q), .ref qm, .ref ta])), (qm, .inl (cQ, (lfN (stS q) (stG q) (stM q) Rb Rb.length).length, .inr (.inr (.inr (.inr (qf (ad (lfN (stS q) (stG q) (stM q) Rb Rb.length))))))))] ++ ((sT cI ((lfN (stS q) (stG q) (stM q) Rb Rb.length).map bq) (Rt.map tq)) ++ [])) := hD
              refine W.eq (g2 := F0 m 144 ls [.int r_4]) rfl ?_
              refine W.widen (k := cl) (n := sl) (Nat.le_refl _) (Nat.le_refl _) ?_
              refine k_top (v := nI (ns (mB2 q))) (hr_141.trans (by rw [lf_B2 hQ.1])) ?_
              refine lv_istore_n (lv' := [(2, .int (nI (ns (mB2 q)))), (0, .ref s)]) hx hb dX4_pass_144 rfl hl (by decide) rfl (fun ls hl => ?_)
              refine lv_iconst (v := nI 0) hx hb dX4_pass_145 (by decide +kernel) ?_
              refine lv_istore_n (lv' := [(3, .int (nI 0)), (2, .int (nI (ns (mB2 q)))), (0, .ref s)]) hx hb dX4_pass_146 rfl hl (by decide) rfl (fun ls hl => ?_)
              refine lv_aload_n hx hb dX4_pass_147 rfl (lv_at hl 2 rfl) ?_
              refine va_get (D := D) (ci := 4) (v := .ref ta) (C := RX4) (T := TX4) (N := 9) hx hb hts iX4 hown hK hP 1 rfl rfl 8 (by decide) f25 (fun _ h9 => h9) rfl dX4_pass_148 ?_
              refine lv_astore (lv' := [(4, .ref ta), (3, .int (nI 0)), (2, .int (nI (ns (mB2 q)))), (0, .ref s)]) hx hb dX4_pass_151 hl (by decide) rfl (fun ls hl => ?_)
              refine lv_aload hx hb dX4_pass_153 (lv_at hl 0 rfl) ?_
              refine va_alen hx hb hK hP 0 1 rfl rfl (v := nI Rt.length) rfl dX4_pass_155 ?_
              refine lv_istore (lv' := [(5, .int (nI Rt.length)), (4, .ref ta), (3, .int (nI 0)), (2, .int (nI (ns (mB2 q)))), (0, .ref s)]) hx hb dX4_pass_156 hl (by decide) rfl (fun ls hl => ?_)
              refine lv_iconst (v := nI 0) hx hb dX4_pass_158 (by decide +kernel) ?_
              refine lv_istore (lv' := [(6, .int (nI 0)), (5, .int (nI Rt.length)), (4, .ref ta), (3, .int (nI 0)), (2, .int (nI (ns (mB2 q)))), (0, .ref s)]) hx hb dX4_pass_159 hl (by decide) rfl (fun ls hl => ?_)
              have loop_5 : ∀ (n : Nat) (i : Nat) (RT : List Rw), (i ≤ Rt.length) → (hrd (ns (mB2 q)) (stI q) Rt RT i) → Rt.length - i < n → ∀ (H : Heap) (locs : List Loc), va_P D vwCl ([(s, .inr (4, [.int (nI (stI q)), .int (nI (mN1 q % 6)), .int (stO q + nI (mN1 q / 6)), .int (stV q + nI ((mB1 q).length - (mB2 q).length)), .int (nI (stG q)), .int (nI (stS q)), .int (stM q), .ref qm, .ref ta])), (qm, .inl (cQ, (lfN (stS q) (stG q) (stM q) Rb Rb.length).length, .inr (.inr (.inr (.inr (qf (ad (lfN (stS q) (stG q) (stM q) Rb Rb.length)))))))), (ta, .inl (cQ, Rt.length, .inr (.inr (.inr (.inr (qf (ad Rt)))))))] ++ ((sT cI ((lfN (stS q) (stG q) (stM q) Rb Rb.length).map bq) RT) ++ [])) H → va_D A ([(s, .inr (4, [.int (nI (stI q)), .int (nI (mN1 q % 6)), .int (stO q + nI (mN1 q / 6)), .int (stV q + nI ((mB1 q).length - (mB2 q).length)), .int (nI (stG q)), .int (nI (stS q)), .int (stM q), .ref qm, .ref ta])), (qm, .inl (cQ, (lfN (stS q) (stG q) (stM q) Rb Rb.length).length, .inr (.inr (.inr (.inr (qf (ad (lfN (stS q) (stG q) (stM q) Rb Rb.length)))))))), (ta, .inl (cQ, Rt.length, .inr (.inr (.inr (.inr (qf (ad Rt)))))))] ++ ((sT cI ((lfN (stS q) (stG q) (stM q) Rb Rb.length).map bq) RT) ++ [])) → va_S A ss.heap H locs → ∀ ls : Array Slot, lv_has ls 8 [(0, .ref s), (2, .int (nI (ns (mB2 q)))), (3, .int (nI (cnN (isT (stT q)) i - cnN (isT (mT q)) i))), (4, .ref ta), (5, .int (nI Rt.length)), (6, .int (nI i))] → W p l e rm_X4_pass ss m args below meth c H locs cl sl Q (F0 m 161 ls []) := by
                intro n
                induction n with
                | zero => intro i RT hi hr3 hn; exact absurd hn (by omega)
                | succ n ih =>
                  intro i RT hi hr3 hn H locs hP hD hS ls hl
                  refine lv_iload hx hb dX4_pass_161 (lv_at hl 5 rfl) ?_
                  refine lv_iload hx hb dX4_pass_163 (lv_at hl 4 rfl) ?_
                  refine k_cmp_ge (tgt := 258) hx hb i Rt.length rfl rfl (by omega) (by omega) dX4_pass_165 (by decide) (fun c_165 => ?_) (fun c_165 => ?_)
                  · skip
                    obtain rfl : i = Rt.length := by omega
                    have eRT := hrd_e hr3
                    subst eRT
                    have hql : (hrQ (ns (mB2 q)) (stI q) Rt).length = Rt.length := hrQ_len _ _ _
                    have hTq : (stT q).length = Rt.length := by rw [hQ.2, sn_len]
                    have hTm : (mT q).length = Rt.length := (hrT_len _ _ _).trans hTq
                    have eC : cnN (isT (stT q)) Rt.length - cnN (isT (mT q)) Rt.length = ctT (stT q) - ctT (mT q) := by rw [ctT, ctT, hTq, hTm]
                    have eT4 : mT q = sn (hrQ (ns (mB2 q)) (stI q) Rt) := by rw [hrQ_sn, ← hQ.2]; rfl
                    have hX4 : okX (mT q) := okX_mnt hX (by omega)
                    have hO4 : okT (mT q) := okT_hr hO.2.2.1
                    refine lv_aload_n hx hb dX4_pass_258 rfl (lv_at hl 0 rfl) ?_
                    refine va_get (D := D) (ci := 4) (v := .ref ta) (C := RX4) (T := TX4) (N := 9) hx hb hts iX4 hown hK hP 0 rfl rfl 8 (by decide) f25 (fun _ h9 => h9) rfl dX4_pass_259 ?_
                    refine lv_astore (lv' := [(4, .ref ta), (0, .ref s), (2, .int (nI (ns (mB2 q)))), (3, .int (nI (cnN (isT (stT q)) Rt.length - cnN (isT (mT q)) Rt.length))), (5, .int (nI Rt.length)), (6, .int (nI Rt.length))]) hx hb dX4_pass_262 hl (by decide) rfl (fun ls hl => ?_)
                    refine lv_aload hx hb dX4_pass_264 (lv_at hl 0 rfl) ?_
                    refine va_alen hx hb hK hP 2 1 rfl rfl (v := nI Rt.length) rfl dX4_pass_266 ?_
                    refine lv_istore (lv' := [(5, .int (nI Rt.length)), (4, .ref ta), (0, .ref s), (2, .int (nI (ns (mB2 q)))), (3, .int (nI (cnN (isT (stT q)) Rt.length - cnN (isT (mT q)) Rt.length))), (6, .int (nI Rt.length))]) hx hb dX4_pass_267 hl (by decide) rfl (fun ls hl => ?_)
                    refine lv_iconst (v := nI 0) hx hb dX4_pass_269 (by decide +kernel) ?_
                    refine lv_istore (lv' := [(6, .int (nI 0)), (5, .int (nI Rt.length)), (4, .ref ta), (0, .ref s), (2, .int (nI (ns (mB2 q)))), (3, .int (nI (cnN (isT (stT q)) Rt.length - cnN (isT (mT q)) Rt.length)))]) hx hb dX4_pass_270 hl (by decide) rfl (fun ls hl => ?_)
                    have loop_6 : ∀ (n : Nat) (cl sl : Nat) (i : Nat) (b4 : Nat) (R4 : List (Nat × Tp)), (i ≤ Rt.length) → (cl ≤ 13 + 2 * i ∧ sl ≤ 156 + 15 * i) → (sn R4 = skN (mT q) (stI q) (mB2 q) i) → Rt.length - i < n → ∀ (H : Heap) (locs : List Loc), va_P D vwCl ([(s, .inr (4, [.int (nI (stI q)), .int (nI (mN1 q % 6)), .int (stO q + nI (mN1 q / 6)), .int (stV q + nI ((mB1 q).length - (mB2 q).length)), .int (nI (stG q)), .int (nI (stS q)), .int (stM q), .ref b4, .ref ta])), (b4, .inl (cQ, R4.length, .inr (.inr (.inr (.inr (qf (ad R4))))))), (ta, .inl (cQ, (hrQ (ns (mB2 q)) (stI q) Rt).length, .inr (.inr (.inr (.inr (qf (ad (hrQ (ns (mB2 q)) (stI q) Rt))))))))] ++ ((sT cI (R4.map bq) ((hrQ (ns (mB2 q)) (stI q) Rt).map tq)) ++ [])) H → va_D A ([(s, .inr (4, [.int (nI (stI q)), .int (nI (mN1 q % 6)), .int (stO q + nI (mN1 q / 6)), .int (stV q + nI ((mB1 q).length - (mB2 q).length)), .int (nI (stG q)), .int (nI (stS q)), .int (stM q), .ref b4, .ref ta])), (b4, .inl (cQ, R4.length, .inr (.inr (.inr (.inr (qf (ad R4))))))), (ta, .inl (cQ, (hrQ (ns (mB2 q)) (stI q) Rt).length, .inr (.inr (.inr (.inr (qf (ad (hrQ (ns (mB2 q)) (stI q) Rt))))))))] ++ ((sT cI (R4.map bq) ((hrQ (ns (mB2 q)) (stI q) Rt).map tq)) ++ [])) → va_S A ss.heap H locs → ∀ ls : Array Slot, lv_has ls 8 [(0, .ref s), (3, .int (nI (ctT (stT q) - ctT (mT q)))), (4, .ref ta), (5, .int (nI Rt.length)), (6, .int (nI i))] → W p l e rm_X4_pass ss m args below meth c H locs cl sl Q (F0 m 272 ls []) := by
                      intro n
                      induction n with
                      | zero => intro cl sl i b4 R4 hi hc9 h4 hn; exact absurd hn (by omega)
                      | succ n ih =>
                        intro cl sl i b4 R4 hi hc9 h4 hn H locs hP hD hS ls hl
                        have h412 : R4.length ≤ 12 := by have := (skN_ok (mi := stI q) (okB2 hO) (lenB2 hO) hO4 i (by omega)).2; rw [← h4, sn_len] at this; exact this
                        refine lv_iload hx hb dX4_pass_272 (lv_at hl 4 rfl) ?_
                        refine lv_iload hx hb dX4_pass_274 (lv_at hl 3 rfl) ?_
                        refine k_cmp_ge (tgt := 349) hx hb i Rt.length rfl rfl (by omega) (by omega) dX4_pass_276 (by decide) (fun c_276 => ?_) (fun c_276 => ?_)
                        · skip
                          obtain rfl : i = Rt.length := by omega
                          refine lv_aload_n hx hb dX4_pass_349 rfl (lv_at hl 0 rfl) ?_
                          refine lv_dup hx hb dX4_pass_350 rfl ?_
                          refine va_get (D := D) (ci := 4) (v := .int (nI (stI q))) (C := RX4) (T := TX4) (N := 9) hx hb hts iX4 hown hK hP 0 rfl rfl 0 (by decide) f29 (fun _ h9 => h9) rfl dX4_pass_351 ?_
                          refine lv_iconst (v := nI 1) hx hb dX4_pass_354 (by decide +kernel) ?_
                          refine k_iadd hx hb (nI (stI q + 1)) (nI_add _ _) dX4_pass_355 ?_
                          refine va_put (D := D) (ci := 4) (v := .int (nI (stI q + 1))) (ty := .int) (C := RX4) (T := TX4) (N := 9) hx hb hts iX4 tyX4 tyX4_ok nmX4 hown hK hP hD hS 0 rfl rfl 0 (by decide) f29 (fun _ h9 => h9) rfl (by decide +kernel) rfl rfl (Nat.le_of_ble_eq_true rfl) dX4_pass_356 (fun H locs hP hD hS => ?_)
                          have hP : va_P D vwCl ([(s, .inr (4, [.int (nI (stI q + 1)), .int (nI (mN1 q % 6)), .int (stO q + nI (mN1 q / 6)), .int (stV q + nI ((mB1 q).length - (mB2 q).length)), .int (nI (stG q)), .int (nI (stS q)), .int (stM q), .ref b4, .ref ta])), (b4, .inl (cQ, R4.length, .inr (.inr (.inr (.inr (qf (ad R4))))))), (ta, .inl (cQ, (hrQ (ns (mB2 q)) (stI q) Rt).length, .inr (.inr (.inr (.inr (qf (ad (hrQ (ns (mB2 q)) (stI q) Rt))))))))] ++ ((sT cI (R4.map bq) ((hrQ (ns (mB2 q)) (stI q) Rt).map tq)) ++ [])) H := hP
                          have hD : va_D A ([(s, .inr (4, [.int (nI (stI q + 1)), .int (nI (mN1 q % 6)), .int (stO q + nI (mN1 q / 6)), .int (stV q + nI ((mB1 q).length - (mB2 q).length)), .int (nI (stG q)), .int (nI (stS q)), .int (stM q), .ref b4, .ref ta])), (b4, .inl (cQ, R4.length, .inr (.inr (.inr (.inr (qf (ad R4))))))), (ta, .inl (cQ, (hrQ (ns (mB2 q)) (stI q) Rt).length, .inr (.inr (.inr (.inr (qf (ad (hrQ (ns (mB2 q)) (stI q) Rt))))))))] ++ ((sT cI (R4.map bq) ((hrQ (ns (mB2 q)) (stI q) Rt).map tq)) ++ [])) := hD
                          refine lv_iload_n hx hb dX4_pass_359 rfl (lv_at hl 1 rfl) ?_
                          exact ret (nI (ctT (stT q) - ctT (mT q))) ⟨b4, R4, (hrQ (ns (mB2 q)) (stI q) Rt)⟩ _ _ _ _ _ _ (⟨rfl, by show mB3 q = _; rw [mB3, sk, hTm, h4], eT4⟩) (z_subP hP [0, 1, 2] (rfl)) (z_subD hD [0, 1, 2] (by decide) (rfl)) hS ((show cl ≤ 25 by omega)) ((show sl ≤ 246 by omega)) dX4_pass_360
                        · skip
                          have h4i : i < (hrQ (ns (mB2 q)) (stI q) Rt).length := by rw [hrQ_len]; exact c_276
                          have eI : (mT q).getD i tk0 = ((hrQ (ns (mB2 q)) (stI q) Rt).getD i td).2 := by rw [eT4]; exact sn_gdT _ i
                          have hTl4 : i < (mT q).length := by omega
                          have h4k : okK ((hrQ (ns (mB2 q)) (stI q) Rt).getD i td).2 := by rw [← eI]; exact hO4 i hTl4
                          refine lv_aload hx hb dX4_pass_279 (lv_at hl 2 rfl) ?_
                          refine lv_iload hx hb dX4_pass_281 (lv_at hl 4 rfl) ?_
                          refine z_qld hx hb hK hP 2 1 rfl rfl i rfl (h4i) (by omega) (((hrQ (ns (mB2 q)) (stI q) Rt).getD i td).1) (ad_q h4i) dX4_pass_283 ?_
                          refine lv_astore (lv' := [(7, .ref (((hrQ (ns (mB2 q)) (stI q) Rt).getD i td).1)), (0, .ref s), (3, .int (nI (ctT (stT q) - ctT (mT q)))), (4, .ref ta), (5, .int (nI Rt.length)), (6, .int (nI i))]) hx hb dX4_pass_284 hl (by decide) rfl (fun ls hl => ?_)
                          refine lv_aload hx hb dX4_pass_286 (lv_at hl 0 rfl) ?_
                          refine lv_iconst (v := nI 1) hx hb dX4_pass_288 (by decide +kernel) ?_
                          refine z_tld hx hb hK hP 0 rfl i (mp_len h4i) (tq_1 h4i) 1 rfl (by decide) (tkX ((hrQ (ns (mB2 q)) (stI q) Rt).getD i td).2) (tq_x h4i) dX4_pass_289 ?_
                          refine lv_if_ge (tgt := 343) hx hb dX4_pass_290 (by decide) (fun c_290 => ?_) (fun c_290 => ?_)
                          · skip
                            refine lv_iinc (v := nI (i + 1)) (lv' := [(6, .int (nI (i + 1))), (7, .ref (((hrQ (ns (mB2 q)) (stI q) Rt).getD i td).1)), (0, .ref s), (3, .int (nI (ctT (stT q) - ctT (mT q)))), (4, .ref ta), (5, .int (nI Rt.length))]) hx hb dX4_pass_343 hl (k := 5) rfl (nI_1 _) (by decide) rfl (fun ls hl => ?_)
                            refine lv_goto (tgt := 272) hx hb dX4_pass_346 (by decide) ?_
                            have es := sk_f1 (T := mT q) (mi := stI q) (L := mB2 q) (i := i) (by rw [eI]; exact fun e => by rw [e] at c_290; exact absurd c_290 (by decide))
                            exact ih cl sl (i + 1) b4 R4 (by omega) (by omega) (h4.trans es.symm) (by omega) _ _ (z_subP hP [0, 1, 2] (rfl)) (z_subD hD [0, 1, 2] (by decide) (rfl)) hS _ (lv_sub hl [2, 3, 4, 5, 0] (rfl))
                          · skip
                            have h4y : tkX ((hrQ (ns (mB2 q)) (stI q) Rt).getD i td).2 = -1 := by rw [← eI]; exact okX_y hX4 hTl4 (by rw [eI]; exact Int32.not_le.mp c_290)
                            refine lv_aload_n hx hb dX4_pass_293 rfl (lv_at hl 1 rfl) ?_
                            refine va_get (D := D) (ci := 4) (v := .int (nI (stI q))) (C := RX4) (T := TX4) (N := 9) hx hb hts iX4 hown hK hP 0 rfl rfl 0 (by decide) f29 (fun _ h9 => h9) rfl dX4_pass_294 ?_
                            refine lv_aload hx hb dX4_pass_297 (lv_at hl 0 rfl) ?_
                            refine lv_iconst (v := nI 4) hx hb dX4_pass_299 (by decide +kernel) ?_
                            refine z_tld hx hb hK hP 0 rfl i (mp_len h4i) (tq_1 h4i) 4 rfl (by decide) (tkE ((hrQ (ns (mB2 q)) (stI q) Rt).getD i td).2) (tq_e h4i) dX4_pass_300 ?_
                            refine k_irem hx hb (nI (stI q) - nI (stI q) / tkE ((hrQ (ns (mB2 q)) (stI q) Rt).getD i td).2 * tkE ((hrQ (ns (mB2 q)) (stI q) Rt).getD i td).2) (h4k.2.2.1) (rfl) dX4_pass_301 ?_
                            refine lv_if_ne (tgt := 343) hx hb dX4_pass_302 (by decide) (fun c_302 => ?_) (fun c_302 => ?_)
                            · skip
                              refine lv_iinc (v := nI (i + 1)) (lv' := [(6, .int (nI (i + 1))), (7, .ref (((hrQ (ns (mB2 q)) (stI q) Rt).getD i td).1)), (0, .ref s), (3, .int (nI (ctT (stT q) - ctT (mT q)))), (4, .ref ta), (5, .int (nI Rt.length))]) hx hb dX4_pass_343 hl (k := 5) rfl (nI_1 _) (by decide) rfl (fun ls hl => ?_)
                              refine lv_goto (tgt := 272) hx hb dX4_pass_346 (by decide) ?_
                              have es := sk_f2 (mi := stI q) (L := mB2 q) (i := i) (T := mT q) (by rw [eI]; exact c_302)
                              exact ih cl sl (i + 1) b4 R4 (by omega) (by omega) (h4.trans es.symm) (by omega) _ _ (z_subP hP [0, 1, 2] (rfl)) (z_subD hD [0, 1, 2] (by decide) (rfl)) hS _ (lv_sub hl [2, 3, 4, 5, 0] (rfl))
                            · skip
                              refine lv_aload_n hx hb dX4_pass_305 rfl (lv_at hl 1 rfl) ?_
                              refine va_get (D := D) (ci := 4) (v := .ref b4) (C := RX4) (T := TX4) (N := 9) hx hb hts iX4 hown hK hP 0 rfl rfl 7 (by decide) f21 (fun _ h9 => h9) rfl dX4_pass_306 ?_
                              refine va_alen hx hb hK hP 1 1 rfl rfl (v := nI R4.length) rfl dX4_pass_309 ?_
                              refine lv_bipush (v := nI 12) hx hb dX4_pass_310 (by decide +kernel) ?_
                              refine k_cmp_ge (tgt := 343) hx hb R4.length 12 rfl rfl (by omega) (by omega) dX4_pass_312 (by decide) (fun c_312 => ?_) (fun c_312 => ?_)
                              · skip
                                have h12f := c_312
                                refine lv_iinc (v := nI (i + 1)) (lv' := [(6, .int (nI (i + 1))), (7, .ref (((hrQ (ns (mB2 q)) (stI q) Rt).getD i td).1)), (0, .ref s), (3, .int (nI (ctT (stT q) - ctT (mT q)))), (4, .ref ta), (5, .int (nI Rt.length))]) hx hb dX4_pass_343 hl (k := 5) rfl (nI_1 _) (by decide) rfl (fun ls hl => ?_)
                                refine lv_goto (tgt := 272) hx hb dX4_pass_346 (by decide) ?_
                                have es := sk_t (T := mT q) (mi := stI q) (L := mB2 q) (i := i) (by rw [eI]; exact h4y) (by rw [eI]; exact c_302)
                                have ef : sn R4 = skN (mT q) (stI q) (mB2 q) (i + 1) := by rw [es, ← h4, app_full (by rw [sn_len]; omega)]
                                exact ih cl sl (i + 1) b4 R4 (by omega) (by omega) ef (by omega) _ _ (z_subP hP [0, 1, 2] (rfl)) (z_subD hD [0, 1, 2] (by decide) (rfl)) hS _ (lv_sub hl [2, 3, 4, 5, 0] (rfl))
                              · skip
                                refine lv_aload_n hx hb dX4_pass_315 rfl (lv_at hl 1 rfl) ?_
                                refine lv_aload_n hx hb dX4_pass_316 rfl (lv_at hl 1 rfl) ?_
                                refine va_get (D := D) (ci := 4) (v := .ref b4) (C := RX4) (T := TX4) (N := 9) hx hb hts iX4 hown hK hP 0 rfl rfl 7 (by decide) f21 (fun _ h9 => h9) rfl dX4_pass_317 ?_
                                refine lv_iconst (v := nI 2) hx hb dX4_pass_320 (by decide +kernel) ?_
                                refine z_newa hx hb (hts (.arrayClass .int) (by decide +kernel)) hK 0 rfl hP hD hS hA 2 rfl (by omega) ((show cl + 1 ≤ 25 by omega)) ((show sl + 2 ≤ 246 by omega)) dX4_pass_321 (fun q_7 H hP hD hS => ?_)
                                have hP : va_P D vwCl ([(s, .inr (4, [.int (nI (stI q)), .int (nI (mN1 q % 6)), .int (stO q + nI (mN1 q / 6)), .int (stV q + nI ((mB1 q).length - (mB2 q).length)), .int (nI (stG q)), .int (nI (stS q)), .int (stM q), .ref b4, .ref ta])), (b4, .inl (cQ, R4.length, .inr (.inr (.inr (.inr (qf (ad R4))))))), (ta, .inl (cQ, (hrQ (ns (mB2 q)) (stI q) Rt).length, .inr (.inr (.inr (.inr (qf (ad (hrQ (ns (mB2 q)) (stI q) Rt)))))))), (q_7, .inl (cI, 2, .inl (fun _ => 0)))] ++ ((sT cI (R4.map bq) ((hrQ (ns (mB2 q)) (stI q) Rt).map tq)) ++ [])) H := hP
                                have hD : va_D A ([(s, .inr (4, [.int (nI (stI q)), .int (nI (mN1 q % 6)), .int (stO q + nI (mN1 q / 6)), .int (stV q + nI ((mB1 q).length - (mB2 q).length)), .int (nI (stG q)), .int (nI (stS q)), .int (stM q), .ref b4, .ref ta])), (b4, .inl (cQ, R4.length, .inr (.inr (.inr (.inr (qf (ad R4))))))), (ta, .inl (cQ, (hrQ (ns (mB2 q)) (stI q) Rt).length, .inr (.inr (.inr (.inr (qf (ad (hrQ (ns (mB2 q)) (stI q) Rt)))))))), (q_7, .inl (cI, 2, .inl (fun _ => 0)))] ++ ((sT cI (R4.map bq) ((hrQ (ns (mB2 q)) (stI q) Rt).map tq)) ++ [])) := hD
                                refine lv_dup hx hb dX4_pass_323 rfl ?_
                                refine lv_iconst (v := nI 0) hx hb dX4_pass_324 (by decide +kernel) ?_
                                refine lv_aload hx hb dX4_pass_325 (lv_at hl 0 rfl) ?_
                                refine lv_iconst (v := nI 3) hx hb dX4_pass_327 (by decide +kernel) ?_
                                refine z_tld hx hb hK hP 0 rfl i (mp_len h4i) (tq_1 h4i) 3 rfl (by decide) (nI (tkS ((hrQ (ns (mB2 q)) (stI q) Rt).getD i td).2)) (tq_s h4i) dX4_pass_328 ?_
                                refine k_iast hx hb hK hP hD hS 3 0 rfl rfl 0 (rfl) (by omega) (by decide) dX4_pass_329 (fun H locs hP hD hS => ?_)
                                have hP : va_P D vwCl ([(s, .inr (4, [.int (nI (stI q)), .int (nI (mN1 q % 6)), .int (stO q + nI (mN1 q / 6)), .int (stV q + nI ((mB1 q).length - (mB2 q).length)), .int (nI (stG q)), .int (nI (stS q)), .int (stM q), .ref b4, .ref ta])), (b4, .inl (cQ, R4.length, .inr (.inr (.inr (.inr (qf (ad R4))))))), (ta, .inl (cQ, (hrQ (ns (mB2 q)) (stI q) Rt).length, .inr (.inr (.inr (.inr (qf (ad (hrQ (ns (mB2 q)) (stI q) Rt)))))))), (q_7, .inl (cI, 2, .inl (upd (fun _ => 0) 0 (nI (tkS ((hrQ (ns (mB2 q)) (stI q) Rt).getD i td).2)))))] ++ ((sT cI (R4.map bq) ((hrQ (ns (mB2 q)) (stI q) Rt).map tq)) ++ [])) H := hP
                                have hD : va_D A ([(s, .inr (4, [.int (nI (stI q)), .int (nI (mN1 q % 6)), .int (stO q + nI (mN1 q / 6)), .int (stV q + nI ((mB1 q).length - (mB2 q).length)), .int (nI (stG q)), .int (nI (stS q)), .int (stM q), .ref b4, .ref ta])), (b4, .inl (cQ, R4.length, .inr (.inr (.inr (.inr (qf (ad R4))))))), (ta, .inl (cQ, (hrQ (ns (mB2 q)) (stI q) Rt).length, .inr (.inr (.inr (.inr (qf (ad (hrQ (ns (mB2 q)) (stI q) Rt)))))))), (q_7, .inl (cI, 2, .inl (upd (fun _ => 0) 0 (nI (tkS ((hrQ (ns (mB2 q)) (stI q) Rt).getD i td).2)))))] ++ ((sT cI (R4.map bq) ((hrQ (ns (mB2 q)) (stI q) Rt).map tq)) ++ [])) := hD
                                refine lv_dup hx hb dX4_pass_330 rfl ?_
                                refine lv_iconst (v := nI 1) hx hb dX4_pass_331 (by decide +kernel) ?_
                                refine lv_aload hx hb dX4_pass_332 (lv_at hl 0 rfl) ?_
                                refine lv_iconst (v := nI 2) hx hb dX4_pass_334 (by decide +kernel) ?_
                                refine z_tld hx hb hK hP 0 rfl i (mp_len h4i) (tq_1 h4i) 2 rfl (by decide) (tkK ((hrQ (ns (mB2 q)) (stI q) Rt).getD i td).2) (tq_k h4i) dX4_pass_335 ?_
                                refine k_iast hx hb hK hP hD hS 3 0 rfl rfl 1 (rfl) (by omega) (by decide) dX4_pass_336 (fun H locs hP hD hS => ?_)
                                have hP : va_P D vwCl ([(s, .inr (4, [.int (nI (stI q)), .int (nI (mN1 q % 6)), .int (stO q + nI (mN1 q / 6)), .int (stV q + nI ((mB1 q).length - (mB2 q).length)), .int (nI (stG q)), .int (nI (stS q)), .int (stM q), .ref b4, .ref ta])), (b4, .inl (cQ, R4.length, .inr (.inr (.inr (.inr (qf (ad R4))))))), (ta, .inl (cQ, (hrQ (ns (mB2 q)) (stI q) Rt).length, .inr (.inr (.inr (.inr (qf (ad (hrQ (ns (mB2 q)) (stI q) Rt)))))))), (q_7, .inl (cI, 2, .inl (upd (upd (fun _ => 0) 0 (nI (tkS ((hrQ (ns (mB2 q)) (stI q) Rt).getD i td).2))) 1 (tkK ((hrQ (ns (mB2 q)) (stI q) Rt).getD i td).2))))] ++ ((sT cI (R4.map bq) ((hrQ (ns (mB2 q)) (stI q) Rt).map tq)) ++ [])) H := hP
                                have hD : va_D A ([(s, .inr (4, [.int (nI (stI q)), .int (nI (mN1 q % 6)), .int (stO q + nI (mN1 q / 6)), .int (stV q + nI ((mB1 q).length - (mB2 q).length)), .int (nI (stG q)), .int (nI (stS q)), .int (stM q), .ref b4, .ref ta])), (b4, .inl (cQ, R4.length, .inr (.inr (.inr (.inr (qf (ad R4))))))), (ta, .inl (cQ, (hrQ (ns (mB2 q)) (stI q) Rt).length, .inr (.inr (.inr (.inr (qf (ad (hrQ (ns (mB2 q)) (stI q) Rt)))))))), (q_7, .inl (cI, 2, .inl (upd (upd (fun _ => 0) 0 (nI (tkS ((hrQ (ns (mB2 q)) (stI q) Rt).getD i td).2))) 1 (tkK ((hrQ (ns (mB2 q)) (stI q) Rt).getD i td).2))))] ++ ((sT cI (R4.map bq) ((hrQ (ns (mB2 q)) (stI q) Rt).map tq)) ++ [])) := hD
                                have eN : upd (upd (fun _ => 0) 0 (nI (tkS ((hrQ (ns (mB2 q)) (stI q) Rt).getD i td).2))) 1 (tkK ((hrQ (ns (mB2 q)) (stI q) Rt).getD i td).2) = bf (tkK ((hrQ (ns (mB2 q)) (stI q) Rt).getD i td).2, tkS ((hrQ (ns (mB2 q)) (stI q) Rt).getD i td).2) := bf_new
                                rw [eN] at hP hD
                                have hP := z_PS (z_absBq (P := [(s, .inr (4, [.int (nI (stI q)), .int (nI (mN1 q % 6)), .int (stO q + nI (mN1 q / 6)), .int (stV q + nI ((mB1 q).length - (mB2 q).length)), .int (nI (stG q)), .int (nI (stS q)), .int (stM q), .ref b4, .ref ta])), (b4, .inl (cQ, R4.length, .inr (.inr (.inr (.inr (qf (ad R4))))))), (ta, .inl (cQ, (hrQ (ns (mB2 q)) (stI q) Rt).length, .inr (.inr (.inr (.inr (qf (ad (hrQ (ns (mB2 q)) (stI q) Rt))))))))]) (cI := cI) (v := q_7) (Rb := R4) (RT := (hrQ (ns (mB2 q)) (stI q) Rt).map tq) (Y := []) (t := (tkK ((hrQ (ns (mB2 q)) (stI q) Rt).getD i td).2, tkS ((hrQ (ns (mB2 q)) (stI q) Rt).getD i td).2))) hP
                                have hD := z_DS (z_absBq (P := [(s, .inr (4, [.int (nI (stI q)), .int (nI (mN1 q % 6)), .int (stO q + nI (mN1 q / 6)), .int (stV q + nI ((mB1 q).length - (mB2 q).length)), .int (nI (stG q)), .int (nI (stS q)), .int (stM q), .ref b4, .ref ta])), (b4, .inl (cQ, R4.length, .inr (.inr (.inr (.inr (qf (ad R4))))))), (ta, .inl (cQ, (hrQ (ns (mB2 q)) (stI q) Rt).length, .inr (.inr (.inr (.inr (qf (ad (hrQ (ns (mB2 q)) (stI q) Rt))))))))]) (cI := cI) (v := q_7) (Rb := R4) (RT := (hrQ (ns (mB2 q)) (stI q) Rt).map tq) (Y := []) (t := (tkK ((hrQ (ns (mB2 q)) (stI q) Rt).getD i td).2, tkS ((hrQ (ns (mB2 q)) (stI q) Rt).getD i td).2))) hD
                                have hP : va_P D vwCl ([(s, .inr (4, [.int (nI (stI q)), .int (nI (mN1 q % 6)), .int (stO q + nI (mN1 q / 6)), .int (stV q + nI ((mB1 q).length - (mB2 q).length)), .int (nI (stG q)), .int (nI (stS q)), .int (stM q), .ref b4, .ref ta])), (b4, .inl (cQ, R4.length, .inr (.inr (.inr (.inr (qf (ad R4))))))), (ta, .inl (cQ, (hrQ (ns (mB2 q)) (stI q) Rt).length, .inr (.inr (.inr (.inr (qf (ad (hrQ (ns (mB2 q)) (stI q) Rt))))))))] ++ ((sT cI ((R4 ++ [(q_7, (tkK ((hrQ (ns (mB2 q)) (stI q) Rt).getD i td).2, tkS ((hrQ (ns (mB2 q)) (stI q) Rt).getD i td).2))]).map bq) ((hrQ (ns (mB2 q)) (stI q) Rt).map tq)) ++ [])) H := hP
                                have hD : va_D A ([(s, .inr (4, [.int (nI (stI q)), .int (nI (mN1 q % 6)), .int (stO q + nI (mN1 q / 6)), .int (stV q + nI ((mB1 q).length - (mB2 q).length)), .int (nI (stG q)), .int (nI (stS q)), .int (stM q), .ref b4, .ref ta])), (b4, .inl (cQ, R4.length, .inr (.inr (.inr (.inr (qf (ad R4))))))), (ta, .inl (cQ, (hrQ (ns (mB2 q)) (stI q) Rt).length, .inr (.inr (.inr (.inr (qf (ad (hrQ (ns (mB2 q)) (stI q) Rt))))))))] ++ ((sT cI ((R4 ++ [(q_7, (tkK ((hrQ (ns (mB2 q)) (stI q) Rt).getD i td).2, tkS ((hrQ (ns (mB2 q)) (stI q) Rt).getD i td).2))]).map bq) ((hrQ (ns (mB2 q)) (stI q) Rt).map tq)) ++ [])) := hD
                                refine kz_callS (As := [.ref b4, .ref q_7]) (rest := [.ref s]) (wp := [(s, .inr (4, [.int (nI (stI q)), .int (nI (mN1 q % 6)), .int (stO q + nI (mN1 q / 6)), .int (stV q + nI ((mB1 q).length - (mB2 q).length)), .int (nI (stG q)), .int (nI (stS q)), .int (stM q), .ref b4, .ref ta])), (b4, .inl (cQ, R4.length, .inr (.inr (.inr (.inr (qf (ad R4))))))), (ta, .inl (cQ, (hrQ (ns (mB2 q)) (stI q) Rt).length, .inr (.inr (.inr (.inr (qf (ad (hrQ (ns (mB2 q)) (stI q) Rt))))))))]) (wc := [(b4, .inl (cQ, R4.length, .inr (.inr (.inr (.inr (qf (ad R4)))))))]) (wr := [(s, .inr (4, [.int (nI (stI q)), .int (nI (mN1 q % 6)), .int (stO q + nI (mN1 q / 6)), .int (stV q + nI ((mB1 q).length - (mB2 q).length)), .int (nI (stG q)), .int (nI (stS q)), .int (stM q), .ref b4, .ref ta])), (ta, .inl (cQ, (hrQ (ns (mB2 q)) (stI q) Rt).length, .inr (.inr (.inr (.inr (qf (ad (hrQ (ns (mB2 q)) (stI q) Rt))))))))]) (Z := ((sT cI ((R4 ++ [(q_7, (tkK ((hrQ (ns (mB2 q)) (stI q) Rt).getD i td).2, tkS ((hrQ (ns (mB2 q)) (stI q) Rt).getD i td).2))]).map bq) ((hrQ (ns (mB2 q)) (stI q) Rt).map tq)) ++ [])) (X0 := ((sT cI ((R4 ++ [(q_7, (tkK ((hrQ (ns (mB2 q)) (stI q) Rt).getD i td).2, tkS ((hrQ (ns (mB2 q)) (stI q) Rt).getD i td).2))]).map bq) ((hrQ (ns (mB2 q)) (stI q) Rt).map tq)) ++ [])) (Y := []) (wc1 := (fun (u : Nat) => [(b4, .inl (cQ, R4.length, .inr (.inr (.inr (.inr (qf (ad R4))))))), (u, .inl (cQ, R4.length + 1, .inr (.inr (.inr (.inr (qf ((ad R4) ++ [q_7])))))))])) (X1 := (fun (u : Nat) => ((sT cI ((R4 ++ [(q_7, (tkK ((hrQ (ns (mB2 q)) (stI q) Rt).getD i td).2, tkS ((hrQ (ns (mB2 q)) (stI q) Rt).getD i td).2))]).map bq) ((hrQ (ns (mB2 q)) (stI q) Rt).map tq)) ++ []))) F (c_X4_with l D cI cQ b4 q_7 R4.length (ad R4) ((sT cI ((R4 ++ [(q_7, (tkK ((hrQ (ns (mB2 q)) (stI q) Rt).getD i td).2, tkS ((hrQ (ns (mB2 q)) (stI q) Rt).getD i td).2))]).map bq) ((hrQ (ns (mB2 q)) (stI q) Rt).map tq)) ++ []) ((zL_Bq).sub app_mem) ((ad_len _).symm) (by rw [ad_len]; omega)) gX4_pass_X4_with rfl (nA := 2) (by decide +kernel) rfl ⟨Nat.le_of_ble_eq_true rfl, Nat.le_of_ble_eq_true rfl⟩ hK hP hD hS hA hG [1] [0, 2] rfl (by decide) z_permnil rfl (fun _ => rfl) [0, 1] rfl rfl hl.1 (Nat.le_of_ble_eq_true rfl) dX4_pass_337 ⟨(show cl + 1 + 1 ≤ 25 by omega), (show sl + 2 + 13 ≤ 246 by omega)⟩ (fun r_8 u H locs hr_337 hP hD hS => ?_)
                                obtain ⟨na_337, rfl⟩ : ∃ z, z = u := ⟨_, rfl⟩
                                try dsimp only at hr_337
                                have hP := z_PS z_nil hP
                                have hD := z_DS z_nil hD
                                have hP : va_P D vwCl ([(s, .inr (4, [.int (nI (stI q)), .int (nI (mN1 q % 6)), .int (stO q + nI (mN1 q / 6)), .int (stV q + nI ((mB1 q).length - (mB2 q).length)), .int (nI (stG q)), .int (nI (stS q)), .int (stM q), .ref b4, .ref ta])), (ta, .inl (cQ, (hrQ (ns (mB2 q)) (stI q) Rt).length, .inr (.inr (.inr (.inr (qf (ad (hrQ (ns (mB2 q)) (stI q) Rt)))))))), (b4, .inl (cQ, R4.length, .inr (.inr (.inr (.inr (qf (ad R4))))))), (na_337, .inl (cQ, R4.length + 1, .inr (.inr (.inr (.inr (qf ((ad R4) ++ [q_7])))))))] ++ ((sT cI ((R4 ++ [(q_7, (tkK ((hrQ (ns (mB2 q)) (stI q) Rt).getD i td).2, tkS ((hrQ (ns (mB2 q)) (stI q) Rt).getD i td).2))]).map bq) ((hrQ (ns (mB2 q)) (stI q) Rt).map tq)) ++ [])) H := hP
                                have hD : va_D A ([(s, .inr (4, [.int (nI (stI q)), .int (nI (mN1 q % 6)), .int (stO q + nI (mN1 q / 6)), .int (stV q + nI ((mB1 q).length - (mB2 q).length)), .int (nI (stG q)), .int (nI (stS q)), .int (stM q), .ref b4, .ref ta])), (ta, .inl (cQ, (hrQ (ns (mB2 q)) (stI q) Rt).length, .inr (.inr (.inr (.inr (qf (ad (hrQ (ns (mB2 q)) (stI q) Rt)))))))), (b4, .inl (cQ, R4.length, .inr (.inr (.inr (.inr (qf (ad R4))))))), (na_337, .inl (cQ, R4.length + 1, .inr (.inr (.inr (.inr (qf ((ad R4) ++ [q_7])))))))] ++ ((sT cI ((R4 ++ [(q_7, (tkK ((hrQ (ns (mB2 q)) (stI q) Rt).getD i td).2, tkS ((hrQ (ns (mB2 q)) (stI q) Rt).getD i td).2))]).map bq) ((hrQ (ns (mB2 q)) (stI q) Rt).map tq)) ++ [])) := hD
                                refine W.eq (g2 := F0 m 340 ls [.ref r_8, .ref s]) rfl ?_
                                refine W.widen (k := cl + 1 + 1) (n := sl + 2 + 13) (Nat.le_refl _) (Nat.le_refl _) ?_
                                refine k_topR (v := na_337) hr_337 ?_
                                refine va_put (D := D) (ci := 4) (v := .ref na_337) (ty := (.array (.array .int))) (C := RX4) (T := TX4) (N := 9) hx hb hts iX4 tyX4 tyX4_ok nmX4 hown hK hP hD hS 0 rfl rfl 7 (by decide) f21 (fun _ h9 => h9) rfl (by decide +kernel) rfl rfl (Nat.le_of_ble_eq_true rfl) dX4_pass_340 (fun H locs hP hD hS => ?_)
                                have hP : va_P D vwCl ([(s, .inr (4, [.int (nI (stI q)), .int (nI (mN1 q % 6)), .int (stO q + nI (mN1 q / 6)), .int (stV q + nI ((mB1 q).length - (mB2 q).length)), .int (nI (stG q)), .int (nI (stS q)), .int (stM q), .ref na_337, .ref ta])), (ta, .inl (cQ, (hrQ (ns (mB2 q)) (stI q) Rt).length, .inr (.inr (.inr (.inr (qf (ad (hrQ (ns (mB2 q)) (stI q) Rt)))))))), (b4, .inl (cQ, R4.length, .inr (.inr (.inr (.inr (qf (ad R4))))))), (na_337, .inl (cQ, R4.length + 1, .inr (.inr (.inr (.inr (qf ((ad R4) ++ [q_7])))))))] ++ ((sT cI ((R4 ++ [(q_7, (tkK ((hrQ (ns (mB2 q)) (stI q) Rt).getD i td).2, tkS ((hrQ (ns (mB2 q)) (stI q) Rt).getD i td).2))]).map bq) ((hrQ (ns (mB2 q)) (stI q) Rt).map tq)) ++ [])) H := hP
                                have hD : va_D A ([(s, .inr (4, [.int (nI (stI q)), .int (nI (mN1 q % 6)), .int (stO q + nI (mN1 q / 6)), .int (stV q + nI ((mB1 q).length - (mB2 q).length)), .int (nI (stG q)), .int (nI (stS q)), .int (stM q), .ref na_337, .ref ta])), (ta, .inl (cQ, (hrQ (ns (mB2 q)) (stI q) Rt).length, .inr (.inr (.inr (.inr (qf (ad (hrQ (ns (mB2 q)) (stI q) Rt)))))))), (b4, .inl (cQ, R4.length, .inr (.inr (.inr (.inr (qf (ad R4))))))), (na_337, .inl (cQ, R4.length + 1, .inr (.inr (.inr (.inr (qf ((ad R4) ++ [q_7])))))))] ++ ((sT cI ((R4 ++ [(q_7, (tkK ((hrQ (ns (mB2 q)) (stI q) Rt).getD i td).2, tkS ((hrQ (ns (mB2 q)) (stI q) Rt).getD i td).2))]).map bq) ((hrQ (ns (mB2 q)) (stI q) Rt).map tq)) ++ [])) := hD
                                refine lv_iinc (v := nI (i + 1)) (lv' := [(6, .int (nI (i + 1))), (7, .ref (((hrQ (ns (mB2 q)) (stI q) Rt).getD i td).1)), (0, .ref s), (3, .int (nI (ctT (stT q) - ctT (mT q)))), (4, .ref ta), (5, .int (nI Rt.length))]) hx hb dX4_pass_343 hl (k := 5) rfl (nI_1 _) (by decide) rfl (fun ls hl => ?_)
                                refine lv_goto (tgt := 272) hx hb dX4_pass_346 (by decide) ?_
                                have es := sk_t (T := mT q) (mi := stI q) (L := mB2 q) (i := i) (by rw [eI]; exact h4y) (by rw [eI]; exact c_302)
                                have ef : sn (R4 ++ [(q_7, (tkK ((hrQ (ns (mB2 q)) (stI q) Rt).getD i td).2, tkS ((hrQ (ns (mB2 q)) (stI q) Rt).getD i td).2))]) = skN (mT q) (stI q) (mB2 q) (i + 1) := by rw [es, ← h4, app, if_pos (by rw [sn_len]; omega), sn_app, eI]
                                exact ih (cl + 1 + 1) (sl + 2 + 13) (i + 1) na_337 (R4 ++ [(q_7, (tkK ((hrQ (ns (mB2 q)) (stI q) Rt).getD i td).2, tkS ((hrQ (ns (mB2 q)) (stI q) Rt).getD i td).2))]) (by omega) (by omega) ef (by omega) _ _ (z_subP hP [0, 3, 1] (by rw [ad_app, List.length_append]; rfl)) (z_subD hD [0, 3, 1] (by decide) (by rw [ad_app, List.length_append]; rfl)) hS _ (lv_sub hl [2, 3, 4, 5, 0] (rfl))
                    exact loop_6 (Rt.length + 1) cl sl 0 qm (lfN (stS q) (stG q) (stM q) Rb Rb.length) (Nat.zero_le _) (by omega) (lf_B2 hQ.1) (by omega) _ _ (z_subP hP [0, 1, 2] (by rw [hrQ_ad, hrQ_len]; rfl)) (z_subD hD [0, 1, 2] (by decide) (by rw [hrQ_ad, hrQ_len]; rfl)) hS _ (lv_sub hl [3, 5, 2, 1, 0] (by rw [← eC]; rfl))
                  · skip
                    have eI : (stT q).getD i tk0 = (Rt.getD i td).2 := by rw [hQ.2]; exact sn_gdT Rt i
                    have hTl : i < (stT q).length := by rw [hQ.2, sn_len]; exact c_165
                    have hp30 : tkP (Rt.getD i td).2 ≤ 30 := (stT_okT hQ.2 hO c_165).2.2.2
                    refine lv_aload hx hb dX4_pass_168 (lv_at hl 3 rfl) ?_
                    refine lv_iload hx hb dX4_pass_170 (lv_at hl 5 rfl) ?_
                    refine z_qld hx hb hK hP 2 1 rfl rfl i rfl (c_165) (by omega) ((Rt.getD i td).1) (ad_q c_165) dX4_pass_172 ?_
                    refine lv_astore (lv' := [(7, .ref ((Rt.getD i td).1)), (0, .ref s), (2, .int (nI (ns (mB2 q)))), (3, .int (nI (cnN (isT (stT q)) i - cnN (isT (mT q)) i))), (4, .ref ta), (5, .int (nI Rt.length)), (6, .int (nI i))]) hx hb dX4_pass_173 hl (by decide) rfl (fun ls hl => ?_)
                    refine lv_aload hx hb dX4_pass_175 (lv_at hl 0 rfl) ?_
                    refine lv_iconst (v := nI 1) hx hb dX4_pass_177 (by decide +kernel) ?_
                    refine z_tld hx hb hK hP 0 rfl i ((by rw [hr3.1]; exact c_165)) ((congrArg Prod.fst (hrd_1 hr3 c_165)).symm) 1 rfl (by decide) (tkX (Rt.getD i td).2) (z_rd1 (hrd_1 hr3 c_165) rfl) dX4_pass_178 ?_
                    refine lv_if_lt (tgt := 185) hx hb dX4_pass_179 (by decide) (fun c_179 => ?_) (fun c_179 => ?_)
                    · skip
                      have hx1 : tkX (Rt.getD i td).2 = -1 := by rw [← eI]; exact okX_y hX hTl (by rw [eI]; exact c_179)
                      refine lv_iload_n hx hb dX4_pass_185 rfl (lv_at hl 2 rfl) ?_
                      refine k_if_ne (tgt := 213) hx hb (ns (mB2 q)) rfl (by omega) dX4_pass_186 (by decide) (fun c_186 => ?_) (fun c_186 => ?_)
                      · skip
                        refine lv_aload hx hb dX4_pass_213 (lv_at hl 0 rfl) ?_
                        refine lv_iconst (v := nI 0) hx hb dX4_pass_215 (by decide +kernel) ?_
                        refine lv_dup2_11 hx hb dX4_pass_216 rfl rfl ?_
                        refine z_tld hx hb hK hP 0 rfl i ((by rw [hr3.1]; exact c_165)) ((congrArg Prod.fst (hrd_1 hr3 c_165)).symm) 0 rfl (by decide) (nI (tkP (Rt.getD i td).2)) (z_rd1 (hrd_1 hr3 c_165) rfl) dX4_pass_217 ?_
                        refine lv_iconst (v := nI 1) hx hb dX4_pass_218 (by decide +kernel) ?_
                        refine lv_iload_n hx hb dX4_pass_219 rfl (lv_at hl 2 rfl) ?_
                        refine lv_bipush (v := nI 20) hx hb dX4_pass_220 (by decide +kernel) ?_
                        refine k_idiv hx hb (nI ((ns (mB2 q)) / 20)) (by decide +kernel) (pk_div (by omega) (by omega) (by omega)) dX4_pass_222 ?_
                        refine k_iadd hx hb (nI (ns (mB2 q) / 20 + 1)) (by rw [nI_add, Nat.add_comm]) dX4_pass_223 ?_
                        refine k_isub hx hb (nI (tkP (Rt.getD i td).2) - nI (ns (mB2 q) / 20 + 1)) (rfl) dX4_pass_224 ?_
                        refine z_tst hx hb hK hP hD hS 0 rfl i ((by rw [hr3.1]; exact c_165)) ((congrArg Prod.fst (hrd_1 hr3 c_165)).symm) 0 rfl (by decide) dX4_pass_225 (fun H locs hP hD hS => ?_)
                        rw [z_w1 (hrd_1 hr3 c_165)] at hP hD
                        have hP : va_P D vwCl ([(s, .inr (4, [.int (nI (stI q)), .int (nI (mN1 q % 6)), .int (stO q + nI (mN1 q / 6)), .int (stV q + nI ((mB1 q).length - (mB2 q).length)), .int (nI (stG q)), .int (nI (stS q)), .int (stM q), .ref qm, .ref ta])), (qm, .inl (cQ, (lfN (stS q) (stG q) (stM q) Rb Rb.length).length, .inr (.inr (.inr (.inr (qf (ad (lfN (stS q) (stG q) (stM q) Rb Rb.length)))))))), (ta, .inl (cQ, Rt.length, .inr (.inr (.inr (.inr (qf (ad Rt)))))))] ++ ((sT cI ((lfN (stS q) (stG q) (stM q) Rb Rb.length).map bq) (RT.set i ((Rt.getD i td).1, upd (tf (Rt.getD i td).2) 0 (nI (tkP (Rt.getD i td).2) - nI (ns (mB2 q) / 20 + 1))))) ++ [])) H := hP
                        have hD : va_D A ([(s, .inr (4, [.int (nI (stI q)), .int (nI (mN1 q % 6)), .int (stO q + nI (mN1 q / 6)), .int (stV q + nI ((mB1 q).length - (mB2 q).length)), .int (nI (stG q)), .int (nI (stS q)), .int (stM q), .ref qm, .ref ta])), (qm, .inl (cQ, (lfN (stS q) (stG q) (stM q) Rb Rb.length).length, .inr (.inr (.inr (.inr (qf (ad (lfN (stS q) (stG q) (stM q) Rb Rb.length)))))))), (ta, .inl (cQ, Rt.length, .inr (.inr (.inr (.inr (qf (ad Rt)))))))] ++ ((sT cI ((lfN (stS q) (stG q) (stM q) Rb Rb.length).map bq) (RT.set i ((Rt.getD i td).1, upd (tf (Rt.getD i td).2) 0 (nI (tkP (Rt.getD i td).2) - nI (ns (mB2 q) / 20 + 1))))) ++ [])) := hD
                        refine lv_aload hx hb dX4_pass_226 (lv_at hl 0 rfl) ?_
                        refine lv_iconst (v := nI 0) hx hb dX4_pass_228 (by decide +kernel) ?_
                        refine z_tld hx hb hK hP 0 rfl i ((by rw [List.length_set]; exact (by rw [hr3.1]; exact c_165))) ((congrArg Prod.fst (z_g2 (by rw [hr3.1]; exact c_165))).symm) 0 rfl (by decide) (nI (tkP (Rt.getD i td).2) - nI (ns (mB2 q) / 20 + 1)) (z_rd1 (z_g2 (by rw [hr3.1]; exact c_165)) pk_us) dX4_pass_229 ?_
                        refine lv_if_le (tgt := 236) hx hb dX4_pass_230 (by decide) (fun c_230 => ?_) (fun c_230 => ?_)
                        · skip
                          have hle := pt_neg hp30 (by omega) c_230
                          refine lv_aload hx hb dX4_pass_236 (lv_at hl 0 rfl) ?_
                          refine lv_iconst (v := nI 0) hx hb dX4_pass_238 (by decide +kernel) ?_
                          refine lv_iconst (v := nI 0) hx hb dX4_pass_239 (by decide +kernel) ?_
                          refine z_tst hx hb hK hP hD hS 0 rfl i ((by rw [List.length_set]; exact (by rw [hr3.1]; exact c_165))) ((congrArg Prod.fst (z_g2 (by rw [hr3.1]; exact c_165))).symm) 0 rfl (by decide) dX4_pass_240 (fun H locs hP hD hS => ?_)
                          rw [z_w2 (by rw [hr3.1]; exact c_165)] at hP hD
                          have hP : va_P D vwCl ([(s, .inr (4, [.int (nI (stI q)), .int (nI (mN1 q % 6)), .int (stO q + nI (mN1 q / 6)), .int (stV q + nI ((mB1 q).length - (mB2 q).length)), .int (nI (stG q)), .int (nI (stS q)), .int (stM q), .ref qm, .ref ta])), (qm, .inl (cQ, (lfN (stS q) (stG q) (stM q) Rb Rb.length).length, .inr (.inr (.inr (.inr (qf (ad (lfN (stS q) (stG q) (stM q) Rb Rb.length)))))))), (ta, .inl (cQ, Rt.length, .inr (.inr (.inr (.inr (qf (ad Rt)))))))] ++ ((sT cI ((lfN (stS q) (stG q) (stM q) Rb Rb.length).map bq) (RT.set i ((Rt.getD i td).1, upd (upd (tf (Rt.getD i td).2) 0 (nI (tkP (Rt.getD i td).2) - nI (ns (mB2 q) / 20 + 1))) 0 (nI 0)))) ++ [])) H := hP
                          have hD : va_D A ([(s, .inr (4, [.int (nI (stI q)), .int (nI (mN1 q % 6)), .int (stO q + nI (mN1 q / 6)), .int (stV q + nI ((mB1 q).length - (mB2 q).length)), .int (nI (stG q)), .int (nI (stS q)), .int (stM q), .ref qm, .ref ta])), (qm, .inl (cQ, (lfN (stS q) (stG q) (stM q) Rb Rb.length).length, .inr (.inr (.inr (.inr (qf (ad (lfN (stS q) (stG q) (stM q) Rb Rb.length)))))))), (ta, .inl (cQ, Rt.length, .inr (.inr (.inr (.inr (qf (ad Rt)))))))] ++ ((sT cI ((lfN (stS q) (stG q) (stM q) Rb Rb.length).map bq) (RT.set i ((Rt.getD i td).1, upd (upd (tf (Rt.getD i td).2) 0 (nI (tkP (Rt.getD i td).2) - nI (ns (mB2 q) / 20 + 1))) 0 (nI 0)))) ++ [])) := hD
                          refine lv_aload hx hb dX4_pass_241 (lv_at hl 0 rfl) ?_
                          refine lv_iconst (v := nI 1) hx hb dX4_pass_243 (by decide +kernel) ?_
                          refine lv_aload_n hx hb dX4_pass_244 rfl (lv_at hl 1 rfl) ?_
                          refine va_get (D := D) (ci := 4) (v := .int (nI (stI q))) (C := RX4) (T := TX4) (N := 9) hx hb hts iX4 hown hK hP 0 rfl rfl 0 (by decide) f29 (fun _ h9 => h9) rfl dX4_pass_245 ?_
                          refine z_tst hx hb hK hP hD hS 0 rfl i ((by rw [List.length_set]; exact (by rw [hr3.1]; exact c_165))) ((congrArg Prod.fst (z_g2 (by rw [hr3.1]; exact c_165))).symm) 1 rfl (by decide) dX4_pass_248 (fun H locs hP hD hS => ?_)
                          rw [z_w2 (by rw [hr3.1]; exact c_165)] at hP hD
                          have hP : va_P D vwCl ([(s, .inr (4, [.int (nI (stI q)), .int (nI (mN1 q % 6)), .int (stO q + nI (mN1 q / 6)), .int (stV q + nI ((mB1 q).length - (mB2 q).length)), .int (nI (stG q)), .int (nI (stS q)), .int (stM q), .ref qm, .ref ta])), (qm, .inl (cQ, (lfN (stS q) (stG q) (stM q) Rb Rb.length).length, .inr (.inr (.inr (.inr (qf (ad (lfN (stS q) (stG q) (stM q) Rb Rb.length)))))))), (ta, .inl (cQ, Rt.length, .inr (.inr (.inr (.inr (qf (ad Rt)))))))] ++ ((sT cI ((lfN (stS q) (stG q) (stM q) Rb Rb.length).map bq) (RT.set i ((Rt.getD i td).1, upd (upd (upd (tf (Rt.getD i td).2) 0 (nI (tkP (Rt.getD i td).2) - nI (ns (mB2 q) / 20 + 1))) 0 (nI 0)) 1 (nI (stI q))))) ++ [])) H := hP
                          have hD : va_D A ([(s, .inr (4, [.int (nI (stI q)), .int (nI (mN1 q % 6)), .int (stO q + nI (mN1 q / 6)), .int (stV q + nI ((mB1 q).length - (mB2 q).length)), .int (nI (stG q)), .int (nI (stS q)), .int (stM q), .ref qm, .ref ta])), (qm, .inl (cQ, (lfN (stS q) (stG q) (stM q) Rb Rb.length).length, .inr (.inr (.inr (.inr (qf (ad (lfN (stS q) (stG q) (stM q) Rb Rb.length)))))))), (ta, .inl (cQ, Rt.length, .inr (.inr (.inr (.inr (qf (ad Rt)))))))] ++ ((sT cI ((lfN (stS q) (stG q) (stM q) Rb Rb.length).map bq) (RT.set i ((Rt.getD i td).1, upd (upd (upd (tf (Rt.getD i td).2) 0 (nI (tkP (Rt.getD i td).2) - nI (ns (mB2 q) / 20 + 1))) 0 (nI 0)) 1 (nI (stI q))))) ++ [])) := hD
                          refine lv_iinc (v := nI ((cnN (isT (stT q)) i - cnN (isT (mT q)) i) + 1)) (lv' := [(3, .int (nI ((cnN (isT (stT q)) i - cnN (isT (mT q)) i) + 1))), (7, .ref ((Rt.getD i td).1)), (0, .ref s), (2, .int (nI (ns (mB2 q)))), (4, .ref ta), (5, .int (nI Rt.length)), (6, .int (nI i))]) hx hb dX4_pass_249 hl (k := 3) rfl (nI_1 _) (by decide) rfl (fun ls hl => ?_)
                          refine lv_iinc (v := nI (i + 1)) (lv' := [(6, .int (nI (i + 1))), (3, .int (nI ((cnN (isT (stT q)) i - cnN (isT (mT q)) i) + 1))), (7, .ref ((Rt.getD i td).1)), (0, .ref s), (2, .int (nI (ns (mB2 q)))), (4, .ref ta), (5, .int (nI Rt.length))]) hx hb dX4_pass_252 hl (k := 6) rfl (nI_1 _) (by decide) rfl (fun ls hl => ?_)
                          refine lv_goto (tgt := 161) hx hb dX4_pass_255 (by decide) ?_
                          have eF : hrF (ns (mB2 q)) (stI q) (Rt.getD i td).2 = (tkK (Rt.getD i td).2, tkS (Rt.getD i td).2, tkE (Rt.getD i td).2, 0, nI (stI q)) := hrF_n hx1 c_186 hle
                          have ek : cnN (isT (stT q)) (i + 1) - cnN (isT (mT q)) (i + 1) = cnN (isT (stT q)) i - cnN (isT (mT q)) i + 1 := gone_s hTl (by rw [eI]; exact hx1) (by rw [eI, eF]; exact nI_nm1 (by omega))
                          exact ih (i + 1) (RT.set i ((Rt.getD i td).1, upd (upd (upd (tf (Rt.getD i td).2) 0 (nI (tkP (Rt.getD i td).2) - nI (ns (mB2 q) / 20 + 1))) 0 (nI 0)) 1 (nI (stI q)))) (by omega) (hrd_s hr3 c_165 (by rw [eF]; exact tf_g)) (by omega) _ _ (z_subP hP [0, 1, 2] (rfl)) (z_subD hD [0, 1, 2] (by decide) (rfl)) hS _ (lv_sub hl [3, 4, 1, 5, 6, 0] (by rw [ek]; rfl))
                        · skip
                          have hlt := pt_pos hp30 (by omega) c_230
                          have ev : nI (tkP (Rt.getD i td).2) - nI (ns (mB2 q) / 20 + 1) = nI (tkP (Rt.getD i td).2 - (ns (mB2 q) / 20 + 1)) := pk_sub (by omega)
                          refine lv_goto (tgt := 252) hx hb dX4_pass_233 (by decide) ?_
                          refine lv_iinc (v := nI (i + 1)) (lv' := [(6, .int (nI (i + 1))), (7, .ref ((Rt.getD i td).1)), (0, .ref s), (2, .int (nI (ns (mB2 q)))), (3, .int (nI (cnN (isT (stT q)) i - cnN (isT (mT q)) i))), (4, .ref ta), (5, .int (nI Rt.length))]) hx hb dX4_pass_252 hl (k := 6) rfl (nI_1 _) (by decide) rfl (fun ls hl => ?_)
                          refine lv_goto (tgt := 161) hx hb dX4_pass_255 (by decide) ?_
                          have eF : hrF (ns (mB2 q)) (stI q) (Rt.getD i td).2 = (tkK (Rt.getD i td).2, tkS (Rt.getD i td).2, tkE (Rt.getD i td).2, tkP (Rt.getD i td).2 - (ns (mB2 q) / 20 + 1), tkX (Rt.getD i td).2) := hrF_y hx1 c_186 hlt
                          have ek : cnN (isT (stT q)) (i + 1) - cnN (isT (mT q)) (i + 1) = cnN (isT (stT q)) i - cnN (isT (mT q)) i := gone_k hTl (by rw [eI]; exact (congrArg tkX eF).trans rfl)
                          exact ih (i + 1) (RT.set i ((Rt.getD i td).1, upd (tf (Rt.getD i td).2) 0 (nI (tkP (Rt.getD i td).2) - nI (ns (mB2 q) / 20 + 1)))) (by omega) (hrd_s hr3 c_165 (by rw [eF]; exact (by rw [ev]; exact tf_p))) (by omega) _ _ (z_subP hP [0, 1, 2] (rfl)) (z_subD hD [0, 1, 2] (by decide) (rfl)) hS _ (lv_sub hl [2, 3, 4, 5, 6, 0] (by rw [ek]; rfl))
                      · skip
                        refine lv_aload hx hb dX4_pass_189 (lv_at hl 0 rfl) ?_
                        refine lv_iconst (v := nI 0) hx hb dX4_pass_191 (by decide +kernel) ?_
                        refine lv_dup2_11 hx hb dX4_pass_192 rfl rfl ?_
                        refine z_tld hx hb hK hP 0 rfl i ((by rw [hr3.1]; exact c_165)) ((congrArg Prod.fst (hrd_1 hr3 c_165)).symm) 0 rfl (by decide) (nI (tkP (Rt.getD i td).2)) (z_rd1 (hrd_1 hr3 c_165) rfl) dX4_pass_193 ?_
                        refine lv_aload hx hb dX4_pass_194 (lv_at hl 0 rfl) ?_
                        refine lv_iconst (v := nI 0) hx hb dX4_pass_196 (by decide +kernel) ?_
                        refine z_tld hx hb hK hP 0 rfl i ((by rw [hr3.1]; exact c_165)) ((congrArg Prod.fst (hrd_1 hr3 c_165)).symm) 0 rfl (by decide) (nI (tkP (Rt.getD i td).2)) (z_rd1 (hrd_1 hr3 c_165) rfl) dX4_pass_197 ?_
                        refine lv_bipush (v := nI 30) hx hb dX4_pass_198 (by decide +kernel) ?_
                        refine k_cmp_ge (tgt := 207) hx hb (tkP (Rt.getD i td).2) 30 rfl rfl (by omega) (by omega) dX4_pass_200 (by decide) (fun c_200 => ?_) (fun c_200 => ?_)
                        · skip
                          refine lv_iconst (v := nI 0) hx hb dX4_pass_207 (by decide +kernel) ?_
                          refine k_iadd hx hb (nI (tkP (Rt.getD i td).2 + (if tkP (Rt.getD i td).2 < 30 then 1 else 0))) (by rw [if_neg (by omega)]; exact nI_add _ _) dX4_pass_208 ?_
                          refine z_tst hx hb hK hP hD hS 0 rfl i ((by rw [hr3.1]; exact c_165)) ((congrArg Prod.fst (hrd_1 hr3 c_165)).symm) 0 rfl (by decide) dX4_pass_209 (fun H locs hP hD hS => ?_)
                          rw [z_w1 (hrd_1 hr3 c_165)] at hP hD
                          have hP : va_P D vwCl ([(s, .inr (4, [.int (nI (stI q)), .int (nI (mN1 q % 6)), .int (stO q + nI (mN1 q / 6)), .int (stV q + nI ((mB1 q).length - (mB2 q).length)), .int (nI (stG q)), .int (nI (stS q)), .int (stM q), .ref qm, .ref ta])), (qm, .inl (cQ, (lfN (stS q) (stG q) (stM q) Rb Rb.length).length, .inr (.inr (.inr (.inr (qf (ad (lfN (stS q) (stG q) (stM q) Rb Rb.length)))))))), (ta, .inl (cQ, Rt.length, .inr (.inr (.inr (.inr (qf (ad Rt)))))))] ++ ((sT cI ((lfN (stS q) (stG q) (stM q) Rb Rb.length).map bq) (RT.set i ((Rt.getD i td).1, upd (tf (Rt.getD i td).2) 0 (nI (tkP (Rt.getD i td).2 + (if tkP (Rt.getD i td).2 < 30 then 1 else 0)))))) ++ [])) H := hP
                          have hD : va_D A ([(s, .inr (4, [.int (nI (stI q)), .int (nI (mN1 q % 6)), .int (stO q + nI (mN1 q / 6)), .int (stV q + nI ((mB1 q).length - (mB2 q).length)), .int (nI (stG q)), .int (nI (stS q)), .int (stM q), .ref qm, .ref ta])), (qm, .inl (cQ, (lfN (stS q) (stG q) (stM q) Rb Rb.length).length, .inr (.inr (.inr (.inr (qf (ad (lfN (stS q) (stG q) (stM q) Rb Rb.length)))))))), (ta, .inl (cQ, Rt.length, .inr (.inr (.inr (.inr (qf (ad Rt)))))))] ++ ((sT cI ((lfN (stS q) (stG q) (stM q) Rb Rb.length).map bq) (RT.set i ((Rt.getD i td).1, upd (tf (Rt.getD i td).2) 0 (nI (tkP (Rt.getD i td).2 + (if tkP (Rt.getD i td).2 < 30 then 1 else 0)))))) ++ [])) := hD
                          refine lv_goto (tgt := 226) hx hb dX4_pass_210 (by decide) ?_
                          refine lv_aload hx hb dX4_pass_226 (lv_at hl 0 rfl) ?_
                          refine lv_iconst (v := nI 0) hx hb dX4_pass_228 (by decide +kernel) ?_
                          refine z_tld hx hb hK hP 0 rfl i ((by rw [List.length_set]; exact (by rw [hr3.1]; exact c_165))) ((congrArg Prod.fst (z_g2 (by rw [hr3.1]; exact c_165))).symm) 0 rfl (by decide) (nI (tkP (Rt.getD i td).2 + (if tkP (Rt.getD i td).2 < 30 then 1 else 0))) (z_rd1 (z_g2 (by rw [hr3.1]; exact c_165)) pk_us) dX4_pass_229 ?_
                          refine k_if_le (tgt := 236) hx hb (tkP (Rt.getD i td).2 + (if tkP (Rt.getD i td).2 < 30 then 1 else 0)) rfl (by split <;> omega) dX4_pass_230 (by decide) (fun c_230 => ?_) (fun c_230 => ?_)
                          · skip
                            exact absurd c_230 (by split <;> omega)
                          · skip
                            refine lv_goto (tgt := 252) hx hb dX4_pass_233 (by decide) ?_
                            refine lv_iinc (v := nI (i + 1)) (lv' := [(6, .int (nI (i + 1))), (7, .ref ((Rt.getD i td).1)), (0, .ref s), (2, .int (nI (ns (mB2 q)))), (3, .int (nI (cnN (isT (stT q)) i - cnN (isT (mT q)) i))), (4, .ref ta), (5, .int (nI Rt.length))]) hx hb dX4_pass_252 hl (k := 6) rfl (nI_1 _) (by decide) rfl (fun ls hl => ?_)
                            refine lv_goto (tgt := 161) hx hb dX4_pass_255 (by decide) ?_
                            have eF : hrF (ns (mB2 q)) (stI q) (Rt.getD i td).2 = (tkK (Rt.getD i td).2, tkS (Rt.getD i td).2, tkE (Rt.getD i td).2, tkP (Rt.getD i td).2 + (if tkP (Rt.getD i td).2 < 30 then 1 else 0), tkX (Rt.getD i td).2) := by rw [c_186]; exact hrF_0 hx1 hp30
                            have ek : cnN (isT (stT q)) (i + 1) - cnN (isT (mT q)) (i + 1) = cnN (isT (stT q)) i - cnN (isT (mT q)) i := gone_k hTl (by rw [eI]; exact (congrArg tkX eF).trans rfl)
                            exact ih (i + 1) (RT.set i ((Rt.getD i td).1, upd (tf (Rt.getD i td).2) 0 (nI (tkP (Rt.getD i td).2 + (if tkP (Rt.getD i td).2 < 30 then 1 else 0))))) (by omega) (hrd_s hr3 c_165 (by rw [eF]; exact tf_p)) (by omega) _ _ (z_subP hP [0, 1, 2] (rfl)) (z_subD hD [0, 1, 2] (by decide) (rfl)) hS _ (lv_sub hl [2, 3, 4, 5, 6, 0] (by rw [ek]; rfl))
                        · skip
                          refine lv_iconst (v := nI 1) hx hb dX4_pass_203 (by decide +kernel) ?_
                          refine lv_goto (tgt := 208) hx hb dX4_pass_204 (by decide) ?_
                          refine k_iadd hx hb (nI (tkP (Rt.getD i td).2 + (if tkP (Rt.getD i td).2 < 30 then 1 else 0))) (by rw [if_pos c_200]; exact nI_add _ _) dX4_pass_208 ?_
                          refine z_tst hx hb hK hP hD hS 0 rfl i ((by rw [hr3.1]; exact c_165)) ((congrArg Prod.fst (hrd_1 hr3 c_165)).symm) 0 rfl (by decide) dX4_pass_209 (fun H locs hP hD hS => ?_)
                          rw [z_w1 (hrd_1 hr3 c_165)] at hP hD
                          have hP : va_P D vwCl ([(s, .inr (4, [.int (nI (stI q)), .int (nI (mN1 q % 6)), .int (stO q + nI (mN1 q / 6)), .int (stV q + nI ((mB1 q).length - (mB2 q).length)), .int (nI (stG q)), .int (nI (stS q)), .int (stM q), .ref qm, .ref ta])), (qm, .inl (cQ, (lfN (stS q) (stG q) (stM q) Rb Rb.length).length, .inr (.inr (.inr (.inr (qf (ad (lfN (stS q) (stG q) (stM q) Rb Rb.length)))))))), (ta, .inl (cQ, Rt.length, .inr (.inr (.inr (.inr (qf (ad Rt)))))))] ++ ((sT cI ((lfN (stS q) (stG q) (stM q) Rb Rb.length).map bq) (RT.set i ((Rt.getD i td).1, upd (tf (Rt.getD i td).2) 0 (nI (tkP (Rt.getD i td).2 + (if tkP (Rt.getD i td).2 < 30 then 1 else 0)))))) ++ [])) H := hP
                          have hD : va_D A ([(s, .inr (4, [.int (nI (stI q)), .int (nI (mN1 q % 6)), .int (stO q + nI (mN1 q / 6)), .int (stV q + nI ((mB1 q).length - (mB2 q).length)), .int (nI (stG q)), .int (nI (stS q)), .int (stM q), .ref qm, .ref ta])), (qm, .inl (cQ, (lfN (stS q) (stG q) (stM q) Rb Rb.length).length, .inr (.inr (.inr (.inr (qf (ad (lfN (stS q) (stG q) (stM q) Rb Rb.length)))))))), (ta, .inl (cQ, Rt.length, .inr (.inr (.inr (.inr (qf (ad Rt)))))))] ++ ((sT cI ((lfN (stS q) (stG q) (stM q) Rb Rb.length).map bq) (RT.set i ((Rt.getD i td).1, upd (tf (Rt.getD i td).2) 0 (nI (tkP (Rt.getD i td).2 + (if tkP (Rt.getD i td).2 < 30 then 1 else 0)))))) ++ [])) := hD
                          refine lv_goto (tgt := 226) hx hb dX4_pass_210 (by decide) ?_
                          refine lv_aload hx hb dX4_pass_226 (lv_at hl 0 rfl) ?_
                          refine lv_iconst (v := nI 0) hx hb dX4_pass_228 (by decide +kernel) ?_
                          refine z_tld hx hb hK hP 0 rfl i ((by rw [List.length_set]; exact (by rw [hr3.1]; exact c_165))) ((congrArg Prod.fst (z_g2 (by rw [hr3.1]; exact c_165))).symm) 0 rfl (by decide) (nI (tkP (Rt.getD i td).2 + (if tkP (Rt.getD i td).2 < 30 then 1 else 0))) (z_rd1 (z_g2 (by rw [hr3.1]; exact c_165)) pk_us) dX4_pass_229 ?_
                          refine k_if_le (tgt := 236) hx hb (tkP (Rt.getD i td).2 + (if tkP (Rt.getD i td).2 < 30 then 1 else 0)) rfl (by split <;> omega) dX4_pass_230 (by decide) (fun c_230 => ?_) (fun c_230 => ?_)
                          · skip
                            exact absurd c_230 (by split <;> omega)
                          · skip
                            refine lv_goto (tgt := 252) hx hb dX4_pass_233 (by decide) ?_
                            refine lv_iinc (v := nI (i + 1)) (lv' := [(6, .int (nI (i + 1))), (7, .ref ((Rt.getD i td).1)), (0, .ref s), (2, .int (nI (ns (mB2 q)))), (3, .int (nI (cnN (isT (stT q)) i - cnN (isT (mT q)) i))), (4, .ref ta), (5, .int (nI Rt.length))]) hx hb dX4_pass_252 hl (k := 6) rfl (nI_1 _) (by decide) rfl (fun ls hl => ?_)
                            refine lv_goto (tgt := 161) hx hb dX4_pass_255 (by decide) ?_
                            have eF : hrF (ns (mB2 q)) (stI q) (Rt.getD i td).2 = (tkK (Rt.getD i td).2, tkS (Rt.getD i td).2, tkE (Rt.getD i td).2, tkP (Rt.getD i td).2 + (if tkP (Rt.getD i td).2 < 30 then 1 else 0), tkX (Rt.getD i td).2) := by rw [c_186]; exact hrF_0 hx1 hp30
                            have ek : cnN (isT (stT q)) (i + 1) - cnN (isT (mT q)) (i + 1) = cnN (isT (stT q)) i - cnN (isT (mT q)) i := gone_k hTl (by rw [eI]; exact (congrArg tkX eF).trans rfl)
                            exact ih (i + 1) (RT.set i ((Rt.getD i td).1, upd (tf (Rt.getD i td).2) 0 (nI (tkP (Rt.getD i td).2 + (if tkP (Rt.getD i td).2 < 30 then 1 else 0))))) (by omega) (hrd_s hr3 c_165 (by rw [eF]; exact tf_p)) (by omega) _ _ (z_subP hP [0, 1, 2] (rfl)) (z_subD hD [0, 1, 2] (by decide) (rfl)) hS _ (lv_sub hl [2, 3, 4, 5, 6, 0] (by rw [ek]; rfl))
                    · skip
                      refine lv_goto (tgt := 252) hx hb dX4_pass_182 (by decide) ?_
                      refine lv_iinc (v := nI (i + 1)) (lv' := [(6, .int (nI (i + 1))), (7, .ref ((Rt.getD i td).1)), (0, .ref s), (2, .int (nI (ns (mB2 q)))), (3, .int (nI (cnN (isT (stT q)) i - cnN (isT (mT q)) i))), (4, .ref ta), (5, .int (nI Rt.length))]) hx hb dX4_pass_252 hl (k := 6) rfl (nI_1 _) (by decide) rfl (fun ls hl => ?_)
                      refine lv_goto (tgt := 161) hx hb dX4_pass_255 (by decide) ?_
                      have hxn : ¬ tkX (Rt.getD i td).2 = -1 := fun e => c_179 (by rw [e]; decide)
                      have ek : cnN (isT (stT q)) (i + 1) - cnN (isT (mT q)) (i + 1) = cnN (isT (stT q)) i - cnN (isT (mT q)) i := gone_k hTl (by rw [eI, hrF, if_neg hxn])
                      exact ih (i + 1) RT (by omega) (hrd_k hr3 c_165 hxn) (by omega) _ _ (z_subP hP [0, 1, 2] (rfl)) (z_subD hD [0, 1, 2] (by decide) (rfl)) hS _ (lv_sub hl [2, 3, 4, 5, 6, 0] (by rw [ek]; rfl))
              exact loop_5 (Rt.length + 1) 0 (Rt.map tq) (Nat.zero_le _) hrd_0 (by omega) _ _ (z_subP hP [1, 2, 0] (rfl)) (z_subD hD [1, 2, 0] (by decide) (rfl)) hS _ (lv_sub hl [5, 4, 3, 2, 1, 0] (rfl))
            · skip
              refine lv_aload_n hx hb dX4_pass_116 rfl (lv_at hl 0 rfl) ?_
              refine lv_dup hx hb dX4_pass_117 rfl ?_
              refine va_get (D := D) (ci := 4) (v := .int (nI (mN1 q - 6 * k))) (C := RX4) (T := TX4) (N := 9) hx hb hts iX4 hown hK hP 0 rfl rfl 1 (by decide) f32 (fun _ h9 => h9) rfl dX4_pass_118 ?_
              refine lv_bipush (v := nI 6) hx hb dX4_pass_121 (by decide +kernel) ?_
              refine k_isub hx hb (nI (mN1 q - 6 * k - 6)) (pk_sub (by omega)) dX4_pass_123 ?_
              refine va_put (D := D) (ci := 4) (v := .int (nI (mN1 q - 6 * k - 6))) (ty := .int) (C := RX4) (T := TX4) (N := 9) hx hb hts iX4 tyX4 tyX4_ok nmX4 hown hK hP hD hS 0 rfl rfl 1 (by decide) f32 (fun _ h9 => h9) rfl (by decide +kernel) rfl rfl (Nat.le_of_ble_eq_true rfl) dX4_pass_124 (fun H locs hP hD hS => ?_)
              have hP : va_P D vwCl ([(s, .inr (4, [.int (nI (stI q)), .int (nI (mN1 q - 6 * k - 6)), .int (stO q + nI k), .int (stV q + nI ((mB1 q).length - (mB2 q).length)), .int (nI (stG q)), .int (nI (stS q)), .int (stM q), .ref qm, .ref ta])), (qm, .inl (cQ, (lfN (stS q) (stG q) (stM q) Rb Rb.length).length, .inr (.inr (.inr (.inr (qf (ad (lfN (stS q) (stG q) (stM q) Rb Rb.length)))))))), (ta, .inl (cQ, Rt.length, .inr (.inr (.inr (.inr (qf (ad Rt)))))))] ++ ((sT cI ((lfN (stS q) (stG q) (stM q) Rb Rb.length).map bq) (Rt.map tq)) ++ [])) H := hP
              have hD : va_D A ([(s, .inr (4, [.int (nI (stI q)), .int (nI (mN1 q - 6 * k - 6)), .int (stO q + nI k), .int (stV q + nI ((mB1 q).length - (mB2 q).length)), .int (nI (stG q)), .int (nI (stS q)), .int (stM q), .ref qm, .ref ta])), (qm, .inl (cQ, (lfN (stS q) (stG q) (stM q) Rb Rb.length).length, .inr (.inr (.inr (.inr (qf (ad (lfN (stS q) (stG q) (stM q) Rb Rb.length)))))))), (ta, .inl (cQ, Rt.length, .inr (.inr (.inr (.inr (qf (ad Rt)))))))] ++ ((sT cI ((lfN (stS q) (stG q) (stM q) Rb Rb.length).map bq) (Rt.map tq)) ++ [])) := hD
              refine lv_aload_n hx hb dX4_pass_127 rfl (lv_at hl 0 rfl) ?_
              refine lv_dup hx hb dX4_pass_128 rfl ?_
              refine va_get (D := D) (ci := 4) (v := .int (stO q + nI k)) (C := RX4) (T := TX4) (N := 9) hx hb hts iX4 hown hK hP 0 rfl rfl 2 (by decide) f35 (fun _ h9 => h9) rfl dX4_pass_129 ?_
              refine lv_iconst (v := nI 1) hx hb dX4_pass_132 (by decide +kernel) ?_
              refine k_iadd hx hb ((stO q + nI k) + (nI 1)) (rfl) dX4_pass_133 ?_
              refine va_put (D := D) (ci := 4) (v := .int ((stO q + nI k) + (nI 1))) (ty := .int) (C := RX4) (T := TX4) (N := 9) hx hb hts iX4 tyX4 tyX4_ok nmX4 hown hK hP hD hS 0 rfl rfl 2 (by decide) f35 (fun _ h9 => h9) rfl (by decide +kernel) rfl rfl (Nat.le_of_ble_eq_true rfl) dX4_pass_134 (fun H locs hP hD hS => ?_)
              have hP : va_P D vwCl ([(s, .inr (4, [.int (nI (stI q)), .int (nI (mN1 q - 6 * k - 6)), .int ((stO q + nI k) + (nI 1)), .int (stV q + nI ((mB1 q).length - (mB2 q).length)), .int (nI (stG q)), .int (nI (stS q)), .int (stM q), .ref qm, .ref ta])), (qm, .inl (cQ, (lfN (stS q) (stG q) (stM q) Rb Rb.length).length, .inr (.inr (.inr (.inr (qf (ad (lfN (stS q) (stG q) (stM q) Rb Rb.length)))))))), (ta, .inl (cQ, Rt.length, .inr (.inr (.inr (.inr (qf (ad Rt)))))))] ++ ((sT cI ((lfN (stS q) (stG q) (stM q) Rb Rb.length).map bq) (Rt.map tq)) ++ [])) H := hP
              have hD : va_D A ([(s, .inr (4, [.int (nI (stI q)), .int (nI (mN1 q - 6 * k - 6)), .int ((stO q + nI k) + (nI 1)), .int (stV q + nI ((mB1 q).length - (mB2 q).length)), .int (nI (stG q)), .int (nI (stS q)), .int (stM q), .ref qm, .ref ta])), (qm, .inl (cQ, (lfN (stS q) (stG q) (stM q) Rb Rb.length).length, .inr (.inr (.inr (.inr (qf (ad (lfN (stS q) (stG q) (stM q) Rb Rb.length)))))))), (ta, .inl (cQ, Rt.length, .inr (.inr (.inr (.inr (qf (ad Rt)))))))] ++ ((sT cI ((lfN (stS q) (stG q) (stM q) Rb Rb.length).map bq) (Rt.map tq)) ++ [])) := hD
              refine lv_goto (tgt := 108) hx hb dX4_pass_137 (by decide) ?_
              have e9a : mN1 q - 6 * (k + 1) = mN1 q - 6 * k - 6 := by omega
              have e9b : stO q + nI (k + 1) = stO q + nI k + nI 1 := (i_add _ _ _).symm
              exact ih (k + 1) (by omega) (by omega) _ _ (z_subP hP [0, 1, 2] (by rw [e9a, e9b]; rfl)) (z_subD hD [0, 1, 2] (by decide) (by rw [e9a, e9b]; rfl)) hS _ (lv_sub hl [0] (rfl))
        have hP := z_PS (z_sel (rS_lf (me := stM q) hg) rS.rf) hP
        have hD := z_DS (z_sel (rS_lf (me := stM q) hg) rS.rf) hD
        have e1 : stN q + (Rb.length - (gnN (stS q) (stG q) Rb Rb.length).length) = mN1 q - 6 * 0 := by rw [gn_B1 hQ.1, mN1, hQ.1, sn_len]; rfl
        have e2 : (gnN (stS q) (stG q) Rb Rb.length).length - (lfN (stS q) (stG q) (stM q) Rb Rb.length).length = (mB1 q).length - (mB2 q).length := by rw [gn_B1 hQ.1, ← lf_B2 hQ.1, sn_len]
        have e3 : stO q + nI 0 = stO q := by rw [nI_0]; exact Int32.add_zero _
        exact loop_3 ((mN1 q) + 1) 0 (by omega) (by omega) _ _ (z_subP hP [0, 3, 2] (by rw [e1, e2, e3]; rfl)) (z_subD hD [0, 3, 2] (by decide) (by rw [e1, e2, e3]; rfl)) hS _ (lv_sub hl [0] (rfl))
      · skip
        have h99 := stB_okB hQ.1 hO c_13
        have hdl := Nat.div_le_self (Rb.getD i bd).2.2 (stG q)
        refine lv_aload_n hx hb dX4_pass_16 rfl (lv_at hl 0 rfl) ?_
        refine va_get (D := D) (ci := 4) (v := .ref ba) (C := RX4) (T := TX4) (N := 9) hx hb hts iX4 hown hK hP 0 rfl rfl 7 (by decide) f21 (fun _ h9 => h9) rfl dX4_pass_17 ?_
        refine lv_iload_n hx hb dX4_pass_20 rfl (lv_at hl 2 rfl) ?_
        refine z_qld hx hb hK hP 1 1 rfl rfl i rfl (c_13) (by omega) ((Rb.getD i bd).1) (ad_q c_13) dX4_pass_21 ?_
        refine lv_astore_n (lv' := [(3, .ref ((Rb.getD i bd).1)), (0, .ref s), (1, .ref qm), (2, .int (nI i))]) hx hb dX4_pass_22 rfl hl (by decide) rfl (fun ls hl => ?_)
        refine lv_iload_n hx hb dX4_pass_23 rfl (lv_at hl 3 rfl) ?_
        refine lv_aload_n hx hb dX4_pass_24 rfl (lv_at hl 1 rfl) ?_
        refine va_get (D := D) (ci := 4) (v := .int (nI (stS q))) (C := RX4) (T := TX4) (N := 9) hx hb hts iX4 hown hK hP 0 rfl rfl 5 (by decide) f13 (fun _ h9 => h9) rfl dX4_pass_25 ?_
        refine k_cmp_ge (tgt := 42) hx hb i (stS q) rfl rfl (by omega) (by omega) dX4_pass_28 (by decide) (fun c_28 => ?_) (fun c_28 => ?_)
        · skip
          refine lv_aload_n hx hb dX4_pass_42 rfl (lv_at hl 0 rfl) ?_
          refine lv_iconst (v := nI 0) hx hb dX4_pass_43 (by decide +kernel) ?_
          refine z_bld hx hb hK hP 0 rfl i ((by rw [hg.1]; exact c_13)) ((congrArg Prod.fst (grd_1 hg c_13)).symm) 0 rfl (by decide) (nI ((Rb.getD i bd).2.2)) (z_rd1 (grd_1 hg c_13) rfl) dX4_pass_44 ?_
          refine lv_iconst (v := nI 2) hx hb dX4_pass_45 (by decide +kernel) ?_
          refine k_cmp_ge (tgt := 62) hx hb ((Rb.getD i bd).2.2) 2 rfl rfl (by omega) (by omega) dX4_pass_46 (by decide) (fun c_46 => ?_) (fun c_46 => ?_)
          · skip
            refine lv_aload_n hx hb dX4_pass_62 rfl (lv_at hl 0 rfl) ?_
            refine lv_iconst (v := nI 1) hx hb dX4_pass_63 (by decide +kernel) ?_
            refine z_bld hx hb hK hP 0 rfl i ((by rw [hg.1]; exact c_13)) ((congrArg Prod.fst (grd_1 hg c_13)).symm) 1 rfl (by decide) ((Rb.getD i bd).2.1) (z_rd1 (grd_1 hg c_13) rfl) dX4_pass_64 ?_
            refine lv_if_ne (tgt := 91) hx hb dX4_pass_65 (by decide) (fun c_65 => ?_) (fun c_65 => ?_)
            · skip
              refine lv_aload_n hx hb dX4_pass_91 rfl (lv_at hl 2 rfl) ?_
              refine lv_aload_n hx hb dX4_pass_92 rfl (lv_at hl 0 rfl) ?_
              have ez : gnZ (stS q) (stG q) (sn Rb) i = (Rb.getD i bd).2.2 := gnZ_ge (by omega)
              have hgz : grd (stS q) (stG q) Rb (RB) (i + 1) := grd_k hg c_13 ez
              refine kz_callS (As := [.ref qm, .ref ((Rb.getD i bd).1)]) (rest := []) (wp := [(s, .inr (4, [.int (nI (stI q)), .int (nI (stN q + (i - (gnN (stS q) (stG q) Rb i).length))), .int (stO q), .int (stV q + nI ((gnN (stS q) (stG q) Rb i).length - (lfN (stS q) (stG q) (stM q) Rb i).length)), .int (nI (stG q)), .int (nI (stS q)), .int (stM q), .ref ba, .ref ta])), (ba, .inl (cQ, Rb.length, .inr (.inr (.inr (.inr (qf (ad Rb))))))), (ta, .inl (cQ, Rt.length, .inr (.inr (.inr (.inr (qf (ad Rt))))))), (qm, .inl (cQ, (lfN (stS q) (stG q) (stM q) Rb i).length, .inr (.inr (.inr (.inr (qf (ad (lfN (stS q) (stG q) (stM q) Rb i))))))))]) (wc := [(qm, .inl (cQ, (lfN (stS q) (stG q) (stM q) Rb i).length, .inr (.inr (.inr (.inr (qf (ad (lfN (stS q) (stG q) (stM q) Rb i))))))))]) (wr := [(s, .inr (4, [.int (nI (stI q)), .int (nI (stN q + (i - (gnN (stS q) (stG q) Rb i).length))), .int (stO q), .int (stV q + nI ((gnN (stS q) (stG q) Rb i).length - (lfN (stS q) (stG q) (stM q) Rb i).length)), .int (nI (stG q)), .int (nI (stS q)), .int (stM q), .ref ba, .ref ta])), (ba, .inl (cQ, Rb.length, .inr (.inr (.inr (.inr (qf (ad Rb))))))), (ta, .inl (cQ, Rt.length, .inr (.inr (.inr (.inr (qf (ad Rt)))))))]) (Z := ((sT cI RB (Rt.map tq)) ++ [])) (X0 := ((sT cI RB (Rt.map tq)) ++ [])) (Y := []) (wc1 := (fun (u : Nat) => [(qm, .inl (cQ, (lfN (stS q) (stG q) (stM q) Rb i).length, .inr (.inr (.inr (.inr (qf (ad (lfN (stS q) (stG q) (stM q) Rb i)))))))), (u, .inl (cQ, ((lfN (stS q) (stG q) (stM q) Rb i).length) + 1, .inr (.inr (.inr (.inr (qf ((ad (lfN (stS q) (stG q) (stM q) Rb i)) ++ [((Rb.getD i bd).1)])))))))])) (X1 := (fun (u : Nat) => ((sT cI RB (Rt.map tq)) ++ []))) F (c_X4_with l D cI cQ qm ((Rb.getD i bd).1) ((lfN (stS q) (stG q) (stM q) Rb i).length) (ad (lfN (stS q) (stG q) (stM q) Rb i)) ((sT cI RB (Rt.map tq)) ++ []) (zL_B.sub (fun a ha => by rw [grd_ad hgz]; exact cons_mem (ad_mem c_13) (lf_adL i (by omega)) a ha)) ((ad_len _).symm) (by rw [ad_len]; have := lf_le (stS q) (stG q) (stM q) Rb i; have := gn_le (stS q) (stG q) Rb i; omega)) gX4_pass_X4_with rfl (nA := 2) (by decide +kernel) rfl ⟨Nat.le_of_ble_eq_true rfl, Nat.le_of_ble_eq_true rfl⟩ hK hP hD hS hA hG [3] [0, 1, 2] rfl (by decide) z_permnil rfl (fun _ => rfl) [0, 1] rfl rfl hl.1 (Nat.le_of_ble_eq_true rfl) dX4_pass_93 ⟨(show cl + 1 ≤ 25 by omega), (show sl + 13 ≤ 246 by omega)⟩ (fun r_9 u H locs hr_93 hP hD hS => ?_)
              obtain ⟨na_93, rfl⟩ : ∃ z, z = u := ⟨_, rfl⟩
              try dsimp only at hr_93
              have hP := z_PS z_nil hP
              have hD := z_DS z_nil hD
              have hP : va_P D vwCl ([(s, .inr (4, [.int (nI (stI q)), .int (nI (stN q + (i - (gnN (stS q) (stG q) Rb i).length))), .int (stO q), .int (stV q + nI ((gnN (stS q) (stG q) Rb i).length - (lfN (stS q) (stG q) (stM q) Rb i).length)), .int (nI (stG q)), .int (nI (stS q)), .int (stM q), .ref ba, .ref ta])), (ba, .inl (cQ, Rb.length, .inr (.inr (.inr (.inr (qf (ad Rb))))))), (ta, .inl (cQ, Rt.length, .inr (.inr (.inr (.inr (qf (ad Rt))))))), (qm, .inl (cQ, (lfN (stS q) (stG q) (stM q) Rb i).length, .inr (.inr (.inr (.inr (qf (ad (lfN (stS q) (stG q) (stM q) Rb i)))))))), (na_93, .inl (cQ, ((lfN (stS q) (stG q) (stM q) Rb i).length) + 1, .inr (.inr (.inr (.inr (qf ((ad (lfN (stS q) (stG q) (stM q) Rb i)) ++ [((Rb.getD i bd).1)])))))))] ++ ((sT cI RB (Rt.map tq)) ++ [])) H := hP
              have hD : va_D A ([(s, .inr (4, [.int (nI (stI q)), .int (nI (stN q + (i - (gnN (stS q) (stG q) Rb i).length))), .int (stO q), .int (stV q + nI ((gnN (stS q) (stG q) Rb i).length - (lfN (stS q) (stG q) (stM q) Rb i).length)), .int (nI (stG q)), .int (nI (stS q)), .int (stM q), .ref ba, .ref ta])), (ba, .inl (cQ, Rb.length, .inr (.inr (.inr (.inr (qf (ad Rb))))))), (ta, .inl (cQ, Rt.length, .inr (.inr (.inr (.inr (qf (ad Rt))))))), (qm, .inl (cQ, (lfN (stS q) (stG q) (stM q) Rb i).length, .inr (.inr (.inr (.inr (qf (ad (lfN (stS q) (stG q) (stM q) Rb i)))))))), (na_93, .inl (cQ, ((lfN (stS q) (stG q) (stM q) Rb i).length) + 1, .inr (.inr (.inr (.inr (qf ((ad (lfN (stS q) (stG q) (stM q) Rb i)) ++ [((Rb.getD i bd).1)])))))))] ++ ((sT cI RB (Rt.map tq)) ++ [])) := hD
              refine W.eq (g2 := F0 m 96 ls [.ref r_9]) rfl ?_
              refine W.widen (k := cl + 1) (n := sl + 13) (Nat.le_refl _) (Nat.le_refl _) ?_
              refine k_topR (v := na_93) hr_93 ?_
              refine lv_astore_n (lv' := [(1, .ref na_93), (3, .ref ((Rb.getD i bd).1)), (0, .ref s), (2, .int (nI i))]) hx hb dX4_pass_96 rfl hl (by decide) rfl (fun ls hl => ?_)
              refine lv_iinc (v := nI (i + 1)) (lv' := [(2, .int (nI (i + 1))), (1, .ref na_93), (3, .ref ((Rb.getD i bd).1)), (0, .ref s)]) hx hb dX4_pass_97 hl (k := 3) rfl (nI_1 _) (by decide) rfl (fun ls hl => ?_)
              refine lv_goto (tgt := 7) hx hb dX4_pass_100 (by decide) ?_
              have ez : gnZ (stS q) (stG q) (sn Rb) i = (Rb.getD i bd).2.2 := gnZ_ge (by omega)
              have h9 : 2 ≤ gnZ (stS q) (stG q) (sn Rb) i := by omega
              have el := lf_s1 (st := stS q) (g := stG q) (me := stM q) (R := Rb) (i := i) h9 (fun h => c_65 h.1)
              have eg := gn_s1 (R := Rb) h9
              have hl1 := lf_le (stS q) (stG q) (stM q) Rb i
              have hl2 := lf_le (stS q) (stG q) (stM q) Rb (i + 1)
              have hl3 := gn_le (stS q) (stG q) Rb i
              have hl4 := gn_le (stS q) (stG q) Rb (i + 1)
              have en : stN q + (i + 1 - (gnN (stS q) (stG q) Rb (i + 1)).length) = stN q + (i - (gnN (stS q) (stG q) Rb i).length) := by rw [eg]; omega
              have es : (gnN (stS q) (stG q) Rb (i + 1)).length - (lfN (stS q) (stG q) (stM q) Rb (i + 1)).length = (gnN (stS q) (stG q) Rb i).length - (lfN (stS q) (stG q) (stM q) Rb i).length := by rw [eg, el, List.length_append]; show _ + 1 - (_ + 1) = _; omega
              exact ih (cl + 1) (sl + 13) (i + 1) na_93 (RB) (by omega) (by omega) (grd_k hg c_13 ez) (by omega) _ _ (z_subP hP [0, 1, 2, 4] (by rw [en, es, el, ad_app, List.length_append]; rfl)) (z_subD hD [0, 1, 2, 4] (by decide) (by rw [en, es, el, ad_app, List.length_append]; rfl)) hS _ (lv_sub hl [3, 1, 0] (rfl))
            · skip
              refine lv_aload_n hx hb dX4_pass_68 rfl (lv_at hl 0 rfl) ?_
              refine lv_iconst (v := nI 0) hx hb dX4_pass_69 (by decide +kernel) ?_
              refine z_bld hx hb hK hP 0 rfl i ((by rw [hg.1]; exact c_13)) ((congrArg Prod.fst (grd_1 hg c_13)).symm) 0 rfl (by decide) (nI ((Rb.getD i bd).2.2)) (z_rd1 (grd_1 hg c_13) rfl) dX4_pass_70 ?_
              refine lv_aload_n hx hb dX4_pass_71 rfl (lv_at hl 1 rfl) ?_
              refine va_get (D := D) (ci := 4) (v := .int (stM q)) (C := RX4) (T := TX4) (N := 9) hx hb hts iX4 hown hK hP 0 rfl rfl 6 (by decide) f16 (fun _ h9 => h9) rfl dX4_pass_72 ?_
              refine lv_icmp_ge (tgt := 91) hx hb dX4_pass_75 (by decide) (fun c_75 => ?_) (fun c_75 => ?_)
              · skip
                refine lv_aload_n hx hb dX4_pass_91 rfl (lv_at hl 2 rfl) ?_
                refine lv_aload_n hx hb dX4_pass_92 rfl (lv_at hl 0 rfl) ?_
                have ez : gnZ (stS q) (stG q) (sn Rb) i = (Rb.getD i bd).2.2 := gnZ_ge (by omega)
                have hgz : grd (stS q) (stG q) Rb (RB) (i + 1) := grd_k hg c_13 ez
                refine kz_callS (As := [.ref qm, .ref ((Rb.getD i bd).1)]) (rest := []) (wp := [(s, .inr (4, [.int (nI (stI q)), .int (nI (stN q + (i - (gnN (stS q) (stG q) Rb i).length))), .int (stO q), .int (stV q + nI ((gnN (stS q) (stG q) Rb i).length - (lfN (stS q) (stG q) (stM q) Rb i).length)), .int (nI (stG q)), .int (nI (stS q)), .int (stM q), .ref ba, .ref ta])), (ba, .inl (cQ, Rb.length, .inr (.inr (.inr (.inr (qf (ad Rb))))))), (ta, .inl (cQ, Rt.length, .inr (.inr (.inr (.inr (qf (ad Rt))))))), (qm, .inl (cQ, (lfN (stS q) (stG q) (stM q) Rb i).length, .inr (.inr (.inr (.inr (qf (ad (lfN (stS q) (stG q) (stM q) Rb i))))))))]) (wc := [(qm, .inl (cQ, (lfN (stS q) (stG q) (stM q) Rb i).length, .inr (.inr (.inr (.inr (qf (ad (lfN (stS q) (stG q) (stM q) Rb i))))))))]) (wr := [(s, .inr (4, [.int (nI (stI q)), .int (nI (stN q + (i - (gnN (stS q) (stG q) Rb i).length))), .int (stO q), .int (stV q + nI ((gnN (stS q) (stG q) Rb i).length - (lfN (stS q) (stG q) (stM q) Rb i).length)), .int (nI (stG q)), .int (nI (stS q)), .int (stM q), .ref ba, .ref ta])), (ba, .inl (cQ, Rb.length, .inr (.inr (.inr (.inr (qf (ad Rb))))))), (ta, .inl (cQ, Rt.length, .inr (.inr (.inr (.inr (qf (ad Rt)))))))]) (Z := ((sT cI RB (Rt.map tq)) ++ [])) (X0 := ((sT cI RB (Rt.map tq)) ++ [])) (Y := []) (wc1 := (fun (u : Nat) => [(qm, .inl (cQ, (lfN (stS q) (stG q) (stM q) Rb i).length, .inr (.inr (.inr (.inr (qf (ad (lfN (stS q) (stG q) (stM q) Rb i)))))))), (u, .inl (cQ, ((lfN (stS q) (stG q) (stM q) Rb i).length) + 1, .inr (.inr (.inr (.inr (qf ((ad (lfN (stS q) (stG q) (stM q) Rb i)) ++ [((Rb.getD i bd).1)])))))))])) (X1 := (fun (u : Nat) => ((sT cI RB (Rt.map tq)) ++ []))) F (c_X4_with l D cI cQ qm ((Rb.getD i bd).1) ((lfN (stS q) (stG q) (stM q) Rb i).length) (ad (lfN (stS q) (stG q) (stM q) Rb i)) ((sT cI RB (Rt.map tq)) ++ []) (zL_B.sub (fun a ha => by rw [grd_ad hgz]; exact cons_mem (ad_mem c_13) (lf_adL i (by omega)) a ha)) ((ad_len _).symm) (by rw [ad_len]; have := lf_le (stS q) (stG q) (stM q) Rb i; have := gn_le (stS q) (stG q) Rb i; omega)) gX4_pass_X4_with rfl (nA := 2) (by decide +kernel) rfl ⟨Nat.le_of_ble_eq_true rfl, Nat.le_of_ble_eq_true rfl⟩ hK hP hD hS hA hG [3] [0, 1, 2] rfl (by decide) z_permnil rfl (fun _ => rfl) [0, 1] rfl rfl hl.1 (Nat.le_of_ble_eq_true rfl) dX4_pass_93 ⟨(show cl + 1 ≤ 25 by omega), (show sl + 13 ≤ 246 by omega)⟩ (fun r_10 u H locs hr_93 hP hD hS => ?_)
                obtain ⟨na_93, rfl⟩ : ∃ z, z = u := ⟨_, rfl⟩
                try dsimp only at hr_93
                have hP := z_PS z_nil hP
                have hD := z_DS z_nil hD
                have hP : va_P D vwCl ([(s, .inr (4, [.int (nI (stI q)), .int (nI (stN q + (i - (gnN (stS q) (stG q) Rb i).length))), .int (stO q), .int (stV q + nI ((gnN (stS q) (stG q) Rb i).length - (lfN (stS q) (stG q) (stM q) Rb i).length)), .int (nI (stG q)), .int (nI (stS q)), .int (stM q), .ref ba, .ref ta])), (ba, .inl (cQ, Rb.length, .inr (.inr (.inr (.inr (qf (ad Rb))))))), (ta, .inl (cQ, Rt.length, .inr (.inr (.inr (.inr (qf (ad Rt))))))), (qm, .inl (cQ, (lfN (stS q) (stG q) (stM q) Rb i).length, .inr (.inr (.inr (.inr (qf (ad (lfN (stS q) (stG q) (stM q) Rb i)))))))), (na_93, .inl (cQ, ((lfN (stS q) (stG q) (stM q) Rb i).length) + 1, .inr (.inr (.inr (.inr (qf ((ad (lfN (stS q) (stG q) (stM q) Rb i)) ++ [((Rb.getD i bd).1)])))))))] ++ ((sT cI RB (Rt.map tq)) ++ [])) H := hP
                have hD : va_D A ([(s, .inr (4, [.int (nI (stI q)), .int (nI (stN q + (i - (gnN (stS q) (stG q) Rb i).length))), .int (stO q), .int (stV q + nI ((gnN (stS q) (stG q) Rb i).length - (lfN (stS q) (stG q) (stM q) Rb i).length)), .int (nI (stG q)), .int (nI (stS q)), .int (stM q), .ref ba, .ref ta])), (ba, .inl (cQ, Rb.length, .inr (.inr (.inr (.inr (qf (ad Rb))))))), (ta, .inl (cQ, Rt.length, .inr (.inr (.inr (.inr (qf (ad Rt))))))), (qm, .inl (cQ, (lfN (stS q) (stG q) (stM q) Rb i).length, .inr (.inr (.inr (.inr (qf (ad (lfN (stS q) (stG q) (stM q) Rb i)))))))), (na_93, .inl (cQ, ((lfN (stS q) (stG q) (stM q) Rb i).length) + 1, .inr (.inr (.inr (.inr (qf ((ad (lfN (stS q) (stG q) (stM q) Rb i)) ++ [((Rb.getD i bd).1)])))))))] ++ ((sT cI RB (Rt.map tq)) ++ [])) := hD
                refine W.eq (g2 := F0 m 96 ls [.ref r_10]) rfl ?_
                refine W.widen (k := cl + 1) (n := sl + 13) (Nat.le_refl _) (Nat.le_refl _) ?_
                refine k_topR (v := na_93) hr_93 ?_
                refine lv_astore_n (lv' := [(1, .ref na_93), (3, .ref ((Rb.getD i bd).1)), (0, .ref s), (2, .int (nI i))]) hx hb dX4_pass_96 rfl hl (by decide) rfl (fun ls hl => ?_)
                refine lv_iinc (v := nI (i + 1)) (lv' := [(2, .int (nI (i + 1))), (1, .ref na_93), (3, .ref ((Rb.getD i bd).1)), (0, .ref s)]) hx hb dX4_pass_97 hl (k := 3) rfl (nI_1 _) (by decide) rfl (fun ls hl => ?_)
                refine lv_goto (tgt := 7) hx hb dX4_pass_100 (by decide) ?_
                have ez : gnZ (stS q) (stG q) (sn Rb) i = (Rb.getD i bd).2.2 := gnZ_ge (by omega)
                have h9 : 2 ≤ gnZ (stS q) (stG q) (sn Rb) i := by omega
                have el := lf_s1 (st := stS q) (g := stG q) (me := stM q) (R := Rb) (i := i) h9 (fun h => by rw [ez] at h; exact absurd h.2 (Int32.not_lt.mpr c_75))
                have eg := gn_s1 (R := Rb) h9
                have hl1 := lf_le (stS q) (stG q) (stM q) Rb i
                have hl2 := lf_le (stS q) (stG q) (stM q) Rb (i + 1)
                have hl3 := gn_le (stS q) (stG q) Rb i
                have hl4 := gn_le (stS q) (stG q) Rb (i + 1)
                have en : stN q + (i + 1 - (gnN (stS q) (stG q) Rb (i + 1)).length) = stN q + (i - (gnN (stS q) (stG q) Rb i).length) := by rw [eg]; omega
                have es : (gnN (stS q) (stG q) Rb (i + 1)).length - (lfN (stS q) (stG q) (stM q) Rb (i + 1)).length = (gnN (stS q) (stG q) Rb i).length - (lfN (stS q) (stG q) (stM q) Rb i).length := by rw [eg, el, List.length_append]; show _ + 1 - (_ + 1) = _; omega
                exact ih (cl + 1) (sl + 13) (i + 1) na_93 (RB) (by omega) (by omega) (grd_k hg c_13 ez) (by omega) _ _ (z_subP hP [0, 1, 2, 4] (by rw [en, es, el, ad_app, List.length_append]; rfl)) (z_subD hD [0, 1, 2, 4] (by decide) (by rw [en, es, el, ad_app, List.length_append]; rfl)) hS _ (lv_sub hl [3, 1, 0] (rfl))
              · skip
                refine lv_aload_n hx hb dX4_pass_78 rfl (lv_at hl 1 rfl) ?_
                refine lv_dup hx hb dX4_pass_79 rfl ?_
                refine va_get (D := D) (ci := 4) (v := .int (stV q + nI ((gnN (stS q) (stG q) Rb i).length - (lfN (stS q) (stG q) (stM q) Rb i).length))) (C := RX4) (T := TX4) (N := 9) hx hb hts iX4 hown hK hP 0 rfl rfl 3 (by decide) f38 (fun _ h9 => h9) rfl dX4_pass_80 ?_
                refine lv_iconst (v := nI 1) hx hb dX4_pass_83 (by decide +kernel) ?_
                refine k_iadd hx hb (stV q + nI ((gnN (stS q) (stG q) Rb i).length - (lfN (stS q) (stG q) (stM q) Rb i).length + 1)) (i_add _ _ _) dX4_pass_84 ?_
                refine va_put (D := D) (ci := 4) (v := .int (stV q + nI ((gnN (stS q) (stG q) Rb i).length - (lfN (stS q) (stG q) (stM q) Rb i).length + 1))) (ty := .int) (C := RX4) (T := TX4) (N := 9) hx hb hts iX4 tyX4 tyX4_ok nmX4 hown hK hP hD hS 0 rfl rfl 3 (by decide) f38 (fun _ h9 => h9) rfl (by decide +kernel) rfl rfl (Nat.le_of_ble_eq_true rfl) dX4_pass_85 (fun H locs hP hD hS => ?_)
                have hP : va_P D vwCl ([(s, .inr (4, [.int (nI (stI q)), .int (nI (stN q + (i - (gnN (stS q) (stG q) Rb i).length))), .int (stO q), .int (stV q + nI ((gnN (stS q) (stG q) Rb i).length - (lfN (stS q) (stG q) (stM q) Rb i).length + 1)), .int (nI (stG q)), .int (nI (stS q)), .int (stM q), .ref ba, .ref ta])), (ba, .inl (cQ, Rb.length, .inr (.inr (.inr (.inr (qf (ad Rb))))))), (ta, .inl (cQ, Rt.length, .inr (.inr (.inr (.inr (qf (ad Rt))))))), (qm, .inl (cQ, (lfN (stS q) (stG q) (stM q) Rb i).length, .inr (.inr (.inr (.inr (qf (ad (lfN (stS q) (stG q) (stM q) Rb i))))))))] ++ ((sT cI RB (Rt.map tq)) ++ [])) H := hP
                have hD : va_D A ([(s, .inr (4, [.int (nI (stI q)), .int (nI (stN q + (i - (gnN (stS q) (stG q) Rb i).length))), .int (stO q), .int (stV q + nI ((gnN (stS q) (stG q) Rb i).length - (lfN (stS q) (stG q) (stM q) Rb i).length + 1)), .int (nI (stG q)), .int (nI (stS q)), .int (stM q), .ref ba, .ref ta])), (ba, .inl (cQ, Rb.length, .inr (.inr (.inr (.inr (qf (ad Rb))))))), (ta, .inl (cQ, Rt.length, .inr (.inr (.inr (.inr (qf (ad Rt))))))), (qm, .inl (cQ, (lfN (stS q) (stG q) (stM q) Rb i).length, .inr (.inr (.inr (.inr (qf (ad (lfN (stS q) (stG q) (stM q) Rb i))))))))] ++ ((sT cI RB (Rt.map tq)) ++ [])) := hD
                refine lv_goto (tgt := 97) hx hb dX4_pass_88 (by decide) ?_
                refine lv_iinc (v := nI (i + 1)) (lv' := [(2, .int (nI (i + 1))), (3, .ref ((Rb.getD i bd).1)), (0, .ref s), (1, .ref qm)]) hx hb dX4_pass_97 hl (k := 3) rfl (nI_1 _) (by decide) rfl (fun ls hl => ?_)
                refine lv_goto (tgt := 7) hx hb dX4_pass_100 (by decide) ?_
                have ez : gnZ (stS q) (stG q) (sn Rb) i = (Rb.getD i bd).2.2 := gnZ_ge (by omega)
                have h9 : 2 ≤ gnZ (stS q) (stG q) (sn Rb) i := by omega
                have el := lf_s0 (st := stS q) (g := stG q) (me := stM q) (R := Rb) (i := i) (fun h => h.2 ⟨c_65, by rw [ez]; exact Int32.not_le.mp c_75⟩)
                have eg := gn_s1 (R := Rb) h9
                have hl1 := lf_le (stS q) (stG q) (stM q) Rb i
                have hl2 := lf_le (stS q) (stG q) (stM q) Rb (i + 1)
                have hl3 := gn_le (stS q) (stG q) Rb i
                have hl4 := gn_le (stS q) (stG q) Rb (i + 1)
                have en : stN q + (i + 1 - (gnN (stS q) (stG q) Rb (i + 1)).length) = stN q + (i - (gnN (stS q) (stG q) Rb i).length) := by rw [eg]; omega
                have es : (gnN (stS q) (stG q) Rb i).length - (lfN (stS q) (stG q) (stM q) Rb i).length + 1 = (gnN (stS q) (stG q) Rb (i + 1)).length - (lfN (stS q) (stG q) (stM q) Rb (i + 1)).length := by rw [eg, el]; omega
                exact ih cl sl (i + 1) qm (RB) (by omega) (by omega) (grd_k hg c_13 ez) (by omega) _ _ (z_subP hP [0, 1, 2, 3] (by rw [en, ← es, el]; rfl)) (z_subD hD [0, 1, 2, 3] (by decide) (by rw [en, ← es, el]; rfl)) hS _ (lv_sub hl [2, 3, 0] (rfl))
          · skip
            refine lv_aload_n hx hb dX4_pass_49 rfl (lv_at hl 1 rfl) ?_
            refine lv_dup hx hb dX4_pass_50 rfl ?_
            refine va_get (D := D) (ci := 4) (v := .int (nI (stN q + (i - (gnN (stS q) (stG q) Rb i).length)))) (C := RX4) (T := TX4) (N := 9) hx hb hts iX4 hown hK hP 0 rfl rfl 1 (by decide) f32 (fun _ h9 => h9) rfl dX4_pass_51 ?_
            refine lv_iconst (v := nI 1) hx hb dX4_pass_54 (by decide +kernel) ?_
            refine k_iadd hx hb (nI ((stN q + (i - (gnN (stS q) (stG q) Rb i).length)) + 1)) (nI_add _ _) dX4_pass_55 ?_
            refine va_put (D := D) (ci := 4) (v := .int (nI ((stN q + (i - (gnN (stS q) (stG q) Rb i).length)) + 1))) (ty := .int) (C := RX4) (T := TX4) (N := 9) hx hb hts iX4 tyX4 tyX4_ok nmX4 hown hK hP hD hS 0 rfl rfl 1 (by decide) f32 (fun _ h9 => h9) rfl (by decide +kernel) rfl rfl (Nat.le_of_ble_eq_true rfl) dX4_pass_56 (fun H locs hP hD hS => ?_)
            have hP : va_P D vwCl ([(s, .inr (4, [.int (nI (stI q)), .int (nI ((stN q + (i - (gnN (stS q) (stG q) Rb i).length)) + 1)), .int (stO q), .int (stV q + nI ((gnN (stS q) (stG q) Rb i).length - (lfN (stS q) (stG q) (stM q) Rb i).length)), .int (nI (stG q)), .int (nI (stS q)), .int (stM q), .ref ba, .ref ta])), (ba, .inl (cQ, Rb.length, .inr (.inr (.inr (.inr (qf (ad Rb))))))), (ta, .inl (cQ, Rt.length, .inr (.inr (.inr (.inr (qf (ad Rt))))))), (qm, .inl (cQ, (lfN (stS q) (stG q) (stM q) Rb i).length, .inr (.inr (.inr (.inr (qf (ad (lfN (stS q) (stG q) (stM q) Rb i))))))))] ++ ((sT cI RB (Rt.map tq)) ++ [])) H := hP
            have hD : va_D A ([(s, .inr (4, [.int (nI (stI q)), .int (nI ((stN q + (i - (gnN (stS q) (stG q) Rb i).length)) + 1)), .int (stO q), .int (stV q + nI ((gnN (stS q) (stG q) Rb i).length - (lfN (stS q) (stG q) (stM q) Rb i).length)), .int (nI (stG q)), .int (nI (stS q)), .int (stM q), .ref ba, .ref ta])), (ba, .inl (cQ, Rb.length, .inr (.inr (.inr (.inr (qf (ad Rb))))))), (ta, .inl (cQ, Rt.length, .inr (.inr (.inr (.inr (qf (ad Rt))))))), (qm, .inl (cQ, (lfN (stS q) (stG q) (stM q) Rb i).length, .inr (.inr (.inr (.inr (qf (ad (lfN (stS q) (stG q) (stM q) Rb i))))))))] ++ ((sT cI RB (Rt.map tq)) ++ [])) := hD
            refine lv_goto (tgt := 97) hx hb dX4_pass_59 (by decide) ?_
            refine lv_iinc (v := nI (i + 1)) (lv' := [(2, .int (nI (i + 1))), (3, .ref ((Rb.getD i bd).1)), (0, .ref s), (1, .ref qm)]) hx hb dX4_pass_97 hl (k := 3) rfl (nI_1 _) (by decide) rfl (fun ls hl => ?_)
            refine lv_goto (tgt := 7) hx hb dX4_pass_100 (by decide) ?_
            have ez : gnZ (stS q) (stG q) (sn Rb) i = (Rb.getD i bd).2.2 := gnZ_ge (by omega)
            have h9 : gnZ (stS q) (stG q) (sn Rb) i < 2 := by omega
            have el := lf_s0 (st := stS q) (g := stG q) (me := stM q) (R := Rb) (i := i) (fun h => by omega)
            have eg := gn_s0 (R := Rb) h9
            have hl1 := lf_le (stS q) (stG q) (stM q) Rb i
            have hl2 := lf_le (stS q) (stG q) (stM q) Rb (i + 1)
            have hl3 := gn_le (stS q) (stG q) Rb i
            have hl4 := gn_le (stS q) (stG q) Rb (i + 1)
            have en : stN q + (i - (gnN (stS q) (stG q) Rb i).length) + 1 = stN q + (i + 1 - (gnN (stS q) (stG q) Rb (i + 1)).length) := by rw [eg]; omega
            have es : (gnN (stS q) (stG q) Rb (i + 1)).length - (lfN (stS q) (stG q) (stM q) Rb (i + 1)).length = (gnN (stS q) (stG q) Rb i).length - (lfN (stS q) (stG q) (stM q) Rb i).length := by rw [eg, el]
            exact ih cl sl (i + 1) qm (RB) (by omega) (by omega) (grd_k hg c_13 ez) (by omega) _ _ (z_subP hP [0, 1, 2, 3] (by rw [← en, es, el]; rfl)) (z_subD hD [0, 1, 2, 3] (by decide) (by rw [← en, es, el]; rfl)) hS _ (lv_sub hl [2, 3, 0] (rfl))
        · skip
          refine lv_aload_n hx hb dX4_pass_31 rfl (lv_at hl 0 rfl) ?_
          refine lv_iconst (v := nI 0) hx hb dX4_pass_32 (by decide +kernel) ?_
          refine lv_aload_n hx hb dX4_pass_33 rfl (lv_at hl 0 rfl) ?_
          refine lv_iconst (v := nI 0) hx hb dX4_pass_34 (by decide +kernel) ?_
          refine z_bld hx hb hK hP 0 rfl i ((by rw [hg.1]; exact c_13)) ((congrArg Prod.fst (grd_1 hg c_13)).symm) 0 rfl (by decide) (nI ((Rb.getD i bd).2.2)) (z_rd1 (grd_1 hg c_13) rfl) dX4_pass_35 ?_
          refine lv_aload_n hx hb dX4_pass_36 rfl (lv_at hl 1 rfl) ?_
          refine va_get (D := D) (ci := 4) (v := .int (nI (stG q))) (C := RX4) (T := TX4) (N := 9) hx hb hts iX4 hown hK hP 0 rfl rfl 4 (by decide) f7 (fun _ h9 => h9) rfl dX4_pass_37 ?_
          refine k_idiv hx hb (nI ((Rb.getD i bd).2.2 / stG q)) (nI_ne0 (by omega) (by omega)) (pk_div (by omega) (by omega) (by omega)) dX4_pass_40 ?_
          refine z_bst hx hb hK hP hD hS 0 rfl i ((by rw [hg.1]; exact c_13)) ((congrArg Prod.fst (grd_1 hg c_13)).symm) 0 rfl (by decide) dX4_pass_41 (fun H locs hP hD hS => ?_)
          rw [z_w1 (grd_1 hg c_13)] at hP hD
          have hP : va_P D vwCl ([(s, .inr (4, [.int (nI (stI q)), .int (nI (stN q + (i - (gnN (stS q) (stG q) Rb i).length))), .int (stO q), .int (stV q + nI ((gnN (stS q) (stG q) Rb i).length - (lfN (stS q) (stG q) (stM q) Rb i).length)), .int (nI (stG q)), .int (nI (stS q)), .int (stM q), .ref ba, .ref ta])), (ba, .inl (cQ, Rb.length, .inr (.inr (.inr (.inr (qf (ad Rb))))))), (ta, .inl (cQ, Rt.length, .inr (.inr (.inr (.inr (qf (ad Rt))))))), (qm, .inl (cQ, (lfN (stS q) (stG q) (stM q) Rb i).length, .inr (.inr (.inr (.inr (qf (ad (lfN (stS q) (stG q) (stM q) Rb i))))))))] ++ ((sT cI (RB.set i ((Rb.getD i bd).1, upd (bf (Rb.getD i bd).2) 0 (nI ((Rb.getD i bd).2.2 / stG q)))) (Rt.map tq)) ++ [])) H := hP
          have hD : va_D A ([(s, .inr (4, [.int (nI (stI q)), .int (nI (stN q + (i - (gnN (stS q) (stG q) Rb i).length))), .int (stO q), .int (stV q + nI ((gnN (stS q) (stG q) Rb i).length - (lfN (stS q) (stG q) (stM q) Rb i).length)), .int (nI (stG q)), .int (nI (stS q)), .int (stM q), .ref ba, .ref ta])), (ba, .inl (cQ, Rb.length, .inr (.inr (.inr (.inr (qf (ad Rb))))))), (ta, .inl (cQ, Rt.length, .inr (.inr (.inr (.inr (qf (ad Rt))))))), (qm, .inl (cQ, (lfN (stS q) (stG q) (stM q) Rb i).length, .inr (.inr (.inr (.inr (qf (ad (lfN (stS q) (stG q) (stM q) Rb i))))))))] ++ ((sT cI (RB.set i ((Rb.getD i bd).1, upd (bf (Rb.getD i bd).2) 0 (nI ((Rb.getD i bd).2.2 / stG q)))) (Rt.map tq)) ++ [])) := hD
          refine lv_aload_n hx hb dX4_pass_42 rfl (lv_at hl 0 rfl) ?_
          refine lv_iconst (v := nI 0) hx hb dX4_pass_43 (by decide +kernel) ?_
          refine z_bld hx hb hK hP 0 rfl i ((by rw [List.length_set]; exact (by rw [hg.1]; exact c_13))) ((congrArg Prod.fst (z_g2 (by rw [hg.1]; exact c_13))).symm) 0 rfl (by decide) (nI ((Rb.getD i bd).2.2 / stG q)) (z_rd1 (z_g2 (by rw [hg.1]; exact c_13)) pk_us) dX4_pass_44 ?_
          refine lv_iconst (v := nI 2) hx hb dX4_pass_45 (by decide +kernel) ?_
          refine k_cmp_ge (tgt := 62) hx hb ((Rb.getD i bd).2.2 / stG q) 2 rfl rfl (by omega) (by omega) dX4_pass_46 (by decide) (fun c_46 => ?_) (fun c_46 => ?_)
          · skip
            refine lv_aload_n hx hb dX4_pass_62 rfl (lv_at hl 0 rfl) ?_
            refine lv_iconst (v := nI 1) hx hb dX4_pass_63 (by decide +kernel) ?_
            refine z_bld hx hb hK hP 0 rfl i ((by rw [List.length_set]; exact (by rw [hg.1]; exact c_13))) ((congrArg Prod.fst (z_g2 (by rw [hg.1]; exact c_13))).symm) 1 rfl (by decide) ((Rb.getD i bd).2.1) (z_rd1 (z_g2 (by rw [hg.1]; exact c_13)) ((pk_un (by decide)).trans rfl)) dX4_pass_64 ?_
            refine lv_if_ne (tgt := 91) hx hb dX4_pass_65 (by decide) (fun c_65 => ?_) (fun c_65 => ?_)
            · skip
              refine lv_aload_n hx hb dX4_pass_91 rfl (lv_at hl 2 rfl) ?_
              refine lv_aload_n hx hb dX4_pass_92 rfl (lv_at hl 0 rfl) ?_
              have ez : gnZ (stS q) (stG q) (sn Rb) i = (Rb.getD i bd).2.2 / stG q := gnZ_lt c_28
              have hgz : grd (stS q) (stG q) Rb (RB.set i ((Rb.getD i bd).1, upd (bf (Rb.getD i bd).2) 0 (nI ((Rb.getD i bd).2.2 / stG q)))) (i + 1) := grd_s hg c_13 (by rw [ez]; exact bf_set)
              refine kz_callS (As := [.ref qm, .ref ((Rb.getD i bd).1)]) (rest := []) (wp := [(s, .inr (4, [.int (nI (stI q)), .int (nI (stN q + (i - (gnN (stS q) (stG q) Rb i).length))), .int (stO q), .int (stV q + nI ((gnN (stS q) (stG q) Rb i).length - (lfN (stS q) (stG q) (stM q) Rb i).length)), .int (nI (stG q)), .int (nI (stS q)), .int (stM q), .ref ba, .ref ta])), (ba, .inl (cQ, Rb.length, .inr (.inr (.inr (.inr (qf (ad Rb))))))), (ta, .inl (cQ, Rt.length, .inr (.inr (.inr (.inr (qf (ad Rt))))))), (qm, .inl (cQ, (lfN (stS q) (stG q) (stM q) Rb i).length, .inr (.inr (.inr (.inr (qf (ad (lfN (stS q) (stG q) (stM q) Rb i))))))))]) (wc := [(qm, .inl (cQ, (lfN (stS q) (stG q) (stM q) Rb i).length, .inr (.inr (.inr (.inr (qf (ad (lfN (stS q) (stG q) (stM q) Rb i))))))))]) (wr := [(s, .inr (4, [.int (nI (stI q)), .int (nI (stN q + (i - (gnN (stS q) (stG q) Rb i).length))), .int (stO q), .int (stV q + nI ((gnN (stS q) (stG q) Rb i).length - (lfN (stS q) (stG q) (stM q) Rb i).length)), .int (nI (stG q)), .int (nI (stS q)), .int (stM q), .ref ba, .ref ta])), (ba, .inl (cQ, Rb.length, .inr (.inr (.inr (.inr (qf (ad Rb))))))), (ta, .inl (cQ, Rt.length, .inr (.inr (.inr (.inr (qf (ad Rt)))))))]) (Z := ((sT cI (RB.set i ((Rb.getD i bd).1, upd (bf (Rb.getD i bd).2) 0 (nI ((Rb.getD i bd).2.2 / stG q)))) (Rt.map tq)) ++ [])) (X0 := ((sT cI (RB.set i ((Rb.getD i bd).1, upd (bf (Rb.getD i bd).2) 0 (nI ((Rb.getD i bd).2.2 / stG q)))) (Rt.map tq)) ++ [])) (Y := []) (wc1 := (fun (u : Nat) => [(qm, .inl (cQ, (lfN (stS q) (stG q) (stM q) Rb i).length, .inr (.inr (.inr (.inr (qf (ad (lfN (stS q) (stG q) (stM q) Rb i)))))))), (u, .inl (cQ, ((lfN (stS q) (stG q) (stM q) Rb i).length) + 1, .inr (.inr (.inr (.inr (qf ((ad (lfN (stS q) (stG q) (stM q) Rb i)) ++ [((Rb.getD i bd).1)])))))))])) (X1 := (fun (u : Nat) => ((sT cI (RB.set i ((Rb.getD i bd).1, upd (bf (Rb.getD i bd).2) 0 (nI ((Rb.getD i bd).2.2 / stG q)))) (Rt.map tq)) ++ []))) F (c_X4_with l D cI cQ qm ((Rb.getD i bd).1) ((lfN (stS q) (stG q) (stM q) Rb i).length) (ad (lfN (stS q) (stG q) (stM q) Rb i)) ((sT cI (RB.set i ((Rb.getD i bd).1, upd (bf (Rb.getD i bd).2) 0 (nI ((Rb.getD i bd).2.2 / stG q)))) (Rt.map tq)) ++ []) (zL_B.sub (fun a ha => by rw [grd_ad hgz]; exact cons_mem (ad_mem c_13) (lf_adL i (by omega)) a ha)) ((ad_len _).symm) (by rw [ad_len]; have := lf_le (stS q) (stG q) (stM q) Rb i; have := gn_le (stS q) (stG q) Rb i; omega)) gX4_pass_X4_with rfl (nA := 2) (by decide +kernel) rfl ⟨Nat.le_of_ble_eq_true rfl, Nat.le_of_ble_eq_true rfl⟩ hK hP hD hS hA hG [3] [0, 1, 2] rfl (by decide) z_permnil rfl (fun _ => rfl) [0, 1] rfl rfl hl.1 (Nat.le_of_ble_eq_true rfl) dX4_pass_93 ⟨(show cl + 1 ≤ 25 by omega), (show sl + 13 ≤ 246 by omega)⟩ (fun r_11 u H locs hr_93 hP hD hS => ?_)
              obtain ⟨na_93, rfl⟩ : ∃ z, z = u := ⟨_, rfl⟩
              try dsimp only at hr_93
              have hP := z_PS z_nil hP
              have hD := z_DS z_nil hD
              have hP : va_P D vwCl ([(s, .inr (4, [.int (nI (stI q)), .int (nI (stN q + (i - (gnN (stS q) (stG q) Rb i).length))), .int (stO q), .int (stV q + nI ((gnN (stS q) (stG q) Rb i).length - (lfN (stS q) (stG q) (stM q) Rb i).length)), .int (nI (stG q)), .int (nI (stS q)), .int (stM q), .ref ba, .ref ta])), (ba, .inl (cQ, Rb.length, .inr (.inr (.inr (.inr (qf (ad Rb))))))), (ta, .inl (cQ, Rt.length, .inr (.inr (.inr (.inr (qf (ad Rt))))))), (qm, .inl (cQ, (lfN (stS q) (stG q) (stM q) Rb i).length, .inr (.inr (.inr (.inr (qf (ad (lfN (stS q) (stG q) (stM q) Rb i)))))))), (na_93, .inl (cQ, ((lfN (stS q) (stG q) (stM q) Rb i).length) + 1, .inr (.inr (.inr (.inr (qf ((ad (lfN (stS q) (stG q) (stM q) Rb i)) ++ [((Rb.getD i bd).1)])))))))] ++ ((sT cI (RB.set i ((Rb.getD i bd).1, upd (bf (Rb.getD i bd).2) 0 (nI ((Rb.getD i bd).2.2 / stG q)))) (Rt.map tq)) ++ [])) H := hP
              have hD : va_D A ([(s, .inr (4, [.int (nI (stI q)), .int (nI (stN q + (i - (gnN (stS q) (stG q) Rb i).length))), .int (stO q), .int (stV q + nI ((gnN (stS q) (stG q) Rb i).length - (lfN (stS q) (stG q) (stM q) Rb i).length)), .int (nI (stG q)), .int (nI (stS q)), .int (stM q), .ref ba, .ref ta])), (ba, .inl (cQ, Rb.length, .inr (.inr (.inr (.inr (qf (ad Rb))))))), (ta, .inl (cQ, Rt.length, .inr (.inr (.inr (.inr (qf (ad Rt))))))), (qm, .inl (cQ, (lfN (stS q) (stG q) (stM q) Rb i).length, .inr (.inr (.inr (.inr (qf (ad (lfN (stS q) (stG q) (stM q) Rb i)))))))), (na_93, .inl (cQ, ((lfN (stS q) (stG q) (stM q) Rb i).length) + 1, .inr (.inr (.inr (.inr (qf ((ad (lfN (stS q) (stG q) (stM q) Rb i)) ++ [((Rb.getD i bd).1)])))))))] ++ ((sT cI (RB.set i ((Rb.getD i bd).1, upd (bf (Rb.getD i bd).2) 0 (nI ((Rb.getD i bd).2.2 / stG q)))) (Rt.map tq)) ++ [])) := hD
              refine W.eq (g2 := F0 m 96 ls [.ref r_11]) rfl ?_
              refine W.widen (k := cl + 1) (n := sl + 13) (Nat.le_refl _) (Nat.le_refl _) ?_
              refine k_topR (v := na_93) hr_93 ?_
              refine lv_astore_n (lv' := [(1, .ref na_93), (3, .ref ((Rb.getD i bd).1)), (0, .ref s), (2, .int (nI i))]) hx hb dX4_pass_96 rfl hl (by decide) rfl (fun ls hl => ?_)
              refine lv_iinc (v := nI (i + 1)) (lv' := [(2, .int (nI (i + 1))), (1, .ref na_93), (3, .ref ((Rb.getD i bd).1)), (0, .ref s)]) hx hb dX4_pass_97 hl (k := 3) rfl (nI_1 _) (by decide) rfl (fun ls hl => ?_)
              refine lv_goto (tgt := 7) hx hb dX4_pass_100 (by decide) ?_
              have ez : gnZ (stS q) (stG q) (sn Rb) i = (Rb.getD i bd).2.2 / stG q := gnZ_lt c_28
              have h9 : 2 ≤ gnZ (stS q) (stG q) (sn Rb) i := by omega
              have el := lf_s1 (st := stS q) (g := stG q) (me := stM q) (R := Rb) (i := i) h9 (fun h => c_65 h.1)
              have eg := gn_s1 (R := Rb) h9
              have hl1 := lf_le (stS q) (stG q) (stM q) Rb i
              have hl2 := lf_le (stS q) (stG q) (stM q) Rb (i + 1)
              have hl3 := gn_le (stS q) (stG q) Rb i
              have hl4 := gn_le (stS q) (stG q) Rb (i + 1)
              have en : stN q + (i + 1 - (gnN (stS q) (stG q) Rb (i + 1)).length) = stN q + (i - (gnN (stS q) (stG q) Rb i).length) := by rw [eg]; omega
              have es : (gnN (stS q) (stG q) Rb (i + 1)).length - (lfN (stS q) (stG q) (stM q) Rb (i + 1)).length = (gnN (stS q) (stG q) Rb i).length - (lfN (stS q) (stG q) (stM q) Rb i).length := by rw [eg, el, List.length_append]; show _ + 1 - (_ + 1) = _; omega
              exact ih (cl + 1) (sl + 13) (i + 1) na_93 (RB.set i ((Rb.getD i bd).1, upd (bf (Rb.getD i bd).2) 0 (nI ((Rb.getD i bd).2.2 / stG q)))) (by omega) (by omega) (grd_s hg c_13 (by rw [ez]; exact bf_set)) (by omega) _ _ (z_subP hP [0, 1, 2, 4] (by rw [en, es, el, ad_app, List.length_append]; rfl)) (z_subD hD [0, 1, 2, 4] (by decide) (by rw [en, es, el, ad_app, List.length_append]; rfl)) hS _ (lv_sub hl [3, 1, 0] (rfl))
            · skip
              refine lv_aload_n hx hb dX4_pass_68 rfl (lv_at hl 0 rfl) ?_
              refine lv_iconst (v := nI 0) hx hb dX4_pass_69 (by decide +kernel) ?_
              refine z_bld hx hb hK hP 0 rfl i ((by rw [List.length_set]; exact (by rw [hg.1]; exact c_13))) ((congrArg Prod.fst (z_g2 (by rw [hg.1]; exact c_13))).symm) 0 rfl (by decide) (nI ((Rb.getD i bd).2.2 / stG q)) (z_rd1 (z_g2 (by rw [hg.1]; exact c_13)) pk_us) dX4_pass_70 ?_
              refine lv_aload_n hx hb dX4_pass_71 rfl (lv_at hl 1 rfl) ?_
              refine va_get (D := D) (ci := 4) (v := .int (stM q)) (C := RX4) (T := TX4) (N := 9) hx hb hts iX4 hown hK hP 0 rfl rfl 6 (by decide) f16 (fun _ h9 => h9) rfl dX4_pass_72 ?_
              refine lv_icmp_ge (tgt := 91) hx hb dX4_pass_75 (by decide) (fun c_75 => ?_) (fun c_75 => ?_)
              · skip
                refine lv_aload_n hx hb dX4_pass_91 rfl (lv_at hl 2 rfl) ?_
                refine lv_aload_n hx hb dX4_pass_92 rfl (lv_at hl 0 rfl) ?_
                have ez : gnZ (stS q) (stG q) (sn Rb) i = (Rb.getD i bd).2.2 / stG q := gnZ_lt c_28
                have hgz : grd (stS q) (stG q) Rb (RB.set i ((Rb.getD i bd).1, upd (bf (Rb.getD i bd).2) 0 (nI ((Rb.getD i bd).2.2 / stG q)))) (i + 1) := grd_s hg c_13 (by rw [ez]; exact bf_set)
                refine kz_callS (As := [.ref qm, .ref ((Rb.getD i bd).1)]) (rest := []) (wp := [(s, .inr (4, [.int (nI (stI q)), .int (nI (stN q + (i - (gnN (stS q) (stG q) Rb i).length))), .int (stO q), .int (stV q + nI ((gnN (stS q) (stG q) Rb i).length - (lfN (stS q) (stG q) (stM q) Rb i).length)), .int (nI (stG q)), .int (nI (stS q)), .int (stM q), .ref ba, .ref ta])), (ba, .inl (cQ, Rb.length, .inr (.inr (.inr (.inr (qf (ad Rb))))))), (ta, .inl (cQ, Rt.length, .inr (.inr (.inr (.inr (qf (ad Rt))))))), (qm, .inl (cQ, (lfN (stS q) (stG q) (stM q) Rb i).length, .inr (.inr (.inr (.inr (qf (ad (lfN (stS q) (stG q) (stM q) Rb i))))))))]) (wc := [(qm, .inl (cQ, (lfN (stS q) (stG q) (stM q) Rb i).length, .inr (.inr (.inr (.inr (qf (ad (lfN (stS q) (stG q) (stM q) Rb i))))))))]) (wr := [(s, .inr (4, [.int (nI (stI q)), .int (nI (stN q + (i - (gnN (stS q) (stG q) Rb i).length))), .int (stO q), .int (stV q + nI ((gnN (stS q) (stG q) Rb i).length - (lfN (stS q) (stG q) (stM q) Rb i).length)), .int (nI (stG q)), .int (nI (stS q)), .int (stM q), .ref ba, .ref ta])), (ba, .inl (cQ, Rb.length, .inr (.inr (.inr (.inr (qf (ad Rb))))))), (ta, .inl (cQ, Rt.length, .inr (.inr (.inr (.inr (qf (ad Rt)))))))]) (Z := ((sT cI (RB.set i ((Rb.getD i bd).1, upd (bf (Rb.getD i bd).2) 0 (nI ((Rb.getD i bd).2.2 / stG q)))) (Rt.map tq)) ++ [])) (X0 := ((sT cI (RB.set i ((Rb.getD i bd).1, upd (bf (Rb.getD i bd).2) 0 (nI ((Rb.getD i bd).2.2 / stG q)))) (Rt.map tq)) ++ [])) (Y := []) (wc1 := (fun (u : Nat) => [(qm, .inl (cQ, (lfN (stS q) (stG q) (stM q) Rb i).length, .inr (.inr (.inr (.inr (qf (ad (lfN (stS q) (stG q) (stM q) Rb i)))))))), (u, .inl (cQ, ((lfN (stS q) (stG q) (stM q) Rb i).length) + 1, .inr (.inr (.inr (.inr (qf ((ad (lfN (stS q) (stG q) (stM q) Rb i)) ++ [((Rb.getD i bd).1)])))))))])) (X1 := (fun (u : Nat) => ((sT cI (RB.set i ((Rb.getD i bd).1, upd (bf (Rb.getD i bd).2) 0 (nI ((Rb.getD i bd).2.2 / stG q)))) (Rt.map tq)) ++ []))) F (c_X4_with l D cI cQ qm ((Rb.getD i bd).1) ((lfN (stS q) (stG q) (stM q) Rb i).length) (ad (lfN (stS q) (stG q) (stM q) Rb i)) ((sT cI (RB.set i ((Rb.getD i bd).1, upd (bf (Rb.getD i bd).2) 0 (nI ((Rb.getD i bd).2.2 / stG q)))) (Rt.map tq)) ++ []) (zL_B.sub (fun a ha => by rw [grd_ad hgz]; exact cons_mem (ad_mem c_13) (lf_adL i (by omega)) a ha)) ((ad_len _).symm) (by rw [ad_len]; have := lf_le (stS q) (stG q) (stM q) Rb i; have := gn_le (stS q) (stG q) Rb i; omega)) gX4_pass_X4_with rfl (nA := 2) (by decide +kernel) rfl ⟨Nat.le_of_ble_eq_true rfl, Nat.le_of_ble_eq_true rfl⟩ hK hP hD hS hA hG [3] [0, 1, 2] rfl (by decide) z_permnil rfl (fun _ => rfl) [0, 1] rfl rfl hl.1 (Nat.le_of_ble_eq_true rfl) dX4_pass_93 ⟨(show cl + 1 ≤ 25 by omega), (show sl + 13 ≤ 246 by omega)⟩ (fun r_12 u H locs hr_93 hP hD hS => ?_)
                obtain ⟨na_93, rfl⟩ : ∃ z, z = u := ⟨_, rfl⟩
                try dsimp only at hr_93
                have hP := z_PS z_nil hP
                have hD := z_DS z_nil hD
                have hP : va_P D vwCl ([(s, .inr (4, [.int (nI (stI q)), .int (nI (stN q + (i - (gnN (stS q) (stG q) Rb i).length))), .int (stO q), .int (stV q + nI ((gnN (stS q) (stG q) Rb i).length - (lfN (stS q) (stG q) (stM q) Rb i).length)), .int (nI (stG q)), .int (nI (stS q)), .int (stM q), .ref ba, .ref ta])), (ba, .inl (cQ, Rb.length, .inr (.inr (.inr (.inr (qf (ad Rb))))))), (ta, .inl (cQ, Rt.length, .inr (.inr (.inr (.inr (qf (ad Rt))))))), (qm, .inl (cQ, (lfN (stS q) (stG q) (stM q) Rb i).length, .inr (.inr (.inr (.inr (qf (ad (lfN (stS q) (stG q) (stM q) Rb i)))))))), (na_93, .inl (cQ, ((lfN (stS q) (stG q) (stM q) Rb i).length) + 1, .inr (.inr (.inr (.inr (qf ((ad (lfN (stS q) (stG q) (stM q) Rb i)) ++ [((Rb.getD i bd).1)])))))))] ++ ((sT cI (RB.set i ((Rb.getD i bd).1, upd (bf (Rb.getD i bd).2) 0 (nI ((Rb.getD i bd).2.2 / stG q)))) (Rt.map tq)) ++ [])) H := hP
                have hD : va_D A ([(s, .inr (4, [.int (nI (stI q)), .int (nI (stN q + (i - (gnN (stS q) (stG q) Rb i).length))), .int (stO q), .int (stV q + nI ((gnN (stS q) (stG q) Rb i).length - (lfN (stS q) (stG q) (stM q) Rb i).length)), .int (nI (stG q)), .int (nI (stS q)), .int (stM q), .ref ba, .ref ta])), (ba, .inl (cQ, Rb.length, .inr (.inr (.inr (.inr (qf (ad Rb))))))), (ta, .inl (cQ, Rt.length, .inr (.inr (.inr (.inr (qf (ad Rt))))))), (qm, .inl (cQ, (lfN (stS q) (stG q) (stM q) Rb i).length, .inr (.inr (.inr (.inr (qf (ad (lfN (stS q) (stG q) (stM q) Rb i)))))))), (na_93, .inl (cQ, ((lfN (stS q) (stG q) (stM q) Rb i).length) + 1, .inr (.inr (.inr (.inr (qf ((ad (lfN (stS q) (stG q) (stM q) Rb i)) ++ [((Rb.getD i bd).1)])))))))] ++ ((sT cI (RB.set i ((Rb.getD i bd).1, upd (bf (Rb.getD i bd).2) 0 (nI ((Rb.getD i bd).2.2 / stG q)))) (Rt.map tq)) ++ [])) := hD
                refine W.eq (g2 := F0 m 96 ls [.ref r_12]) rfl ?_
                refine W.widen (k := cl + 1) (n := sl + 13) (Nat.le_refl _) (Nat.le_refl _) ?_
                refine k_topR (v := na_93) hr_93 ?_
                refine lv_astore_n (lv' := [(1, .ref na_93), (3, .ref ((Rb.getD i bd).1)), (0, .ref s), (2, .int (nI i))]) hx hb dX4_pass_96 rfl hl (by decide) rfl (fun ls hl => ?_)
                refine lv_iinc (v := nI (i + 1)) (lv' := [(2, .int (nI (i + 1))), (1, .ref na_93), (3, .ref ((Rb.getD i bd).1)), (0, .ref s)]) hx hb dX4_pass_97 hl (k := 3) rfl (nI_1 _) (by decide) rfl (fun ls hl => ?_)
                refine lv_goto (tgt := 7) hx hb dX4_pass_100 (by decide) ?_
                have ez : gnZ (stS q) (stG q) (sn Rb) i = (Rb.getD i bd).2.2 / stG q := gnZ_lt c_28
                have h9 : 2 ≤ gnZ (stS q) (stG q) (sn Rb) i := by omega
                have el := lf_s1 (st := stS q) (g := stG q) (me := stM q) (R := Rb) (i := i) h9 (fun h => by rw [ez] at h; exact absurd h.2 (Int32.not_lt.mpr c_75))
                have eg := gn_s1 (R := Rb) h9
                have hl1 := lf_le (stS q) (stG q) (stM q) Rb i
                have hl2 := lf_le (stS q) (stG q) (stM q) Rb (i + 1)
                have hl3 := gn_le (stS q) (stG q) Rb i
                have hl4 := gn_le (stS q) (stG q) Rb (i + 1)
                have en : stN q + (i + 1 - (gnN (stS q) (stG q) Rb (i + 1)).length) = stN q + (i - (gnN (stS q) (stG q) Rb i).length) := by rw [eg]; omega
                have es : (gnN (stS q) (stG q) Rb (i + 1)).length - (lfN (stS q) (stG q) (stM q) Rb (i + 1)).length = (gnN (stS q) (stG q) Rb i).length - (lfN (stS q) (stG q) (stM q) Rb i).length := by rw [eg, el, List.length_append]; show _ + 1 - (_ + 1) = _; omega
                exact ih (cl + 1) (sl + 13) (i + 1) na_93 (RB.set i ((Rb.getD i bd).1, upd (bf (Rb.getD i bd).2) 0 (nI ((Rb.getD i bd).2.2 / stG q)))) (by omega) (by omega) (grd_s hg c_13 (by rw [ez]; exact bf_set)) (by omega) _ _ (z_subP hP [0, 1, 2, 4] (by rw [en, es, el, ad_app, List.length_append]; rfl)) (z_subD hD [0, 1, 2, 4] (by decide) (by rw [en, es, el, ad_app, List.length_append]; rfl)) hS _ (lv_sub hl [3, 1, 0] (rfl))
              · skip
                refine lv_aload_n hx hb dX4_pass_78 rfl (lv_at hl 1 rfl) ?_
                refine lv_dup hx hb dX4_pass_79 rfl ?_
                refine va_get (D := D) (ci := 4) (v := .int (stV q + nI ((gnN (stS q) (stG q) Rb i).length - (lfN (stS q) (stG q) (stM q) Rb i).length))) (C := RX4) (T := TX4) (N := 9) hx hb hts iX4 hown hK hP 0 rfl rfl 3 (by decide) f38 (fun _ h9 => h9) rfl dX4_pass_80 ?_
                refine lv_iconst (v := nI 1) hx hb dX4_pass_83 (by decide +kernel) ?_
                refine k_iadd hx hb (stV q + nI ((gnN (stS q) (stG q) Rb i).length - (lfN (stS q) (stG q) (stM q) Rb i).length + 1)) (i_add _ _ _) dX4_pass_84 ?_
                refine va_put (D := D) (ci := 4) (v := .int (stV q + nI ((gnN (stS q) (stG q) Rb i).length - (lfN (stS q) (stG q) (stM q) Rb i).length + 1))) (ty := .int) (C := RX4) (T := TX4) (N := 9) hx hb hts iX4 tyX4 tyX4_ok nmX4 hown hK hP hD hS 0 rfl rfl 3 (by decide) f38 (fun _ h9 => h9) rfl (by decide +kernel) rfl rfl (Nat.le_of_ble_eq_true rfl) dX4_pass_85 (fun H locs hP hD hS => ?_)
                have hP : va_P D vwCl ([(s, .inr (4, [.int (nI (stI q)), .int (nI (stN q + (i - (gnN (stS q) (stG q) Rb i).length))), .int (stO q), .int (stV q + nI ((gnN (stS q) (stG q) Rb i).length - (lfN (stS q) (stG q) (stM q) Rb i).length + 1)), .int (nI (stG q)), .int (nI (stS q)), .int (stM q), .ref ba, .ref ta])), (ba, .inl (cQ, Rb.length, .inr (.inr (.inr (.inr (qf (ad Rb))))))), (ta, .inl (cQ, Rt.length, .inr (.inr (.inr (.inr (qf (ad Rt))))))), (qm, .inl (cQ, (lfN (stS q) (stG q) (stM q) Rb i).length, .inr (.inr (.inr (.inr (qf (ad (lfN (stS q) (stG q) (stM q) Rb i))))))))] ++ ((sT cI (RB.set i ((Rb.getD i bd).1, upd (bf (Rb.getD i bd).2) 0 (nI ((Rb.getD i bd).2.2 / stG q)))) (Rt.map tq)) ++ [])) H := hP
                have hD : va_D A ([(s, .inr (4, [.int (nI (stI q)), .int (nI (stN q + (i - (gnN (stS q) (stG q) Rb i).length))), .int (stO q), .int (stV q + nI ((gnN (stS q) (stG q) Rb i).length - (lfN (stS q) (stG q) (stM q) Rb i).length + 1)), .int (nI (stG q)), .int (nI (stS q)), .int (stM q), .ref ba, .ref ta])), (ba, .inl (cQ, Rb.length, .inr (.inr (.inr (.inr (qf (ad Rb))))))), (ta, .inl (cQ, Rt.length, .inr (.inr (.inr (.inr (qf (ad Rt))))))), (qm, .inl (cQ, (lfN (stS q) (stG q) (stM q) Rb i).length, .inr (.inr (.inr (.inr (qf (ad (lfN (stS q) (stG q) (stM q) Rb i))))))))] ++ ((sT cI (RB.set i ((Rb.getD i bd).1, upd (bf (Rb.getD i bd).2) 0 (nI ((Rb.getD i bd).2.2 / stG q)))) (Rt.map tq)) ++ [])) := hD
                refine lv_goto (tgt := 97) hx hb dX4_pass_88 (by decide) ?_
                refine lv_iinc (v := nI (i + 1)) (lv' := [(2, .int (nI (i + 1))), (3, .ref ((Rb.getD i bd).1)), (0, .ref s), (1, .ref qm)]) hx hb dX4_pass_97 hl (k := 3) rfl (nI_1 _) (by decide) rfl (fun ls hl => ?_)
                refine lv_goto (tgt := 7) hx hb dX4_pass_100 (by decide) ?_
                have ez : gnZ (stS q) (stG q) (sn Rb) i = (Rb.getD i bd).2.2 / stG q := gnZ_lt c_28
                have h9 : 2 ≤ gnZ (stS q) (stG q) (sn Rb) i := by omega
                have el := lf_s0 (st := stS q) (g := stG q) (me := stM q) (R := Rb) (i := i) (fun h => h.2 ⟨c_65, by rw [ez]; exact Int32.not_le.mp c_75⟩)
                have eg := gn_s1 (R := Rb) h9
                have hl1 := lf_le (stS q) (stG q) (stM q) Rb i
                have hl2 := lf_le (stS q) (stG q) (stM q) Rb (i + 1)
                have hl3 := gn_le (stS q) (stG q) Rb i
                have hl4 := gn_le (stS q) (stG q) Rb (i + 1)
                have en : stN q + (i + 1 - (gnN (stS q) (stG q) Rb (i + 1)).length) = stN q + (i - (gnN (stS q) (stG q) Rb i).length) := by rw [eg]; omega
                have es : (gnN (stS q) (stG q) Rb i).length - (lfN (stS q) (stG q) (stM q) Rb i).length + 1 = (gnN (stS q) (stG q) Rb (i + 1)).length - (lfN (stS q) (stG q) (stM q) Rb (i + 1)).length := by rw [eg, el]; omega
                exact ih cl sl (i + 1) qm (RB.set i ((Rb.getD i bd).1, upd (bf (Rb.getD i bd).2) 0 (nI ((Rb.getD i bd).2.2 / stG q)))) (by omega) (by omega) (grd_s hg c_13 (by rw [ez]; exact bf_set)) (by omega) _ _ (z_subP hP [0, 1, 2, 3] (by rw [en, ← es, el]; rfl)) (z_subD hD [0, 1, 2, 3] (by decide) (by rw [en, ← es, el]; rfl)) hS _ (lv_sub hl [2, 3, 0] (rfl))
          · skip
            refine lv_aload_n hx hb dX4_pass_49 rfl (lv_at hl 1 rfl) ?_
            refine lv_dup hx hb dX4_pass_50 rfl ?_
            refine va_get (D := D) (ci := 4) (v := .int (nI (stN q + (i - (gnN (stS q) (stG q) Rb i).length)))) (C := RX4) (T := TX4) (N := 9) hx hb hts iX4 hown hK hP 0 rfl rfl 1 (by decide) f32 (fun _ h9 => h9) rfl dX4_pass_51 ?_
            refine lv_iconst (v := nI 1) hx hb dX4_pass_54 (by decide +kernel) ?_
            refine k_iadd hx hb (nI ((stN q + (i - (gnN (stS q) (stG q) Rb i).length)) + 1)) (nI_add _ _) dX4_pass_55 ?_
            refine va_put (D := D) (ci := 4) (v := .int (nI ((stN q + (i - (gnN (stS q) (stG q) Rb i).length)) + 1))) (ty := .int) (C := RX4) (T := TX4) (N := 9) hx hb hts iX4 tyX4 tyX4_ok nmX4 hown hK hP hD hS 0 rfl rfl 1 (by decide) f32 (fun _ h9 => h9) rfl (by decide +kernel) rfl rfl (Nat.le_of_ble_eq_true rfl) dX4_pass_56 (fun H locs hP hD hS => ?_)
            have hP : va_P D vwCl ([(s, .inr (4, [.int (nI (stI q)), .int (nI ((stN q + (i - (gnN (stS q) (stG q) Rb i).length)) + 1)), .int (stO q), .int (stV q + nI ((gnN (stS q) (stG q) Rb i).length - (lfN (stS q) (stG q) (stM q) Rb i).length)), .int (nI (stG q)), .int (nI (stS q)), .int (stM q), .ref ba, .ref ta])), (ba, .inl (cQ, Rb.length, .inr (.inr (.inr (.inr (qf (ad Rb))))))), (ta, .inl (cQ, Rt.length, .inr (.inr (.inr (.inr (qf (ad Rt))))))), (qm, .inl (cQ, (lfN (stS q) (stG q) (stM q) Rb i).length, .inr (.inr (.inr (.inr (qf (ad (lfN (stS q) (stG q) (stM q) Rb i))))))))] ++ ((sT cI (RB.set i ((Rb.getD i bd).1, upd (bf (Rb.getD i bd).2) 0 (nI ((Rb.getD i bd).2.2 / stG q)))) (Rt.map tq)) ++ [])) H := hP
            have hD : va_D A ([(s, .inr (4, [.int (nI (stI q)), .int (nI ((stN q + (i - (gnN (stS q) (stG q) Rb i).length)) + 1)), .int (stO q), .int (stV q + nI ((gnN (stS q) (stG q) Rb i).length - (lfN (stS q) (stG q) (stM q) Rb i).length)), .int (nI (stG q)), .int (nI (stS q)), .int (stM q), .ref ba, .ref ta])), (ba, .inl (cQ, Rb.length, .inr (.inr (.inr (.inr (qf (ad Rb))))))), (ta, .inl (cQ, Rt.length, .inr (.inr (.inr (.inr (qf (ad Rt))))))), (qm, .inl (cQ, (lfN (stS q) (stG q) (stM q) Rb i).length, .inr (.inr (.inr (.inr (qf (ad (lfN (stS q) (stG q) (stM q) Rb i))))))))] ++ ((sT cI (RB.set i ((Rb.getD i bd).1, upd (bf (Rb.getD i bd).2) 0 (nI ((Rb.getD i bd).2.2 / stG q)))) (Rt.map tq)) ++ [])) := hD
            refine lv_goto (tgt := 97) hx hb dX4_pass_59 (by decide) ?_
            refine lv_iinc (v := nI (i + 1)) (lv' := [(2, .int (nI (i + 1))), (3, .ref ((Rb.getD i bd).1)), (0, .ref s), (1, .ref qm)]) hx hb dX4_pass_97 hl (k := 3) rfl (nI_1 _) (by decide) rfl (fun ls hl => ?_)
            refine lv_goto (tgt := 7) hx hb dX4_pass_100 (by decide) ?_
            have ez : gnZ (stS q) (stG q) (sn Rb) i = (Rb.getD i bd).2.2 / stG q := gnZ_lt c_28
            have h9 : gnZ (stS q) (stG q) (sn Rb) i < 2 := by omega
            have el := lf_s0 (st := stS q) (g := stG q) (me := stM q) (R := Rb) (i := i) (fun h => by omega)
            have eg := gn_s0 (R := Rb) h9
            have hl1 := lf_le (stS q) (stG q) (stM q) Rb i
            have hl2 := lf_le (stS q) (stG q) (stM q) Rb (i + 1)
            have hl3 := gn_le (stS q) (stG q) Rb i
            have hl4 := gn_le (stS q) (stG q) Rb (i + 1)
            have en : stN q + (i - (gnN (stS q) (stG q) Rb i).length) + 1 = stN q + (i + 1 - (gnN (stS q) (stG q) Rb (i + 1)).length) := by rw [eg]; omega
            have es : (gnN (stS q) (stG q) Rb (i + 1)).length - (lfN (stS q) (stG q) (stM q) Rb (i + 1)).length = (gnN (stS q) (stG q) Rb i).length - (lfN (stS q) (stG q) (stM q) Rb i).length := by rw [eg, el]
            exact ih cl sl (i + 1) qm (RB.set i ((Rb.getD i bd).1, upd (bf (Rb.getD i bd).2) 0 (nI ((Rb.getD i bd).2.2 / stG q)))) (by omega) (by omega) (grd_s hg c_13 (by rw [ez]; exact bf_set)) (by omega) _ _ (z_subP hP [0, 1, 2, 3] (by rw [← en, es, el]; rfl)) (z_subD hD [0, 1, 2, 3] (by decide) (by rw [← en, es, el]; rfl)) hS _ (lv_sub hl [2, 3, 0] (rfl))
  have e0 : stV q + nI ((gnN (stS q) (stG q) Rb 0).length - (lfN (stS q) (stG q) (stM q) Rb 0).length) = stV q := by show stV q + nI 0 = _; rw [nI_0]; exact Int32.add_zero _
  have e00 : qf (ad (lfN (stS q) (stG q) (stM q) Rb 0)) = fun _ => none := qf_nil
  exact loop_2 (Rb.length + 1) 1 0 0 q_1 (Rb.map bq) (Nat.zero_le _) (by omega) grd_0 (by omega) _ _ (z_subP hP [0, 1, 2, 3] (by rw [e0, e00]; rfl)) (z_subD hD [0, 1, 2, 3] (by decide) (by rw [e0, e00]; rfl)) hS _ (lv_sub hl [2, 1, 0] (rfl))

abbrev rm_X4_pass_ : Room := { frames := 2, cells := 1500, slots := 14760, locals := 52 }
set_option maxHeartbeats 4000000 in
set_option maxRecDepth 100000 in
theorem c_X4_pass_ (l : Launch) (D : va_G) (cI : ClassId) (cQ : ClassId) (s : Nat) (ba : Nat) (ta : Nat) (q : St) (mm : Nat) (Rb : List (Nat × Tp)) (Rt : List (Nat × Tk)) (hQ : rQ q Rb Rt) (hO : okS q) (hX : okX (stT q)) (hI : stI q + mm < 1000000) (hm : mm ≤ 60) : kM kri l yX4_pass_ wsX4_pass_ rm_X4_pass_ D [(cI, .int), (cQ, .array .int)] [.ref s, .int (nI mm)] ([(s, .inr (4, [.int (nI (stI q)), .int (nI (stN q)), .int (stO q), .int (stV q), .int (nI (stG q)), .int (nI (stS q)), .int (stM q), .ref ba, .ref ta])), (ba, .inl (cQ, Rb.length, .inr (.inr (.inr (.inr (qf (ad Rb))))))), (ta, .inl (cQ, Rt.length, .inr (.inr (.inr (.inr (qf (ad Rt)))))))] ++ ((sT cI (Rb.map bq) (Rt.map tq)) ++ [])) (fun (r : Int32) (u : Nat × (List (Nat × Tp)) × (List (Nat × Tk))) => r = nI (ctT (stT q) - ctT (stT (itS q mm))) ∧ rQ (itS q mm) u.2.1 u.2.2) (fun (u : Nat × (List (Nat × Tp)) × (List (Nat × Tk))) => ([(s, .inr (4, [.int (nI (stI (itS q mm))), .int (nI (stN (itS q mm))), .int (stO (itS q mm)), .int (stV (itS q mm)), .int (nI (stG (itS q mm))), .int (nI (stS (itS q mm))), .int (stM (itS q mm)), .ref u.1, .ref ta])), (u.1, .inl (cQ, u.2.1.length, .inr (.inr (.inr (.inr (qf (ad u.2.1))))))), (ta, .inl (cQ, u.2.2.length, .inr (.inr (.inr (.inr (qf (ad u.2.2)))))))] ++ ((sT cI (u.2.1.map bq) (u.2.2.map tq)) ++ []))) := by
  refine k_bodyI (cc := cX4_pass_) (maxL := 4) (by decide) rfl (Nat.le_of_ble_eq_true rfl) ?_
  intro p e ss m args below meth c A Q F hname hA hG hK hP hD hS ret ls hl
  obtain ⟨hx, hb, hml, hown, hts⟩ := id F
  have hP : va_P D vwCl ([(s, .inr (4, [.int (nI (stI q)), .int (nI (stN q)), .int (stO q), .int (stV q), .int (nI (stG q)), .int (nI (stS q)), .int (stM q), .ref ba, .ref ta])), (ba, .inl (cQ, Rb.length, .inr (.inr (.inr (.inr (qf (ad Rb))))))), (ta, .inl (cQ, Rt.length, .inr (.inr (.inr (.inr (qf (ad Rt)))))))] ++ ((sT cI (Rb.map bq) (Rt.map tq)) ++ [])) ss.heap := hP
  have hD : va_D A ([(s, .inr (4, [.int (nI (stI q)), .int (nI (stN q)), .int (stO q), .int (stV q), .int (nI (stG q)), .int (nI (stS q)), .int (stM q), .ref ba, .ref ta])), (ba, .inl (cQ, Rb.length, .inr (.inr (.inr (.inr (qf (ad Rb))))))), (ta, .inl (cQ, Rt.length, .inr (.inr (.inr (.inr (qf (ad Rt)))))))] ++ ((sT cI (Rb.map bq) (Rt.map tq)) ++ [])) := hD
  have hl : lv_has ls 4 [(0, .ref s), (1, .int (nI mm))] := hl
  refine lv_iconst (v := nI 0) hx hb dX4_pass__0 (by decide +kernel) ?_
  refine lv_istore_n (lv' := [(2, .int (nI 0)), (0, .ref s), (1, .int (nI mm))]) hx hb dX4_pass__1 rfl hl (by decide) rfl (fun ls hl => ?_)
  refine lv_iconst (v := nI 0) hx hb dX4_pass__2 (by decide +kernel) ?_
  refine lv_istore_n (lv' := [(3, .int (nI 0)), (2, .int (nI 0)), (0, .ref s), (1, .int (nI mm))]) hx hb dX4_pass__3 rfl hl (by decide) rfl (fun ls hl => ?_)
  have loop_1 : ∀ (n : Nat) (cl sl : Nat) (i : Nat) (b1 : Nat) (Rb1 : List (Nat × Tp)) (Rt1 : List (Nat × Tk)), (i ≤ mm) → (cl ≤ 25 * i ∧ sl ≤ 246 * i) → (rQ (itS q i) Rb1 Rt1) → mm - i < n → ∀ (H : Heap) (locs : List Loc), va_P D vwCl ([(s, .inr (4, [.int (nI (stI (itS q i))), .int (nI (stN (itS q i))), .int (stO (itS q i)), .int (stV (itS q i)), .int (nI (stG (itS q i))), .int (nI (stS (itS q i))), .int (stM (itS q i)), .ref b1, .ref ta])), (b1, .inl (cQ, Rb1.length, .inr (.inr (.inr (.inr (qf (ad Rb1))))))), (ta, .inl (cQ, Rt1.length, .inr (.inr (.inr (.inr (qf (ad Rt1)))))))] ++ ((sT cI (Rb1.map bq) (Rt1.map tq)) ++ [])) H → va_D A ([(s, .inr (4, [.int (nI (stI (itS q i))), .int (nI (stN (itS q i))), .int (stO (itS q i)), .int (stV (itS q i)), .int (nI (stG (itS q i))), .int (nI (stS (itS q i))), .int (stM (itS q i)), .ref b1, .ref ta])), (b1, .inl (cQ, Rb1.length, .inr (.inr (.inr (.inr (qf (ad Rb1))))))), (ta, .inl (cQ, Rt1.length, .inr (.inr (.inr (.inr (qf (ad Rt1)))))))] ++ ((sT cI (Rb1.map bq) (Rt1.map tq)) ++ [])) → va_S A ss.heap H locs → ∀ ls : Array Slot, lv_has ls 4 [(0, .ref s), (1, .int (nI mm)), (2, .int (nI (ctT (stT q) - ctT (stT (itS q i))))), (3, .int (nI i))] → W p l e rm_X4_pass_ ss m args below meth c H locs cl sl Q (F0 m 4 ls []) := by
    intro n
    induction n with
    | zero => intro cl sl i b1 Rb1 Rt1 hi hc9 hq1 hn; exact absurd hn (by omega)
    | succ n ih =>
      intro cl sl i b1 Rb1 Rt1 hi hc9 hq1 hn H locs hP hD hS ls hl
      refine lv_iload_n hx hb dX4_pass__4 rfl (lv_at hl 3 rfl) ?_
      refine lv_iload_n hx hb dX4_pass__5 rfl (lv_at hl 1 rfl) ?_
      refine k_cmp_ge (tgt := 22) hx hb i mm rfl rfl (by omega) (by omega) dX4_pass__6 (by decide) (fun c_6 => ?_) (fun c_6 => ?_)
      · skip
        obtain rfl : mm = i := by omega
        refine lv_iload_n hx hb dX4_pass__22 rfl (lv_at hl 2 rfl) ?_
        exact ret (nI (ctT (stT q) - ctT (stT (itS q mm)))) ⟨b1, Rb1, Rt1⟩ _ _ _ _ _ _ (⟨rfl, hq1⟩) (z_subP hP [0, 1, 2] (rfl)) (z_subD hD [0, 1, 2] (by decide) (rfl)) hS ((show cl ≤ 1500 by omega)) ((show sl ≤ 14760 by omega)) dX4_pass__23
      · skip
        refine lv_iload_n hx hb dX4_pass__9 rfl (lv_at hl 2 rfl) ?_
        refine lv_aload_n hx hb dX4_pass__10 rfl (lv_at hl 0 rfl) ?_
        refine kz_callV (As := []) (rest := [.int (nI (ctT (stT q) - ctT (stT (itS q i))))]) (wp := [(s, .inr (4, [.int (nI (stI (itS q i))), .int (nI (stN (itS q i))), .int (stO (itS q i)), .int (stV (itS q i)), .int (nI (stG (itS q i))), .int (nI (stS (itS q i))), .int (stM (itS q i)), .ref b1, .ref ta])), (b1, .inl (cQ, Rb1.length, .inr (.inr (.inr (.inr (qf (ad Rb1))))))), (ta, .inl (cQ, Rt1.length, .inr (.inr (.inr (.inr (qf (ad Rt1)))))))]) (wc := [(s, .inr (4, [.int (nI (stI (itS q i))), .int (nI (stN (itS q i))), .int (stO (itS q i)), .int (stV (itS q i)), .int (nI (stG (itS q i))), .int (nI (stS (itS q i))), .int (stM (itS q i)), .ref b1, .ref ta])), (b1, .inl (cQ, Rb1.length, .inr (.inr (.inr (.inr (qf (ad Rb1))))))), (ta, .inl (cQ, Rt1.length, .inr (.inr (.inr (.inr (qf (ad Rt1)))))))]) (wr := []) (Z := ((sT cI (Rb1.map bq) (Rt1.map tq)) ++ [])) (X0 := sT cI (Rb1.map bq) (Rt1.map tq)) (Y := []) (wc1 := (fun (u : Nat × (List (Nat × Tp)) × (List (Nat × Tk))) => [(s, .inr (4, [.int (nI (stI (mnt (itS q i)))), .int (nI (stN (mnt (itS q i)))), .int (stO (mnt (itS q i))), .int (stV (mnt (itS q i))), .int (nI (stG (mnt (itS q i)))), .int (nI (stS (mnt (itS q i)))), .int (stM (mnt (itS q i))), .ref u.1, .ref ta])), (u.1, .inl (cQ, u.2.1.length, .inr (.inr (.inr (.inr (qf (ad u.2.1))))))), (ta, .inl (cQ, u.2.2.length, .inr (.inr (.inr (.inr (qf (ad u.2.2)))))))])) (X1 := (fun (u : Nat × (List (Nat × Tp)) × (List (Nat × Tk))) => sT cI (u.2.1.map bq) (u.2.2.map tq))) F (c_X4_pass l D cI cQ s b1 ta (itS q i) Rb1 Rt1 hq1 (okS_it hO i) (okX_it hX (n := mm) (by omega) i (by omega)) (by rw [stI_it]; omega)) gX4_pass__X4_pass rfl (nA := 0) (by decide +kernel) rfl ⟨Nat.le_of_ble_eq_true rfl, Nat.le_of_ble_eq_true rfl⟩ hK hP hD hS hA hG (ci := 4) (q0 := 0) rfl rfl rfl [0, 1, 2] [] rfl (by decide) (List.Perm.refl _) (by rw [List.append_nil]) (fun u => by simp only [List.append_nil]) [0, 1] rfl rfl hl.1 (Nat.le_of_ble_eq_true rfl) dX4_pass__11 ⟨(show cl + 25 ≤ 1500 by omega), (show sl + 246 ≤ 14760 by omega)⟩ (fun r_2 u H locs hr_11 hP hD hS => ?_)
        obtain ⟨b5, Rb5, Rt5⟩ := u
        try dsimp only at hr_11
        have hP : va_P D vwCl ([(s, .inr (4, [.int (nI (stI (mnt (itS q i)))), .int (nI (stN (mnt (itS q i)))), .int (stO (mnt (itS q i))), .int (stV (mnt (itS q i))), .int (nI (stG (mnt (itS q i)))), .int (nI (stS (mnt (itS q i)))), .int (stM (mnt (itS q i))), .ref b5, .ref ta])), (b5, .inl (cQ, Rb5.length, .inr (.inr (.inr (.inr (qf (ad Rb5))))))), (ta, .inl (cQ, Rt5.length, .inr (.inr (.inr (.inr (qf (ad Rt5)))))))] ++ ((sT cI (Rb5.map bq) (Rt5.map tq)) ++ [])) H := hP
        have hD : va_D A ([(s, .inr (4, [.int (nI (stI (mnt (itS q i)))), .int (nI (stN (mnt (itS q i)))), .int (stO (mnt (itS q i))), .int (stV (mnt (itS q i))), .int (nI (stG (mnt (itS q i)))), .int (nI (stS (mnt (itS q i)))), .int (stM (mnt (itS q i))), .ref b5, .ref ta])), (b5, .inl (cQ, Rb5.length, .inr (.inr (.inr (.inr (qf (ad Rb5))))))), (ta, .inl (cQ, Rt5.length, .inr (.inr (.inr (.inr (qf (ad Rt5)))))))] ++ ((sT cI (Rb5.map bq) (Rt5.map tq)) ++ [])) := hD
        refine W.eq (g2 := F0 m 14 ls [.int r_2, .int (nI (ctT (stT q) - ctT (stT (itS q i))))]) rfl ?_
        refine W.widen (k := cl + 25) (n := sl + 246) (Nat.le_refl _) (Nat.le_refl _) ?_
        refine k_top (v := nI (ctT (stT (itS q i)) - ctT (stT (itS q (i + 1))))) (hr_11.1) ?_
        refine k_iadd hx hb (nI (ctT (stT q) - ctT (stT (itS q (i + 1))))) (by rw [nI_add]; congr 1; have h1 := ctT_it q i; have h2 : ctT (stT (itS q (i + 1))) ≤ ctT (stT (itS q i)) := ctT_hr _ _ _; omega) dX4_pass__14 ?_
        refine lv_istore_n (lv' := [(2, .int (nI (ctT (stT q) - ctT (stT (itS q (i + 1)))))), (0, .ref s), (1, .int (nI mm)), (3, .int (nI i))]) hx hb dX4_pass__15 rfl hl (by decide) rfl (fun ls hl => ?_)
        refine lv_iinc (v := nI (i + 1)) (lv' := [(3, .int (nI (i + 1))), (2, .int (nI (ctT (stT q) - ctT (stT (itS q (i + 1)))))), (0, .ref s), (1, .int (nI mm))]) hx hb dX4_pass__16 hl (k := 3) rfl (nI_1 _) (by decide) rfl (fun ls hl => ?_)
        refine lv_goto (tgt := 4) hx hb dX4_pass__19 (by decide) ?_
        exact ih (cl + 25) (sl + 246) (i + 1) b5 Rb5 Rt5 (by omega) (by omega) hr_11.2 (by omega) _ _ (z_subP hP [0, 1, 2] (rfl)) (z_subD hD [0, 1, 2] (by decide) (rfl)) hS _ (lv_sub hl [2, 3, 1, 0] (rfl))
  exact loop_1 (mm + 1) 0 0 0 ba Rb Rt (Nat.zero_le _) (by omega) hQ (by omega) _ _ (z_subP hP [0, 1, 2] (rfl)) (z_subD hD [0, 1, 2] (by decide) (rfl)) hS _ (lv_sub hl [2, 3, 1, 0] (by rw [show ctT (stT q) - ctT (stT (itS q 0)) = 0 from Nat.sub_self _]; rfl))

