abbrev rm_X4_with : Room := { frames := 0, cells := 1, slots := 13, locals := 0 }
set_option maxHeartbeats 4000000 in
set_option maxRecDepth 100000 in
theorem c_X4_with (l : Launch) (D : va_G) (cI : ClassId) (cQ : ClassId) (ra : Nat) (v : Nat) (n : Nat) (La : List Nat) (X : va_W) (hL : zL cI (v :: La) X) (hn0 : n = La.length) (hn : La.length ≤ 12) : kM krr l yX4_with wsX4_with rm_X4_with D [(cI, .int), (cQ, .array .int)] [.ref ra, .ref v] ([(ra, .inl (cQ, n, .inr (.inr (.inr (.inr (qf La))))))] ++ X) (fun (r : Nat) (u : Nat) => r = u) (fun (u : Nat) => ([(ra, .inl (cQ, n, .inr (.inr (.inr (.inr (qf La)))))), (u, .inl (cQ, n + 1, .inr (.inr (.inr (.inr (qf (La ++ [v])))))))] ++ X)) := by
  refine k_bodyR (cc := cX4_with) (maxL := 4) (Or.inr ⟨_, rfl⟩) (by decide) rfl (Nat.le_of_ble_eq_true rfl) ?_
  intro p e ss m args below meth c A Q F hname hA hG hK hP hD hS ret ls hl
  obtain ⟨hx, hb, hml, hown, hts⟩ := id F
  have hP : va_P D vwCl ([(ra, .inl (cQ, n, .inr (.inr (.inr (.inr (qf La))))))] ++ X) ss.heap := hP
  have hD : va_D A ([(ra, .inl (cQ, n, .inr (.inr (.inr (.inr (qf La))))))] ++ X) := hD
  have hl : lv_has ls 4 [(0, .ref ra), (1, .ref v)] := hl
  subst hn0
  refine lv_aload_n hx hb dX4_with_0 rfl (lv_at hl 0 rfl) ?_
  refine va_alen hx hb hK hP 0 1 rfl rfl (v := nI La.length) rfl dX4_with_1 ?_
  refine lv_iconst (v := nI 1) hx hb dX4_with_2 (by decide +kernel) ?_
  refine k_iadd hx hb (nI (La.length + 1)) (nI_add _ _) dX4_with_3 ?_
  refine z_qnew hx hb hown (hts (.classLink RX4 19 "[I") (by decide +kernel)) hG.2.2.1.2.2.2.2.2.2.2.2 hK 1 rfl hP hD hS hA (La.length + 1) rfl (by omega) (Nat.le_of_ble_eq_true rfl) ((show 0 + (La.length + 1) ≤ 13 by omega)) dX4_with_4 (fun q_1 H hP hD hS => ?_)
  have hP : va_P D vwCl ([(ra, .inl (cQ, La.length, .inr (.inr (.inr (.inr (qf La)))))), (q_1, .inl (cQ, La.length + 1, .inr (.inr (.inr (.inr (fun _ => none))))))] ++ X) H := hP
  have hD : va_D A ([(ra, .inl (cQ, La.length, .inr (.inr (.inr (.inr (qf La)))))), (q_1, .inl (cQ, La.length + 1, .inr (.inr (.inr (.inr (fun _ => none))))))] ++ X) := hD
  refine W.widen (k := 1) (n := 13) (Nat.le_of_ble_eq_true rfl) ((show 0 + (La.length + 1) ≤ 13 by omega)) ?_
  refine lv_astore_n (lv' := [(2, .ref q_1), (0, .ref ra), (1, .ref v)]) hx hb dX4_with_7 rfl hl (by decide) rfl (fun ls hl => ?_)
  refine lv_iconst (v := nI 0) hx hb dX4_with_8 (by decide +kernel) ?_
  refine lv_istore_n (lv' := [(3, .int (nI 0)), (2, .ref q_1), (0, .ref ra), (1, .ref v)]) hx hb dX4_with_9 rfl hl (by decide) rfl (fun ls hl => ?_)
  have loop_2 : ∀ (n : Nat) (i : Nat) (qm : Nat), (i ≤ La.length) → La.length - i < n → ∀ (H : Heap) (locs : List Loc), va_P D vwCl ([(ra, .inl (cQ, La.length, .inr (.inr (.inr (.inr (qf La)))))), (qm, .inl (cQ, La.length + 1, .inr (.inr (.inr (.inr (qf (La.take i)))))))] ++ X) H → va_D A ([(ra, .inl (cQ, La.length, .inr (.inr (.inr (.inr (qf La)))))), (qm, .inl (cQ, La.length + 1, .inr (.inr (.inr (.inr (qf (La.take i)))))))] ++ X) → va_S A ss.heap H locs → ∀ ls : Array Slot, lv_has ls 4 [(0, .ref ra), (1, .ref v), (2, .ref qm), (3, .int (nI i))] → W p l e rm_X4_with ss m args below meth c H locs 1 13 Q (F0 m 10 ls []) := by
    intro n
    induction n with
    | zero => intro i qm hi hn; exact absurd hn (by omega)
    | succ n ih =>
      intro i qm hi hn H locs hP hD hS ls hl
      refine lv_iload_n hx hb dX4_with_10 rfl (lv_at hl 3 rfl) ?_
      refine lv_aload_n hx hb dX4_with_11 rfl (lv_at hl 0 rfl) ?_
      refine va_alen hx hb hK hP 0 1 rfl rfl (v := nI La.length) rfl dX4_with_12 ?_
      refine k_cmp_ge (tgt := 28) hx hb i La.length rfl rfl (by omega) (by omega) dX4_with_13 (by decide) (fun c_13 => ?_) (fun c_13 => ?_)
      · skip
        obtain rfl : i = La.length := by omega
        refine lv_aload_n hx hb dX4_with_28 rfl (lv_at hl 2 rfl) ?_
        refine lv_aload_n hx hb dX4_with_29 rfl (lv_at hl 0 rfl) ?_
        refine va_alen hx hb hK hP 0 1 rfl rfl (v := nI La.length) rfl dX4_with_30 ?_
        refine lv_aload_n hx hb dX4_with_31 rfl (lv_at hl 1 rfl) ?_
        refine z_qst hx hb hG.2.2.1.2.2.2.2.2.2.2.2 hK hP hD hS 1 1 0 rfl rfl rfl (hL.zi List.mem_cons_self hP) La.length rfl (by omega) (by omega) dX4_with_32 (fun H locs hP hD hS => ?_)
        have hP : va_P D vwCl ([(ra, .inl (cQ, La.length, .inr (.inr (.inr (.inr (qf La)))))), (qm, .inl (cQ, La.length + 1, .inr (.inr (.inr (.inr (va_up (qf (La.take La.length)) La.length (some v)))))))] ++ X) H := hP
        have hD : va_D A ([(ra, .inl (cQ, La.length, .inr (.inr (.inr (.inr (qf La)))))), (qm, .inl (cQ, La.length + 1, .inr (.inr (.inr (.inr (va_up (qf (La.take La.length)) La.length (some v)))))))] ++ X) := hD
        refine lv_aload_n hx hb dX4_with_33 rfl (lv_at hl 2 rfl) ?_
        have e9 : va_up (qf (La.take La.length)) La.length (some v) = qf (La ++ [v]) := by rw [List.take_length]; exact qf_app
        exact ret qm qm _ _ _ _ _ _ (rfl) (z_subP hP [0, 1] (by rw [← e9]; rfl)) (z_subD hD [0, 1] (by decide) (by rw [← e9]; rfl)) hS (Nat.le_of_ble_eq_true rfl) (Nat.le_of_ble_eq_true rfl) dX4_with_34
      · skip
        refine lv_aload_n hx hb dX4_with_16 rfl (lv_at hl 2 rfl) ?_
        refine lv_iload_n hx hb dX4_with_17 rfl (lv_at hl 3 rfl) ?_
        refine lv_aload_n hx hb dX4_with_18 rfl (lv_at hl 0 rfl) ?_
        refine lv_iload_n hx hb dX4_with_19 rfl (lv_at hl 3 rfl) ?_
        refine z_qld hx hb hK hP 0 1 rfl rfl i rfl (c_13) (by omega) (La.getD i 0) (qf_get c_13) dX4_with_20 ?_
        refine z_qst hx hb hG.2.2.1.2.2.2.2.2.2.2.2 hK hP hD hS 1 1 0 rfl rfl rfl (hL.zi (List.mem_cons_of_mem _ (gd_mem c_13)) hP) i rfl (by omega) (by omega) dX4_with_21 (fun H locs hP hD hS => ?_)
        have hP : va_P D vwCl ([(ra, .inl (cQ, La.length, .inr (.inr (.inr (.inr (qf La)))))), (qm, .inl (cQ, La.length + 1, .inr (.inr (.inr (.inr (va_up (qf (La.take i)) i (some (La.getD i 0))))))))] ++ X) H := hP
        have hD : va_D A ([(ra, .inl (cQ, La.length, .inr (.inr (.inr (.inr (qf La)))))), (qm, .inl (cQ, La.length + 1, .inr (.inr (.inr (.inr (va_up (qf (La.take i)) i (some (La.getD i 0))))))))] ++ X) := hD
        refine lv_iinc (v := nI (i + 1)) (lv' := [(3, .int (nI (i + 1))), (0, .ref ra), (1, .ref v), (2, .ref qm)]) hx hb dX4_with_22 hl (k := 3) rfl (nI_1 _) (by decide) rfl (fun ls hl => ?_)
        refine lv_goto (tgt := 10) hx hb dX4_with_25 (by decide) ?_
        exact ih (i + 1) qm (by omega) (by omega) _ _ (z_subP hP [0, 1] (by rw [← qf_up c_13]; rfl)) (z_subD hD [0, 1] (by decide) (by rw [← qf_up c_13]; rfl)) hS _ (lv_sub hl [1, 2, 3, 0] (rfl))
  exact loop_2 (La.length + 1) 0 q_1 (Nat.zero_le _) (by omega) _ _ (z_subP hP [0, 1] (by rw [List.take_zero, qf_nil]; rfl)) (z_subD hD [0, 1] (by decide) (by rw [List.take_zero, qf_nil]; rfl)) hS _ (lv_sub hl [2, 3, 1, 0] (rfl))

abbrev rm_X4_init : Room := { frames := 1, cells := 2, slots := 0, locals := 12 }
set_option maxHeartbeats 4000000 in
set_option maxRecDepth 100000 in
theorem c_X4_init (l : Launch) (D : va_G) (cI : ClassId) (cQ : ClassId) (s : Nat) : kM krv l yX4_init wsX4_init rm_X4_init D [(cI, .int), (cQ, .array .int)] [.ref s] ([(s, .inr (4, [.int (nI 0), .int (nI 0), .int (nI 0), .int (nI 0), .int (nI 0), .int (nI 0), .int (nI 0), .null, .null]))] ++ []) (fun (r : Unit) (u : Nat × Nat) => True) (fun (u : Nat × Nat) => ([(s, .inr (4, [.int (nI 0), .int (nI 0), .int (nI 0), .int (nI 0), .int (nI 2), .int (nI 1), .int (nI 3), .ref u.1, .ref u.2])), (u.1, .inl (cQ, 0, .inr (.inr (.inr (.inr (qf [])))))), (u.2, .inl (cQ, 0, .inr (.inr (.inr (.inr (qf []))))))] ++ [])) := by
  refine k_bodyV (cc := cX4_init) (maxL := 1) (by decide) rfl (Nat.le_of_ble_eq_true rfl) ?_
  intro p e ss m args below meth c A Q F hname hA hG hK hP hD hS ret ls hl
  obtain ⟨hx, hb, hml, hown, hts⟩ := id F
  have hP : va_P D vwCl ([(s, .inr (4, [.int (nI 0), .int (nI 0), .int (nI 0), .int (nI 0), .int (nI 0), .int (nI 0), .int (nI 0), .null, .null]))] ++ []) ss.heap := hP
  have hD : va_D A ([(s, .inr (4, [.int (nI 0), .int (nI 0), .int (nI 0), .int (nI 0), .int (nI 0), .int (nI 0), .int (nI 0), .null, .null]))] ++ []) := hD
  have hl : lv_has ls 1 [(0, .ref s)] := hl
  have iX4 : ∀ w ∈ u_ws RX4 TX4 9, w ∈ wsX4_init := by decide +kernel
  have f7 := hts (.fieldLink RX4 7 "SmallerTalkLaw$Sim" "gear" "I") (by decide +kernel)
  have f13 := hts (.fieldLink RX4 13 "SmallerTalkLaw$Sim" "stones" "I") (by decide +kernel)
  have f16 := hts (.fieldLink RX4 16 "SmallerTalkLaw$Sim" "mesh" "I") (by decide +kernel)
  have f21 := hts (.fieldLink RX4 21 "SmallerTalkLaw$Sim" "belt" "[[I") (by decide +kernel)
  have f25 := hts (.fieldLink RX4 25 "SmallerTalkLaw$Sim" "talkers" "[[I") (by decide +kernel)
  refine lv_aload_n hx hb dX4_init_0 rfl (lv_at hl 0 rfl) ?_
  refine W.objInit hx hb hown (hts (.methodLink RX4 1 objectInit) (by decide +kernel)) (hts (.instanceMethod objectInit) (by decide +kernel)) (hts (.code objectInit ⟨#[0xb1]⟩ 1 none) (by decide +kernel)) rfl (by rw [hml]; exact hl.1) rfl dX4_init_1 (Nat.le_of_ble_eq_true rfl) (Nat.le_of_ble_eq_true rfl) ?_
  refine W.eq (g2 := F0 m 4 ls []) rfl ?_
  refine lv_aload_n hx hb dX4_init_4 rfl (lv_at hl 0 rfl) ?_
  refine lv_iconst (v := nI 2) hx hb dX4_init_5 (by decide +kernel) ?_
  refine va_put (D := D) (ci := 4) (v := .int (nI 2)) (ty := .int) (C := RX4) (T := TX4) (N := 9) hx hb hts iX4 tyX4 tyX4_ok nmX4 hown hK hP hD hS 0 rfl rfl 4 (by decide) f7 (fun _ h9 => h9) rfl (by decide +kernel) rfl rfl (Nat.le_of_ble_eq_true rfl) dX4_init_6 (fun H locs hP hD hS => ?_)
  have hP : va_P D vwCl ([(s, .inr (4, [.int (nI 0), .int (nI 0), .int (nI 0), .int (nI 0), .int (nI 2), .int (nI 0), .int (nI 0), .null, .null]))] ++ []) H := hP
  have hD : va_D A ([(s, .inr (4, [.int (nI 0), .int (nI 0), .int (nI 0), .int (nI 0), .int (nI 2), .int (nI 0), .int (nI 0), .null, .null]))] ++ []) := hD
  refine lv_aload_n hx hb dX4_init_9 rfl (lv_at hl 0 rfl) ?_
  refine lv_iconst (v := nI 1) hx hb dX4_init_10 (by decide +kernel) ?_
  refine va_put (D := D) (ci := 4) (v := .int (nI 1)) (ty := .int) (C := RX4) (T := TX4) (N := 9) hx hb hts iX4 tyX4 tyX4_ok nmX4 hown hK hP hD hS 0 rfl rfl 5 (by decide) f13 (fun _ h9 => h9) rfl (by decide +kernel) rfl rfl (Nat.le_of_ble_eq_true rfl) dX4_init_11 (fun H locs hP hD hS => ?_)
  have hP : va_P D vwCl ([(s, .inr (4, [.int (nI 0), .int (nI 0), .int (nI 0), .int (nI 0), .int (nI 2), .int (nI 1), .int (nI 0), .null, .null]))] ++ []) H := hP
  have hD : va_D A ([(s, .inr (4, [.int (nI 0), .int (nI 0), .int (nI 0), .int (nI 0), .int (nI 2), .int (nI 1), .int (nI 0), .null, .null]))] ++ []) := hD
  refine lv_aload_n hx hb dX4_init_14 rfl (lv_at hl 0 rfl) ?_
  refine lv_iconst (v := nI 3) hx hb dX4_init_15 (by decide +kernel) ?_
  refine va_put (D := D) (ci := 4) (v := .int (nI 3)) (ty := .int) (C := RX4) (T := TX4) (N := 9) hx hb hts iX4 tyX4 tyX4_ok nmX4 hown hK hP hD hS 0 rfl rfl 6 (by decide) f16 (fun _ h9 => h9) rfl (by decide +kernel) rfl rfl (Nat.le_of_ble_eq_true rfl) dX4_init_16 (fun H locs hP hD hS => ?_)
  have hP : va_P D vwCl ([(s, .inr (4, [.int (nI 0), .int (nI 0), .int (nI 0), .int (nI 0), .int (nI 2), .int (nI 1), .int (nI 3), .null, .null]))] ++ []) H := hP
  have hD : va_D A ([(s, .inr (4, [.int (nI 0), .int (nI 0), .int (nI 0), .int (nI 0), .int (nI 2), .int (nI 1), .int (nI 3), .null, .null]))] ++ []) := hD
  refine lv_aload_n hx hb dX4_init_19 rfl (lv_at hl 0 rfl) ?_
  refine lv_iconst (v := nI 0) hx hb dX4_init_20 (by decide +kernel) ?_
  refine z_qnew hx hb hown (hts (.classLink RX4 19 "[I") (by decide +kernel)) hG.2.2.1.2.2.2.2.2.2.2.2 hK 1 rfl hP hD hS hA 0 rfl (by omega) (Nat.le_of_ble_eq_true rfl) (Nat.le_of_ble_eq_true rfl) dX4_init_21 (fun q_1 H hP hD hS => ?_)
  have hP : va_P D vwCl ([(s, .inr (4, [.int (nI 0), .int (nI 0), .int (nI 0), .int (nI 0), .int (nI 2), .int (nI 1), .int (nI 3), .null, .null])), (q_1, .inl (cQ, 0, .inr (.inr (.inr (.inr (fun _ => none))))))] ++ []) H := hP
  have hD : va_D A ([(s, .inr (4, [.int (nI 0), .int (nI 0), .int (nI 0), .int (nI 0), .int (nI 2), .int (nI 1), .int (nI 3), .null, .null])), (q_1, .inl (cQ, 0, .inr (.inr (.inr (.inr (fun _ => none))))))] ++ []) := hD
  refine va_put (D := D) (ci := 4) (v := .ref q_1) (ty := (.array (.array .int))) (C := RX4) (T := TX4) (N := 9) hx hb hts iX4 tyX4 tyX4_ok nmX4 hown hK hP hD hS 0 rfl rfl 7 (by decide) f21 (fun _ h9 => h9) rfl (by decide +kernel) rfl rfl (Nat.le_of_ble_eq_true rfl) dX4_init_24 (fun H locs hP hD hS => ?_)
  have hP : va_P D vwCl ([(s, .inr (4, [.int (nI 0), .int (nI 0), .int (nI 0), .int (nI 0), .int (nI 2), .int (nI 1), .int (nI 3), .ref q_1, .null])), (q_1, .inl (cQ, 0, .inr (.inr (.inr (.inr (fun _ => none))))))] ++ []) H := hP
  have hD : va_D A ([(s, .inr (4, [.int (nI 0), .int (nI 0), .int (nI 0), .int (nI 0), .int (nI 2), .int (nI 1), .int (nI 3), .ref q_1, .null])), (q_1, .inl (cQ, 0, .inr (.inr (.inr (.inr (fun _ => none))))))] ++ []) := hD
  refine lv_aload_n hx hb dX4_init_27 rfl (lv_at hl 0 rfl) ?_
  refine lv_iconst (v := nI 0) hx hb dX4_init_28 (by decide +kernel) ?_
  refine z_qnew hx hb hown (hts (.classLink RX4 19 "[I") (by decide +kernel)) hG.2.2.1.2.2.2.2.2.2.2.2 hK 1 rfl hP hD hS hA 0 rfl (by omega) (Nat.le_of_ble_eq_true rfl) (Nat.le_of_ble_eq_true rfl) dX4_init_29 (fun q_2 H hP hD hS => ?_)
  have hP : va_P D vwCl ([(s, .inr (4, [.int (nI 0), .int (nI 0), .int (nI 0), .int (nI 0), .int (nI 2), .int (nI 1), .int (nI 3), .ref q_1, .null])), (q_1, .inl (cQ, 0, .inr (.inr (.inr (.inr (fun _ => none)))))), (q_2, .inl (cQ, 0, .inr (.inr (.inr (.inr (fun _ => none))))))] ++ []) H := hP
  have hD : va_D A ([(s, .inr (4, [.int (nI 0), .int (nI 0), .int (nI 0), .int (nI 0), .int (nI 2), .int (nI 1), .int (nI 3), .ref q_1, .null])), (q_1, .inl (cQ, 0, .inr (.inr (.inr (.inr (fun _ => none)))))), (q_2, .inl (cQ, 0, .inr (.inr (.inr (.inr (fun _ => none))))))] ++ []) := hD
  refine va_put (D := D) (ci := 4) (v := .ref q_2) (ty := (.array (.array .int))) (C := RX4) (T := TX4) (N := 9) hx hb hts iX4 tyX4 tyX4_ok nmX4 hown hK hP hD hS 0 rfl rfl 8 (by decide) f25 (fun _ h9 => h9) rfl (by decide +kernel) rfl rfl (Nat.le_of_ble_eq_true rfl) dX4_init_32 (fun H locs hP hD hS => ?_)
  have hP : va_P D vwCl ([(s, .inr (4, [.int (nI 0), .int (nI 0), .int (nI 0), .int (nI 0), .int (nI 2), .int (nI 1), .int (nI 3), .ref q_1, .ref q_2])), (q_1, .inl (cQ, 0, .inr (.inr (.inr (.inr (fun _ => none)))))), (q_2, .inl (cQ, 0, .inr (.inr (.inr (.inr (fun _ => none))))))] ++ []) H := hP
  have hD : va_D A ([(s, .inr (4, [.int (nI 0), .int (nI 0), .int (nI 0), .int (nI 0), .int (nI 2), .int (nI 1), .int (nI 3), .ref q_1, .ref q_2])), (q_1, .inl (cQ, 0, .inr (.inr (.inr (.inr (fun _ => none)))))), (q_2, .inl (cQ, 0, .inr (.inr (.inr (.inr (fun _ => none))))))] ++ []) := hD
  exact ret ⟨q_1, q_2⟩ _ _ _ _ _ _ (trivial) (z_subP hP [0, 1, 2] (by rw [qf_nil]; rfl)) (z_subD hD [0, 1, 2] (by decide) (by rw [qf_nil]; rfl)) hS (Nat.le_of_ble_eq_true rfl) (Nat.le_of_ble_eq_true rfl) dX4_init_35

abbrev rm_X4_noise : Room := { frames := 0, cells := 0, slots := 0, locals := 0 }
set_option maxHeartbeats 4000000 in
set_option maxRecDepth 100000 in
theorem c_X4_noise (l : Launch) (D : va_G) (cI : ClassId) (cQ : ClassId) (s : Nat) (ba : Nat) (ta : Nat) (mi : Int32) (no : Int32) (bo : Int32) (si : Int32) (ge : Int32) (so : Int32) (me : Int32) (Rb : List (Nat × Tp)) (Rt : List (Nat × Tk)) (hb : Rb.length ≤ 12) : kM kri l yX4_noise wsX4_noise rm_X4_noise D [(cI, .int), (cQ, .array .int)] [.ref s] ([(s, .inr (4, [.int mi, .int no, .int bo, .int si, .int ge, .int so, .int me, .ref ba, .ref ta])), (ba, .inl (cQ, Rb.length, .inr (.inr (.inr (.inr (qf (ad Rb)))))))] ++ ((sT cI (Rb.map bq) (Rt.map tq)) ++ [])) (fun (r : Int32) (u : Unit) => r = nI (ns (sn Rb))) (fun (u : Unit) => ([(s, .inr (4, [.int mi, .int no, .int bo, .int si, .int ge, .int so, .int me, .ref ba, .ref ta])), (ba, .inl (cQ, Rb.length, .inr (.inr (.inr (.inr (qf (ad Rb)))))))] ++ ((sT cI (Rb.map bq) (Rt.map tq)) ++ []))) := by
  refine k_bodyI (cc := cX4_noise) (maxL := 6) (by decide) rfl (Nat.le_of_ble_eq_true rfl) ?_
  intro p e ss m args below meth c A Q F hname hA hG hK hP hD hS ret ls hl
  obtain ⟨hx, hb, hml, hown, hts⟩ := id F
  have hP : va_P D vwCl ([(s, .inr (4, [.int mi, .int no, .int bo, .int si, .int ge, .int so, .int me, .ref ba, .ref ta])), (ba, .inl (cQ, Rb.length, .inr (.inr (.inr (.inr (qf (ad Rb)))))))] ++ ((sT cI (Rb.map bq) (Rt.map tq)) ++ [])) ss.heap := hP
  have hD : va_D A ([(s, .inr (4, [.int mi, .int no, .int bo, .int si, .int ge, .int so, .int me, .ref ba, .ref ta])), (ba, .inl (cQ, Rb.length, .inr (.inr (.inr (.inr (qf (ad Rb)))))))] ++ ((sT cI (Rb.map bq) (Rt.map tq)) ++ [])) := hD
  have hl : lv_has ls 6 [(0, .ref s)] := hl
  have iX4 : ∀ w ∈ u_ws RX4 TX4 9, w ∈ wsX4_noise := by decide +kernel
  have f21 := hts (.fieldLink RX4 21 "SmallerTalkLaw$Sim" "belt" "[[I") (by decide +kernel)
  refine lv_iconst (v := nI 0) hx hb dX4_noise_0 (by decide +kernel) ?_
  refine lv_istore_n (lv' := [(1, .int (nI 0)), (0, .ref s)]) hx hb dX4_noise_1 rfl hl (by decide) rfl (fun ls hl => ?_)
  refine lv_aload_n hx hb dX4_noise_2 rfl (lv_at hl 1 rfl) ?_
  refine va_get (D := D) (ci := 4) (v := .ref ba) (C := RX4) (T := TX4) (N := 9) hx hb hts iX4 hown hK hP 0 rfl rfl 7 (by decide) f21 (fun _ h9 => h9) rfl dX4_noise_3 ?_
  refine lv_astore_n (lv' := [(2, .ref ba), (1, .int (nI 0)), (0, .ref s)]) hx hb dX4_noise_6 rfl hl (by decide) rfl (fun ls hl => ?_)
  refine lv_aload_n hx hb dX4_noise_7 rfl (lv_at hl 0 rfl) ?_
  refine va_alen hx hb hK hP 1 1 rfl rfl (v := nI Rb.length) rfl dX4_noise_8 ?_
  refine lv_istore_n (lv' := [(3, .int (nI Rb.length)), (2, .ref ba), (1, .int (nI 0)), (0, .ref s)]) hx hb dX4_noise_9 rfl hl (by decide) rfl (fun ls hl => ?_)
  refine lv_iconst (v := nI 0) hx hb dX4_noise_10 (by decide +kernel) ?_
  refine lv_istore (lv' := [(4, .int (nI 0)), (3, .int (nI Rb.length)), (2, .ref ba), (1, .int (nI 0)), (0, .ref s)]) hx hb dX4_noise_11 hl (by decide) rfl (fun ls hl => ?_)
  have loop_1 : ∀ (n : Nat) (i : Nat), (i ≤ Rb.length) → Rb.length - i < n → ∀ (H : Heap) (locs : List Loc), va_P D vwCl ([(s, .inr (4, [.int mi, .int no, .int bo, .int si, .int ge, .int so, .int me, .ref ba, .ref ta])), (ba, .inl (cQ, Rb.length, .inr (.inr (.inr (.inr (qf (ad Rb)))))))] ++ ((sT cI (Rb.map bq) (Rt.map tq)) ++ [])) H → va_D A ([(s, .inr (4, [.int mi, .int no, .int bo, .int si, .int ge, .int so, .int me, .ref ba, .ref ta])), (ba, .inl (cQ, Rb.length, .inr (.inr (.inr (.inr (qf (ad Rb)))))))] ++ ((sT cI (Rb.map bq) (Rt.map tq)) ++ [])) → va_S A ss.heap H locs → ∀ ls : Array Slot, lv_has ls 6 [(0, .ref s), (1, .int (nI (nsN (sn Rb) i))), (2, .ref ba), (3, .int (nI Rb.length)), (4, .int (nI i))] → W p l e rm_X4_noise ss m args below meth c H locs 0 0 Q (F0 m 13 ls []) := by
    intro n
    induction n with
    | zero => intro i hi hn; exact absurd hn (by omega)
    | succ n ih =>
      intro i hi hn H locs hP hD hS ls hl
      refine lv_iload hx hb dX4_noise_13 (lv_at hl 4 rfl) ?_
      refine lv_iload_n hx hb dX4_noise_15 rfl (lv_at hl 3 rfl) ?_
      refine k_cmp_ge (tgt := 38) hx hb i Rb.length rfl rfl (by omega) (by omega) dX4_noise_16 (by decide) (fun c_16 => ?_) (fun c_16 => ?_)
      · skip
        obtain rfl : i = Rb.length := by omega
        refine lv_iload_n hx hb dX4_noise_38 rfl (lv_at hl 1 rfl) ?_
        exact ret (nI (nsN (sn Rb) Rb.length)) () _ _ _ _ _ _ (by rw [ns, sn_len]) (z_subP hP [0, 1] (rfl)) (z_subD hD [0, 1] (by decide) (rfl)) hS (Nat.le_of_ble_eq_true rfl) (Nat.le_of_ble_eq_true rfl) dX4_noise_39
      · skip
        refine lv_aload_n hx hb dX4_noise_19 rfl (lv_at hl 2 rfl) ?_
        refine lv_iload hx hb dX4_noise_20 (lv_at hl 4 rfl) ?_
        refine z_qld hx hb hK hP 1 1 rfl rfl i rfl (c_16) (by omega) ((Rb.getD i bd).1) (ad_q c_16) dX4_noise_22 ?_
        refine lv_astore (lv' := [(5, .ref ((Rb.getD i bd).1)), (0, .ref s), (1, .int (nI (nsN (sn Rb) i))), (2, .ref ba), (3, .int (nI Rb.length)), (4, .int (nI i))]) hx hb dX4_noise_23 hl (by decide) rfl (fun ls hl => ?_)
        refine lv_iload_n hx hb dX4_noise_25 rfl (lv_at hl 2 rfl) ?_
        refine lv_aload hx hb dX4_noise_26 (lv_at hl 0 rfl) ?_
        refine lv_iconst (v := nI 0) hx hb dX4_noise_28 (by decide +kernel) ?_
        refine z_bld hx hb hK hP 0 rfl i (mp_len c_16) (bq_1 c_16) 0 rfl (by decide) (nI ((Rb.getD i bd).2.2)) (bq_s c_16) dX4_noise_29 ?_
        refine k_iadd hx hb (nI (nsN (sn Rb) (i + 1))) (by simp only [nsN, sn_gd]; exact nI_add _ _) dX4_noise_30 ?_
        refine lv_istore_n (lv' := [(1, .int (nI (nsN (sn Rb) (i + 1)))), (5, .ref ((Rb.getD i bd).1)), (0, .ref s), (2, .ref ba), (3, .int (nI Rb.length)), (4, .int (nI i))]) hx hb dX4_noise_31 rfl hl (by decide) rfl (fun ls hl => ?_)
        refine lv_iinc (v := nI (i + 1)) (lv' := [(4, .int (nI (i + 1))), (1, .int (nI (nsN (sn Rb) (i + 1)))), (5, .ref ((Rb.getD i bd).1)), (0, .ref s), (2, .ref ba), (3, .int (nI Rb.length))]) hx hb dX4_noise_32 hl (k := 5) rfl (nI_1 _) (by decide) rfl (fun ls hl => ?_)
        refine lv_goto (tgt := 13) hx hb dX4_noise_35 (by decide) ?_
        exact ih (i + 1) (by omega) (by omega) _ _ (z_subP hP [0, 1] (rfl)) (z_subD hD [0, 1] (by decide) (rfl)) hS _ (lv_sub hl [3, 1, 4, 5, 0] (rfl))
  exact loop_1 (Rb.length + 1) 0 (Nat.zero_le _) (by omega) _ _ (z_subP hP [0, 1] (rfl)) (z_subD hD [0, 1] (by decide) (rfl)) hS _ (lv_sub hl [4, 3, 2, 1, 0] (rfl))

abbrev rm_X4_isThere : Room := { frames := 0, cells := 0, slots := 0, locals := 0 }
set_option maxHeartbeats 4000000 in
set_option maxRecDepth 100000 in
theorem c_X4_isThere (l : Launch) (D : va_G) (cI : ClassId) (cQ : ClassId) (s : Nat) (ba : Nat) (ta : Nat) (mi : Int32) (no : Int32) (bo : Int32) (si : Int32) (ge : Int32) (so : Int32) (me : Int32) (Rb : List (Nat × Tp)) (Rt : List (Nat × Tk)) (j : Nat) (hj : j < Rt.length) (ht : Rt.length ≤ 6) (hX : okX (sn Rt)) : kM kri l yX4_isThere wsX4_isThere rm_X4_isThere D [(cI, .int), (cQ, .array .int)] [.ref s, .int (nI j)] ([(s, .inr (4, [.int mi, .int no, .int bo, .int si, .int ge, .int so, .int me, .ref ba, .ref ta])), (ta, .inl (cQ, Rt.length, .inr (.inr (.inr (.inr (qf (ad Rt)))))))] ++ ((sT cI (Rb.map bq) (Rt.map tq)) ++ [])) (fun (r : Int32) (u : Unit) => r = (if tkX (Rt.getD j td).2 = -1 then 1 else 0)) (fun (u : Unit) => ([(s, .inr (4, [.int mi, .int no, .int bo, .int si, .int ge, .int so, .int me, .ref ba, .ref ta])), (ta, .inl (cQ, Rt.length, .inr (.inr (.inr (.inr (qf (ad Rt)))))))] ++ ((sT cI (Rb.map bq) (Rt.map tq)) ++ []))) := by
  refine k_bodyZ (cc := cX4_isThere) (maxL := 2) (by decide) rfl (Nat.le_of_ble_eq_true rfl) ?_
  intro p e ss m args below meth c A Q F hname hA hG hK hP hD hS ret ls hl
  obtain ⟨hx, hb, hml, hown, hts⟩ := id F
  have hP : va_P D vwCl ([(s, .inr (4, [.int mi, .int no, .int bo, .int si, .int ge, .int so, .int me, .ref ba, .ref ta])), (ta, .inl (cQ, Rt.length, .inr (.inr (.inr (.inr (qf (ad Rt)))))))] ++ ((sT cI (Rb.map bq) (Rt.map tq)) ++ [])) ss.heap := hP
  have hD : va_D A ([(s, .inr (4, [.int mi, .int no, .int bo, .int si, .int ge, .int so, .int me, .ref ba, .ref ta])), (ta, .inl (cQ, Rt.length, .inr (.inr (.inr (.inr (qf (ad Rt)))))))] ++ ((sT cI (Rb.map bq) (Rt.map tq)) ++ [])) := hD
  have hl : lv_has ls 2 [(0, .ref s), (1, .int (nI j))] := hl
  have iX4 : ∀ w ∈ u_ws RX4 TX4 9, w ∈ wsX4_isThere := by decide +kernel
  have f25 := hts (.fieldLink RX4 25 "SmallerTalkLaw$Sim" "talkers" "[[I") (by decide +kernel)
  have hj2 : j < (sn Rt).length := by rw [sn_len]; exact hj
  have e9 := sn_gdT Rt j
  refine lv_aload_n hx hb dX4_isThere_0 rfl (lv_at hl 0 rfl) ?_
  refine va_get (D := D) (ci := 4) (v := .ref ta) (C := RX4) (T := TX4) (N := 9) hx hb hts iX4 hown hK hP 0 rfl rfl 8 (by decide) f25 (fun _ h9 => h9) rfl dX4_isThere_1 ?_
  refine lv_iload_n hx hb dX4_isThere_4 rfl (lv_at hl 1 rfl) ?_
  refine z_qld hx hb hK hP 1 1 rfl rfl j rfl (hj) (by omega) ((Rt.getD j td).1) (ad_q hj) dX4_isThere_5 ?_
  refine lv_iconst (v := nI 1) hx hb dX4_isThere_6 (by decide +kernel) ?_
  refine z_tld hx hb hK hP 0 rfl j (mp_len hj) (tq_1 hj) 1 rfl (by decide) (tkX (Rt.getD j td).2) (tq_x hj) dX4_isThere_7 ?_
  refine lv_if_ge (tgt := 15) hx hb dX4_isThere_8 (by decide) (fun c_8 => ?_) (fun c_8 => ?_)
  · skip
    refine lv_iconst (v := nI 0) hx hb dX4_isThere_15 (by decide +kernel) ?_
    exact ret (nI 0) () _ _ _ _ _ _ rfl (by rw [if_neg (fun h9 => by rw [h9] at c_8; exact absurd c_8 (by decide))]; rfl) (z_subP hP [0, 1] (rfl)) (z_subD hD [0, 1] (by decide) (rfl)) hS (Nat.le_of_ble_eq_true rfl) (Nat.le_of_ble_eq_true rfl) dX4_isThere_16
  · skip
    refine lv_iconst (v := nI 1) hx hb dX4_isThere_11 (by decide +kernel) ?_
    refine lv_goto (tgt := 16) hx hb dX4_isThere_12 (by decide) ?_
    exact ret (nI 1) () _ _ _ _ _ _ rfl (by rw [if_pos (by rw [← e9]; exact okX_y hX hj2 (by rw [e9]; exact Int32.not_le.mp c_8))]; rfl) (z_subP hP [0, 1] (rfl)) (z_subD hD [0, 1] (by decide) (rfl)) hS (Nat.le_of_ble_eq_true rfl) (Nat.le_of_ble_eq_true rfl) dX4_isThere_16

abbrev rm_X4_turns : Room := { frames := 0, cells := 0, slots := 0, locals := 0 }
set_option maxHeartbeats 4000000 in
set_option maxRecDepth 100000 in
theorem c_X4_turns (l : Launch) (D : va_G) (cI : ClassId) (cQ : ClassId) (s : Nat) (ba : Nat) (ta : Nat) (mi : Int32) (no : Int32) (bo : Int32) (si : Int32) (so : Int32) (me : Int32) (g : Nat) (z : Nat) (hg : 2 ≤ g ∧ g ≤ 9) (hz : z ≤ 99) : kM kri l yX4_turns wsX4_turns rm_X4_turns D [(cI, .int), (cQ, .array .int)] [.ref s, .int (nI z)] ([(s, .inr (4, [.int mi, .int no, .int bo, .int si, .int (nI g), .int so, .int me, .ref ba, .ref ta]))] ++ []) (fun (r : Int32) (u : Unit) => tnR g z r) (fun (u : Unit) => ([(s, .inr (4, [.int mi, .int no, .int bo, .int si, .int (nI g), .int so, .int me, .ref ba, .ref ta]))] ++ [])) := by
  refine k_bodyI (cc := cX4_turns) (maxL := 4) (by decide) rfl (Nat.le_of_ble_eq_true rfl) ?_
  intro p e ss m args below meth c A Q F hname hA hG hK hP hD hS ret ls hl
  obtain ⟨hx, hb, hml, hown, hts⟩ := id F
  have hP : va_P D vwCl ([(s, .inr (4, [.int mi, .int no, .int bo, .int si, .int (nI g), .int so, .int me, .ref ba, .ref ta]))] ++ []) ss.heap := hP
  have hD : va_D A ([(s, .inr (4, [.int mi, .int no, .int bo, .int si, .int (nI g), .int so, .int me, .ref ba, .ref ta]))] ++ []) := hD
  have hl : lv_has ls 4 [(0, .ref s), (1, .int (nI z))] := hl
  have iX4 : ∀ w ∈ u_ws RX4 TX4 9, w ∈ wsX4_turns := by decide +kernel
  have f7 := hts (.fieldLink RX4 7 "SmallerTalkLaw$Sim" "gear" "I") (by decide +kernel)
  refine lv_iconst (v := nI 0) hx hb dX4_turns_0 (by decide +kernel) ?_
  refine lv_istore_n (lv' := [(2, .int (nI 0)), (0, .ref s), (1, .int (nI z))]) hx hb dX4_turns_1 rfl hl (by decide) rfl (fun ls hl => ?_)
  refine lv_iload_n hx hb dX4_turns_2 rfl (lv_at hl 2 rfl) ?_
  refine lv_istore_n (lv' := [(3, .int (nI z)), (2, .int (nI 0)), (0, .ref s), (1, .int (nI z))]) hx hb dX4_turns_3 rfl hl (by decide) rfl (fun ls hl => ?_)
  have loop_1 : ∀ (n : Nat) (i : Nat), (i ≤ 99) → (∀ t, t < i → ¬ dvN g z t < 2) → 99 - i < n → ∀ (H : Heap) (locs : List Loc), va_P D vwCl ([(s, .inr (4, [.int mi, .int no, .int bo, .int si, .int (nI g), .int so, .int me, .ref ba, .ref ta]))] ++ []) H → va_D A ([(s, .inr (4, [.int mi, .int no, .int bo, .int si, .int (nI g), .int so, .int me, .ref ba, .ref ta]))] ++ []) → va_S A ss.heap H locs → ∀ ls : Array Slot, lv_has ls 4 [(0, .ref s), (2, .int (nI i)), (3, .int (nI (dvN g z i)))] → W p l e rm_X4_turns ss m args below meth c H locs 0 0 Q (F0 m 4 ls []) := by
    intro n
    induction n with
    | zero => intro i hi hh hn; exact absurd hn (by omega)
    | succ n ih =>
      intro i hi hh hn H locs hP hD hS ls hl
      have hle := dvN_le g z i
      refine lv_iload_n hx hb dX4_turns_4 rfl (lv_at hl 2 rfl) ?_
      refine lv_iconst (v := nI 1) hx hb dX4_turns_5 (by decide +kernel) ?_
      refine k_cmp_le (tgt := 22) hx hb (dvN g z i) 1 rfl rfl (by omega) (by omega) dX4_turns_6 (by decide) (fun c_6 => ?_) (fun c_6 => ?_)
      · skip
        refine lv_iload_n hx hb dX4_turns_22 rfl (lv_at hl 1 rfl) ?_
        exact ret (nI i) () _ _ _ _ _ _ (⟨i, by omega, hh, rfl⟩) (z_subP hP [0] (rfl)) (z_subD hD [0] (by decide) (rfl)) hS (Nat.le_of_ble_eq_true rfl) (Nat.le_of_ble_eq_true rfl) dX4_turns_23
      · skip
        have h98 := dvN_turns (k := i) hg.1 hz (by omega)
        refine lv_iload_n hx hb dX4_turns_9 rfl (lv_at hl 2 rfl) ?_
        refine lv_aload_n hx hb dX4_turns_10 rfl (lv_at hl 0 rfl) ?_
        refine va_get (D := D) (ci := 4) (v := .int (nI g)) (C := RX4) (T := TX4) (N := 9) hx hb hts iX4 hown hK hP 0 rfl rfl 4 (by decide) f7 (fun _ h9 => h9) rfl dX4_turns_11 ?_
        refine k_idiv hx hb (nI (dvN g z (i + 1))) (nI_ne0 (by omega) (by omega)) (pk_div (by omega) (by omega) (by omega)) dX4_turns_14 ?_
        refine lv_istore_n (lv' := [(3, .int (nI (dvN g z (i + 1)))), (0, .ref s), (2, .int (nI i))]) hx hb dX4_turns_15 rfl hl (by decide) rfl (fun ls hl => ?_)
        refine lv_iinc (v := nI (i + 1)) (lv' := [(2, .int (nI (i + 1))), (3, .int (nI (dvN g z (i + 1)))), (0, .ref s)]) hx hb dX4_turns_16 hl (k := 2) rfl (nI_1 _) (by decide) rfl (fun ls hl => ?_)
        refine lv_goto (tgt := 4) hx hb dX4_turns_19 (by decide) ?_
        exact ih (i + 1) (by omega) (lt_s hh (by omega)) (by omega) _ _ (z_subP hP [0] (rfl)) (z_subD hD [0] (by decide) (rfl)) hS _ (lv_sub hl [2, 0, 1] (rfl))
  exact loop_1 (99 + 1) 0 (by omega) (fun _ h => absurd h (by omega)) (by omega) _ _ (z_subP hP [0] (rfl)) (z_subD hD [0] (by decide) (rfl)) hS _ (lv_sub hl [2, 1, 0] (rfl))

abbrev rm_X4_push : Room := { frames := 1, cells := 13, slots := 157, locals := 23 }
set_option maxHeartbeats 4000000 in
set_option maxRecDepth 100000 in
theorem c_X4_push (l : Launch) (D : va_G) (cI : ClassId) (cQ : ClassId) (s : Nat) (ba : Nat) (ta : Nat) (mi : Int32) (no : Int32) (bo : Int32) (si : Int32) (ge : Int32) (so : Int32) (me : Int32) (Rb : List (Nat × Tp)) (Rt : List (Nat × Tk)) (j : Nat) (hj : j < Rb.length) (hb : Rb.length ≤ 12) : kM krv l yX4_push wsX4_push rm_X4_push D [(cI, .int), (cQ, .array .int)] [.ref s, .int (nI j)] ([(s, .inr (4, [.int mi, .int no, .int bo, .int si, .int ge, .int so, .int me, .ref ba, .ref ta])), (ba, .inl (cQ, Rb.length, .inr (.inr (.inr (.inr (qf (ad Rb)))))))] ++ ((sT cI (Rb.map bq) (Rt.map tq)) ++ [])) (fun (r : Unit) (u : Nat) => True) (fun (u : Nat) => ([(s, .inr (4, [.int mi, .int no, .int bo, .int si, .int ge, .int so, .int me, .ref u, .ref ta])), (u, .inl (cQ, (mtq Rb j).length, .inr (.inr (.inr (.inr (qf (ad (mtq Rb j))))))))] ++ ((sT cI ((mtq Rb j).map bq) (Rt.map tq)) ++ []))) := by
  refine k_bodyV (cc := cX4_push) (maxL := 4) (by decide) rfl (Nat.le_of_ble_eq_true rfl) ?_
  intro p e ss m args below meth c A Q F hname hA hG hK hP hD hS ret ls hl
  obtain ⟨hx, hb, hml, hown, hts⟩ := id F
  have hP : va_P D vwCl ([(s, .inr (4, [.int mi, .int no, .int bo, .int si, .int ge, .int so, .int me, .ref ba, .ref ta])), (ba, .inl (cQ, Rb.length, .inr (.inr (.inr (.inr (qf (ad Rb)))))))] ++ ((sT cI (Rb.map bq) (Rt.map tq)) ++ [])) ss.heap := hP
  have hD : va_D A ([(s, .inr (4, [.int mi, .int no, .int bo, .int si, .int ge, .int so, .int me, .ref ba, .ref ta])), (ba, .inl (cQ, Rb.length, .inr (.inr (.inr (.inr (qf (ad Rb)))))))] ++ ((sT cI (Rb.map bq) (Rt.map tq)) ++ [])) := hD
  have hl : lv_has ls 4 [(0, .ref s), (1, .int (nI j))] := hl
  have iX4 : ∀ w ∈ u_ws RX4 TX4 9, w ∈ wsX4_push := by decide +kernel
  have f21 := hts (.fieldLink RX4 21 "SmallerTalkLaw$Sim" "belt" "[[I") (by decide +kernel)
  refine lv_iconst (v := nI 1) hx hb dX4_push_0 (by decide +kernel) ?_
  refine z_qnew hx hb hown (hts (.classLink RX4 19 "[I") (by decide +kernel)) hG.2.2.1.2.2.2.2.2.2.2.2 hK 1 rfl hP hD hS hA 1 rfl (by omega) (Nat.le_of_ble_eq_true rfl) (Nat.le_of_ble_eq_true rfl) dX4_push_1 (fun q_1 H hP hD hS => ?_)
  have hP : va_P D vwCl ([(s, .inr (4, [.int mi, .int no, .int bo, .int si, .int ge, .int so, .int me, .ref ba, .ref ta])), (ba, .inl (cQ, Rb.length, .inr (.inr (.inr (.inr (qf (ad Rb))))))), (q_1, .inl (cQ, 1, .inr (.inr (.inr (.inr (fun _ => none))))))] ++ ((sT cI (Rb.map bq) (Rt.map tq)) ++ [])) H := hP
  have hD : va_D A ([(s, .inr (4, [.int mi, .int no, .int bo, .int si, .int ge, .int so, .int me, .ref ba, .ref ta])), (ba, .inl (cQ, Rb.length, .inr (.inr (.inr (.inr (qf (ad Rb))))))), (q_1, .inl (cQ, 1, .inr (.inr (.inr (.inr (fun _ => none))))))] ++ ((sT cI (Rb.map bq) (Rt.map tq)) ++ [])) := hD
  refine lv_dup hx hb dX4_push_4 rfl ?_
  refine lv_iconst (v := nI 0) hx hb dX4_push_5 (by decide +kernel) ?_
  refine lv_aload_n hx hb dX4_push_6 rfl (lv_at hl 0 rfl) ?_
  refine va_get (D := D) (ci := 4) (v := .ref ba) (C := RX4) (T := TX4) (N := 9) hx hb hts iX4 hown hK hP 0 rfl rfl 7 (by decide) f21 (fun _ h9 => h9) rfl dX4_push_7 ?_
  refine lv_iload_n hx hb dX4_push_10 rfl (lv_at hl 1 rfl) ?_
  refine z_qld hx hb hK hP 1 1 rfl rfl j rfl (hj) (by omega) ((Rb.getD j bd).1) (ad_q hj) dX4_push_11 ?_
  refine z_qst hx hb hG.2.2.1.2.2.2.2.2.2.2.2 hK hP hD hS 2 1 0 rfl rfl rfl ((zL_Bq (Rb := Rb)).zi (ad_mem hj) hP) 0 rfl (by omega) (by omega) dX4_push_12 (fun H locs hP hD hS => ?_)
  have hP : va_P D vwCl ([(s, .inr (4, [.int mi, .int no, .int bo, .int si, .int ge, .int so, .int me, .ref ba, .ref ta])), (ba, .inl (cQ, Rb.length, .inr (.inr (.inr (.inr (qf (ad Rb))))))), (q_1, .inl (cQ, 1, .inr (.inr (.inr (.inr (va_up (fun _ => none) 0 (some ((Rb.getD j bd).1))))))))] ++ ((sT cI (Rb.map bq) (Rt.map tq)) ++ [])) H := hP
  have hD : va_D A ([(s, .inr (4, [.int mi, .int no, .int bo, .int si, .int ge, .int so, .int me, .ref ba, .ref ta])), (ba, .inl (cQ, Rb.length, .inr (.inr (.inr (.inr (qf (ad Rb))))))), (q_1, .inl (cQ, 1, .inr (.inr (.inr (.inr (va_up (fun _ => none) 0 (some ((Rb.getD j bd).1))))))))] ++ ((sT cI (Rb.map bq) (Rt.map tq)) ++ [])) := hD
  refine lv_astore_n (lv' := [(2, .ref q_1), (0, .ref s), (1, .int (nI j))]) hx hb dX4_push_13 rfl hl (by decide) rfl (fun ls hl => ?_)
  refine lv_iconst (v := nI 0) hx hb dX4_push_14 (by decide +kernel) ?_
  refine lv_istore_n (lv' := [(3, .int (nI 0)), (2, .ref q_1), (0, .ref s), (1, .int (nI j))]) hx hb dX4_push_15 rfl hl (by decide) rfl (fun ls hl => ?_)
  have loop_2 : ∀ (n : Nat) (cl sl : Nat) (jp : Nat) (qm : Nat), (jp ≤ Rb.length) → (cl ≤ 1 + jp ∧ sl ≤ 1 + 13 * jp) → Rb.length - jp < n → ∀ (H : Heap) (locs : List Loc), va_P D vwCl ([(s, .inr (4, [.int mi, .int no, .int bo, .int si, .int ge, .int so, .int me, .ref ba, .ref ta])), (ba, .inl (cQ, Rb.length, .inr (.inr (.inr (.inr (qf (ad Rb))))))), (qm, .inl (cQ, (pL Rb j jp).length, .inr (.inr (.inr (.inr (qf (pL Rb j jp)))))))] ++ ((sT cI (Rb.map bq) (Rt.map tq)) ++ [])) H → va_D A ([(s, .inr (4, [.int mi, .int no, .int bo, .int si, .int ge, .int so, .int me, .ref ba, .ref ta])), (ba, .inl (cQ, Rb.length, .inr (.inr (.inr (.inr (qf (ad Rb))))))), (qm, .inl (cQ, (pL Rb j jp).length, .inr (.inr (.inr (.inr (qf (pL Rb j jp)))))))] ++ ((sT cI (Rb.map bq) (Rt.map tq)) ++ [])) → va_S A ss.heap H locs → ∀ ls : Array Slot, lv_has ls 4 [(0, .ref s), (1, .int (nI j)), (2, .ref qm), (3, .int (nI jp))] → W p l e rm_X4_push ss m args below meth c H locs cl sl Q (F0 m 16 ls []) := by
    intro n
    induction n with
    | zero => intro cl sl jp qm hjp hc9 hn; exact absurd hn (by omega)
    | succ n ih =>
      intro cl sl jp qm hjp hc9 hn H locs hP hD hS ls hl
      refine lv_iload_n hx hb dX4_push_16 rfl (lv_at hl 3 rfl) ?_
      refine lv_aload_n hx hb dX4_push_17 rfl (lv_at hl 0 rfl) ?_
      refine va_get (D := D) (ci := 4) (v := .ref ba) (C := RX4) (T := TX4) (N := 9) hx hb hts iX4 hown hK hP 0 rfl rfl 7 (by decide) f21 (fun _ h9 => h9) rfl dX4_push_18 ?_
      refine va_alen hx hb hK hP 1 1 rfl rfl (v := nI Rb.length) rfl dX4_push_21 ?_
      refine k_cmp_ge (tgt := 47) hx hb jp Rb.length rfl rfl (by omega) (by omega) dX4_push_22 (by decide) (fun c_22 => ?_) (fun c_22 => ?_)
      · skip
        obtain rfl : jp = Rb.length := by omega
        refine lv_aload_n hx hb dX4_push_47 rfl (lv_at hl 0 rfl) ?_
        refine lv_aload_n hx hb dX4_push_48 rfl (lv_at hl 2 rfl) ?_
        refine va_put (D := D) (ci := 4) (v := .ref qm) (ty := (.array (.array .int))) (C := RX4) (T := TX4) (N := 9) hx hb hts iX4 tyX4 tyX4_ok nmX4 hown hK hP hD hS 0 rfl rfl 7 (by decide) f21 (fun _ h9 => h9) rfl (by decide +kernel) rfl rfl (Nat.le_of_ble_eq_true rfl) dX4_push_49 (fun H locs hP hD hS => ?_)
        have hP : va_P D vwCl ([(s, .inr (4, [.int mi, .int no, .int bo, .int si, .int ge, .int so, .int me, .ref qm, .ref ta])), (ba, .inl (cQ, Rb.length, .inr (.inr (.inr (.inr (qf (ad Rb))))))), (qm, .inl (cQ, (pL Rb j Rb.length).length, .inr (.inr (.inr (.inr (qf (pL Rb j Rb.length)))))))] ++ ((sT cI (Rb.map bq) (Rt.map tq)) ++ [])) H := hP
        have hD : va_D A ([(s, .inr (4, [.int mi, .int no, .int bo, .int si, .int ge, .int so, .int me, .ref qm, .ref ta])), (ba, .inl (cQ, Rb.length, .inr (.inr (.inr (.inr (qf (ad Rb))))))), (qm, .inl (cQ, (pL Rb j Rb.length).length, .inr (.inr (.inr (.inr (qf (pL Rb j Rb.length)))))))] ++ ((sT cI (Rb.map bq) (Rt.map tq)) ++ [])) := hD
        have hP := z_PS (z_sel (rS_mtq hj) rS.rf) hP
        have hD := z_DS (z_sel (rS_mtq hj) rS.rf) hD
        exact ret qm _ _ _ _ _ _ (trivial) (z_subP hP [0, 2] (by rw [pL_end, ad_len]; rfl)) (z_subD hD [0, 2] (by decide) (by rw [pL_end, ad_len]; rfl)) hS ((show cl ≤ 13 by omega)) ((show sl ≤ 157 by omega)) dX4_push_52
      · skip
        refine lv_iload_n hx hb dX4_push_25 rfl (lv_at hl 3 rfl) ?_
        refine lv_iload_n hx hb dX4_push_26 rfl (lv_at hl 1 rfl) ?_
        refine k_cmp_eq (tgt := 41) hx hb jp j rfl rfl (by omega) (by omega) dX4_push_27 (by decide) (fun c_27 => ?_) (fun c_27 => ?_)
        · skip
          refine lv_iinc (v := nI (jp + 1)) (lv' := [(3, .int (nI (jp + 1))), (0, .ref s), (1, .int (nI j)), (2, .ref qm)]) hx hb dX4_push_41 hl (k := 3) rfl (nI_1 _) (by decide) rfl (fun ls hl => ?_)
          refine lv_goto (tgt := 16) hx hb dX4_push_44 (by decide) ?_
          subst c_27
          exact ih cl sl (jp + 1) qm (by omega) (by omega) (by omega) _ _ (z_subP hP [0, 1, 2] (by rw [pL_e hj]; rfl)) (z_subD hD [0, 1, 2] (by decide) (by rw [pL_e hj]; rfl)) hS _ (lv_sub hl [1, 2, 3, 0] (rfl))
        · skip
          refine lv_aload_n hx hb dX4_push_30 rfl (lv_at hl 2 rfl) ?_
          refine lv_aload_n hx hb dX4_push_31 rfl (lv_at hl 0 rfl) ?_
          refine va_get (D := D) (ci := 4) (v := .ref ba) (C := RX4) (T := TX4) (N := 9) hx hb hts iX4 hown hK hP 0 rfl rfl 7 (by decide) f21 (fun _ h9 => h9) rfl dX4_push_32 ?_
          refine lv_iload_n hx hb dX4_push_35 rfl (lv_at hl 3 rfl) ?_
          refine z_qld hx hb hK hP 1 1 rfl rfl jp rfl (c_22) (by omega) ((Rb.getD jp bd).1) (ad_q c_22) dX4_push_36 ?_
          refine kz_callS (As := [.ref qm, .ref ((Rb.getD jp bd).1)]) (rest := []) (wp := [(s, .inr (4, [.int mi, .int no, .int bo, .int si, .int ge, .int so, .int me, .ref ba, .ref ta])), (ba, .inl (cQ, Rb.length, .inr (.inr (.inr (.inr (qf (ad Rb))))))), (qm, .inl (cQ, (pL Rb j jp).length, .inr (.inr (.inr (.inr (qf (pL Rb j jp)))))))]) (wc := [(qm, .inl (cQ, (pL Rb j jp).length, .inr (.inr (.inr (.inr (qf (pL Rb j jp)))))))]) (wr := [(s, .inr (4, [.int mi, .int no, .int bo, .int si, .int ge, .int so, .int me, .ref ba, .ref ta])), (ba, .inl (cQ, Rb.length, .inr (.inr (.inr (.inr (qf (ad Rb)))))))]) (Z := ((sT cI (Rb.map bq) (Rt.map tq)) ++ [])) (X0 := ((sT cI (Rb.map bq) (Rt.map tq)) ++ [])) (Y := []) (wc1 := (fun (u : Nat) => [(qm, .inl (cQ, (pL Rb j jp).length, .inr (.inr (.inr (.inr (qf (pL Rb j jp))))))), (u, .inl (cQ, ((pL Rb j jp).length) + 1, .inr (.inr (.inr (.inr (qf ((pL Rb j jp) ++ [((Rb.getD jp bd).1)])))))))])) (X1 := (fun (u : Nat) => ((sT cI (Rb.map bq) (Rt.map tq)) ++ []))) F (c_X4_with l D cI cQ qm ((Rb.getD jp bd).1) ((pL Rb j jp).length) (pL Rb j jp) ((sT cI (Rb.map bq) (Rt.map tq)) ++ []) ((zL_Bq (Rb := Rb)).sub (cons_mem (ad_mem c_22) (pL_mem hj))) rfl (by have := pL_len Rb j jp; omega)) gX4_push_X4_with rfl (nA := 2) (by decide +kernel) rfl ⟨Nat.le_of_ble_eq_true rfl, Nat.le_of_ble_eq_true rfl⟩ hK hP hD hS hA hG [2] [0, 1] rfl (by decide) z_permnil rfl (fun _ => rfl) [0, 1] rfl rfl hl.1 (Nat.le_of_ble_eq_true rfl) dX4_push_37 ⟨(show cl + 1 ≤ 13 by omega), (show sl + 13 ≤ 157 by omega)⟩ (fun r_3 u H locs hr_37 hP hD hS => ?_)
          obtain ⟨na_37, rfl⟩ : ∃ z, z = u := ⟨_, rfl⟩
          try dsimp only at hr_37
          have hP := z_PS z_nil hP
          have hD := z_DS z_nil hD
          have hP : va_P D vwCl ([(s, .inr (4, [.int mi, .int no, .int bo, .int si, .int ge, .int so, .int me, .ref ba, .ref ta])), (ba, .inl (cQ, Rb.length, .inr (.inr (.inr (.inr (qf (ad Rb))))))), (qm, .inl (cQ, (pL Rb j jp).length, .inr (.inr (.inr (.inr (qf (pL Rb j jp))))))), (na_37, .inl (cQ, ((pL Rb j jp).length) + 1, .inr (.inr (.inr (.inr (qf ((pL Rb j jp) ++ [((Rb.getD jp bd).1)])))))))] ++ ((sT cI (Rb.map bq) (Rt.map tq)) ++ [])) H := hP
          have hD : va_D A ([(s, .inr (4, [.int mi, .int no, .int bo, .int si, .int ge, .int so, .int me, .ref ba, .ref ta])), (ba, .inl (cQ, Rb.length, .inr (.inr (.inr (.inr (qf (ad Rb))))))), (qm, .inl (cQ, (pL Rb j jp).length, .inr (.inr (.inr (.inr (qf (pL Rb j jp))))))), (na_37, .inl (cQ, ((pL Rb j jp).length) + 1, .inr (.inr (.inr (.inr (qf ((pL Rb j jp) ++ [((Rb.getD jp bd).1)])))))))] ++ ((sT cI (Rb.map bq) (Rt.map tq)) ++ [])) := hD
          refine W.eq (g2 := F0 m 40 ls [.ref r_3]) rfl ?_
          refine W.widen (k := cl + 1) (n := sl + 13) (Nat.le_refl _) (Nat.le_refl _) ?_
          refine k_topR (v := na_37) hr_37 ?_
          refine lv_astore_n (lv' := [(2, .ref na_37), (0, .ref s), (1, .int (nI j)), (3, .int (nI jp))]) hx hb dX4_push_40 rfl hl (by decide) rfl (fun ls hl => ?_)
          refine lv_iinc (v := nI (jp + 1)) (lv' := [(3, .int (nI (jp + 1))), (2, .ref na_37), (0, .ref s), (1, .int (nI j))]) hx hb dX4_push_41 hl (k := 3) rfl (nI_1 _) (by decide) rfl (fun ls hl => ?_)
          refine lv_goto (tgt := 16) hx hb dX4_push_44 (by decide) ?_
          exact ih (cl + 1) (sl + 13) (jp + 1) na_37 (by omega) (by omega) (by omega) _ _ (z_subP hP [0, 1, 3] (by rw [pL_s c_22 c_27, List.length_append]; rfl)) (z_subD hD [0, 1, 3] (by decide) (by rw [pL_s c_22 c_27, List.length_append]; rfl)) hS _ (lv_sub hl [2, 3, 1, 0] (rfl))
  exact loop_2 (Rb.length + 1) 1 1 0 q_1 (Nat.zero_le _) (by omega) (by omega) _ _ (z_subP hP [0, 1, 2] (by rw [qf_1]; rfl)) (z_subD hD [0, 1, 2] (by decide) (by rw [qf_1]; rfl)) hS _ (lv_sub hl [2, 3, 1, 0] (rfl))

abbrev rm_X4_drop : Room := { frames := 1, cells := 13, slots := 157, locals := 23 }
set_option maxHeartbeats 4000000 in
set_option maxRecDepth 100000 in
theorem c_X4_drop (l : Launch) (D : va_G) (cI : ClassId) (cQ : ClassId) (s : Nat) (ba : Nat) (ta : Nat) (mi : Int32) (no : Int32) (bo : Int32) (si : Int32) (ge : Int32) (so : Int32) (me : Int32) (Rb : List (Nat × Tp)) (Rt : List (Nat × Tk)) (j : Nat) (hj : j < Rb.length) (hb : Rb.length ≤ 12) : kM krv l yX4_drop wsX4_drop rm_X4_drop D [(cI, .int), (cQ, .array .int)] [.ref s, .int (nI j)] ([(s, .inr (4, [.int mi, .int no, .int bo, .int si, .int ge, .int so, .int me, .ref ba, .ref ta])), (ba, .inl (cQ, Rb.length, .inr (.inr (.inr (.inr (qf (ad Rb)))))))] ++ ((sT cI (Rb.map bq) (Rt.map tq)) ++ [])) (fun (r : Unit) (u : Nat) => True) (fun (u : Nat) => ([(s, .inr (4, [.int mi, .int no, .int bo, .int si, .int ge, .int so, .int me, .ref u, .ref ta])), (u, .inl (cQ, (Rb.eraseIdx j).length, .inr (.inr (.inr (.inr (qf (ad (Rb.eraseIdx j))))))))] ++ ((sT cI ((Rb.eraseIdx j).map bq) (Rt.map tq)) ++ []))) := by
  refine k_bodyV (cc := cX4_drop) (maxL := 4) (by decide) rfl (Nat.le_of_ble_eq_true rfl) ?_
  intro p e ss m args below meth c A Q F hname hA hG hK hP hD hS ret ls hl
  obtain ⟨hx, hb, hml, hown, hts⟩ := id F
  have hP : va_P D vwCl ([(s, .inr (4, [.int mi, .int no, .int bo, .int si, .int ge, .int so, .int me, .ref ba, .ref ta])), (ba, .inl (cQ, Rb.length, .inr (.inr (.inr (.inr (qf (ad Rb)))))))] ++ ((sT cI (Rb.map bq) (Rt.map tq)) ++ [])) ss.heap := hP
  have hD : va_D A ([(s, .inr (4, [.int mi, .int no, .int bo, .int si, .int ge, .int so, .int me, .ref ba, .ref ta])), (ba, .inl (cQ, Rb.length, .inr (.inr (.inr (.inr (qf (ad Rb)))))))] ++ ((sT cI (Rb.map bq) (Rt.map tq)) ++ [])) := hD
  have hl : lv_has ls 4 [(0, .ref s), (1, .int (nI j))] := hl
  have iX4 : ∀ w ∈ u_ws RX4 TX4 9, w ∈ wsX4_drop := by decide +kernel
  have f21 := hts (.fieldLink RX4 21 "SmallerTalkLaw$Sim" "belt" "[[I") (by decide +kernel)
  refine lv_iconst (v := nI 0) hx hb dX4_drop_0 (by decide +kernel) ?_
  refine z_qnew hx hb hown (hts (.classLink RX4 19 "[I") (by decide +kernel)) hG.2.2.1.2.2.2.2.2.2.2.2 hK 1 rfl hP hD hS hA 0 rfl (by omega) (Nat.le_of_ble_eq_true rfl) (Nat.le_of_ble_eq_true rfl) dX4_drop_1 (fun q_1 H hP hD hS => ?_)
  have hP : va_P D vwCl ([(s, .inr (4, [.int mi, .int no, .int bo, .int si, .int ge, .int so, .int me, .ref ba, .ref ta])), (ba, .inl (cQ, Rb.length, .inr (.inr (.inr (.inr (qf (ad Rb))))))), (q_1, .inl (cQ, 0, .inr (.inr (.inr (.inr (fun _ => none))))))] ++ ((sT cI (Rb.map bq) (Rt.map tq)) ++ [])) H := hP
  have hD : va_D A ([(s, .inr (4, [.int mi, .int no, .int bo, .int si, .int ge, .int so, .int me, .ref ba, .ref ta])), (ba, .inl (cQ, Rb.length, .inr (.inr (.inr (.inr (qf (ad Rb))))))), (q_1, .inl (cQ, 0, .inr (.inr (.inr (.inr (fun _ => none))))))] ++ ((sT cI (Rb.map bq) (Rt.map tq)) ++ [])) := hD
  refine lv_astore_n (lv' := [(2, .ref q_1), (0, .ref s), (1, .int (nI j))]) hx hb dX4_drop_4 rfl hl (by decide) rfl (fun ls hl => ?_)
  refine lv_iconst (v := nI 0) hx hb dX4_drop_5 (by decide +kernel) ?_
  refine lv_istore_n (lv' := [(3, .int (nI 0)), (2, .ref q_1), (0, .ref s), (1, .int (nI j))]) hx hb dX4_drop_6 rfl hl (by decide) rfl (fun ls hl => ?_)
  have loop_2 : ∀ (n : Nat) (cl sl : Nat) (jp : Nat) (qm : Nat), (jp ≤ Rb.length) → (cl ≤ 1 + jp ∧ sl ≤ 1 + 13 * jp) → Rb.length - jp < n → ∀ (H : Heap) (locs : List Loc), va_P D vwCl ([(s, .inr (4, [.int mi, .int no, .int bo, .int si, .int ge, .int so, .int me, .ref ba, .ref ta])), (ba, .inl (cQ, Rb.length, .inr (.inr (.inr (.inr (qf (ad Rb))))))), (qm, .inl (cQ, (dL Rb j jp).length, .inr (.inr (.inr (.inr (qf (dL Rb j jp)))))))] ++ ((sT cI (Rb.map bq) (Rt.map tq)) ++ [])) H → va_D A ([(s, .inr (4, [.int mi, .int no, .int bo, .int si, .int ge, .int so, .int me, .ref ba, .ref ta])), (ba, .inl (cQ, Rb.length, .inr (.inr (.inr (.inr (qf (ad Rb))))))), (qm, .inl (cQ, (dL Rb j jp).length, .inr (.inr (.inr (.inr (qf (dL Rb j jp)))))))] ++ ((sT cI (Rb.map bq) (Rt.map tq)) ++ [])) → va_S A ss.heap H locs → ∀ ls : Array Slot, lv_has ls 4 [(0, .ref s), (1, .int (nI j)), (2, .ref qm), (3, .int (nI jp))] → W p l e rm_X4_drop ss m args below meth c H locs cl sl Q (F0 m 7 ls []) := by
    intro n
    induction n with
    | zero => intro cl sl jp qm hjp hc9 hn; exact absurd hn (by omega)
    | succ n ih =>
      intro cl sl jp qm hjp hc9 hn H locs hP hD hS ls hl
      refine lv_iload_n hx hb dX4_drop_7 rfl (lv_at hl 3 rfl) ?_
      refine lv_aload_n hx hb dX4_drop_8 rfl (lv_at hl 0 rfl) ?_
      refine va_get (D := D) (ci := 4) (v := .ref ba) (C := RX4) (T := TX4) (N := 9) hx hb hts iX4 hown hK hP 0 rfl rfl 7 (by decide) f21 (fun _ h9 => h9) rfl dX4_drop_9 ?_
      refine va_alen hx hb hK hP 1 1 rfl rfl (v := nI Rb.length) rfl dX4_drop_12 ?_
      refine k_cmp_ge (tgt := 38) hx hb jp Rb.length rfl rfl (by omega) (by omega) dX4_drop_13 (by decide) (fun c_13 => ?_) (fun c_13 => ?_)
      · skip
        obtain rfl : jp = Rb.length := by omega
        refine lv_aload_n hx hb dX4_drop_38 rfl (lv_at hl 0 rfl) ?_
        refine lv_aload_n hx hb dX4_drop_39 rfl (lv_at hl 2 rfl) ?_
        refine va_put (D := D) (ci := 4) (v := .ref qm) (ty := (.array (.array .int))) (C := RX4) (T := TX4) (N := 9) hx hb hts iX4 tyX4 tyX4_ok nmX4 hown hK hP hD hS 0 rfl rfl 7 (by decide) f21 (fun _ h9 => h9) rfl (by decide +kernel) rfl rfl (Nat.le_of_ble_eq_true rfl) dX4_drop_40 (fun H locs hP hD hS => ?_)
        have hP : va_P D vwCl ([(s, .inr (4, [.int mi, .int no, .int bo, .int si, .int ge, .int so, .int me, .ref qm, .ref ta])), (ba, .inl (cQ, Rb.length, .inr (.inr (.inr (.inr (qf (ad Rb))))))), (qm, .inl (cQ, (dL Rb j Rb.length).length, .inr (.inr (.inr (.inr (qf (dL Rb j Rb.length)))))))] ++ ((sT cI (Rb.map bq) (Rt.map tq)) ++ [])) H := hP
        have hD : va_D A ([(s, .inr (4, [.int mi, .int no, .int bo, .int si, .int ge, .int so, .int me, .ref qm, .ref ta])), (ba, .inl (cQ, Rb.length, .inr (.inr (.inr (.inr (qf (ad Rb))))))), (qm, .inl (cQ, (dL Rb j Rb.length).length, .inr (.inr (.inr (.inr (qf (dL Rb j Rb.length)))))))] ++ ((sT cI (Rb.map bq) (Rt.map tq)) ++ [])) := hD
        have hP := z_PS (z_sel (rS_er (j := j)) rS.rf) hP
        have hD := z_DS (z_sel (rS_er (j := j)) rS.rf) hD
        exact ret qm _ _ _ _ _ _ (trivial) (z_subP hP [0, 2] (by rw [dL_end, ad_len]; rfl)) (z_subD hD [0, 2] (by decide) (by rw [dL_end, ad_len]; rfl)) hS ((show cl ≤ 13 by omega)) ((show sl ≤ 157 by omega)) dX4_drop_43
      · skip
        refine lv_iload_n hx hb dX4_drop_16 rfl (lv_at hl 3 rfl) ?_
        refine lv_iload_n hx hb dX4_drop_17 rfl (lv_at hl 1 rfl) ?_
        refine k_cmp_eq (tgt := 32) hx hb jp j rfl rfl (by omega) (by omega) dX4_drop_18 (by decide) (fun c_18 => ?_) (fun c_18 => ?_)
        · skip
          refine lv_iinc (v := nI (jp + 1)) (lv' := [(3, .int (nI (jp + 1))), (0, .ref s), (1, .int (nI j)), (2, .ref qm)]) hx hb dX4_drop_32 hl (k := 3) rfl (nI_1 _) (by decide) rfl (fun ls hl => ?_)
          refine lv_goto (tgt := 7) hx hb dX4_drop_35 (by decide) ?_
          subst c_18
          exact ih cl sl (jp + 1) qm (by omega) (by omega) (by omega) _ _ (z_subP hP [0, 1, 2] (by rw [dL_e hj]; rfl)) (z_subD hD [0, 1, 2] (by decide) (by rw [dL_e hj]; rfl)) hS _ (lv_sub hl [1, 2, 3, 0] (rfl))
        · skip
          refine lv_aload_n hx hb dX4_drop_21 rfl (lv_at hl 2 rfl) ?_
          refine lv_aload_n hx hb dX4_drop_22 rfl (lv_at hl 0 rfl) ?_
          refine va_get (D := D) (ci := 4) (v := .ref ba) (C := RX4) (T := TX4) (N := 9) hx hb hts iX4 hown hK hP 0 rfl rfl 7 (by decide) f21 (fun _ h9 => h9) rfl dX4_drop_23 ?_
          refine lv_iload_n hx hb dX4_drop_26 rfl (lv_at hl 3 rfl) ?_
          refine z_qld hx hb hK hP 1 1 rfl rfl jp rfl (c_13) (by omega) ((Rb.getD jp bd).1) (ad_q c_13) dX4_drop_27 ?_
          refine kz_callS (As := [.ref qm, .ref ((Rb.getD jp bd).1)]) (rest := []) (wp := [(s, .inr (4, [.int mi, .int no, .int bo, .int si, .int ge, .int so, .int me, .ref ba, .ref ta])), (ba, .inl (cQ, Rb.length, .inr (.inr (.inr (.inr (qf (ad Rb))))))), (qm, .inl (cQ, (dL Rb j jp).length, .inr (.inr (.inr (.inr (qf (dL Rb j jp)))))))]) (wc := [(qm, .inl (cQ, (dL Rb j jp).length, .inr (.inr (.inr (.inr (qf (dL Rb j jp)))))))]) (wr := [(s, .inr (4, [.int mi, .int no, .int bo, .int si, .int ge, .int so, .int me, .ref ba, .ref ta])), (ba, .inl (cQ, Rb.length, .inr (.inr (.inr (.inr (qf (ad Rb)))))))]) (Z := ((sT cI (Rb.map bq) (Rt.map tq)) ++ [])) (X0 := ((sT cI (Rb.map bq) (Rt.map tq)) ++ [])) (Y := []) (wc1 := (fun (u : Nat) => [(qm, .inl (cQ, (dL Rb j jp).length, .inr (.inr (.inr (.inr (qf (dL Rb j jp))))))), (u, .inl (cQ, ((dL Rb j jp).length) + 1, .inr (.inr (.inr (.inr (qf ((dL Rb j jp) ++ [((Rb.getD jp bd).1)])))))))])) (X1 := (fun (u : Nat) => ((sT cI (Rb.map bq) (Rt.map tq)) ++ []))) F (c_X4_with l D cI cQ qm ((Rb.getD jp bd).1) ((dL Rb j jp).length) (dL Rb j jp) ((sT cI (Rb.map bq) (Rt.map tq)) ++ []) ((zL_Bq (Rb := Rb)).sub (cons_mem (ad_mem c_13) dL_mem)) rfl (by have := dL_len Rb j jp; omega)) gX4_drop_X4_with rfl (nA := 2) (by decide +kernel) rfl ⟨Nat.le_of_ble_eq_true rfl, Nat.le_of_ble_eq_true rfl⟩ hK hP hD hS hA hG [2] [0, 1] rfl (by decide) z_permnil rfl (fun _ => rfl) [0, 1] rfl rfl hl.1 (Nat.le_of_ble_eq_true rfl) dX4_drop_28 ⟨(show cl + 1 ≤ 13 by omega), (show sl + 13 ≤ 157 by omega)⟩ (fun r_3 u H locs hr_28 hP hD hS => ?_)
          obtain ⟨na_28, rfl⟩ : ∃ z, z = u := ⟨_, rfl⟩
          try dsimp only at hr_28
          have hP := z_PS z_nil hP
          have hD := z_DS z_nil hD
          have hP : va_P D vwCl ([(s, .inr (4, [.int mi, .int no, .int bo, .int si, .int ge, .int so, .int me, .ref ba, .ref ta])), (ba, .inl (cQ, Rb.length, .inr (.inr (.inr (.inr (qf (ad Rb))))))), (qm, .inl (cQ, (dL Rb j jp).length, .inr (.inr (.inr (.inr (qf (dL Rb j jp))))))), (na_28, .inl (cQ, ((dL Rb j jp).length) + 1, .inr (.inr (.inr (.inr (qf ((dL Rb j jp) ++ [((Rb.getD jp bd).1)])))))))] ++ ((sT cI (Rb.map bq) (Rt.map tq)) ++ [])) H := hP
          have hD : va_D A ([(s, .inr (4, [.int mi, .int no, .int bo, .int si, .int ge, .int so, .int me, .ref ba, .ref ta])), (ba, .inl (cQ, Rb.length, .inr (.inr (.inr (.inr (qf (ad Rb))))))), (qm, .inl (cQ, (dL Rb j jp).length, .inr (.inr (.inr (.inr (qf (dL Rb j jp))))))), (na_28, .inl (cQ, ((dL Rb j jp).length) + 1, .inr (.inr (.inr (.inr (qf ((dL Rb j jp) ++ [((Rb.getD jp bd).1)])))))))] ++ ((sT cI (Rb.map bq) (Rt.map tq)) ++ [])) := hD
          refine W.eq (g2 := F0 m 31 ls [.ref r_3]) rfl ?_
          refine W.widen (k := cl + 1) (n := sl + 13) (Nat.le_refl _) (Nat.le_refl _) ?_
          refine k_topR (v := na_28) hr_28 ?_
          refine lv_astore_n (lv' := [(2, .ref na_28), (0, .ref s), (1, .int (nI j)), (3, .int (nI jp))]) hx hb dX4_drop_31 rfl hl (by decide) rfl (fun ls hl => ?_)
          refine lv_iinc (v := nI (jp + 1)) (lv' := [(3, .int (nI (jp + 1))), (2, .ref na_28), (0, .ref s), (1, .int (nI j))]) hx hb dX4_drop_32 hl (k := 3) rfl (nI_1 _) (by decide) rfl (fun ls hl => ?_)
          refine lv_goto (tgt := 7) hx hb dX4_drop_35 (by decide) ?_
          exact ih (cl + 1) (sl + 13) (jp + 1) na_28 (by omega) (by omega) (by omega) _ _ (z_subP hP [0, 1, 3] (by rw [dL_s c_13 c_18, List.length_append]; rfl)) (z_subD hD [0, 1, 3] (by decide) (by rw [dL_s c_13 c_18, List.length_append]; rfl)) hS _ (lv_sub hl [2, 3, 1, 0] (rfl))
  exact loop_2 (Rb.length + 1) 1 0 0 q_1 (Nat.zero_le _) (by omega) (by omega) _ _ (z_subP hP [0, 1, 2] (by rw [← qf_nil]; rfl)) (z_subD hD [0, 1, 2] (by decide) (by rw [← qf_nil]; rfl)) hS _ (lv_sub hl [2, 3, 1, 0] (rfl))

