set_option maxHeartbeats 4000000 in
set_option maxRecDepth 100000 in
theorem law_F {p : Program} {l : Launch} {e : Env} {ss : State} {m : MethodId} {args : Array Value} {below : List Frame} {meth : Method} {c : Code} {D : va_G} {cI cQ cZ : ClassId} {sc LL : Nat} {xs : Nat → Int32} {A : Nat → Prop} (hl0 : l.stackTraces = false) (F : CallFix p m c cL_law 31 ss args wsL_law RL) (hK : va_K D vwCl [(cI, .int), (cQ, .array .int), (cZ, .boolean)] ss) (hG : kG A ss) (hA : ∀ q, ss.heap.size ≤ q → A q) (hX : va_X sc LL xs ss ss.heap) (hbl : sc < ss.heap.size) (hbA : ¬ A sc) (hLL : LL ≤ 260) {x : Nat} {a b : Nat → Nat} {s : Nat} {t : Nat} (ht : t < 10) (Q : State → Prop)
    (K : ∀ (v : Int32) (c1 s1 : Nat) (f : Nat → Nat → Int32) (g : Nat → Nat → Int32) (q : St) (q2 : St) (ba : Nat) (ta : Nat) (Rb : List (Nat × Tp)) (Rt : List (Nat × Tk)), c1 ≤ 100 + 18000 * t + 4800 → s1 ≤ 1000 + 180000 * t + 45000 → stI q ≤ 181 * t + 180 → (rR f q) → (rQ q Rb Rt) → (okQ q) → ∀ (H : Heap) (locs : List Loc), va_P D vwCl ([(s, .inr (4, [.int (nI (stI q)), .int (nI (stN q)), .int (stO q), .int (stV q), .int (nI (stG q)), .int (nI (stS q)), .int (stM q), .ref ba, .ref ta])), (ba, .inl (cQ, Rb.length, .inr (.inr (.inr (.inr (qf (ad Rb))))))), (ta, .inl (cQ, Rt.length, .inr (.inr (.inr (.inr (qf (ad Rt)))))))] ++ ((sT cI (Rb.map bq) (Rt.map tq)) ++ ((xA cI x a b f q) ++ ((xB cI b g q2) ++ [])))) H → va_D A ([(s, .inr (4, [.int (nI (stI q)), .int (nI (stN q)), .int (stO q), .int (stV q), .int (nI (stG q)), .int (nI (stS q)), .int (stM q), .ref ba, .ref ta])), (ba, .inl (cQ, Rb.length, .inr (.inr (.inr (.inr (qf (ad Rb))))))), (ta, .inl (cQ, Rt.length, .inr (.inr (.inr (.inr (qf (ad Rt)))))))] ++ ((sT cI (Rb.map bq) (Rt.map tq)) ++ ((xA cI x a b f q) ++ ((xB cI b g q2) ++ [])))) → va_S A ss.heap H locs → ∀ ls : Array Slot, lv_has ls 31 [(0, .ref sc), (1, .ref x), (2, .ref s), (3, .int (nI t)), (4, .int v)] → W p l e room_1 ss m args below meth c H locs c1 s1 Q (F0 m 82 ls [])) :
    ∀ (c0 s0 : Nat) (f : Nat → Nat → Int32) (g : Nat → Nat → Int32) (q : St) (q2 : St) (ba : Nat) (ta : Nat) (Rb : List (Nat × Tp)) (Rt : List (Nat × Tk)), c0 ≤ 100 + 18000 * t + 0 → s0 ≤ 1000 + 180000 * t + 0 → stI q ≤ 181 * t + 0 → (rR f q) → (rQ q Rb Rt) → (okQ q) → ∀ (H : Heap) (locs : List Loc), va_P D vwCl ([(s, .inr (4, [.int (nI (stI q)), .int (nI (stN q)), .int (stO q), .int (stV q), .int (nI (stG q)), .int (nI (stS q)), .int (stM q), .ref ba, .ref ta])), (ba, .inl (cQ, Rb.length, .inr (.inr (.inr (.inr (qf (ad Rb))))))), (ta, .inl (cQ, Rt.length, .inr (.inr (.inr (.inr (qf (ad Rt)))))))] ++ ((sT cI (Rb.map bq) (Rt.map tq)) ++ ((xA cI x a b f q) ++ ((xB cI b g q2) ++ [])))) H → va_D A ([(s, .inr (4, [.int (nI (stI q)), .int (nI (stN q)), .int (stO q), .int (stV q), .int (nI (stG q)), .int (nI (stS q)), .int (stM q), .ref ba, .ref ta])), (ba, .inl (cQ, Rb.length, .inr (.inr (.inr (.inr (qf (ad Rb))))))), (ta, .inl (cQ, Rt.length, .inr (.inr (.inr (.inr (qf (ad Rt)))))))] ++ ((sT cI (Rb.map bq) (Rt.map tq)) ++ ((xA cI x a b f q) ++ ((xB cI b g q2) ++ [])))) → va_S A ss.heap H locs → ∀ ls : Array Slot, lv_has ls 31 [(0, .ref sc), (1, .ref x), (2, .ref s), (3, .int (nI t))] → W p l e room_1 ss m args below meth c H locs c0 s0 Q (F0 m 22 ls []) := by
  intro c0 s0 f g q q2 ba ta Rb Rt hcl hsl hI0 hR hq hok H locs hP hD hS ls hl
  obtain ⟨hx, hb, hml, hown, hts⟩ := id F
  have hO := hok.1
  have hI : stI q < 900000 := by omega
  have hX9 := okQ_X hok (by omega)
  have hn12 := hO.2.1
  have hn6 := hO.2.2.2.1
  have hct := ctT_le hO
  have hsp := spT_le hO
  have o7 := hO.2.2.2.2.2.2
  have hns := ns_le hO.1 hO.2.1
  have hlB : Rb.length = (stB q).length := by rw [hq.1, sn_len]
  have hlT : Rt.length = (stT q).length := by rw [hq.2, sn_len]
  refine lv_iload_n hx hb dL_law_22 rfl (lv_at hl 3 rfl) ?_
  refine lv_bipush (v := nI 10) hx hb dL_law_23 (by decide +kernel) ?_
  refine k_cmp_ge (tgt := 1282) hx hb t 10 rfl rfl (by omega) (by omega) dL_law_25 (by decide) (fun c_25 => ?_) (fun c_25 => ?_)
  · skip
    exact absurd c_25 (by omega)
  · skip
    refine lv_aload_n hx hb dL_law_28 rfl (lv_at hl 0 rfl) ?_
    refine lv_iload_n hx hb dL_law_29 rfl (lv_at hl 3 rfl) ?_
    refine lv_iconst (v := nI 1) hx hb dL_law_30 (by decide +kernel) ?_
    refine k_iadd hx hb (nI (t + 1)) (nI_add _ _) dL_law_31 ?_
    refine kz_callSS hX hbl hbA (As := [.ref sc, .int (nI (t + 1))]) (rest := []) (wp := [(s, .inr (4, [.int (nI (stI q)), .int (nI (stN q)), .int (stO q), .int (stV q), .int (nI (stG q)), .int (nI (stS q)), .int (stM q), .ref ba, .ref ta])), (ba, .inl (cQ, Rb.length, .inr (.inr (.inr (.inr (qf (ad Rb))))))), (ta, .inl (cQ, Rt.length, .inr (.inr (.inr (.inr (qf (ad Rt)))))))]) (wc := []) (wr := [(s, .inr (4, [.int (nI (stI q)), .int (nI (stN q)), .int (stO q), .int (stV q), .int (nI (stG q)), .int (nI (stS q)), .int (stM q), .ref ba, .ref ta])), (ba, .inl (cQ, Rb.length, .inr (.inr (.inr (.inr (qf (ad Rb))))))), (ta, .inl (cQ, Rt.length, .inr (.inr (.inr (.inr (qf (ad Rt)))))))]) (Z := ((sT cI (Rb.map bq) (Rt.map tq)) ++ ((xA cI x a b f q) ++ ((xB cI b g q2) ++ [])))) (X0 := []) (Y := ((sT cI (Rb.map bq) (Rt.map tq)) ++ ((xA cI x a b f q) ++ ((xB cI b g q2) ++ [])))) (wc1 := (fun (u : Unit) => [])) (X1 := (fun (u : Unit) => [])) F (c_L_cell l D cI sc LL xs hLL (t + 1) (by omega)) gL_law_L_cell rfl (nA := 2) (by decide +kernel) rfl ⟨Nat.le_of_ble_eq_true rfl, Nat.le_of_ble_eq_true rfl⟩ hK hP hD hS hA hG [] [0, 1, 2] rfl (by decide) (List.Perm.refl _) (List.append_nil _).symm (fun _ => (List.append_nil _).symm) [0] rfl rfl hl.1 (Nat.le_of_ble_eq_true rfl) dL_law_32 ⟨(show c0 + 0 ≤ 908051 by omega), (show s0 + 0 ≤ 6377315 by omega)⟩ (fun r_1 u H locs hr_32 hP hD hS => ?_)
    try dsimp only at hr_32
    have hP : va_P D vwCl ([(s, .inr (4, [.int (nI (stI q)), .int (nI (stN q)), .int (stO q), .int (stV q), .int (nI (stG q)), .int (nI (stS q)), .int (stM q), .ref ba, .ref ta])), (ba, .inl (cQ, Rb.length, .inr (.inr (.inr (.inr (qf (ad Rb))))))), (ta, .inl (cQ, Rt.length, .inr (.inr (.inr (.inr (qf (ad Rt)))))))] ++ ((sT cI (Rb.map bq) (Rt.map tq)) ++ ((xA cI x a b f q) ++ ((xB cI b g q2) ++ [])))) H := hP
    have hD : va_D A ([(s, .inr (4, [.int (nI (stI q)), .int (nI (stN q)), .int (stO q), .int (stV q), .int (nI (stG q)), .int (nI (stS q)), .int (stM q), .ref ba, .ref ta])), (ba, .inl (cQ, Rb.length, .inr (.inr (.inr (.inr (qf (ad Rb))))))), (ta, .inl (cQ, Rt.length, .inr (.inr (.inr (.inr (qf (ad Rt)))))))] ++ ((sT cI (Rb.map bq) (Rt.map tq)) ++ ((xA cI x a b f q) ++ ((xB cI b g q2) ++ [])))) := hD
    refine W.eq (g2 := F0 m 35 ls [.int r_1]) rfl ?_
    refine W.widen (k := c0) (n := s0) (Nat.le_refl _) (Nat.le_refl _) ?_
    refine k_top (v := ce LL xs (t + 1)) (hr_32) ?_
    refine lv_iconst (v := nI 2) hx hb dL_law_35 (by decide +kernel) ?_
    refine lv_ishr hx hb dL_law_36 ?_
    refine lv_bipush (v := nI 53) hx hb dL_law_37 (by decide +kernel) ?_
    refine lv_iload_n hx hb dL_law_39 rfl (lv_at hl 3 rfl) ?_
    refine lv_imul hx hb dL_law_40 ?_
    refine k_top (v := nI (53 * t)) (pk_mul _ _) ?_
    obtain ⟨v, ev⟩ : ∃ z, ((ce LL xs (t + 1)) >>> ((nI 2) &&& 31)) + nI (53 * t) = z := ⟨_, rfl⟩
    refine k_iadd hx hb v (ev) dL_law_41 ?_
    refine lv_istore (lv' := [(4, .int v), (0, .ref sc), (1, .ref x), (2, .ref s), (3, .int (nI t))]) hx hb dL_law_42 hl (by decide) rfl (fun ls hl => ?_)
    refine lv_iconst (v := nI 0) hx hb dL_law_44 (by decide +kernel) ?_
    refine lv_istore (lv' := [(5, .int (nI 0)), (4, .int v), (0, .ref sc), (1, .ref x), (2, .ref s), (3, .int (nI t))]) hx hb dL_law_45 hl (by decide) rfl (fun ls hl => ?_)
    have loop_2 : ∀ (n : Nat) (cl sl : Nat) (k : Nat) (f7 : Nat → Nat → Int32) (q7 : St) (b7 : Nat) (t7 : Nat) (R7 : List (Nat × Tp)) (T7 : List (Nat × Tk)), (k ≤ 3) → (cl ≤ c0 + 1600 * k ∧ sl ≤ s0 + 15000 * k) → (stI q7 ≤ 181 * t + 60 * k) → (rR f7 q7) → (rQ q7 R7 T7) → (okQ q7) → 3 - k < n → ∀ (H : Heap) (locs : List Loc), va_P D vwCl ([(s, .inr (4, [.int (nI (stI q7)), .int (nI (stN q7)), .int (stO q7), .int (stV q7), .int (nI (stG q7)), .int (nI (stS q7)), .int (stM q7), .ref b7, .ref t7])), (b7, .inl (cQ, R7.length, .inr (.inr (.inr (.inr (qf (ad R7))))))), (t7, .inl (cQ, T7.length, .inr (.inr (.inr (.inr (qf (ad T7)))))))] ++ ((sT cI (R7.map bq) (T7.map tq)) ++ ((xA cI x a b f7 q7) ++ ((xB cI b g q2) ++ [])))) H → va_D A ([(s, .inr (4, [.int (nI (stI q7)), .int (nI (stN q7)), .int (stO q7), .int (stV q7), .int (nI (stG q7)), .int (nI (stS q7)), .int (stM q7), .ref b7, .ref t7])), (b7, .inl (cQ, R7.length, .inr (.inr (.inr (.inr (qf (ad R7))))))), (t7, .inl (cQ, T7.length, .inr (.inr (.inr (.inr (qf (ad T7)))))))] ++ ((sT cI (R7.map bq) (T7.map tq)) ++ ((xA cI x a b f7 q7) ++ ((xB cI b g q2) ++ [])))) → va_S A ss.heap H locs → ∀ ls : Array Slot, lv_has ls 31 [(0, .ref sc), (1, .ref x), (2, .ref s), (3, .int (nI t)), (4, .int v), (5, .int (nI k))] → W p l e room_1 ss m args below meth c H locs cl sl Q (F0 m 47 ls []) := by
      intro n
      induction n with
      | zero => intro cl sl k f7 q7 b7 t7 R7 T7 hk hc9 hI7 hR7 hq7 hok7 hn; exact absurd hn (by omega)
      | succ n ih =>
        intro cl sl k f7 q7 b7 t7 R7 T7 hk hc9 hI7 hR7 hq7 hok7 hn H locs hP hD hS ls hl
        refine lv_iload hx hb dL_law_47 (lv_at hl 5 rfl) ?_
        refine lv_iconst (v := nI 3) hx hb dL_law_49 (by decide +kernel) ?_
        refine k_cmp_ge (tgt := 82) hx hb k 3 rfl rfl (by omega) (by omega) dL_law_50 (by decide) (fun c_50 => ?_) (fun c_50 => ?_)
        · skip
          exact K v cl sl f7 g q7 q2 b7 t7 R7 T7 (by omega) (by omega) (by omega) hR7 hq7 hok7 _ _ (z_subP hP [0, 1, 2] (rfl)) (z_subD hD [0, 1, 2] (by decide) (rfl)) hS _ (lv_sub hl [0, 1, 2, 3, 4] (rfl))
        · skip
          refine lv_aload_n hx hb dL_law_53 rfl (lv_at hl 1 rfl) ?_
          refine lv_aload_n hx hb dL_law_54 rfl (lv_at hl 2 rfl) ?_
          refine lv_iload hx hb dL_law_55 (lv_at hl 4 rfl) ?_
          refine lv_iconst (v := nI 3) hx hb dL_law_57 (by decide +kernel) ?_
          refine lv_iload hx hb dL_law_58 (lv_at hl 5 rfl) ?_
          refine lv_imul hx hb dL_law_60 ?_
          refine k_top (v := nI (3 * k)) (pk_mul _ _) ?_
          refine lv_ishr hx hb dL_law_61 ?_
          refine lv_bipush (v := nI 29) hx hb dL_law_62 (by decide +kernel) ?_
          refine lv_iload hx hb dL_law_64 (lv_at hl 5 rfl) ?_
          refine lv_imul hx hb dL_law_66 ?_
          refine k_top (v := nI (29 * k)) (pk_mul _ _) ?_
          refine k_iadd hx hb ((v >>> ((nI (3 * k)) &&& 31)) + (nI (29 * k))) (rfl) dL_law_67 ?_
          refine kz_callSW (As := [.ref x, .ref s, .int ((v >>> ((nI (3 * k)) &&& 31)) + (nI (29 * k)))]) (rest := []) (wp := [(s, .inr (4, [.int (nI (stI q7)), .int (nI (stN q7)), .int (stO q7), .int (stV q7), .int (nI (stG q7)), .int (nI (stS q7)), .int (stM q7), .ref b7, .ref t7])), (b7, .inl (cQ, R7.length, .inr (.inr (.inr (.inr (qf (ad R7))))))), (t7, .inl (cQ, T7.length, .inr (.inr (.inr (.inr (qf (ad T7)))))))]) (wc := [(s, .inr (4, [.int (nI (stI q7)), .int (nI (stN q7)), .int (stO q7), .int (stV q7), .int (nI (stG q7)), .int (nI (stS q7)), .int (stM q7), .ref b7, .ref t7])), (b7, .inl (cQ, R7.length, .inr (.inr (.inr (.inr (qf (ad R7))))))), (t7, .inl (cQ, T7.length, .inr (.inr (.inr (.inr (qf (ad T7)))))))]) (wr := []) (Z := ((sT cI (R7.map bq) (T7.map tq)) ++ ((xA cI x a b f7 q7) ++ ((xB cI b g q2) ++ [])))) (X0 := ((sT cI (R7.map bq) (T7.map tq)) ++ ((xA cI x a b f7 q7) ++ ((xB cI b g q2) ++ [])))) (Y := []) (wc1 := (fun (u : (Nat → Nat → Int32) × St × Nat × Nat × (List (Nat × Tp)) × (List (Nat × Tk))) => [(s, .inr (4, [.int (nI (stI u.2.1)), .int (nI (stN u.2.1)), .int (stO u.2.1), .int (stV u.2.1), .int (nI (stG u.2.1)), .int (nI (stS u.2.1)), .int (stM u.2.1), .ref u.2.2.1, .ref u.2.2.2.1])), (u.2.2.1, .inl (cQ, u.2.2.2.2.1.length, .inr (.inr (.inr (.inr (qf (ad u.2.2.2.2.1))))))), (u.2.2.2.1, .inl (cQ, u.2.2.2.2.2.length, .inr (.inr (.inr (.inr (qf (ad u.2.2.2.2.2)))))))])) (X1 := (fun (u : (Nat → Nat → Int32) × St × Nat × Nat × (List (Nat × Tp)) × (List (Nat × Tk))) => ((sT cI (u.2.2.2.2.1.map bq) (u.2.2.2.2.2.map tq)) ++ ((xA cI x a b u.1 u.2.1) ++ ((xB cI b g q2) ++ []))))) F (c_L_act l D cI cQ hl0 x a b f7 g q7 q2 s b7 t7 ((v >>> ((nI (3 * k)) &&& 31)) + (nI (29 * k))) R7 T7 hR7 hq7 hok7 (by omega)) gL_law_L_act rfl (nA := 3) (by decide +kernel) rfl ⟨Nat.le_of_ble_eq_true rfl, Nat.le_of_ble_eq_true rfl⟩ hK hP hD hS hA hG [0, 1, 2] [] rfl (by decide) z_permnil rfl (fun _ => rfl) [0, 1] rfl rfl hl.1 (Nat.le_of_ble_eq_true rfl) dL_law_68 ⟨(show cl + 1600 ≤ 908051 by omega), (show sl + 15000 ≤ 6377315 by omega)⟩ (fun r_3 u H locs hr_68 hP hD hS => ?_)
          obtain ⟨f8, q8, b8, t8, R8, T8⟩ := u
          try dsimp only at hr_68
          have hP := z_PS z_nil hP
          have hD := z_DS z_nil hD
          have hP : va_P D vwCl ([(s, .inr (4, [.int (nI (stI q8)), .int (nI (stN q8)), .int (stO q8), .int (stV q8), .int (nI (stG q8)), .int (nI (stS q8)), .int (stM q8), .ref b8, .ref t8])), (b8, .inl (cQ, R8.length, .inr (.inr (.inr (.inr (qf (ad R8))))))), (t8, .inl (cQ, T8.length, .inr (.inr (.inr (.inr (qf (ad T8)))))))] ++ ((sT cI (R8.map bq) (T8.map tq)) ++ ((xA cI x a b f8 q8) ++ ((xB cI b g q2) ++ [])))) H := hP
          have hD : va_D A ([(s, .inr (4, [.int (nI (stI q8)), .int (nI (stN q8)), .int (stO q8), .int (stV q8), .int (nI (stG q8)), .int (nI (stS q8)), .int (stM q8), .ref b8, .ref t8])), (b8, .inl (cQ, R8.length, .inr (.inr (.inr (.inr (qf (ad R8))))))), (t8, .inl (cQ, T8.length, .inr (.inr (.inr (.inr (qf (ad T8)))))))] ++ ((sT cI (R8.map bq) (T8.map tq)) ++ ((xA cI x a b f8 q8) ++ ((xB cI b g q2) ++ [])))) := hD
          refine W.eq (g2 := F0 m 71 ls [.int r_3]) rfl ?_
          refine W.widen (k := cl + 1600) (n := sl + 15000) (Nat.le_refl _) (Nat.le_refl _) ?_
          refine k_top (v := nI 1) (hr_68.1) ?_
          refine k_if_ne (tgt := 76) hx hb 1 rfl (by omega) dL_law_71 (by decide) (fun c_71 => ?_) (fun c_71 => ?_)
          · skip
            refine lv_iinc (v := nI (k + 1)) (lv' := [(5, .int (nI (k + 1))), (0, .ref sc), (1, .ref x), (2, .ref s), (3, .int (nI t)), (4, .int v)]) hx hb dL_law_76 hl (k := 5) rfl (nI_1 _) (by decide) rfl (fun ls hl => ?_)
            refine lv_goto (tgt := 47) hx hb dL_law_79 (by decide) ?_
            exact ih (cl + 1600) (sl + 15000) (k + 1) f8 q8 b8 t8 R8 T8 (by omega) (by omega) (by have := hr_68.2.2.2.2; omega) hr_68.2.1 hr_68.2.2.1 hr_68.2.2.2.1 (by omega) _ _ (z_subP hP [0, 1, 2] (rfl)) (z_subD hD [0, 1, 2] (by decide) (rfl)) hS _ (lv_sub hl [1, 2, 3, 4, 5, 0] (rfl))
          · exact absurd c_71 (by omega)
    exact loop_2 (3 + 1) c0 s0 0 f q ba ta Rb Rt (by omega) (by omega) (by omega) hR hq hok (by omega) _ _ (z_subP hP [0, 1, 2] (rfl)) (z_subD hD [0, 1, 2] (by decide) (rfl)) hS _ (lv_sub hl [2, 3, 4, 5, 1, 0] (rfl))
