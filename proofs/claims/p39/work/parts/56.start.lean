/-! ===== the start ===== -/
theorem lw_mem {w : Cond} {i : Nat} (h : tables_1[i]? = some w) : w ∈ lw_tbl := List.mem_append_right _ (List.mem_of_getElem? h)
theorem lw_str {b : Nat} {s : State} (hts : ∀ w ∈ lw_tbl, w.before #[Value.ref b] s = true) (hgv : (Jvm.Cond.and given_1 narrow_1).before #[Value.ref b] s = true) : kStr s := by
  have hs := flat_of_before _ hgv
  have one : ∀ (k : Nat) (tx : String), (Cond.stringRef RX3 k tx).before #[Value.ref b] s = true → (Cond.exactly (.string RX3 k) "java/lang/String").before #[Value.ref b] s = true → ∃ sa : Nat, vk_R RX3 k tx sa s := by
    intro k tx h1 h2
    obtain ⟨a, -, -, -, ha, -⟩ := Cond.exactly_spec h2
    exact ⟨a, vk_R.of h1 ha⟩
  intro q hq
  simp only [kTx, List.mem_cons, List.not_mem_nil, or_false] at hq
  rcases hq with rfl | rfl | rfl | rfl | rfl | rfl | rfl | rfl | rfl | rfl | rfl
  · exact one 35 "there are 12 topics" (hts _ (lw_mem (i := 539) (by decide +kernel))) (hs _ (by decide +kernel))
  · exact one 63 "gear is not 2 to 9" (hts _ (lw_mem (i := 563) (by decide +kernel))) (hs _ (by decide +kernel))
  · exact one 69 "stones is not 1 to 4" (hts _ (lw_mem (i := 568) (by decide +kernel))) (hs _ (by decide +kernel))
  · exact one 74 "mesh is not 0 to 20" (hts _ (lw_mem (i := 573) (by decide +kernel))) (hs _ (by decide +kernel))
  · exact one 79 "minutes is not 1 to 9" (hts _ (lw_mem (i := 578) (by decide +kernel))) (hs _ (by decide +kernel))
  · exact one 88 "there are 6 talkers" (hts _ (lw_mem (i := 583) (by decide +kernel))) (hs _ (by decide +kernel))
  · exact one 123 "kind is not 0 to 4" (hts _ (lw_mem (i := 311) (by decide +kernel))) (hs _ (by decide +kernel))
  · exact one 215 "size is not 2 to 99" (hts _ (lw_mem (i := 528) (by decide +kernel))) (hs _ (by decide +kernel))
  · exact one 217 "minutes is not 1 to 60" (hts _ (lw_mem (i := 220) (by decide +kernel))) (hs _ (by decide +kernel))
  · exact one 222 "there is no topic at this place" (hts _ (lw_mem (i := 172) (by decide +kernel))) (hs _ (by decide +kernel))
  · exact one 227 "there is no such talker" (hts _ (lw_mem (i := 353) (by decide +kernel))) (hs _ (by decide +kernel))
theorem lw_ao {b : Nat} {s : State} (h : (Cond.arrayOver (.array .int)).before #[Value.ref b] s = true) : kAO s := by
  first | exact h | (unfold kAO; unfold Cond.before Cond.holds at h ⊢; exact h)
theorem lw_kG {b : Nat} {s : State} (hts : ∀ w ∈ lw_tbl, w.before #[Value.ref b] s = true) (hgv : (Jvm.Cond.and given_1 narrow_1).before #[Value.ref b] s = true) : kG (fun q : Nat => s.heap.size ≤ q) s := by
  have hs := flat_of_before _ hgv
  have hA : ∀ a : Nat, a < s.heap.size → ¬ (fun q : Nat => s.heap.size ≤ q) a := fun a h => Nat.not_le.mpr h
  have hin : (Cond.initialized Bundle.tN).before #[Value.ref b] s = true := hts _ (lw_mem (i := 6) (by decide +kernel))
  refine ⟨⟨va_Nw.of rfl (hts _ (lw_mem (i := 243) (by decide +kernel))), va_Nw.of rfl (hts _ (lw_mem (i := 268) (by decide +kernel)))⟩, ⟨?_, ?_⟩, ⟨va_Nw.of rfl (hts _ (lw_mem (i := 135) (by decide +kernel))), va_Nw.of rfl (hts _ (lw_mem (i := 137) (by decide +kernel))), va_Nw.of rfl (hts _ (lw_mem (i := 139) (by decide +kernel))), va_Nw.of rfl (hts _ (lw_mem (i := 213) (by decide +kernel))), va_Nw.of rfl (hts _ (lw_mem (i := 532) (by decide +kernel))), va_Nw.of rfl (hts _ (lw_mem (i := 133) (by decide +kernel))), va_Nw.of rfl (hts _ (lw_mem (i := 599) (by decide +kernel))), va_Nw.of rfl (hts _ (lw_mem (i := 650) (by decide +kernel))), lw_ao (hts _ (lw_mem (i := 460) (by decide +kernel)))⟩, lw_str hts hgv⟩
  · exact vx_Zqof (hts _ (lw_mem (i := 158) (by decide +kernel))) hin (hs (.isRef (.static Bundle.tN "UNASSIGNED_STACK" Bundle.steD)) (by decide +kernel)) hA
  · exact vx_Zqof (hts _ (lw_mem (i := 160) (by decide +kernel))) hin (hs (.isRef (.static Bundle.tN "SUPPRESSED_SENTINEL" Bundle.listD)) (by decide +kernel)) hA
theorem lw_arr {b : Nat} {s : State} {ty : FieldType} (hno : ∀ C, ty ≠ .object C) (h : (Cond.arrayClass ty).before #[Value.ref b] s = true) : ∃ cA : ClassId, ArrOfT s cA ty ∧ va_RA s cA ty := by
  obtain ⟨cA, kA, comp, h1, h2, h3⟩ := Cond.arrayClass_spec h
  refine ⟨cA, fun n z => ⟨fun k h => (by cases h), kA, h2, comp, h3⟩, ?_⟩
  cases ty with
  | object C => exact absurd rfl (hno C)
  | _ => exact h1
theorem lw_arrQ {b : Nat} {s : State} (h : (Cond.arrayOver (.array .int)).before #[Value.ref b] s = true) : ∃ cA : ClassId, ArrOfT s cA (.array .int) ∧ va_RA s cA (.array .int) := by
  obtain ⟨comp, cA, kA, -, -, h2, h3, h1⟩ := arrayOverA_spec h
  exact ⟨cA, fun n z => ⟨fun k h => (by cases h), kA, h2, comp, h3⟩, h1⟩
set_option maxHeartbeats 4000000 in
set_option maxRecDepth 100000 in
theorem whole_start {p : Program} {e : Env} {s : State} {m : MethodId} {below : List Frame} {meth : Method} {c : Code} (l : Launch) (hflags : l.flags = flags0) {b L : Nat} {xs : Nat → Int32} (hL : L ≤ 260) (C0 : lw_At p s m meth c b L xs) : W p l e room_1 s m #[Value.ref b] below meth c s.heap [] 0 0 (lw_Z below #[Value.ref b] s) (entryFrame m ([Value.ref b] : List Value).toArray 31) := by
  obtain ⟨hx, hb, hr, hml, hown, htb, hX, hbl, hlocks, hgv⟩ := id C0
  have hl0 : l.stackTraces = false := by
    show (!l.flags.contains noTraceFlag) = false
    rw [hflags]
    decide +kernel
  have hA : ∀ q : Nat, s.heap.size ≤ q → (fun q : Nat => s.heap.size ≤ q) q := fun _ h => h
  have hbA : ¬ (fun q : Nat => s.heap.size ≤ q) b := Nat.not_le.mpr hbl
  have hts : ∀ w ∈ wsL_law, w.before #[Value.ref b] s = true := fun w h => htb w (wsL_law_in w h)
  have F : CallFix p m c cL_law 31 s #[.ref b] wsL_law RL := ⟨hx, hb, hml, hown, hts⟩
  obtain ⟨c0, i0, hKn0⟩ := u_known (C := RX0) (T := TX0) (N := 3) (n := 3) htb inX0 (htb (.instantiable RX0 3) (lw_mem (i := 28) (by decide +kernel)))
  obtain ⟨c1, i1, hKn1⟩ := u_known (C := RX1) (T := TX1) (N := 6) (n := 6) htb inX1 (htb (.instantiable RX1 6) (lw_mem (i := 48) (by decide +kernel)))
  obtain ⟨c2, i2, hKn2⟩ := u_known (C := RX2) (T := TX2) (N := 9) (n := 9) htb inX2 (htb (.instantiable RX2 9) (lw_mem (i := 22) (by decide +kernel)))
  obtain ⟨c3, i3, hKn3⟩ := u_known (C := RX3) (T := TX3) (N := 2) (n := 2) htb inX3 (htb (.instantiable RX3 2) (lw_mem (i := 14) (by decide +kernel)))
  obtain ⟨c4, i4, hKn4⟩ := u_known (C := RX4) (T := TX4) (N := 9) (n := 9) htb inX4 (htb (.instantiable RX4 9) (lw_mem (i := 598) (by decide +kernel)))
  obtain ⟨dC, dI, hKc⟩ : ∃ (dC : Nat → ClassId) (dI : Nat → Nat → Nat), ∀ (k : Nat) (q : vw_C), vwCl[k]? = some q → u_Kn s q.1 q.2.1 q.2.2 (dC k) (dI k) := by
    refine ⟨fun k => match k with | 0 => c0 | 1 => c1 | 2 => c2 | 3 => c3 | _ => c4, fun k => match k with | 0 => i0 | 1 => i1 | 2 => i2 | 3 => i3 | _ => i4, ?_⟩
    intro k q hq
    match k, hq with
    | 0, hq => cases hq; exact hKn0
    | 1, hq => cases hq; exact hKn1
    | 2, hq => cases hq; exact hKn2
    | 3, hq => cases hq; exact hKn3
    | 4, hq => cases hq; exact hKn4
    | k + 5, hq => simp [vwCl] at hq
  obtain ⟨cI, hI1, hI2⟩ := lw_arr (ty := .int) (fun C h => by cases h) (htb (.arrayClass .int) (lw_mem (i := 46) (by decide +kernel)))
  obtain ⟨cZ, hZ1, hZ2⟩ := lw_arr (ty := .boolean) (fun C h => by cases h) (htb (.arrayClass .boolean) (lw_mem (i := 663) (by decide +kernel)))
  obtain ⟨cQ, hQ1, hQ2⟩ := lw_arrQ (htb (.arrayOver (.array .int)) (lw_mem (i := 460) (by decide +kernel)))
  have hS : va_S (fun q : Nat => s.heap.size ≤ q) s.heap s.heap [] := va_S.rf
  have hK : va_K (dC, dI) vwCl [(cI, .int), (cQ, .array .int), (cZ, .boolean)] s := ⟨hKc, fun k q h => by
    match k, h with
    | 0, h => cases h; exact ⟨hI1, hI2⟩
    | 1, h => cases h; exact ⟨hQ1, hQ2⟩
    | 2, h => cases h; exact ⟨hZ1, hZ2⟩
    | k + 3, h => simp at h⟩
  have hP : va_P (dC, dI) vwCl [] s.heap := fun k q h => by simp at h
  have hD : va_D (fun q : Nat => s.heap.size ≤ q) [] := ⟨fun i j p q h => by simp at h, fun k q h => by simp at h⟩
  have hG : kG (fun q : Nat => s.heap.size ≤ q) s := lw_kG htb hgv
  have hl := lv_entry ([.ref b]) (n := 31) (Nat.le_of_ble_eq_true rfl)
  rw [lg_entry_eq]
  generalize (lg_sl ([.ref b]) ++ List.replicate (31 - (lg_sl ([.ref b])).length) Slot.unset).toArray = ls at hl ⊢
  have hl : lv_has ls 31 [(0, .ref b)] := hl
  refine va_new (ci := 3) (fs := [.null, .null]) (C := RX3) (T := TX3) (N := 2) hx hb htb inX3 tyX3 tyX3_ok hown (hts (.classLink RL 26 RX3) (by decide +kernel)) (hts (.instantiable RX3 2) (by decide +kernel)) (hts (.initialized RX3) (by decide +kernel)) hK hP hD hS hA rfl (fun j hj => by rcases (show j = 0 ∨ j = 1 by omega) with rfl | rfl <;> rfl) (Nat.le_of_ble_eq_true rfl) (Nat.le_of_ble_eq_true rfl) dL_law_0 (fun x H hP hD hS => ?_)
  have hP : va_P (dC, dI) vwCl [(x, .inr (3, [.null, .null]))] H := hP
  have hD : va_D (fun q : Nat => s.heap.size ≤ q) [(x, .inr (3, [.null, .null]))] := hD
  refine W.widen (k := 1) (n := 2) (Nat.le_of_ble_eq_true rfl) (Nat.le_of_ble_eq_true rfl) ?_
  refine lv_dup hx hb dL_law_3 rfl ?_
  refine k_callI (As := []) (rest := [.ref x]) (wr := []) F (c_X3_init l (dC, dI) cI x) ggL_law_X3_init rfl (by decide +kernel) (by decide +kernel) (by decide +kernel) (nA := 0) (by decide +kernel) rfl ⟨Nat.le_of_ble_eq_true rfl, Nat.le_of_ble_eq_true rfl⟩ hK hP hD hS hA hG [0] [] rfl (by decide) rfl (by decide) (by decide) [0] rfl rfl hl.1 (Nat.le_of_ble_eq_true rfl) dL_law_4 ⟨Nat.le_of_ble_eq_true rfl, Nat.le_of_ble_eq_true rfl⟩ (fun r u H locs hr0 hP hD hS => ?_)
  obtain ⟨a, bb⟩ := u
  have hP : va_P (dC, dI) vwCl ([(x, .inr (3, [.ref (a 0), .ref (bb 0)])), ((a 0), .inr (2, [.ref (a 1), .ref (a 4), .int (nI (stG st0)), .int (nI (stS st0)), .int (stM st0), .int (nI (stN st0)), .int (stO st0), .int (stV st0), .int (nI (stI st0))])), ((a 1), .inr (0, [.ref (a 2), .ref (a 3), .int (nI ((stB st0).length))])), ((a 2), .inl (cI, 12, .inl ((fun _ _ => 0) 0))), ((a 3), .inl (cI, 12, .inl ((fun _ _ => 0) 1))), ((a 4), .inr (1, [.ref (a 5), .ref (a 6), .ref (a 7), .ref (a 8), .ref (a 9), .int (nI ((stT st0).length))])), ((a 5), .inl (cI, 6, .inl ((fun _ _ => 0) 2))), ((a 6), .inl (cI, 6, .inl ((fun _ _ => 0) 3))), ((a 7), .inl (cI, 6, .inl ((fun _ _ => 0) 4))), ((a 8), .inl (cI, 6, .inl ((fun _ _ => 0) 5))), ((a 9), .inl (cI, 6, .inl ((fun _ _ => 0) 6))), ((bb 0), .inr (2, [.ref (bb 1), .ref (bb 4), .int (nI (stG st0)), .int (nI (stS st0)), .int (stM st0), .int (nI (stN st0)), .int (stO st0), .int (stV st0), .int (nI (stI st0))])), ((bb 1), .inr (0, [.ref (bb 2), .ref (bb 3), .int (nI ((stB st0).length))])), ((bb 2), .inl (cI, 12, .inl ((fun _ _ => 0) 0))), ((bb 3), .inl (cI, 12, .inl ((fun _ _ => 0) 1))), ((bb 4), .inr (1, [.ref (bb 5), .ref (bb 6), .ref (bb 7), .ref (bb 8), .ref (bb 9), .int (nI ((stT st0).length))])), ((bb 5), .inl (cI, 6, .inl ((fun _ _ => 0) 2))), ((bb 6), .inl (cI, 6, .inl ((fun _ _ => 0) 3))), ((bb 7), .inl (cI, 6, .inl ((fun _ _ => 0) 4))), ((bb 8), .inl (cI, 6, .inl ((fun _ _ => 0) 5))), ((bb 9), .inl (cI, 6, .inl ((fun _ _ => 0) 6)))] ++ []) H := hP
  have hD : va_D (fun q : Nat => s.heap.size ≤ q) ([(x, .inr (3, [.ref (a 0), .ref (bb 0)])), ((a 0), .inr (2, [.ref (a 1), .ref (a 4), .int (nI (stG st0)), .int (nI (stS st0)), .int (stM st0), .int (nI (stN st0)), .int (stO st0), .int (stV st0), .int (nI (stI st0))])), ((a 1), .inr (0, [.ref (a 2), .ref (a 3), .int (nI ((stB st0).length))])), ((a 2), .inl (cI, 12, .inl ((fun _ _ => 0) 0))), ((a 3), .inl (cI, 12, .inl ((fun _ _ => 0) 1))), ((a 4), .inr (1, [.ref (a 5), .ref (a 6), .ref (a 7), .ref (a 8), .ref (a 9), .int (nI ((stT st0).length))])), ((a 5), .inl (cI, 6, .inl ((fun _ _ => 0) 2))), ((a 6), .inl (cI, 6, .inl ((fun _ _ => 0) 3))), ((a 7), .inl (cI, 6, .inl ((fun _ _ => 0) 4))), ((a 8), .inl (cI, 6, .inl ((fun _ _ => 0) 5))), ((a 9), .inl (cI, 6, .inl ((fun _ _ => 0) 6))), ((bb 0), .inr (2, [.ref (bb 1), .ref (bb 4), .int (nI (stG st0)), .int (nI (stS st0)), .int (stM st0), .int (nI (stN st0)), .int (stO st0), .int (stV st0), .int (nI (stI st0))])), ((bb 1), .inr (0, [.ref (bb 2), .ref (bb 3), .int (nI ((stB st0).length))])), ((bb 2), .inl (cI, 12, .inl ((fun _ _ => 0) 0))), ((bb 3), .inl (cI, 12, .inl ((fun _ _ => 0) 1))), ((bb 4), .inr (1, [.ref (bb 5), .ref (bb 6), .ref (bb 7), .ref (bb 8), .ref (bb 9), .int (nI ((stT st0).length))])), ((bb 5), .inl (cI, 6, .inl ((fun _ _ => 0) 2))), ((bb 6), .inl (cI, 6, .inl ((fun _ _ => 0) 3))), ((bb 7), .inl (cI, 6, .inl ((fun _ _ => 0) 4))), ((bb 8), .inl (cI, 6, .inl ((fun _ _ => 0) 5))), ((bb 9), .inl (cI, 6, .inl ((fun _ _ => 0) 6)))] ++ []) := hD
  refine W.eq (g2 := F0 m 7 ls [.ref x]) rfl ?_
  refine W.widen (k := 21) (n := 146) (Nat.le_of_ble_eq_true rfl) (Nat.le_of_ble_eq_true rfl) ?_
  refine lv_astore_n (lv' := [(1, .ref x), (0, .ref b)]) hx hb dL_law_7 rfl hl (by decide) rfl (fun ls hl => ?_)
  refine law_begin (x := x) (a := a) (b := bb) hl0 F hK hG hA hX hbl hbA hL (fun _ _ => 0) (fun _ _ => 0) st0 rR_0 _ (fun cl sl H locs ls hcl hsl hS hsz => ?_) H _ hP hD hS ls hl
  refine va_forget (fun q hq => hS.2.2 q hq) ?_
  refine W.widen (k := 908051) (n := 6377315) (Nat.le_trans hcl (Nat.le_of_ble_eq_true rfl)) (Nat.le_trans hsl (Nat.le_of_ble_eq_true rfl)) ?_
  exact W.base (lw_ret (Drawn.sameBut.refl s.drawn lw_cs) hx hb hr hlocks dL_law_1287)
