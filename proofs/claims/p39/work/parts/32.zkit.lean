/-! ===== worlds with tails: a literal list of cells, then rows in any number ===== -/
theorem z_Pmem {D : va_G} {ws : va_W} {H : Heap} : va_P D vwCl ws H ↔ ∀ x ∈ ws, va_at D vwCl x H := by
  constructor
  · intro h x hx
    obtain ⟨k, hk⟩ := List.mem_iff_getElem?.mp hx
    exact h k x hk
  · intro h k x hk
    exact h x (List.mem_of_getElem? hk)
theorem z_Diff {A : Nat → Prop} {ws : va_W} : va_D A ws ↔ ws.Pairwise (fun p q => p.1 ≠ q.1) ∧ ∀ x ∈ ws, A x.1 := by
  constructor
  · intro h
    refine ⟨List.pairwise_iff_getElem.mpr (fun i j hi hj hij e => ?_), fun x hx => ?_⟩
    · have := h.1 i j _ _ (List.getElem?_eq_getElem hi) (List.getElem?_eq_getElem hj) e
      omega
    · obtain ⟨k, hk⟩ := List.mem_iff_getElem?.mp hx
      exact h.2 k x hk
  · intro h
    refine ⟨fun i j p q hi hj e => ?_, fun k q hk => h.2 q (List.mem_of_getElem? hk)⟩
    obtain ⟨hi1, rfl⟩ := List.getElem?_eq_some_iff.mp hi
    obtain ⟨hj1, rfl⟩ := List.getElem?_eq_some_iff.mp hj
    rcases Nat.lt_trichotomy i j with h1 | h1 | h1
    · exact absurd e (List.pairwise_iff_getElem.mp h.1 i j hi1 hj1 h1)
    · exact h1
    · exact absurd e.symm (List.pairwise_iff_getElem.mp h.1 j i hj1 hi1 h1)
/-- the second world is a part of the first -/
def zS (ws ws' : va_W) : Prop := ∃ l : va_W, ws'.Perm l ∧ l.Sublist ws
theorem z_PS {D : va_G} {ws ws' : va_W} {H : Heap} (hs : zS ws ws') (h : va_P D vwCl ws H) : va_P D vwCl ws' H := z_Pmem.mpr fun x hx => by
  obtain ⟨l, h1, h2⟩ := hs
  exact z_Pmem.mp h x (h2.subset (h1.mem_iff.mp hx))
theorem z_DS {A : Nat → Prop} {ws ws' : va_W} (hs : zS ws ws') (h : va_D A ws) : va_D A ws' := by
  obtain ⟨l, h1, h2⟩ := hs
  obtain ⟨a, b⟩ := z_Diff.mp h
  exact z_Diff.mpr ⟨(h1.pairwise_iff (fun h9 e => h9 e.symm)).mpr (a.sublist h2), fun x hx => b x (h2.subset (h1.mem_iff.mp hx))⟩
theorem zS.rf {w : va_W} : zS w w := ⟨w, List.Perm.refl _, List.Sublist.refl _⟩
theorem zS.perm {a b : va_W} (h : a.Perm b) : zS a b := ⟨a, h.symm, List.Sublist.refl _⟩
theorem zS.sl {a b : va_W} (h : b.Sublist a) : zS a b := ⟨b, List.Perm.refl _, h⟩
theorem zS.trans {a b c : va_W} (h1 : zS a b) (h2 : zS b c) : zS a c := by
  obtain ⟨l, p1, s1⟩ := h1
  obtain ⟨m, p2, s2⟩ := h2
  obtain ⟨k, p3, s3⟩ := List.exists_perm_sublist s2 p1
  exact ⟨k, p2.trans p3.symm, s3.trans s1⟩
theorem zS.app {a b c d : va_W} (h1 : zS a b) (h2 : zS c d) : zS (a ++ c) (b ++ d) := by
  obtain ⟨l, p1, s1⟩ := h1
  obtain ⟨m, p2, s2⟩ := h2
  exact ⟨l ++ m, p1.append p2, s1.append s2⟩
theorem zp_in {α : Type} {wc wr X Y : List α} : ((wc ++ wr) ++ (X ++ Y)).Perm ((wc ++ X) ++ (wr ++ Y)) := by
  classical
  exact List.perm_iff_count.mpr (fun a => by simp only [List.count_append]; omega)
theorem zp_out {α : Type} {wc1 wr X Y : List α} : ((wr ++ Y) ++ (wc1 ++ X)).Perm ((wr ++ wc1) ++ (X ++ Y)) := by
  classical
  exact List.perm_iff_count.mpr (fun a => by simp only [List.count_append]; omega)
theorem zp_mid {α : Type} {P Z C : List α} : ((P ++ Z) ++ C).Perm ((P ++ C) ++ Z) := by
  classical
  exact List.perm_iff_count.mpr (fun a => by simp only [List.count_append]; omega)
theorem z_subP {D : va_G} {wp wp' Z : va_W} {H : Heap} (h : va_P D vwCl (wp ++ Z) H) (is : List Nat) (hs : is.map (fun i => wp[i]?) = wp'.map some) : va_P D vwCl (wp' ++ Z) H := z_Pmem.mpr fun x hx => by
  rcases List.mem_append.mp hx with h1 | h1
  · have h2 : some x ∈ wp'.map some := List.mem_map.mpr ⟨x, h1, rfl⟩
    rw [← hs] at h2
    obtain ⟨i, -, hi⟩ := List.mem_map.mp h2
    exact z_Pmem.mp h x (List.mem_append_left _ (List.mem_of_getElem? hi))
  · exact z_Pmem.mp h x (List.mem_append_right _ h1)
theorem z_subD {A : Nat → Prop} {wp wp' Z : va_W} (h : va_D A (wp ++ Z)) (is : List Nat) (hn : va_nd is = true) (hs : is.map (fun i => wp[i]?) = wp'.map some) : va_D A (wp' ++ Z) := by
  obtain ⟨a, b⟩ := z_Diff.mp h
  obtain ⟨a1, a2, a3⟩ := List.pairwise_append.mp a
  have hm : ∀ x ∈ wp', x ∈ wp := fun x hx => by
    have h2 : some x ∈ wp'.map some := List.mem_map.mpr ⟨x, hx, rfl⟩
    rw [← hs] at h2
    obtain ⟨i, -, hi⟩ := List.mem_map.mp h2
    exact List.mem_of_getElem? hi
  have hw : va_D A wp := z_Diff.mpr ⟨a1, fun x hx => b x (List.mem_append_left _ hx)⟩
  have hw' := z_Diff.mp (hw.sub is hn hs)
  refine z_Diff.mpr ⟨List.pairwise_append.mpr ⟨hw'.1, a2, fun x hx y hy => a3 x (hm x hx) y hy⟩, fun x hx => ?_⟩
  rcases List.mem_append.mp hx with h1 | h1
  · exact hw'.2 x h1
  · exact b x (List.mem_append_right _ h1)
theorem z_inP {D : va_G} {wp Z wc wr X Y w0 : va_W} {H : Heap} (h : va_P D vwCl (wp ++ Z) H) (is : List Nat) (hs : is.map (fun i => wp[i]?) = (wc ++ wr).map some) (hZ : Z.Perm (X ++ Y)) (hw0 : w0 = wc ++ X) : va_P D vwCl (w0 ++ (wr ++ Y)) H := by
  subst hw0
  exact z_PS (zS.perm ((hZ.append_left _).trans zp_in)) (z_subP h is hs)
theorem z_inD {A : Nat → Prop} {wp Z wc wr X Y w0 : va_W} (h : va_D A (wp ++ Z)) (is : List Nat) (hn : va_nd is = true) (hs : is.map (fun i => wp[i]?) = (wc ++ wr).map some) (hZ : Z.Perm (X ++ Y)) (hw0 : w0 = wc ++ X) : va_D A (w0 ++ (wr ++ Y)) := by
  subst hw0
  exact z_DS (zS.perm ((hZ.append_left _).trans zp_in)) (z_subD h is hn hs)
theorem z_ix1 (w V : va_W) : (List.range w.length).map (fun i => (w ++ V)[i]?) = w.map some := by
  apply List.ext_getElem (by simp)
  intro i h1 h2
  have h3 : i < w.length := by simpa using h1
  simp only [List.getElem_map, List.getElem_range]
  rw [List.getElem?_append_left h3, List.getElem?_eq_getElem h3]
theorem z_ix2 (w V : va_W) : ((List.range V.length).map (fun i => w.length + i)).map (fun i => (w ++ V)[i]?) = V.map some := by
  apply List.ext_getElem (by simp)
  intro i h1 h2
  have h3 : i < V.length := by simpa using h1
  simp only [List.getElem_map, List.getElem_range]
  rw [List.getElem?_append_right (Nat.le_add_right _ _), Nat.add_sub_cancel_left, List.getElem?_eq_getElem h3]
theorem z_nd : ∀ (l : List Nat), l.Nodup → va_nd l = true
  | [], _ => rfl
  | a :: l, h => by
    obtain ⟨h1, h2⟩ := List.nodup_cons.mp h
    simp only [va_nd, Bool.and_eq_true, decide_eq_true_eq]
    exact ⟨h1, z_nd l h2⟩
theorem z_nd1 (n : Nat) : va_nd (List.range n) = true := z_nd _ List.nodup_range
theorem z_nd2 (k n : Nat) : va_nd ((List.range n).map (fun i => k + i)) = true := by
  refine z_nd _ (List.pairwise_map.mpr (List.nodup_range.imp ?_))
  intro a b h e
  omega
theorem z_dis (k n : Nat) : (((List.range n).map (fun i => k + i)).all fun i => decide (i ∉ List.range k)) = true := by
  rw [List.all_eq_true]
  intro x hx
  obtain ⟨i, -, rfl⟩ := List.mem_map.mp hx
  refine decide_eq_true (fun h => ?_)
  have := List.mem_range.mp h
  omega
/-- the law's script, that nobody writes -/
def kScr (sc L : Nat) (xs : Nat → Int32) (A : Nat → Prop) (U : State) : Prop := va_X sc L xs U U.heap ∧ sc < U.heap.size ∧ ¬ A sc
def kMS {α S : Type} (sc L : Nat) (xs : Nat → Int32) (res : α → Option Value) (l : Launch) (y : MethodName) (wsl : List Cond) (rm : Room) (D : va_G) (tys : List (ClassId × FieldType)) (av : List Value) (w0 : va_W) (post : α → S → Prop) (w1 : S → va_W) : Prop :=
  ∀ sz : Nat, Met l y wsl rm (va_Pc av (fun U => kPre D tys w0 sz U ∧ kScr sc L xs (va_A w0 sz) U)) (kQ res post w1 D w0 sz) rm.cells rm.slots (va_A w0 sz)
theorem kblindS {av : List Value} {D : va_G} {tys : List (ClassId × FieldType)} {w0 : va_W} {sz sc L : Nat} {xs : Nat → Int32} : FrameBlind (va_Pc av (fun U => kPre D tys w0 sz U ∧ kScr sc L xs (va_A w0 sz) U)) := fun a U g mk q => by
  obtain ⟨h0, ⟨h1, h2, h3, h4, h5⟩, h6, h7, h8⟩ := q
  exact ⟨h0, ⟨h1, h2, va_K.moved (u := U) (U := U.calling g mk a) (Vm.Alike.refl U.vm) h3, h4, kG.blind (u := U) (U := U.calling g mk a) rfl rfl h5⟩, va_X.moved (u := U) (U := U.calling g mk a) (Vm.Alike.refl U.vm) h6, h7, h8⟩
section ZC
variable {p : Program} {l : Launch} {e : Env} {R : Room} {s : State} {m : MethodId} {args : Array Value} {below : List Frame} {meth : Method} {c : Code} {H : Heap} {locs : List Loc} {cells slots : Nat} {Q : State → Prop}
variable {α S : Type} {res : α → Option Value} {post : α → S → Prop} {w1 wc1 X1 : S → va_W} {D : va_G} {w0 wp wc wr X0 Y Z : va_W} {tys tys' : List (ClassId × FieldType)} {A : Nat → Prop}
variable {cc cY : ByteArray} {nL nA maxY idx pc ci q0 : Nat} {Ts wsY ws' : List Cond} {own C : String} {y : MethodName} {retY : Option FieldType} {rmY : Room} {b : Addr} {As rest st0 : List Value} {ls : Array Slot} {fs : List Value} {qc : vw_C}
theorem kz_callV (F : CallFix p m c cc nL s args Ts own) (hM : kM res l y wsY rmY D tys' (.ref b :: As) w0 post w1) (g : GoodIn Ts (wsV own idx C y wsY)) (hw : wsY = Cond.code y cY maxY retY :: ws')
    (hd : y.cls = C ∧ y.cls ≠ "java/lang/invoke/MethodHandle" ∧ y.cls ≠ "java/lang/invoke/VarHandle" ∧ (parseMethodDescriptor y.desc).map (fun d => d.parameters.length) = some nA) (hnA : As.length = nA) (hR : rmY.frames + 1 ≤ R.frames ∧ 8 + (maxY + 11) + rmY.locals ≤ R.locals)
    (hK : va_K D vwCl tys s) (hP : va_P D vwCl (wp ++ Z) H) (hD : va_D A (wp ++ Z)) (hS : va_S A s.heap H locs) (hA : ∀ q, s.heap.size ≤ q → A q) (hG : kG A s) (hc : vwCl[ci]? = some qc) (hqc : qc.1 = C) (he : wc[q0]? = some (b, .inr (ci, fs)))
    (isC isR : List Nat) (hC : (isC ++ isR).map (fun i => wp[i]?) = (wc ++ wr).map some) (hn : va_nd (isC ++ isR) = true) (hZ : Z.Perm (X0 ++ Y)) (hw0 : w0 = wc ++ X0) (hw1 : ∀ u, w1 u = wc1 u ++ X1 u) (is : List Nat) (hs : is.filterMap (fun i => tys[i]?) = tys')
    (hst : st0 = As.reverse ++ .ref b :: rest) (hsz : ls.size = nL) (hrest : (rest.map fun v => v.category).sum ≤ 8) (hdg : decode cc pc = .ok (.invokevirtual idx, 3)) (hcs : cells + rmY.cells ≤ R.cells ∧ slots + rmY.slots ≤ R.slots)
    (kk : ∀ (r : α) (u : S) (H1 : Heap) (locs1 : List Loc), post r u → va_P D vwCl ((wr ++ wc1 u) ++ (X1 u ++ Y)) H1 → va_D A ((wr ++ wc1 u) ++ (X1 u ++ Y)) → va_S A s.heap H1 locs1 → W p l e R s m args below meth c H1 locs1 (cells + rmY.cells) (slots + rmY.slots) Q (F0 m (pc + 3) ls ((res r).toList ++ rest))) : W p l e R s m args below meth c H locs cells slots Q (F0 m pc ls st0) := by
  have he' : (w0 ++ (wr ++ Y))[q0]? = some (b, .inr (ci, fs)) := by
    have h1 : q0 < wc.length := (List.getElem?_eq_some_iff.mp he).1
    rw [hw0, List.append_assoc, List.getElem?_append_left h1]; exact he
  exact k_callV F hM g hw hd hnA hR hK (z_inP hP _ hC hZ hw0) (z_inD hD _ hn hC hZ hw0) hS hA hG hc hqc he' (List.range w0.length) ((List.range (wr ++ Y).length).map (fun i => w0.length + i)) (z_ix1 _ _) (z_nd1 _) (z_ix2 _ _) (z_nd2 _ _) (z_dis _ _) is hs hst hsz hrest hdg hcs
    (fun r u H1 l1 h1 h2 h3 h4 => by
      rw [hw1 u] at h2 h3
      exact kk r u H1 l1 h1 (z_PS (zS.perm zp_out) h2) (z_DS (zS.perm zp_out) h3) h4)
theorem kz_callS (F : CallFix p m c cc nL s args Ts own) (hM : kM res l y wsY rmY D tys' As w0 post w1) (g : GoodIn Ts (va_wsS own idx y wsY)) (hw : wsY = Cond.code y cY maxY retY :: ws')
    (hd : y.cls ≠ "java/lang/invoke/MethodHandle" ∧ y.cls ≠ "java/lang/invoke/VarHandle" ∧ (parseMethodDescriptor y.desc).map (fun d => d.parameters.length) = some nA) (hnA : As.length = nA) (hR : rmY.frames + 1 ≤ R.frames ∧ 8 + (maxY + 11) + rmY.locals ≤ R.locals)
    (hK : va_K D vwCl tys s) (hP : va_P D vwCl (wp ++ Z) H) (hD : va_D A (wp ++ Z)) (hS : va_S A s.heap H locs) (hA : ∀ q, s.heap.size ≤ q → A q) (hG : kG A s)
    (isC isR : List Nat) (hC : (isC ++ isR).map (fun i => wp[i]?) = (wc ++ wr).map some) (hn : va_nd (isC ++ isR) = true) (hZ : Z.Perm (X0 ++ Y)) (hw0 : w0 = wc ++ X0) (hw1 : ∀ u, w1 u = wc1 u ++ X1 u) (is : List Nat) (hs : is.filterMap (fun i => tys[i]?) = tys')
    (hst : st0 = As.reverse ++ rest) (hsz : ls.size = nL) (hrest : (rest.map fun v => v.category).sum ≤ 8) (hdg : decode cc pc = .ok (.invokestatic idx, 3)) (hcs : cells + rmY.cells ≤ R.cells ∧ slots + rmY.slots ≤ R.slots)
    (kk : ∀ (r : α) (u : S) (H1 : Heap) (locs1 : List Loc), post r u → va_P D vwCl ((wr ++ wc1 u) ++ (X1 u ++ Y)) H1 → va_D A ((wr ++ wc1 u) ++ (X1 u ++ Y)) → va_S A s.heap H1 locs1 → W p l e R s m args below meth c H1 locs1 (cells + rmY.cells) (slots + rmY.slots) Q (F0 m (pc + 3) ls ((res r).toList ++ rest))) : W p l e R s m args below meth c H locs cells slots Q (F0 m pc ls st0) := by
  subst hst
  exact k_of_run (va_runS (As := As) (rest := rest) F (hM H.size) (va_cwS nA F.2.2.2.2 g hw rfl rfl hd hR) ⟨kblind, fun U hU hW => k_pre (locs' := locs) hK (z_inP hP _ hC hZ hw0) (z_inD hD _ hn hC hZ hw0) hS hA hG (List.range w0.length) (z_ix1 _ _) (z_nd1 _) is hs U hU hW⟩ rfl hnA hsz rfl (lv_room hrest) hdg hcs) (z_inP hP _ hC hZ hw0) (z_inD hD _ hn hC hZ hw0) hS hA (List.range w0.length) ((List.range (wr ++ Y).length).map (fun i => w0.length + i)) (z_ix1 _ _) (z_ix2 _ _) (z_nd2 _ _) (z_dis _ _)
    (fun r u H1 l1 h1 h2 h3 h4 => by
      rw [hw1 u] at h2 h3
      exact kk r u H1 l1 h1 (z_PS (zS.perm zp_out) h2) (z_DS (zS.perm zp_out) h3) h4)
/-- a static method with handlers -/
theorem kz_callSW {hh : List (Nat × Nat × Nat × Nat)} (F : CallFix p m c cc nL s args Ts own) (hM : kM res l y wsY rmY D tys' As w0 post w1) (g : GoodIn Ts (va_wsS own idx y wsY)) (hw : wsY = Cond.codeWith y cY maxY retY hh :: ws')
    (hd : y.cls ≠ "java/lang/invoke/MethodHandle" ∧ y.cls ≠ "java/lang/invoke/VarHandle" ∧ (parseMethodDescriptor y.desc).map (fun d => d.parameters.length) = some nA) (hnA : As.length = nA) (hR : rmY.frames + 1 ≤ R.frames ∧ 8 + (maxY + 11) + rmY.locals ≤ R.locals)
    (hK : va_K D vwCl tys s) (hP : va_P D vwCl (wp ++ Z) H) (hD : va_D A (wp ++ Z)) (hS : va_S A s.heap H locs) (hA : ∀ q, s.heap.size ≤ q → A q) (hG : kG A s)
    (isC isR : List Nat) (hC : (isC ++ isR).map (fun i => wp[i]?) = (wc ++ wr).map some) (hn : va_nd (isC ++ isR) = true) (hZ : Z.Perm (X0 ++ Y)) (hw0 : w0 = wc ++ X0) (hw1 : ∀ u, w1 u = wc1 u ++ X1 u) (is : List Nat) (hs : is.filterMap (fun i => tys[i]?) = tys')
    (hst : st0 = As.reverse ++ rest) (hsz : ls.size = nL) (hrest : (rest.map fun v => v.category).sum ≤ 8) (hdg : decode cc pc = .ok (.invokestatic idx, 3)) (hcs : cells + rmY.cells ≤ R.cells ∧ slots + rmY.slots ≤ R.slots)
    (kk : ∀ (r : α) (u : S) (H1 : Heap) (locs1 : List Loc), post r u → va_P D vwCl ((wr ++ wc1 u) ++ (X1 u ++ Y)) H1 → va_D A ((wr ++ wc1 u) ++ (X1 u ++ Y)) → va_S A s.heap H1 locs1 → W p l e R s m args below meth c H1 locs1 (cells + rmY.cells) (slots + rmY.slots) Q (F0 m (pc + 3) ls ((res r).toList ++ rest))) : W p l e R s m args below meth c H locs cells slots Q (F0 m pc ls st0) := by
  subst hst
  exact k_of_run (vx_runSW (As := As) (rest := rest) F (hM H.size) (vx_cwSW nA F.2.2.2.2 g hw rfl rfl hd hR) ⟨kblind, fun U hU hW => k_pre (locs' := locs) hK (z_inP hP _ hC hZ hw0) (z_inD hD _ hn hC hZ hw0) hS hA hG (List.range w0.length) (z_ix1 _ _) (z_nd1 _) is hs U hU hW⟩ rfl hnA hsz rfl (lv_room hrest) hdg hcs) (z_inP hP _ hC hZ hw0) (z_inD hD _ hn hC hZ hw0) hS hA (List.range w0.length) ((List.range (wr ++ Y).length).map (fun i => w0.length + i)) (z_ix1 _ _) (z_ix2 _ _) (z_nd2 _ _) (z_dis _ _)
    (fun r u H1 l1 h1 h2 h3 h4 => by
      rw [hw1 u] at h2 h3
      exact kk r u H1 l1 h1 (z_PS (zS.perm zp_out) h2) (z_DS (zS.perm zp_out) h3) h4)
/-- a static method that is given the law's script -/
theorem kz_callSS {sc L : Nat} {xs : Nat → Int32} (hX : va_X sc L xs s s.heap) (hbl : sc < s.heap.size) (hbA : ¬ A sc) (F : CallFix p m c cc nL s args Ts own) (hM : kMS sc L xs res l y wsY rmY D tys' As w0 post w1) (g : GoodIn Ts (va_wsS own idx y wsY)) (hw : wsY = Cond.code y cY maxY retY :: ws')
    (hd : y.cls ≠ "java/lang/invoke/MethodHandle" ∧ y.cls ≠ "java/lang/invoke/VarHandle" ∧ (parseMethodDescriptor y.desc).map (fun d => d.parameters.length) = some nA) (hnA : As.length = nA) (hR : rmY.frames + 1 ≤ R.frames ∧ 8 + (maxY + 11) + rmY.locals ≤ R.locals)
    (hK : va_K D vwCl tys s) (hP : va_P D vwCl (wp ++ Z) H) (hD : va_D A (wp ++ Z)) (hS : va_S A s.heap H locs) (hA : ∀ q, s.heap.size ≤ q → A q) (hG : kG A s)
    (isC isR : List Nat) (hC : (isC ++ isR).map (fun i => wp[i]?) = (wc ++ wr).map some) (hn : va_nd (isC ++ isR) = true) (hZ : Z.Perm (X0 ++ Y)) (hw0 : w0 = wc ++ X0) (hw1 : ∀ u, w1 u = wc1 u ++ X1 u) (is : List Nat) (hs : is.filterMap (fun i => tys[i]?) = tys')
    (hst : st0 = As.reverse ++ rest) (hsz : ls.size = nL) (hrest : (rest.map fun v => v.category).sum ≤ 8) (hdg : decode cc pc = .ok (.invokestatic idx, 3)) (hcs : cells + rmY.cells ≤ R.cells ∧ slots + rmY.slots ≤ R.slots)
    (kk : ∀ (r : α) (u : S) (H1 : Heap) (locs1 : List Loc), post r u → va_P D vwCl ((wr ++ wc1 u) ++ (X1 u ++ Y)) H1 → va_D A ((wr ++ wc1 u) ++ (X1 u ++ Y)) → va_S A s.heap H1 locs1 → W p l e R s m args below meth c H1 locs1 (cells + rmY.cells) (slots + rmY.slots) Q (F0 m (pc + 3) ls ((res r).toList ++ rest))) : W p l e R s m args below meth c H locs cells slots Q (F0 m pc ls st0) := by
  subst hst
  refine k_of_run (va_runS (As := As) (rest := rest) F (hM H.size) (va_cwS nA F.2.2.2.2 g hw rfl rfl hd hR) ⟨kblindS, fun U hU hW => ⟨rfl, ?_, ?_⟩⟩ rfl hnA hsz rfl (lv_room hrest) hdg hcs) (z_inP hP _ hC hZ hw0) (z_inD hD _ hn hC hZ hw0) hS hA (List.range w0.length) ((List.range (wr ++ Y).length).map (fun i => w0.length + i)) (z_ix1 _ _) (z_ix2 _ _) (z_nd2 _ _) (z_dis _ _)
    (fun r u H1 l1 h1 h2 h3 h4 => by
      rw [hw1 u] at h2 h3
      exact kk r u H1 l1 h1 (z_PS (zS.perm zp_out) h2) (z_DS (zS.perm zp_out) h3) h4)
  · exact (k_pre (locs' := locs) hK (z_inP hP _ hC hZ hw0) (z_inD hD _ hn hC hZ hw0) hS hA hG (List.range w0.length) (z_ix1 _ _) (z_nd1 _) is hs U hU hW : va_Pc As (kPre D tys' w0 H.size) As.toArray U).2
  · subst hU
    exact ⟨(hX.kept (hS.2.1 sc hbl hbA)).moved hW.alike, Nat.lt_of_lt_of_le hbl hS.1, fun h => hbA (va_free (z_inD hD _ hn hC hZ hw0) hS hA (List.range w0.length) (z_ix1 _ _) _ h)⟩
end ZC
section ZCI
variable {p : Program} {l : Launch} {e : Env} {R : Room} {s : State} {m : MethodId} {args : Array Value} {below : List Frame} {meth : Method} {c : Code} {H : Heap} {locs : List Loc} {cells slots : Nat} {Q : State → Prop}
variable {S : Type} {post : Unit → S → Prop} {w1 wc1 X1 : S → va_W} {D : va_G} {w0 wp wc wr X0 Y Z : va_W} {tys tys' : List (ClassId × FieldType)} {A : Nat → Prop}
variable {cc cY : ByteArray} {nL nA maxY idx pc : Nat} {Ts wsY ws' : List Cond} {own : String} {y : MethodName} {rmY : Room} {b : Addr} {As rest st0 : List Value} {ls : Array Slot}
theorem kz_callI (F : CallFix p m c cc nL s args Ts own) (hM : kM krv l y wsY rmY D tys' (.ref b :: As) w0 post w1) (g : GoodIn Ts wsY) (hw : wsY = Cond.code y cY maxY none :: ws') (hini : Cond.initialized y.cls ∈ Ts) (hlk : Cond.methodLink own idx y ∈ Ts) (hin : Cond.instanceMethod y ∈ Ts)
    (hd : y.name = "<init>" ∧ y.cls ≠ "java/lang/invoke/MethodHandle" ∧ y.cls ≠ "java/lang/invoke/VarHandle" ∧ (parseMethodDescriptor y.desc).map (fun d => d.parameters.length) = some nA) (hnA : As.length = nA) (hR : rmY.frames + 1 ≤ R.frames ∧ 8 + (maxY + 11) + rmY.locals ≤ R.locals)
    (hK : va_K D vwCl tys s) (hP : va_P D vwCl (wp ++ Z) H) (hD : va_D A (wp ++ Z)) (hS : va_S A s.heap H locs) (hA : ∀ q, s.heap.size ≤ q → A q) (hG : kG A s)
    (isC isR : List Nat) (hC : (isC ++ isR).map (fun i => wp[i]?) = (wc ++ wr).map some) (hn : va_nd (isC ++ isR) = true) (hZ : Z.Perm (X0 ++ Y)) (hw0 : w0 = wc ++ X0) (hw1 : ∀ u, w1 u = wc1 u ++ X1 u) (is : List Nat) (hs : is.filterMap (fun i => tys[i]?) = tys')
    (hst : st0 = As.reverse ++ .ref b :: rest) (hsz : ls.size = nL) (hrest : (rest.map fun v => v.category).sum ≤ 8) (hdg : decode cc pc = .ok (.invokespecial idx, 3)) (hcs : cells + rmY.cells ≤ R.cells ∧ slots + rmY.slots ≤ R.slots)
    (kk : ∀ (r : Unit) (u : S) (H1 : Heap) (locs1 : List Loc), post r u → va_P D vwCl ((wr ++ wc1 u) ++ (X1 u ++ Y)) H1 → va_D A ((wr ++ wc1 u) ++ (X1 u ++ Y)) → va_S A s.heap H1 locs1 → W p l e R s m args below meth c H1 locs1 (cells + rmY.cells) (slots + rmY.slots) Q (F0 m (pc + 3) ls rest)) : W p l e R s m args below meth c H locs cells slots Q (F0 m pc ls st0) := by
  exact k_callI F hM g hw hini hlk hin hd hnA hR hK (z_inP hP _ hC hZ hw0) (z_inD hD _ hn hC hZ hw0) hS hA hG (List.range w0.length) ((List.range (wr ++ Y).length).map (fun i => w0.length + i)) (z_ix1 _ _) (z_nd1 _) (z_ix2 _ _) (z_nd2 _ _) (z_dis _ _) is hs hst hsz hrest hdg hcs
    (fun r u H1 l1 h1 h2 h3 h4 => by
      rw [hw1 u] at h2 h3
      exact kk r u H1 l1 h1 (z_PS (zS.perm zp_out) h2) (z_DS (zS.perm zp_out) h3) h4)
/-- a private constructor of a nest mate -/
theorem kz_callIN {host : String} (F : CallFix p m c cc nL s args Ts own) (hM : kM krv l y wsY rmY D tys' (.ref b :: As) w0 post w1) (g : GoodIn Ts wsY) (hw : wsY = Cond.code y cY maxY none :: ws') (hN : va_Nw (.methodLinkNest own idx y host) s) (hini : Cond.initialized y.cls ∈ Ts) (hin : Cond.instanceMethod y ∈ Ts)
    (hd : y.name = "<init>" ∧ y.cls ≠ "java/lang/invoke/MethodHandle" ∧ y.cls ≠ "java/lang/invoke/VarHandle" ∧ (parseMethodDescriptor y.desc).map (fun d => d.parameters.length) = some nA) (hnA : As.length = nA) (hR : rmY.frames + 1 ≤ R.frames ∧ 8 + (maxY + 11) + rmY.locals ≤ R.locals)
    (hK : va_K D vwCl tys s) (hP : va_P D vwCl (wp ++ Z) H) (hD : va_D A (wp ++ Z)) (hS : va_S A s.heap H locs) (hA : ∀ q, s.heap.size ≤ q → A q) (hG : kG A s)
    (isC isR : List Nat) (hC : (isC ++ isR).map (fun i => wp[i]?) = (wc ++ wr).map some) (hn : va_nd (isC ++ isR) = true) (hZ : Z.Perm (X0 ++ Y)) (hw0 : w0 = wc ++ X0) (hw1 : ∀ u, w1 u = wc1 u ++ X1 u) (is : List Nat) (hs : is.filterMap (fun i => tys[i]?) = tys')
    (hst : st0 = As.reverse ++ .ref b :: rest) (hsz : ls.size = nL) (hrest : (rest.map fun v => v.category).sum ≤ 8) (hdg : decode cc pc = .ok (.invokespecial idx, 3)) (hcs : cells + rmY.cells ≤ R.cells ∧ slots + rmY.slots ≤ R.slots)
    (kk : ∀ (r : Unit) (u : S) (H1 : Heap) (locs1 : List Loc), post r u → va_P D vwCl ((wr ++ wc1 u) ++ (X1 u ++ Y)) H1 → va_D A ((wr ++ wc1 u) ++ (X1 u ++ Y)) → va_S A s.heap H1 locs1 → W p l e R s m args below meth c H1 locs1 (cells + rmY.cells) (slots + rmY.slots) Q (F0 m (pc + 3) ls rest)) : W p l e R s m args below meth c H locs cells slots Q (F0 m pc ls st0) := by
  subst hst
  exact k_of_run (va_runIN (As := As) (rest := rest) (host := host) F (hM H.size) ⟨va_cnB nA F.2.2.2.2 g hw rfl rfl hN (F.2.2.2.2 _ hini) hd.2 hR, hd.1, F.2.2.2.2 _ hin⟩ ⟨kblind, fun U hU hW => k_pre (locs' := locs) hK (z_inP hP _ hC hZ hw0) (z_inD hD _ hn hC hZ hw0) hS hA hG (List.range w0.length) (z_ix1 _ _) (z_nd1 _) is hs U hU hW⟩ rfl hnA hsz rfl (lv_room hrest) hdg hcs) (z_inP hP _ hC hZ hw0) (z_inD hD _ hn hC hZ hw0) hS hA (List.range w0.length) ((List.range (wr ++ Y).length).map (fun i => w0.length + i)) (z_ix1 _ _) (z_ix2 _ _) (z_nd2 _ _) (z_dis _ _)
    (fun r u H1 l1 h1 h2 h3 h4 => by
      rw [hw1 u] at h2 h3
      exact kk r u H1 l1 h1 (z_PS (zS.perm zp_out) h2) (z_DS (zS.perm zp_out) h3) h4)
end ZCI
section ZX
variable {p : Program} {l : Launch} {e : Env} {R : Room} {s : State} {m : MethodId} {args : Array Value} {below : List Frame} {meth : Method} {c : Code} {H : Heap} {locs : List Loc} {cells slots : Nat} {Q : State → Prop}
variable {D : va_G} {wp wc wr Z : va_W} {tys tys' : List (ClassId × FieldType)} {A : Nat → Prop} {E : String}
variable {cc cY : ByteArray} {nL nA maxY idx pc ci q0 : Nat} {Ts wsY ws' : List Cond} {own C : String} {y : MethodName} {retY : Option FieldType} {rmY : Room} {b : Addr} {As rest st0 : List Value} {ls : Array Slot} {fs : List Value} {qc : vw_C}
/-- a call that throws, the callee's cells literal -/
theorem kzX_callV (F : CallFix p m c cc nL s args Ts own) (hM : kX l y wsY rmY D tys' (.ref b :: As) wc E) (g : GoodIn Ts (wsV own idx C y wsY)) (hw : wsY = Cond.code y cY maxY retY :: ws')
    (hd : y.cls = C ∧ y.cls ≠ "java/lang/invoke/MethodHandle" ∧ y.cls ≠ "java/lang/invoke/VarHandle" ∧ (parseMethodDescriptor y.desc).map (fun d => d.parameters.length) = some nA) (hnA : As.length = nA) (hR : rmY.frames + 1 ≤ R.frames ∧ 8 + (maxY + 11) + rmY.locals ≤ R.locals)
    (hK : va_K D vwCl tys s) (hP : va_P D vwCl (wp ++ Z) H) (hD : va_D A (wp ++ Z)) (hS : va_S A s.heap H locs) (hA : ∀ q, s.heap.size ≤ q → A q) (hG : kG A s) (hc : vwCl[ci]? = some qc) (hqc : qc.1 = C) (he : wc[q0]? = some (b, .inr (ci, fs)))
    (isC isR : List Nat) (hC : (isC ++ isR).map (fun i => wp[i]?) = (wc ++ wr).map some) (hn : va_nd (isC ++ isR) = true) (is : List Nat) (hs : is.filterMap (fun i => tys[i]?) = tys')
    (hst : st0 = As.reverse ++ .ref b :: rest) (hsz : ls.size = nL) (hrest : (rest.map fun v => v.category).sum ≤ 8) (hdg : decode cc pc = .ok (.invokevirtual idx, 3)) (hcs : cells + rmY.cells ≤ R.cells ∧ slots + rmY.slots ≤ R.slots)
    (kx : ∀ (H1 : Heap) (locs1 : List Loc) (q : Addr) (ce : Cell), va_P D vwCl ((wr ++ wc) ++ Z) H1 → va_D A ((wr ++ wc) ++ Z) → va_S A s.heap H1 locs1 → H1[q]? = some ce → ce.vm = .none → s.vm.findClass E = some ce.cls → vx_W p l e R s m args below meth c H1 locs1 (cells + rmY.cells) (slots + rmY.slots) Q (F0 m pc ls rest) q) : W p l e R s m args below meth c H locs cells slots Q (F0 m pc ls st0) := by
  have hw0 : wc = wc ++ [] := (List.append_nil _).symm
  have hZ : Z.Perm ([] ++ Z) := List.Perm.refl _
  have he' : (wc ++ (wr ++ Z))[q0]? = some (b, .inr (ci, fs)) := by
    have h1 : q0 < wc.length := (List.getElem?_eq_some_iff.mp he).1
    rw [List.getElem?_append_left h1]; exact he
  exact kX_callV F hM g hw hd hnA hR hK (z_inP hP _ hC hZ hw0) (z_inD hD _ hn hC hZ hw0) hS hA hG hc hqc he' (List.range wc.length) ((List.range (wr ++ Z).length).map (fun i => wc.length + i)) (z_ix1 _ _) (z_nd1 _) (z_ix2 _ _) (z_nd2 _ _) (z_dis _ _) is hs hst hsz hrest hdg hcs
    (fun H1 l1 q ce h2 h3 h4 h5 h6 h7 => kx H1 l1 q ce (z_PS (zS.perm zp_mid) h2) (z_DS (zS.perm zp_mid) h3) h4 h5 h6 h7)
end ZX
/-! bodies that return references; bodies that are given the script -/
abbrev krr : Nat → Option Value := fun a => some (.ref a)
section ZB
variable {l : Launch} {y : MethodName} {wsl ws' : List Cond} {rm : Room} {D : va_G} {tys : List (ClassId × FieldType)} {av : List Value} {w0 : va_W} {S : Type} {w1 : S → va_W} {cc : ByteArray} {maxL : Nat} {rt : FieldType}
theorem k_bodyR {post : Nat → S → Prop} (hrt : (∃ n, rt = .object n) ∨ ∃ t, rt = .array t) (hy : plainName y.cls = true) (hw : wsl = Cond.code y cc maxL (some rt) :: ws') (hlen : (lg_sl av).length ≤ maxL)
    (body : ∀ (p : Program) (e : Env) (s : State) (m : MethodId) (args : Array Value) (below : List Frame) (meth : Method) (c : Code) (A : Nat → Prop) (Q : State → Prop), CallFix p m c cc maxL s args wsl y.cls → meth.name = y.name → (∀ q, s.heap.size ≤ q → A q) → kG A s → va_K D vwCl tys s → va_P D vwCl w0 s.heap → va_D A w0 → va_S A s.heap s.heap [] →
      (∀ (v : Nat) (u : S) (H : Heap) (locs : List Loc) (cells slots pc : Nat) (ls : Array Slot), post v u → va_P D vwCl (w1 u) H → va_D A (w1 u) → va_S A s.heap H locs → cells ≤ rm.cells → slots ≤ rm.slots → decode cc pc = .ok (.areturn, 1) → W p l e rm s m args below meth c H locs cells slots Q (F0 m pc ls [.ref v])) →
      ∀ ls, lv_has ls maxL (lv_args 0 av) → W p l e rm s m args below meth c s.heap [] 0 0 Q (F0 m 0 ls [])) : kM krr l y wsl rm D tys av w0 post w1 := by
  intro sz
  refine Met.ofW (cc := cc) (maxL := maxL) (ret := some rt) hy hw ?_
  intro p e s m args below meth c s₁ B hml hv
  obtain ⟨rfl, hsz, hP, hK, hD0, hG⟩ := hv
  subst hsz
  have hD := hD0.self (sz := s.heap.size)
  have hl := lv_entry av (n := maxL) hlen
  rw [lg_entry_eq]
  refine body p e s m _ below meth c (va_A w0 s.heap.size) _ ⟨B.exec, B.bytes, hml, findClass_of_methodNamed B.named, atoms_spec (ws := wsl) B.pre⟩ (name_of_methodNamed B.named B.method).1 (fun q h => Or.inr h) hG hK hP hD va_S.rf ?_ _ hl
  intro v u H locs cells slots pc ls hp hP1 hD1 hS hc hs hdg
  refine W.widen (k := rm.cells) (n := rm.slots) hc hs ?_
  exact W.aret (v := .ref v) B.exec B.bytes B.returns hrt (Or.inr ⟨v, rfl⟩) (fun t ht hW => ⟨⟨v, u, rfl, hp, by rw [ht]; exact hP1, hD1⟩, hS.F ht⟩) hS.2.2 hdg B.notSynchronized
theorem k_bodyRS {sc L : Nat} {xs : Nat → Int32} {post : Nat → S → Prop} (hrt : (∃ n, rt = .object n) ∨ ∃ t, rt = .array t) (hy : plainName y.cls = true) (hw : wsl = Cond.code y cc maxL (some rt) :: ws') (hlen : (lg_sl av).length ≤ maxL)
    (body : ∀ (p : Program) (e : Env) (s : State) (m : MethodId) (args : Array Value) (below : List Frame) (meth : Method) (c : Code) (A : Nat → Prop) (Q : State → Prop), CallFix p m c cc maxL s args wsl y.cls → meth.name = y.name → (∀ q, s.heap.size ≤ q → A q) → kG A s → va_X sc L xs s s.heap → sc < s.heap.size → ¬ A sc → va_K D vwCl tys s → va_P D vwCl w0 s.heap → va_D A w0 → va_S A s.heap s.heap [] →
      (∀ (v : Nat) (u : S) (H : Heap) (locs : List Loc) (cells slots pc : Nat) (ls : Array Slot), post v u → va_P D vwCl (w1 u) H → va_D A (w1 u) → va_S A s.heap H locs → cells ≤ rm.cells → slots ≤ rm.slots → decode cc pc = .ok (.areturn, 1) → W p l e rm s m args below meth c H locs cells slots Q (F0 m pc ls [.ref v])) →
      ∀ ls, lv_has ls maxL (lv_args 0 av) → W p l e rm s m args below meth c s.heap [] 0 0 Q (F0 m 0 ls [])) : kMS sc L xs krr l y wsl rm D tys av w0 post w1 := by
  intro sz
  refine Met.ofW (cc := cc) (maxL := maxL) (ret := some rt) hy hw ?_
  intro p e s m args below meth c s₁ B hml hv
  obtain ⟨rfl, ⟨hsz, hP, hK, hD0, hG⟩, hX, hbl, hbA⟩ := hv
  subst hsz
  have hD := hD0.self (sz := s.heap.size)
  have hl := lv_entry av (n := maxL) hlen
  rw [lg_entry_eq]
  refine body p e s m _ below meth c (va_A w0 s.heap.size) _ ⟨B.exec, B.bytes, hml, findClass_of_methodNamed B.named, atoms_spec (ws := wsl) B.pre⟩ (name_of_methodNamed B.named B.method).1 (fun q h => Or.inr h) hG hX hbl hbA hK hP hD va_S.rf ?_ _ hl
  intro v u H locs cells slots pc ls hp hP1 hD1 hS hc hs hdg
  refine W.widen (k := rm.cells) (n := rm.slots) hc hs ?_
  exact W.aret (v := .ref v) B.exec B.bytes B.returns hrt (Or.inr ⟨v, rfl⟩) (fun t ht hW => ⟨⟨v, u, rfl, hp, by rw [ht]; exact hP1, hD1⟩, hS.F ht⟩) hS.2.2 hdg B.notSynchronized
theorem k_bodyIS {sc L : Nat} {xs : Nat → Int32} {post : Int32 → S → Prop} (hy : plainName y.cls = true) (hw : wsl = Cond.code y cc maxL (some .int) :: ws') (hlen : (lg_sl av).length ≤ maxL)
    (body : ∀ (p : Program) (e : Env) (s : State) (m : MethodId) (args : Array Value) (below : List Frame) (meth : Method) (c : Code) (A : Nat → Prop) (Q : State → Prop), CallFix p m c cc maxL s args wsl y.cls → meth.name = y.name → (∀ q, s.heap.size ≤ q → A q) → kG A s → va_X sc L xs s s.heap → sc < s.heap.size → ¬ A sc → va_K D vwCl tys s → va_P D vwCl w0 s.heap → va_D A w0 → va_S A s.heap s.heap [] →
      (∀ (v : Int32) (u : S) (H : Heap) (locs : List Loc) (cells slots pc : Nat) (ls : Array Slot), post v u → va_P D vwCl (w1 u) H → va_D A (w1 u) → va_S A s.heap H locs → cells ≤ rm.cells → slots ≤ rm.slots → decode cc pc = .ok (.ireturn, 1) → W p l e rm s m args below meth c H locs cells slots Q (F0 m pc ls [.int v])) →
      ∀ ls, lv_has ls maxL (lv_args 0 av) → W p l e rm s m args below meth c s.heap [] 0 0 Q (F0 m 0 ls [])) : kMS sc L xs kri l y wsl rm D tys av w0 post w1 := by
  intro sz
  refine Met.ofW (cc := cc) (maxL := maxL) (ret := some .int) hy hw ?_
  intro p e s m args below meth c s₁ B hml hv
  obtain ⟨rfl, ⟨hsz, hP, hK, hD0, hG⟩, hX, hbl, hbA⟩ := hv
  subst hsz
  have hD := hD0.self (sz := s.heap.size)
  have hl := lv_entry av (n := maxL) hlen
  rw [lg_entry_eq]
  refine body p e s m _ below meth c (va_A w0 s.heap.size) _ ⟨B.exec, B.bytes, hml, findClass_of_methodNamed B.named, atoms_spec (ws := wsl) B.pre⟩ (name_of_methodNamed B.named B.method).1 (fun q h => Or.inr h) hG hX hbl hbA hK hP hD va_S.rf ?_ _ hl
  intro v u H locs cells slots pc ls hp hP1 hD1 hS hc hs hdg
  refine W.widen (k := rm.cells) (n := rm.slots) hc hs ?_
  exact W.iret (v := v) B.exec B.bytes B.returns (fun t ht hW => ⟨⟨v, u, rfl, hp, by rw [ht]; exact hP1, hD1⟩, hS.F ht⟩) hS.2.2 hdg B.notSynchronized
theorem k_bodyZW {hh : List (Nat × Nat × Nat × Nat)} {post : Int32 → S → Prop} (hy : plainName y.cls = true) (hw : wsl = Cond.codeWith y cc maxL (some .boolean) hh :: ws') (hlen : (lg_sl av).length ≤ maxL)
    (body : ∀ (p : Program) (e : Env) (s : State) (m : MethodId) (args : Array Value) (below : List Frame) (meth : Method) (c : Code) (A : Nat → Prop) (Q : State → Prop), CallFix p m c cc maxL s args wsl y.cls → c.exceptionTable.toList = tableOf hh → (∀ q, s.heap.size ≤ q → A q) → kG A s → va_K D vwCl tys s → va_P D vwCl w0 s.heap → va_D A w0 → va_S A s.heap s.heap [] →
      (∀ (v : Int32) (u : S) (H : Heap) (locs : List Loc) (cells slots pc : Nat) (ls : Array Slot), narrow .boolean (.int v) = .int v → post v u → va_P D vwCl (w1 u) H → va_D A (w1 u) → va_S A s.heap H locs → cells ≤ rm.cells → slots ≤ rm.slots → decode cc pc = .ok (.ireturn, 1) → W p l e rm s m args below meth c H locs cells slots Q (F0 m pc ls [.int v])) →
      ∀ ls, lv_has ls maxL (lv_args 0 av) → W p l e rm s m args below meth c s.heap [] 0 0 Q (F0 m 0 ls [])) : kM kri l y wsl rm D tys av w0 post w1 := by
  intro sz
  refine va_MetW (hh := hh) (cc := cc) (maxL := maxL) (ret := some .boolean) hy hw ?_
  intro p e s m args below meth c s₁ B hml hv
  obtain ⟨rfl, hsz, hP, hK, hD0, hG⟩ := hv
  subst hsz
  have hD := hD0.self (sz := s.heap.size)
  have hl := lv_entry av (n := maxL) hlen
  have hat := atoms_spec (ws := wsl) B.pre
  rw [lg_entry_eq]
  refine body p e s m _ below meth c (va_A w0 s.heap.size) _ ⟨B.exec, B.bytes, hml, findClass_of_methodNamed B.named, hat⟩ (vx_table (x := y) B (hat _ (by rw [hw]; exact List.mem_cons_self))) (fun q h => Or.inr h) hG hK hP hD va_S.rf ?_ _ hl
  intro v u H locs cells slots pc ls hnar hp hP1 hD1 hS hc hs hdg
  refine W.widen (k := rm.cells) (n := rm.slots) hc hs ?_
  exact W.zret (v := v) B.exec B.bytes B.returns hnar (fun t ht hW => ⟨⟨v, u, rfl, hp, by rw [ht]; exact hP1, hD1⟩, hS.F ht⟩) hS.2.2 hdg B.notSynchronized
end ZB
