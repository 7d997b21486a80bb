/-! ===== rows of the simulated machine: belts and talkers as int arrays in any number ===== -/
abbrev Rw : Type := Nat × (Nat → Int32)
abbrev rd : Rw := (0, fun _ => 0)
def rws (cI : ClassId) (n : Nat) (R : List Rw) : va_W := R.map fun r => (r.1, .inl (cI, n, .inl r.2))
def sT (cI : ClassId) (RB RT : List Rw) : va_W := rws cI 2 RB ++ rws cI 5 RT
abbrev qe (f : Nat → Option Nat) : vp_A → vp_A := fun a => (a.1, .inr (.inr (.inr (.inr f))))
def qf (L : List Nat) : Nat → Option Nat := fun j => L[j]?
theorem rws_len {cI : ClassId} {n : Nat} {R : List Rw} : (rws cI n R).length = R.length := by simp [rws]
theorem rws_get {cI : ClassId} {n : Nat} {R : List Rw} {i : Nat} (hi : i < R.length) : (rws cI n R)[i]? = some ((R.getD i rd).1, .inl (cI, n, .inl (R.getD i rd).2)) := by
  simp [rws, List.getD_eq_getElem?_getD, hi]
theorem rws_app {cI : ClassId} {n : Nat} {R R' : List Rw} : rws cI n (R ++ R') = rws cI n R ++ rws cI n R' := by simp [rws]
theorem rws_set {cI : ClassId} {n : Nat} {R : List Rw} {i : Nat} {r : Rw} : rws cI n (R.set i r) = (rws cI n R).set i (r.1, .inl (cI, n, .inl r.2)) := by simp [rws]
theorem z_ixB {P Y : va_W} {cI : ClassId} {RB RT : List Rw} {i : Nat} (hi : i < RB.length) : (P ++ (sT cI RB RT ++ Y))[P.length + i]? = some ((RB.getD i rd).1, .inl (cI, 2, .inl (RB.getD i rd).2)) := by
  rw [List.getElem?_append_right (Nat.le_add_right _ _), Nat.add_sub_cancel_left, sT, List.append_assoc, List.getElem?_append_left (by rw [rws_len]; exact hi), rws_get hi]
theorem z_ixT {P Y : va_W} {cI : ClassId} {RB RT : List Rw} {i : Nat} (hi : i < RT.length) : (P ++ (sT cI RB RT ++ Y))[P.length + (RB.length + i)]? = some ((RT.getD i rd).1, .inl (cI, 5, .inl (RT.getD i rd).2)) := by
  rw [List.getElem?_append_right (Nat.le_add_right _ _), Nat.add_sub_cancel_left, sT, List.append_assoc, List.getElem?_append_right (by rw [rws_len]; omega), rws_len, Nat.add_sub_cancel_left, List.getElem?_append_left (by rw [rws_len]; exact hi), rws_get hi]
theorem z_setB {P Y : va_W} {cI : ClassId} {RB RT : List Rw} {i v : Nat} {f : Nat → Int32} (hi : i < RB.length) : (P ++ (sT cI RB RT ++ Y)).set (P.length + i) (v, .inl (cI, 2, .inl f)) = P ++ (sT cI (RB.set i (v, f)) RT ++ Y) := by
  rw [List.set_append_right _ _ (Nat.le_add_right _ _), Nat.add_sub_cancel_left, sT, sT, rws_set, List.append_assoc, List.append_assoc, List.set_append_left _ _ (by rw [rws_len]; exact hi)]
theorem z_setT {P Y : va_W} {cI : ClassId} {RB RT : List Rw} {i v : Nat} {f : Nat → Int32} (hi : i < RT.length) : (P ++ (sT cI RB RT ++ Y)).set (P.length + (RB.length + i)) (v, .inl (cI, 5, .inl f)) = P ++ (sT cI RB (RT.set i (v, f)) ++ Y) := by
  rw [List.set_append_right _ _ (Nat.le_add_right _ _), Nat.add_sub_cancel_left, sT, sT, rws_set, List.append_assoc, List.append_assoc, List.set_append_right _ _ (by rw [rws_len]; omega), rws_len, Nat.add_sub_cancel_left, List.set_append_left _ _ (by rw [rws_len]; exact hi)]
/-! moving cells between the literal part and the tails -/
theorem zp_absB {α : Type} {P Y T : List α} {c : α} {B : List α} : ((P ++ [c]) ++ ((B ++ T) ++ Y)).Perm (P ++ (((B ++ [c]) ++ T) ++ Y)) := by
  classical
  exact List.perm_iff_count.mpr (fun a => by simp only [List.count_append]; omega)
theorem zp_absT {α : Type} {P Y T : List α} {c : α} {B : List α} : ((P ++ [c]) ++ ((B ++ T) ++ Y)).Perm (P ++ ((B ++ (T ++ [c])) ++ Y)) := by
  classical
  exact List.perm_iff_count.mpr (fun a => by simp only [List.count_append]; omega)
theorem zp_absB2 {α : Type} {P X Y T : List α} {c : α} {B : List α} : ((P ++ [c]) ++ (X ++ ((B ++ T) ++ Y))).Perm (P ++ (X ++ (((B ++ [c]) ++ T) ++ Y))) := by
  classical
  exact List.perm_iff_count.mpr (fun a => by simp only [List.count_append]; omega)
theorem zp_absT2 {α : Type} {P X Y T : List α} {c : α} {B : List α} : ((P ++ [c]) ++ (X ++ ((B ++ T) ++ Y))).Perm (P ++ (X ++ ((B ++ (T ++ [c])) ++ Y))) := by
  classical
  exact List.perm_iff_count.mpr (fun a => by simp only [List.count_append]; omega)
theorem zp_swap {α : Type} {P X Y Z : List α} : (P ++ (X ++ (Y ++ Z))).Perm (P ++ (Y ++ (X ++ Z))) := by
  classical
  exact List.perm_iff_count.mpr (fun a => by simp only [List.count_append]; omega)
theorem z_absB {P Y : va_W} {cI : ClassId} {RB RT : List Rw} {v : Nat} {f : Nat → Int32} : zS ((P ++ [(v, .inl (cI, 2, .inl f))]) ++ (sT cI RB RT ++ Y)) (P ++ (sT cI (RB ++ [(v, f)]) RT ++ Y)) := by
  rw [sT, sT, rws_app]
  exact zS.perm zp_absB
theorem z_absT {P Y : va_W} {cI : ClassId} {RB RT : List Rw} {v : Nat} {f : Nat → Int32} : zS ((P ++ [(v, .inl (cI, 5, .inl f))]) ++ (sT cI RB RT ++ Y)) (P ++ (sT cI RB (RT ++ [(v, f)]) ++ Y)) := by
  rw [sT, sT, rws_app]
  exact zS.perm zp_absT
theorem z_absB2 {P X Y : va_W} {cI : ClassId} {RB RT : List Rw} {v : Nat} {f : Nat → Int32} : zS ((P ++ [(v, .inl (cI, 2, .inl f))]) ++ (X ++ (sT cI RB RT ++ Y))) (P ++ (X ++ (sT cI (RB ++ [(v, f)]) RT ++ Y))) := by
  rw [sT, sT, rws_app]
  exact zS.perm zp_absB2
theorem z_absT2 {P X Y : va_W} {cI : ClassId} {RB RT : List Rw} {v : Nat} {f : Nat → Int32} : zS ((P ++ [(v, .inl (cI, 5, .inl f))]) ++ (X ++ (sT cI RB RT ++ Y))) (P ++ (X ++ (sT cI RB (RT ++ [(v, f)]) ++ Y))) := by
  rw [sT, sT, rws_app]
  exact zS.perm zp_absT2
/-- some of the rows only, in another order -/
def rS (R R' : List Rw) : Prop := ∃ l : List Rw, R'.Perm l ∧ l.Sublist R
theorem rS.rf {R : List Rw} : rS R R := ⟨R, List.Perm.refl _, List.Sublist.refl _⟩
theorem rS.ws {R R' : List Rw} {cI : ClassId} {n : Nat} (h : rS R R') : zS (rws cI n R) (rws cI n R') := by
  obtain ⟨l, h1, h2⟩ := h
  exact ⟨rws cI n l, h1.map _, h2.map _⟩
theorem z_sel {P Y : va_W} {cI : ClassId} {RB RT RB' RT' : List Rw} (h1 : rS RB RB') (h2 : rS RT RT') : zS (P ++ (sT cI RB RT ++ Y)) (P ++ (sT cI RB' RT' ++ Y)) := by
  rw [sT, sT]
  exact zS.rf.app ((h1.ws.app h2.ws).app zS.rf)
theorem z_drop {P X Y : va_W} : zS (P ++ (X ++ Y)) (P ++ (X ++ [])) := by
  rw [List.append_nil]
  exact zS.rf.app (zS.sl (List.sublist_append_left _ _))
theorem z_swap {P X Y Z : va_W} : zS (P ++ (X ++ (Y ++ Z))) (P ++ (Y ++ (X ++ Z))) := zS.perm zp_swap
theorem z_mid {P Z C : va_W} : zS ((P ++ Z) ++ C) ((P ++ C) ++ Z) := zS.perm zp_mid
theorem z_nil {P Z : va_W} : zS (P ++ (Z ++ [])) (P ++ Z) := by
  rw [List.append_nil]; exact zS.rf
theorem z_nil2 {P X Z : va_W} : zS (P ++ ((X ++ []) ++ Z)) (P ++ (X ++ Z)) := by
  rw [List.append_nil]; exact zS.rf
/-- an address in the rows is an int array's -/
def zI (D : va_G) (cI : ClassId) (a : Nat) (H : Heap) : Prop := ∃ (n : Nat) (f : Nat → Int32), va_at D vwCl (a, .inl (cI, n, .inl f)) H
theorem zI.of {D : va_G} {cI : ClassId} {ws : va_W} {H : Heap} {a n : Nat} {f : Nat → Int32} (hP : va_P D vwCl ws H) (h : (a, Sum.inl (cI, n, Sum.inl f)) ∈ ws) : zI D cI a H := ⟨n, f, z_Pmem.mp hP _ h⟩
/-- all of these addresses are int arrays' in this world -/
def zL (cI : ClassId) (L : List Nat) (X : va_W) : Prop := ∀ a ∈ L, ∃ (n : Nat) (f : Nat → Int32), (a, Sum.inl (cI, n, Sum.inl f)) ∈ X
theorem zL_rws {cI : ClassId} {n : Nat} {R : List Rw} : zL cI (R.map (·.1)) (rws cI n R) := fun a ha => by
  obtain ⟨r, hr, rfl⟩ := List.mem_map.mp ha
  exact ⟨n, r.2, List.mem_map.mpr ⟨r, hr, rfl⟩⟩
theorem zL.left {cI : ClassId} {L : List Nat} {X Y : va_W} (h : zL cI L X) : zL cI L (X ++ Y) := fun a ha => by
  obtain ⟨n, f, h1⟩ := h a ha
  exact ⟨n, f, List.mem_append_left _ h1⟩
theorem zL.right {cI : ClassId} {L : List Nat} {X Y : va_W} (h : zL cI L Y) : zL cI L (X ++ Y) := fun a ha => by
  obtain ⟨n, f, h1⟩ := h a ha
  exact ⟨n, f, List.mem_append_right _ h1⟩
theorem zL_B {cI : ClassId} {RB RT : List Rw} {Y : va_W} : zL cI (RB.map (·.1)) (sT cI RB RT ++ Y) := (zL_rws.left).left
theorem zL_T {cI : ClassId} {RB RT : List Rw} {Y : va_W} : zL cI (RT.map (·.1)) (sT cI RB RT ++ Y) := (zL_rws.right).left
theorem zL.sub {cI : ClassId} {L L' : List Nat} {X : va_W} (h : zL cI L X) (hs : ∀ a ∈ L', a ∈ L) : zL cI L' X := fun a ha => h a (hs a ha)
theorem z_nmI : (FieldType.array .int).toString = "[I" := by first | rfl | decide +kernel
theorem z_nmA : "[" ++ FieldType.int.toString = (FieldType.array .int).toString := by first | rfl | decide +kernel
theorem qf_up {L : List Nat} {k : Nat} (hk : k < L.length) : va_up (qf (L.take k)) k (some (L.getD k 0)) = qf (L.take (k + 1)) := by
  funext j
  by_cases e : j = k
  · subst e
    rw [va_up_self]
    simp [qf, List.getElem?_take, List.getD_eq_getElem?_getD, hk]
  · rw [va_up_ne _ _ e]
    simp only [qf, List.getElem?_take]
    by_cases h : j < k
    · rw [if_pos h, if_pos (by omega)]
    · rw [if_neg h, if_neg (by omega)]
theorem qf_app {L : List Nat} {v : Nat} : va_up (qf L) L.length (some v) = qf (L ++ [v]) := by
  funext j
  by_cases e : j = L.length
  · subst e
    rw [va_up_self]
    simp [qf]
  · rw [va_up_ne _ _ e]
    simp only [qf]
    by_cases h : j < L.length
    · rw [List.getElem?_append_left h]
    · rw [List.getElem?_eq_none (by omega), List.getElem?_eq_none (by simp; omega)]
theorem qf_nil : qf [] = fun _ => none := by funext j; simp [qf]
theorem qf_get {L : List Nat} {j : Nat} (hj : j < L.length) : qf L j = some (L.getD j 0) := by
  simp [qf, List.getD_eq_getElem?_getD, hj]
section ZR
variable {p : Program} {l : Launch} {e : Env} {R : Room} {s : State} {m : MethodId} {args : Array Value} {below : List Frame} {meth : Method} {c : Code} {H : Heap} {locs : List Loc} {cells slots : Nat} {Q : State → Prop}
variable {cc : ByteArray} {pc : Nat} {ls : Array Slot} {rest : List Value} {D : va_G} {P Y Z ws : va_W} {tys : List (ClassId × FieldType)} {A : Nat → Prop} {H0 : Heap} {a : Nat} {cI cQ : ClassId} {RB RT : List Rw}
/-- a read of a belt's row -/
theorem z_bld (hx : p.tables.exec = Jvm.exec) (hb : c.code = cc) (hK : va_K D vwCl tys s) (hP : va_P D vwCl (P ++ (sT cI RB RT ++ Y)) H) (t0 : Nat) (ht : tys[t0]? = some (cI, .int)) (i : Nat) (hi : i < RB.length) (ea : a = (RB.getD i rd).1) (j : Nat) {x : Int32} (ex : x = nI j) (hj : j < 2) (v : Int32) (hv : (RB.getD i rd).2 j = v) (hdg : decode cc pc = .ok (.iaload, 1))
    (kk : W p l e R s m args below meth c H locs cells slots Q (F0 m (pc + 1) ls (.int v :: rest))) : W p l e R s m args below meth c H locs cells slots Q (F0 m pc ls (.int x :: .ref a :: rest)) := by
  subst ea hv
  exact k_iald hx hb hK hP (P.length + i) t0 (z_ixB hi) ht j ex hj (by decide) hdg kk
theorem z_tld (hx : p.tables.exec = Jvm.exec) (hb : c.code = cc) (hK : va_K D vwCl tys s) (hP : va_P D vwCl (P ++ (sT cI RB RT ++ Y)) H) (t0 : Nat) (ht : tys[t0]? = some (cI, .int)) (i : Nat) (hi : i < RT.length) (ea : a = (RT.getD i rd).1) (j : Nat) {x : Int32} (ex : x = nI j) (hj : j < 5) (v : Int32) (hv : (RT.getD i rd).2 j = v) (hdg : decode cc pc = .ok (.iaload, 1))
    (kk : W p l e R s m args below meth c H locs cells slots Q (F0 m (pc + 1) ls (.int v :: rest))) : W p l e R s m args below meth c H locs cells slots Q (F0 m pc ls (.int x :: .ref a :: rest)) := by
  subst ea hv
  exact k_iald hx hb hK hP (P.length + (RB.length + i)) t0 (z_ixT hi) ht j ex hj (by decide) hdg kk
/-- a write of a belt's row -/
theorem z_bst (hx : p.tables.exec = Jvm.exec) (hb : c.code = cc) (hK : va_K D vwCl tys s) (hP : va_P D vwCl (P ++ (sT cI RB RT ++ Y)) H) (hD : va_D A (P ++ (sT cI RB RT ++ Y))) (hS : va_S A H0 H locs) (t0 : Nat) (ht : tys[t0]? = some (cI, .int)) (i : Nat) (hi : i < RB.length) (ea : a = (RB.getD i rd).1) (j : Nat) {x z : Int32} (ex : x = nI j) (hj : j < 2) (hdg : decode cc pc = .ok (.iastore, 1))
    (kk : ∀ (H1 : Heap) (locs1 : List Loc), va_P D vwCl (P ++ (sT cI (RB.set i ((RB.getD i rd).1, upd (RB.getD i rd).2 j z)) RT ++ Y)) H1 → va_D A (P ++ (sT cI (RB.set i ((RB.getD i rd).1, upd (RB.getD i rd).2 j z)) RT ++ Y)) → va_S A H0 H1 locs1 → W p l e R s m args below meth c H1 locs1 cells slots Q (F0 m (pc + 1) ls rest)) : W p l e R s m args below meth c H locs cells slots Q (F0 m pc ls (.int z :: .int x :: .ref a :: rest)) := by
  subst ea
  refine k_iast hx hb hK hP hD hS (P.length + i) t0 (z_ixB hi) ht j ex hj (by decide) hdg (fun H1 l1 h1 h2 h3 => ?_)
  rw [z_setB hi] at h1 h2
  exact kk H1 l1 h1 h2 h3
theorem z_tst (hx : p.tables.exec = Jvm.exec) (hb : c.code = cc) (hK : va_K D vwCl tys s) (hP : va_P D vwCl (P ++ (sT cI RB RT ++ Y)) H) (hD : va_D A (P ++ (sT cI RB RT ++ Y))) (hS : va_S A H0 H locs) (t0 : Nat) (ht : tys[t0]? = some (cI, .int)) (i : Nat) (hi : i < RT.length) (ea : a = (RT.getD i rd).1) (j : Nat) {x z : Int32} (ex : x = nI j) (hj : j < 5) (hdg : decode cc pc = .ok (.iastore, 1))
    (kk : ∀ (H1 : Heap) (locs1 : List Loc), va_P D vwCl (P ++ (sT cI RB (RT.set i ((RT.getD i rd).1, upd (RT.getD i rd).2 j z)) ++ Y)) H1 → va_D A (P ++ (sT cI RB (RT.set i ((RT.getD i rd).1, upd (RT.getD i rd).2 j z)) ++ Y)) → va_S A H0 H1 locs1 → W p l e R s m args below meth c H1 locs1 cells slots Q (F0 m (pc + 1) ls rest)) : W p l e R s m args below meth c H locs cells slots Q (F0 m pc ls (.int z :: .int x :: .ref a :: rest)) := by
  subst ea
  refine k_iast hx hb hK hP hD hS (P.length + (RB.length + i)) t0 (z_ixT hi) ht j ex hj (by decide) hdg (fun H1 l1 h1 h2 h3 => ?_)
  rw [z_setT hi] at h1 h2
  exact kk H1 l1 h1 h2 h3
/-- a read of an array of arrays -/
theorem z_qld (hx : p.tables.exec = Jvm.exec) (hb : c.code = cc) (hK : va_K D vwCl tys s) (hP : va_P D vwCl ws H) (q0 t0 : Nat) {n : Nat} {f : Nat → Option Nat} (ha : ws[q0]? = some (a, .inl (cQ, n, .inr (.inr (.inr (.inr f)))))) (ht : tys[t0]? = some (cQ, .array .int)) {x : Int32} (i : Nat) (ex : x = nI i) (hi : i < n) (hn : n < 2 ^ 31) (v : Nat) (hv : f i = some v) (hdg : decode cc pc = .ok (.aaload, 1))
    (kk : W p l e R s m args below meth c H locs cells slots Q (F0 m (pc + 1) ls (.ref v :: rest))) : W p l e R s m args below meth c H locs cells slots Q (F0 m pc ls (.int x :: .ref a :: rest)) := by
  subst ex
  have hc : (nI i).toNatClampNeg = i := nI_clamp (by omega)
  have hin : vp_in (nI i) n := vp_in_nI hi hn
  refine W.aald (v := .ref v) (ty := .array .int) hx hb (hP q0 _ ha) ((hK.2 t0 _ ht).1 n (fun j => va_rf (f j))) rfl (fun q => by cases q) (by show ¬ (nI i < 0 ∨ (arrV _ _ _).slots.size ≤ _); rw [arrV_size]; exact hin) ?_ rfl rfl hdg kk
  show (arrV _ _ _).slots[_]? = _
  rw [hc, arrV_read _ _ hi, hv]
  rfl
/-- a write of an int array's address into an array of arrays -/
theorem z_qst (hx : p.tables.exec = Jvm.exec) (hb : c.code = cc) (hO : kAO s) (hK : va_K D vwCl tys s) (hP : va_P D vwCl ws H) (hD : va_D A ws) (hS : va_S A H0 H locs) (q0 t0 tI : Nat) {n v : Nat} {f : Nat → Option Nat} (ha : ws[q0]? = some (a, .inl (cQ, n, .inr (.inr (.inr (.inr f)))))) (ht : tys[t0]? = some (cQ, .array .int)) (hI : tys[tI]? = some (cI, .int)) (hv : zI D cI v H) {x : Int32} (i : Nat) (ex : x = nI i) (hi : i < n) (hn : n < 2 ^ 31) (hdg : decode cc pc = .ok (.aastore, 1))
    (kk : ∀ (H1 : Heap) (locs1 : List Loc), va_P D vwCl (ws.set q0 (a, .inl (cQ, n, .inr (.inr (.inr (.inr (va_up f i (some v)))))))) H1 → va_D A (ws.set q0 (a, .inl (cQ, n, .inr (.inr (.inr (.inr (va_up f i (some v)))))))) → va_S A H0 H1 locs1 → W p l e R s m args below meth c H1 locs1 cells slots Q (F0 m (pc + 1) ls rest)) : W p l e R s m args below meth c H locs cells slots Q (F0 m pc ls (.ref v :: .int x :: .ref a :: rest)) := by
  subst ex
  have hc : (nI i).toNatClampNeg = i := nI_clamp (by omega)
  have hin : vp_in (nI i) n := vp_in_nI hi hn
  have h0 : ¬ nI i < 0 := fun q => hin (Or.inl q)
  obtain ⟨nv, fv, hcell⟩ := hv
  have hcell : H[v]? = some (arrV cI nv (fun j => .int (fv j))) := hcell
  obtain ⟨comp, cA, kA, m1, m2, m3, m4, m5⟩ := arrayOverA_spec hO
  have n1 : s.vm.findClass ("[" ++ (FieldType.array .int).toString) = some cQ := (hK.2 t0 _ ht).2
  have n2 : s.vm.findClass ("[" ++ FieldType.int.toString) = some cI := (hK.2 tI _ hI).2
  rw [z_nmA] at n2
  cases m5.symm.trans n1
  cases m1.symm.trans n2
  obtain ⟨-, kI, hkI, -, -⟩ := (hK.2 tI _ hI).1 0 (fun _ => .null)
  refine W.aast hx hb (hP q0 _ ha) (fun q h => by cases h) (fun h => by cases h) m3 m4 rfl hkI ⟨h0, by show _ < (arrV _ _ _).slots.size; rw [arrV_size, hc]; exact hi⟩ hcell (fun q h => by cases h) hkI (va_asg _ _) rfl rfl hdg fun H1 e z oq => ?_
  refine kk H1 _ (hP.set hD ha ?_ oq) (hD.set ha) (hS.put z oq (hD.2 q0 _ ha))
  show H1[a]? = some (vp_cell _ _)
  rw [e]
  rw [vp_cell_q, vp_cell_q, arrV_store, hc]
  congr 2
  funext q
  by_cases hq : q = i
  · subst hq
    simp [updV, va_up, va_rf]
  · simp [updV, va_up, hq]
/-- a new array of arrays -/
theorem z_qnew (hx : p.tables.exec = Jvm.exec) (hb : c.code = cc) {own : String} {index : Nat} (hown : s.vm.findClass own = some m.cls) (hcl : (Cond.classLink own index "[I").before args s = true) (hO : kAO s) (hK : va_K D vwCl tys s) (t0 : Nat) (ht : tys[t0]? = some (cQ, .array .int)) (hP : va_P D vwCl (P ++ Z) H) (hD : va_D A (P ++ Z)) (hS : va_S A H0 H locs) (hA : ∀ q, H0.size ≤ q → A q)
    {x : Int32} (n : Nat) (ex : x = nI n) (hn : n < 1000) (hcells : cells + 1 ≤ R.cells) (hslots : slots + n ≤ R.slots) (hdg : decode cc pc = .ok (.anewarray index, 3))
    (kk : ∀ (q : Nat) (H1 : Heap), va_P D vwCl ((P ++ [(q, .inl (cQ, n, .inr (.inr (.inr (.inr (fun _ => none))))))]) ++ Z) H1 → va_D A ((P ++ [(q, .inl (cQ, n, .inr (.inr (.inr (.inr (fun _ => none))))))]) ++ Z) → va_S A H0 H1 locs →
      W p l e R s m args below meth c H1 locs (cells + 1) (slots + n) Q (F0 m (pc + 3) ls (.ref q :: rest))) : W p l e R s m args below meth c H locs cells slots Q (F0 m pc ls (.int x :: rest)) := by
  subst ex
  have hc : (nI n).toNatClampNeg = n := nI_clamp (by omega)
  have hn0 : ¬ nI n < 0 := nI_pos (by omega)
  have n1 : s.vm.findClass ("[" ++ (FieldType.array .int).toString) = some cQ := (hK.2 t0 _ ht).2
  rw [← z_nmI] at hcl
  refine W.anewA (t := .int) hx hb hown hcl hO rfl hdg rfl hn0 (by rw [hc]; omega) hcells (by rw [hc]; exact hslots) fun cA kA comp f1 f2 f3 f4 => ?_
  cases f1.symm.trans n1
  rw [hc]
  generalize hH1 : H.push ({ cls := cQ, slots := Array.replicate n .null, vm := .none } : Cell) = H1
  have z1 : H1.size = H.size + 1 := by rw [← hH1, Array.size_push]
  have e1 : H1[H.size]? = some (arrV cQ n (fun _ => .null)) := by rw [← hH1, Array.getElem?_push_size, ← arrV_new]
  have o1 : ∀ q : Nat, q < H.size → H1[q]? = H[q]? := fun q hq => by rw [← hH1, Array.getElem?_push, if_neg (Nat.ne_of_lt hq)]
  have hk : ∀ (k : Nat) (x : Nat × va_E), (P ++ Z)[k]? = some x → H1[x.1]? = H[x.1]? := fun k x hx => o1 x.1 ((hP k x hx).lt)
  refine kk H.size H1 (z_PS z_mid ((hP.kept hk).app (fun k x hx => ?_))) (z_DS z_mid (hD.push hP rfl (hA _ hS.1))) ⟨Nat.le_trans hS.1 (by omega), fun x h1 h2 => (o1 x (Nat.lt_of_lt_of_le h1 hS.1)).trans (hS.2.1 x h1 h2), hS.2.2⟩
  have hz : k < 1 := (List.getElem?_eq_some_iff.mp hx).1
  rw [show k = 0 by omega] at hx
  cases hx
  show H1[H.size]? = some (vp_cell _ _)
  rw [vp_cell_q]
  exact e1
/-- a clone of an int array -/
theorem z_clone (hx : p.tables.exec = Jvm.exec) (hb : c.code = cc) (hml : c.maxLocals = ls.size) {own : String} {index : Nat} (hown : s.vm.findClass own = some m.cls)
    (hlink : (Cond.methodLink own index ⟨"[I", "clone", "()Ljava/lang/Object;"⟩).before args s = true) (hsame : (Cond.sameMethod "[I" "java/lang/Object" "clone" "()Ljava/lang/Object;").before args s = true)
    (hnat : (Cond.native ⟨"java/lang/Object", "clone", "()Ljava/lang/Object;"⟩).before args s = true) (hinst : (Cond.instanceMethod ⟨"java/lang/Object", "clone", "()Ljava/lang/Object;"⟩).before args s = true)
    (hsel : (Cond.selects "[I" ⟨"[I", "clone", "()Ljava/lang/Object;"⟩ ⟨"java/lang/Object", "clone", "()Ljava/lang/Object;"⟩).before args s = true) (hcl : va_Nw (.castable "[I" "java/lang/Cloneable") s)
    (hK : va_K D vwCl tys s) (hP : va_P D vwCl (P ++ Z) H) (hD : va_D A (P ++ Z)) (hS : va_S A H0 H locs) (hA : ∀ q, H0.size ≤ q → A q) (q0 tI : Nat) {n : Nat} {f : Nat → Int32} (ha : (P ++ Z)[q0]? = some (a, .inl (cI, n, .inl f))) (hI : tys[tI]? = some (cI, .int))
    (hframes : 1 ≤ R.frames) (hlocals : (rest.map fun v => v.category).sum + 14 ≤ R.locals) (hcells : cells + 1 ≤ R.cells) (hslots : slots + n ≤ R.slots) (hdg : decode cc pc = .ok (.invokevirtual index, 3))
    (kk : ∀ (q : Nat) (H1 : Heap), va_P D vwCl ((P ++ [(q, .inl (cI, n, .inl f))]) ++ Z) H1 → va_D A ((P ++ [(q, .inl (cI, n, .inl f))]) ++ Z) → va_S A H0 H1 locs →
      W p l e R s m args below meth c H1 locs (cells + 1) (slots + n) Q (F0 m (pc + 3) ls (.ref q :: rest))) : W p l e R s m args below meth c H locs cells slots Q (F0 m pc ls (.ref a :: rest)) := by
  have n2 : s.vm.findClass ("[" ++ FieldType.int.toString) = some cI := (hK.2 tI _ hI).2
  rw [z_nmA, z_nmI] at n2
  exact va_clone hx hb hml hown hlink hsame hnat hinst hsel hcl hK hP hD hS hA q0 tI ha hI n2 (fun i v hv => va_fit (ty := .int) (fun i _ => rfl) i v hv) hframes hlocals hcells hslots hdg (fun q H1 _ h1 h2 h3 => kk q H1 (z_PS z_mid h1) (z_DS z_mid h2) h3)
theorem z_castI (hx : p.tables.exec = Jvm.exec) (hb : c.code = cc) {own : String} {index : Nat} (hown : s.vm.findClass own = some m.cls) (hlink : (Cond.classLink own index "[I").before args s = true) (hK : va_K D vwCl tys s) (hP : va_P D vwCl ws H) (q0 tI : Nat) {x : vp_A} (ha : ws[q0]? = some (a, .inl (cI, x))) (hI : tys[tI]? = some (cI, .int)) (hdg : decode cc pc = .ok (.checkcast index, 3))
    (k : W p l e R s m args below meth c H locs cells slots Q (F0 m (pc + 3) ls (.ref a :: rest))) : W p l e R s m args below meth c H locs cells slots Q (F0 m pc ls (.ref a :: rest)) := by
  have n2 : s.vm.findClass ("[" ++ FieldType.int.toString) = some cI := (hK.2 tI _ hI).2
  rw [z_nmA, z_nmI] at n2
  exact va_castA hx hb hown hlink hP q0 ha n2 hdg k
/-- the kit's makings, the new cell in the literal part -/
theorem z_newa (hx : p.tables.exec = Jvm.exec) (hb : c.code = cc) (harr : (Cond.arrayClass .int).before args s = true) (hK : va_K D vwCl tys s) (tI : Nat) (hI : tys[tI]? = some (cI, .int)) (hP : va_P D vwCl (P ++ Z) H) (hD : va_D A (P ++ Z)) (hS : va_S A H0 H locs) (hA : ∀ q, H0.size ≤ q → A q)
    {x : Int32} (n : Nat) (ex : x = nI n) (hn : n < 1000) (hcells : cells + 1 ≤ R.cells) (hslots : slots + n ≤ R.slots) (hdg : decode cc pc = .ok (.newarray .int, 2))
    (kk : ∀ (q : Nat) (H1 : Heap), va_P D vwCl ((P ++ [(q, .inl (cI, n, .inl (fun _ => 0)))]) ++ Z) H1 → va_D A ((P ++ [(q, .inl (cI, n, .inl (fun _ => 0)))]) ++ Z) → va_S A H0 H1 locs →
      W p l e R s m args below meth c H1 locs (cells + 1) (slots + n) Q (F0 m (pc + 2) ls (.ref q :: rest))) : W p l e R s m args below meth c H locs cells slots Q (F0 m pc ls (.int x :: rest)) := by
  subst ex
  have hc : (nI n).toNatClampNeg = n := nI_clamp (by omega)
  have hb4 : n * componentBytes FieldType.int ≤ 536870912 := by
    show n * 4 ≤ 536870912
    omega
  refine va_newa (atype := .int) (ty := .int) (a0 := (n, .inl (fun _ => 0))) (N' := n) hx hb harr rfl hK hP hD hS hA (fun _ => rfl) (nI_pos (by omega)) hc hb4 hcells hslots hdg (fun q cA H1 hK2 h1 h2 h3 => ?_)
  have e : cA = cI := by
    have n2 : s.vm.findClass ("[" ++ FieldType.int.toString) = some cI := (hK.2 tI _ hI).2
    have n3 : s.vm.findClass ("[" ++ FieldType.int.toString) = some cA := (hK2.2 tys.length (cA, .int) (by simp)).2
    exact Option.some.inj (n3.symm.trans n2)
  subst e
  exact kk q H1 (z_PS z_mid h1) (z_DS z_mid h2) h3
theorem z_newz (hx : p.tables.exec = Jvm.exec) (hb : c.code = cc) {cZ : ClassId} (harr : (Cond.arrayClass .boolean).before args s = true) (hK : va_K D vwCl tys s) (tI : Nat) (hI : tys[tI]? = some (cZ, .boolean)) (hP : va_P D vwCl (P ++ Z) H) (hD : va_D A (P ++ Z)) (hS : va_S A H0 H locs) (hA : ∀ q, H0.size ≤ q → A q)
    {x : Int32} (n : Nat) (ex : x = nI n) (hn : n < 1000) (hcells : cells + 1 ≤ R.cells) (hslots : slots + n ≤ R.slots) (hdg : decode cc pc = .ok (.newarray .boolean, 2))
    (kk : ∀ (q : Nat) (H1 : Heap), va_P D vwCl ((P ++ [(q, .inl (cZ, n, .inl (fun _ => 0)))]) ++ Z) H1 → va_D A ((P ++ [(q, .inl (cZ, n, .inl (fun _ => 0)))]) ++ Z) → va_S A H0 H1 locs →
      W p l e R s m args below meth c H1 locs (cells + 1) (slots + n) Q (F0 m (pc + 2) ls (.ref q :: rest))) : W p l e R s m args below meth c H locs cells slots Q (F0 m pc ls (.int x :: rest)) := by
  subst ex
  have hc : (nI n).toNatClampNeg = n := nI_clamp (by omega)
  have hb4 : n * componentBytes FieldType.boolean ≤ 536870912 := by
    show n * 1 ≤ 536870912
    omega
  refine va_newa (atype := .boolean) (ty := .boolean) (a0 := (n, .inl (fun _ => 0))) (N' := n) hx hb harr rfl hK hP hD hS hA (fun _ => rfl) (nI_pos (by omega)) hc hb4 hcells hslots hdg (fun q cA H1 hK2 h1 h2 h3 => ?_)
  have e : cA = cZ := by
    have n2 : s.vm.findClass ("[" ++ FieldType.boolean.toString) = some cZ := (hK.2 tI _ hI).2
    have n3 : s.vm.findClass ("[" ++ FieldType.boolean.toString) = some cA := (hK2.2 tys.length (cA, .boolean) (by simp)).2
    exact Option.some.inj (n3.symm.trans n2)
  subst e
  exact kk q H1 (z_PS z_mid h1) (z_DS z_mid h2) h3
end ZR
