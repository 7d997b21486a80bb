/-! ===== the law's own rows ===== -/
section LZ
variable {p : Program} {l : Launch} {e : Env} {R : Room} {s : State} {m : MethodId} {args : Array Value} {below : List Frame} {meth : Method} {c : Code} {H : Heap} {locs : List Loc} {cells slots : Nat} {Q : State → Prop}
variable {cc : ByteArray} {pc : Nat} {ls : Array Slot} {rest : List Value} {D : va_G} {ws : va_W} {tys : List (ClassId × FieldType)} {A : Nat → Prop} {H0 : Heap} {a : Nat}
theorem k_zald (hx : p.tables.exec = Jvm.exec) (hb : c.code = cc) (hK : va_K D vwCl tys s) (hP : va_P D vwCl ws H) (q0 t0 : Nat) {cA : ClassId} {n : Nat} {f : Nat → Int32} (ha : ws[q0]? = some (a, .inl (cA, n, .inl f))) (ht : tys[t0]? = some (cA, .boolean)) {x : Int32} (i : Nat) (ex : x = nI i) (hi : i < n) (hn : n < 2 ^ 31) (hdg : decode cc pc = .ok (.baload, 1))
    (kk : W p l e R s m args below meth c H locs cells slots Q (F0 m (pc + 1) ls (.int (f i) :: rest))) : W p l e R s m args below meth c H locs cells slots Q (F0 m pc ls (.int x :: .ref a :: rest)) := by
  subst ex
  have hc : (nI i).toNatClampNeg = i := nI_clamp (by omega)
  refine va_zald hx hb hK hP q0 t0 ha ht (vp_in_nI hi hn) hdg ?_
  rw [hc]; exact kk
theorem k_zast (hx : p.tables.exec = Jvm.exec) (hb : c.code = cc) (hK : va_K D vwCl tys s) (hP : va_P D vwCl ws H) (hD : va_D A ws) (hS : va_S A H0 H locs) (q0 t0 : Nat) {cA : ClassId} {n : Nat} {f : Nat → Int32} (ha : ws[q0]? = some (a, .inl (cA, n, .inl f))) (ht : tys[t0]? = some (cA, .boolean)) {x z : Int32} (i : Nat) (ex : x = nI i) (hi : i < n) (hn : n < 2 ^ 31) (hz : vp_nar .boolean z = z) (hdg : decode cc pc = .ok (.bastore, 1))
    (kk : ∀ (H1 : Heap) (locs1 : List Loc), va_P D vwCl (ws.set q0 (a, .inl (cA, n, .inl (upd f i z)))) H1 → va_D A (ws.set q0 (a, .inl (cA, n, .inl (upd f i z)))) → va_S A H0 H1 locs1 → W p l e R s m args below meth c H1 locs1 cells slots Q (F0 m (pc + 1) ls rest)) : W p l e R s m args below meth c H locs cells slots Q (F0 m pc ls (.int z :: .int x :: .ref a :: rest)) := by
  subst ex
  have hc : (nI i).toNatClampNeg = i := nI_clamp (by omega)
  refine va_zast hx hb hK hP hD hS q0 t0 ha ht (vp_in_nI hi hn) hdg ?_
  rw [hc, hz]; exact kk
end LZ
theorem upd_all {f F : Nat → Int32} {i : Nat} {v : Int32} (h : ∀ j, j < i → f j = F j) (e : v = F i) : ∀ j, j < i + 1 → upd f i v j = F j := by
  intro j hj
  by_cases e2 : j = i
  · subst e2; rw [pk_us, e]
  · rw [pk_un e2]; exact h j (by omega)
theorem upd_allP {f : Nat → Int32} {F : Nat → Int32 → Prop} {i : Nat} {v : Int32} (h : ∀ j, j < i → F j (f j)) (e : F i v) : ∀ j, j < i + 1 → F j (upd f i v j) := by
  intro j hj
  by_cases e2 : j = i
  · subst e2; rw [pk_us]; exact e
  · rw [pk_un e2]; exact h j (by omega)
def szR (L : List Tp) (n : Nat) (fs : Nat → Int32) : Prop := ∀ j, j < n → fs j = nI (L.getD j tp0).2
def ptR (T : List Tk) (n : Nat) (fp : Nat → Int32) : Prop := ∀ j, j < n → fp j = nI (tkP (T.getD j tk0))
def zzR (T : List Tk) (n : Nat) (fz : Nat → Int32) : Prop := ∀ j, j < n → fz j = if tkX (T.getD j tk0) = -1 then 1 else 0
def uuR (q : St) (n : Nat) (fu : Nat → Int32) : Prop := ∀ j, j < n → fstR (fun k => ¬ tkX ((stT (itS q k)).getD j tk0) = -1) (fu j)
theorem lw_gone {q : St} {i : Nat} (hi : i < (stT q).length) (hx : tkX ((stT q).getD i tk0) = -1) (h0 : hrP (ns (mB2 q)) (tkP ((stT q).getD i tk0)) = 0) : tkX ((stT (itS q 1)).getD i tk0) = nI (stI q) := by
  rw [show itS q 1 = mnt q from rfl, mT_gd hi, hrF, if_pos hx]
  show (if hrP _ _ = 0 then nI (stI q) else -1) = _
  rw [if_pos h0]
theorem lw_stay {q : St} {i : Nat} (hi : i < (stT q).length) (hx : tkX ((stT q).getD i tk0) = -1) (h0 : 0 < hrP (ns (mB2 q)) (tkP ((stT q).getD i tk0))) : tkX ((stT (itS q 1)).getD i tk0) = -1 := by
  rw [show itS q 1 = mnt q from rfl, mT_gd hi, hrF, if_pos hx]
  show (if hrP _ _ = 0 then nI (stI q) else -1) = _
  rw [if_neg (by omega)]
theorem lw_pat {q : St} {i : Nat} (hi : i < (stT q).length) (hx : tkX ((stT q).getD i tk0) = -1) : tkP ((stT (itS q 1)).getD i tk0) = hrP (ns (mB2 q)) (tkP ((stT q).getD i tk0)) := by
  rw [show itS q 1 = mnt q from rfl, mT_gd hi, hrF, if_pos hx]
theorem lw_off {q : St} {i : Nat} (hi : i < (stT q).length) (hx : ¬ tkX ((stT q).getD i tk0) = -1) : (stT (itS q 1)).getD i tk0 = (stT q).getD i tk0 := by
  rw [show itS q 1 = mnt q from rfl, mT_gd hi, hrF, if_neg hx]
theorem lw_sk (q : St) : (mB2 q).length ≤ (stB (itS q 1)).length ∧ (stB (itS q 1)).length ≤ (mB2 q).length + (stT q).length := by
  have h := sk_ge (T := mT q) (mi := stI q) (L := mB2 q) (mT q).length
  have e : (mT q).length = (stT q).length := hrT_len _ _ _
  have e2 : stB (itS q 1) = skN (mT q) (stI q) (mB2 q) (mT q).length := rfl
  rw [e2]
  omega
theorem lw_pre {q : St} {i : Nat} (hi : i < (mB2 q).length) : ((stB (itS q 1)).getD i tp0).2 = ((mB2 q).getD i tp0).2 := by
  rw [show stB (itS q 1) = skN (mT q) (stI q) (mB2 q) (mT q).length from rfl, sk_pre hi]
theorem lw_all {q : St} (h : okQ q) : spA (stT q) (stT q).length = spT (stT q) := by
  refine spA_sp (fun i hi hx => ?_) _ (Nat.le_refl _)
  rcases (h.2.2.1 _ (gd_mem (d := tk0) hi)).2.2 with ⟨h1, -⟩ | ⟨m, -, -, h2⟩
  · exact absurd h1 hx
  · exact h2
theorem mtf_mx {L : List Tp} {b : Nat} (hb : b < L.length) (j : Nat) (hj : j < (mtf L b).length) : ((mtf L b).getD j tp0).2 ≤ mxN L L.length := by
  rw [mtf_len hb] at hj
  rw [mtf_gd]
  split
  · exact mxN_ge _ _ hb
  · split
    · exact mxN_ge _ _ (by omega)
    · exact mxN_ge _ _ hj
theorem spA_le {T : List Tk} (h : okT T) : ∀ i, i ≤ T.length → spA T i ≤ 30 * i
  | 0, _ => by simp [spA]
  | i + 1, hi => by
    have h1 := spA_le h i (by omega)
    have h2 := (h i (by omega)).2.2.2
    simp only [spA]
    omega
