/-! ===== the law's own rows ===== -/
section LK
variable {p : Program} {l : Launch} {e : Env} {R : Room} {s : State} {m : MethodId} {args : Array Value} {below : List Frame} {meth : Method} {c : Code} {H H0 : Heap} {locs : List Loc} {cells slots : Nat} {Q : State → Prop} {A : Nat → Prop}
variable {cc : ByteArray} {pc : Nat} {ls : Array Slot} {rest : List Value} {D : va_G} {ws : va_W} {tys : List (ClassId × FieldType)} {a : Nat}
theorem k_sld (hx : p.tables.exec = Jvm.exec) (hb : c.code = cc) {b L : Nat} {xs : Nat → Int32} (hX : va_X b L xs s H0) (hbl : b < H0.size) (hbA : ¬ A b) (hS : va_S A H0 H locs) (i : Nat) (hi : i < L) (hn : L < 2147483648) (hdg : decode cc pc = .ok (.iaload, 1))
    (kk : W p l e R s m args below meth c H locs cells slots Q (F0 m (pc + 1) ls (.int (xs i) :: rest))) : W p l e R s m args below meth c H locs cells slots Q (F0 m pc ls (.int (nI i) :: .ref b :: rest)) := by
  have hc : (nI i).toNatClampNeg = i := nI_clamp (by omega)
  refine va_sld hx hb hX hbl hbA hS (vp_in_nI hi (by omega)) hdg ?_
  rw [hc]; exact kk
theorem k_lald0 (hx : p.tables.exec = Jvm.exec) (hb : c.code = cc) (hK : va_K D vwCl tys s) (hP : va_P D vwCl ws H) (q0 t0 : Nat) {cA : ClassId} {f : Nat → Int64} (ha : ws[q0]? = some (a, .inl (cA, 1, .inr (.inl f)))) (ht : tys[t0]? = some (cA, .long)) (hdg : decode cc pc = .ok (.laload, 1))
    (kk : W p l e R s m args below meth c H locs cells slots Q (F0 m (pc + 1) ls (.long (f 0) :: rest))) : W p l e R s m args below meth c H locs cells slots Q (F0 m pc ls (.int (nI 0) :: .ref a :: rest)) := by
  refine va_lald hx hb hK hP q0 t0 ha ht (vp_in_nI (by omega) (by omega)) hdg ?_
  rw [show (nI 0).toNatClampNeg = 0 from nI_clamp (by omega)]; exact kk
end LK
theorem k_lcmp0 {x y : Int64} (h : x = y) : lg_cmp x y = nI 0 := by
  subst h
  have h1 : ¬ x > x := fun h => by
    simp only [gt_iff_lt, Int64.lt_iff_toInt_lt] at h
    omega
  rw [lg_cmp, if_neg h1, if_pos rfl]
  decide +kernel
theorem mp_cmpF : ∀ b, b < 7 → b ≠ 0 → ∀ a, a < 181 → Op.cmpValue (FP.dcmp (FP.ddiv (FP.i2d (nI a)) (FP.i2d (nI b))) (FP.ddiv (FP.i2d (nI a)) (FP.i2d (nI b)))) .l = nI 0 := by decide +kernel
theorem mp_cmp {q : St} (h : okS q) : Op.cmpValue (FP.dcmp (mpS q) (mpS q)) .l = nI 0 := by
  rw [mpS]
  split
  · decide +kernel
  · exact mp_cmpF _ (by have := ctT_le h; omega) (by assumption) _ (by have := spT_le h; omega)
theorem lw_end {L i : Nat} (hL : L ≤ 2048) (hi : i ≤ 4096) (h : ¬ Int32.ofNat L - nI 4 < nI i) : i + 4 ≤ L := by
  rcases Nat.lt_or_ge L (i + 4) with h2 | h2
  · exfalso
    apply h
    rw [Int32.lt_iff_toInt_lt]
    have h3 : (nI L - nI 4).toInt = (L : Int) - 4 := pk_sub_toInt (by omega) (by omega)
    have h4 : (nI i).toInt = i := nI_toInt (by omega)
    show (nI L - nI 4).toInt < _
    rw [h3, h4]; omega
  · exact h2
