/-! ===== the law's numbers ===== -/
def bw (v : Int32) (n : Nat) : Nat := v.toBitVec.toNat % 2 ^ 31 % n
theorem bw_lt (v : Int32) {n : Nat} (hn : 0 < n) : bw v n < n := Nat.mod_lt _ hn
def ce (L : Nat) (xs : Nat → Int32) (k : Nat) : Int32 := if k < L then xs k else 790386105 * nI (k + 3)
theorem z_two {P X : va_W} {cI : ClassId} : zS (P ++ (X ++ [])) (P ++ (X ++ (sT cI [] [] ++ []))) := zS.rf
theorem z_skip {P X Y : va_W} : zS (P ++ (X ++ Y)) (P ++ Y) := zS.rf.app (zS.sl (List.sublist_append_right _ _))
theorem z_assoc {P X Y Z : va_W} : zS (P ++ ((X ++ Y) ++ Z)) (P ++ (X ++ (Y ++ Z))) := by
  rw [List.append_assoc X Y Z]; exact zS.rf
/-! ===== the law's own rows ===== -/
section LK
variable {p : Program} {l : Launch} {e : Env} {R : Room} {s : State} {m : MethodId} {args : Array Value} {below : List Frame} {meth : Method} {c : Code} {H H0 : Heap} {locs : List Loc} {cells slots : Nat} {Q : State → Prop} {A : Nat → Prop}
variable {cc : ByteArray} {pc : Nat} {ls : Array Slot} {rest : List Value} {D : va_G} {ws : va_W} {tys : List (ClassId × FieldType)} {a : Nat}
theorem k_sld (hx : p.tables.exec = Jvm.exec) (hb : c.code = cc) {b L : Nat} {xs : Nat → Int32} (hX : va_X b L xs s H0) (hbl : b < H0.size) (hbA : ¬ A b) (hS : va_S A H0 H locs) (i : Nat) (hi : i < L) (hn : L < 2147483648) (hdg : decode cc pc = .ok (.iaload, 1))
    (kk : W p l e R s m args below meth c H locs cells slots Q (F0 m (pc + 1) ls (.int (xs i) :: rest))) : W p l e R s m args below meth c H locs cells slots Q (F0 m pc ls (.int (nI i) :: .ref b :: rest)) := by
  have hc : (nI i).toNatClampNeg = i := nI_clamp (by omega)
  refine va_sld hx hb hX hbl hbA hS (vp_in_nI hi (by omega)) hdg ?_
  rw [hc]; exact kk
end LK
theorem k_lcmp0 {x y : Int64} (h : x = y) : lg_cmp x y = nI 0 := by
  subst h
  have h1 : ¬ x > x := fun h => by
    simp only [gt_iff_lt, Int64.lt_iff_toInt_lt] at h
    omega
  rw [lg_cmp, if_neg h1, if_pos rfl]
  decide +kernel
theorem mp_cmpF : ∀ b, b < 7 → b ≠ 0 → ∀ a, a < 181 → Op.cmpValue (FP.dcmp (FP.ddiv (FP.i2d (nI a)) (FP.i2d (nI b))) (FP.ddiv (FP.i2d (nI a)) (FP.i2d (nI b)))) .l = nI 0 := by decide +kernel
theorem mp_cmp {q : St} (h : okS q) : Op.cmpValue (FP.dcmp (mpS q) (mpS q)) .l = nI 0 := by
  rw [mpS]
  split
  · decide +kernel
  · exact mp_cmpF _ (by have := ctT_le h; omega) (by assumption) _ (by have := spT_le h; omega)
