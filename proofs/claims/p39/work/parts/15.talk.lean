/-! ===== the answers of the whole machine, as numbers ===== -/
def setB (q : St) (B : List Tp) : St := (B, q.2)
def setT (q : St) (T : List Tk) : St := (q.1, T, q.2.2)
def setG (q : St) (g : Nat) : St := (q.1, q.2.1, g, q.2.2.2)
def setS (q : St) (z : Nat) : St := (q.1, q.2.1, q.2.2.1, z, q.2.2.2.2)
def setM (q : St) (z : Int32) : St := (q.1, q.2.1, q.2.2.1, q.2.2.2.1, z, q.2.2.2.2.2)
theorem okS_setG {q : St} (h : okS q) {g : Nat} (hg : 2 ≤ g ∧ g ≤ 9) : okS (setG q g) := ⟨h.1, h.2.1, h.2.2.1, h.2.2.2.1, hg, h.2.2.2.2.2⟩
theorem okS_setS {q : St} (h : okS q) {z : Nat} (hz : 1 ≤ z ∧ z ≤ 4) : okS (setS q z) := ⟨h.1, h.2.1, h.2.2.1, h.2.2.2.1, h.2.2.2.2.1, hz, h.2.2.2.2.2.2⟩
theorem okS_setM {q : St} (h : okS q) (z : Int32) : okS (setM q z) := h
theorem okS_setB {q : St} (h : okS q) {B : List Tp} (h1 : okB B) (h2 : B.length ≤ 12) : okS (setB q B) := ⟨h1, h2, h.2.2⟩
theorem okS_setT {q : St} (h : okS q) {T : List Tk} (h1 : okT T) (h2 : T.length ≤ 6) : okS (setT q T) := ⟨h.1, h.2.1, h1, h2, h.2.2.2.2⟩
theorem okB_mtf {L : List Tp} {j : Nat} (h : okB L) (hj : j < L.length) : okB (mtf L j) := by
  intro q hq
  rw [mtf_len hj] at hq
  rw [mtf_gd]
  split
  · exact h j hj
  · split
    · exact h (q - 1) (by omega)
    · exact h q hq
theorem okB_er {L : List Tp} {j : Nat} (h : okB L) (hj : j < L.length) : okB (L.eraseIdx j) := by
  intro q hq
  rw [er_len hj] at hq
  rw [gd_er]
  split
  · exact h q (by omega)
  · exact h (q + 1) (by omega)
theorem okT_app {T : List Tk} {t : Tk} (h : okT T) (ht : okK t) : okT (T ++ [t]) := by
  intro j hj
  by_cases e : j = T.length
  · subst e; rw [gd_app2]; exact ht
  · have hlt : j < T.length := by simp at hj; omega
    rw [gd_app1 _ _ _ hlt]; exact h j hlt
theorem okS_mtf {q : St} (h : okS q) {j : Nat} (hj : j < (stB q).length) : okS (setB q (mtf (stB q) j)) := okS_setB h (okB_mtf h.1 hj) (by rw [mtf_len hj]; exact h.2.1)
theorem stT_len (q : St) : ∀ i, (stT (itS q i)).length = (stT q).length
  | 0 => rfl
  | i + 1 => (hrT_len _ _ _).trans (stT_len q i)
theorem stG_it (q : St) : ∀ i, stG (itS q i) = stG q
  | 0 => rfl
  | i + 1 => stG_it q i
-- who is there: never more than before
theorem hrF_T {z mi : Nat} {t : Tk} (h : tkX (hrF z mi t) = -1) : tkX t = -1 := by
  rw [hrF] at h
  split at h
  · assumption
  · exact h
theorem ct_hr (z mi : Nat) (T : List Tk) : ∀ i, i ≤ T.length → cnN (isT (hrT z mi T)) i ≤ cnN (isT T) i
  | 0, _ => Nat.le_refl _
  | i + 1, hi => by
    have h1 := ct_hr z mi T i (by omega)
    simp only [cnN]
    by_cases h : isT (hrT z mi T) i = true
    · have h2 : isT T i = true := by
        have h3 : tkX ((hrT z mi T).getD i tk0) = -1 := of_decide_eq_true h
        rw [hrT, gd_map (d := tk0) _ _ _ (by omega)] at h3
        exact decide_eq_true (hrF_T h3)
      rw [if_pos h, if_pos h2]; omega
    · rw [if_neg h]; omega
theorem ctT_hr (z mi : Nat) (T : List Tk) : ctT (hrT z mi T) ≤ ctT T := by
  simp only [ctT]; rw [hrT_len]; exact ct_hr z mi T _ (Nat.le_refl _)
theorem ctT_it (q : St) : ∀ i, ctT (stT (itS q i)) ≤ ctT (stT q)
  | 0 => Nat.le_refl _
  | i + 1 => Nat.le_trans (ctT_hr _ _ _) (ctT_it q i)
theorem ctT_le {q : St} (h : okS q) : ctT (stT q) ≤ 6 := Nat.le_trans (cnN_le _ _) h.2.2.2.1
theorem spT_le {q : St} (h : okS q) : spT (stT q) ≤ 180 := by
  have := spN_le h.2.2.1 (stT q).length (Nat.le_refl _)
  have := h.2.2.2.1
  simp only [spT]; omega
-- the best one of numbers
def bF (F : Nat → Nat) (i b : Nat) : Bool := decide (F i < F b)
def amF (F : Nat → Nat) (i : Nat) : Option Nat := am (fun _ => true) (bF F) i
def lsF (F : Nat → Nat) (i : Nat) : Nat := match amF F i with
  | none => 1189
  | some b => F b
theorem lsF_le {F : Nat → Nat} (h : ∀ i, F i ≤ 1188) (i : Nat) : lsF F i ≤ 1189 := by
  simp only [lsF]; split
  · omega
  · rename_i b _; have := h b; omega
theorem af_keep {F : Nat → Nat} (h : ∀ i, F i ≤ 1188) {i : Nat} (hle : lsF F i ≤ F i) : amF F (i + 1) = amF F i := by
  simp only [lsF] at hle
  cases h1 : amF F i with
  | none => rw [h1] at hle; have := h i; dsimp only at hle; omega
  | some b =>
    rw [h1] at hle
    show am _ _ (i + 1) = _
    rw [am_s h1, if_neg]
    intro hc
    have h9 : F i < F b := of_decide_eq_true hc.2
    dsimp only at hle
    omega
theorem af_new {F : Nat → Nat} {i : Nat} (hlt : F i < lsF F i) : amF F (i + 1) = some i := by
  simp only [lsF] at hlt
  cases h1 : amF F i with
  | none => show am _ _ (i + 1) = _; rw [am_n h1]; rfl
  | some b =>
    rw [h1] at hlt
    show am _ _ (i + 1) = _
    rw [am_s h1]
    exact if_pos ⟨rfl, decide_eq_true hlt⟩
theorem lsF_keep {F : Nat → Nat} {i : Nat} (e : amF F (i + 1) = amF F i) : lsF F (i + 1) = lsF F i := by simp only [lsF, e]
theorem lsF_new {F : Nat → Nat} {i : Nat} (e : amF F (i + 1) = some i) : lsF F (i + 1) = F i := by simp only [lsF, e]
def gI : Option Nat → Int32
  | none => nI 2
  | some b => nI (b + 2)
def gN (q : St) (i : Nat) : Nat := ns (stB (itS (setG q (if i ≤ 7 then i + 2 else 9)) 10))
def pN (q : St) (j : Nat) : Nat := ns (stB (itS (setB q (mtf (stB q) (if j < (stB q).length then j else 0))) 5))
def bgS (q : St) : Int32 := gI (amF (gN q) 8)
def bpS (q : St) : Int32 := oI (amF (pN q) (stB q).length)
theorem ns_it {q : St} (h : okS q) (i : Nat) : ns (stB (itS q i)) ≤ 1188 := ns_le (okS_it h i).1 (okS_it h i).2.1
theorem gN_le {q : St} (h : okS q) (i : Nat) : gN q i ≤ 1188 := ns_it (okS_setG h (by split <;> omega)) 10
theorem gN_eq {q : St} {i : Nat} (hi : i ≤ 7) : gN q i = ns (stB (itS (setG q (i + 2)) 10)) := by rw [gN, if_pos hi]
theorem pN_eq {q : St} {j : Nat} (hj : j < (stB q).length) : pN q j = ns (stB (itS (setB q (mtf (stB q) j)) 5)) := by rw [pN, if_pos hj]
theorem pN_le {q : St} (h : okS q) (h0 : 0 < (stB q).length) (j : Nat) : pN q j ≤ 1188 := ns_it (okS_mtf h (by split <;> omega)) 5
def mpS (q : St) : UInt64 := if ctT (stT q) = 0 then FP.dconst0 else FP.ddiv (FP.i2d (nI (spT (stT q)))) (FP.i2d (nI (ctT (stT q))))
theorem mp_fin : ∀ b, b < 7 → b ≠ 0 → ∀ a, a < 181 → vf_n64 (FP.ddiv (FP.i2d (nI a)) (FP.i2d (nI b))) := by unfold vf_n64; decide +kernel
theorem mp_ok {q : St} (h : okS q) (h0 : 0 < ctT (stT q)) : vf_n64 (FP.ddiv (FP.i2d (nI (spT (stT q)))) (FP.i2d (nI (ctT (stT q))))) := mp_fin _ (by have := ctT_le h; omega) (by omega) _ (by have := spT_le h; omega)
def mx (d z : Int64) : Int64 := d * 31 + z
def dgB (L : List Tp) (d : Int64) : Nat → Int64
  | 0 => d
  | i + 1 => mx (mx (dgB L d i) (nI (L.getD i tp0).2).toInt64) ((L.getD i tp0).1).toInt64
def dgT (T : List Tk) (d : Int64) : Nat → Int64
  | 0 => d
  | i + 1 => mx (mx (mx (dgT T d i) (if tkX (T.getD i tk0) = -1 then 1 else 0)) (nI (tkP (T.getD i tk0))).toInt64) (tkX (T.getD i tk0)).toInt64
def dgH (q : St) : Int64 := mx (mx (mx (mx (mx (mx (mx (mx (mx (mx (mx (mx (mx 2039 (nI (stI q)).toInt64) (nI (stB q).length).toInt64) (nI (ns (stB q))).toInt64) (nI (stN q)).toInt64) (stO q).toInt64) (stV q).toInt64) (nI (stG q)).toInt64) (nI (stS q)).toInt64) (stM q).toInt64) (nI (stT q).length).toInt64) (nI (ctT (stT q))).toInt64) (bgS q).toInt64) (bpS q).toInt64
def dgS (q : St) : Int64 := dgT (stT q) (dgB (stB q) (dgH q) (stB q).length) (stT q).length
