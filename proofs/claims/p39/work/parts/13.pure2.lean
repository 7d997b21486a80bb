/-! ===== the company's loops, as numbers ===== -/
def ltP (T : List Tk) (i : Nat) : Nat := match am (isT T) (bPt T) i with
  | none => 31
  | some b => tkP (T.getD b tk0)
theorem ltP_le {T : List Tk} (h : okT T) {i : Nat} (hi : i ≤ T.length) : ltP T i ≤ 31 := by
  simp only [ltP]
  split
  · omega
  · rename_i b hb
    have h1 := (am_lt hb).1
    have := (h b (by omega)).2.2.2
    omega
theorem isT_t {T : List Tk} {i : Nat} (h : tkX (T.getD i tk0) = -1) : isT T i = true := decide_eq_true h
theorem isT_f {T : List Tk} {i : Nat} (h : ¬ tkX (T.getD i tk0) = -1) : isT T i = false := decide_eq_false h
theorem lp_skip {T : List Tk} {i : Nat} (h : ¬ tkX (T.getD i tk0) = -1) : am (isT T) (bPt T) (i + 1) = am (isT T) (bPt T) i := by
  have e := isT_f h
  cases h1 : am (isT T) (bPt T) i with
  | none => rw [am_n h1, if_neg (by rw [e]; exact Bool.false_ne_true)]
  | some b => rw [am_s h1, if_neg (fun h2 => by rw [e] at h2; exact Bool.false_ne_true h2.1)]
theorem lp_keep {T : List Tk} (h : okT T) {i : Nat} (hi : i < T.length) (hle : ltP T i ≤ tkP (T.getD i tk0)) : am (isT T) (bPt T) (i + 1) = am (isT T) (bPt T) i := by
  simp only [ltP] at hle
  cases h1 : am (isT T) (bPt T) i with
  | none => rw [h1] at hle; have h9 := (h i hi).2.2.2; dsimp only at hle; omega
  | some b =>
    rw [h1] at hle
    rw [am_s h1, if_neg]
    intro hc
    have h9 : tkP (T.getD i tk0) < tkP (T.getD b tk0) := of_decide_eq_true hc.2
    dsimp only at hle
    omega
theorem lp_new {T : List Tk} {i : Nat} (hx : tkX (T.getD i tk0) = -1) (hlt : tkP (T.getD i tk0) < ltP T i) : am (isT T) (bPt T) (i + 1) = some i := by
  simp only [ltP] at hlt
  cases h1 : am (isT T) (bPt T) i with
  | none => rw [am_n h1]; exact if_pos (isT_t hx)
  | some b =>
    rw [h1] at hlt
    rw [am_s h1]
    exact if_pos ⟨isT_t hx, decide_eq_true hlt⟩
theorem ltP_keep {T : List Tk} {i : Nat} (e : am (isT T) (bPt T) (i + 1) = am (isT T) (bPt T) i) : ltP T (i + 1) = ltP T i := by simp only [ltP, e]
theorem ltP_new {T : List Tk} {i : Nat} (e : am (isT T) (bPt T) (i + 1) = some i) : ltP T (i + 1) = tkP (T.getD i tk0) := by simp only [ltP, e]
theorem sp_t {T : List Tk} {i : Nat} (h : tkX (T.getD i tk0) = -1) : spN T (i + 1) = spN T i + tkP (T.getD i tk0) := by simp [spN, isT_t h]
theorem sp_f {T : List Tk} {i : Nat} (h : ¬ tkX (T.getD i tk0) = -1) : spN T (i + 1) = spN T i := by simp [spN, isT_f h]
-- a new patience
def chg (z : Nat) : Int32 := if 0 < z then -(nI (z / 20 + 1)) else 1
def hrMM (v : Int32) : Int32 := if nI 0 < (if v < nI 30 then v else nI 30) then (if v < nI 30 then v else nI 30) else nI 0
theorem hr_fin1 : ∀ p, p < 31 → ∀ q, q < 62 → hrMM (nI p + -(nI q)) = nI (p - q) := by decide +kernel
theorem hr_fin2 : ∀ p, p < 31 → hrMM (nI p + 1) = nI (min 30 (p + 1)) := by decide +kernel
theorem hr_eq {z p : Nat} (hz : z ≤ 1188) (hp : p ≤ 30) : (if nI 0 < (if nI p + chg z < nI 30 then nI p + chg z else nI 30) then (if nI p + chg z < nI 30 then nI p + chg z else nI 30) else nI 0) = nI (hrP z p) := by
  show hrMM (nI p + chg z) = nI (hrP z p)
  by_cases h : 0 < z
  · rw [chg, if_pos h, hrP, if_pos h]
    exact hr_fin1 p (by omega) (z / 20 + 1) (by omega)
  · rw [chg, if_neg h, hrP, if_neg h]
    exact hr_fin2 p (by omega)
def hri (z mi : Nat) (T : List Tk) (p x p1 x1 : Nat → Int32) (i : Nat) : Prop := (∀ q, q < i → p1 q = nI (tkP (hrF z mi (T.getD q tk0))) ∧ x1 q = tkX (hrF z mi (T.getD q tk0))) ∧ ∀ q, i ≤ q → q < T.length → p1 q = p q ∧ x1 q = x q
theorem hri_0 (z mi : Nat) (T : List Tk) (p x : Nat → Int32) : hri z mi T p x p x 0 := ⟨fun _ h => absurd h (by omega), fun _ _ _ => ⟨rfl, rfl⟩⟩
theorem hri_skip {z mi : Nat} {T : List Tk} {k s m p x p1 x1 : Nat → Int32} {i : Nat} (h : hri z mi T p x p1 x1 i) (hC : rC k s m p x T) (hi : i < T.length) (hx : ¬ tkX (T.getD i tk0) = -1) : hri z mi T p x p1 x1 (i + 1) := by
  refine ⟨fun q hq => ?_, fun q hq hN => h.2 q (by omega) hN⟩
  by_cases e : q = i
  · subst e
    obtain ⟨-, -, -, e4, e5⟩ := hC.2 q hi
    obtain ⟨h1, h2⟩ := h.2 q (Nat.le_refl _) hi
    rw [hrF, if_neg hx]
    exact ⟨h1.trans e4, h2.trans e5⟩
  · exact h.1 q (by omega)
theorem hri_keep {z mi : Nat} {T : List Tk} {k s m p x p1 x1 : Nat → Int32} {i : Nat} (h : hri z mi T p x p1 x1 i) (hC : rC k s m p x T) (hi : i < T.length) (hx : tkX (T.getD i tk0) = -1) (h0 : 0 < hrP z (tkP (T.getD i tk0))) : hri z mi T p x (upd p1 i (nI (hrP z (tkP (T.getD i tk0))))) x1 (i + 1) := by
  refine ⟨fun q hq => ?_, fun q hq hN => ?_⟩
  · by_cases e : q = i
    · subst e
      obtain ⟨-, -, -, e4, e5⟩ := hC.2 q hi
      obtain ⟨h1, h2⟩ := h.2 q (Nat.le_refl _) hi
      rw [hrF, if_pos hx, pk_us]
      refine ⟨rfl, ?_⟩
      show x1 q = if hrP z (tkP (T.getD q tk0)) = 0 then nI mi else -1
      rw [if_neg (by omega)]
      exact (h2.trans e5).trans hx
    · rw [pk_un e]; exact h.1 q (by omega)
  · rw [pk_un (show q ≠ i by omega)]; exact h.2 q (by omega) hN
theorem hri_gone {z mi : Nat} {T : List Tk} {k s m p x p1 x1 : Nat → Int32} {i : Nat} (h : hri z mi T p x p1 x1 i) (hC : rC k s m p x T) (hi : i < T.length) (hx : tkX (T.getD i tk0) = -1) (h0 : hrP z (tkP (T.getD i tk0)) = 0) : hri z mi T p x (upd p1 i (nI (hrP z (tkP (T.getD i tk0))))) (upd x1 i (nI mi)) (i + 1) := by
  refine ⟨fun q hq => ?_, fun q hq hN => ?_⟩
  · by_cases e : q = i
    · subst e
      rw [hrF, if_pos hx, pk_us, pk_us]
      refine ⟨rfl, ?_⟩
      show nI mi = if hrP z (tkP (T.getD q tk0)) = 0 then nI mi else -1
      rw [if_pos h0]
    · rw [pk_un e, pk_un e]; exact h.1 q (by omega)
  · rw [pk_un (show q ≠ i by omega), pk_un (show q ≠ i by omega)]; exact h.2 q (by omega) hN
theorem rC_hr {z mi : Nat} {T : List Tk} {k s m p x p1 x1 : Nat → Int32} (hC : rC k s m p x T) (h : hri z mi T p x p1 x1 T.length) : rC k s m p1 x1 (hrT z mi T) := by
  have hl : (hrT z mi T).length = T.length := List.length_map ..
  refine ⟨by rw [hl]; exact hC.1, fun j hj => ?_⟩
  rw [hl] at hj
  obtain ⟨e1, e2, e3, -, -⟩ := hC.2 j hj
  obtain ⟨h1, h2⟩ := h.1 j hj
  rw [hrT, gd_map (d := tk0) _ _ _ hj]
  refine ⟨?_, ?_, ?_, h1, h2⟩
  · rw [hrF]; split
    · exact e1
    · exact e1
  · rw [hrF]; split
    · exact e2
    · exact e2
  · rw [hrF]; split
    · exact e3
    · exact e3
theorem hrT_len (z mi : Nat) (T : List Tk) : (hrT z mi T).length = T.length := List.length_map ..
theorem sk_t {T : List Tk} {mi : Nat} {L : List Tp} {i : Nat} (h1 : tkX (T.getD i tk0) = -1) (h2 : nI mi - nI mi / tkE (T.getD i tk0) * tkE (T.getD i tk0) = 0) : skN T mi L (i + 1) = app (skN T mi L i) (tkK (T.getD i tk0), tkS (T.getD i tk0)) := by simp only [skN]; rw [if_pos ⟨h1, h2⟩]
theorem sk_f1 {T : List Tk} {mi : Nat} {L : List Tp} {i : Nat} (h1 : ¬ tkX (T.getD i tk0) = -1) : skN T mi L (i + 1) = skN T mi L i := by simp only [skN]; rw [if_neg (fun h => h1 h.1)]
theorem sk_f2 {T : List Tk} {mi : Nat} {L : List Tp} {i : Nat} (h2 : ¬ nI mi - nI mi / tkE (T.getD i tk0) * tkE (T.getD i tk0) = 0) : skN T mi L (i + 1) = skN T mi L i := by simp only [skN]; rw [if_neg (fun h => h2 h.2)]
theorem rC_join {k s m p x : Nat → Int32} {T : List Tk} {kd ea : Int32} {z : Nat} (h : rC k s m p x T) (h6 : T.length < 6) : rC (upd k T.length kd) (upd s T.length (nI z)) (upd m T.length ea) (upd p T.length (nI 30)) (upd x T.length (-1)) (T ++ [(kd, z, ea, 30, -1)]) := by
  refine ⟨by simp; omega, fun j hj => ?_⟩
  by_cases e : j = T.length
  · subst e; rw [gd_app2, pk_us, pk_us, pk_us, pk_us, pk_us]; exact ⟨rfl, rfl, rfl, rfl, rfl⟩
  · have hlt : j < T.length := by simp at hj; omega
    rw [gd_app1 _ _ _ hlt, pk_un e, pk_un e, pk_un e, pk_un e, pk_un e]; exact h.2 j hlt
theorem cpy5_s {a b c d f a2 b2 c2 d2 f2 : Nat → Int32} {i : Nat} (h : ∀ q, q < i → a q = a2 q ∧ b q = b2 q ∧ c q = c2 q ∧ d q = d2 q ∧ f q = f2 q) : ∀ q, q < i + 1 → upd a i (a2 i) q = a2 q ∧ upd b i (b2 i) q = b2 q ∧ upd c i (c2 i) q = c2 q ∧ upd d i (d2 i) q = d2 q ∧ upd f i (f2 i) q = f2 q := by
  intro q hq
  by_cases e : q = i
  · subst e; exact ⟨pk_us, pk_us, pk_us, pk_us, pk_us⟩
  · simp only [pk_un e]; exact h q (by omega)
theorem rC_cpy {a b c d f a2 b2 c2 d2 f2 : Nat → Int32} {T : List Tk} (hC : rC a2 b2 c2 d2 f2 T) (h : ∀ q, q < T.length → a q = a2 q ∧ b q = b2 q ∧ c q = c2 q ∧ d q = d2 q ∧ f q = f2 q) : rC a b c d f T := by
  refine ⟨hC.1, fun j hj => ?_⟩
  obtain ⟨h1, h2, h3, h4, h5⟩ := h j hj
  obtain ⟨e1, e2, e3, e4, e5⟩ := hC.2 j hj
  exact ⟨h1.trans e1, h2.trans e2, h3.trans e3, h4.trans e4, h5.trans e5⟩
theorem hrP_le (z : Nat) {p : Nat} (hp : p ≤ 30) : hrP z p ≤ 30 := by
  simp only [hrP]
  split <;> omega
