/-! ===== the machine as a mathematical value: what both sides are tied to ===== -/
abbrev Tp : Type := Int32 × Nat
abbrev Tk : Type := Int32 × Nat × Int32 × Nat × Int32
def tp0 : Tp := (0, 0)
def tk0 : Tk := (0, 0, 0, 0, 0)
abbrev tkK (t : Tk) : Int32 := t.1
abbrev tkS (t : Tk) : Nat := t.2.1
abbrev tkE (t : Tk) : Int32 := t.2.2.1
abbrev tkP (t : Tk) : Nat := t.2.2.2.1
abbrev tkX (t : Tk) : Int32 := t.2.2.2.2
abbrev St : Type := List Tp × List Tk × Nat × Nat × Int32 × Nat × Int32 × Int32 × Nat
abbrev stB (q : St) : List Tp := q.1
abbrev stT (q : St) : List Tk := q.2.1
abbrev stG (q : St) : Nat := q.2.2.1
abbrev stS (q : St) : Nat := q.2.2.2.1
abbrev stM (q : St) : Int32 := q.2.2.2.2.1
abbrev stN (q : St) : Nat := q.2.2.2.2.2.1
abbrev stO (q : St) : Int32 := q.2.2.2.2.2.2.1
abbrev stV (q : St) : Int32 := q.2.2.2.2.2.2.2.1
abbrev stI (q : St) : Nat := q.2.2.2.2.2.2.2.2
abbrev bI (P : Prop) [Decidable P] : Int32 := if P then 1 else 0
/-- the belt's two arrays hold the list -/
def rB (k s : Nat → Int32) (L : List Tp) : Prop := L.length ≤ 12 ∧ ∀ j, j < L.length → k j = (L.getD j tp0).1 ∧ s j = nI (L.getD j tp0).2
def okB (L : List Tp) : Prop := ∀ j, j < L.length → 2 ≤ (L.getD j tp0).2 ∧ (L.getD j tp0).2 ≤ 99
/-- the company's five arrays hold the list -/
def rC (k s m p x : Nat → Int32) (T : List Tk) : Prop := T.length ≤ 6 ∧ ∀ j, j < T.length → k j = tkK (T.getD j tk0) ∧ s j = nI (tkS (T.getD j tk0)) ∧ m j = tkE (T.getD j tk0) ∧ p j = nI (tkP (T.getD j tk0)) ∧ x j = tkX (T.getD j tk0)
def okK (t : Tk) : Prop := 2 ≤ tkS t ∧ tkS t ≤ 99 ∧ ¬ tkE t = 0 ∧ tkP t ≤ 30
def okT (T : List Tk) : Prop := ∀ j, j < T.length → okK (T.getD j tk0)
def okS (q : St) : Prop := okB (stB q) ∧ (stB q).length ≤ 12 ∧ okT (stT q) ∧ (stT q).length ≤ 6 ∧ (2 ≤ stG q ∧ stG q ≤ 9) ∧ (1 ≤ stS q ∧ stS q ≤ 4) ∧ stN q < 6
-- a list by places
theorem gd_app1 {α : Type} {d : α} (L : List α) (x : α) (j : Nat) (h : j < L.length) : (L ++ [x]).getD j d = L.getD j d := by
  simp [List.getD_eq_getElem?_getD, List.getElem?_append_left h]
theorem gd_app2 {α : Type} {d : α} (L : List α) (x : α) : (L ++ [x]).getD L.length d = x := by
  simp [List.getD_eq_getElem?_getD]
theorem gd_map {α β : Type} {d : α} {d' : β} (f : α → β) (L : List α) (j : Nat) (h : j < L.length) : (L.map f).getD j d' = f (L.getD j d) := by
  simp [List.getD_eq_getElem?_getD, h]
-- leaving out, place by place
def pf (F : Nat → Option Tp) (i : Nat) : List Tp := (List.range i).filterMap F
theorem pf_0 (F : Nat → Option Tp) : pf F 0 = [] := rfl
theorem pf_some {F : Nat → Option Tp} {i : Nat} {t : Tp} (h : F i = some t) : pf F (i + 1) = pf F i ++ [t] := by
  simp [pf, List.range_succ, h]
theorem pf_none {F : Nat → Option Tp} {i : Nat} (h : F i = none) : pf F (i + 1) = pf F i := by
  simp [pf, List.range_succ, h]
theorem pf_le (F : Nat → Option Tp) (i : Nat) : (pf F i).length ≤ i := by
  induction i with
  | zero => simp [pf]
  | succ i ih =>
    cases h : F i with
    | none => rw [pf_none h]; omega
    | some t => rw [pf_some h]; simp; omega
/-- behind i places: what is kept lies in front, what isn't reached yet is as it was -/
def cmp (N : Nat) (F : Nat → Option Tp) (k s k1 s1 : Nat → Int32) (i : Nat) : Prop :=
  (∀ j, j < (pf F i).length → k1 j = ((pf F i).getD j tp0).1 ∧ s1 j = nI ((pf F i).getD j tp0).2) ∧ ∀ j, i ≤ j → j < N → k1 j = k j ∧ s1 j = s j
theorem cmp_0 (N : Nat) (F : Nat → Option Tp) (k s : Nat → Int32) : cmp N F k s k s 0 := ⟨fun j h => by simp [pf] at h, fun _ _ _ => ⟨rfl, rfl⟩⟩
theorem cmp_skip {N : Nat} {F : Nat → Option Tp} {k s k1 s1 : Nat → Int32} {i : Nat} (h : cmp N F k s k1 s1 i) (hF : F i = none) : cmp N F k s k1 s1 (i + 1) := by
  refine ⟨fun j hj => ?_, fun j hj hN => h.2 j (by omega) hN⟩
  rw [pf_none hF] at hj ⊢
  exact h.1 j hj
theorem cmp_keep {N : Nat} {F : Nat → Option Tp} {k s k1 s1 : Nat → Int32} {i : Nat} {t : Tp} (h : cmp N F k s k1 s1 i) (hF : F i = some t) : cmp N F k s (upd k1 (pf F i).length t.1) (upd s1 (pf F i).length (nI t.2)) (i + 1) := by
  have hle := pf_le F i
  refine ⟨fun j hj => ?_, fun j hj hN => ?_⟩
  · rw [pf_some hF] at hj ⊢
    by_cases e : j = (pf F i).length
    · subst e
      rw [gd_app2, pk_us, pk_us]
      exact ⟨rfl, rfl⟩
    · have hlt : j < (pf F i).length := by simp at hj; omega
      rw [gd_app1 _ _ _ hlt, pk_un e, pk_un e]
      exact h.1 j hlt
  · rw [pk_un (show j ≠ (pf F i).length by omega), pk_un (show j ≠ (pf F i).length by omega)]
    exact h.2 j (by omega) hN
def gnZ (st g : Nat) (L : List Tp) (i : Nat) : Nat := if i < st then (L.getD i tp0).2 / g else (L.getD i tp0).2
def gnF (st g : Nat) (L : List Tp) (i : Nat) : Option Tp := if 2 ≤ gnZ st g L i then some ((L.getD i tp0).1, gnZ st g L i) else none
def gnd (st g : Nat) (L : List Tp) : List Tp := pf (gnF st g L) L.length
def sfF (me : Int32) (L : List Tp) (i : Nat) : Option Tp := if (L.getD i tp0).1 = 0 ∧ nI (L.getD i tp0).2 < me then none else some (L.getD i tp0)
def sft (me : Int32) (L : List Tp) : List Tp := pf (sfF me L) L.length
theorem rB_cmp {F : Nat → Option Tp} {k s k1 s1 : Nat → Int32} {N : Nat} (hN : N ≤ 12) (h : cmp N F k s k1 s1 N) : rB k1 s1 (pf F N) := ⟨Nat.le_trans (pf_le F N) hN, h.1⟩
theorem pf_ok {F : Nat → Option Tp} (P : Tp → Prop) (hF : ∀ i t, F i = some t → P t) (n : Nat) : ∀ j, j < (pf F n).length → P ((pf F n).getD j tp0) := by
  induction n with
  | zero => intro j h; simp [pf] at h
  | succ n ih =>
    cases h : F n with
    | none => rw [pf_none h]; exact ih
    | some t =>
      rw [pf_some h]
      intro j hj
      by_cases e : j = (pf F n).length
      · subst e; rw [gd_app2]; exact hF n t h
      · have hlt : j < (pf F n).length := by simp at hj; omega
        rw [gd_app1 _ _ _ hlt]; exact ih j hlt
theorem pf_okN {F : Nat → Option Tp} (P : Tp → Prop) (n : Nat) (hF : ∀ i t, i < n → F i = some t → P t) : ∀ j, j < (pf F n).length → P ((pf F n).getD j tp0) := by
  induction n with
  | zero => intro j h; simp [pf] at h
  | succ n ih =>
    have ih := ih (fun i t hi h => hF i t (by omega) h)
    cases h : F n with
    | none => rw [pf_none h]; exact ih
    | some t =>
      rw [pf_some h]
      intro j hj
      by_cases e : j = (pf F n).length
      · subst e; rw [gd_app2]; exact hF n t (by omega) h
      · have hlt : j < (pf F n).length := by simp at hj; omega
        rw [gd_app1 _ _ _ hlt]; exact ih j hlt
theorem okB_gnd {st g : Nat} {L : List Tp} (h : okB L) : okB (gnd st g L) := by
  refine pf_okN (fun t => 2 ≤ t.2 ∧ t.2 ≤ 99) L.length (fun i t hi h1 => ?_)
  simp only [gnF] at h1
  split at h1
  · cases h1
    rename_i h2
    refine ⟨h2, ?_⟩
    have := (h i hi).2
    simp only [gnZ]
    split
    · exact Nat.le_trans (Nat.div_le_self _ _) this
    · exact this
  · cases h1
theorem okB_sft {me : Int32} {L : List Tp} (h : okB L) : okB (sft me L) := by
  refine pf_okN (fun t => 2 ≤ t.2 ∧ t.2 ≤ 99) L.length (fun i t hi h1 => ?_)
  simp only [sfF] at h1
  split at h1
  · cases h1
  · cases h1; exact h i hi
theorem gnd_len (st g : Nat) (L : List Tp) : (gnd st g L).length ≤ L.length := pf_le _ _
theorem sft_len (me : Int32) (L : List Tp) : (sft me L).length ≤ L.length := pf_le _ _
-- sums and counts
def nsN (L : List Tp) : Nat → Nat
  | 0 => 0
  | i + 1 => nsN L i + (L.getD i tp0).2
def ns (L : List Tp) : Nat := nsN L L.length
theorem nsN_le {L : List Tp} (h : okB L) : ∀ i, i ≤ L.length → nsN L i ≤ 99 * i
  | 0, _ => Nat.le_refl _
  | i + 1, hi => by
    have h1 := nsN_le h i (by omega)
    have h2 := (h i (by omega)).2
    simp only [nsN]
    omega
theorem ns_le {L : List Tp} (h : okB L) (h12 : L.length ≤ 12) : ns L ≤ 1188 := by
  have := nsN_le h L.length (Nat.le_refl _)
  simp only [ns]
  omega
def cnN (P : Nat → Bool) : Nat → Nat
  | 0 => 0
  | i + 1 => cnN P i + (if P i = true then 1 else 0)
theorem cnN_le (P : Nat → Bool) : ∀ i, cnN P i ≤ i
  | 0 => Nat.le_refl _
  | i + 1 => by
    have := cnN_le P i
    simp only [cnN]
    split <;> omega
def isK (kd : Int32) (L : List Tp) (j : Nat) : Bool := decide ((L.getD j tp0).1 = kd)
def isT (T : List Tk) (j : Nat) : Bool := decide (tkX (T.getD j tk0) = -1)
def ctB (kd : Int32) (L : List Tp) : Nat := cnN (isK kd L) L.length
def ctT (T : List Tk) : Nat := cnN (isT T) T.length
def spN (T : List Tk) : Nat → Nat
  | 0 => 0
  | i + 1 => spN T i + (if isT T i = true then tkP (T.getD i tk0) else 0)
def spT (T : List Tk) : Nat := spN T T.length
theorem spN_le {T : List Tk} (h : okT T) : ∀ i, i ≤ T.length → spN T i ≤ 30 * i
  | 0, _ => Nat.le_refl _
  | i + 1, hi => by
    have h1 := spN_le h i (by omega)
    have h2 := (h i (by omega)).2.2.2
    simp only [spN]
    split <;> omega
-- the first best one
def am (ok : Nat → Bool) (bt : Nat → Nat → Bool) : Nat → Option Nat
  | 0 => none
  | i + 1 => match am ok bt i with
    | none => if ok i = true then some i else none
    | some b => if ok i = true ∧ bt i b = true then some i else some b
theorem am_lt {ok : Nat → Bool} {bt : Nat → Nat → Bool} : ∀ {i b : Nat}, am ok bt i = some b → b < i ∧ ok b = true
  | 0, b, h => by simp [am] at h
  | i + 1, b, h => by
    simp only [am] at h
    cases h2 : am ok bt i with
    | none =>
      simp only [h2] at h
      split at h
      · rename_i h3; cases h; exact ⟨by omega, h3⟩
      · cases h
    | some b2 =>
      simp only [h2] at h
      split at h
      · rename_i h3; cases h; exact ⟨by omega, h3.1⟩
      · cases h; have := am_lt h2; exact ⟨by omega, this.2⟩
theorem am_n {ok : Nat → Bool} {bt : Nat → Nat → Bool} {i : Nat} (h : am ok bt i = none) : am ok bt (i + 1) = if ok i = true then some i else none := by simp only [am, h]
theorem am_s {ok : Nat → Bool} {bt : Nat → Nat → Bool} {i b : Nat} (h : am ok bt i = some b) : am ok bt (i + 1) = if ok i = true ∧ bt i b = true then some i else some b := by simp only [am, h]
def oI : Option Nat → Int32
  | none => -1
  | some b => nI b
def bLg (L : List Tp) (i b : Nat) : Bool := decide ((L.getD b tp0).2 < (L.getD i tp0).2)
def lgst (L : List Tp) : Option Nat := am (fun _ => true) (bLg L) L.length
def bPt (T : List Tk) (i b : Nat) : Bool := decide (tkP (T.getD i tk0) < tkP (T.getD b tk0))
def ntg (T : List Tk) : Option Nat := am (isT T) (bPt T) T.length
-- the front, a drop, an end
def mtf (L : List Tp) (j : Nat) : List Tp := L.getD j tp0 :: L.eraseIdx j
def app (L : List Tp) (t : Tp) : List Tp := if L.length < 12 then L ++ [t] else L
theorem app_le {L : List Tp} {t : Tp} (h : L.length ≤ 12) : (app L t).length ≤ 12 := by
  simp only [app]; split
  · simp; omega
  · exact h
theorem okB_app {L : List Tp} {t : Tp} (h : okB L) (ht : 2 ≤ t.2 ∧ t.2 ≤ 99) : okB (app L t) := by
  simp only [app]; split
  · intro j hj
    by_cases e : j = L.length
    · subst e; rw [gd_app2]; exact ht
    · have hlt : j < L.length := by simp at hj; omega
      rw [gd_app1 _ _ _ hlt]; exact h j hlt
  · exact h
theorem rB_app {k s : Nat → Int32} {L : List Tp} {t : Tp} (h : rB k s L) (h12 : L.length < 12) : rB (upd k L.length t.1) (upd s L.length (nI t.2)) (app L t) := by
  simp only [app, if_pos h12]
  refine ⟨by simp; omega, fun j hj => ?_⟩
  by_cases e : j = L.length
  · subst e; rw [gd_app2, pk_us, pk_us]; exact ⟨rfl, rfl⟩
  · have hlt : j < L.length := by simp at hj; omega
    rw [gd_app1 _ _ _ hlt, pk_un e, pk_un e]; exact h.2 j hlt
theorem app_full {L : List Tp} {t : Tp} (h : ¬ L.length < 12) : app L t = L := by simp only [app, if_neg h]
-- a minute
def hrP (n : Nat) (p : Nat) : Nat := if 0 < n then p - (n / 20 + 1) else min 30 (p + 1)
def hrF (n mi : Nat) (t : Tk) : Tk := if tkX t = -1 then (tkK t, tkS t, tkE t, hrP n (tkP t), if hrP n (tkP t) = 0 then nI mi else -1) else t
def hrT (n mi : Nat) (T : List Tk) : List Tk := T.map (hrF n mi)
def dv (e : Int32) (mi : Nat) : Prop := nI mi - nI mi / e * e = 0
def skN (T : List Tk) (mi : Nat) (L : List Tp) : Nat → List Tp
  | 0 => L
  | i + 1 => if tkX (T.getD i tk0) = -1 ∧ nI mi - nI mi / tkE (T.getD i tk0) * tkE (T.getD i tk0) = 0 then app (skN T mi L i) (tkK (T.getD i tk0), tkS (T.getD i tk0)) else skN T mi L i
def sk (T : List Tk) (mi : Nat) (L : List Tp) : List Tp := skN T mi L T.length
theorem skN_ok {T : List Tk} {mi : Nat} {L : List Tp} (hL : okB L) (h12 : L.length ≤ 12) (hT : okT T) : ∀ i, i ≤ T.length → okB (skN T mi L i) ∧ (skN T mi L i).length ≤ 12
  | 0, _ => ⟨hL, h12⟩
  | i + 1, hi => by
    obtain ⟨h1, h2⟩ := skN_ok (mi := mi) hL h12 hT i (by omega)
    have h3 := hT i (by omega)
    simp only [skN]
    split
    · exact ⟨okB_app h1 ⟨h3.1, h3.2.1⟩, app_le h2⟩
    · exact ⟨h1, h2⟩
def mB1 (q : St) : List Tp := gnd (stS q) (stG q) (stB q)
def mB2 (q : St) : List Tp := sft (stM q) (mB1 q)
def mN1 (q : St) : Nat := stN q + ((stB q).length - (mB1 q).length)
def mT (q : St) : List Tk := hrT (ns (mB2 q)) (stI q) (stT q)
def mB3 (q : St) : List Tp := sk (mT q) (stI q) (mB2 q)
def mnt (q : St) : St := (mB3 q, mT q, stG q, stS q, stM q, mN1 q % 6, stO q + nI (mN1 q / 6), stV q + nI ((mB1 q).length - (mB2 q).length), stI q + 1)
def itS (q : St) : Nat → St
  | 0 => q
  | i + 1 => mnt (itS q i)
theorem okT_hr {n mi : Nat} {T : List Tk} (h : okT T) : okT (hrT n mi T) := by
  intro j hj
  have hj2 : j < T.length := by simpa [hrT] using hj
  have h1 := h j hj2
  rw [hrT, gd_map (d := tk0) _ _ _ hj2, hrF]
  split
  · refine ⟨h1.1, h1.2.1, h1.2.2.1, ?_⟩
    show hrP n _ ≤ 30
    have := h1.2.2.2
    simp only [hrP]
    split <;> omega
  · exact h1
theorem okS_mnt {q : St} (h : okS q) : okS (mnt q) := by
  obtain ⟨h1, h2, h3, h4, h5, h6, h7⟩ := h
  have b1 : okB (mB1 q) := okB_gnd h1
  have b2 : okB (mB2 q) := okB_sft b1
  have l1 : (mB1 q).length ≤ 12 := Nat.le_trans (gnd_len _ _ _) h2
  have l2 : (mB2 q).length ≤ 12 := Nat.le_trans (sft_len _ _) l1
  have t1 : okT (mT q) := okT_hr h3
  have b3 := skN_ok (mi := stI q) b2 l2 t1 (mT q).length (Nat.le_refl _)
  exact ⟨b3.1, b3.2, t1, by show (mT q).length ≤ 6; rw [mT, hrT, List.length_map]; exact h4, h5, h6, Nat.mod_lt _ (by omega)⟩
theorem okS_it {q : St} (h : okS q) : ∀ i, okS (itS q i)
  | 0 => h
  | i + 1 => okS_mnt (okS_it h i)
-- the first k of 0 to 100 with P, as both sides tell it
def fstR (P : Nat → Prop) (r : Int32) : Prop := (∃ k, k ≤ 100 ∧ P k ∧ (∀ j, j < k → ¬ P j) ∧ r = nI k) ∨ ((∀ j, j ≤ 100 → ¬ P j) ∧ r = -1)
theorem fstR_eq {P : Nat → Prop} {r1 r2 : Int32} (h1 : fstR P r1) (h2 : fstR P r2) : r1 = r2 := by
  rcases h1 with ⟨k, hk, hP, hn, e⟩ | ⟨hn, e⟩ <;> rcases h2 with ⟨k', hk', hP', hn', e'⟩ | ⟨hn', e'⟩
  · have : k = k' := by
      rcases Nat.lt_trichotomy k k' with h | h | h
      · exact absurd hP (hn' k h)
      · exact h
      · exact absurd hP' (hn k' h)
    rw [e, e', this]
  · exact absurd hP (hn' k hk)
  · exact absurd hP' (hn k' hk')
  · rw [e, e']
-- turns to a nod
def dvN (g s : Nat) : Nat → Nat
  | 0 => s
  | k + 1 => dvN g s k / g
def tnR (g s : Nat) (r : Int32) : Prop := ∃ k, dvN g s k < 2 ∧ (∀ j, j < k → ¬ dvN g s j < 2) ∧ r = nI k
theorem tnR_eq {g s : Nat} {r1 r2 : Int32} (h1 : tnR g s r1) (h2 : tnR g s r2) : r1 = r2 := by
  obtain ⟨k, hP, hn, e⟩ := h1
  obtain ⟨k', hP', hn', e'⟩ := h2
  have : k = k' := by
    rcases Nat.lt_trichotomy k k' with h | h | h
    · exact absurd hP (hn' k h)
    · exact h
    · exact absurd hP' (hn k' h)
  rw [e, e', this]
/-- a turn halves at least: fewer than 99 turns from a size of 99 at the most -/
theorem dvN_pow {g s : Nat} (hg : 2 ≤ g) (hs : s ≤ 99) : ∀ k, dvN g s k * 2 ^ k ≤ 99
  | 0 => by simpa [dvN] using hs
  | k + 1 => by
    have h := dvN_pow hg hs k
    have h2 : dvN g s k / g * 2 ≤ dvN g s k := by
      have := Nat.div_mul_le_self (dvN g s k) g
      have h3 : dvN g s k / g * 2 ≤ dvN g s k / g * g := Nat.mul_le_mul_left _ hg
      omega
    have h4 : dvN g s k / g * 2 ^ (k + 1) = (dvN g s k / g * 2) * 2 ^ k := by rw [Nat.pow_succ, Nat.mul_comm (2 ^ k) 2, Nat.mul_assoc]
    simp only [dvN]
    rw [h4]
    exact Nat.le_trans (Nat.mul_le_mul_right _ h2) h
theorem dvN_turns {g s k : Nat} (hg : 2 ≤ g) (hs : s ≤ 99) (h : 2 ≤ dvN g s k) : k < 98 := by
  have h1 := dvN_pow hg hs k
  rcases Nat.lt_or_ge k 98 with h2 | h2
  · exact h2
  · have h3 : 2 ^ 98 ≤ 2 ^ k := Nat.pow_le_pow_right (by omega) h2
    have h4 : 2 * 2 ^ 98 ≤ dvN g s k * 2 ^ k := Nat.mul_le_mul h h3
    have h5 : (2 : Nat) * 2 ^ 98 ≤ 99 := Nat.le_trans h4 h1
    exact absurd h5 (by decide)
theorem dvN_le (g s : Nat) : ∀ k, dvN g s k ≤ s
  | 0 => Nat.le_refl _
  | k + 1 => Nat.le_trans (Nat.div_le_self _ _) (dvN_le g s k)
-- what the belt's loops keep
theorem cn_t {P : Nat → Bool} {i : Nat} (h : P i = true) : cnN P (i + 1) = cnN P i + 1 := by simp [cnN, h]
theorem cn_f {P : Nat → Bool} {i : Nat} (h : P i = false) : cnN P (i + 1) = cnN P i := by simp [cnN, h]
theorem pf_lenS {F : Nat → Option Tp} {i : Nat} {t : Tp} (h : F i = some t) : (pf F (i + 1)).length = (pf F i).length + 1 := by rw [pf_some h]; simp
theorem pf_lenN {F : Nat → Option Tp} {i : Nat} (h : F i = none) : (pf F (i + 1)).length = (pf F i).length := by rw [pf_none h]
theorem gnZ_le {st g : Nat} {L : List Tp} (h : okB L) {i : Nat} (hi : i < L.length) : gnZ st g L i ≤ 99 := by
  have := (h i hi).2
  simp only [gnZ]
  split
  · exact Nat.le_trans (Nat.div_le_self _ _) this
  · exact this
theorem gnF_some {st g : Nat} {L : List Tp} {i : Nat} (h : 2 ≤ gnZ st g L i) : gnF st g L i = some ((L.getD i tp0).1, gnZ st g L i) := by rw [gnF, if_pos h]
theorem gnF_none {st g : Nat} {L : List Tp} {i : Nat} (h : gnZ st g L i < 2) : gnF st g L i = none := by rw [gnF, if_neg (by omega)]
theorem sfF_some {me : Int32} {L : List Tp} {i : Nat} (h : ¬ ((L.getD i tp0).1 = 0 ∧ nI (L.getD i tp0).2 < me)) : sfF me L i = some (L.getD i tp0) := by rw [sfF, if_neg h]
theorem sfF_none {me : Int32} {L : List Tp} {i : Nat} (h1 : (L.getD i tp0).1 = 0) (h2 : nI (L.getD i tp0).2 < me) : sfF me L i = none := by rw [sfF, if_pos ⟨h1, h2⟩]
/-- moved back by one, from t + 1 to j -/
def sh (k k1 : Nat → Int32) (t j : Nat) : Prop := ∀ q, k1 q = if t < q ∧ q ≤ j then k (q - 1) else k q
theorem sh_0 (k : Nat → Int32) (j : Nat) : sh k k j j := fun q => by rw [if_neg (by omega)]
theorem sh_s {k k1 : Nat → Int32} {t j : Nat} (h : sh k k1 (t + 1) j) (ht : t + 1 ≤ j) : sh k (upd k1 (t + 1) (k1 t)) t j := by
  intro q
  by_cases e : q = t + 1
  · subst e
    rw [pk_us, if_pos (by omega), h t, if_neg (by omega)]
    rfl
  · rw [pk_un e, h q]
    by_cases h1 : t + 1 < q ∧ q ≤ j
    · rw [if_pos h1, if_pos (by omega)]
    · rw [if_neg h1, if_neg (by omega)]
theorem mtf_len {L : List Tp} {j : Nat} (hj : j < L.length) : (mtf L j).length = L.length := by
  simp [mtf, List.length_eraseIdx, hj]; omega
theorem gd_er (L : List Tp) (j q : Nat) : (L.eraseIdx j).getD q tp0 = if q < j then L.getD q tp0 else L.getD (q + 1) tp0 := by
  simp only [List.getD_eq_getElem?_getD, List.getElem?_eraseIdx]
  split <;> rfl
theorem mtf_gd {L : List Tp} {j : Nat} (q : Nat) : (mtf L j).getD q tp0 = if q = 0 then L.getD j tp0 else if q ≤ j then L.getD (q - 1) tp0 else L.getD q tp0 := by
  cases q with
  | zero => simp [mtf]
  | succ q =>
    rw [if_neg (by omega)]
    show (L.eraseIdx j).getD q tp0 = _
    rw [gd_er]
    by_cases h : q < j
    · rw [if_pos h, if_pos (by omega)]; rfl
    · rw [if_neg h, if_neg (by omega)]
theorem rB_mtf {k s k1 s1 : Nat → Int32} {L : List Tp} {j : Nat} (h : rB k s L) (hj : j < L.length) (h1 : sh k k1 0 j) (h2 : sh s s1 0 j) : rB (upd k1 0 (k j)) (upd s1 0 (s j)) (mtf L j) := by
  refine ⟨by rw [mtf_len hj]; exact h.1, fun q hq => ?_⟩
  rw [mtf_len hj] at hq
  rw [mtf_gd]
  by_cases e : q = 0
  · subst e
    rw [pk_us, pk_us, if_pos rfl]; exact h.2 j hj
  · rw [pk_un e, pk_un e, if_neg e, h1 q, h2 q]
    by_cases h3 : q ≤ j
    · have e1 : 0 < q ∧ q ≤ j := by omega
      rw [if_pos e1, if_pos e1, if_pos h3]; exact h.2 (q - 1) (by omega)
    · have e1 : ¬ (0 < q ∧ q ≤ j) := by omega
      rw [if_neg e1, if_neg e1, if_neg h3]; exact h.2 q hq
/-- moved up by one, from j to i -/
def sd (k k1 : Nat → Int32) (j i : Nat) : Prop := ∀ q, k1 q = if j ≤ q ∧ q < i then k (q + 1) else k q
theorem sd_0 (k : Nat → Int32) (j : Nat) : sd k k j j := fun q => by rw [if_neg (by omega)]
theorem sd_s {k k1 : Nat → Int32} {j i : Nat} (h : sd k k1 j i) (hi : j ≤ i) : sd k (upd k1 i (k1 (i + 1))) j (i + 1) := by
  intro q
  by_cases e : q = i
  · subst e
    rw [pk_us, if_pos (by omega), h (q + 1), if_neg (by omega)]
  · rw [pk_un e, h q]
    by_cases h1 : j ≤ q ∧ q < i
    · rw [if_pos h1, if_pos (by omega)]
    · rw [if_neg h1, if_neg (by omega)]
theorem er_len {L : List Tp} {j : Nat} (hj : j < L.length) : (L.eraseIdx j).length = L.length - 1 := by
  simp [List.length_eraseIdx, hj]
theorem rB_er {k s k1 s1 : Nat → Int32} {L : List Tp} {j i : Nat} (h : rB k s L) (hj : j < L.length) (hi : L.length ≤ i + 1) (h1 : sd k k1 j i) (h2 : sd s s1 j i) : rB k1 s1 (L.eraseIdx j) := by
  refine ⟨by rw [er_len hj]; have := h.1; omega, fun q hq => ?_⟩
  rw [er_len hj] at hq
  rw [gd_er, h1 q, h2 q]
  by_cases h3 : q < j
  · have e1 : ¬ (j ≤ q ∧ q < i) := by omega
    rw [if_neg e1, if_neg e1, if_pos h3]; exact h.2 q (by omega)
  · have e1 : j ≤ q ∧ q < i := by omega
    rw [if_pos e1, if_pos e1, if_neg h3]; exact h.2 (q + 1) (by omega)
/-- the size of the largest so far -/
def lgM (L : List Tp) (i : Nat) : Nat := match am (fun _ => true) (bLg L) i with
  | none => 0
  | some b => (L.getD b tp0).2
theorem lgM_le {L : List Tp} (h : okB L) {i : Nat} (hi : i ≤ L.length) : lgM L i ≤ 99 := by
  simp only [lgM]
  split
  · omega
  · rename_i b hb
    have := (am_lt hb).1
    exact (h b (by omega)).2
theorem lg_keep {L : List Tp} (h : okB L) {i : Nat} (hi : i < L.length) (hle : (L.getD i tp0).2 ≤ lgM L i) : am (fun _ => true) (bLg L) (i + 1) = am (fun _ => true) (bLg L) i := by
  simp only [lgM] at hle
  cases h1 : am (fun _ => true) (bLg L) i with
  | none => rw [h1] at hle; have h9 := (h i hi).1; dsimp only at hle; omega
  | some b =>
    rw [h1] at hle
    rw [am_s h1, if_neg]
    intro hc
    have h9 : (L.getD b tp0).2 < (L.getD i tp0).2 := of_decide_eq_true hc.2
    dsimp only at hle
    omega
theorem lg_new {L : List Tp} {i : Nat} (hlt : lgM L i < (L.getD i tp0).2) : am (fun _ => true) (bLg L) (i + 1) = some i := by
  simp only [lgM] at hlt
  cases h1 : am (fun _ => true) (bLg L) i with
  | none => rw [am_n h1]; rfl
  | some b =>
    rw [h1] at hlt
    rw [am_s h1]
    exact if_pos ⟨rfl, decide_eq_true hlt⟩
theorem lgM_keep {L : List Tp} {i : Nat} (e : am (fun _ => true) (bLg L) (i + 1) = am (fun _ => true) (bLg L) i) : lgM L (i + 1) = lgM L i := by simp only [lgM, e]
theorem lgM_new {L : List Tp} {i : Nat} (e : am (fun _ => true) (bLg L) (i + 1) = some i) : lgM L (i + 1) = (L.getD i tp0).2 := by simp only [lgM, e]
theorem cpy_s {k s k2 s2 : Nat → Int32} {i : Nat} (h : ∀ q, q < i → k q = k2 q ∧ s q = s2 q) : ∀ q, q < i + 1 → upd k i (k2 i) q = k2 q ∧ upd s i (s2 i) q = s2 q := by
  intro q hq
  by_cases e : q = i
  · subst e; rw [pk_us, pk_us]; exact ⟨rfl, rfl⟩
  · rw [pk_un e, pk_un e]; exact h q (by omega)
