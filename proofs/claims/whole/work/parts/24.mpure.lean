/-! ===== the reference's one row of numbers ===== -/
abbrev rV (w : Nat → Int32) (L : List Tp) : Prop := rB (fun j => w (18 + j)) (fun j => w (6 + j)) L
abbrev rT (gi gs ge w : Nat → Int32) (T : List Tk) : Prop := rC gi gs ge (fun j => w (30 + j)) (fun j => w (36 + j)) T
def rN (gi gs ge w : Nat → Int32) (q : St) : Prop := w 0 = nI (stI q) ∧ w 1 = nI (stB q).length ∧ w 2 = nI (stN q) ∧ w 3 = stO q ∧ w 4 = stV q ∧ w 5 = nI (stG q) ∧ rV w (stB q) ∧ rT gi gs ge w (stT q)
/-- the belt alone has changed -/
def frB (w w1 : Nat → Int32) : Prop := ∀ j, (j < 6 ∧ j ≠ 1) ∨ 30 ≤ j → w1 j = w j
theorem rV_lo {w : Nat → Int32} {L : List Tp} {k : Nat} {x : Int32} (h : rV w L) (hk : k < 6) : rV (upd w k x) L :=
  ⟨h.1, fun j hj => ⟨(pk_un (show 18 + j ≠ k by omega)).trans (h.2 j hj).1, (pk_un (show 6 + j ≠ k by omega)).trans (h.2 j hj).2⟩⟩
theorem rT_of {gi gs ge w w1 : Nat → Int32} {T : List Tk} (h : rT gi gs ge w T) (hw : ∀ j, 30 ≤ j → w1 j = w j) : rT gi gs ge w1 T :=
  ⟨h.1, fun j hj => by
    obtain ⟨e1, e2, e3, e4, e5⟩ := h.2 j hj
    exact ⟨e1, e2, e3, (hw _ (by omega)).trans e4, (hw _ (by omega)).trans e5⟩⟩
theorem rV_of {w w1 : Nat → Int32} {L : List Tp} (h : rV w L) (hw : ∀ j, 6 ≤ j → j < 30 → w1 j = w j) : rV w1 L :=
  ⟨h.1, fun j hj => by
    have := h.1
    exact ⟨(hw _ (by omega) (by omega)).trans (h.2 j hj).1, (hw _ (by omega) (by omega)).trans (h.2 j hj).2⟩⟩
theorem rN_of {gi gs ge w w1 : Nat → Int32} {q : St} (h : rN gi gs ge w q) (hw : ∀ j, j < 42 → w1 j = w j) : rN gi gs ge w1 q := by
  obtain ⟨n0, n1, n2, n3, n4, n5, nB, nT⟩ := h
  refine ⟨(hw 0 (by omega)).trans n0, (hw 1 (by omega)).trans n1, (hw 2 (by omega)).trans n2, (hw 3 (by omega)).trans n3, (hw 4 (by omega)).trans n4, (hw 5 (by omega)).trans n5, rV_of nB (fun j _ h2 => hw j (by omega)), nT.1, fun j hj => ?_⟩
  obtain ⟨e1, e2, e3, e4, e5⟩ := nT.2 j hj
  have := nT.1
  exact ⟨e1, e2, e3, (hw _ (by omega)).trans e4, (hw _ (by omega)).trans e5⟩
theorem add_ok {w : Nat → Int32} {L : List Tp} {kd : Int32} {z : Nat} (hV : rV w L) (h12 : L.length < 12) : frB w (upd (upd (upd w (6 + L.length) (nI z)) (18 + L.length) kd) 1 (nI (L.length + 1))) ∧ upd (upd (upd w (6 + L.length) (nI z)) (18 + L.length) kd) 1 (nI (L.length + 1)) 1 = nI (app L (kd, z)).length ∧ rV (upd (upd (upd w (6 + L.length) (nI z)) (18 + L.length) kd) 1 (nI (L.length + 1))) (app L (kd, z)) := by
  have el : (app L (kd, z)).length = L.length + 1 := by rw [app, if_pos h12, List.length_append]; rfl
  refine ⟨fun j hj => ?_, by rw [pk_us, el], ?_⟩
  · rw [pk_un (by omega), pk_un (by omega), pk_un (by omega)]
  · refine rV_lo ?_ (by omega)
    refine ⟨by rw [el]; omega, fun j hj => ?_⟩
    rw [el] at hj
    rw [app, if_pos h12]
    by_cases e : j = L.length
    · subst e
      rw [gd_app2]
      exact ⟨pk_us, (pk_un (by omega)).trans pk_us⟩
    · have hlt : j < L.length := by omega
      rw [gd_app1 _ _ _ hlt]
      exact ⟨(pk_un (by omega)).trans ((pk_un (by omega)).trans (hV.2 j hlt).1), (pk_un (by omega)).trans ((pk_un (by omega)).trans (hV.2 j hlt).2)⟩
/-- leaving out, in the one row -/
def cmpM (N : Nat) (F : Nat → Option Tp) (w w1 : Nat → Int32) (i : Nat) : Prop :=
  (∀ j, j < (pf F i).length → w1 (18 + j) = ((pf F i).getD j tp0).1 ∧ w1 (6 + j) = nI ((pf F i).getD j tp0).2) ∧ (∀ j, i ≤ j → j < N → w1 (18 + j) = w (18 + j) ∧ w1 (6 + j) = w (6 + j)) ∧ ∀ j, j < 6 ∨ 30 ≤ j → w1 j = w j
theorem cmpM_0 (N : Nat) (F : Nat → Option Tp) (w : Nat → Int32) : cmpM N F w w 0 := ⟨fun j h => by simp [pf] at h, fun _ _ _ => ⟨rfl, rfl⟩, fun _ _ => rfl⟩
theorem cmpM_skip {N : Nat} {F : Nat → Option Tp} {w w1 : Nat → Int32} {i : Nat} (h : cmpM N F w w1 i) (hF : F i = none) : cmpM N F w w1 (i + 1) := by
  refine ⟨fun j hj => ?_, fun j hj hN => h.2.1 j (by omega) hN, h.2.2⟩
  rw [pf_none hF] at hj ⊢
  exact h.1 j hj
theorem cmpM_keep {N : Nat} {F : Nat → Option Tp} {w w1 : Nat → Int32} {i : Nat} {t : Tp} (hN : N ≤ 12) (hi : i < N) (h : cmpM N F w w1 i) (hF : F i = some t) : cmpM N F w (upd (upd w1 (6 + (pf F i).length) (nI t.2)) (18 + (pf F i).length) t.1) (i + 1) := by
  have hle := pf_le F i
  refine ⟨fun j hj => ?_, fun j hj hjN => ?_, fun j hj => ?_⟩
  · rw [pf_some hF] at hj ⊢
    by_cases e : j = (pf F i).length
    · subst e
      rw [gd_app2]
      exact ⟨pk_us, (pk_un (by omega)).trans pk_us⟩
    · have hlt : j < (pf F i).length := by simp at hj; omega
      rw [gd_app1 _ _ _ hlt]
      exact ⟨(pk_un (by omega)).trans ((pk_un (by omega)).trans (h.1 j hlt).1), (pk_un (by omega)).trans ((pk_un (by omega)).trans (h.1 j hlt).2)⟩
  · have h2 := h.2.1 j (by omega) hjN
    exact ⟨(pk_un (by omega)).trans ((pk_un (by omega)).trans h2.1), (pk_un (by omega)).trans ((pk_un (by omega)).trans h2.2)⟩
  · rw [pk_un (by omega), pk_un (by omega)]; exact h.2.2 j hj
theorem rV_cmpM {F : Nat → Option Tp} {w w1 : Nat → Int32} {N : Nat} {x : Int32} (hN : N ≤ 12) (h : cmpM N F w w1 N) : rV (upd w1 1 x) (pf F N) := rV_lo ⟨Nat.le_trans (pf_le F N) hN, h.1⟩ (by omega)
theorem fr_cmpM {F : Nat → Option Tp} {w w1 : Nat → Int32} {N : Nat} {x : Int32} (h : cmpM N F w w1 N) : frB w (upd w1 1 x) := fun j hj => by
  rw [pk_un (by omega)]; exact h.2.2 j (by omega)
def ndF (L : List Tp) (i : Nat) : Option Tp := if 2 ≤ (L.getD i tp0).2 then some (L.getD i tp0) else none
theorem ndF_some {L : List Tp} {i : Nat} (h : 2 ≤ (L.getD i tp0).2) : ndF L i = some (L.getD i tp0) := by rw [ndF, if_pos h]
theorem ndF_none {L : List Tp} {i : Nat} (h : (L.getD i tp0).2 < 2) : ndF L i = none := by rw [ndF, if_neg (by omega)]
theorem pf_congr {F G : Nat → Option Tp} : ∀ n, (∀ i, i < n → F i = G i) → pf F n = pf G n
  | 0, _ => rfl
  | n + 1, h => by
    have h1 := pf_congr n (fun i hi => h i (by omega))
    have h2 := h n (by omega)
    cases e : F n with
    | none => rw [pf_none e, pf_none (h2 ▸ e), h1]
    | some t => rw [pf_some e, pf_some (h2 ▸ e), h1]
/-- ground, and nothing left out yet -/
def dvL (st g : Nat) (L : List Tp) : List Tp := (List.range L.length).map (fun i => ((L.getD i tp0).1, gnZ st g L i))
theorem dvL_len (st g : Nat) (L : List Tp) : (dvL st g L).length = L.length := by simp [dvL]
theorem dvL_gd {st g : Nat} {L : List Tp} {i : Nat} (hi : i < L.length) : (dvL st g L).getD i tp0 = ((L.getD i tp0).1, gnZ st g L i) := by
  rw [dvL, gd_map (d := 0) _ _ _ (by simpa using hi)]
  simp [List.getD_eq_getElem?_getD, hi]
theorem dvL_nd (st g : Nat) (L : List Tp) : pf (ndF (dvL st g L)) (dvL st g L).length = gnd st g L := by
  rw [dvL_len]
  refine pf_congr _ (fun i hi => ?_)
  rw [ndF, gnF, dvL_gd hi]
def dvI (st g : Nat) (L : List Tp) (w w1 : Nat → Int32) (i : Nat) : Prop := (∀ j, j < L.length → w1 (6 + j) = nI (if j < i then (L.getD j tp0).2 / g else (L.getD j tp0).2)) ∧ ∀ j, j < 6 ∨ 18 ≤ j → w1 j = w j
theorem dvI_0 {st g : Nat} {L : List Tp} {w : Nat → Int32} (h : rV w L) : dvI st g L w w 0 := ⟨fun j hj => by rw [if_neg (by omega)]; exact (h.2 j hj).2, fun _ _ => rfl⟩
theorem dvI_s {st g : Nat} {L : List Tp} {w w1 : Nat → Int32} {i : Nat} (h12 : L.length ≤ 12) (hi : i < L.length) (h : dvI st g L w w1 i) : dvI st g L w (upd w1 (6 + i) (nI ((L.getD i tp0).2 / g))) (i + 1) := by
  refine ⟨fun j hj => ?_, fun j hj => ?_⟩
  · by_cases e : j = i
    · subst e; rw [pk_us, if_pos (by omega)]
    · rw [pk_un (by omega), h.1 j hj]
      by_cases h2 : j < i
      · rw [if_pos h2, if_pos (by omega)]
      · rw [if_neg h2, if_neg (by omega)]
  · rw [pk_un (by omega)]; exact h.2 j hj
theorem rV_dvI {st g : Nat} {L : List Tp} {w w1 : Nat → Int32} {i : Nat} (hV : rV w L) (hi : i = min st L.length) (h : dvI st g L w w1 i) : rV w1 (dvL st g L) := by
  have h12 := hV.1
  refine ⟨by rw [dvL_len]; exact hV.1, fun j hj => ?_⟩
  rw [dvL_len] at hj
  rw [dvL_gd hj]
  refine ⟨(h.2 _ (by omega)).trans (hV.2 j hj).1, (h.1 j hj).trans ?_⟩
  show _ = nI (gnZ st g L j)
  rw [gnZ]
  by_cases h2 : j < st
  · rw [if_pos h2, if_pos (by omega)]
  · rw [if_neg h2, if_neg (by omega)]
theorem mn_eq {a b : Nat} (ha : a < 2147483648) (hb : b < 2147483648) : (if nI b < nI a then nI b else nI a) = nI (min a b) := by
  by_cases h : b < a
  · rw [if_pos ((nI_ltI hb ha).mpr h), Nat.min_eq_right (by omega)]
  · rw [if_neg (fun h2 => h ((nI_ltI hb ha).mp h2)), Nat.min_eq_left (by omega)]
-- a minute's talk
def isG (z : Nat) (T : List Tk) (i : Nat) : Bool := decide (tkX (T.getD i tk0) = -1 ∧ hrP z (tkP (T.getD i tk0)) = 0)
def hriM (z mi : Nat) (T : List Tk) (w w1 : Nat → Int32) (i : Nat) : Prop := (∀ q, q < i → w1 (30 + q) = nI (tkP (hrF z mi (T.getD q tk0))) ∧ w1 (36 + q) = tkX (hrF z mi (T.getD q tk0))) ∧ (∀ q, i ≤ q → q < T.length → w1 (30 + q) = w (30 + q) ∧ w1 (36 + q) = w (36 + q)) ∧ ∀ j, j < 30 → w1 j = w j
theorem hriM_0 (z mi : Nat) (T : List Tk) (w : Nat → Int32) : hriM z mi T w w 0 := ⟨fun _ h => absurd h (by omega), fun _ _ _ => ⟨rfl, rfl⟩, fun _ _ => rfl⟩
theorem hriM_skip {z mi : Nat} {T : List Tk} {gi gs ge w w1 : Nat → Int32} {i : Nat} (h : hriM z mi T w w1 i) (hC : rT gi gs ge w T) (hi : i < T.length) (hx : ¬ tkX (T.getD i tk0) = -1) : hriM z mi T w w1 (i + 1) := by
  refine ⟨fun q hq => ?_, fun q hq hN => h.2.1 q (by omega) hN, h.2.2⟩
  by_cases e : q = i
  · subst e
    obtain ⟨-, -, -, e4, e5⟩ := hC.2 q hi
    obtain ⟨h1, h2⟩ := h.2.1 q (Nat.le_refl _) hi
    rw [hrF, if_neg hx]
    exact ⟨h1.trans e4, h2.trans e5⟩
  · exact h.1 q (by omega)
theorem hriM_keep {z mi : Nat} {T : List Tk} {gi gs ge w w1 : Nat → Int32} {i : Nat} (h : hriM z mi T w w1 i) (hC : rT gi gs ge w T) (hi : i < T.length) (hx : tkX (T.getD i tk0) = -1) (h0 : 0 < hrP z (tkP (T.getD i tk0))) : hriM z mi T w (upd w1 (30 + i) (nI (hrP z (tkP (T.getD i tk0))))) (i + 1) := by
  have h6 := hC.1
  refine ⟨fun q hq => ?_, fun q hq hN => ?_, fun j hj => ?_⟩
  · by_cases e : q = i
    · subst e
      obtain ⟨-, -, -, e4, e5⟩ := hC.2 q hi
      obtain ⟨h1, h2⟩ := h.2.1 q (Nat.le_refl _) hi
      rw [hrF, if_pos hx, pk_us, pk_un (by omega)]
      refine ⟨rfl, ?_⟩
      show w1 (36 + q) = if hrP z (tkP (T.getD q tk0)) = 0 then nI mi else -1
      rw [if_neg (by omega)]
      exact (h2.trans e5).trans hx
    · rw [pk_un (by omega), pk_un (by omega)]; exact h.1 q (by omega)
  · rw [pk_un (by omega), pk_un (by omega)]; exact h.2.1 q (by omega) hN
  · rw [pk_un (by omega)]; exact h.2.2 j hj
theorem hriM_gone {z mi : Nat} {T : List Tk} {gi gs ge w w1 : Nat → Int32} {i : Nat} (h : hriM z mi T w w1 i) (hC : rT gi gs ge w T) (hi : i < T.length) (hx : tkX (T.getD i tk0) = -1) (h0 : hrP z (tkP (T.getD i tk0)) = 0) : hriM z mi T w (upd (upd w1 (30 + i) (nI (hrP z (tkP (T.getD i tk0))))) (36 + i) (nI mi)) (i + 1) := by
  have h6 := hC.1
  refine ⟨fun q hq => ?_, fun q hq hN => ?_, fun j hj => ?_⟩
  · by_cases e : q = i
    · subst e
      rw [hrF, if_pos hx, pk_us, pk_un (by omega), pk_us]
      refine ⟨rfl, ?_⟩
      show nI mi = if hrP z (tkP (T.getD q tk0)) = 0 then nI mi else -1
      rw [if_pos h0]
    · rw [pk_un (by omega), pk_un (by omega), pk_un (by omega), pk_un (by omega)]; exact h.1 q (by omega)
  · rw [pk_un (by omega), pk_un (by omega), pk_un (by omega), pk_un (by omega)]; exact h.2.1 q (by omega) hN
  · rw [pk_un (by omega), pk_un (by omega)]; exact h.2.2 j hj
theorem rT_hr {z mi : Nat} {T : List Tk} {gi gs ge w w1 : Nat → Int32} (hC : rT gi gs ge w T) (h : hriM z mi T w w1 T.length) : rT gi gs ge w1 (hrT z mi T) := by
  have hl : (hrT z mi T).length = T.length := hrT_len _ _ _
  refine ⟨by rw [hl]; exact hC.1, fun j hj => ?_⟩
  rw [hl] at hj
  obtain ⟨e1, e2, e3, -, -⟩ := hC.2 j hj
  obtain ⟨h1, h2⟩ := h.1 j hj
  rw [hrT, gd_map (d := tk0) _ _ _ hj]
  refine ⟨?_, ?_, ?_, h1, h2⟩
  · rw [hrF]; split
    · exact e1
    · exact e1
  · rw [hrF]; split
    · exact e2
    · exact e2
  · rw [hrF]; split
    · exact e3
    · exact e3
def mxM (v : Int32) : Int32 := if nI 0 < v then v else nI 0
theorem tk_fin1 : ∀ p, p < 31 → ∀ k, k < 60 → mxM (nI p - nI k - nI 1) = nI (p - (k + 1)) := by decide +kernel
theorem tk_fin2 : ∀ p, p < 31 → (if nI (p + 1) < nI 30 then nI (p + 1) else nI 30) = nI (min 30 (p + 1)) := by decide +kernel
theorem tk_eq1 {z p : Nat} (h : 0 < z) (hz : z ≤ 1188) (hp : p ≤ 30) : (if nI 0 < nI p - nI (z / 20) - nI 1 then nI p - nI (z / 20) - nI 1 else nI 0) = nI (hrP z p) := by
  show mxM _ = _
  rw [hrP, if_pos h]
  exact tk_fin1 p (by omega) (z / 20) (by omega)
theorem tk_eq2 {z p : Nat} (h : z = 0) (hp : p ≤ 30) : (if nI (p + 1) < nI 30 then nI (p + 1) else nI 30) = nI (hrP z p) := by
  subst h
  have e : hrP 0 p = min 30 (p + 1) := if_neg (by decide)
  rw [e]
  exact tk_fin2 p (by omega)
theorem nI_ne_m1 {n : Nat} (h : n < 2147483648) : ¬ nI n = -1 := by
  intro e
  have h1 : (nI n).toInt = (-1 : Int32).toInt := by rw [e]
  rw [nI_toInt h] at h1
  have h2 : (-1 : Int32).toInt = -1 := by decide
  omega
theorem go_s {z mi : Nat} {T : List Tk} (hmi : mi < 2147483648) : ∀ i, i ≤ T.length → cnN (isT (hrT z mi T)) i + cnN (isG z T) i = cnN (isT T) i
  | 0, _ => rfl
  | i + 1, hi => by
    have h1 := go_s (z := z) (T := T) hmi i (by omega)
    have hg : (hrT z mi T).getD i tk0 = hrF z mi (T.getD i tk0) := by rw [hrT, gd_map (d := tk0) _ _ _ (by omega)]
    by_cases hx : tkX (T.getD i tk0) = -1
    · by_cases h0 : hrP z (tkP (T.getD i tk0)) = 0
      · have e1 : isT (hrT z mi T) i = false := isT_f (by
          rw [hg, hrF, if_pos hx]
          show ¬ (if hrP z (tkP (T.getD i tk0)) = 0 then nI mi else -1) = -1
          rw [if_pos h0]; exact nI_ne_m1 hmi)
        have e2 : isG z T i = true := decide_eq_true ⟨hx, h0⟩
        rw [cn_f e1, cn_t e2, cn_t (isT_t hx)]; omega
      · have e1 : isT (hrT z mi T) i = true := isT_t (by
          rw [hg, hrF, if_pos hx]
          show (if hrP z (tkP (T.getD i tk0)) = 0 then nI mi else -1) = -1
          rw [if_neg h0])
        have e2 : isG z T i = false := decide_eq_false (fun h => h0 h.2)
        rw [cn_t e1, cn_f e2, cn_t (isT_t hx)]; omega
    · have e1 : isT (hrT z mi T) i = false := isT_f (by rw [hg, hrF, if_neg hx]; exact hx)
      have e2 : isG z T i = false := decide_eq_false (fun h => hx h.1)
      rw [cn_f e1, cn_f e2, cn_f (isT_f hx)]; omega
theorem go_eq {z mi : Nat} {T : List Tk} (hmi : mi < 2147483648) : cnN (isG z T) T.length = ctT T - ctT (hrT z mi T) := by
  have := go_s (z := z) (T := T) hmi T.length (Nat.le_refl _)
  simp only [ctT]; rw [hrT_len]; omega
theorem stI_it (q : St) : ∀ i, stI (itS q i) = stI q + i
  | 0 => rfl
  | i + 1 => by
    have := stI_it q i
    show stI (itS q i) + 1 = _
    omega
theorem k_predout {x : Int32} {n : Nat} (hn : n < 2147483648) (hx : ∀ j, j < n → ¬ x = nI j) : ¬ (nI 0 ≤ x ∧ x ≤ nI n - nI 1) := by
  intro ⟨h1, h2⟩
  rcases Nat.eq_zero_or_pos n with h0 | h0
  · subst h0
    have h3 : nI 0 ≤ nI 0 - nI 1 := Int32.le_trans h1 h2
    exact absurd h3 (by decide +kernel)
  · rw [pk_sub h0] at h2
    have h3 : ¬ x < 0 := fun h => by
      have h4 : nI 0 < nI 0 := Int32.lt_of_le_of_lt h1 h
      exact absurd h4 (by decide +kernel)
    rcases pk_ix x (n := n) hn with h | h | ⟨j, hj, e⟩
    · exact h3 h
    · have h5 : nI n ≤ nI (n - 1) := Int32.le_trans h h2
      exact absurd ((nI_leI hn (by omega)).mp h5) (by omega)
    · exact hx j hj e
theorem cpy42 {f g : Nat → Int32} {j : Nat} (hj : j < 42) : va_cpy f g 0 0 42 j = f j := by
  rw [pk_cpy_in (by omega) (by omega)]
  simp
theorem dvL_sz {st g : Nat} {L : List Tp} (h : okB L) : ∀ j, j < (dvL st g L).length → ((dvL st g L).getD j tp0).2 ≤ 99 := fun j hj => by
  rw [dvL_len] at hj
  rw [dvL_gd hj]
  exact gnZ_le h hj
theorem stS_it (q : St) : ∀ i, stS (itS q i) = stS q
  | 0 => rfl
  | i + 1 => stS_it q i
theorem stM_it (q : St) : ∀ i, stM (itS q i) = stM q
  | 0 => rfl
  | i + 1 => stM_it q i
theorem go_add (q : St) (i : Nat) : ctT (stT q) - ctT (stT (itS q i)) + (ctT (stT (itS q i)) - ctT (stT (mnt (itS q i)))) = ctT (stT q) - ctT (stT (itS q (i + 1))) := by
  have h1 := ctT_it q i
  have h2 : ctT (stT (mnt (itS q i))) ≤ ctT (stT (itS q i)) := ctT_hr _ _ _
  show _ = ctT (stT q) - ctT (stT (mnt (itS q i)))
  omega
