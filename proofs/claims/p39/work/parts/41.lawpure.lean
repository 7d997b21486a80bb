/-! ===== what the law checks, as numbers ===== -/
theorem mx_if {a b : Nat} (ha : a < 2 ^ 31) (hb : b < 2 ^ 31) : (if nI a < nI b then nI b else nI a) = nI (max a b) := by
  by_cases h : a < b
  · rw [if_pos ((nI_ltI ha hb).mpr h), Nat.max_eq_right (by omega)]
  · rw [if_neg (fun h2 => h ((nI_ltI ha hb).mp h2)), Nat.max_eq_left (by omega)]
theorem mn_if {a b : Nat} (ha : a < 2 ^ 31) (hb : b < 2 ^ 31) : (if nI b < nI a then nI b else nI a) = nI (min a b) := by
  by_cases h : b < a
  · rw [if_pos ((nI_ltI hb ha).mpr h), Nat.min_eq_right (by omega)]
  · rw [if_neg (fun h2 => h ((nI_ltI hb ha).mp h2)), Nat.min_eq_left (by omega)]
def mxN (L : List Tp) : Nat → Nat
  | 0 => 0
  | i + 1 => max (mxN L i) (L.getD i tp0).2
theorem mxN_le {L : List Tp} (h : okB L) : ∀ i, i ≤ L.length → mxN L i ≤ 99
  | 0, _ => by simp [mxN]
  | i + 1, hi => by
    have h1 := mxN_le h i (by omega)
    have h2 := (h i (by omega)).2
    simp only [mxN]
    omega
theorem mxN_ge {L : List Tp} : ∀ i j, j < i → (L.getD j tp0).2 ≤ mxN L i
  | 0, _, h => absurd h (by omega)
  | i + 1, j, h => by
    simp only [mxN]
    by_cases e : j = i
    · subst e; exact Nat.le_max_right _ _
    · exact Nat.le_trans (mxN_ge i j (by omega)) (Nat.le_max_left _ _)
theorem lgM_mx {L : List Tp} (h : okB L) : ∀ i, i ≤ L.length → lgM L i = mxN L i
  | 0, _ => rfl
  | i + 1, hi => by
    have ih := lgM_mx h i (by omega)
    by_cases hc : lgM L i < (L.getD i tp0).2
    · rw [lgM_new (lg_new hc), mxN, ← ih, Nat.max_eq_right (by omega)]
    · rw [lgM_keep (lg_keep h (by omega) (by omega)), mxN, ← ih, Nat.max_eq_left (by omega)]
theorem am_ex {ok : Nat → Bool} {bt : Nat → Nat → Bool} (hok : ∀ i, ok i = true) (i : Nat) : ∃ b, am ok bt (i + 1) = some b := by
  cases h : am ok bt i with
  | none => exact ⟨i, by rw [am_n h, if_pos (hok i)]⟩
  | some b =>
    rw [am_s h]
    split
    · exact ⟨i, rfl⟩
    · exact ⟨b, rfl⟩
theorem lg_spec {L : List Tp} (h : okB L) (h0 : 0 < L.length) : ∃ b, b < L.length ∧ lgst L = some b ∧ (L.getD b tp0).2 = mxN L L.length := by
  obtain ⟨b, hb⟩ := am_ex (ok := fun _ => true) (bt := bLg L) (fun _ => rfl) (L.length - 1)
  rw [show L.length - 1 + 1 = L.length by omega] at hb
  refine ⟨b, (am_lt hb).1, hb, ?_⟩
  rw [← lgM_mx h L.length (Nat.le_refl _)]
  simp only [lgM, hb]
theorem lg_zero {L : List Tp} (h0 : L.length = 0) : lgst L = none := by
  simp only [lgst, h0, am]
def kN (L : List Tp) : Nat → Nat
  | 0 => 0
  | i + 1 => kN L i + ctB (nI i) L
theorem kN_le (L : List Tp) : ∀ i, kN L i ≤ i * L.length
  | 0 => by simp [kN]
  | i + 1 => by
    have h1 := kN_le L i
    have h2 : ctB (nI i) L ≤ L.length := cnN_le _ _
    simp only [kN]
    rw [Nat.add_mul, Nat.one_mul]
    omega
theorem kN_5 {L : List Tp} (h : ∀ t ∈ L, okF t) : kN L 5 = L.length := by
  have key : ∀ i, i ≤ L.length → cnN (isK (nI 0) L) i + cnN (isK (nI 1) L) i + cnN (isK (nI 2) L) i + cnN (isK (nI 3) L) i + cnN (isK (nI 4) L) i = i := by
    intro i
    induction i with
    | zero => intro _; rfl
    | succ i ih =>
      intro hi
      have ih := ih (by omega)
      obtain ⟨k, hk, e⟩ := h _ (gd_mem (d := tp0) (show i < L.length by omega))
      simp only [cnN, isK, e]
      rcases (show k = 0 ∨ k = 1 ∨ k = 2 ∨ k = 3 ∨ k = 4 by omega) with h1 | h1 | h1 | h1 | h1 <;> subst h1 <;> simp (decide := true) only [↓reduceIte] <;> omega
  have := key L.length (Nat.le_refl _)
  simp only [kN, ctB]
  omega
theorem tnR_rng {g s : Nat} {r : Int32} (hg : 2 ≤ g) (hs : 2 ≤ s ∧ s ≤ 99) (h : tnR g s r) : ∃ k, 1 ≤ k ∧ k ≤ 6 ∧ r = nI k := by
  obtain ⟨k, hP, hn, e⟩ := h
  refine ⟨k, ?_, ?_, e⟩
  · rcases Nat.eq_zero_or_pos k with h0 | h0
    · subst h0
      have : dvN g s 0 < 2 := hP
      simp only [dvN] at this
      omega
    · exact h0
  · rcases Nat.lt_or_ge 6 k with h6 | h6
    · exfalso
      have h1 := hn 6 h6
      have h2 := dvN_pow hg hs.2 6
      have h3 : 2 * 2 ^ 6 ≤ dvN g s 6 * 2 ^ 6 := Nat.mul_le_mul_right _ (by omega)
      omega
    · exact h6
-- talkers
def spA (T : List Tk) : Nat → Nat
  | 0 => 0
  | i + 1 => spA T i + tkP (T.getD i tk0)
theorem spA_sp {T : List Tk} (h : ∀ i, i < T.length → ¬ tkX (T.getD i tk0) = -1 → tkP (T.getD i tk0) = 0) : ∀ i, i ≤ T.length → spA T i = spN T i
  | 0, _ => rfl
  | i + 1, hi => by
    have ih := spA_sp h i (by omega)
    by_cases hx : tkX (T.getD i tk0) = -1
    · rw [sp_t hx, spA, ih]
    · rw [sp_f hx, spA, ih, h i (by omega) hx]; omega
theorem ltP_t {T : List Tk} (h : okT T) {i : Nat} (hi : i < T.length) (hx : tkX (T.getD i tk0) = -1) : ltP T (i + 1) = min (ltP T i) (tkP (T.getD i tk0)) := by
  by_cases hc : tkP (T.getD i tk0) < ltP T i
  · rw [ltP_new (lp_new hx hc), Nat.min_eq_right (by omega)]
  · rw [ltP_keep (lp_keep h hi (by omega)), Nat.min_eq_left (by omega)]
theorem ltP_f {T : List Tk} {i : Nat} (hx : ¬ tkX (T.getD i tk0) = -1) : ltP T (i + 1) = ltP T i := ltP_keep (lp_skip hx)
theorem nt_some {T : List Tk} : ∀ i, 0 < cnN (isT T) i → ∃ b, am (isT T) (bPt T) i = some b
  | 0, h => absurd h (by simp [cnN])
  | i + 1, h => by
    cases h1 : am (isT T) (bPt T) i with
    | some b =>
      rw [am_s h1]
      split
      · exact ⟨i, rfl⟩
      · exact ⟨b, rfl⟩
    | none =>
      rw [am_n h1]
      by_cases hx : isT T i = true
      · exact ⟨i, by rw [if_pos hx]⟩
      · exfalso
        have h2 : cnN (isT T) i = 0 := by
          rcases Nat.eq_zero_or_pos (cnN (isT T) i) with h3 | h3
          · exact h3
          · obtain ⟨b, hb⟩ := nt_some i h3
            rw [h1] at hb; cases hb
        simp only [cnN, h2, if_neg hx] at h
        omega
theorem cn_pos {P : Nat → Bool} : ∀ {i b : Nat}, b < i → P b = true → 0 < cnN P i
  | 0, _, h, _ => absurd h (by omega)
  | i + 1, b, h, hb => by
    simp only [cnN]
    by_cases e : b = i
    · subst e; rw [if_pos hb]; omega
    · have := cn_pos (i := i) (show b < i by omega) hb
      omega
theorem nt_none {T : List Tk} (h : ctT T = 0) : ntg T = none := by
  cases h1 : ntg T with
  | none => rfl
  | some b =>
    exfalso
    have h2 := am_lt h1
    have h3 : 0 < cnN (isT T) T.length := cn_pos h2.1 h2.2
    simp only [ctT] at h
    omega
theorem nt_spec {T : List Tk} (h : 0 < ctT T) : ∃ b, b < T.length ∧ ntg T = some b ∧ tkX (T.getD b tk0) = -1 ∧ tkP (T.getD b tk0) = ltP T T.length := by
  obtain ⟨b, hb⟩ := nt_some T.length h
  have h2 := am_lt hb
  refine ⟨b, h2.1, hb, of_decide_eq_true h2.2, ?_⟩
  simp only [ltP, hb]
theorem fst_ne {P : Nat → Prop} {r : Int32} (h : fstR P r) (h0 : ¬ P 0) : ¬ r = 0 := by
  rcases h with ⟨k, hk, hP, -, e⟩ | ⟨-, e⟩
  · rcases Nat.eq_zero_or_pos k with h1 | h1
    · subst h1; exact absurd hP h0
    · rw [e]; exact nI_ne0 h1 (by omega)
  · rw [e]; decide
theorem fst_eq {P : Nat → Prop} {r : Int32} (h : fstR P r) (h0 : P 0) : r = 0 := by
  rcases h with ⟨k, hk, -, hn, e⟩ | ⟨hn, -⟩
  · rcases Nat.eq_zero_or_pos k with h1 | h1
    · subst h1; rw [e]; exact nI_0
    · exact absurd h0 (hn 0 h1)
  · exact absurd h0 (hn 0 (by omega))
theorem fst_one {P : Nat → Prop} {r : Int32} (h : fstR P r) (h0 : ¬ P 0) (h1 : P 1) : r = nI 1 := by
  rcases h with ⟨k, hk, hP, hn, e⟩ | ⟨hn, -⟩
  · rcases (show k = 0 ∨ k = 1 ∨ 1 < k by omega) with h2 | h2 | h2
    · subst h2; exact absurd hP h0
    · subst h2; exact e
    · exact absurd h1 (hn 1 h2)
  · exact absurd h1 (hn 1 (by omega))
theorem fst_not {P : Nat → Prop} {r : Int32} (h : fstR P r) (h1 : ¬ P 1) : ¬ r = nI 1 := by
  rcases h with ⟨k, hk, hP, hn, e⟩ | ⟨-, e⟩
  · intro e2
    have : k = 1 := (nI_eq (by omega) (by omega)).mp (e.symm.trans e2)
    subst this
    exact h1 hP
  · rw [e]; decide
-- the best
theorem amF_min {F : Nat → Nat} : ∀ {i b : Nat}, amF F i = some b → b < i ∧ ∀ j, j < i → F b ≤ F j ∧ (F b = F j → b ≤ j)
  | 0, b, h => by simp [amF, am] at h
  | i + 1, b, h => by
    cases h1 : amF F i with
    | none =>
      rcases Nat.eq_zero_or_pos i with h0 | h0
      · subst h0
        have h2 : am (fun _ => true) (bF F) (0 + 1) = some b := h
        rw [am_n h1, if_pos rfl] at h2
        cases h2
        exact ⟨by omega, fun j hj => by obtain rfl : j = 0 := (by omega); exact ⟨Nat.le_refl _, fun _ => Nat.le_refl _⟩⟩
      · exfalso
        obtain ⟨b2, hb2⟩ := am_ex (ok := fun _ => true) (bt := bF F) (fun _ => rfl) (i - 1)
        rw [show i - 1 + 1 = i by omega] at hb2
        have : amF F i = some b2 := hb2
        rw [h1] at this; cases this
    | some b2 =>
      obtain ⟨h3, h4⟩ := amF_min h1
      have h2 : am (fun _ => true) (bF F) (i + 1) = some b := h
      rw [am_s h1] at h2
      split at h2
      · rename_i hc
        cases h2
        have hlt : F i < F b2 := of_decide_eq_true hc.2
        refine ⟨by omega, fun j hj => ?_⟩
        by_cases e : j = i
        · subst e; exact ⟨Nat.le_refl _, fun _ => Nat.le_refl _⟩
        · have := h4 j (by omega)
          exact ⟨by omega, fun e2 => by omega⟩
      · rename_i hc
        cases h2
        refine ⟨by omega, fun j hj => ?_⟩
        by_cases e : j = i
        · subst e
          have hge : ¬ F j < F b := fun h5 => hc ⟨rfl, decide_eq_true h5⟩
          exact ⟨by omega, fun _ => by omega⟩
        · exact h4 j (by omega)
abbrev GNs (q : St) (g : Nat) : Nat := ns (stB (itS (setG q g) 10))
abbrev PNs (q : St) (j : Nat) : Nat := ns (stB (itS (setB q (mtf (stB q) j)) 5))
theorem bg_spec (q : St) : ∃ bg, (2 ≤ bg ∧ bg ≤ 9) ∧ bgS q = nI bg ∧ ∀ g, 2 ≤ g → g ≤ 9 → GNs q bg ≤ GNs q g ∧ (GNs q bg = GNs q g → bg ≤ g) := by
  obtain ⟨b, hb⟩ := am_ex (ok := fun _ => true) (bt := bF (gN q)) (fun _ => rfl) 7
  obtain ⟨h1, h2⟩ := amF_min (F := gN q) hb
  refine ⟨b + 2, ⟨by omega, by omega⟩, ?_, fun g hg1 hg2 => ?_⟩
  · rw [bgS, show amF (gN q) 8 = some b from hb]; rfl
  · have h3 := h2 (g - 2) (by omega)
    rw [gN_eq (show b ≤ 7 by omega), gN_eq (show g - 2 ≤ 7 by omega), show g - 2 + 2 = g by omega] at h3
    exact ⟨h3.1, fun e => by have := h3.2 e; omega⟩
theorem bp_spec {q : St} (h0 : 0 < (stB q).length) : ∃ bp, bp < (stB q).length ∧ bpS q = nI bp ∧ ∀ j, j < (stB q).length → PNs q bp ≤ PNs q j ∧ (PNs q bp = PNs q j → bp ≤ j) := by
  obtain ⟨b, hb⟩ := am_ex (ok := fun _ => true) (bt := bF (pN q)) (fun _ => rfl) ((stB q).length - 1)
  rw [show (stB q).length - 1 + 1 = (stB q).length by omega] at hb
  obtain ⟨h1, h2⟩ := amF_min (F := pN q) hb
  refine ⟨b, h1, ?_, fun j hj => ?_⟩
  · rw [bpS, show amF (pN q) (stB q).length = some b from hb]; rfl
  · have h3 := h2 j hj
    rw [pN_eq h1, pN_eq hj] at h3
    exact h3
theorem bp_none {q : St} (h0 : (stB q).length = 0) : bpS q = -1 := by
  rw [bpS, h0]; rfl
-- sums
theorem nsN_take (L : List Tp) : ∀ i, i ≤ L.length → nsN L i = ((L.take i).map (·.2)).sum
  | 0, _ => by simp [nsN]
  | i + 1, hi => by
    have ih := nsN_take L i (by omega)
    have e : L.take (i + 1) = L.take i ++ [L.getD i tp0] := by
      rw [List.take_add_one]
      simp [List.getD_eq_getElem?_getD, show i < L.length by omega]
    rw [e, nsN, ih]
    simp
theorem ns_sum (L : List Tp) : ns L = (L.map (·.2)).sum := by
  rw [ns, nsN_take L _ (Nat.le_refl _), List.take_length]
theorem ns_mtf {L : List Tp} {j : Nat} (hj : j < L.length) : ns (mtf L j) = ns L := by
  rw [ns_sum, ns_sum]
  exact ((cons_er (d := tp0) hj).map _).sum_nat
-- a minute
theorem sk_ge {T : List Tk} {mi : Nat} {L : List Tp} : ∀ i, L.length ≤ (skN T mi L i).length ∧ (skN T mi L i).length ≤ L.length + i
  | 0 => ⟨Nat.le_refl _, Nat.le_refl _⟩
  | i + 1 => by
    have ih := sk_ge (T := T) (mi := mi) (L := L) i
    simp only [skN]
    split
    · simp only [app]
      split
      · rw [List.length_append]; simp only [List.length_singleton]; omega
      · omega
    · omega
theorem sk_pre {T : List Tk} {mi : Nat} {L : List Tp} {j : Nat} (hj : j < L.length) : ∀ i, (skN T mi L i).getD j tp0 = L.getD j tp0
  | 0 => rfl
  | i + 1 => by
    have ih := sk_pre (T := T) (mi := mi) hj i
    have hge := (sk_ge (T := T) (mi := mi) (L := L) i).1
    simp only [skN]
    split
    · simp only [app]
      split
      · rw [gd_app1 _ _ _ (by omega)]; exact ih
      · exact ih
    · exact ih
theorem mB2_mx {q : St} {M : Nat} (h : ∀ j, j < (stB q).length → ((stB q).getD j tp0).2 ≤ M) : ∀ j, j < (mB2 q).length → ((mB2 q).getD j tp0).2 ≤ M := by
  intro j hj
  have h1 : (mB2 q).getD j tp0 ∈ mB2 q := gd_mem hj
  rw [mB2, sft_fl] at h1
  have h2 := (List.mem_filter.mp h1).1
  obtain ⟨i, hi, h3⟩ := pf_mem h2
  simp only [gnF] at h3
  split at h3
  · have h4 := congrArg (fun t : Option Tp => (t.getD tp0).2) h3
    have h5 : gnZ (stS q) (stG q) (stB q) i = ((mB2 q).getD j tp0).2 := by
      rw [mB2, sft_fl]; exact h4
    have h6 := h i hi
    rw [← h5, gnZ]
    split
    · exact Nat.le_trans (Nat.div_le_self _ _) h6
    · exact h6
  · cases h3
theorem mT_gd {q : St} {i : Nat} (hi : i < (stT q).length) : (stT (mnt q)).getD i tk0 = hrF (ns (mB2 q)) (stI q) ((stT q).getD i tk0) := gd_map (d := tk0) _ _ _ hi
theorem du_fin : ∀ p, p < 31 → ∀ d, d < 61 → (if nI 0 < nI p - nI d - nI 1 then nI p - nI d - nI 1 else nI 0) = nI (p - (d + 1)) := by decide +kernel
theorem du_y {z p : Nat} (hz : 0 < z) (hz2 : z ≤ 1188) (hp : p ≤ 30) : (if nI 0 < nI p - nI (z / 20) - nI 1 then nI p - nI (z / 20) - nI 1 else nI 0) = nI (hrP z p) := by
  rw [du_fin p (by omega) (z / 20) (by omega), hrP, if_pos hz]
theorem du_n {p : Nat} (hp : p ≤ 30) : (if nI (p + 1) < nI 30 then nI (p + 1) else nI 30) = nI (hrP 0 p) := by
  rw [mn_if (by omega) (by omega), hrP, if_neg (by omega)]
theorem mn_out {q : St} {o v : Nat} (h : okS q) : (mN1 q % 6) + 6 * (o + mN1 q / 6) + (v + ((mB1 q).length - (mB2 q).length)) - (stN q + 6 * o + v) = (stB q).length - (mB2 q).length ∧ stN q + 6 * o + v ≤ (mN1 q % 6) + 6 * (o + mN1 q / 6) + (v + ((mB1 q).length - (mB2 q).length)) := by
  have h1 : (mB1 q).length ≤ (stB q).length := gnd_len _ _ _
  have h2 : (mB2 q).length ≤ (mB1 q).length := sft_len _ _
  have h3 : mN1 q = stN q + ((stB q).length - (mB1 q).length) := rfl
  omega
theorem nI_m1n {k : Nat} (hk : k < 2 ^ 31) : ¬ nI k ≤ -1 := fun h => by
  have h1 := nI_pos' hk
  have h2 : (0 : Int32) ≤ -1 := Int32.le_trans h1 h
  exact absurd h2 (by decide)
/-! ===== by hand at the end: from the last place to the first ===== -/
theorem z_dec (x : Int32) : x + Int32.ofInt (-1) = x - nI 1 := by
  rw [Int32.sub_eq_add_neg, show Int32.ofInt (-1) = -(nI 1) from by decide +kernel]
theorem z_dn (k : Nat) : nI (k + 1) - nI 1 = nI k := k_subN k 1
theorem z_d0 : nI 0 - nI 1 = -1 := by decide +kernel
def lgR (L : List Tp) (k : Nat) (v : Int32) : Prop := (k = L.length ∧ v = -1) ∨ ∃ b, k ≤ b ∧ b < L.length ∧ v = nI b ∧ ∀ j, k ≤ j → j < L.length → (L.getD j tp0).2 ≤ (L.getD b tp0).2 ∧ ((L.getD j tp0).2 = (L.getD b tp0).2 → b ≤ j)
theorem lgR_n (L : List Tp) : lgR L L.length (-1) := Or.inl ⟨rfl, rfl⟩
theorem lgR_f {L : List Tp} {k : Nat} (hk : k + 1 = L.length) : lgR L k (nI k) := Or.inr ⟨k, Nat.le_refl _, by omega, rfl, fun j h1 h2 => by obtain rfl : j = k := (by omega); exact ⟨Nat.le_refl _, fun _ => Nat.le_refl _⟩⟩
theorem lgR_s {L : List Tp} {k b : Nat} (hk : k < L.length) (hb : ∀ j, k + 1 ≤ j → j < L.length → (L.getD j tp0).2 ≤ (L.getD b tp0).2 ∧ ((L.getD j tp0).2 = (L.getD b tp0).2 → b ≤ j)) (hle : (L.getD b tp0).2 ≤ (L.getD k tp0).2) : lgR L k (nI k) := Or.inr ⟨k, Nat.le_refl _, hk, rfl, fun j h1 h2 => by
  by_cases e : j = k
  · subst e; exact ⟨Nat.le_refl _, fun _ => Nat.le_refl _⟩
  · have := hb j (by omega) h2
    exact ⟨by omega, fun _ => by omega⟩⟩
theorem lgR_k {L : List Tp} {k b : Nat} (hb1 : k + 1 ≤ b) (hb2 : b < L.length) (hb : ∀ j, k + 1 ≤ j → j < L.length → (L.getD j tp0).2 ≤ (L.getD b tp0).2 ∧ ((L.getD j tp0).2 = (L.getD b tp0).2 → b ≤ j)) (hlt : (L.getD k tp0).2 < (L.getD b tp0).2) : lgR L k (nI b) := Or.inr ⟨b, by omega, hb2, rfl, fun j h1 h2 => by
  by_cases e : j = k
  · subst e; exact ⟨by omega, fun e2 => by omega⟩
  · exact hb j (by omega) h2⟩
theorem lg_first {L : List Tp} (hO : okB L) : ∀ i b, i ≤ L.length → am (fun _ => true) (bLg L) i = some b → b < i ∧ ∀ j, j < i → (L.getD j tp0).2 ≤ (L.getD b tp0).2 ∧ ((L.getD j tp0).2 = (L.getD b tp0).2 → b ≤ j)
  | 0, b, _, h => by simp [am] at h
  | i + 1, b, hi, h => by
    cases h1 : am (fun _ => true) (bLg L) i with
    | none =>
      rcases Nat.eq_zero_or_pos i with h0 | h0
      · subst h0
        rw [am_n h1, if_pos rfl] at h
        cases h
        exact ⟨by omega, fun j hj => by obtain rfl : j = 0 := (by omega); exact ⟨Nat.le_refl _, fun _ => Nat.le_refl _⟩⟩
      · exfalso
        obtain ⟨b2, hb2⟩ := am_ex (ok := fun _ => true) (bt := bLg L) (fun _ => rfl) (i - 1)
        rw [show i - 1 + 1 = i by omega, h1] at hb2
        cases hb2
    | some b2 =>
      obtain ⟨h3, h4⟩ := lg_first hO i b2 (by omega) h1
      rw [am_s h1] at h
      split at h
      · rename_i hc
        cases h
        have hlt : (L.getD b2 tp0).2 < (L.getD i tp0).2 := of_decide_eq_true hc.2
        refine ⟨by omega, fun j hj => ?_⟩
        by_cases e : j = i
        · subst e; exact ⟨Nat.le_refl _, fun _ => Nat.le_refl _⟩
        · have := h4 j (by omega)
          exact ⟨by omega, fun e2 => by omega⟩
      · rename_i hc
        cases h
        refine ⟨by omega, fun j hj => ?_⟩
        by_cases e : j = i
        · subst e
          have hge : ¬ (L.getD b tp0).2 < (L.getD j tp0).2 := fun h5 => hc ⟨rfl, decide_eq_true h5⟩
          exact ⟨by omega, fun _ => by omega⟩
        · exact h4 j (by omega)
theorem lgR_0 {L : List Tp} (hO : okB L) {v : Int32} (h : lgR L 0 v) : v = oI (lgst L) := by
  rcases h with ⟨h1, h2⟩ | ⟨b, -, hb, e, hm⟩
  · rw [h2, lg_zero h1.symm]; rfl
  · obtain ⟨b2, hb2, e2, -⟩ := lg_spec hO (by omega)
    have h3 := (lg_first hO L.length b2 (Nat.le_refl _) e2).2
    have h4 := hm b2 (by omega) hb2
    have h5 := h3 b hb
    have h6 := h4.2 (by omega)
    have h7 := h5.2 (by omega)
    obtain rfl : b = b2 := by omega
    rw [e, e2]; rfl
def ksR (L : List Tp) (k : Nat) (ks : Nat → Int32) : Prop := ∀ d, d < 5 → ks d = nI (ctB (nI d) L - cnN (isK (nI d) L) k)
theorem cn_mono (P : Nat → Bool) : ∀ i j, i ≤ j → cnN P i ≤ cnN P j
  | i, 0, h => by obtain rfl : i = 0 := (by omega); exact Nat.le_refl _
  | i, j + 1, h => by
    by_cases e : i = j + 1
    · subst e; exact Nat.le_refl _
    · have := cn_mono P i j (by omega)
      simp only [cnN]; omega
theorem ksR_n (L : List Tp) : ksR L L.length (fun _ => 0) := fun d _ => by
  rw [ctB, Nat.sub_self, nI_0]
theorem ksR_s {L : List Tp} {k d9 : Nat} {ks : Nat → Int32} (h : ksR L (k + 1) ks) (hk : k < L.length) (hd : d9 < 5) (e : (L.getD k tp0).1 = nI d9) : ksR L k (upd ks d9 (nI (ctB (nI d9) L - cnN (isK (nI d9) L) (k + 1) + 1))) := by
  intro d hd2
  have hm := cn_mono (isK (nI d) L) (k + 1) L.length (by omega)
  by_cases e2 : d = d9
  · subst e2
    rw [pk_us]
    have h1 : isK (nI d) L k = true := decide_eq_true e
    have h2 : cnN (isK (nI d) L) (k + 1) = cnN (isK (nI d) L) k + 1 := cn_t h1
    congr 1
    simp only [ctB]
    omega
  · rw [pk_un e2, h d hd2]
    have h1 : isK (nI d) L k = false := decide_eq_false (fun h3 => e2 ((nI_eq (by omega) (by omega)).mp (h3.symm.trans e)))
    rw [cn_f h1]
def ntR (T : List Tk) (k : Nat) (v : Int32) : Prop := ((∀ j, k ≤ j → j < T.length → ¬ tkX (T.getD j tk0) = -1) ∧ v = -1) ∨ ∃ b, k ≤ b ∧ b < T.length ∧ v = nI b ∧ tkX (T.getD b tk0) = -1 ∧ ∀ j, k ≤ j → j < T.length → tkX (T.getD j tk0) = -1 → tkP (T.getD b tk0) ≤ tkP (T.getD j tk0) ∧ (tkP (T.getD j tk0) = tkP (T.getD b tk0) → b ≤ j)
theorem ntR_n (T : List Tk) : ntR T T.length (-1) := Or.inl ⟨fun j h1 h2 => absurd h1 (by omega), rfl⟩
theorem ntR_x {T : List Tk} {k : Nat} {v : Int32} (h : ntR T (k + 1) v) (hx : ¬ tkX (T.getD k tk0) = -1) : ntR T k v := by
  rcases h with ⟨h1, h2⟩ | ⟨b, h1, h2, e, h3, h4⟩
  · exact Or.inl ⟨fun j h5 h6 => by
      by_cases e : j = k
      · subst e; exact hx
      · exact h1 j (by omega) h6, h2⟩
  · exact Or.inr ⟨b, by omega, h2, e, h3, fun j h5 h6 h7 => by
      by_cases e : j = k
      · subst e; exact absurd h7 hx
      · exact h4 j (by omega) h6 h7⟩
theorem ntR_f {T : List Tk} {k : Nat} (hk : k < T.length) (hx : tkX (T.getD k tk0) = -1) (h1 : ∀ j, k + 1 ≤ j → j < T.length → ¬ tkX (T.getD j tk0) = -1) : ntR T k (nI k) := Or.inr ⟨k, Nat.le_refl _, hk, rfl, hx, fun j h5 h6 h7 => by
  by_cases e : j = k
  · subst e; exact ⟨Nat.le_refl _, fun _ => Nat.le_refl _⟩
  · exact absurd h7 (h1 j (by omega) h6)⟩
theorem ntR_s {T : List Tk} {k b : Nat} (hk : k < T.length) (hx : tkX (T.getD k tk0) = -1) (hb : ∀ j, k + 1 ≤ j → j < T.length → tkX (T.getD j tk0) = -1 → tkP (T.getD b tk0) ≤ tkP (T.getD j tk0) ∧ (tkP (T.getD j tk0) = tkP (T.getD b tk0) → b ≤ j)) (hle : tkP (T.getD k tk0) ≤ tkP (T.getD b tk0)) : ntR T k (nI k) := Or.inr ⟨k, Nat.le_refl _, hk, rfl, hx, fun j h5 h6 h7 => by
  by_cases e : j = k
  · subst e; exact ⟨Nat.le_refl _, fun _ => Nat.le_refl _⟩
  · have := hb j (by omega) h6 h7
    exact ⟨by omega, fun _ => by omega⟩⟩
theorem ntR_k {T : List Tk} {k b : Nat} (hb1 : k + 1 ≤ b) (hb2 : b < T.length) (hbx : tkX (T.getD b tk0) = -1) (hb : ∀ j, k + 1 ≤ j → j < T.length → tkX (T.getD j tk0) = -1 → tkP (T.getD b tk0) ≤ tkP (T.getD j tk0) ∧ (tkP (T.getD j tk0) = tkP (T.getD b tk0) → b ≤ j)) (hlt : tkP (T.getD b tk0) < tkP (T.getD k tk0)) : ntR T k (nI b) := Or.inr ⟨b, by omega, hb2, rfl, hbx, fun j h5 h6 h7 => by
  by_cases e : j = k
  · subst e; exact ⟨by omega, fun e2 => by omega⟩
  · exact hb j (by omega) h6 h7⟩
theorem nt_first {T : List Tk} : ∀ i b, i ≤ T.length → am (isT T) (bPt T) i = some b → b < i ∧ tkX (T.getD b tk0) = -1 ∧ ∀ j, j < i → tkX (T.getD j tk0) = -1 → tkP (T.getD b tk0) ≤ tkP (T.getD j tk0) ∧ (tkP (T.getD j tk0) = tkP (T.getD b tk0) → b ≤ j)
  | 0, b, _, h => by simp [am] at h
  | i + 1, b, hi, h => by
    cases h1 : am (isT T) (bPt T) i with
    | none =>
      rw [am_n h1] at h
      split at h
      · rename_i hc
        cases h
        refine ⟨by omega, of_decide_eq_true hc, fun j hj hx => ?_⟩
        by_cases e : j = i
        · subst e; exact ⟨Nat.le_refl _, fun _ => Nat.le_refl _⟩
        · exfalso
          obtain ⟨b2, hb2⟩ := nt_some i (cn_pos (show j < i by omega) (isT_t hx))
          rw [h1] at hb2; cases hb2
      · cases h
    | some b2 =>
      obtain ⟨h3, h3x, h4⟩ := nt_first i b2 (by omega) h1
      rw [am_s h1] at h
      split at h
      · rename_i hc
        cases h
        have hlt : tkP (T.getD i tk0) < tkP (T.getD b2 tk0) := of_decide_eq_true hc.2
        refine ⟨by omega, of_decide_eq_true hc.1, fun j hj hx => ?_⟩
        by_cases e : j = i
        · subst e; exact ⟨Nat.le_refl _, fun _ => Nat.le_refl _⟩
        · have := h4 j (by omega) hx
          exact ⟨by omega, fun e2 => by omega⟩
      · rename_i hc
        cases h
        refine ⟨by omega, h3x, fun j hj hx => ?_⟩
        by_cases e : j = i
        · subst e
          have hge : ¬ tkP (T.getD j tk0) < tkP (T.getD b tk0) := fun h5 => hc ⟨isT_t hx, decide_eq_true h5⟩
          exact ⟨by omega, fun _ => by omega⟩
        · exact h4 j (by omega) hx
theorem ntR_0 {T : List Tk} {v : Int32} (h : ntR T 0 v) : v = oI (ntg T) := by
  rcases h with ⟨h1, h2⟩ | ⟨b, -, hb, e, hbx, hm⟩
  · rw [h2]
    cases h3 : ntg T with
    | none => rfl
    | some b2 =>
      have h4 := am_lt h3
      exact absurd (of_decide_eq_true h4.2) (h1 b2 (by omega) h4.1)
  · obtain ⟨b2, hb2⟩ := nt_some T.length (cn_pos hb (isT_t hbx))
    have e2 : ntg T = some b2 := hb2
    obtain ⟨h3, h3x, h4⟩ := nt_first T.length b2 (Nat.le_refl _) hb2
    have h5 := hm b2 (by omega) h3 h3x
    have h6 := h4 b hb hbx
    have h7 := h5.2 (by omega)
    have h8 := h6.2 (by omega)
    obtain rfl : b = b2 := by omega
    rw [e, e2]; rfl
theorem sp_mono {T : List Tk} : ∀ i j, i ≤ j → spN T i ≤ spN T j
  | i, 0, h => by obtain rfl : i = 0 := (by omega); exact Nat.le_refl _
  | i, j + 1, h => by
    by_cases e : i = j + 1
    · subst e; exact Nat.le_refl _
    · have := sp_mono (T := T) i j (by omega)
      simp only [spN]; omega
theorem mp_dc {q : St} (h : okS q) (h0 : ctT (stT q) = 0) : Op.cmpValue (FP.dcmp (mpS q) FP.dconst0) .l = nI 0 := by
  rw [mpS, if_pos h0]; decide +kernel
theorem mp_dd {q : St} (h : okS q) (h0 : 0 < ctT (stT q)) : Op.cmpValue (FP.dcmp (mpS q) (FP.ddiv (FP.i2d (nI (spT (stT q)))) (FP.i2d (nI (ctT (stT q)))))) .l = nI 0 := by
  rw [mpS, if_neg (by omega)]
  exact mp_cmpF _ (by have := ctT_le h; omega) (by omega) _ (by have := spT_le h; omega)
