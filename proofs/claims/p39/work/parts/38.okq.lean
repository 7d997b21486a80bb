/-! ===== what holds of every machine that the law makes ===== -/
def okE (mi : Nat) (t : Tk) : Prop := (tkX t = -1 ∧ 1 ≤ tkP t) ∨ ∃ m, m < mi ∧ tkX t = nI m ∧ tkP t = 0
def okD (mi : Nat) (t : Tk) : Prop := (∃ k, k < 5 ∧ tkK t = nI k) ∧ (∃ e, (1 ≤ e ∧ e ≤ 9) ∧ tkE t = nI e) ∧ okE mi t
def okF (t : Tp) : Prop := ∃ k, k < 5 ∧ t.1 = nI k
def okQ (q : St) : Prop := okS q ∧ (∀ t ∈ stB q, okF t) ∧ (∀ t ∈ stT q, okD (stI q) t) ∧ (∃ me, me ≤ 20 ∧ stM q = nI me) ∧ (∃ o, o ≤ 3 * stI q ∧ stO q = nI o) ∧ (∃ v, v ≤ 12 * stI q ∧ stV q = nI v)
theorem pf_mem {F : Nat → Option Tp} {n : Nat} {t : Tp} (h : t ∈ pf F n) : ∃ i, i < n ∧ F i = some t := by
  obtain ⟨i, hi, h1⟩ := List.mem_filterMap.mp h
  exact ⟨i, List.mem_range.mp hi, h1⟩
theorem okF_gnd {st g : Nat} {L : List Tp} (h : ∀ t ∈ L, okF t) : ∀ t ∈ gnd st g L, okF t := by
  intro t ht
  obtain ⟨i, hi, h1⟩ := pf_mem ht
  simp only [gnF] at h1
  split at h1
  · cases h1
    obtain ⟨k, hk, e⟩ := h _ (gd_mem (d := tp0) hi)
    exact ⟨k, hk, e⟩
  · cases h1
theorem okF_sft {me : Int32} {L : List Tp} (h : ∀ t ∈ L, okF t) : ∀ t ∈ sft me L, okF t := by
  intro t ht
  rw [sft_fl] at ht
  exact h t ((List.mem_filter.mp ht).1)
theorem okF_app {L : List Tp} {t : Tp} (h : ∀ t ∈ L, okF t) (ht : okF t) : ∀ u ∈ app L t, okF u := by
  intro u hu
  simp only [app] at hu
  split at hu
  · rcases List.mem_append.mp hu with h1 | h1
    · exact h u h1
    · rw [List.mem_singleton] at h1; subst h1; exact ht
  · exact h u hu
theorem okF_sk {T : List Tk} {mi mj : Nat} {L : List Tp} (h : ∀ t ∈ L, okF t) (hT : ∀ t ∈ T, okD mj t) : ∀ i, i ≤ T.length → ∀ t ∈ skN T mi L i, okF t
  | 0, _ => h
  | i + 1, hi => by
    have ih := okF_sk (mi := mi) h hT i (by omega)
    simp only [skN]
    split
    · obtain ⟨⟨k, hk, e⟩, -, -⟩ := hT _ (gd_mem (d := tk0) (show i < T.length by omega))
      exact okF_app ih ⟨k, hk, e⟩
    · exact ih
theorem okD_hr {z mi : Nat} {t : Tk} (h : okD mi t) : okD (mi + 1) (hrF z mi t) := by
  obtain ⟨h1, h2, h3⟩ := h
  rw [hrF]
  split
  · refine ⟨h1, h2, ?_⟩
    by_cases h0 : hrP z (tkP t) = 0
    · right
      refine ⟨mi, by omega, ?_, h0⟩
      show (if hrP z (tkP t) = 0 then nI mi else -1) = nI mi
      rw [if_pos h0]
    · left
      refine ⟨?_, ?_⟩
      · show (if hrP z (tkP t) = 0 then nI mi else -1) = -1
        rw [if_neg h0]
      · show 1 ≤ hrP z (tkP t)
        omega
  · refine ⟨h1, h2, ?_⟩
    rcases h3 with h4 | ⟨m, hm, h4⟩
    · exact Or.inl h4
    · exact Or.inr ⟨m, by omega, h4⟩
theorem okQ_mnt {q : St} (h : okQ q) : okQ (mnt q) := by
  obtain ⟨h1, h2, h3, h4, ⟨o, ho, e5⟩, ⟨v, hv, e6⟩⟩ := h
  have hT : ∀ t ∈ mT q, okD (stI q + 1) t := by
    intro t ht
    obtain ⟨u, hu, rfl⟩ := List.mem_map.mp ht
    exact okD_hr (h3 u hu)
  have hm := mN1_le h1
  have hl1 : (mB1 q).length ≤ (stB q).length := gnd_len _ _ _
  have h12 := h1.2.1
  refine ⟨okS_mnt h1, ?_, hT, h4, ⟨o + mN1 q / 6, ?_, ?_⟩, ⟨v + ((mB1 q).length - (mB2 q).length), ?_, ?_⟩⟩
  · exact okF_sk (okF_sft (okF_gnd h2)) hT _ (Nat.le_refl _)
  · show o + mN1 q / 6 ≤ 3 * (stI q + 1)
    omega
  · show stO q + nI (mN1 q / 6) = _
    rw [e5, nI_add]
  · show v + ((mB1 q).length - (mB2 q).length) ≤ 12 * (stI q + 1)
    omega
  · show stV q + nI ((mB1 q).length - (mB2 q).length) = _
    rw [e6, nI_add]
theorem okQ_it {q : St} (h : okQ q) : ∀ i, okQ (itS q i)
  | 0 => h
  | i + 1 => okQ_mnt (okQ_it h i)
theorem okQ_X {q : St} (h : okQ q) (hI : stI q < 2147483648) : okX (stT q) := by
  intro j hj
  obtain ⟨-, -, h3⟩ := h.2.2.1 _ (gd_mem (d := tk0) hj)
  rcases h3 with h4 | ⟨m, hm, h4⟩
  · exact Or.inl h4.1
  · exact Or.inr ⟨m, by omega, h4.1⟩
theorem okQ_setG {q : St} (h : okQ q) {g : Nat} (hg : 2 ≤ g ∧ g ≤ 9) : okQ (setG q g) := ⟨okS_setG h.1 hg, h.2⟩
theorem okQ_setS {q : St} (h : okQ q) {z : Nat} (hz : 1 ≤ z ∧ z ≤ 4) : okQ (setS q z) := ⟨okS_setS h.1 hz, h.2⟩
theorem okQ_setM {q : St} (h : okQ q) {z : Nat} (hz : z ≤ 20) : okQ (setM q (nI z)) := ⟨okS_setM h.1 _, h.2.1, h.2.2.1, ⟨z, hz, rfl⟩, h.2.2.2.2⟩
theorem okQ_setB {q : St} (h : okQ q) {B : List Tp} (hS : okS (setB q B)) (hB : ∀ t ∈ B, okF t) : okQ (setB q B) := ⟨hS, hB, h.2.2⟩
theorem okQ_mtf {q : St} (h : okQ q) {j : Nat} (hj : j < (stB q).length) : okQ (setB q (mtf (stB q) j)) := by
  refine okQ_setB h (okS_mtf h.1 hj) (fun t ht => h.2.1 t ?_)
  rcases List.mem_cons.mp ht with h1 | h1
  · subst h1; exact gd_mem hj
  · exact (List.eraseIdx_sublist _ _).subset h1
theorem okQ_er {q : St} (h : okQ q) {j : Nat} (hj : j < (stB q).length) : okQ (setB q ((stB q).eraseIdx j)) :=
  okQ_setB h (okS_setB h.1 (okB_er h.1.1 hj) (by rw [er_len hj]; have := h.1.2.1; omega)) (fun t ht => h.2.1 t ((List.eraseIdx_sublist _ _).subset ht))
theorem okQ_put {q : St} (h : okQ q) {k z : Nat} (hk : k < 5) (hz : 2 ≤ z ∧ z ≤ 99) : okQ (setB q (app (stB q) (nI k, z))) :=
  okQ_setB h (okS_setB h.1 (okB_app h.1.1 hz) (app_le h.1.2.1)) (okF_app h.2.1 ⟨k, hk, rfl⟩)
theorem okQ_add {q : St} (h : okQ q) {k z e : Nat} (hk : k < 5) (hz : 2 ≤ z ∧ z ≤ 99) (he : 1 ≤ e ∧ e ≤ 9) (h6 : (stT q).length < 6) : okQ (setT q (stT q ++ [(nI k, z, nI e, 30, -1)])) := by
  refine ⟨okS_setT h.1 (okT_app h.1.2.2.1 ⟨hz.1, hz.2, nI_ne0 (by omega) (by omega), (show 30 ≤ 30 from Nat.le_refl _)⟩) (by simp; omega), h.2.1, fun t ht => ?_, h.2.2.2⟩
  rcases List.mem_append.mp ht with h1 | h1
  · exact h.2.2.1 t h1
  · rw [List.mem_singleton] at h1
    subst h1
    exact ⟨⟨k, hk, rfl⟩, ⟨e, he, rfl⟩, Or.inl ⟨rfl, (show 1 ≤ 30 by decide)⟩⟩
theorem okQ_0 : okQ st0 := ⟨okS_0, fun t h => absurd h (List.not_mem_nil), fun t h => absurd h (List.not_mem_nil), ⟨3, by decide, rfl⟩, ⟨0, by decide, rfl⟩, ⟨0, by decide, rfl⟩⟩
abbrev nilB : List (Nat × Tp) := []
abbrev nilT : List (Nat × Tk) := []
theorem rQ_put {q : St} {Rb : List (Nat × Tp)} {Rt : List (Nat × Tk)} {a k z : Nat} (h : rQ q Rb Rt) (h12 : (stB q).length < 12) : rQ (setB q (app (stB q) (nI k, z))) (Rb ++ [(a, (nI k, z))]) Rt := by
  refine ⟨?_, h.2⟩
  show app (stB q) (nI k, z) = _
  rw [app, if_pos h12, sn_app, h.1]
theorem rQ_add {q : St} {Rb : List (Nat × Tp)} {Rt : List (Nat × Tk)} {a k z e : Nat} (h : rQ q Rb Rt) : rQ (setT q (stT q ++ [(nI k, z, nI e, 30, -1)])) Rb (Rt ++ [(a, (nI k, z, nI e, 30, -1))]) := by
  refine ⟨h.1, ?_⟩
  show stT q ++ [(nI k, z, nI e, 30, -1)] = _
  rw [sn_app, h.2]
theorem rQ_mtf {q : St} {Rb : List (Nat × Tp)} {Rt : List (Nat × Tk)} {j : Nat} (h : rQ q Rb Rt) : rQ (setB q (mtf (stB q) j)) (mtq Rb j) Rt := ⟨by show mtf (stB q) j = _; rw [mtq_sn, h.1], h.2⟩
theorem rQ_er {q : St} {Rb : List (Nat × Tp)} {Rt : List (Nat × Tk)} {j : Nat} (h : rQ q Rb Rt) : rQ (setB q ((stB q).eraseIdx j)) (Rb.eraseIdx j) Rt := ⟨by show (stB q).eraseIdx j = _; rw [er_sn, h.1], h.2⟩
theorem z_one {P : va_W} {cI : ClassId} : zS (P ++ []) (P ++ (sT cI [] [] ++ [])) := zS.rf
theorem qf_last {L : List Nat} {v k : Nat} (hk : k = L.length) : qf (L ++ [v]) k = some v := by
  subst hk; simp [qf]
theorem bq_l {R : List (Nat × Tp)} {r : Nat × Tp} {k : Nat} (hk : k = R.length) : ((R ++ [r]).map bq).getD k rd = (r.1, bf r.2) := by
  subst hk; simp [bq]
theorem tq_l {R : List (Nat × Tk)} {r : Nat × Tk} {k : Nat} (hk : k = R.length) : ((R ++ [r]).map tq).getD k rd = (r.1, tf r.2) := by
  subst hk; simp [tq]
theorem lm_len {α β : Type} {f : α → β} {R : List α} {r : α} {k : Nat} (hk : k = R.length) : k < ((R ++ [r]).map f).length := by
  subst hk; simp
