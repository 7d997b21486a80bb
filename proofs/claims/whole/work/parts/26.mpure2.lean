/-! ===== the reference's calls, as numbers ===== -/
theorem app_lenS {L : List Tp} {t : Tp} (h : L.length < 12) : (app L t).length = L.length + 1 := by rw [app, if_pos h, List.length_append]; rfl
theorem rN_B {gi gs ge w v : Nat → Int32} {q : St} {B : List Tp} (h : rN gi gs ge w q) (hf : frB w v) (h1 : v 1 = nI B.length) (hV : rV v B) : rN gi gs ge v (setB q B) := by
  obtain ⟨n0, n1, n2, n3, n4, n5, nB, nT⟩ := h
  exact ⟨(hf 0 (by omega)).trans n0, h1, (hf 2 (by omega)).trans n2, (hf 3 (by omega)).trans n3, (hf 4 (by omega)).trans n4, (hf 5 (by omega)).trans n5, hV, rT_of nT (fun j hj => hf j (by omega))⟩
theorem rN_G {gi gs ge w : Nat → Int32} {q : St} {g : Nat} (h : rN gi gs ge w q) : rN gi gs ge (upd w 5 (nI g)) (setG q g) := by
  obtain ⟨n0, n1, n2, n3, n4, n5, nB, nT⟩ := h
  exact ⟨(pk_un (by omega)).trans n0, (pk_un (by omega)).trans n1, (pk_un (by omega)).trans n2, (pk_un (by omega)).trans n3, (pk_un (by omega)).trans n4, pk_us, rV_lo nB (by omega), rT_of nT (fun j hj => pk_un (by omega))⟩
theorem rN_join {gi gs ge w : Nat → Int32} {q : St} {kd ea : Int32} {z : Nat} (h : rN gi gs ge w q) (h6 : (stT q).length < 6) : rN (upd gi (stT q).length kd) (upd gs (stT q).length (nI z)) (upd ge (stT q).length ea) (upd (upd w (30 + (stT q).length) (nI 30)) (36 + (stT q).length) (-1)) (setT q (stT q ++ [(kd, z, ea, 30, -1)])) := by
  obtain ⟨n0, n1, n2, n3, n4, n5, nB, nT⟩ := h
  refine ⟨(pk_un (by omega)).trans ((pk_un (by omega)).trans n0), (pk_un (by omega)).trans ((pk_un (by omega)).trans n1), (pk_un (by omega)).trans ((pk_un (by omega)).trans n2), (pk_un (by omega)).trans ((pk_un (by omega)).trans n3), (pk_un (by omega)).trans ((pk_un (by omega)).trans n4), (pk_un (by omega)).trans ((pk_un (by omega)).trans n5), rV_of nB (fun j h1 h2 => (pk_un (by omega)).trans (pk_un (by omega))), ?_⟩
  show rT _ _ _ _ (stT q ++ [(kd, z, ea, 30, -1)])
  refine ⟨by simp; omega, fun j hj => ?_⟩
  by_cases e : j = (stT q).length
  · subst e; rw [gd_app2]; exact ⟨pk_us, pk_us, pk_us, (pk_un (by omega)).trans pk_us, pk_us⟩
  · have hlt : j < (stT q).length := by simp at hj; omega
    rw [gd_app1 _ _ _ hlt]
    obtain ⟨e1, e2, e3, e4, e5⟩ := nT.2 j hlt
    exact ⟨(pk_un e).trans e1, (pk_un e).trans e2, (pk_un e).trans e3, (pk_un (by omega)).trans ((pk_un (by omega)).trans e4), (pk_un (by omega)).trans ((pk_un (by omega)).trans e5)⟩
-- moving within the one row
def shM (w w1 : Nat → Int32) (t j : Nat) : Prop := (∀ q, q < 12 → w1 (6 + q) = (if t < q ∧ q ≤ j then w (6 + (q - 1)) else w (6 + q)) ∧ w1 (18 + q) = (if t < q ∧ q ≤ j then w (18 + (q - 1)) else w (18 + q))) ∧ ∀ q, q < 6 ∨ 30 ≤ q → w1 q = w q
theorem shM_0 (w : Nat → Int32) (j : Nat) : shM w w j j := ⟨fun q _ => ⟨by rw [if_neg (by omega)], by rw [if_neg (by omega)]⟩, fun _ _ => rfl⟩
theorem shM_s {w w1 : Nat → Int32} {t j : Nat} (h : shM w w1 (t + 1) j) (ht : t + 1 ≤ j) (hj : j < 12) : shM w (upd (upd w1 (6 + (t + 1)) (w1 (6 + t))) (18 + (t + 1)) (w1 (18 + t))) t j := by
  refine ⟨fun q hq => ?_, fun q hq => by rw [pk_un (by omega), pk_un (by omega)]; exact h.2 q hq⟩
  by_cases e : q = t + 1
  · subst e
    have h1 := h.1 t (by omega)
    have e1 : ¬ (t + 1 < t ∧ t ≤ j) := by omega
    have e2 : t < t + 1 ∧ t + 1 ≤ j := by omega
    rw [if_neg e1, if_neg e1] at h1
    rw [pk_un (by omega), pk_us, pk_us, if_pos e2, if_pos e2]
    exact h1
  · rw [pk_un (by omega), pk_un (by omega), pk_un (by omega), pk_un (by omega)]
    have h1 := h.1 q hq
    by_cases h2 : t + 1 < q ∧ q ≤ j
    · have h3 : t < q ∧ q ≤ j := by omega
      rw [if_pos h2, if_pos h2] at h1
      rw [if_pos h3, if_pos h3]; exact h1
    · have h3 : ¬ (t < q ∧ q ≤ j) := by omega
      rw [if_neg h2, if_neg h2] at h1
      rw [if_neg h3, if_neg h3]; exact h1
theorem rV_mtf {w w1 : Nat → Int32} {L : List Tp} {j : Nat} (h : rV w L) (hj : j < L.length) (h1 : shM w w1 0 j) : rV (upd (upd w1 6 (w (6 + j))) 18 (w (18 + j))) (mtf L j) := by
  have h12 := h.1
  refine ⟨by rw [mtf_len hj]; exact h.1, fun q hq => ?_⟩
  rw [mtf_len hj] at hq
  rw [mtf_gd]
  by_cases e : q = 0
  · subst e
    rw [if_pos rfl]
    exact ⟨pk_us.trans (h.2 j hj).1, ((pk_un (by omega)).trans pk_us).trans (h.2 j hj).2⟩
  · rw [if_neg e]
    have h2 := h1.1 q (by omega)
    have u1 : upd (upd w1 6 (w (6 + j))) 18 (w (18 + j)) (18 + q) = w1 (18 + q) := (pk_un (by omega)).trans (pk_un (by omega))
    have u2 : upd (upd w1 6 (w (6 + j))) 18 (w (18 + j)) (6 + q) = w1 (6 + q) := (pk_un (by omega)).trans (pk_un (by omega))
    show upd (upd w1 6 (w (6 + j))) 18 (w (18 + j)) (18 + q) = _ ∧ upd (upd w1 6 (w (6 + j))) 18 (w (18 + j)) (6 + q) = _
    rw [u1, u2]
    by_cases h3 : q ≤ j
    · have e1 : 0 < q ∧ q ≤ j := by omega
      rw [if_pos e1, if_pos e1] at h2
      rw [if_pos h3, h2.1, h2.2]; exact h.2 (q - 1) (by omega)
    · have e1 : ¬ (0 < q ∧ q ≤ j) := by omega
      rw [if_neg e1, if_neg e1] at h2
      rw [if_neg h3, h2.1, h2.2]; exact h.2 q hq
theorem fr_mtf {w w1 : Nat → Int32} {j : Nat} {a b : Int32} (h1 : shM w w1 0 j) : ∀ q, q < 6 ∨ 30 ≤ q → upd (upd w1 6 a) 18 b q = w q := fun q hq => (pk_un (by omega)).trans ((pk_un (by omega)).trans (h1.2 q hq))
def sdM (w w1 : Nat → Int32) (j i : Nat) : Prop := (∀ q, q < 12 → w1 (6 + q) = (if j ≤ q ∧ q < i then w (6 + q + 1) else w (6 + q)) ∧ w1 (18 + q) = (if j ≤ q ∧ q < i then w (18 + q + 1) else w (18 + q))) ∧ ∀ q, q < 6 ∨ 30 ≤ q → w1 q = w q
theorem sdM_0 (w : Nat → Int32) (j : Nat) : sdM w w j j := ⟨fun q _ => ⟨by rw [if_neg (by omega)], by rw [if_neg (by omega)]⟩, fun _ _ => rfl⟩
theorem sdM_s {w w1 : Nat → Int32} {j i : Nat} (h : sdM w w1 j i) (hi : j ≤ i) (hi2 : i + 1 < 12) : sdM w (upd (upd w1 (6 + i) (w1 (6 + i + 1))) (18 + i) (w1 (18 + i + 1))) j (i + 1) := by
  refine ⟨fun q hq => ?_, fun q hq => by rw [pk_un (by omega), pk_un (by omega)]; exact h.2 q hq⟩
  by_cases e : q = i
  · subst e
    have h1 := h.1 (q + 1) hi2
    have e1 : ¬ (j ≤ q + 1 ∧ q + 1 < q) := by omega
    have e2 : j ≤ q ∧ q < q + 1 := by omega
    rw [if_neg e1, if_neg e1] at h1
    rw [pk_un (by omega), pk_us, pk_us, if_pos e2, if_pos e2]
    exact h1
  · rw [pk_un (by omega), pk_un (by omega), pk_un (by omega), pk_un (by omega)]
    have h1 := h.1 q hq
    by_cases h2 : j ≤ q ∧ q < i
    · have h3 : j ≤ q ∧ q < i + 1 := by omega
      rw [if_pos h2, if_pos h2] at h1
      rw [if_pos h3, if_pos h3]; exact h1
    · have h3 : ¬ (j ≤ q ∧ q < i + 1) := by omega
      rw [if_neg h2, if_neg h2] at h1
      rw [if_neg h3, if_neg h3]; exact h1
theorem rV_er {w w1 : Nat → Int32} {L : List Tp} {j i : Nat} {x : Int32} (h : rV w L) (hj : j < L.length) (hi : L.length ≤ i + 1) (h1 : sdM w w1 j i) : rV (upd w1 1 x) (L.eraseIdx j) := by
  have h12 := h.1
  refine rV_lo ⟨by rw [er_len hj]; omega, fun q hq => ?_⟩ (by omega)
  rw [er_len hj] at hq
  rw [gd_er]
  have h2 := h1.1 q (by omega)
  show w1 (18 + q) = _ ∧ w1 (6 + q) = _
  by_cases h3 : q < j
  · have e1 : ¬ (j ≤ q ∧ q < i) := by omega
    rw [if_neg e1, if_neg e1] at h2
    rw [if_pos h3, h2.1, h2.2]; exact h.2 q (by omega)
  · have e1 : j ≤ q ∧ q < i := by omega
    rw [if_pos e1, if_pos e1] at h2
    rw [if_neg h3, h2.1, h2.2]; exact h.2 (q + 1) (by omega)
-- the best one, with none at first
theorem am_ex {ok : Nat → Bool} {bt : Nat → Nat → Bool} {i : Nat} (h : ¬ oI (am ok bt i) = -1) : ∃ b, am ok bt i = some b := by
  cases e : am ok bt i with
  | none => rw [e] at h; exact absurd rfl h
  | some b => exact ⟨b, rfl⟩
theorem am_no {ok : Nat → Bool} {bt : Nat → Nat → Bool} {i : Nat} (hi : i < 2147483648) (h : oI (am ok bt i) = -1) : am ok bt i = none := by
  cases e : am ok bt i with
  | none => rfl
  | some b =>
    rw [e] at h
    have h1 := (am_lt e).1
    exact absurd h (nI_ne_m1 (by omega))
theorem lgb_keep {L : List Tp} {i b : Nat} (hb : am (fun _ => true) (bLg L) i = some b) (hle : (L.getD i tp0).2 ≤ (L.getD b tp0).2) : am (fun _ => true) (bLg L) (i + 1) = some b := by
  rw [am_s hb, if_neg]
  intro hc
  have h9 : (L.getD b tp0).2 < (L.getD i tp0).2 := of_decide_eq_true hc.2
  omega
theorem lgb_new {L : List Tp} {i b : Nat} (hb : am (fun _ => true) (bLg L) i = some b) (hlt : (L.getD b tp0).2 < (L.getD i tp0).2) : am (fun _ => true) (bLg L) (i + 1) = some i := by
  rw [am_s hb]
  exact if_pos ⟨rfl, decide_eq_true hlt⟩
theorem am_fst {ok : Nat → Bool} {bt : Nat → Nat → Bool} {i : Nat} (h : am ok bt i = none) (hk : ok i = true) : am ok bt (i + 1) = some i := by
  rw [am_n h, if_pos hk]
theorem lpb_keep {T : List Tk} {i b : Nat} (hb : am (isT T) (bPt T) i = some b) (hle : tkP (T.getD b tk0) ≤ tkP (T.getD i tk0)) : am (isT T) (bPt T) (i + 1) = some b := by
  rw [am_s hb, if_neg]
  intro hc
  have h9 : tkP (T.getD i tk0) < tkP (T.getD b tk0) := of_decide_eq_true hc.2
  omega
theorem lpb_new {T : List Tk} {i b : Nat} (hx : tkX (T.getD i tk0) = -1) (hb : am (isT T) (bPt T) i = some b) (hlt : tkP (T.getD i tk0) < tkP (T.getD b tk0)) : am (isT T) (bPt T) (i + 1) = some i := by
  rw [am_s hb]
  exact if_pos ⟨isT_t hx, decide_eq_true hlt⟩
def lsZ (F : Nat → Nat) (i : Nat) : Nat := match amF F i with
  | none => 0
  | some b => F b
theorem lsZ_le {F : Nat → Nat} (h : ∀ i, F i ≤ 1188) (i : Nat) : lsZ F i ≤ 1188 := by
  simp only [lsZ]; split
  · omega
  · exact h _
theorem lsZ_keep {F : Nat → Nat} {i : Nat} (e : amF F (i + 1) = amF F i) : lsZ F (i + 1) = lsZ F i := by simp only [lsZ, e]
theorem lsZ_new {F : Nat → Nat} {i : Nat} (e : amF F (i + 1) = some i) : lsZ F (i + 1) = F i := by simp only [lsZ, e]
theorem az_keep {F : Nat → Nat} {i b : Nat} (hb : amF F i = some b) (hle : lsZ F i ≤ F i) : amF F (i + 1) = amF F i := by
  simp only [lsZ, hb] at hle
  rw [hb]
  show am _ _ (i + 1) = _
  rw [am_s hb, if_neg]
  intro hc
  have h9 : F i < F b := of_decide_eq_true hc.2
  omega
theorem az_new {F : Nat → Nat} {i b : Nat} (hb : amF F i = some b) (hlt : F i < lsZ F i) : amF F (i + 1) = some i := by
  simp only [lsZ, hb] at hlt
  show am _ _ (i + 1) = _
  rw [am_s hb]
  exact if_pos ⟨rfl, decide_eq_true hlt⟩
def gO : Option Nat → Int32
  | none => -1
  | some b => nI (b + 2)
theorem gO_no {F : Nat → Nat} {i : Nat} (hi : i < 1000) (h : gO (amF F i) = -1) : amF F i = none := by
  cases e : amF F i with
  | none => rfl
  | some b =>
    rw [e] at h
    have h1 := (am_lt e).1
    exact absurd h (nI_ne_m1 (by omega))
theorem gO_ex {F : Nat → Nat} {i : Nat} (h : ¬ gO (amF F i) = -1) : ∃ b, amF F i = some b := by
  cases e : amF F i with
  | none => rw [e] at h; exact absurd rfl h
  | some b => exact ⟨b, rfl⟩
theorem amF_S (F : Nat → Nat) (i : Nat) : ¬ amF F (i + 1) = none := by
  intro h
  cases e : amF F i with
  | none =>
    have h1 : amF F (i + 1) = some i := am_fst (ok := fun _ => true) e rfl
    rw [h1] at h; cases h
  | some b =>
    have h1 := am_s (ok := fun _ => true) e
    have h2 : am (fun _ => true) (bF F) (i + 1) = none := h
    rw [h2] at h1
    split at h1 <;> cases h1
theorem gO_8 (F : Nat → Nat) : gO (amF F 8) = gI (amF F 8) := by
  cases e : amF F 8 with
  | none => exact absurd e (amF_S F 7)
  | some b => rfl
theorem rg_ex {x : Int32} {a b : Nat} (hb : b < 2147483648) (h : nI a ≤ x ∧ x ≤ nI b) (ha : a < 2147483648) : ∃ g, a ≤ g ∧ g ≤ b ∧ x = nI g := by
  have h0 : ¬ x < 0 := fun h1 => by
    have h2 : nI a < 0 := Int32.lt_of_le_of_lt h.1 h1
    exact absurd h2 (nI_pos ha)
  obtain ⟨g, hg, e⟩ := nI_of h0
  subst e
  exact ⟨g, (nI_leI ha hg).mp h.1, (nI_leI hg hb).mp h.2, rfl⟩
