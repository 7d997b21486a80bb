/-! ===== the simulated machine as numbers ===== -/
abbrev bd : Nat × Tp := (0, tp0)
abbrev td : Nat × Tk := (0, tk0)
def bf (t : Tp) : Nat → Int32 := fun i => match i with
  | 0 => nI t.2
  | 1 => t.1
  | _ => 0
def tf (t : Tk) : Nat → Int32 := fun i => match i with
  | 0 => nI (tkP t)
  | 1 => tkX t
  | 2 => tkK t
  | 3 => nI (tkS t)
  | 4 => tkE t
  | _ => 0
def bq (r : Nat × Tp) : Rw := (r.1, bf r.2)
def tq (r : Nat × Tk) : Rw := (r.1, tf r.2)
def ad {α : Type} (R : List (Nat × α)) : List Nat := R.map (·.1)
def sn {α : Type} (R : List (Nat × α)) : List α := R.map (·.2)
def rQ (q : St) (Rb : List (Nat × Tp)) (Rt : List (Nat × Tk)) : Prop := stB q = sn Rb ∧ stT q = sn Rt
theorem ad_len {α : Type} (R : List (Nat × α)) : (ad R).length = R.length := List.length_map ..
theorem sn_len {α : Type} (R : List (Nat × α)) : (sn R).length = R.length := List.length_map ..
theorem gd_mapD {α β : Type} (f : α → β) (L : List α) (d : α) (i : Nat) : (L.map f).getD i (f d) = f (L.getD i d) := by
  simp only [List.getD_eq_getElem?_getD, List.getElem?_map]
  cases L[i]? <;> rfl
theorem sn_gd (R : List (Nat × Tp)) (i : Nat) : (sn R).getD i tp0 = (R.getD i bd).2 := gd_mapD (fun x : Nat × Tp => x.2) R bd i
theorem sn_gdT (R : List (Nat × Tk)) (i : Nat) : (sn R).getD i tk0 = (R.getD i td).2 := gd_mapD (fun x : Nat × Tk => x.2) R td i
theorem ad_q {α : Type} {R : List (Nat × α)} {d : Nat × α} {i : Nat} (hi : i < R.length) : qf (ad R) i = some (R.getD i d).1 := by
  simp [qf, ad, List.getD_eq_getElem?_getD, hi]
theorem bq_g {R : List (Nat × Tp)} {i : Nat} (hi : i < R.length) : (R.map bq).getD i rd = bq (R.getD i bd) := gd_map (d := bd) bq R i hi
theorem tq_g {R : List (Nat × Tk)} {i : Nat} (hi : i < R.length) : (R.map tq).getD i rd = tq (R.getD i td) := gd_map (d := td) tq R i hi
theorem bq_1 {R : List (Nat × Tp)} {i : Nat} (hi : i < R.length) : (R.getD i bd).1 = ((R.map bq).getD i rd).1 := by rw [bq_g hi]; rfl
theorem tq_1 {R : List (Nat × Tk)} {i : Nat} (hi : i < R.length) : (R.getD i td).1 = ((R.map tq).getD i rd).1 := by rw [tq_g hi]; rfl
theorem bq_s {R : List (Nat × Tp)} {i : Nat} (hi : i < R.length) : ((R.map bq).getD i rd).2 0 = nI (R.getD i bd).2.2 := by rw [bq_g hi]; rfl
theorem bq_k {R : List (Nat × Tp)} {i : Nat} (hi : i < R.length) : ((R.map bq).getD i rd).2 1 = (R.getD i bd).2.1 := by rw [bq_g hi]; rfl
theorem tq_p {R : List (Nat × Tk)} {i : Nat} (hi : i < R.length) : ((R.map tq).getD i rd).2 0 = nI (tkP (R.getD i td).2) := by rw [tq_g hi]; rfl
theorem tq_x {R : List (Nat × Tk)} {i : Nat} (hi : i < R.length) : ((R.map tq).getD i rd).2 1 = tkX (R.getD i td).2 := by rw [tq_g hi]; rfl
theorem tq_k {R : List (Nat × Tk)} {i : Nat} (hi : i < R.length) : ((R.map tq).getD i rd).2 2 = tkK (R.getD i td).2 := by rw [tq_g hi]; rfl
theorem tq_s {R : List (Nat × Tk)} {i : Nat} (hi : i < R.length) : ((R.map tq).getD i rd).2 3 = nI (tkS (R.getD i td).2) := by rw [tq_g hi]; rfl
theorem tq_e {R : List (Nat × Tk)} {i : Nat} (hi : i < R.length) : ((R.map tq).getD i rd).2 4 = tkE (R.getD i td).2 := by rw [tq_g hi]; rfl
theorem mp_len {α β : Type} {f : α → β} {L : List α} {i : Nat} (hi : i < L.length) : i < (L.map f).length := by rw [List.length_map]; exact hi
theorem ad_bq (R : List (Nat × Tp)) : (R.map bq).map (·.1) = ad R := by simp [ad, bq]
theorem ad_tq (R : List (Nat × Tk)) : (R.map tq).map (·.1) = ad R := by simp [ad, tq]
theorem gd_mem {α : Type} {L : List α} {d : α} {i : Nat} (hi : i < L.length) : L.getD i d ∈ L := by
  simp [List.getD_eq_getElem?_getD, hi]
theorem ad_mem {α : Type} {R : List (Nat × α)} {d : Nat × α} {i : Nat} (hi : i < R.length) : (R.getD i d).1 ∈ ad R := List.mem_map.mpr ⟨_, gd_mem hi, rfl⟩
theorem zL.zi {D : va_G} {cI : ClassId} {L : List Nat} {P X : va_W} {H : Heap} {a : Nat} (h : zL cI L X) (ha : a ∈ L) (hP : va_P D vwCl (P ++ X) H) : zI D cI a H := by
  obtain ⟨n, f, h1⟩ := h a ha
  exact zI.of hP (List.mem_append_right _ h1)
theorem zL_Bq {cI : ClassId} {Rb : List (Nat × Tp)} {RT : List Rw} {Y : va_W} : zL cI (ad Rb) (sT cI (Rb.map bq) RT ++ Y) := by
  rw [← ad_bq]; exact zL_B
theorem zL_Tq {cI : ClassId} {RB : List Rw} {Rt : List (Nat × Tk)} {Y : va_W} : zL cI (ad Rt) (sT cI RB (Rt.map tq) ++ Y) := by
  rw [← ad_tq]; exact zL_T
theorem zL_cons {cI : ClassId} {v : Nat} {L : List Nat} {X : va_W} (h1 : zL cI [v] X) (h2 : zL cI L X) : zL cI (v :: L) X := fun a ha => by
  rcases List.mem_cons.mp ha with h | h
  · subst h; exact h1 a (List.mem_cons_self)
  · exact h2 a h
theorem zL_one {cI : ClassId} {v : Nat} {L : List Nat} {X : va_W} (h : zL cI L X) (hv : v ∈ L) : zL cI [v] X := fun a ha => by
  rw [List.mem_singleton] at ha
  subst ha
  exact h a hv
theorem z_permnil {Z : va_W} : Z.Perm (Z ++ []) := by rw [List.append_nil]
/-! pushes and drops, of rows too -/
theorem er_take_s {α : Type} {L : List α} {d : α} {p j : Nat} (hp : p < L.length) (hj : ¬ p = j) : (L.take (p + 1)).eraseIdx j = (L.take p).eraseIdx j ++ [L.getD p d] := by
  have e : L.take (p + 1) = L.take p ++ [L.getD p d] := by
    rw [List.take_succ]
    simp [List.getD_eq_getElem?_getD, hp]
  have hl : (L.take p).length = p := by simp; omega
  rw [e]
  rcases Nat.lt_or_ge j p with h | h
  · rw [List.eraseIdx_append_of_lt_length (by rw [hl]; exact h)]
  · rw [List.eraseIdx_append_of_length_le (by rw [hl]; exact h), hl, List.eraseIdx_of_length_le (l := [L.getD p d]) (by simp; omega), List.eraseIdx_of_length_le (l := L.take p) (by rw [hl]; exact h)]
theorem er_take_e {α : Type} {L : List α} {j : Nat} (hj : j < L.length) : (L.take (j + 1)).eraseIdx j = (L.take j).eraseIdx j := by
  have hl : (L.take j).length = j := by simp; omega
  have e : L.take (j + 1) = L.take j ++ [L[j]] := by
    rw [List.take_succ]
    simp [hj]
  have e2 : (L.take j).eraseIdx j = L.take j := List.eraseIdx_of_length_le (by rw [hl]; exact Nat.le_refl _)
  rw [e, List.eraseIdx_append_of_length_le (by rw [hl]; exact Nat.le_refl _), hl, Nat.sub_self, e2]
  simp
theorem map_er {α β : Type} (f : α → β) : ∀ (L : List α) (j : Nat), (L.eraseIdx j).map f = (L.map f).eraseIdx j
  | [], _ => by simp
  | a :: L, 0 => by simp
  | a :: L, j + 1 => by simp [map_er f L j]
def mtq (R : List (Nat × Tp)) (j : Nat) : List (Nat × Tp) := R.getD j bd :: R.eraseIdx j
theorem mtq_sn (R : List (Nat × Tp)) (j : Nat) : sn (mtq R j) = mtf (sn R) j := by
  rw [mtf, sn_gd]
  simp only [mtq, sn, List.map_cons, map_er]
theorem mtq_ad (R : List (Nat × Tp)) (j : Nat) : ad (mtq R j) = (R.getD j bd).1 :: (ad R).eraseIdx j := by
  simp only [mtq, ad, List.map_cons, map_er]
theorem er_sn {α : Type} (R : List (Nat × α)) (j : Nat) : sn (R.eraseIdx j) = (sn R).eraseIdx j := map_er _ _ _
theorem er_ad {α : Type} (R : List (Nat × α)) (j : Nat) : ad (R.eraseIdx j) = (ad R).eraseIdx j := map_er _ _ _
theorem cons_er {α : Type} {d : α} : ∀ {L : List α} {j : Nat}, j < L.length → (L.getD j d :: L.eraseIdx j).Perm L
  | [], _, h => by simp at h
  | a :: L, 0, _ => by simp
  | a :: L, j + 1, h => by
    have ih := cons_er (d := d) (L := L) (j := j) (by simpa using h)
    have e : (a :: L).getD (j + 1) d = L.getD j d := by simp [List.getD_eq_getElem?_getD]
    rw [e, List.eraseIdx_cons_succ]
    exact (List.Perm.swap _ _ _).trans (ih.cons a)
theorem rS_mtq {R : List (Nat × Tp)} {j : Nat} (hj : j < R.length) : rS (R.map bq) ((mtq R j).map bq) := ⟨R.map bq, (cons_er hj).map _, List.Sublist.refl _⟩
theorem rS_er {R : List (Nat × Tp)} {j : Nat} : rS (R.map bq) ((R.eraseIdx j).map bq) := ⟨_, List.Perm.refl _, (List.eraseIdx_sublist _ _).map _⟩
/-! leaving out, of any things -/
def pr {α : Type} (F : Nat → Option α) (i : Nat) : List α := (List.range i).filterMap F
theorem pr_some {α : Type} {F : Nat → Option α} {i : Nat} {t : α} (h : F i = some t) : pr F (i + 1) = pr F i ++ [t] := by
  simp [pr, List.range_succ, h]
theorem pr_none {α : Type} {F : Nat → Option α} {i : Nat} (h : F i = none) : pr F (i + 1) = pr F i := by
  simp [pr, List.range_succ, h]
theorem range_gd {α : Type} (d : α) (L : List α) : (List.range L.length).map (fun i => L.getD i d) = L := by
  apply List.ext_getElem (by simp)
  intro i h1 h2
  simp [List.getD_eq_getElem?_getD, h2]
theorem pf_all {c : Tp → Prop} [DecidablePred c] (L : List Tp) : pf (fun i => if c (L.getD i tp0) then none else some (L.getD i tp0)) L.length = L.filter (fun t => decide (¬ c t)) := by
  have h1 : pf (fun i => if c (L.getD i tp0) then none else some (L.getD i tp0)) L.length = ((List.range L.length).map (fun i => L.getD i tp0)).filterMap (fun t => if c t then none else some t) := by
    rw [List.filterMap_map]; rfl
  rw [h1, range_gd]
  clear h1
  induction L with
  | nil => rfl
  | cons a L ih =>
    by_cases h : c a
    · simp [List.filterMap_cons, List.filter_cons, h, ih]
    · simp [List.filterMap_cons, List.filter_cons, h, ih]
def kpS (me : Int32) (t : Tp) : Bool := decide (¬ (t.1 = 0 ∧ nI t.2 < me))
theorem sft_fl (me : Int32) (L : List Tp) : sft me L = L.filter (kpS me) := by
  rw [show sft me L = pf (fun i => if (L.getD i tp0).1 = 0 ∧ nI (L.getD i tp0).2 < me then none else some (L.getD i tp0)) L.length from rfl]
  exact pf_all (c := fun t => t.1 = 0 ∧ nI t.2 < me) L
/-- what is left of the first rows -/
def lfF (st g : Nat) (me : Int32) (R : List (Nat × Tp)) (i : Nat) : Option (Nat × Tp) := if 2 ≤ gnZ st g (sn R) i ∧ ¬ ((R.getD i bd).2.1 = 0 ∧ nI (gnZ st g (sn R) i) < me) then some ((R.getD i bd).1, ((R.getD i bd).2.1, gnZ st g (sn R) i)) else none
abbrev lfN (st g : Nat) (me : Int32) (R : List (Nat × Tp)) (i : Nat) : List (Nat × Tp) := pr (lfF st g me R) i
abbrev gnN (st g : Nat) (R : List (Nat × Tp)) (i : Nat) : List Tp := pf (gnF st g (sn R)) i
theorem sn_app {α : Type} (R : List (Nat × α)) (r : Nat × α) : sn (R ++ [r]) = sn R ++ [r.2] := by simp [sn]
theorem lf_sn (st g : Nat) (me : Int32) (R : List (Nat × Tp)) : ∀ i, sn (lfN st g me R i) = (gnN st g R i).filter (kpS me)
  | 0 => rfl
  | i + 1 => by
    have ih := lf_sn st g me R i
    by_cases h1 : 2 ≤ gnZ st g (sn R) i
    · have hG : gnF st g (sn R) i = some ((R.getD i bd).2.1, gnZ st g (sn R) i) := by rw [gnF_some h1, sn_gd]
      by_cases h2 : (R.getD i bd).2.1 = 0 ∧ nI (gnZ st g (sn R) i) < me
      · have hL : lfF st g me R i = none := by rw [lfF, if_neg (fun h => h.2 h2)]
        have e1 : lfN st g me R (i + 1) = lfN st g me R i := pr_none hL
        have e2 : gnN st g R (i + 1) = gnN st g R i ++ [((R.getD i bd).2.1, gnZ st g (sn R) i)] := pf_some hG
        rw [e1, ih, e2, List.filter_append]
        have : kpS me ((R.getD i bd).2.1, gnZ st g (sn R) i) = false := decide_eq_false (fun h => h h2)
        rw [List.filter_cons_of_neg (by rw [this]; exact Bool.false_ne_true), List.filter_nil, List.append_nil]
      · have hL : lfF st g me R i = some ((R.getD i bd).1, ((R.getD i bd).2.1, gnZ st g (sn R) i)) := by rw [lfF, if_pos ⟨h1, h2⟩]
        have : kpS me ((R.getD i bd).2.1, gnZ st g (sn R) i) = true := decide_eq_true h2
        have e1 : lfN st g me R (i + 1) = lfN st g me R i ++ [((R.getD i bd).1, ((R.getD i bd).2.1, gnZ st g (sn R) i))] := pr_some hL
        have e2 : gnN st g R (i + 1) = gnN st g R i ++ [((R.getD i bd).2.1, gnZ st g (sn R) i)] := pf_some hG
        rw [e1, e2, List.filter_append, ← ih]
        rw [List.filter_cons_of_pos this, List.filter_nil, sn_app]
    · have hG : gnF st g (sn R) i = none := gnF_none (by omega)
      have hL : lfF st g me R i = none := by rw [lfF, if_neg (fun h => h1 h.1)]
      have e1 : lfN st g me R (i + 1) = lfN st g me R i := pr_none hL
      have e2 : gnN st g R (i + 1) = gnN st g R i := pf_none hG
      rw [e1, e2]
      exact ih
theorem lf_le (st g : Nat) (me : Int32) (R : List (Nat × Tp)) (i : Nat) : (lfN st g me R i).length ≤ (gnN st g R i).length := by
  have h := congrArg List.length (lf_sn st g me R i)
  rw [sn_len] at h
  rw [h]
  exact List.length_filter_le _ _
theorem gn_le (st g : Nat) (R : List (Nat × Tp)) (i : Nat) : (gnN st g R i).length ≤ i := pf_le _ _
theorem gn_s1 {st g : Nat} {R : List (Nat × Tp)} {i : Nat} (h : 2 ≤ gnZ st g (sn R) i) : (gnN st g R (i + 1)).length = (gnN st g R i).length + 1 := pf_lenS (gnF_some h)
theorem gn_s0 {st g : Nat} {R : List (Nat × Tp)} {i : Nat} (h : gnZ st g (sn R) i < 2) : (gnN st g R (i + 1)).length = (gnN st g R i).length := pf_lenN (gnF_none h)
theorem lf_s1 {st g : Nat} {me : Int32} {R : List (Nat × Tp)} {i : Nat} (h : 2 ≤ gnZ st g (sn R) i) (h2 : ¬ ((R.getD i bd).2.1 = 0 ∧ nI (gnZ st g (sn R) i) < me)) : lfN st g me R (i + 1) = lfN st g me R i ++ [((R.getD i bd).1, ((R.getD i bd).2.1, gnZ st g (sn R) i))] := pr_some (by rw [lfF, if_pos ⟨h, h2⟩])
theorem lf_s0 {st g : Nat} {me : Int32} {R : List (Nat × Tp)} {i : Nat} (h : ¬ (2 ≤ gnZ st g (sn R) i ∧ ¬ ((R.getD i bd).2.1 = 0 ∧ nI (gnZ st g (sn R) i) < me))) : lfN st g me R (i + 1) = lfN st g me R i := pr_none (by rw [lfF, if_neg h])
/-- the rows, the first of them ground -/
def grd (st g : Nat) (R : List (Nat × Tp)) (RB : List Rw) (i : Nat) : Prop := RB.length = R.length ∧ ∀ j, j < R.length → RB.getD j rd = ((R.getD j bd).1, bf (if j < i then ((R.getD j bd).2.1, gnZ st g (sn R) j) else (R.getD j bd).2))
theorem gd_set {α : Type} {L : List α} {d : α} {i j : Nat} {x : α} (hi : i < L.length) : (L.set i x).getD j d = if j = i then x else L.getD j d := by
  simp only [List.getD_eq_getElem?_getD, List.getElem?_set]
  by_cases e : i = j
  · subst e
    simp [hi]
  · rw [if_neg e, if_neg (fun h => e h.symm)]
theorem grd_0 {st g : Nat} {R : List (Nat × Tp)} : grd st g R (R.map bq) 0 := ⟨List.length_map .., fun j hj => by rw [if_neg (by omega), bq_g hj]; rfl⟩
theorem grd_1 {st g : Nat} {R : List (Nat × Tp)} {RB : List Rw} {i : Nat} (h : grd st g R RB i) (hi : i < R.length) : RB.getD i rd = ((R.getD i bd).1, bf (R.getD i bd).2) := by
  rw [h.2 i hi, if_neg (by omega)]
theorem grd_s {st g : Nat} {R : List (Nat × Tp)} {RB : List Rw} {i : Nat} (h : grd st g R RB i) (hi : i < R.length) {f : Nat → Int32} (hf : f = bf ((R.getD i bd).2.1, gnZ st g (sn R) i)) : grd st g R (RB.set i ((R.getD i bd).1, f)) (i + 1) := by
  subst hf
  refine ⟨by rw [List.length_set]; exact h.1, fun j hj => ?_⟩
  rw [gd_set (by rw [h.1]; exact hi)]
  by_cases e : j = i
  · subst e
    rw [if_pos rfl, if_pos (by omega)]
  · rw [if_neg e, h.2 j hj]
    by_cases h1 : j < i
    · rw [if_pos h1, if_pos (by omega)]
    · rw [if_neg h1, if_neg (by omega)]
theorem grd_k {st g : Nat} {R : List (Nat × Tp)} {RB : List Rw} {i : Nat} (h : grd st g R RB i) (hi : i < R.length) (hz : gnZ st g (sn R) i = (R.getD i bd).2.2) : grd st g R RB (i + 1) := by
  refine ⟨h.1, fun j hj => ?_⟩
  rw [h.2 j hj]
  by_cases e : j = i
  · subst e
    rw [if_neg (by omega), if_pos (by omega), hz]
  · by_cases h1 : j < i
    · rw [if_pos h1, if_pos (by omega)]
    · rw [if_neg h1, if_neg (by omega)]
def grQ (st g : Nat) (R : List (Nat × Tp)) : List (Nat × Tp) := (List.range R.length).map (fun j => ((R.getD j bd).1, ((R.getD j bd).2.1, gnZ st g (sn R) j)))
theorem grd_e {st g : Nat} {R : List (Nat × Tp)} {RB : List Rw} (h : grd st g R RB R.length) : RB = (grQ st g R).map bq := by
  have e1 := range_gd rd RB
  rw [h.1] at e1
  rw [← e1, grQ, List.map_map]
  refine List.map_congr_left (fun j hj => ?_)
  rw [h.2 j (List.mem_range.mp hj), if_pos (List.mem_range.mp hj)]
  rfl
theorem grd_ad {st g : Nat} {R : List (Nat × Tp)} {RB : List Rw} {i : Nat} (h : grd st g R RB i) : RB.map (·.1) = ad R := by
  have e1 := congrArg (List.map Prod.fst) (range_gd rd RB)
  have e2 := congrArg (List.map Prod.fst) (range_gd bd R)
  rw [List.map_map, h.1] at e1
  rw [List.map_map] at e2
  rw [← e1, ad, ← e2]
  refine List.map_congr_left (fun j hj => ?_)
  show (RB.getD j rd).1 = (R.getD j bd).1
  rw [h.2 j (List.mem_range.mp hj)]
theorem z_w1 {RB : List Rw} {i a j : Nat} {f : Nat → Int32} {z : Int32} (g1 : RB.getD i rd = (a, f)) : RB.set i ((RB.getD i rd).1, upd (RB.getD i rd).2 j z) = RB.set i (a, upd f j z) := by rw [g1]
theorem z_g2 {RB : List Rw} {i a : Nat} {f : Nat → Int32} (hi : i < RB.length) : (RB.set i (a, f)).getD i rd = (a, f) := (gd_set hi).trans (if_pos rfl)
theorem z_w2 {RB : List Rw} {i a j : Nat} {f : Nat → Int32} {z : Int32} (hi : i < RB.length) : (RB.set i (a, f)).set i (((RB.set i (a, f)).getD i rd).1, upd ((RB.set i (a, f)).getD i rd).2 j z) = RB.set i (a, upd f j z) := by
  rw [z_g2 hi, List.set_set]
theorem gnZ_lt {st g : Nat} {R : List (Nat × Tp)} {i : Nat} (h : i < st) : gnZ st g (sn R) i = (R.getD i bd).2.2 / g := by rw [gnZ, if_pos h, sn_gd]
theorem gnZ_ge {st g : Nat} {R : List (Nat × Tp)} {i : Nat} (h : ¬ i < st) : gnZ st g (sn R) i = (R.getD i bd).2.2 := by rw [gnZ, if_neg h, sn_gd]
theorem bf_set {t : Tp} {z : Nat} : upd (bf t) 0 (nI z) = bf (t.1, z) := by
  funext j
  by_cases e : j = 0
  · subst e; exact pk_us
  · rw [pk_un e]
    match j, e with
    | 1, _ => rfl
    | k + 2, _ => rfl
theorem fm_sub {α β : Type} (G : α → Option β) (f : α → β) (hG : ∀ a t, G a = some t → t = f a) : ∀ L : List α, (L.filterMap G).Sublist (L.map f)
  | [] => List.Sublist.refl _
  | a :: L => by
    have ih := fm_sub G f hG L
    rw [List.filterMap_cons]
    cases h : G a with
    | none => exact ih.cons _
    | some t => rw [hG a t h]; exact ih.cons_cons _
theorem lf_sub {st g : Nat} {me : Int32} {R : List (Nat × Tp)} : (lfN st g me R R.length).Sublist (grQ st g R) := by
  refine fm_sub _ _ (fun j t h1 => ?_) _
  simp only [lfF] at h1
  split at h1
  · cases h1; rfl
  · cases h1
theorem rS_lf {st g : Nat} {me : Int32} {R : List (Nat × Tp)} {RB : List Rw} (h : grd st g R RB R.length) : rS RB ((lfN st g me R R.length).map bq) := by
  rw [grd_e h]
  exact ⟨_, List.Perm.refl _, lf_sub.map _⟩
theorem lf_B2 {q : St} {R : List (Nat × Tp)} (h : stB q = sn R) : sn (lfN (stS q) (stG q) (stM q) R R.length) = mB2 q := by
  rw [lf_sn, mB2, sft_fl, mB1, gnd, h, sn_len]
theorem gn_B1 {q : St} {R : List (Nat × Tp)} (h : stB q = sn R) : gnN (stS q) (stG q) R R.length = mB1 q := by
  rw [mB1, gnd, h, sn_len]
theorem lf_adL {st g : Nat} {me : Int32} {R : List (Nat × Tp)} (i : Nat) (hi : i ≤ R.length) : ∀ a ∈ ad (lfN st g me R i), a ∈ ad R := by
  intro a ha
  obtain ⟨r, hr, rfl⟩ := List.mem_map.mp ha
  obtain ⟨j, hj, h1⟩ := List.mem_filterMap.mp hr
  have hj2 := List.mem_range.mp hj
  simp only [lfF] at h1
  split at h1
  · cases h1
    exact ad_mem (by omega)
  · cases h1
theorem ad_app {α : Type} (R : List (Nat × α)) (r : Nat × α) : ad (R ++ [r]) = ad R ++ [r.1] := by simp [ad]
theorem i_add (x : Int32) (a b : Nat) : x + nI a + nI b = x + nI (a + b) := by rw [Int32.add_assoc, nI_add]
/-! talkers -/
def okX (T : List Tk) : Prop := ∀ j, j < T.length → tkX (T.getD j tk0) = -1 ∨ ∃ m, m < 2147483648 ∧ tkX (T.getD j tk0) = nI m
theorem okX_n {T : List Tk} (h : okX T) {j : Nat} (hj : j < T.length) (hx : ¬ tkX (T.getD j tk0) < 0) : ¬ tkX (T.getD j tk0) = -1 := fun e => hx (by rw [e]; decide)
theorem okX_y {T : List Tk} (h : okX T) {j : Nat} (hj : j < T.length) (hx : tkX (T.getD j tk0) < 0) : tkX (T.getD j tk0) = -1 := by
  rcases h j hj with e | ⟨m, hm, e⟩
  · exact e
  · rw [e] at hx; exact absurd hx (nI_pos hm)
/-- the rows, the first of them behind the minute's noise -/
def hrd (z mi : Nat) (R : List (Nat × Tk)) (RT : List Rw) (i : Nat) : Prop := RT.length = R.length ∧ ∀ j, j < R.length → RT.getD j rd = ((R.getD j td).1, tf (if j < i then hrF z mi (R.getD j td).2 else (R.getD j td).2))
theorem hrd_0 {z mi : Nat} {R : List (Nat × Tk)} : hrd z mi R (R.map tq) 0 := ⟨List.length_map .., fun j hj => by rw [if_neg (by omega), tq_g hj]; rfl⟩
theorem hrd_1 {z mi : Nat} {R : List (Nat × Tk)} {RT : List Rw} {i : Nat} (h : hrd z mi R RT i) (hi : i < R.length) : RT.getD i rd = ((R.getD i td).1, tf (R.getD i td).2) := by
  rw [h.2 i hi, if_neg (by omega)]
theorem hrd_s {z mi : Nat} {R : List (Nat × Tk)} {RT : List Rw} {i : Nat} (h : hrd z mi R RT i) (hi : i < R.length) {f : Nat → Int32} (hf : f = tf (hrF z mi (R.getD i td).2)) : hrd z mi R (RT.set i ((R.getD i td).1, f)) (i + 1) := by
  subst hf
  refine ⟨by rw [List.length_set]; exact h.1, fun j hj => ?_⟩
  rw [gd_set (by rw [h.1]; exact hi)]
  by_cases e : j = i
  · subst e
    rw [if_pos rfl, if_pos (by omega)]
  · rw [if_neg e, h.2 j hj]
    by_cases h1 : j < i
    · rw [if_pos h1, if_pos (by omega)]
    · rw [if_neg h1, if_neg (by omega)]
theorem hrd_k {z mi : Nat} {R : List (Nat × Tk)} {RT : List Rw} {i : Nat} (h : hrd z mi R RT i) (hi : i < R.length) (hx : ¬ tkX (R.getD i td).2 = -1) : hrd z mi R RT (i + 1) := by
  refine ⟨h.1, fun j hj => ?_⟩
  rw [h.2 j hj]
  by_cases e : j = i
  · subst e
    rw [if_neg (by omega), if_pos (by omega), hrF, if_neg hx]
  · by_cases h1 : j < i
    · rw [if_pos h1, if_pos (by omega)]
    · rw [if_neg h1, if_neg (by omega)]
def hrQ (z mi : Nat) (R : List (Nat × Tk)) : List (Nat × Tk) := R.map (fun r => (r.1, hrF z mi r.2))
theorem hrQ_len (z mi : Nat) (R : List (Nat × Tk)) : (hrQ z mi R).length = R.length := List.length_map ..
theorem hrQ_ad (z mi : Nat) (R : List (Nat × Tk)) : ad (hrQ z mi R) = ad R := by simp [hrQ, ad]
theorem hrQ_sn (z mi : Nat) (R : List (Nat × Tk)) : sn (hrQ z mi R) = hrT z mi (sn R) := by simp [hrQ, sn, hrT]
theorem hrd_e {z mi : Nat} {R : List (Nat × Tk)} {RT : List Rw} (h : hrd z mi R RT R.length) : RT = (hrQ z mi R).map tq := by
  have e1 := range_gd rd RT
  have e2 := range_gd rd ((hrQ z mi R).map tq)
  rw [List.length_map, hrQ_len] at e2
  rw [h.1] at e1
  rw [← e1, ← e2]
  refine List.map_congr_left (fun j hj => ?_)
  have hj := List.mem_range.mp hj
  rw [h.2 j hj, if_pos hj, tq_g (by rw [hrQ_len]; exact hj), hrQ, gd_map (d := td) _ _ _ hj]
  rfl
theorem tf_p {t : Tk} {p : Nat} : upd (tf t) 0 (nI p) = tf (tkK t, tkS t, tkE t, p, tkX t) := by
  funext j
  by_cases e : j = 0
  · subst e; exact pk_us
  · rw [pk_un e]
    match j, e with
    | 1, _ => rfl
    | 2, _ => rfl
    | 3, _ => rfl
    | 4, _ => rfl
    | k + 5, _ => rfl
theorem tf_g {t : Tk} {v x : Int32} : upd (upd (upd (tf t) 0 v) 0 (nI 0)) 1 x = tf (tkK t, tkS t, tkE t, 0, x) := by
  funext j
  by_cases e : j = 1
  · subst e; exact pk_us
  · rw [pk_un e]
    by_cases e2 : j = 0
    · subst e2; exact pk_us
    · rw [pk_un e2, pk_un e2]
      match j, e, e2 with
      | 2, _, _ => rfl
      | 3, _, _ => rfl
      | 4, _, _ => rfl
      | k + 5, _, _ => rfl
theorem hrF_0 {mi : Nat} {t : Tk} (hx : tkX t = -1) (hp : tkP t ≤ 30) : hrF 0 mi t = (tkK t, tkS t, tkE t, tkP t + (if tkP t < 30 then 1 else 0), tkX t) := by
  have e : hrP 0 (tkP t) = tkP t + (if tkP t < 30 then 1 else 0) := by
    rw [hrP, if_neg (by omega)]
    split <;> omega
  have e3 : ¬ (tkP t + (if tkP t < 30 then 1 else 0)) = 0 := by split <;> omega
  rw [hrF, if_pos hx, e, if_neg e3, hx]
theorem hrF_y {z mi : Nat} {t : Tk} (hx : tkX t = -1) (hz : 0 < z) (h : z / 20 + 1 < tkP t) : hrF z mi t = (tkK t, tkS t, tkE t, tkP t - (z / 20 + 1), tkX t) := by
  have e : hrP z (tkP t) = tkP t - (z / 20 + 1) := by rw [hrP, if_pos hz]
  rw [hrF, if_pos hx, e, if_neg (by omega), hx]
theorem hrF_n {z mi : Nat} {t : Tk} (hx : tkX t = -1) (hz : 0 < z) (h : tkP t ≤ z / 20 + 1) : hrF z mi t = (tkK t, tkS t, tkE t, 0, nI mi) := by
  have e : hrP z (tkP t) = 0 := by rw [hrP, if_pos hz]; omega
  rw [hrF, if_pos hx, e, if_pos rfl]
theorem pt_pos {p d : Nat} (hp : p ≤ 30) (hd : d < 1000) (h : ¬ nI p - nI d ≤ 0) : d < p := by
  rcases Nat.lt_or_ge d p with h1 | h1
  · exact h1
  · exfalso
    rcases Nat.lt_or_ge p d with h2 | h2
    · exact h (Int32.le_of_lt (pk_sneg (by omega) h2))
    · obtain rfl : p = d := by omega
      apply h
      rw [pk_sub (Nat.le_refl _), Nat.sub_self, nI_0]
      exact Int32.le_refl _
theorem pt_neg {p d : Nat} (hp : p ≤ 30) (hd : d < 1000) (h : nI p - nI d ≤ 0) : p ≤ d := by
  rcases Nat.lt_or_ge d p with h1 | h1
  · exfalso
    rw [pk_sub (by omega)] at h
    exact nI_nle (by omega) (by omega) h
  · exact h1
theorem nI_nm1 {n : Nat} (h : n < 2147483648) : ¬ nI n = -1 := fun e => nI_pos h (by rw [e]; decide)
theorem gone_s {z mi : Nat} {T : List Tk} {i : Nat} (hi : i < T.length) (hx : tkX (T.getD i tk0) = -1) (h : ¬ tkX (hrF z mi (T.getD i tk0)) = -1) : cnN (isT T) (i + 1) - cnN (isT (hrT z mi T)) (i + 1) = cnN (isT T) i - cnN (isT (hrT z mi T)) i + 1 := by
  have h1 : isT (hrT z mi T) i = false := by
    refine isT_f ?_
    rw [hrT, gd_map (d := tk0) _ _ _ hi]; exact h
  rw [cn_t (isT_t hx), cn_f h1]
  have := ct_hr z mi T i (by omega)
  omega
theorem gone_k {z mi : Nat} {T : List Tk} {i : Nat} (hi : i < T.length) (h : tkX (hrF z mi (T.getD i tk0)) = tkX (T.getD i tk0)) : cnN (isT T) (i + 1) - cnN (isT (hrT z mi T)) (i + 1) = cnN (isT T) i - cnN (isT (hrT z mi T)) i := by
  have h1 : isT (hrT z mi T) i = isT T i := by
    simp only [isT]
    rw [hrT, gd_map (d := tk0) _ _ _ hi, h]
  simp only [cnN]
  rw [h1]
  split <;> omega
theorem bf_new {k : Int32} {z : Nat} : upd (upd (fun _ => 0) 0 (nI z)) 1 k = bf (k, z) := by
  funext j
  by_cases e : j = 1
  · subst e; exact pk_us
  · rw [pk_un e]
    by_cases e2 : j = 0
    · subst e2; exact pk_us
    · rw [pk_un e2]
      match j, e, e2 with
      | k + 2, _, _ => rfl
theorem tf_new {k : Int32} {z : Nat} {e : Int32} : upd (upd (upd (upd (upd (fun _ => 0) 0 (nI 30)) 1 (-1)) 2 k) 3 (nI z)) 4 e = tf (k, z, e, 30, -1) := by
  funext j
  by_cases e4 : j = 4
  · subst e4; exact pk_us
  · rw [pk_un e4]
    by_cases e3 : j = 3
    · subst e3; exact pk_us
    · rw [pk_un e3]
      by_cases e2 : j = 2
      · subst e2; exact pk_us
      · rw [pk_un e2]
        by_cases e1 : j = 1
        · subst e1; exact pk_us
        · rw [pk_un e1]
          by_cases e0 : j = 0
          · subst e0; exact pk_us
          · rw [pk_un e0]
            match j, e0, e1, e2, e3, e4 with
            | k + 5, _, _, _, _, _ => rfl
theorem stB_okB {q : St} {R : List (Nat × Tp)} (h : stB q = sn R) (hO : okS q) {i : Nat} (hi : i < R.length) : 2 ≤ (R.getD i bd).2.2 ∧ (R.getD i bd).2.2 ≤ 99 := by
  have := hO.1 i (by rw [h, sn_len]; exact hi)
  rw [h, sn_gd] at this
  exact this
theorem stT_okT {q : St} {R : List (Nat × Tk)} (h : stT q = sn R) (hO : okS q) {i : Nat} (hi : i < R.length) : okK (R.getD i td).2 := by
  have := hO.2.2.1 i (by rw [h, sn_len]; exact hi)
  rw [h, sn_gdT] at this
  exact this
theorem z_ixBq {P Y : va_W} {cI : ClassId} {Rb : List (Nat × Tp)} {RT : List Rw} {i : Nat} (hi : i < Rb.length) : (P ++ (sT cI (Rb.map bq) RT ++ Y))[P.length + i]? = some ((Rb.getD i bd).1, .inl (cI, 2, .inl (bf (Rb.getD i bd).2))) := by
  rw [z_ixB (mp_len hi), bq_g hi]; rfl
theorem z_ixTq {P Y : va_W} {cI : ClassId} {RB : List Rw} {Rt : List (Nat × Tk)} {i : Nat} (hi : i < Rt.length) : (P ++ (sT cI RB (Rt.map tq) ++ Y))[P.length + (RB.length + i)]? = some ((Rt.getD i td).1, .inl (cI, 5, .inl (tf (Rt.getD i td).2))) := by
  rw [z_ixT (mp_len hi), tq_g hi]; rfl
theorem z_absBq {P Y : va_W} {cI : ClassId} {Rb : List (Nat × Tp)} {RT : List Rw} {v : Nat} {t : Tp} : zS ((P ++ [(v, .inl (cI, 2, .inl (bf t)))]) ++ (sT cI (Rb.map bq) RT ++ Y)) (P ++ (sT cI ((Rb ++ [(v, t)]).map bq) RT ++ Y)) := by
  rw [List.map_append]; exact z_absB
theorem z_absTq {P Y : va_W} {cI : ClassId} {RB : List Rw} {Rt : List (Nat × Tk)} {v : Nat} {t : Tk} : zS ((P ++ [(v, .inl (cI, 5, .inl (tf t)))]) ++ (sT cI RB (Rt.map tq) ++ Y)) (P ++ (sT cI RB ((Rt ++ [(v, t)]).map tq) ++ Y)) := by
  rw [List.map_append]; exact z_absT
theorem z_absBq2 {P X Y : va_W} {cI : ClassId} {Rb : List (Nat × Tp)} {RT : List Rw} {v : Nat} {t : Tp} : zS ((P ++ [(v, .inl (cI, 2, .inl (bf t)))]) ++ (X ++ (sT cI (Rb.map bq) RT ++ Y))) (P ++ (X ++ (sT cI ((Rb ++ [(v, t)]).map bq) RT ++ Y))) := by
  rw [List.map_append]; exact z_absB2
theorem z_absTq2 {P X Y : va_W} {cI : ClassId} {RB : List Rw} {Rt : List (Nat × Tk)} {v : Nat} {t : Tk} : zS ((P ++ [(v, .inl (cI, 5, .inl (tf t)))]) ++ (X ++ (sT cI RB (Rt.map tq) ++ Y))) (P ++ (X ++ (sT cI RB ((Rt ++ [(v, t)]).map tq) ++ Y))) := by
  rw [List.map_append]; exact z_absT2
theorem qf_1 {v : Nat} : va_up (fun _ => none) 0 (some v) = qf [v] := by
  have h := qf_app (L := []) (v := v)
  rw [qf_nil] at h
  exact h
section ZK
variable {p : Program} {l : Launch} {e : Env} {R : Room} {s : State} {m : MethodId} {args : Array Value} {below : List Frame} {meth : Method} {c : Code} {H : Heap} {locs : List Loc} {cells slots : Nat} {Q : State → Prop} {pc : Nat} {ls : Array Slot} {rest : List Value}
theorem k_topR {x v : Nat} (h : x = v) (k : W p l e R s m args below meth c H locs cells slots Q (F0 m pc ls (.ref v :: rest))) : W p l e R s m args below meth c H locs cells slots Q (F0 m pc ls (.ref x :: rest)) := by
  subst h; exact k
theorem k_topD {x v : UInt64} (h : x = v) (k : W p l e R s m args below meth c H locs cells slots Q (F0 m pc ls (.double v :: rest))) : W p l e R s m args below meth c H locs cells slots Q (F0 m pc ls (.double x :: rest)) := by
  subst h; exact k
end ZK
/-! the pushes' lists -/
def pL (R : List (Nat × Tp)) (j p : Nat) : List Nat := (R.getD j bd).1 :: ((ad R).take p).eraseIdx j
def dL (R : List (Nat × Tp)) (j p : Nat) : List Nat := ((ad R).take p).eraseIdx j
theorem ad_gd {α : Type} {R : List (Nat × α)} {d : Nat × α} {i : Nat} (hi : i < R.length) : (ad R).getD i 0 = (R.getD i d).1 := gd_map (d := d) (·.1) R i hi
theorem dL_s {R : List (Nat × Tp)} {j p : Nat} (hp : p < R.length) (hj : ¬ p = j) : dL R j (p + 1) = dL R j p ++ [(R.getD p bd).1] := by
  rw [dL, er_take_s (d := 0) (by rw [ad_len]; exact hp) hj, ad_gd (d := bd) hp]; rfl
theorem dL_e {R : List (Nat × Tp)} {j : Nat} (hj : j < R.length) : dL R j (j + 1) = dL R j j := er_take_e (by rw [ad_len]; exact hj)
theorem dL_end (R : List (Nat × Tp)) (j : Nat) : dL R j R.length = ad (R.eraseIdx j) := by
  rw [er_ad, dL, List.take_of_length_le (by rw [ad_len]; exact Nat.le_refl _)]
theorem dL_len (R : List (Nat × Tp)) (j p : Nat) : (dL R j p).length ≤ p := by
  have h := (List.eraseIdx_sublist ((ad R).take p) j).length_le
  have h2 : ((ad R).take p).length ≤ p := List.length_take_le _ _
  exact Nat.le_trans h h2
theorem dL_mem {R : List (Nat × Tp)} {j p : Nat} : ∀ a ∈ dL R j p, a ∈ ad R := fun a ha => List.mem_of_mem_take ((List.eraseIdx_sublist _ _).subset ha)
theorem pL_s {R : List (Nat × Tp)} {j p : Nat} (hp : p < R.length) (hj : ¬ p = j) : pL R j (p + 1) = pL R j p ++ [(R.getD p bd).1] := congrArg (List.cons (R.getD j bd).1) (dL_s hp hj)
theorem pL_e {R : List (Nat × Tp)} {j : Nat} (hj : j < R.length) : pL R j (j + 1) = pL R j j := congrArg (List.cons (R.getD j bd).1) (dL_e hj)
theorem pL_end (R : List (Nat × Tp)) (j : Nat) : pL R j R.length = ad (mtq R j) := by
  rw [mtq_ad, ← er_ad]; exact congrArg (List.cons (R.getD j bd).1) (dL_end R j)
theorem pL_len (R : List (Nat × Tp)) (j p : Nat) : (pL R j p).length ≤ p + 1 := Nat.succ_le_succ (dL_len R j p)
theorem pL_mem {R : List (Nat × Tp)} {j p : Nat} (hj : j < R.length) : ∀ a ∈ pL R j p, a ∈ ad R := fun a ha => by
  rcases List.mem_cons.mp ha with h | h
  · subst h; exact ad_mem hj
  · exact dL_mem a h
theorem cons_mem {v : Nat} {L M : List Nat} (hv : v ∈ M) (hL : ∀ a ∈ L, a ∈ M) : ∀ a ∈ v :: L, a ∈ M := fun a ha => by
  rcases List.mem_cons.mp ha with h | h
  · subst h; exact hv
  · exact hL a h
theorem mtq_len {R : List (Nat × Tp)} {j : Nat} (hj : j < R.length) : (mtq R j).length = R.length := (cons_er (d := bd) hj).length_eq
theorem take_sn {α : Type} {R R2 : List (Nat × α)} {d : Nat × α} {i a : Nat} (h : sn R2 = (sn R).take i) (hi : i < R.length) : sn (R2 ++ [(a, (R.getD i d).2)]) = (sn R).take (i + 1) := by
  rw [sn_app, h, List.take_succ]
  congr 1
  simp [sn, List.getD_eq_getElem?_getD, hi]
theorem take_len {α : Type} {R R2 : List (Nat × α)} {i : Nat} (h : sn R2 = (sn R).take i) (hi : i ≤ R.length) : R2.length = i := by
  rw [← sn_len R2, h, List.length_take, sn_len]; omega
theorem okX_mnt {q : St} (h : okX (stT q)) (hI : stI q < 2147483648) : okX (stT (mnt q)) := by
  intro j hj
  have hj2 : j < (stT q).length := by
    have : (stT (mnt q)).length = (stT q).length := hrT_len _ _ _
    omega
  show tkX ((hrT (ns (mB2 q)) (stI q) (stT q)).getD j tk0) = -1 ∨ _
  have e : (hrT (ns (mB2 q)) (stI q) (stT q)).getD j tk0 = hrF (ns (mB2 q)) (stI q) ((stT q).getD j tk0) := gd_map (d := tk0) _ _ _ hj2
  show _ ∨ ∃ m, m < 2147483648 ∧ tkX ((hrT (ns (mB2 q)) (stI q) (stT q)).getD j tk0) = nI m
  rw [e, hrF]
  split
  · show (if hrP _ _ = 0 then nI (stI q) else -1) = -1 ∨ ∃ m, m < 2147483648 ∧ (if hrP _ _ = 0 then nI (stI q) else -1) = nI m
    split
    · exact Or.inr ⟨stI q, hI, rfl⟩
    · exact Or.inl rfl
  · exact h j hj2
theorem stI_it (q : St) : ∀ i, stI (itS q i) = stI q + i
  | 0 => rfl
  | i + 1 => by
    show stI (itS q i) + 1 = _
    rw [stI_it q i]; omega
theorem okX_it {q : St} (h : okX (stT q)) {n : Nat} (hI : stI q + n < 2147483648) : ∀ i, i ≤ n → okX (stT (itS q i))
  | 0, _ => h
  | i + 1, hi => okX_mnt (okX_it h hI i (by omega)) (by rw [stI_it]; omega)
theorem z_rd1 {RB : List Rw} {i a j : Nat} {f : Nat → Int32} {v : Int32} (g : RB.getD i rd = (a, f)) (h : f j = v) : (RB.getD i rd).2 j = v := by
  rw [g]; exact h
theorem app_mem {α : Type} {v : Nat} {t : α} {R : List (Nat × α)} : ∀ a ∈ v :: ad R, a ∈ ad (R ++ [(v, t)]) := fun a ha => by
  rw [ad_app]
  rcases List.mem_cons.mp ha with h | h
  · subst h
    exact List.mem_append_right _ List.mem_cons_self
  · exact List.mem_append_left _ h
