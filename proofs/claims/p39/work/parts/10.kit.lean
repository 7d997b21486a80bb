/-! ===== own kit: contracts of one form; a call, a body, an end in one row each ===== -/
/-- what every method may take as given of the state: the nest links, the statics that a throw reads, the texts -/
def kNest (U : State) : Prop := va_Nw (.methodLinkNest RX0 30 yX3_ground RX3) U ∧ va_Nw (.methodLinkNest RX1 48 yX3_divides RX3) U
def kZ (A : Nat → Prop) (U : State) : Prop := vx_Zq Bundle.tN "UNASSIGNED_STACK" Bundle.steD A U U.heap ∧ vx_Zq Bundle.tN "SUPPRESSED_SENTINEL" Bundle.listD A U U.heap
abbrev eIA : String := "java/lang/IllegalArgumentException"
abbrev eIS : String := "java/lang/IllegalStateException"
abbrev eIO : String := "java/lang/IndexOutOfBoundsException"
def kTx : List (Nat × String) := [(35, "there are 12 topics"), (63, "gear is not 2 to 9"), (69, "stones is not 1 to 4"), (74, "mesh is not 0 to 20"), (79, "minutes is not 1 to 9"), (88, "there are 6 talkers"), (123, "kind is not 0 to 4"), (215, "size is not 2 to 99"), (217, "minutes is not 1 to 60"), (222, "there is no topic at this place"), (227, "there is no such talker")]
def kStr (U : State) : Prop := ∀ q ∈ kTx, ∃ sa : Nat, vk_R RX3 q.1 q.2 sa U
def kAO (U : State) : Prop := (Cond.arrayOver (.array .int)).before #[] U = true
def kNew (U : State) : Prop := va_Nw (.methodLinkNest RL 75 yX4_init RL) U ∧ va_Nw (.castable "[I" "java/lang/Cloneable") U ∧ kAO U
def kBad (U : State) : Prop := va_Nw (.declares (Bundle.initS "java/lang/RuntimeException")) U ∧ va_Nw (.declares (Bundle.initS "java/lang/Exception")) U ∧ va_Nw (.declares (Bundle.initS Bundle.tN)) U ∧ va_Nw (.castable eIA eIA) U ∧ va_Nw (.castable eIS eIS) U ∧ va_Nw (.castable eIO eIO) U ∧ kNew U
def kG (A : Nat → Prop) (U : State) : Prop := kNest U ∧ kZ A U ∧ kBad U ∧ kStr U
theorem kNest.moved {s U : State} (hW : s.WarmedH U.vm) (h : kNest s) : kNest U := ⟨va_Nw.warmM hW h.1, va_Nw.warmM hW h.2⟩
theorem kNest.same {u U : State} (hv : u.vm = U.vm) (h : kNest u) : kNest U := ⟨va_Nw.same rfl hv h.1, va_Nw.same rfl hv h.2⟩
theorem kAO.moved {u U : State} (hvm : u.vm.Alike U.vm) (h : kAO u) : kAO U := by
  obtain ⟨comp, c, k, h1, h2, h3, h4, h5⟩ := arrayOverA_spec h
  obtain ⟨k', hk', he⟩ := hvm.2.2 _ _ h3
  have hbare : U.vm.bare = u.vm.bare := by first | exact hvm.bare_eq | exact hvm.bare_eq.symm
  have hi := (va_idx_bare U.vm comp).symm.trans ((congrArg (fun v : Vm => v.classes.findIdx? fun (x : Class) => match x.kind with | .array component _ => component == comp | _ => false) hbare).trans ((va_idx_bare u.vm comp).trans h2))
  have f2 : U.vm.findClass ("[" ++ (FieldType.array .int).toString) = some c := by rw [hvm.findClass]; exact h5
  have f1 : U.vm.findClass (FieldType.array .int).toString = some comp := by rw [hvm.findClass]; exact h1
  have hkind : k'.kind = .array comp (.array .int) := by rw [he]; exact h4
  unfold kAO Cond.before Cond.holds
  simp only [Cond.value]
  rw [f1, Option.bind_some]
  refine (congrArg (fun o : Option Nat => (o.bind (fun c => (U.vm.classes[c]?).map fun (k : Class) => match k.kind with | .array _ ty => decide (ty = FieldType.array .int) && decide (U.vm.findClass ("[" ++ (FieldType.array .int).toString) = some c) | _ => false) == some true)) hi).trans ?_
  simp [hk', hkind, f2]
theorem kNew.moved {s U : State} (hW : s.WarmedH U.vm) (h : kNew s) : kNew U := ⟨va_Nw.warmM hW h.1, va_Nw.warmC hW h.2.1, h.2.2.moved hW.alike⟩
theorem kNew.same {u U : State} (hv : u.vm = U.vm) (h : kNew u) : kNew U := ⟨va_Nw.same rfl hv h.1, va_Nw.same rfl hv h.2.1, h.2.2.moved (by rw [hv]; exact Vm.Alike.refl _)⟩
theorem kBad.moved {s U : State} (hW : s.WarmedH U.vm) (h : kBad s) : kBad U := by
  obtain ⟨h1, h2, h3, h4, h5, h6, h7⟩ := h
  exact ⟨va_Nw.warmD hW h1, va_Nw.warmD hW h2, va_Nw.warmD hW h3, va_Nw.warmC hW h4, va_Nw.warmC hW h5, va_Nw.warmC hW h6, h7.moved hW⟩
theorem kBad.same {u U : State} (hv : u.vm = U.vm) (h : kBad u) : kBad U := by
  obtain ⟨h1, h2, h3, h4, h5, h6, h7⟩ := h
  exact ⟨va_Nw.same rfl hv h1, va_Nw.same rfl hv h2, va_Nw.same rfl hv h3, va_Nw.same rfl hv h4, va_Nw.same rfl hv h5, va_Nw.same rfl hv h6, h7.same hv⟩
theorem kStr.moved {s U : State} (hW : s.WarmedH U.vm) (h : kStr s) : kStr U := fun q hq => by
  obtain ⟨sa, h1⟩ := h q hq
  exact ⟨sa, vk_R.warm hW h1⟩
theorem kStr.same {u U : State} (hv : u.vm = U.vm) (h : kStr u) : kStr U := fun q hq => by
  obtain ⟨sa, h1⟩ := h q hq
  exact ⟨sa, vk_R.same hv.symm h1⟩
theorem kG.moved {A B : Nat → Prop} {s U : State} {H : Heap} {locs : List Loc} (hW : s.WarmedH U.vm) (hU : U.heap = H) (hS : va_S A s.heap H locs) (hAB : ∀ q, B q → A q) (h : kG A s) : kG B U := by
  subst hU
  exact ⟨h.1.moved hW, ⟨(vx_Zq.moved hW.alike (h.2.1.1.kept hS.2.1)).narrow hAB, (vx_Zq.moved hW.alike (h.2.1.2.kept hS.2.1)).narrow hAB⟩, h.2.2.1.moved hW, h.2.2.2.moved hW⟩
theorem kG.blind {A : Nat → Prop} {u U : State} (hv : u.vm = U.vm) (hh : u.heap = U.heap) (h : kG A u) : kG A U := by
  refine ⟨h.1.same hv, ⟨?_, ?_⟩, h.2.2.1.same hv, h.2.2.2.same hv⟩
  · rw [← hh]; exact vx_Zq.moved (by rw [hv]; exact Vm.Alike.refl _) h.2.1.1
  · rw [← hh]; exact vx_Zq.moved (by rw [hv]; exact Vm.Alike.refl _) h.2.1.2
def kPre (D : va_G) (tys : List (ClassId × FieldType)) (w0 : va_W) (sz : Nat) (U : State) : Prop := U.heap.size = sz ∧ va_P D vwCl w0 U.heap ∧ va_K D vwCl tys U ∧ va_D (fun _ => True) w0 ∧ kG (va_A w0 sz) U
def kQ {α S : Type} (res : α → Option Value) (post : α → S → Prop) (w1 : S → va_W) (D : va_G) (w0 : va_W) (sz : Nat) : Array Value → State → Outcome → State → Prop := fun _ st oc t => (∃ (r : α) (u : S), oc = .returned (res r) ∧ post r u ∧ va_P D vwCl (w1 u) t.heap ∧ va_D (va_A w0 sz) (w1 u)) ∧ va_F (va_A w0 sz) st t
def kM {α S : Type} (res : α → Option Value) (l : Launch) (y : MethodName) (wsl : List Cond) (rm : Room) (D : va_G) (tys : List (ClassId × FieldType)) (av : List Value) (w0 : va_W) (post : α → S → Prop) (w1 : S → va_W) : Prop :=
  ∀ sz : Nat, Met l y wsl rm (va_Pc av (kPre D tys w0 sz)) (kQ res post w1 D w0 sz) rm.cells rm.slots (va_A w0 sz)
abbrev kri : Int32 → Option Value := fun r => some (.int r)
abbrev krl : Int64 → Option Value := fun r => some (.long r)
abbrev krd : UInt64 → Option Value := fun r => some (.double r)
abbrev krv : Unit → Option Value := fun _ => none
theorem kblind {av : List Value} {D : va_G} {tys : List (ClassId × FieldType)} {w0 : va_W} {sz : Nat} : FrameBlind (va_Pc av (kPre D tys w0 sz)) := fun a U g mk q => by
  obtain ⟨h0, h1, h2, h3, h4, h5⟩ := q
  exact ⟨h0, h1, h2, va_K.moved (u := U) (U := U.calling g mk a) (Vm.Alike.refl U.vm) h3, h4, kG.blind (u := U) (U := U.calling g mk a) rfl rfl h5⟩
section KC
variable {p : Program} {l : Launch} {e : Env} {R : Room} {s : State} {m : MethodId} {args : Array Value} {below : List Frame} {meth : Method} {c : Code} {H : Heap} {locs : List Loc} {cells slots : Nat} {Q : State → Prop}
variable {α S : Type} {res : α → Option Value} {post : α → S → Prop} {w1 : S → va_W} {D : va_G} {w0 ws wr : va_W} {tys tys' : List (ClassId × FieldType)} {A : Nat → Prop} {H0 : Heap}
theorem k_of_run {mc ms pc : Nat} {ls : Array Slot} {st0 rest : List Value} {a : Array Value} (hr : va_Run p l e R s m args below meth c H locs cells slots mc ms (F0 m pc ls st0) rest (kQ res post w1 D w0 H.size a) (va_A w0 H.size))
    (hP : va_P D vwCl ws H) (hD : va_D A ws) (hS : va_S A H0 H locs) (hA : ∀ q, H0.size ≤ q → A q) (isC isR : List Nat) (hC : isC.map (fun i => ws[i]?) = w0.map some) (hR : isR.map (fun i => ws[i]?) = wr.map some) (hn : va_nd isR = true) (hdis : (isR.all fun i => decide (i ∉ isC)) = true)
    (kk : ∀ (r : α) (u : S) (H1 : Heap) (locs1 : List Loc), post r u → va_P D vwCl (wr ++ w1 u) H1 → va_D A (wr ++ w1 u) → va_S A H0 H1 locs1 → W p l e R s m args below meth c H1 locs1 (cells + mc) (slots + ms) Q (F0 m (pc + 3) ls ((res r).toList ++ rest))) : W p l e R s m args below meth c H locs cells slots Q (F0 m pc ls st0) := by
  have hF := va_free hD hS hA isC hC
  intro T hT X
  obtain ⟨v, st₀, t, T', L, h0, X', hL, e1, e2, ⟨⟨r, u, hv, hp, hP1, hD1⟩, hz, hk⟩, st⟩ := hr T hT X
  cases hv
  rw [h0] at hz hk
  have hk' : ∀ q : Nat, q < H.size → ¬ va_A w0 H.size q → T'.heap[q]? = H[q]? := fun q h1 h2 => by rw [e1]; exact hk q h1 h2
  obtain ⟨hP2, hD2⟩ := va_join (wr := wr) (w1 := w1 u) hP hD isC isR hC hR hn (fun i hi => by have := List.all_eq_true.mp hdis i hi; exact of_decide_eq_true this) hk' hF (by rw [e1]; exact hP1) hD1
  obtain ⟨t2, a1, b1⟩ := kk r u T'.heap (locs ++ L) hp hP2 hD2
    ⟨Nat.le_trans hS.1 (by rw [e1]; exact hz), fun q h1 h2 => by rw [hk' q (Nat.lt_of_lt_of_le h1 hS.1) (fun z => h2 (hF q z))]; exact hS.2.1 q h1 h2, fun q hq => by
      rcases List.mem_append.mp hq with h | h
      · exact hS.2.2 q h
      · exact hF _ (hL q h)⟩ T' rfl X'
  exact ⟨t2, st t2 a1, b1⟩
/-- the callee's start, out of the caller's world -/
theorem k_pre {locs' : List Loc} {As : List Value} (hK : va_K D vwCl tys s) (hP : va_P D vwCl ws H) (hD : va_D A ws) (hS : va_S A s.heap H locs) (hA : ∀ q, s.heap.size ≤ q → A q) (hG : kG A s) (isC : List Nat) (hC : isC.map (fun i => ws[i]?) = w0.map some) (hnC : va_nd isC = true) (is : List Nat) (hs : is.filterMap (fun i => tys[i]?) = tys')
    (U : State) (hU : U.heap = H) (hW : s.WarmedH U.vm) : va_Pc As (kPre D tys' w0 H.size) As.toArray U := by
  refine ⟨rfl, by rw [hU], ?_, va_K.moved hW.alike (hK.sub is hs), (hD.sub isC hnC hC).weaken (fun _ _ _ _ => trivial), hG.moved hW hU hS (va_free hD hS hA isC hC)⟩
  rw [hU]
  intro k q hk
  have h1 : (isC.map (fun i => ws[i]?))[k]? = some (some q) := by rw [hC, List.getElem?_map, hk]; rfl
  rw [List.getElem?_map] at h1
  cases hi : isC[k]? with
  | none => rw [hi] at h1; cases h1
  | some i => rw [hi] at h1; exact hP i q (Option.some.inj h1)
variable {cc cY : ByteArray} {nL nA maxY idx pc ci q0 : Nat} {Ts wsY ws' : List Cond} {own C : String} {y : MethodName} {retY : Option FieldType} {rmY : Room} {b : Addr} {As rest st0 : List Value} {ls : Array Slot} {fs : List Value} {qc : vw_C}
theorem k_callV (F : CallFix p m c cc nL s args Ts own) (hM : kM res l y wsY rmY D tys' (.ref b :: As) w0 post w1) (g : GoodIn Ts (wsV own idx C y wsY)) (hw : wsY = Cond.code y cY maxY retY :: ws')
    (hd : y.cls = C ∧ y.cls ≠ "java/lang/invoke/MethodHandle" ∧ y.cls ≠ "java/lang/invoke/VarHandle" ∧ (parseMethodDescriptor y.desc).map (fun d => d.parameters.length) = some nA) (hnA : As.length = nA) (hR : rmY.frames + 1 ≤ R.frames ∧ 8 + (maxY + 11) + rmY.locals ≤ R.locals)
    (hK : va_K D vwCl tys s) (hP : va_P D vwCl ws H) (hD : va_D A ws) (hS : va_S A s.heap H locs) (hA : ∀ q, s.heap.size ≤ q → A q) (hG : kG A s) (hc : vwCl[ci]? = some qc) (hqc : qc.1 = C) (he : ws[q0]? = some (b, .inr (ci, fs)))
    (isC isR : List Nat) (hC : isC.map (fun i => ws[i]?) = w0.map some) (hnC : va_nd isC = true) (hRr : isR.map (fun i => ws[i]?) = wr.map some) (hn : va_nd isR = true) (hdis : (isR.all fun i => decide (i ∉ isC)) = true) (is : List Nat) (hs : is.filterMap (fun i => tys[i]?) = tys')
    (hst : st0 = As.reverse ++ .ref b :: rest) (hsz : ls.size = nL) (hrest : (rest.map fun v => v.category).sum ≤ 8) (hdg : decode cc pc = .ok (.invokevirtual idx, 3)) (hcs : cells + rmY.cells ≤ R.cells ∧ slots + rmY.slots ≤ R.slots)
    (kk : ∀ (r : α) (u : S) (H1 : Heap) (locs1 : List Loc), post r u → va_P D vwCl (wr ++ w1 u) H1 → va_D A (wr ++ w1 u) → va_S A s.heap H1 locs1 → W p l e R s m args below meth c H1 locs1 (cells + rmY.cells) (slots + rmY.slots) Q (F0 m (pc + 3) ls ((res r).toList ++ rest))) : W p l e R s m args below meth c H locs cells slots Q (F0 m pc ls st0) := by
  subst hst hqc
  exact k_of_run (va_runV (As := As) (rest := rest) F (hM H.size) (cwV nA F.2.2.2.2 g hw rfl rfl hd hR) ⟨kblind, va_recv hK hP hc he, fun U hU hW => k_pre (locs' := locs) hK hP hD hS hA hG isC hC hnC is hs U hU hW⟩ rfl hnA hsz rfl (lv_room hrest) hdg hcs) hP hD hS hA isC isR hC hRr hn hdis kk
theorem k_callS (F : CallFix p m c cc nL s args Ts own) (hM : kM res l y wsY rmY D tys' As w0 post w1) (g : GoodIn Ts (wsS own idx y wsY)) (hw : wsY = Cond.code y cY maxY retY :: ws')
    (hd : y.cls = own ∧ y.cls ≠ "java/lang/invoke/MethodHandle" ∧ y.cls ≠ "java/lang/invoke/VarHandle" ∧ (parseMethodDescriptor y.desc).map (fun d => d.parameters.length) = some nA) (hnA : As.length = nA) (hR : rmY.frames + 1 ≤ R.frames ∧ 8 + (maxY + 11) + rmY.locals ≤ R.locals)
    (hK : va_K D vwCl tys s) (hP : va_P D vwCl ws H) (hD : va_D A ws) (hS : va_S A s.heap H locs) (hA : ∀ q, s.heap.size ≤ q → A q) (hG : kG A s)
    (isC isR : List Nat) (hC : isC.map (fun i => ws[i]?) = w0.map some) (hnC : va_nd isC = true) (hRr : isR.map (fun i => ws[i]?) = wr.map some) (hn : va_nd isR = true) (hdis : (isR.all fun i => decide (i ∉ isC)) = true) (is : List Nat) (hs : is.filterMap (fun i => tys[i]?) = tys')
    (hst : st0 = As.reverse ++ rest) (hsz : ls.size = nL) (hrest : (rest.map fun v => v.category).sum ≤ 8) (hdg : decode cc pc = .ok (.invokestatic idx, 3)) (hcs : cells + rmY.cells ≤ R.cells ∧ slots + rmY.slots ≤ R.slots)
    (kk : ∀ (r : α) (u : S) (H1 : Heap) (locs1 : List Loc), post r u → va_P D vwCl (wr ++ w1 u) H1 → va_D A (wr ++ w1 u) → va_S A s.heap H1 locs1 → W p l e R s m args below meth c H1 locs1 (cells + rmY.cells) (slots + rmY.slots) Q (F0 m (pc + 3) ls ((res r).toList ++ rest))) : W p l e R s m args below meth c H locs cells slots Q (F0 m pc ls st0) := by
  subst hst
  exact k_of_run (va_runS (As := As) (rest := rest) F (hM H.size) (cwS nA F.2.2.2.2 g hw rfl rfl hd hR) ⟨kblind, fun U hU hW => k_pre (locs' := locs) hK hP hD hS hA hG isC hC hnC is hs U hU hW⟩ rfl hnA hsz rfl (lv_room hrest) hdg hcs) hP hD hS hA isC isR hC hRr hn hdis kk
/-- a private static method of a nest mate -/
theorem k_callSN {host : String} (F : CallFix p m c cc nL s args Ts own) (hM : kM res l y wsY rmY D tys' As w0 post w1) (g : GoodIn Ts wsY) (hw : wsY = Cond.code y cY maxY retY :: ws') (hN : va_Nw (.methodLinkNest own idx y host) s) (hini : Cond.initialized y.cls ∈ Ts) (hsta : Cond.static y ∈ Ts)
    (hd : y.cls ≠ "java/lang/invoke/MethodHandle" ∧ y.cls ≠ "java/lang/invoke/VarHandle" ∧ (parseMethodDescriptor y.desc).map (fun d => d.parameters.length) = some nA) (hnA : As.length = nA) (hR : rmY.frames + 1 ≤ R.frames ∧ 8 + (maxY + 11) + rmY.locals ≤ R.locals)
    (hK : va_K D vwCl tys s) (hP : va_P D vwCl ws H) (hD : va_D A ws) (hS : va_S A s.heap H locs) (hA : ∀ q, s.heap.size ≤ q → A q) (hG : kG A s)
    (isC isR : List Nat) (hC : isC.map (fun i => ws[i]?) = w0.map some) (hnC : va_nd isC = true) (hRr : isR.map (fun i => ws[i]?) = wr.map some) (hn : va_nd isR = true) (hdis : (isR.all fun i => decide (i ∉ isC)) = true) (is : List Nat) (hs : is.filterMap (fun i => tys[i]?) = tys')
    (hst : st0 = As.reverse ++ rest) (hsz : ls.size = nL) (hrest : (rest.map fun v => v.category).sum ≤ 8) (hdg : decode cc pc = .ok (.invokestatic idx, 3)) (hcs : cells + rmY.cells ≤ R.cells ∧ slots + rmY.slots ≤ R.slots)
    (kk : ∀ (r : α) (u : S) (H1 : Heap) (locs1 : List Loc), post r u → va_P D vwCl (wr ++ w1 u) H1 → va_D A (wr ++ w1 u) → va_S A s.heap H1 locs1 → W p l e R s m args below meth c H1 locs1 (cells + rmY.cells) (slots + rmY.slots) Q (F0 m (pc + 3) ls ((res r).toList ++ rest))) : W p l e R s m args below meth c H locs cells slots Q (F0 m pc ls st0) := by
  subst hst
  exact k_of_run (va_runSN (As := As) (rest := rest) (host := host) F (hM H.size) ⟨va_cnB nA F.2.2.2.2 g hw rfl rfl hN (F.2.2.2.2 _ hini) hd hR, F.2.2.2.2 _ hsta, trivial⟩ ⟨kblind, fun U hU hW => k_pre (locs' := locs) hK hP hD hS hA hG isC hC hnC is hs U hU hW⟩ rfl hnA hsz rfl (lv_room hrest) hdg hcs) hP hD hS hA isC isR hC hRr hn hdis kk
end KC
