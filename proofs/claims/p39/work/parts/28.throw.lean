/-! ===== methods that throw: one class, nothing changed but the new thing ===== -/
abbrev kRE : List String := ["java/lang/RuntimeException", "java/lang/Exception"]
def kX (l : Launch) (y : MethodName) (wsl : List Cond) (rm : Room) (D : va_G) (tys : List (ClassId × FieldType)) (av : List Value) (w0 : va_W) (E : String) : Prop :=
  ∀ sz : Nat, vx_Met l y wsl rm (va_Pc av (kPre D tys w0 sz)) (fun _ _ _ _ => False) (fun E1 st t => E1 = E ∧ va_P D vwCl w0 t.heap ∧ va_F (va_A w0 sz) st t) rm.cells rm.slots (va_A w0 sz)
section XB
variable {l : Launch} {y : MethodName} {wsl ws' : List Cond} {rm : Room} {D : va_G} {tys : List (ClassId × FieldType)} {av : List Value} {w0 : va_W} {cc : ByteArray} {maxL : Nat} {ret : Option FieldType} {E : String}
/-- a body that throws: 'out' where a callee threw, 'thr' where it throws a new one itself -/
theorem k_bodyX (hl0 : l.stackTraces = false) (hy : plainName y.cls = true) (hE : Bundle.fit E = true) (hw : wsl = Cond.code y cc maxL ret :: ws') (hlen : (lg_sl av).length ≤ maxL)
    (body : ∀ (p : Program) (e : Env) (s : State) (m : MethodId) (args : Array Value) (below : List Frame) (meth : Method) (c : Code) (A : Nat → Prop) (Q : State → Prop), CallFix p m c cc maxL s args wsl y.cls → meth.name = y.name → (∀ q, s.heap.size ≤ q → A q) → kG A s → va_K D vwCl tys s → va_P D vwCl w0 s.heap → va_D A w0 → va_S A s.heap s.heap [] →
      (∀ (H : Heap) (locs : List Loc) (cells slots pc : Nat) (ls : Array Slot) (rest : List Value) (q : Addr) (ce : Cell), va_P D vwCl w0 H → va_S A s.heap H locs → cells ≤ rm.cells → slots ≤ rm.slots → H[q]? = some ce → ce.vm = .none → s.vm.findClass E = some ce.cls → vx_W p l e rm s m args below meth c H locs cells slots Q (F0 m pc ls rest) q) →
      (∀ (H : Heap) (locs : List Loc) (cells slots pc ik is ic : Nat) (text : String) (ls : Array Slot) (rest : List Value), va_P D vwCl w0 H → va_S A s.heap H locs → ls.size = maxL →
        decode cc pc = .ok (.new ik, 3) → decode cc (pc + 3) = .ok (.dup, 1) → decode cc (pc + 4) = .ok (.ldc is, 2) → decode cc (pc + 6) = .ok (.invokespecial ic, 3) → decode cc (pc + 9) = .ok (.athrow, 1) →
        (Cond.classLink y.cls ik E).before args s = true → (Cond.initialized E).before args s = true → (∃ sa : Nat, vk_R y.cls is text sa s) → (∀ w ∈ vx_atS y.cls ic E kRE, w.before args s = true) → (∀ w ∈ Cond.classLink y.cls ik E :: Cond.initialized E :: vx_atS y.cls ic E kRE, vx_ot w = true) →
        5 < rm.frames → (rest.map fun v => v.category).sum + 82 ≤ rm.locals → cells + 1 ≤ rm.cells → slots + 6 ≤ rm.slots → W p l e rm s m args below meth c H locs cells slots Q (F0 m pc ls rest)) →
      ∀ ls, lv_has ls maxL (lv_args 0 av) → W p l e rm s m args below meth c s.heap [] 0 0 Q (F0 m 0 ls [])) : kX l y wsl rm D tys av w0 E := by
  intro sz
  refine vx_ofW (cc := cc) (maxL := maxL) (ret := ret) hy hw ?_
  intro p e s m args below meth c s₁ B hml htab hv
  obtain ⟨rfl, hsz, hP, hK, hD0, hG⟩ := hv
  subst hsz
  have hD := hD0.self (sz := s.heap.size)
  have hl := lv_entry av (n := maxL) hlen
  rw [lg_entry_eq]
  refine body p e s m _ below meth c (va_A w0 s.heap.size) _ ⟨B.exec, B.bytes, hml, findClass_of_methodNamed B.named, atoms_spec (ws := wsl) B.pre⟩ (name_of_methodNamed B.named B.method).1 (fun q h => Or.inr h) hG hK hP hD va_S.rf ?_ ?_ _ hl
  · intro H locs cells slots pc ls rest q ce hP1 hS hc hs hce hcv hcl
    exact vx_out (fun x hx => (htab x hx).elim) B.notSynchronized hce hcv hcl (fun t ht _ => ⟨rfl, by rw [ht]; exact hP1, hS.F ht⟩) hS.2.2 hc hs
  · intro H locs cells slots pc ik is ic text ls rest hP1 hS hsize d0 d3 d4 d6 d9 hk hini hstr hat hgood hRf hRl hc hs
    obtain ⟨sa, hsa⟩ := hstr
    refine vx_throwS (text := text) (sa := sa) (names := kRE) B.exec B.bytes hl0 (findClass_of_methodNamed B.named) hE (by decide +kernel) hk hini hsa hat hgood hG.2.1.1 hG.2.1.2 hS (hsize.trans hml.symm) d0 d3 d4 d6 d9 (fun x hx => (htab x hx).elim) hRf hRl hc hs B.notSynchronized (fun t hvm h1 h2 => ⟨rfl, ?_, ?_⟩) hS.2.2 hc hs
    · exact fun k q hq => (hP1 k q hq).kept (h2 q.1 ((hP1 k q hq).lt))
    · exact ⟨Nat.le_trans hS.1 h1, fun q hq hA => (h2 q (Nat.lt_of_lt_of_le hq hS.1)).trans (hS.2.1 q hq hA)⟩
end XB
section XC
variable {p : Program} {l : Launch} {e : Env} {R : Room} {s : State} {m : MethodId} {args : Array Value} {below : List Frame} {meth : Method} {c : Code} {H : Heap} {locs : List Loc} {cells slots : Nat} {Q : State → Prop}
variable {D : va_G} {w0 ws wr : va_W} {tys tys' : List (ClassId × FieldType)} {A : Nat → Prop} {E : String}
theorem kX_of_run {mc ms pc : Nat} {ls : Array Slot} {st0 rest : List Value} {H0 : Heap} (hr : vx_Run p l e R s m args below meth c H locs cells slots mc ms (F0 m pc ls st0) rest (fun _ _ _ => False) (fun E1 st t => E1 = E ∧ va_P D vwCl w0 t.heap ∧ va_F (va_A w0 H.size) st t) (va_A w0 H.size))
    (hP : va_P D vwCl ws H) (hD : va_D A ws) (hS : va_S A H0 H locs) (hA : ∀ q, H0.size ≤ q → A q) (isC isR : List Nat) (hC : isC.map (fun i => ws[i]?) = w0.map some) (hnC : va_nd isC = true) (hR : isR.map (fun i => ws[i]?) = wr.map some) (hn : va_nd isR = true) (hdis : (isR.all fun i => decide (i ∉ isC)) = true)
    (kx : ∀ (H1 : Heap) (locs1 : List Loc) (q : Addr) (ce : Cell), va_P D vwCl (wr ++ w0) H1 → va_D A (wr ++ w0) → va_S A H0 H1 locs1 → H1[q]? = some ce → ce.vm = .none → s.vm.findClass E = some ce.cls → vx_W p l e R s m args below meth c H1 locs1 (cells + mc) (slots + ms) Q (F0 m pc ls rest) q) : W p l e R s m args below meth c H locs cells slots Q (F0 m pc ls st0) := by
  have hF := va_free hD hS hA isC hC
  intro T hT X
  rcases hr T hT X with ⟨v, st₀, t, T', L, h0, X', hL, e1, e2, hf, st⟩ | ⟨q, st₀, t, T', L, E1, ce, h0, X', hL, e1, e2, ⟨rfl, hP1, hz, hk⟩, hce, hcv, hcl, st⟩
  · exact hf.elim
  · rw [h0] at hz hk
    have hk' : ∀ q : Nat, q < H.size → ¬ va_A w0 H.size q → T'.heap[q]? = H[q]? := fun q h1 h2 => by rw [e1]; exact hk q h1 h2
    obtain ⟨hP2, hD2⟩ := va_join (wr := wr) (w1 := w0) hP hD isC isR hC hR hn (fun i hi => by have := List.all_eq_true.mp hdis i hi; exact of_decide_eq_true this) hk' hF (by rw [e1]; exact hP1) ((hD.sub isC hnC hC).self (sz := H.size))
    obtain ⟨t2, a1, b1⟩ := kx T'.heap (locs ++ L) q ce hP2 hD2
      ⟨Nat.le_trans hS.1 (by rw [e1]; exact hz), fun q h1 h2 => by rw [hk' q (Nat.lt_of_lt_of_le h1 hS.1) (fun z => h2 (hF q z))]; exact hS.2.1 q h1 h2, fun q hq => by
        rcases List.mem_append.mp hq with h | h
        · exact hS.2.2 q h
        · exact hF _ (hL q h)⟩ (by rw [e1]; exact hce) hcv hcl T' rfl X'
    exact ⟨t2, st.trans a1, b1⟩
variable {cc cY : ByteArray} {nL nA maxY idx pc ci q0 : Nat} {Ts wsY ws' : List Cond} {own C : String} {y : MethodName} {retY : Option FieldType} {rmY : Room} {b : Addr} {As rest st0 : List Value} {ls : Array Slot} {fs : List Value} {qc : vw_C}
theorem kX_callV (F : CallFix p m c cc nL s args Ts own) (hM : kX l y wsY rmY D tys' (.ref b :: As) w0 E) (g : GoodIn Ts (wsV own idx C y wsY)) (hw : wsY = Cond.code y cY maxY retY :: ws')
    (hd : y.cls = C ∧ y.cls ≠ "java/lang/invoke/MethodHandle" ∧ y.cls ≠ "java/lang/invoke/VarHandle" ∧ (parseMethodDescriptor y.desc).map (fun d => d.parameters.length) = some nA) (hnA : As.length = nA) (hR : rmY.frames + 1 ≤ R.frames ∧ 8 + (maxY + 11) + rmY.locals ≤ R.locals)
    (hK : va_K D vwCl tys s) (hP : va_P D vwCl ws H) (hD : va_D A ws) (hS : va_S A s.heap H locs) (hA : ∀ q, s.heap.size ≤ q → A q) (hG : kG A s) (hc : vwCl[ci]? = some qc) (hqc : qc.1 = C) (he : ws[q0]? = some (b, .inr (ci, fs)))
    (isC isR : List Nat) (hC : isC.map (fun i => ws[i]?) = w0.map some) (hnC : va_nd isC = true) (hRr : isR.map (fun i => ws[i]?) = wr.map some) (hn : va_nd isR = true) (hdis : (isR.all fun i => decide (i ∉ isC)) = true) (is : List Nat) (hs : is.filterMap (fun i => tys[i]?) = tys')
    (hst : st0 = As.reverse ++ .ref b :: rest) (hsz : ls.size = nL) (hrest : (rest.map fun v => v.category).sum ≤ 8) (hdg : decode cc pc = .ok (.invokevirtual idx, 3)) (hcs : cells + rmY.cells ≤ R.cells ∧ slots + rmY.slots ≤ R.slots)
    (kx : ∀ (H1 : Heap) (locs1 : List Loc) (q : Addr) (ce : Cell), va_P D vwCl (wr ++ w0) H1 → va_D A (wr ++ w0) → va_S A s.heap H1 locs1 → H1[q]? = some ce → ce.vm = .none → s.vm.findClass E = some ce.cls → vx_W p l e R s m args below meth c H1 locs1 (cells + rmY.cells) (slots + rmY.slots) Q (F0 m pc ls rest) q) : W p l e R s m args below meth c H locs cells slots Q (F0 m pc ls st0) := by
  subst hst hqc
  exact kX_of_run (vx_runV (As := As) (rest := rest) F (hM H.size) (cwV nA F.2.2.2.2 g hw rfl rfl hd hR) ⟨kblind, va_recv hK hP hc he, fun U hU hW => k_pre (locs' := locs) hK hP hD hS hA hG isC hC hnC is hs U hU hW⟩ rfl hnA hsz rfl (lv_room hrest) hdg hcs) hP hD hS hA isC isR hC hnC hRr hn hdis kx
theorem kX_callS (F : CallFix p m c cc nL s args Ts own) (hM : kX l y wsY rmY D tys' As w0 E) (g : GoodIn Ts (wsS own idx y wsY)) (hw : wsY = Cond.code y cY maxY retY :: ws')
    (hd : y.cls = own ∧ y.cls ≠ "java/lang/invoke/MethodHandle" ∧ y.cls ≠ "java/lang/invoke/VarHandle" ∧ (parseMethodDescriptor y.desc).map (fun d => d.parameters.length) = some nA) (hnA : As.length = nA) (hR : rmY.frames + 1 ≤ R.frames ∧ 8 + (maxY + 11) + rmY.locals ≤ R.locals)
    (hK : va_K D vwCl tys s) (hP : va_P D vwCl ws H) (hD : va_D A ws) (hS : va_S A s.heap H locs) (hA : ∀ q, s.heap.size ≤ q → A q) (hG : kG A s)
    (isC isR : List Nat) (hC : isC.map (fun i => ws[i]?) = w0.map some) (hnC : va_nd isC = true) (hRr : isR.map (fun i => ws[i]?) = wr.map some) (hn : va_nd isR = true) (hdis : (isR.all fun i => decide (i ∉ isC)) = true) (is : List Nat) (hs : is.filterMap (fun i => tys[i]?) = tys')
    (hst : st0 = As.reverse ++ rest) (hsz : ls.size = nL) (hrest : (rest.map fun v => v.category).sum ≤ 8) (hdg : decode cc pc = .ok (.invokestatic idx, 3)) (hcs : cells + rmY.cells ≤ R.cells ∧ slots + rmY.slots ≤ R.slots)
    (kx : ∀ (H1 : Heap) (locs1 : List Loc) (q : Addr) (ce : Cell), va_P D vwCl (wr ++ w0) H1 → va_D A (wr ++ w0) → va_S A s.heap H1 locs1 → H1[q]? = some ce → ce.vm = .none → s.vm.findClass E = some ce.cls → vx_W p l e R s m args below meth c H1 locs1 (cells + rmY.cells) (slots + rmY.slots) Q (F0 m pc ls rest) q) : W p l e R s m args below meth c H locs cells slots Q (F0 m pc ls st0) := by
  subst hst
  exact kX_of_run (vx_runS (As := As) (rest := rest) F (hM H.size) (cwS nA F.2.2.2.2 g hw rfl rfl hd hR) ⟨kblind, fun U hU hW => k_pre (locs' := locs) hK hP hD hS hA hG isC hC hnC is hs U hU hW⟩ rfl hnA hsz rfl (lv_room hrest) hdg hcs) hP hD hS hA isC isR hC hnC hRr hn hdis kx
end XC
/-- what a throw's words need, out of the method's own and kG -/
theorem k_hatA {args : Array Value} {s : State} {A : Nat → Prop} (hG : kG A s) (h1 : ∀ w ∈ (vx_atS RX3 65 eIA kRE).filter goodWord, w.before args s = true) : ∀ w ∈ vx_atS RX3 65 eIA kRE, w.before args s = true := by
  obtain ⟨b1, b2, b3, b4, b5, b6, -⟩ := hG.2.2.1
  exact vx_hat (B := [.declares (Bundle.initS "java/lang/RuntimeException"), .declares (Bundle.initS "java/lang/Exception"), .declares (Bundle.initS Bundle.tN), .castable eIA eIA]) h1 (by decide +kernel) (vx_c (va_Nw.use rfl b1) (vx_c (va_Nw.use rfl b2) (vx_c (va_Nw.use rfl b3) (vx_c (va_Nw.use rfl b4) vx_n))))
theorem k_hatS {args : Array Value} {s : State} {A : Nat → Prop} (hG : kG A s) (h1 : ∀ w ∈ (vx_atS RX3 37 eIS kRE).filter goodWord, w.before args s = true) : ∀ w ∈ vx_atS RX3 37 eIS kRE, w.before args s = true := by
  obtain ⟨b1, b2, b3, b4, b5, b6, -⟩ := hG.2.2.1
  exact vx_hat (B := [.declares (Bundle.initS "java/lang/RuntimeException"), .declares (Bundle.initS "java/lang/Exception"), .declares (Bundle.initS Bundle.tN), .castable eIS eIS]) h1 (by decide +kernel) (vx_c (va_Nw.use rfl b1) (vx_c (va_Nw.use rfl b2) (vx_c (va_Nw.use rfl b3) (vx_c (va_Nw.use rfl b5) vx_n))))
theorem k_hatO {args : Array Value} {s : State} {A : Nat → Prop} (hG : kG A s) (h1 : ∀ w ∈ (vx_atS RX3 125 eIO kRE).filter goodWord, w.before args s = true) : ∀ w ∈ vx_atS RX3 125 eIO kRE, w.before args s = true := by
  obtain ⟨b1, b2, b3, b4, b5, b6, -⟩ := hG.2.2.1
  exact vx_hat (B := [.declares (Bundle.initS "java/lang/RuntimeException"), .declares (Bundle.initS "java/lang/Exception"), .declares (Bundle.initS Bundle.tN), .castable eIO eIO]) h1 (by decide +kernel) (vx_c (va_Nw.use rfl b1) (vx_c (va_Nw.use rfl b2) (vx_c (va_Nw.use rfl b3) (vx_c (va_Nw.use rfl b6) vx_n))))
/-! bodies with handlers, and calls of them -/
section XW
variable {l : Launch} {y : MethodName} {wsl ws' : List Cond} {rm : Room} {D : va_G} {tys : List (ClassId × FieldType)} {av : List Value} {w0 : va_W} {S : Type} {w1 : S → va_W} {cc : ByteArray} {maxL : Nat} {hh : List (Nat × Nat × Nat × Nat)}
theorem k_bodyW {post : Int32 → S → Prop} (hy : plainName y.cls = true) (hw : wsl = Cond.codeWith y cc maxL (some .int) hh :: ws') (hlen : (lg_sl av).length ≤ maxL)
    (body : ∀ (p : Program) (e : Env) (s : State) (m : MethodId) (args : Array Value) (below : List Frame) (meth : Method) (c : Code) (A : Nat → Prop) (Q : State → Prop), CallFix p m c cc maxL s args wsl y.cls → c.exceptionTable.toList = tableOf hh → (∀ q, s.heap.size ≤ q → A q) → kG A s → va_K D vwCl tys s → va_P D vwCl w0 s.heap → va_D A w0 → va_S A s.heap s.heap [] →
      (∀ (v : Int32) (u : S) (H : Heap) (locs : List Loc) (cells slots pc : Nat) (ls : Array Slot), post v u → va_P D vwCl (w1 u) H → va_D A (w1 u) → va_S A s.heap H locs → cells ≤ rm.cells → slots ≤ rm.slots → decode cc pc = .ok (.ireturn, 1) → W p l e rm s m args below meth c H locs cells slots Q (F0 m pc ls [.int v])) →
      ∀ ls, lv_has ls maxL (lv_args 0 av) → W p l e rm s m args below meth c s.heap [] 0 0 Q (F0 m 0 ls [])) : kM kri l y wsl rm D tys av w0 post w1 := by
  intro sz
  refine va_MetW (hh := hh) (cc := cc) (maxL := maxL) (ret := some .int) hy hw ?_
  intro p e s m args below meth c s₁ B hml hv
  obtain ⟨rfl, hsz, hP, hK, hD0, hG⟩ := hv
  subst hsz
  have hD := hD0.self (sz := s.heap.size)
  have hl := lv_entry av (n := maxL) hlen
  have hat := atoms_spec (ws := wsl) B.pre
  rw [lg_entry_eq]
  refine body p e s m _ below meth c (va_A w0 s.heap.size) _ ⟨B.exec, B.bytes, hml, findClass_of_methodNamed B.named, hat⟩ (vx_table (x := y) B (hat _ (by rw [hw]; exact List.mem_cons_self))) (fun q h => Or.inr h) hG hK hP hD va_S.rf ?_ _ hl
  intro v u H locs cells slots pc ls hp hP1 hD1 hS hc hs hdg
  refine W.widen (k := rm.cells) (n := rm.slots) hc hs ?_
  exact W.iret (v := v) B.exec B.bytes B.returns (fun t ht hW => ⟨⟨v, u, rfl, hp, by rw [ht]; exact hP1, hD1⟩, hS.F ht⟩) hS.2.2 hdg B.notSynchronized
end XW
section XS
variable {p : Program} {l : Launch} {e : Env} {R : Room} {s : State} {m : MethodId} {args : Array Value} {below : List Frame} {meth : Method} {c : Code} {H : Heap} {locs : List Loc} {cells slots : Nat} {Q : State → Prop}
variable {α S : Type} {res : α → Option Value} {post : α → S → Prop} {w1 : S → va_W} {D : va_G} {w0 ws wr : va_W} {tys tys' : List (ClassId × FieldType)} {A : Nat → Prop}
variable {cc cY : ByteArray} {nL nA maxY idx pc : Nat} {Ts wsY ws' : List Cond} {own : String} {y : MethodName} {retY : Option FieldType} {rmY : Room} {As rest st0 : List Value} {ls : Array Slot} {hh : List (Nat × Nat × Nat × Nat)}
theorem k_callSW (F : CallFix p m c cc nL s args Ts own) (hM : kM res l y wsY rmY D tys' As w0 post w1) (g : GoodIn Ts (va_wsS own idx y wsY)) (hw : wsY = Cond.codeWith y cY maxY retY hh :: ws')
    (hd : y.cls ≠ "java/lang/invoke/MethodHandle" ∧ y.cls ≠ "java/lang/invoke/VarHandle" ∧ (parseMethodDescriptor y.desc).map (fun d => d.parameters.length) = some nA) (hnA : As.length = nA) (hR : rmY.frames + 1 ≤ R.frames ∧ 8 + (maxY + 11) + rmY.locals ≤ R.locals)
    (hK : va_K D vwCl tys s) (hP : va_P D vwCl ws H) (hD : va_D A ws) (hS : va_S A s.heap H locs) (hA : ∀ q, s.heap.size ≤ q → A q) (hG : kG A s)
    (isC isR : List Nat) (hC : isC.map (fun i => ws[i]?) = w0.map some) (hnC : va_nd isC = true) (hRr : isR.map (fun i => ws[i]?) = wr.map some) (hn : va_nd isR = true) (hdis : (isR.all fun i => decide (i ∉ isC)) = true) (is : List Nat) (hs : is.filterMap (fun i => tys[i]?) = tys')
    (hst : st0 = As.reverse ++ rest) (hsz : ls.size = nL) (hrest : (rest.map fun v => v.category).sum ≤ 8) (hdg : decode cc pc = .ok (.invokestatic idx, 3)) (hcs : cells + rmY.cells ≤ R.cells ∧ slots + rmY.slots ≤ R.slots)
    (kk : ∀ (r : α) (u : S) (H1 : Heap) (locs1 : List Loc), post r u → va_P D vwCl (wr ++ w1 u) H1 → va_D A (wr ++ w1 u) → va_S A s.heap H1 locs1 → W p l e R s m args below meth c H1 locs1 (cells + rmY.cells) (slots + rmY.slots) Q (F0 m (pc + 3) ls ((res r).toList ++ rest))) : W p l e R s m args below meth c H locs cells slots Q (F0 m pc ls st0) := by
  subst hst
  exact k_of_run (vx_runSW (As := As) (rest := rest) F (hM H.size) (vx_cwSW nA F.2.2.2.2 g hw rfl rfl hd hR) ⟨kblind, fun U hU hW => k_pre (locs' := locs) hK hP hD hS hA hG isC hC hnC is hs U hU hW⟩ rfl hnA hsz rfl (lv_room hrest) hdg hcs) hP hD hS hA isC isR hC hRr hn hdis kk
end XS
theorem rng_all {x : Int32} {b : Nat} (hb : b < 2147483647) (h : ¬ (nI 0 ≤ x ∧ x ≤ nI b)) : ∀ j, j < b + 1 → ¬ x = nI j := by
  intro j hj e
  subst e
  exact h ⟨nI_le (by omega) (by omega), nI_le (by omega) (by omega)⟩
section LA
variable {p : Program} {l : Launch} {e : Env} {R : Room} {s : State} {m : MethodId} {args : Array Value} {below : List Frame} {meth : Method} {c : Code} {H H0 : Heap} {locs : List Loc} {cells slots : Nat} {Q : State → Prop} {A : Nat → Prop}
variable {cc : ByteArray} {pc : Nat} {ls : Array Slot} {rest : List Value} {D : va_G} {ws : va_W} {tys : List (ClassId × FieldType)} {a : Nat}
theorem k_last0 (hx : p.tables.exec = Jvm.exec) (hb : c.code = cc) (hK : va_K D vwCl tys s) (hP : va_P D vwCl ws H) (hD : va_D A ws) (hS : va_S A H0 H locs) (q0 t0 : Nat) {cA : ClassId} {f : Nat → Int64} (ha : ws[q0]? = some (a, .inl (cA, 1, .inr (.inl f)))) (ht : tys[t0]? = some (cA, .long)) {x : Int64} (hdg : decode cc pc = .ok (.lastore, 1))
    (kk : ∀ (H1 : Heap) (locs1 : List Loc), va_P D vwCl (ws.set q0 (a, .inl (cA, 1, .inr (.inl (vp_updL f 0 x))))) H1 → va_D A (ws.set q0 (a, .inl (cA, 1, .inr (.inl (vp_updL f 0 x))))) → va_S A H0 H1 locs1 → W p l e R s m args below meth c H1 locs1 cells slots Q (F0 m (pc + 1) ls rest)) : W p l e R s m args below meth c H locs cells slots Q (F0 m pc ls (.long x :: .int (nI 0) :: .ref a :: rest)) := by
  refine va_last hx hb hK hP hD hS q0 t0 ha ht (vp_in_nI (by omega) (by omega)) hdg ?_
  rw [show (nI 0).toNatClampNeg = 0 from nI_clamp (by omega)]; exact kk
end LA
