/-! ===== a room: ten cells, seven arrays, one state ===== -/
def k_f7 (a0 a1 a2 a3 a4 a5 a6 : Nat → Int32) : Nat → Nat → Int32 := fun i => match i with
  | 0 => a0
  | 1 => a1
  | 2 => a2
  | 3 => a3
  | 4 => a4
  | 5 => a5
  | _ => a6
def k_f10 (a0 a1 a2 a3 a4 a5 a6 a7 a8 a9 : Nat) : Nat → Nat := fun i => match i with
  | 0 => a0
  | 1 => a1
  | 2 => a2
  | 3 => a3
  | 4 => a4
  | 5 => a5
  | 6 => a6
  | 7 => a7
  | 8 => a8
  | _ => a9
def rR (f : Nat → Nat → Int32) (q : St) : Prop := rB (f 0) (f 1) (stB q) ∧ rC (f 2) (f 3) (f 4) (f 5) (f 6) (stT q)
def st0 : St := ([], [], 2, 1, nI 3, 0, nI 0, nI 0, 0)
theorem rR_0 : rR (fun _ _ => 0) st0 := ⟨⟨by decide, fun j h => absurd h (by simp [st0, stB])⟩, ⟨by decide, fun j h => absurd h (by simp [st0, stT])⟩⟩
theorem okS_0 : okS st0 := ⟨fun j h => absurd h (by simp [st0, stB]), by decide, fun j h => absurd h (by simp [st0, stT]), by decide, by decide, by decide, by decide⟩
theorem mN1_le {q : St} (h : okS q) : mN1 q ≤ 17 := by
  obtain ⟨-, h2, -, -, -, -, h7⟩ := h
  simp only [mN1]
  omega
theorem okB2 {q : St} (h : okS q) : okB (mB2 q) := okB_sft (okB_gnd h.1)
theorem lenB2 {q : St} (h : okS q) : (mB2 q).length ≤ 12 := Nat.le_trans (sft_len _ _) (Nat.le_trans (gnd_len _ _ _) h.2.1)
