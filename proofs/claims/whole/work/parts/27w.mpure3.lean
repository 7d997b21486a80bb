/-! ===== the reference's digest, and a new one ===== -/
def dgA (f : Nat → Int32) (d : Int64) : Nat → Int64
  | 0 => d
  | i + 1 => mx (dgA f d i) (f i).toInt64
theorem dgA13 (a0 a1 a2 a3 a4 a5 a6 a7 a8 a9 b0 b1 b2 : Int32) (d : Int64) : dgA (upd (upd (upd (upd (upd (upd (upd (upd (upd (upd (upd (upd (upd (fun _ => 0) 0 a0) 1 a1) 2 a2) 3 a3) 4 a4) 5 a5) 6 a6) 7 a7) 8 a8) 9 a9) 10 b0) 11 b1) 12 b2) d 13 =
    mx (mx (mx (mx (mx (mx (mx (mx (mx (mx (mx (mx (mx d a0.toInt64) a1.toInt64) a2.toInt64) a3.toInt64) a4.toInt64) a5.toInt64) a6.toInt64) a7.toInt64) a8.toInt64) a9.toInt64) b0.toInt64) b1.toInt64) b2.toInt64 := by
  simp [dgA, upd]
theorem rN_0 : rN (fun _ => 0) (fun _ => 0) (fun _ => 0) (upd (fun _ => 0) 5 (nI 2)) st0 := by
  refine ⟨by decide +kernel, by decide +kernel, by decide +kernel, by decide +kernel, by decide +kernel, by decide +kernel, ⟨by decide, fun j h => absurd h (by simp [st0, stB])⟩, ⟨by decide, fun j h => absurd h (by simp [st0, stT])⟩⟩
