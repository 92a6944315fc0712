def nz1 (x : Int32) (s : Nat) : Nat := if byt x s = 0 then 0 else 1
def nz (x : Int32) : Nat := nz1 x 24 + nz1 x 16 + nz1 x 8 + nz1 x 0
theorem nz_le (x : Int32) : nz x ≤ 4 := by
  unfold nz nz1
  split <;> split <;> split <;> split <;> omega
