/-! ===== the bytes of a number ===== -/
def byt (x : Int32) (s : Nat) : Nat := x.toBitVec.toNat / 2 ^ s % 256
theorem byt_lt (x : Int32) (s : Nat) : byt x s < 256 := Nat.mod_lt _ (by decide)
def bsh (s : Nat) : Prop := s = 24 ∨ s = 16 ∨ s = 8 ∨ s = 0
theorem byt_u (x : Int32) {s : Nat} (hs : bsh s) : (x.toUInt32 >>> ((nI s).toUInt32 &&& Int32.toUInt32 31)).toInt32 &&& 255 = nI (byt x s) := by
  have h1 : ((x.toUInt32 >>> ((nI s).toUInt32 &&& Int32.toUInt32 31)).toInt32).toBitVec.toNat = x.toBitVec.toNat / 2 ^ s := pk_ushr x (nI s) s (by rcases hs with rfl | rfl | rfl | rfl <;> decide)
  rw [pk_and _ 8 (by decide), h1]
  rfl
theorem byt_s (x : Int32) {s : Nat} (hs : bsh s) : (x >>> (nI s &&& 31)) &&& 255 = nI (byt x s) := by
  have h1 : (x >>> (nI s &&& 31)).toInt = x.toInt >>> s := pk_shr x (nI s &&& 31) s (by rcases hs with rfl | rfl | rfl | rfl <;> decide)
  rw [pk_and _ 8 (by decide)]
  congr 1
  have h2 : (x >>> (nI s &&& 31)).toInt = (x >>> (nI s &&& 31)).toBitVec.toInt := rfl
  have h3 : x.toInt = x.toBitVec.toInt := rfl
  rw [h2, h3, BitVec.toInt_eq_toNat_cond, BitVec.toInt_eq_toNat_cond, Int.shiftRight_eq_div_pow] at h1
  unfold byt
  have a1 := x.toBitVec.isLt
  have a2 := (x >>> (nI s &&& 31)).toBitVec.isLt
  generalize (x >>> (nI s &&& 31)).toBitVec.toNat = b at *
  generalize x.toBitVec.toNat = a at *
  rcases hs with rfl | rfl | rfl | rfl <;> (simp only [Nat.reducePow, Nat.reduceMul] at *; split at h1 <;> split at h1 <;> omega)
