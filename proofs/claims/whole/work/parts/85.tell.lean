/-! ===== what a text tells: the frames of it ===== -/
def YRf (S S2 : GS) : Prop := YSm (fun g => g = 209 ∨ g = 210 ∨ g = 211) S S2 ∧ (YOK S → YOK S2)
theorem YRf.rfl' (S : GS) : YRf S S := ⟨YSm.rfl' _ S, fun h => h⟩
theorem YRf.trans {S S2 S3 : GS} (h : YRf S S2) (h2 : YRf S2 S3) : YRf S S3 := ⟨h.1.trans h2.1, fun q => h2.2 (h.2 q)⟩
theorem YRf.rck (S : GS) (n : Nat) (f1 f2 : Nat → Int64) : YRf S (rck S n f1 f2) := ⟨((YSm.rL (by omega)).trans (YSm.rL (by omega))).trans (YSm.I (by omega)), fun h => h⟩
theorem tl_i {B : AB} {v g q p : Nat} (hg : g ≤ 1000000) : (tcl (WK (bT B v) (lN g) (lN q) (lN p) 0 [(0, 1)] 0)).toInt32 = nI (tlN B (some v) g q p) := by
  have h := (tlJ_n (B := B) (o := some v) (q := q) (p := p) hg).1
  show (tlJ B (some v) g q p).toInt32 = _
  rw [h, lN_i]
theorem tl_0 {B : AB} {g q p : Nat} (hg : g ≤ 1000000) : tlN B none g q p = g := by
  show (lN g).toInt.toNat = g
  rw [lN_toInt (by omega)]
  omega
