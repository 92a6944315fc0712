/-! ===== the class's bytes ===== -/
theorem bv_toInt {b : Nat} (hb : b < 256) : (bv b).toInt = if b < 128 then (b : Int) else (b : Int) - 256 :=
  (by decide +kernel : ∀ b : Fin 256, (bv b.1).toInt = if b.1 < 128 then (b.1 : Int) else (b.1 : Int) - 256) ⟨b, hb⟩
theorem bv_or {b : Nat} (hb : b ≤ 255) : (b < 128 ∧ (bv b).toInt = (b : Int)) ∨ (128 ≤ b ∧ (bv b).toInt = (b : Int) - 256) := by
  have h := bv_toInt (b := b) (by omega)
  by_cases e : b < 128
  · rw [if_pos e] at h; exact Or.inl ⟨e, h⟩
  · rw [if_neg e] at h; exact Or.inr ⟨by omega, h⟩
theorem nI_m {o : Nat} (h : 1 ≤ o) : nI o + (-1) = nI (o - 1) := by
  rw [← pk_sub (a := o) (b := 1) h, Int32.sub_eq_add_neg]
  rfl
theorem YTx.b {S : GS} {T : AT} (h : YTx S T) {i : Nat} (hi : i < T.1) : aI S 206 i = bv (T.2 i) := h.2 i hi
