/-! ===== the ledger: how many entries, their four words, the coins of each member ===== -/
abbrev AL : Type := Nat × (Nat → Nat → Int32) × (Nat → Int32)
def en (L : AL) : Nat := L.1
def eE (L : AL) : Nat → Nat → Int32 := L.2.1
def eC (L : AL) : Nat → Int32 := L.2.2
def ent4 (d p m : Nat) (c : Int32) : Nat → Int32 := fun w => if w = 0 then nI d else if w = 1 then nI p else if w = 2 then nI m else c
def aEnt (L : AL) (d p m : Nat) (c : Int32) : AL := (en L + 1, va_up (eE L) (en L) (ent4 d p m c), va_up (eC L) m (eC L m + c))
/-- how often a row that begins with b places was doubled, for n entries -/
def gnB (b : Nat) : Nat → Nat
  | 0 => 0
  | n + 1 => if n = b * 2 ^ gnB b n then gnB b n + 1 else gnB b n
theorem gn_up {b n : Nat} (h : n = b * 2 ^ gnB b n) : gnB b (n + 1) = gnB b n + 1 := if_pos h
theorem gn_eq {b n : Nat} (h : ¬ n = b * 2 ^ gnB b n) : gnB b (n + 1) = gnB b n := if_neg h
theorem gn_le {b : Nat} (hb : 0 < b) (n : Nat) : n ≤ b * 2 ^ gnB b n := by
  induction n with
  | zero => exact Nat.zero_le _
  | succ n ih =>
    by_cases h : n = b * 2 ^ gnB b n
    · rw [gn_up h, Nat.pow_succ]
      have : 1 ≤ 2 ^ gnB b n := Nat.one_le_two_pow
      have : b * 1 ≤ b * 2 ^ gnB b n := Nat.mul_le_mul_left _ this
      rw [← Nat.mul_assoc]
      omega
    · rw [gn_eq h]
      omega
theorem gn_lt {b n : Nat} (h : gnB b n ≠ 0) : b * 2 ^ (gnB b n - 1) < n := by
  induction n with
  | zero => exact absurd rfl h
  | succ n ih =>
    by_cases e : n = b * 2 ^ gnB b n
    · rw [gn_up e]
      show b * 2 ^ (gnB b n + 1 - 1) < n + 1
      rw [Nat.add_sub_cancel]
      omega
    · rw [gn_eq e] at h ⊢
      have := ih h
      omega
theorem gn_bound {b n k : Nat} (h : n ≤ b * 2 ^ k) : gnB b n ≤ k := by
  rcases Nat.lt_or_ge k (gnB b n) with z | z
  · have h1 := gn_lt (b := b) (n := n) (by omega)
    have h2 : b * 2 ^ k ≤ b * 2 ^ (gnB b n - 1) := Nat.mul_le_mul_left _ (Nat.pow_le_pow_right (by decide) (by omega))
    omega
  · exact z
theorem gn_mono {b m n : Nat} (h : m ≤ n) : gnB b m ≤ gnB b n := by
  induction n with
  | zero => rw [show m = 0 by omega]; exact Nat.le_refl _
  | succ n ih =>
    by_cases e : m = n + 1
    · rw [e]; exact Nat.le_refl _
    · have h1 := ih (by omega)
      by_cases e2 : n = b * 2 ^ gnB b n
      · rw [gn_up e2]; omega
      · rw [gn_eq e2]; exact h1
theorem pow_pos2 (k : Nat) : 1 ≤ 2 ^ k := Nat.one_le_two_pow
theorem pow_succ2 (k : Nat) : 2 ^ (k + 1) = 2 * 2 ^ k := by rw [Nat.pow_succ, Nat.mul_comm]
/-! the reference: four rows; row i of doubling g: name 100 + 4 g + i -/
def MLx (S : GS) (L : AL) (gf : Nat → Nat) : Prop := fI S 0 3 = nI (en L) ∧ (∀ i, i < 4 → gf i ≤ 9 ∧ rf S 0 (35 + i) = some (100 + 4 * gf i + i) ∧ kd S (100 + 4 * gf i + i) = 21 ∧ ln S (100 + 4 * gf i + i) = 256 * 2 ^ gf i ∧ (∀ j, j < en L → aI S (100 + 4 * gf i + i) j = eE L j i) ∧ ∀ h, gf i < h → h ≤ 9 → kd S (100 + 4 * h + i) = 0) ∧ ∀ m, m < 20 → aI S 39 m = eC L m
def MLd (S : GS) (L : AL) : Prop := MLx S L (fun _ => gnB 256 (en L))
def MEf (S S2 : GS) : Prop := (∀ k, k ≠ 3 → fI S2 0 k = fI S 0 k) ∧ fJ S2 0 = fJ S 0 ∧ (∀ k, ¬ (35 ≤ k ∧ k ≤ 38) → rf S2 0 k = rf S 0 k) ∧ kd S2 0 = kd S 0 ∧ YSm (fun g => g = 0 ∨ g = 39 ∨ (100 ≤ g ∧ g < 140)) S S2
theorem MEf.rfl' (S : GS) : MEf S S := ⟨fun _ _ => rfl, rfl, fun _ _ => rfl, rfl, YSm.rfl' _ S⟩
theorem MEf.trans {S S2 S3 : GS} (h : MEf S S2) (h2 : MEf S2 S3) : MEf S S3 := ⟨fun k hk => (h2.1 k hk).trans (h.1 k hk), h2.2.1.trans h.2.1, fun k hk => (h2.2.2.1 k hk).trans (h.2.2.1 k hk), h2.2.2.2.1.trans h.2.2.2.1, h.2.2.2.2.trans h2.2.2.2.2⟩
theorem MEf.ok {S S2 : GS} (h : MEf S S2) (hM : MOK S) : MOK S2 := by
  obtain ⟨h1, h2, h3, h4, h5⟩ := h
  refine ⟨h4.trans hM.1, fun k hk => ?_⟩
  have hs : k < 45 ∧ ¬ (35 ≤ k ∧ k ≤ 38) ∧ k ≠ 0 := by
    unfold mT at hk
    split at hk <;> first | exact ⟨by omega, by omega, by omega⟩ | exact absurd rfl hk
  have h6 := hM.2 k hk
  rw [h3 k hs.2.1]
  by_cases e : k = 39
  · subst e
    sorry
  · rw [h5.kd (by omega), h5.ln (by omega)]
    exact h6
