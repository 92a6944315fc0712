/-! ===== what the law's loop keeps, with its room ===== -/
def LI (i : Nat) (S : GS) (k n : Nat) : Prop := ∃ A T B J L Q td bo pd, MI S A T B J L Q td bo pd ∧ YI S A T B J L Q td bo pd ∧ OI A T B J L Q td ∧ 6 * td ≤ i ∧ k ≤ 100 + i + mK (en L) + yK (en L) ∧ n ≤ 40000 + 35 * i + mN (en L) + yN (en L)
def LN (X : CX) (i : Nat) : Prop := ∀ S2 k2 n2, LI (i + 6) S2 k2 n2 → V X 1008 [some (.ref 999), some (.ref 200), some (.ref 0), some (.int (nI i))] [] S2 k2 n2
theorem gn_room {e : Nat} (h : e ≤ 102400) : mK e ≤ 36 ∧ yK e ≤ 12 ∧ mN e ≤ 1048576 ∧ yN e ≤ 1048576 := by
  have h1 : gnB 256 e ≤ 9 := gn_bound (by omega)
  have h2 : gnB 32 e ≤ 12 := gn_bound (by omega)
  have h3 : 2 ^ gnB 256 e ≤ 2 ^ 9 := Nat.pow_le_pow_right (by decide) h1
  have h4 : 2 ^ gnB 32 e ≤ 2 ^ 12 := Nat.pow_le_pow_right (by decide) h2
  unfold mK yK mN yN
  omega
theorem OI.en {A : AV} {T : AT} {B : AB} {J : AP} {L : AL} {Q : AR} {td : Nat} (h : OI A T B J L Q td) : en L ≤ 102000 := by
  have h1 := gcn_le h.2.2.1
  have h2 := h.2.2.1.1
  have h3 := h.2.2.2.2.1.1
  have h4 := h.2.2.2.2.2
  omega
theorem lg_cmp_self (x : Int64) : lg_cmp x x = 0 := by
  unfold lg_cmp
  simp
theorem wi_lt {x : Int32} {m : Nat} (h : wi_ x 0 ((m : Int) - 1)) : tn x < m := by
  obtain ⟨v, -, tv, lv, uv, -⟩ := wi_nat h (by omega)
  omega
theorem wi_le {x : Int32} {m : Nat} (h : wi_ x 0 (m : Int)) : tn x ≤ m := by
  obtain ⟨v, -, tv, lv, uv, -⟩ := wi_nat h (by omega)
  omega
theorem wi_1 {x : Int32} {a : Nat} {m : Int} (h : wi_ x (a : Int) m) : a ≤ tn x ∧ (tn x : Int) ≤ m := by
  obtain ⟨v, -, tv, lv, uv, -⟩ := wi_nat h (by omega)
  omega
theorem wi_x {x : Int32} {a b : Int} (h : wi_ x a b) (ha : 0 ≤ a) : x = nI (tn x) := by
  obtain ⟨v, e, tv, lv, uv, -⟩ := wi_nat h ha
  rw [tv]; exact e
theorem div_g {g w : Nat} (h : w ≤ 900) : g * w / 1000 ≤ g := by
  have : g * w ≤ g * 1000 := Nat.mul_le_mul_left _ (by omega)
  omega
