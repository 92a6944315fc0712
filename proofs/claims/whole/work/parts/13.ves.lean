/-! ===== the vessels, as numbers: how many; kind, DRY by plots, WATER, TASTE, mark, GRADE, cuts ===== -/
abbrev AV : Type := Nat × (Nat → Nat) × (Nat → Nat → Nat) × (Nat → Nat) × (Nat → Nat) × (Nat → Nat) × (Nat → Nat) × (Nat → Nat)
def vn (A : AV) : Nat := A.1
def vK (A : AV) : Nat → Nat := A.2.1
def vD (A : AV) : Nat → Nat → Nat := A.2.2.1
def vW (A : AV) : Nat → Nat := A.2.2.2.1
def vT (A : AV) : Nat → Nat := A.2.2.2.2.1
def vM (A : AV) : Nat → Nat := A.2.2.2.2.2.1
def vG (A : AV) : Nat → Nat := A.2.2.2.2.2.2.1
def vC (A : AV) : Nat → Nat := A.2.2.2.2.2.2.2
def vdry (A : AV) (v : Nat) : Nat := sumN (vD A v) 60
def vwt (A : AV) (v : Nat) : Nat := vdry A v + vW A v
/-- what always holds of the vessels, up to t days -/
def VOK (A : AV) (t : Nat) : Prop := vn A ≤ 100 ∧ t ≤ 600 ∧ (∀ v, v < vn A → vK A v ≤ 3 ∧ vT A v ≤ 100 ∧ vM A v ≤ 1 ∧ vG A v ≤ 3 ∧ vC A v ≤ 2 ∧ vdry A v ≤ 1000000 ∧ (vK A v ≠ 2 → vwt A v ≤ 1000000) ∧ vW A v ≤ 1000000 + 100000 * t ∧ (vK A v = 3 → vW A v ≠ 0 → vdry A v ≠ 0) ∧ (vG A v ≠ 0 → vC A v ≠ 0) ∧ (vC A v ≠ 0 → vK A v = 3 ∧ vdry A v ≠ 0 ∧ vG A v ≠ 0))
  ∧ ∀ v, vn A ≤ v → (∀ p, vD A v p = 0) ∧ vK A v = 0 ∧ vW A v = 0 ∧ vT A v = 0 ∧ vM A v = 0 ∧ vG A v = 0 ∧ vC A v = 0
def MVes (S : GS) (A : AV) : Prop := fI S 0 1 = nI (vn A) ∧ (∀ v, v < 100 → aI S 6 v = nI (vK A v) ∧ aI S 8 v = nI (vW A v) ∧ aI S 9 v = nI (vT A v) ∧ aI S 10 v = nI (vM A v) ∧ aI S 11 v = nI (vG A v) ∧ aI S 12 v = nI (vC A v)) ∧ ∀ v, v < 100 → ∀ p, p < 60 → aI S 7 (60 * v + p) = nI (vD A v p)
theorem MVes.n {S : GS} {A : AV} (h : MVes S A) : fI S 0 1 = nI (vn A) := h.1
theorem MVes.K {S : GS} {A : AV} (h : MVes S A) (v : Nat) (hv : v < 100) : aI S 6 v = nI (vK A v) := (h.2.1 v hv).1
theorem MVes.W {S : GS} {A : AV} (h : MVes S A) (v : Nat) (hv : v < 100) : aI S 8 v = nI (vW A v) := (h.2.1 v hv).2.1
theorem MVes.T {S : GS} {A : AV} (h : MVes S A) (v : Nat) (hv : v < 100) : aI S 9 v = nI (vT A v) := (h.2.1 v hv).2.2.1
theorem MVes.M {S : GS} {A : AV} (h : MVes S A) (v : Nat) (hv : v < 100) : aI S 10 v = nI (vM A v) := (h.2.1 v hv).2.2.2.1
theorem MVes.G {S : GS} {A : AV} (h : MVes S A) (v : Nat) (hv : v < 100) : aI S 11 v = nI (vG A v) := (h.2.1 v hv).2.2.2.2.1
theorem MVes.C {S : GS} {A : AV} (h : MVes S A) (v : Nat) (hv : v < 100) : aI S 12 v = nI (vC A v) := (h.2.1 v hv).2.2.2.2.2
theorem MVes.D {S : GS} {A : AV} (h : MVes S A) (v : Nat) (hv : v < 100) (p : Nat) (hp : p < 60) : aI S 7 (60 * v + p) = nI (vD A v p) := h.2.2 v hv p hp
theorem MVes.sum {S : GS} {A : AV} (h : MVes S A) (v : Nat) (hv : v < 100) : sumI (fun p => aI S 7 (60 * v + p)) 60 = nI (vdry A v) := sumI_nI (fun p hp => h.D v hv p hp)
/-- an argument as a number; an argument between two bounds -/
def tn (x : Int32) : Nat := x.toInt.toNat
theorem tn_nI {j : Nat} (h : j < 2 ^ 31) : tn (nI j) = j := by rw [tn, nI_toInt h]; omega
def wi_ (x : Int32) (a b : Int) : Prop := a ≤ x.toInt ∧ x.toInt ≤ b
theorem wi_iff {x a b : Int32} {a' b' : Int} (ha : a.toInt = a') (hb : b.toInt = b') : (a ≤ x ∧ x ≤ b) ↔ wi_ x a' b' := by rw [fa_le, fa_le, ha, hb]; rfl
theorem wi_nat {x : Int32} {a b : Int} (h : wi_ x a b) (ha : 0 ≤ a) : ∃ j : Nat, x = nI j ∧ tn x = j ∧ a ≤ j ∧ j ≤ b ∧ j < 2 ^ 31 := by
  obtain ⟨h1, h2⟩ := h
  have h3 := Int32.toInt_lt x
  refine ⟨x.toInt.toNat, ?_, rfl, by omega, by omega, by omega⟩
  rw [fa_eq, nI_toInt (by omega)]
  omega
theorem wi_nI {j : Nat} {a b : Int} (hj : j < 2 ^ 31) : wi_ (nI j) a b ↔ (a ≤ j ∧ (j : Int) ≤ b) := by rw [wi_, nI_toInt hj]
theorem nI_m1 {n : Nat} (hn : n < 2 ^ 30) : (nI n - 1).toInt = (n : Int) - 1 := pk_sub_toInt (a := n) (b := 1) (by omega) (by omega)
/-- longs of numbers -/
theorem li_of {x : Int32} {a : Nat} (hx : x = nI a) (ha : a < 2 ^ 31) : x.toInt64 = lN a := by rw [hx, nI_l ha]
theorem il_of {x : Int64} {a : Nat} (hx : x = lN a) : x.toInt32 = nI a := by rw [hx, lN_i]
theorem ll_add {x y : Int64} {a b : Nat} (hx : x = lN a) (hy : y = lN b) : x + y = lN (a + b) := by rw [hx, hy, lN_add]
theorem ll_mul {x y : Int64} {a b : Nat} (hx : x = lN a) (hy : y = lN b) : x * y = lN (a * b) := by rw [hx, hy, lN_mul]
theorem ll_sub {x y : Int64} {a b : Nat} (hx : x = lN a) (hy : y = lN b) (h : b ≤ a) : x - y = lN (a - b) := by rw [hx, hy, lN_sub h]
theorem ll_div {x y : Int64} {a b : Nat} (hx : x = lN a) (hy : y = lN b) (ha : a < 2 ^ 63) (h0 : 0 < b) (hb : b < 2 ^ 63) : x / y = lN (a / b) := by rw [hx, hy, pk_lDiv ha h0 hb]
theorem ll_rem {x y : Int64} {a b : Nat} (hx : x = lN a) (hy : y = lN b) (ha : a < 2 ^ 63) (h0 : 0 < b) (hb : b < 2 ^ 63) : x - x / y * y = lN (a % b) := by rw [hx, hy, pk_lRem ha h0 hb]
theorem ii_div {x y : Int32} {a b : Nat} (hx : x = nI a) (hy : y = nI b) (ha : a < 2 ^ 31) (h0 : 0 < b) (hb : b < 2 ^ 31) : x / y = nI (a / b) := by rw [hx, hy, pk_div ha h0 hb]
theorem ll_ne {y : Int64} {b : Nat} (hy : y = lN b) (h0 : 0 < b) (hb : b < 2 ^ 63) : ¬ y = 0 := by
  rw [hy]
  intro h
  have := (pk_lEQ hb (by decide : 0 < 2 ^ 63)).mp h
  omega
def vwet (A : AV) (v : Nat) : Nat := if vwt A v = 0 then 0 else 1000 * vW A v / vwt A v
