/-! ===== the votes, as numbers: how many; from which day, taken back, text ===== -/
abbrev AB : Type := Nat × (Nat → Nat) × (Nat → Nat) × (Nat → AT)
def bn (B : AB) : Nat := B.1
def bF (B : AB) : Nat → Nat := B.2.1
def bG (B : AB) : Nat → Nat := B.2.2.1
def bT (B : AB) : Nat → AT := B.2.2.2
def BOK (B : AB) : Prop := bn B ≤ 50 ∧ ∀ v, v < bn B → bF B v ≤ 10000 ∧ bG B v ≤ 1 ∧ TOK (bT B v)
def MVo (S : GS) (B : AB) : Prop := fI S 0 24 = nI (bn B) ∧ ∀ v, v < bn B → aI S 22 v = nI (bF B v) ∧ aI S 23 v = nI (bG B v) ∧ PMv (bT B v) (fun k => aI S 21 (420 * v + k))
theorem MVo.n {S : GS} {B : AB} (h : MVo S B) : fI S 0 24 = nI (bn B) := h.1
theorem MVo.F {S : GS} {B : AB} (h : MVo S B) (v : Nat) (hv : v < bn B) : aI S 22 v = nI (bF B v) := (h.2 v hv).1
theorem MVo.G {S : GS} {B : AB} (h : MVo S B) (v : Nat) (hv : v < bn B) : aI S 23 v = nI (bG B v) := (h.2 v hv).2.1
def YVo (S : GS) (B : AB) : Prop := fI S 207 2 = nI (bn B) ∧ (∀ v, v < bn B → (rf S 208 v = some (3000 + v) ∧ kd S (3000 + v) = 9 ∧ rf S (3000 + v) 1 = some (4000 + v) ∧ kd S (4000 + v) = 7 ∧ rf S (4000 + v) 0 = some (5000 + v) ∧ kd S (5000 + v) = 23 ∧ ln S (5000 + v) = (bT B v).1) ∧ fI S (3000 + v) 0 = nI (bF B v) ∧ fI S (3000 + v) 2 = nI (bG B v) ∧ fI S (4000 + v) 1 = nI (bT B v).1 ∧ ∀ i, i < (bT B v).1 → aI S (5000 + v) i = bv ((bT B v).2 i))
  ∧ ∀ v, bn B ≤ v → v < 50 → kd S (3000 + v) = 0 ∧ kd S (4000 + v) = 0 ∧ kd S (5000 + v) = 0
section
variable {S : GS} {B : AB}
theorem YVo.n (h : YVo S B) : fI S 207 2 = nI (bn B) := h.1
theorem YVo.el (h : YVo S B) (v : Nat) (hv : v < bn B) : rf S 208 v = some (3000 + v) := (h.2.1 v hv).1.1
theorem YVo.ok (h : YVo S B) (v : Nat) (hv : v < bn B) : kd S (3000 + v) = 8 + 1 := (h.2.1 v hv).1.2.1
theorem YVo.tr (h : YVo S B) (v : Nat) (hv : v < bn B) : rf S (3000 + v) 1 = some (4000 + v) := (h.2.1 v hv).1.2.2.1
theorem YVo.tk (h : YVo S B) (v : Nat) (hv : v < bn B) : kd S (4000 + v) = 6 + 1 := (h.2.1 v hv).1.2.2.2.1
theorem YVo.br (h : YVo S B) (v : Nat) (hv : v < bn B) : rf S (4000 + v) 0 = some (5000 + v) := (h.2.1 v hv).1.2.2.2.2.1
theorem YVo.bk (h : YVo S B) (v : Nat) (hv : v < bn B) : kd S (5000 + v) = 23 := (h.2.1 v hv).1.2.2.2.2.2.1
theorem YVo.bl (h : YVo S B) (v : Nat) (hv : v < bn B) : ln S (5000 + v) = (bT B v).1 := (h.2.1 v hv).1.2.2.2.2.2.2
theorem YVo.F (h : YVo S B) (v : Nat) (hv : v < bn B) : fI S (3000 + v) 0 = nI (bF B v) := (h.2.1 v hv).2.1
theorem YVo.G (h : YVo S B) (v : Nat) (hv : v < bn B) : fI S (3000 + v) 2 = nI (bG B v) := (h.2.1 v hv).2.2.1
theorem YVo.L (h : YVo S B) (v : Nat) (hv : v < bn B) : fI S (4000 + v) 1 = nI (bT B v).1 := (h.2.1 v hv).2.2.2.1
theorem YVo.b (h : YVo S B) (v : Nat) (hv : v < bn B) (i : Nat) (hi : i < (bT B v).1) : aI S (5000 + v) i = bv ((bT B v).2 i) := (h.2.1 v hv).2.2.2.2 i hi
end
def ifc (B : AB) (day : Nat) : Nat → Option Nat
  | 0 => none
  | v + 1 => if bG B v = 0 ∧ bF B v ≤ day then some v else ifc B day v
def inF (B : AB) (day : Nat) : Option Nat := ifc B day (bn B)
theorem ifc_yes {B : AB} {day v : Nat} (h1 : bG B v = 0) (h2 : bF B v ≤ day) : ifc B day (v + 1) = some v := if_pos ⟨h1, h2⟩
theorem ifc_no {B : AB} {day v : Nat} (h : ¬ (bG B v = 0 ∧ bF B v ≤ day)) : ifc B day (v + 1) = ifc B day v := if_neg h
theorem ifc_lt {B : AB} {day n v : Nat} (h : ifc B day n = some v) : v < n := by
  induction n with
  | zero => exact absurd h (by simp [ifc])
  | succ n ih =>
    by_cases e : bG B n = 0 ∧ bF B n ≤ day
    · rw [ifc_yes e.1 e.2] at h
      have := Option.some.inj h
      omega
    · rw [ifc_no e] at h
      have := ih h
      omega
