/-! ===== the reference's pile ===== -/
def Pst : List Int64 → (Nat → Int64) → Prop
  | [], _ => True
  | x :: r, f => f r.length = x ∧ Pst r f
theorem Pst.up {s : List Int64} {f : Nat → Int64} {n : Nat} {v : Int64} (h : Pst s f) (hn : s.length ≤ n) : Pst s (va_up f n v) := by
  induction s with
  | nil => trivial
  | cons x r ih =>
    simp only [List.length_cons] at hn
    exact ⟨(va_up_ne _ _ (by omega)).trans h.1, ih h.2 (by omega)⟩
theorem Pst.push {s : List Int64} {f : Nat → Int64} (h : Pst s f) (v : Int64) : Pst (v :: s) (va_up f s.length v) := ⟨va_up_self _ _ _, h.up (Nat.le_refl _)⟩
theorem Pst.op {s : List Int64} {a b : Int64} {f : Nat → Int64} (h : Pst (b :: a :: s) f) (v : Int64) : Pst (v :: s) (va_up f s.length v) := Pst.push h.2.2 v
section
variable {f : Nat → Int32} {hi : Nat} {g q p w : Int64} {m k : Nat} {s : List Int64}
theorem pm_lt (h : pmR f hi g q p m k s = some w) : k < hi := by
  cases m with
  | zero => exact absurd h (by simp [pmR])
  | succ m =>
    simp only [pmR] at h
    by_cases e : hi ≤ k
    · rw [if_pos e] at h; exact absurd h (by simp)
    · omega
theorem pm_7 (h : pmR f hi g q p (m + 1) k s = some w) (h7 : f k = 7) : s = [w] := by
  have hk := pm_lt h
  simp only [pmR] at h
  rw [if_neg (by omega), if_pos h7] at h
  match s, h with
  | [x], h => rw [Option.some.inj h]
theorem pm_push (h : pmR f hi g q p (m + 1) k s = some w) (h7 : ¬ f k = 7) (h4 : f k < 4) : pmR f hi g q p m (if f k = 0 then k + 2 else k + 1) ((if f k = 0 then (f (k + 1)).toInt64 else if f k = 1 then g else if f k = 2 then q else p) :: s) = some w := by
  have hk := pm_lt h
  simp only [pmR] at h
  rw [if_neg (by omega), if_neg h7, if_pos h4] at h
  exact h
theorem pm_op (h : pmR f hi g q p (m + 1) k s = some w) (h7 : ¬ f k = 7) (h4 : ¬ f k < 4) : ∃ b a r, s = b :: a :: r ∧ pmR f hi g q p m (k + 1) ((if f k = 4 then a + b else if f k = 5 then a - b else a * b) :: r) = some w := by
  have hk := pm_lt h
  simp only [pmR] at h
  rw [if_neg (by omega), if_neg h7, if_neg h4] at h
  match s, h with
  | b :: a :: r, h => exact ⟨b, a, r, rfl, h⟩
end
theorem dec2 (n : Nat) : nI (n + 1) + Int32.ofInt (-1) = nI n := by
  rw [show Int32.ofInt (-1) = -1 from rfl, nI_m (by omega)]
  rfl
theorem rL_rL (S : GS) (g : Nat) (f f2 : Nat → Int64) : rL (rL S g f) g f2 = rL S g f2 := by
  simp only [rL, va_up_up]
theorem rL_r (S : GS) (g : Nat) (f : Nat → Int64) (i : Nat) : aJ (rL S g f) g i = f i := by
  show va_up (aJ S) g f g i = _
  rw [va_up_self]
theorem lcm_ge {x y : Int64} (h : 0 ≤ lg_cmp x y) : ¬ x < y := Int64.not_lt.mpr ((lg_cmp_ge x y).mp h)
theorem lcm_lt {x y : Int64} (h : ¬ 0 ≤ lg_cmp x y) : x < y := Int64.not_le.mp (fun z => h ((lg_cmp_ge x y).mpr z))
theorem lcm_le {x y : Int64} (h : lg_cmp x y ≤ 0) : ¬ y < x := Int64.not_lt.mpr ((lg_cmp_le x y).mp h)
theorem lcm_gt {x y : Int64} (h : ¬ lg_cmp x y ≤ 0) : y < x := Int64.not_le.mp (fun z => h ((lg_cmp_le x y).mpr z))
