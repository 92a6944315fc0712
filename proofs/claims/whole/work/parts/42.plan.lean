/-! ===== giving days to the jobs ===== -/
def jav (B : AP) (D : Nat → Option Nat) (d j : Nat) : Prop := D j = none ∧ jF B j ≤ d ∧ d ≤ jL B j
noncomputable def jb (B : AP) (D : Nat → Option Nat) (d : Nat) : Nat → Option Nat
  | 0 => none
  | k + 1 => match jb B D d k with
    | none => @ite (Option Nat) (jav B D d k) (Classical.propDecidable _) (some k) none
    | some b => @ite (Option Nat) (jav B D d k ∧ jL B k < jL B b) (Classical.propDecidable _) (some k) (some b)
theorem jb_none {B : AP} {D : Nat → Option Nat} {d k : Nat} (h : jb B D d k = none) (ha : jav B D d k) : jb B D d (k + 1) = some k := by simp [jb, h, ha]
theorem jb_not {B : AP} {D : Nat → Option Nat} {d k : Nat} (ha : ¬ jav B D d k) : jb B D d (k + 1) = jb B D d k := by
  cases h : jb B D d k with
  | none => simp [jb, h, ha]
  | some b => simp [jb, h, ha]
theorem jb_more {B : AP} {D : Nat → Option Nat} {d k b : Nat} (h : jb B D d k = some b) (ha : jav B D d k) (hl : jL B k < jL B b) : jb B D d (k + 1) = some k := by simp [jb, h, ha, hl]
theorem jb_less {B : AP} {D : Nat → Option Nat} {d k b : Nat} (h : jb B D d k = some b) (hl : ¬ jL B k < jL B b) : jb B D d (k + 1) = some b := by simp [jb, h, hl]
theorem jb_lt {B : AP} {D : Nat → Option Nat} {d : Nat} : ∀ k b, jb B D d k = some b → b < k ∧ jav B D d b
  | 0, b, h => by cases h
  | k + 1, b, h => by
    by_cases ha : jav B D d k
    · cases hk : jb B D d k with
      | none =>
        rw [jb_none hk ha] at h
        cases h
        exact ⟨by omega, ha⟩
      | some c =>
        by_cases hl : jL B k < jL B c
        · rw [jb_more hk ha hl] at h
          cases h
          exact ⟨by omega, ha⟩
        · rw [jb_less hk hl] at h
          cases h
          have := jb_lt k _ hk
          exact ⟨by omega, this.2⟩
    · rw [jb_not ha] at h
      have := jb_lt k b h
      exact ⟨by omega, this.2⟩
/-- one place of a day -/
noncomputable def jst (B : AP) (d : Nat) (D : Nat → Option Nat) : Nat → Option Nat := match jb B D d (jn B) with
  | none => D
  | some b => va_up D b (some d)
theorem jst_none {B : AP} {d : Nat} {D : Nat → Option Nat} (h : jb B D d (jn B) = none) : jst B d D = D := by unfold jst; rw [h]
theorem jst_some {B : AP} {d b : Nat} {D : Nat → Option Nat} (h : jb B D d (jn B) = some b) : jst B d D = va_up D b (some d) := by unfold jst; rw [h]
noncomputable def jit (B : AP) (d : Nat) : Nat → (Nat → Option Nat) → Nat → Option Nat
  | 0, D => D
  | i + 1, D => jst B d (jit B d i D)
theorem jit_stop {B : AP} {d : Nat} {D : Nat → Option Nat} {i : Nat} (h : jb B (jit B d i D) d (jn B) = none) : ∀ j, jit B d (i + j) D = jit B d i D
  | 0 => rfl
  | j + 1 => by
    show jst B d (jit B d (i + j) D) = jit B d i D
    rw [jit_stop h j, jst_none h]
/-- behind k days -/
noncomputable def jpl (B : AP) : Nat → Nat → Option Nat
  | 0 => fun _ => none
  | k + 1 => jit B k (jP B k) (jpl B k)
def jcnt (D : Nat → Option Nat) (n : Nat) : Nat := sumN (fun j => if D j = none then 0 else 1) n
theorem jcnt_step {B : AP} {d b n : Nat} {D : Nat → Option Nat} (hb : b < n) (hD : D b = none) : jcnt (va_up D b (some d)) n = jcnt D n + 1 := by
  have h := sumN_up (f := fun j => if D j = none then 0 else 1) (g := fun j => if va_up D b (some d) j = none then 0 else 1) hb (fun j _ hj => by rw [va_up_ne _ _ hj])
  simp only [va_up_self, hD, if_true] at h
  unfold jcnt
  simp at h
  omega
theorem jcnt_le (D : Nat → Option Nat) (n : Nat) : jcnt D n ≤ n := by
  have := sumN_le (f := fun j => if D j = none then 0 else 1) (g := fun _ => 1) (n := n) (fun j _ => by split <;> omega)
  rw [sumN_const] at this
  unfold jcnt
  omega
theorem jcnt_all {D : Nat → Option Nat} : ∀ n, jcnt D n = n ↔ ∀ j, j < n → D j ≠ none
  | 0 => ⟨fun _ j hj => absurd hj (Nat.not_lt_zero j), fun _ => rfl⟩
  | n + 1 => by
    have ih := jcnt_all (D := D) n
    have hl := jcnt_le D n
    have e : jcnt D (n + 1) = jcnt D n + if D n = none then 0 else 1 := rfl
    constructor
    · intro h
      rw [e] at h
      by_cases hz : D n = none
      · rw [if_pos hz] at h; omega
      · intro j hj
        by_cases q : j = n
        · subst q; exact hz
        · exact ih.mp (by rw [if_neg hz] at h; omega) j (by omega)
    · intro h
      rw [e, if_neg (h n (by omega)), ih.mpr (fun j hj => h j (by omega))]
/-- the plan gives every job its day -/
def jall (B : AP) : Prop := ∀ j, j < jn B → jpl B 60 j ≠ none
theorem bI_eq {o : Option Nat} (h : ∀ b, o = some b → b < 2 ^ 31) : bI o = -1 ↔ o = none := by
  cases o with
  | none => exact ⟨fun _ => rfl, fun _ => rfl⟩
  | some b => exact ⟨fun e => absurd e (bI_ne (h b rfl)), fun e => by cases e⟩
/-- days are days -/
def jday (D : Nat → Option Nat) : Prop := ∀ j b, D j = some b → b < 60
theorem jst_day {B : AP} {d : Nat} {D : Nat → Option Nat} (h : jday D) (hd : d < 60) : jday (jst B d D) := by
  intro j b hj
  cases hb : jb B D d (jn B) with
  | none => rw [jst_none hb] at hj; exact h j b hj
  | some c =>
    rw [jst_some hb] at hj
    by_cases e : j = c
    · subst e; rw [va_up_self] at hj; cases hj; exact hd
    · rw [va_up_ne _ _ e] at hj; exact h j b hj
theorem jit_day {B : AP} {d : Nat} (hd : d < 60) : ∀ i (D : Nat → Option Nat), jday D → jday (jit B d i D)
  | 0, D, h => h
  | i + 1, D, h => jst_day (jit_day hd i D h) hd
theorem jpl_day {B : AP} : ∀ k, k ≤ 60 → jday (jpl B k)
  | 0, _ => fun j b h => by cases h
  | k + 1, hk => jit_day (by omega) _ _ (jpl_day k (by omega))
