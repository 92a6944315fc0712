/-! ===== PARTING a number by measures ===== -/
def pB (n : Nat) (mm : Nat → Nat) (N k : Nat) : Nat := n * mm k / sumN mm N
def pR (n : Nat) (mm : Nat → Nat) (N k : Nat) : Nat := n * mm k % sumN mm N
def pLeft (n : Nat) (mm : Nat → Nat) (N : Nat) : Nat := n - sumN (pB n mm N) N
/-- the first with the greatest rest among those that were given none yet -/
def pb (r G : Nat → Nat) : Nat → Option Nat
  | 0 => none
  | k + 1 => match pb r G k with
    | none => if G k = 0 then some k else none
    | some b => if G k = 0 ∧ r b < r k then some k else some b
def pG (r : Nat → Nat) (N : Nat) : Nat → Nat → Nat
  | 0 => fun _ => 0
  | j + 1 => va_up (pG r N j) ((pb r (pG r N j) N).getD 0) 1
def pSh (n : Nat) (mm : Nat → Nat) (N k : Nat) : Nat := pB n mm N k + pG (pR n mm N) N (pLeft n mm N) k
theorem sumN_mul {f : Nat → Nat} {c n : Nat} : sumN (fun k => c * f k) n = c * sumN f n := by
  induction n with
  | zero => rfl
  | succ n ih => simp only [sumN]; rw [ih, Nat.mul_add]
theorem pB_sum {n : Nat} {mm : Nat → Nat} {N : Nat} : sumN mm N * sumN (pB n mm N) N + sumN (pR n mm N) N = sumN mm N * n := by
  rw [← sumN_mul (f := pB n mm N), ← sumN_add]
  rw [sumN_congr (f := fun i => sumN mm N * pB n mm N i + pR n mm N i) (g := fun k => n * mm k) (fun k _ => Nat.div_add_mod (n * mm k) (sumN mm N)), sumN_mul, Nat.mul_comm]
theorem pB_le {n : Nat} {mm : Nat → Nat} {N : Nat} (h : 0 < sumN mm N) : sumN (pB n mm N) N ≤ n := by
  have := pB_sum (n := n) (mm := mm) (N := N)
  exact Nat.le_of_mul_le_mul_left (show sumN mm N * sumN (pB n mm N) N ≤ sumN mm N * n by omega) h
theorem pLeft_mul {n : Nat} {mm : Nat → Nat} {N : Nat} (h : 0 < sumN mm N) : sumN mm N * pLeft n mm N = sumN (pR n mm N) N := by
  have h1 := pB_sum (n := n) (mm := mm) (N := N)
  have h2 := pB_le (n := n) h
  unfold pLeft
  rw [Nat.mul_sub]
  omega
theorem pR_lt {n : Nat} {mm : Nat → Nat} {N k : Nat} (h : 0 < sumN mm N) : pR n mm N k < sumN mm N := Nat.mod_lt _ h
theorem pb_spec (r G : Nat → Nat) : ∀ N, (pb r G N = none → ∀ k, k < N → G k ≠ 0) ∧ ∀ b, pb r G N = some b → b < N ∧ G b = 0 ∧ ∀ k, k < N → G k = 0 → r k ≤ r b
  | 0 => ⟨fun _ k hk => absurd hk (Nat.not_lt_zero k), fun b h => by cases h⟩
  | N + 1 => by
    obtain ⟨h1, h2⟩ := pb_spec r G N
    cases hp : pb r G N with
    | none =>
      have h3 := h1 hp
      constructor
      · intro h k hk
        simp only [pb, hp] at h
        by_cases e : k = N
        · subst e
          intro hz
          rw [if_pos hz] at h
          cases h
        · exact h3 k (by omega)
      · intro b h
        simp only [pb, hp] at h
        by_cases hz : G N = 0
        · rw [if_pos hz] at h
          cases h
          refine ⟨by omega, hz, fun k hk hk0 => ?_⟩
          by_cases e : k = N
          · subst e; exact Nat.le_refl _
          · exact absurd hk0 (h3 k (by omega))
        · rw [if_neg hz] at h
          cases h
    | some c =>
      obtain ⟨c1, c2, c3⟩ := h2 c hp
      constructor
      · intro h
        simp only [pb, hp] at h
        split at h <;> cases h
      · intro b h
        simp only [pb, hp] at h
        by_cases hz : G N = 0 ∧ r c < r N
        · rw [if_pos hz] at h
          cases h
          refine ⟨by omega, hz.1, fun k hk hk0 => ?_⟩
          by_cases e : k = N
          · subst e; exact Nat.le_refl _
          · have := c3 k (by omega) hk0
            omega
        · rw [if_neg hz] at h
          cases h
          refine ⟨by omega, c2, fun k hk hk0 => ?_⟩
          by_cases e : k = N
          · subst e
            rcases Nat.lt_or_ge (r c) (r k) with q | q
            · exact absurd ⟨hk0, q⟩ hz
            · exact q
          · exact c3 k (by omega) hk0
theorem sumN_const {c n : Nat} : sumN (fun _ => c) n = n * c := by
  induction n with
  | zero => simp [sumN]
  | succ n ih => simp only [sumN]; rw [ih, Nat.succ_mul]
/-- what holds of those given one, behind j steps -/
theorem pG_spec {n : Nat} {mm : Nat → Nat} {N : Nat} (h : 0 < sumN mm N) : ∀ j, j ≤ pLeft n mm N → sumN (pG (pR n mm N) N j) N = j ∧ (∀ k, pG (pR n mm N) N j k ≤ 1) ∧ (∀ k, k < N → pG (pR n mm N) N j k = 1 → 0 < pR n mm N k)
  | 0, _ => by
    refine ⟨?_, fun k => Nat.zero_le _, fun k _ hk => by cases hk⟩
    rw [show pG (pR n mm N) N 0 = fun _ => 0 from rfl, sumN_const]
    omega
  | j + 1, hj => by
    obtain ⟨h1, h2, h3⟩ := pG_spec (n := n) h j (by omega)
    have hl := pLeft_mul (n := n) h
    -- some was given none
    have hr : ∀ k, k < N → pR n mm N k ≤ sumN mm N - 1 := fun k _ => by have := pR_lt (n := n) (k := k) h; omega
    have key : ∀ (hz : ∀ k, k < N → pG (pR n mm N) N j k = 0 → pR n mm N k = 0), False := by
      intro hz
      have h4 : sumN (pR n mm N) N ≤ sumN (fun k => (sumN mm N - 1) * pG (pR n mm N) N j k) N := by
        refine sumN_le (fun k hk => ?_)
        by_cases e : pG (pR n mm N) N j k = 0
        · rw [hz k hk e]; exact Nat.zero_le _
        · have e1 : pG (pR n mm N) N j k = 1 := by have := h2 k; omega
          rw [e1, Nat.mul_one]
          exact hr k hk
      rw [sumN_mul, h1] at h4
      have h5 : (sumN mm N - 1) * j ≤ sumN mm N * j := Nat.mul_le_mul_right j (by omega)
      have h6 : sumN mm N * (j + 1) ≤ sumN mm N * pLeft n mm N := Nat.mul_le_mul_left _ hj
      rw [Nat.mul_add] at h6
      omega
    cases hb : pb (pR n mm N) (pG (pR n mm N) N j) N with
    | none => exact absurd (fun k hk e => absurd e ((pb_spec _ _ N).1 hb k hk)) key
    | some b =>
      obtain ⟨b1, b2, b3⟩ := (pb_spec _ _ N).2 b hb
      have hg : pG (pR n mm N) N (j + 1) = va_up (pG (pR n mm N) N j) b 1 := by simp only [pG, hb, Option.getD_some]
      have hpos : 0 < pR n mm N b := by
        rcases Nat.eq_zero_or_pos (pR n mm N b) with e | e
        · exact absurd (fun k hk hk0 => by have := b3 k hk hk0; omega) key
        · exact e
      rw [hg]
      refine ⟨?_, fun k => ?_, fun k hk hk1 => ?_⟩
      · have := sumN_up (f := pG (pR n mm N) N j) (g := va_up (pG (pR n mm N) N j) b 1) b1 (fun i _ hi => va_up_ne _ _ hi)
        rw [va_up_self, h1, b2] at this
        omega
      · by_cases e : k = b
        · subst e; rw [va_up_self]; exact Nat.le_refl _
        · rw [va_up_ne _ _ e]; exact h2 k
      · by_cases e : k = b
        · subst e; exact hpos
        · rw [va_up_ne _ _ e] at hk1; exact h3 k hk hk1
theorem pb_left {n : Nat} {mm : Nat → Nat} {N j : Nat} (h : 0 < sumN mm N) (hj : j < pLeft n mm N) : ∃ b, pb (pR n mm N) (pG (pR n mm N) N j) N = some b ∧ b < N ∧ pG (pR n mm N) N j b = 0 ∧ pG (pR n mm N) N (j + 1) = va_up (pG (pR n mm N) N j) b 1 := by
  cases hb : pb (pR n mm N) (pG (pR n mm N) N j) N with
  | none =>
    have h1 := (pb_spec _ _ N).1 hb
    have h2 := (pG_spec (n := n) h (j + 1) hj).1
    have h3 := (pG_spec (n := n) h j (by omega)).1
    have hg : pG (pR n mm N) N (j + 1) = va_up (pG (pR n mm N) N j) 0 1 := by simp only [pG, hb, Option.getD_none]
    rw [hg] at h2
    have hN : 0 < N := by
      rcases Nat.eq_zero_or_pos N with e | e
      · subst e; simp [sumN] at h
      · exact e
    have h5 := sumN_up (f := pG (pR n mm N) N j) (g := va_up (pG (pR n mm N) N j) 0 1) hN (fun i _ hi => va_up_ne _ _ hi)
    have h6 := h1 0 hN
    rw [va_up_self] at h5
    omega
  | some b =>
    obtain ⟨b1, b2, -⟩ := (pb_spec _ _ N).2 b hb
    exact ⟨b, rfl, b1, b2, by simp only [pG, hb, Option.getD_some]⟩
theorem pSh_sum {n : Nat} {mm : Nat → Nat} {N : Nat} (h : 0 < sumN mm N) : sumN (pSh n mm N) N = n := by
  have h1 := (pG_spec (n := n) h (pLeft n mm N) (Nat.le_refl _)).1
  have h2 := pB_le (n := n) h
  rw [show pSh n mm N = fun k => pB n mm N k + pG (pR n mm N) N (pLeft n mm N) k from rfl, sumN_add, h1]
  unfold pLeft
  omega
theorem pSh_le {n : Nat} {mm : Nat → Nat} {N k : Nat} (h : 0 < sumN mm N) (hn : n ≤ sumN mm N) (hk : k < N) : pSh n mm N k ≤ mm k := by
  obtain ⟨-, h2, h3⟩ := pG_spec (n := n) h (pLeft n mm N) (Nat.le_refl _)
  have hd : sumN mm N * pB n mm N k + pR n mm N k = n * mm k := Nat.div_add_mod (n * mm k) (sumN mm N)
  have hm : n * mm k ≤ sumN mm N * mm k := Nat.mul_le_mul_right _ hn
  unfold pSh
  by_cases e : pG (pR n mm N) N (pLeft n mm N) k = 0
  · rw [e, Nat.add_zero]
    exact Nat.le_of_mul_le_mul_left (by omega) h
  · have e1 : pG (pR n mm N) N (pLeft n mm N) k = 1 := by have := h2 k; omega
    have h4 := h3 k hk e1
    rw [e1]
    have : sumN mm N * pB n mm N k < sumN mm N * mm k := by omega
    exact Nat.lt_of_mul_lt_mul_left this
theorem pLeft_le {n : Nat} {mm : Nat → Nat} {N : Nat} : pLeft n mm N ≤ n := Nat.sub_le _ _
theorem pB_bound {n : Nat} {mm : Nat → Nat} {N k : Nat} (h : 0 < sumN mm N) (hk : k < N) : pB n mm N k ≤ n := by
  have h1 := pB_le (n := n) h
  have := sumN_one (f := pB n mm N) hk
  omega
