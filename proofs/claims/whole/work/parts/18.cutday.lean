/-! ===== cut and day, as numbers ===== -/
def cCut (m s f : Int32) : Prop := (wi_ m 0 100 ∧ wi_ s 0 100 ∧ wi_ f 0 100) ∧ tn m + tn s + tn f ≤ 100
def pCut (A : AV) (x m s f : Int32) : Prop := (wi_ x 0 ((vn A : Int) - 1) ∧ vK A (tn x) = 3) ∧ vwt A (tn x) ≠ 0 ∧ cCut m s f ∧ (vC A (tn x) = 0 ∨ (vC A (tn x) = 1 ∧ vG A (tn x) = 3))
def c1Cut (A : AV) (v m s f : Nat) : Prop := m ≤ 3 ∧ s ≤ 3 ∧ f ≤ 3 ∧ 50 ≤ vT A v ∧ vT A v ≤ 90
def c2Cut (m s f : Nat) : Prop := m ≤ 4 ∧ s ≤ 8 ∧ f ≤ 6
noncomputable def gCut (A : AV) (v m s f : Nat) : Nat := @ite Nat (c1Cut A v m s f) (Classical.propDecidable _) 1 (@ite Nat (c2Cut m s f) (Classical.propDecidable _) 2 3)
theorem gCut_1 {A : AV} {v m s f : Nat} (h : c1Cut A v m s f) : gCut A v m s f = 1 := by simp [gCut, h]
theorem gCut_2 {A : AV} {v m s f : Nat} (h : ¬ c1Cut A v m s f) (h2 : c2Cut m s f) : gCut A v m s f = 2 := by simp [gCut, h, h2]
theorem gCut_3 {A : AV} {v m s f : Nat} (h : ¬ c1Cut A v m s f) (h2 : ¬ c2Cut m s f) : gCut A v m s f = 3 := by simp [gCut, h, h2]
theorem gCut_in (A : AV) (v m s f : Nat) : 1 ≤ gCut A v m s f ∧ gCut A v m s f ≤ 3 := by
  by_cases h : c1Cut A v m s f
  · rw [gCut_1 h]; omega
  · by_cases h2 : c2Cut m s f
    · rw [gCut_2 h h2]; omega
    · rw [gCut_3 h h2]; omega
def aCut (A : AV) (v g : Nat) : AV := (vn A, vK A, vD A, vW A, vT A, vM A, va_up (vG A) v g, va_up (vC A) v (vC A v + 1))
def mCut (S : GS) (A : AV) (v g : Nat) : GS := sA (sA S 11 v (nI g)) 12 v (nI (vC A v + 1))
theorem MVes.cut {S : GS} {A : AV} {v g : Nat} (h : MVes S A) : MVes (mCut S A v g) (aCut A v g) := by
  refine ⟨h.1, fun u hu => ?_, h.2.2⟩
  obtain ⟨h1, h2, h3, h4, h5, h6⟩ := h.2.1 u hu
  refine ⟨h1, h2, h3, h4, ?_, ?_⟩
  · show up2 (aI S) 11 v (nI g) 11 u = nI (va_up (vG A) v g u)
    by_cases e : u = v
    · subst e; rw [up2_at, va_up_self]
    · rw [up2_nk e, va_up_ne _ _ e]; exact h5
  · show up2 (aI (sA S 11 v (nI g))) 12 v (nI (vC A v + 1)) 12 u = nI (va_up (vC A) v (vC A v + 1) u)
    by_cases e : u = v
    · subst e; rw [up2_at, va_up_self]
    · rw [up2_nk e, va_up_ne _ _ e]; exact h6
theorem VOK.cut {A : AV} {t v g : Nat} (h : VOK A t) (hv : v < vn A) (hk : vK A v = 3) (hw : vwt A v ≠ 0) (hc : vC A v ≤ 1) (hg : 1 ≤ g ∧ g ≤ 3) : VOK (aCut A v g) t := by
  obtain ⟨h1, h2, h3, h4⟩ := h
  refine ⟨h1, h2, fun u hu => ?_, fun u hu => ?_⟩
  · have h5 := h3 u hu
    have e4 : vwt A u = vdry A u + vW A u := rfl
    have e1 : vG (aCut A v g) u = if u = v then g else vG A u := rfl
    have e2 : vC (aCut A v g) u = if u = v then vC A v + 1 else vC A u := rfl
    rw [e1, e2]
    show vK A u ≤ 3 ∧ vT A u ≤ 100 ∧ vM A u ≤ 1 ∧ _ ∧ _ ∧ vdry A u ≤ 1000000 ∧ (vK A u ≠ 2 → vwt A u ≤ 1000000) ∧ vW A u ≤ 1000000 + 100000 * t ∧ (vK A u = 3 → vW A u ≠ 0 → vdry A u ≠ 0) ∧ (_ → _) ∧ (_ → vK A u = 3 ∧ vdry A u ≠ 0 ∧ _)
    by_cases e : u = v
    · subst e
      simp only [if_true]
      omega
    · simp only [if_neg e]
      exact h5
  · have hu : vn A ≤ u := hu
    have h5 := h4 u hu
    refine ⟨h5.1, h5.2.1, h5.2.2.1, h5.2.2.2.1, h5.2.2.2.2.1, ?_, ?_⟩
    · show va_up (vG A) v g u = 0
      rw [va_up_ne _ _ (by omega)]; exact h5.2.2.2.2.2.1
    · show va_up (vC A) v _ u = 0
      rw [va_up_ne _ _ (by omega)]; exact h5.2.2.2.2.2.2
/-! whole rows -/
def rA (S : GS) (g : Nat) (f : Nat → Int32) : GS := (S.1, S.2.1, S.2.2.1, S.2.2.2.1, S.2.2.2.2.1, va_up S.2.2.2.2.2.1 g f, S.2.2.2.2.2.2)
def rL (S : GS) (g : Nat) (f : Nat → Int64) : GS := (S.1, S.2.1, S.2.2.1, S.2.2.2.1, S.2.2.2.2.1, S.2.2.2.2.2.1, va_up S.2.2.2.2.2.2 g f)
theorem kd_rA (S : GS) (g : Nat) (f : Nat → Int32) : kd (rA S g f) = kd S := rfl
theorem ln_rA (S : GS) (g : Nat) (f : Nat → Int32) : ln (rA S g f) = ln S := rfl
theorem rf_rA (S : GS) (g : Nat) (f : Nat → Int32) : rf (rA S g f) = rf S := rfl
theorem fI_rA (S : GS) (g : Nat) (f : Nat → Int32) : fI (rA S g f) = fI S := rfl
theorem fJ_rA (S : GS) (g : Nat) (f : Nat → Int32) : fJ (rA S g f) = fJ S := rfl
theorem aI_rA (S : GS) (g : Nat) (f : Nat → Int32) : aI (rA S g f) = va_up (aI S) g f := rfl
theorem aJ_rA (S : GS) (g : Nat) (f : Nat → Int32) : aJ (rA S g f) = aJ S := rfl
theorem kd_rL (S : GS) (g : Nat) (f : Nat → Int64) : kd (rL S g f) = kd S := rfl
theorem ln_rL (S : GS) (g : Nat) (f : Nat → Int64) : ln (rL S g f) = ln S := rfl
theorem rf_rL (S : GS) (g : Nat) (f : Nat → Int64) : rf (rL S g f) = rf S := rfl
theorem fI_rL (S : GS) (g : Nat) (f : Nat → Int64) : fI (rL S g f) = fI S := rfl
theorem fJ_rL (S : GS) (g : Nat) (f : Nat → Int64) : fJ (rL S g f) = fJ S := rfl
theorem aI_rL (S : GS) (g : Nat) (f : Nat → Int64) : aI (rL S g f) = aI S := rfl
theorem aJ_rL (S : GS) (g : Nat) (f : Nat → Int64) : aJ (rL S g f) = va_up (aJ S) g f := rfl
theorem up2_up {α : Type} (F : Nat → Nat → α) (g : Nat) (f : Nat → α) (j : Nat) (v : α) : up2 (va_up F g f) g j v = va_up F g (va_up f j v) := by
  funext x y
  unfold up2 va_up
  by_cases e : x = g
  · simp [e]
  · simp [e]
theorem up2_upn {α : Type} (F : Nat → Nat → α) {g h : Nat} (hn : h ≠ g) (f : Nat → α) (j : Nat) (v : α) : up2 (va_up F g f) h j v = va_up (up2 F h j v) g f := by
  funext x y
  unfold up2 va_up
  by_cases e : x = g
  · subst e
    simp [Ne.symm hn]
  · simp [e]
theorem up2_row1 {α : Type} (F : Nat → Nat → α) (g j : Nat) (v : α) : up2 F g j v = va_up F g (va_up (F g) j v) := by
  funext x y
  unfold up2 va_up
  by_cases e : x = g
  · simp [e]
  · simp [e]
theorem va_up_same {α : Type} (F : Nat → α) (g : Nat) : va_up F g (F g) = F := by
  funext x
  unfold va_up
  split
  · next e => rw [e]
  · rfl
theorem sA_rA (S : GS) (g : Nat) (f : Nat → Int32) (j : Nat) (v : Int32) : sA (rA S g f) g j v = rA S g (va_up f j v) := by
  simp only [sA, rA, up2_up]
theorem sA_rAn (S : GS) {g h : Nat} (hn : h ≠ g) (f : Nat → Int32) (j : Nat) (v : Int32) : sA (rA S g f) h j v = rA (sA S h j v) g f := by
  simp only [sA, rA, up2_upn _ hn]
theorem sL_rL (S : GS) (g : Nat) (f : Nat → Int64) (j : Nat) (v : Int64) : sL (rL S g f) g j v = rL S g (va_up f j v) := by
  simp only [sL, rL, up2_up]
theorem rA_self (S : GS) (g : Nat) : rA S g (aI S g) = S := by
  show (S.1, S.2.1, S.2.2.1, S.2.2.2.1, S.2.2.2.2.1, va_up S.2.2.2.2.2.1 g (S.2.2.2.2.2.1 g), S.2.2.2.2.2.2) = S
  rw [va_up_same]
theorem rL_self (S : GS) (g : Nat) : rL S g (aJ S g) = S := by
  show (S.1, S.2.1, S.2.2.1, S.2.2.2.1, S.2.2.2.2.1, S.2.2.2.2.2.1, va_up S.2.2.2.2.2.2 g (S.2.2.2.2.2.2 g)) = S
  rw [va_up_same]
/-! a day -/
def dT (A : AV) (v : Nat) : Nat := if vwt A v = 0 then vT A v else if vK A v = 1 then min 100 (vT A v + (if vM A v = 0 then 7 else 12)) else if vK A v = 0 then min 100 (vT A v + 1) else vT A v
def dM (A : AV) (v : Nat) : Nat := if vK A v = 1 then 0 else vM A v
def dW (A : AV) (sun rain v : Nat) : Nat := if vK A v = 2 ∧ vM A v = 0 then (if rain = 0 then vW A v - sun * vdry A v / 40 else vW A v + vdry A v / 10) else vW A v
def aDayN (A : AV) (sun rain n : Nat) : AV := (vn A, vK A, vD A, (fun v => if v < n then dW A sun rain v else vW A v), (fun v => if v < n then dT A v else vT A v), (fun v => if v < n then dM A v else vM A v), A.2.2.2.2.2.2)
theorem aDayN_0 (A : AV) (sun rain : Nat) : aDayN A sun rain 0 = A := rfl
theorem VOK.day {A : AV} {t sun rain : Nat} (h : VOK A t) (ht : t + 1 ≤ 600) : VOK (aDayN A sun rain (vn A)) (t + 1) := by
  obtain ⟨h1, h2, h3, h4⟩ := h
  refine ⟨h1, ht, fun u hu => ?_, fun u hu => ?_⟩
  · have hu : u < vn A := hu
    have h5 := h3 u hu
    have e4 : vwt A u = vdry A u + vW A u := rfl
    have e0 : vdry (aDayN A sun rain (vn A)) u = vdry A u := rfl
    have e1 : vwt (aDayN A sun rain (vn A)) u = vdry A u + vW (aDayN A sun rain (vn A)) u := rfl
    have e2 : vW (aDayN A sun rain (vn A)) u = dW A sun rain u := if_pos hu
    have e3 : vT (aDayN A sun rain (vn A)) u = dT A u := if_pos hu
    have e5 : vM (aDayN A sun rain (vn A)) u = dM A u := if_pos hu
    have b1 : dT A u ≤ 100 := by unfold dT; split; omega; split; omega; split; omega; omega
    have b2 : dM A u ≤ 1 := by unfold dM; split; omega; omega
    have b3 : dW A sun rain u ≤ vW A u + 100000 ∧ (vK A u ≠ 2 → dW A sun rain u = vW A u) := by
      unfold dW
      refine ⟨?_, fun q => if_neg (fun z => q z.1)⟩
      split
      · split
        · have := Nat.sub_le (vW A u) (sun * vdry A u / 40)
          omega
        · omega
      · omega
    rw [e0, e1, e2, e3, e5]
    show vK A u ≤ 3 ∧ _ ∧ _ ∧ vG A u ≤ 3 ∧ vC A u ≤ 2 ∧ _ ∧ (vK A u ≠ 2 → _) ∧ _ ∧ (vK A u = 3 → _ → _) ∧ (vG A u ≠ 0 → vC A u ≠ 0) ∧ (vC A u ≠ 0 → vK A u = 3 ∧ _ ∧ vG A u ≠ 0)
    omega
  · have hu : vn A ≤ u := hu
    have h5 := h4 u hu
    have hn : ¬ u < vn A := by omega
    refine ⟨h5.1, h5.2.1, ?_, ?_, ?_, h5.2.2.2.2.2⟩
    · exact (if_neg hn).trans h5.2.2.1
    · exact (if_neg hn).trans h5.2.2.2.1
    · exact (if_neg hn).trans h5.2.2.2.2.1
