/-! ===== the vessels' calls, as numbers ===== -/
section
variable {X : CX} {pc k n : Nat} {lo : List (Option Value)} {st : List Value} {S : GS}
/-- the number on top, in another form -/
theorem V_cvi {x y : Int32} (h : x = y) (k1 : V X pc lo (.int y :: st) S k n) : V X pc lo (.int x :: st) S k n := by rw [h]; exact k1
theorem V_cvl {x y : Int64} (h : x = y) (k1 : V X pc lo (.long y :: st) S k n) : V X pc lo (.long x :: st) S k n := by rw [h]; exact k1
theorem V_cvS {S' : GS} (h : S = S') (k1 : V X pc lo st S' k n) : V X pc lo st S k n := by rw [h]; exact k1
end
def pVessel (A : AV) (x : Int32) : Prop := wi_ x 0 3 ∧ vn A < 100
def aVessel (A : AV) (c : Nat) : AV := (vn A + 1, va_up (vK A) (vn A) c, A.2.2)
def pBuy (A : AV) (x pl g w : Int32) : Prop := (wi_ x 0 ((vn A : Int) - 1) ∧ vK A (tn x) = 0) ∧ wi_ pl 0 59 ∧ wi_ g 1 100000 ∧ wi_ w 0 900 ∧ vwt A (tn x) + tn g ≤ 1000000
def aBuy (A : AV) (v p g b : Nat) : AV := (vn A, vK A, va_up (vD A) v (va_up (vD A v) p (vD A v p + (g - b))), va_up (vW A) v (vW A v + b), A.2.2.2.2)
theorem sumN_bump {f : Nat → Nat} {n p x : Nat} (hp : p < n) : sumN (va_up f p (f p + x)) n = sumN f n + x := by
  have := sumN_up (f := f) (g := va_up f p (f p + x)) hp (fun j _ hj => va_up_ne _ _ hj)
  rw [va_up_self] at this
  omega
theorem aBuy_dry {A : AV} {v p g b : Nat} (hp : p < 60) (u : Nat) : vdry (aBuy A v p g b) u = if u = v then vdry A v + (g - b) else vdry A u := by
  unfold vdry
  by_cases h : u = v
  · subst h
    rw [if_pos rfl]
    show sumN (va_up (vD A) u (va_up (vD A u) p (vD A u p + (g - b))) u) 60 = _
    rw [va_up_self, sumN_bump hp]
  · rw [if_neg h]
    show sumN (va_up (vD A) v _ u) 60 = _
    rw [va_up_ne _ _ h]
theorem aBuy_wt {A : AV} {v p g b : Nat} (hp : p < 60) (hb : b ≤ g) (u : Nat) : vwt (aBuy A v p g b) u = if u = v then vwt A v + g else vwt A u := by
  unfold vwt
  rw [aBuy_dry hp]
  show _ + va_up (vW A) v (vW A v + b) u = _
  by_cases h : u = v
  · subst h
    rw [va_up_self, if_pos rfl, if_pos rfl]
    omega
  · rw [va_up_ne _ _ h, if_neg h, if_neg h]
theorem VOK.vessel {A : AV} {t : Nat} {c : Nat} (h : VOK A t) (hc : c ≤ 3) (hn : vn A < 100) : VOK (aVessel A c) t := by
  obtain ⟨h1, h2, h3, h4⟩ := h
  refine ⟨by show vn A + 1 ≤ 100; omega, h2, fun v hv => ?_, fun v hv => ?_⟩
  · have hv : v < vn A + 1 := hv
    by_cases e : v = vn A
    · subst e
      have h5 := h4 (vn A) (Nat.le_refl _)
      have h6 : vdry A (vn A) = 0 := by
        unfold vdry
        rw [sumN_congr (g := fun _ => 0) (fun i _ => h5.1 i)]
        decide
      have e1 : vK (aVessel A c) (vn A) = c := va_up_self _ _ _
      have e2 : vdry (aVessel A c) (vn A) = vdry A (vn A) := rfl
      have e3 : vwt (aVessel A c) (vn A) = vwt A (vn A) := rfl
      have e4 : vwt A (vn A) = vdry A (vn A) + vW A (vn A) := rfl
      rw [e1, e2, e3]
      show c ≤ 3 ∧ vT A (vn A) ≤ 100 ∧ vM A (vn A) ≤ 1 ∧ vG A (vn A) ≤ 3 ∧ vC A (vn A) ≤ 2 ∧ vdry A (vn A) ≤ 1000000 ∧ (c ≠ 2 → vwt A (vn A) ≤ 1000000) ∧ vW A (vn A) ≤ 1000000 + 100000 * t ∧ (c = 3 → vW A (vn A) ≠ 0 → vdry A (vn A) ≠ 0) ∧ (vG A (vn A) ≠ 0 → vC A (vn A) ≠ 0) ∧ (vC A (vn A) ≠ 0 → c = 3 ∧ vdry A (vn A) ≠ 0 ∧ vG A (vn A) ≠ 0)
      omega
    · have h5 := h3 v (by omega)
      have e1 : vK (aVessel A c) v = vK A v := va_up_ne _ _ e
      rw [e1]
      exact h5
  · have hv : vn A + 1 ≤ v := hv
    have h5 := h4 v (by omega)
    have e1 : vK (aVessel A c) v = vK A v := va_up_ne _ _ (by omega)
    rw [e1]
    exact h5
theorem VOK.buy {A : AV} {t v p g b : Nat} (h : VOK A t) (hv : v < vn A) (hk : vK A v = 0) (hp : p < 60) (hb : b ≤ g) (hw : vwt A v + g ≤ 1000000) : VOK (aBuy A v p g b) t := by
  obtain ⟨h1, h2, h3, h4⟩ := h
  refine ⟨h1, h2, fun u hu => ?_, fun u hu => ?_⟩
  · have h5 := h3 u hu
    have e1 : vdry (aBuy A v p g b) u = if u = v then vdry A v + (g - b) else vdry A u := aBuy_dry hp u
    have e2 : vwt (aBuy A v p g b) u = if u = v then vwt A v + g else vwt A u := aBuy_wt hp hb u
    have e3 : vW (aBuy A v p g b) u = if u = v then vW A v + b else vW A u := rfl
    have e4 : vwt A v = vdry A v + vW A v := rfl
    rw [e1, e2, e3]
    show vK A u ≤ 3 ∧ vT A u ≤ 100 ∧ vM A u ≤ 1 ∧ vG A u ≤ 3 ∧ vC A u ≤ 2 ∧ _ ∧ (vK A u ≠ 2 → _) ∧ _ ∧ (vK A u = 3 → _ → _) ∧ (vG A u ≠ 0 → vC A u ≠ 0) ∧ (vC A u ≠ 0 → vK A u = 3 ∧ _ ∧ vG A u ≠ 0)
    by_cases e : u = v
    · subst e
      simp only [if_true]
      omega
    · simp only [if_neg e]
      exact h5
  · have h5 := h4 u hu
    have e : u ≠ v := by have : vn A ≤ u := hu; omega
    have e3 : vW (aBuy A v p g b) u = vW A u := va_up_ne _ _ e
    have e4 : vD (aBuy A v p g b) u = vD A u := va_up_ne _ _ e
    rw [e3, e4]
    exact h5
/-! the reference's states behind the calls -/
def mVessel (S : GS) (A : AV) (x : Int32) : GS := sI (sA S 6 (vn A) x) 0 1 (nI (vn A + 1))
theorem MVes.vessel {S : GS} {A : AV} {c : Nat} (h : MVes S A) (hn : vn A < 100) : MVes (mVessel S A (nI c)) (aVessel A c) := by
  refine ⟨by show up2 (fI S) 0 1 (nI (vn A + 1)) 0 1 = nI (vn A + 1); exact up2_at, fun v hv => ?_, fun v hv p hp => h.D v hv p hp⟩
  obtain ⟨h1, h2⟩ := h.2.1 v hv
  refine ⟨?_, h2⟩
  show up2 (aI S) 6 (vn A) (nI c) 6 v = nI (va_up (vK A) (vn A) c v)
  by_cases e : v = vn A
  · subst e; rw [up2_at, va_up_self]
  · rw [up2_nk e, va_up_ne _ _ e]; exact h1
def mBuy (S : GS) (A : AV) (v p g b : Nat) : GS := sJ (sA (sA S 8 v (nI (vW A v + b))) 7 (60 * v + p) (nI (vD A v p + (g - b)))) 0 4 (fJ S 0 4 + lN (g - b))
theorem MVes.buy {S : GS} {A : AV} {v p g b : Nat} (h : MVes S A) (hp : p < 60) : MVes (mBuy S A v p g b) (aBuy A v p g b) := by
  refine ⟨h.1, fun u hu => ?_, fun u hu q hq => ?_⟩
  · obtain ⟨h1, h2, h3⟩ := h.2.1 u hu
    refine ⟨h1, ?_, h3⟩
    show up2 (aI S) 8 v _ 8 u = nI (va_up (vW A) v _ u)
    by_cases e : u = v
    · subst e; rw [up2_at, va_up_self]
    · rw [up2_nk e, va_up_ne _ _ e]; exact h2
  · show up2 (aI (sA S 8 v (nI (vW A v + b)))) 7 (60 * v + p) (nI (vD A v p + (g - b))) 7 (60 * u + q) = nI (va_up (vD A) v (va_up (vD A v) p (vD A v p + (g - b))) u q)
    by_cases e : u = v
    · subst e
      rw [va_up_self]
      by_cases e2 : q = p
      · subst e2; rw [up2_at, va_up_self]
      · rw [up2_nk (by omega), va_up_ne _ _ e2]; exact h.D u hu q hq
    · rw [up2_nk (by omega), va_up_ne _ _ e]; exact h.D u hu q hq
theorem nar_b {m : Nat} (h : m ≤ 1) : vp_nar .boolean (nI m) = nI m := by
  match m, h with
  | 0, _ => rfl
  | 1, _ => rfl
def pTurn (A : AV) (x : Int32) : Prop := (wi_ x 0 ((vn A : Int) - 1) ∧ vK A (tn x) = 1) ∧ vM A (tn x) = 0
def pCover (A : AV) (x : Int32) (c : Nat) : Prop := (wi_ x 0 ((vn A : Int) - 1) ∧ vK A (tn x) = 2) ∧ vM A (tn x) ≠ c
def aMark (A : AV) (v c : Nat) : AV := (vn A, vK A, vD A, vW A, vT A, va_up (vM A) v c, A.2.2.2.2.2.2)
def mMark (S : GS) (v c : Nat) : GS := sA S 10 v (nI c)
theorem MVes.mark {S : GS} {A : AV} {v c : Nat} (h : MVes S A) : MVes (mMark S v c) (aMark A v c) := by
  refine ⟨h.1, fun u hu => ?_, h.2.2⟩
  obtain ⟨h1, h2, h3, h4, h5⟩ := h.2.1 u hu
  refine ⟨h1, h2, h3, ?_, h5⟩
  show up2 (aI S) 10 v (nI c) 10 u = nI (va_up (vM A) v c u)
  by_cases e : u = v
  · subst e; rw [up2_at, va_up_self]
  · rw [up2_nk e, va_up_ne _ _ e]; exact h4
theorem VOK.mark {A : AV} {t v c : Nat} (h : VOK A t) (hv : v < vn A) (hc : c ≤ 1) : VOK (aMark A v c) t := by
  obtain ⟨h1, h2, h3, h4⟩ := h
  refine ⟨h1, h2, fun u hu => ?_, fun u hu => ?_⟩
  · have h5 := h3 u hu
    refine ⟨h5.1, h5.2.1, ?_, h5.2.2.2⟩
    show va_up (vM A) v c u ≤ 1
    by_cases e : u = v
    · subst e; rw [va_up_self]; exact hc
    · rw [va_up_ne _ _ e]; exact h5.2.2.1
  · have hu : vn A ≤ u := hu
    have h5 := h4 u hu
    refine ⟨h5.1, h5.2.1, h5.2.2.1, h5.2.2.2.1, ?_, h5.2.2.2.2.2⟩
    show va_up (vM A) v c u = 0
    rw [va_up_ne _ _ (by omega)]; exact h5.2.2.2.2.1
def vplots (A : AV) (v : Nat) : Nat := sumN (fun p => if 0 < vD A v p then 1 else 0) 60
def vTold (A : AV) (v what : Nat) : Nat := match what with
  | 0 => vK A v | 1 => vwt A v | 2 => vdry A v | 3 => vW A v | 4 => vwet A v | 5 => vT A v | 6 => vM A v | 7 => vG A v | _ => vplots A v
theorem le8 {P : Nat → Prop} (h0 : P 0) (h1 : P 1) (h2 : P 2) (h3 : P 3) (h4 : P 4) (h5 : P 5) (h6 : P 6) (h7 : P 7) (h8 : P 8) {j : Nat} (h : j ≤ 8) : P j := by
  match j, h with
  | 0, _ => exact h0
  | 1, _ => exact h1
  | 2, _ => exact h2
  | 3, _ => exact h3
  | 4, _ => exact h4
  | 5, _ => exact h5
  | 6, _ => exact h6
  | 7, _ => exact h7
  | 8, _ => exact h8
  | n + 9, h => omega
