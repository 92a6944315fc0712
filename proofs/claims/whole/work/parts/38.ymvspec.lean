/-! ===== move in the class ===== -/
theorem ni_addneg {x y : Int32} {a b : Nat} (hx : x = nI a) (hy : y = nI b) (h : b ≤ a) : x + -y = nI (a - b) := by
  rw [hx, hy, ← Int32.sub_eq_add_neg, pk_sub h]
/-- only two vessels and the rows of the yard's Parting have changed -/
def YFr2 (S S2 : GS) (v u : Nat) : Prop := kd S2 = kd S ∧ ln S2 = ln S ∧ rf S2 = rf S ∧ fJ S2 = fJ S ∧ (∀ g, g ≠ 204 → aJ S2 g = aJ S g) ∧ (∀ g, g ≠ 1000 + v → g ≠ 1000 + u → fI S2 g = fI S g) ∧ ∀ g, g ≠ 2000 + v → g ≠ 2000 + u → g ≠ 203 → aI S2 g = aI S g
theorem YFr2.ok {S S2 : GS} {v u : Nat} (h : YFr2 S S2 v u) (hQ : YOK S) : YOK S2 := by
  unfold YOK
  rw [h.1, h.2.1, h.2.2.1]
  exact hQ
theorem YFr2.addv {S S2 S3 : GS} {v u : Nat} (h : YFr2 S S2 v u) (h2 : YFr S2 S3 v) : YFr2 S S3 v u :=
  ⟨h2.1.trans h.1, h2.2.1.trans h.2.1, h2.2.2.1.trans h.2.2.1, h2.2.2.2.1.trans h.2.2.2.1, fun g hg => (congrFun h2.2.2.2.2.1 g).trans (h.2.2.2.2.1 g hg), fun g q1 q2 => (h2.2.2.2.2.2.1 g q1).trans (h.2.2.2.2.2.1 g q1 q2), fun g q1 q2 q3 => (h2.2.2.2.2.2.2 g q1).trans (h.2.2.2.2.2.2 g q1 q2 q3)⟩
theorem YFr2.addu {S S2 S3 : GS} {v u : Nat} (h : YFr2 S S2 v u) (h2 : YFr S2 S3 u) : YFr2 S S3 v u :=
  ⟨h2.1.trans h.1, h2.2.1.trans h.2.1, h2.2.2.1.trans h.2.2.1, h2.2.2.2.1.trans h.2.2.2.1, fun g hg => (congrFun h2.2.2.2.2.1 g).trans (h.2.2.2.2.1 g hg), fun g q1 q2 => (h2.2.2.2.2.2.1 g q2).trans (h.2.2.2.2.2.1 g q1 q2), fun g q1 q2 q3 => (h2.2.2.2.2.2.2 g q2).trans (h.2.2.2.2.2.2 g q1 q2 q3)⟩
theorem YFr2.rfl' (S : GS) (v u : Nat) : YFr2 S S v u := ⟨rfl, rfl, rfl, rfl, fun _ _ => rfl, fun _ _ _ => rfl, fun _ _ _ _ => rfl⟩
theorem YFr2.D {S S2 : GS} {v u : Nat} {f : Nat → Int32} {h : Nat → Int64} (hF : YFr2 S S2 v u) : YFr2 S (D2 S2 203 204 f h) v u :=
  ⟨hF.1, hF.2.1, hF.2.2.1, hF.2.2.2.1, fun g hg => (show va_up (aJ S2) 204 h g = aJ S g from (va_up_ne _ _ hg).trans (hF.2.2.2.2.1 g hg)), hF.2.2.2.2.2.1, fun g q1 q2 q3 => (show va_up (aI S2) 203 f g = aI S g from (va_up_ne _ _ q3).trans (hF.2.2.2.2.2.2 g q1 q2 q3))⟩
/-- the loop's middle: p plots are done -/
def mvMid (S9 : GS) (A : AV) (v u g p : Nat) : Prop :=
  (fI S9 (1000 + v) 2 = nI (vdry A v - sumN (mvS A v g) p) ∧ fI S9 (1000 + u) 2 = nI (vdry A u + sumN (mvS A v g) p)) ∧
  (∀ k, k < 60 → aI S9 (2000 + v) k = nI (if k < p then vD A v k - mvS A v g k else vD A v k) ∧ aI S9 (2000 + u) k = nI (if k < p then vD A u k + mvS A v g k else vD A u k)) ∧
  (fI S9 (1000 + v) 0 = nI (vK A v) ∧ fI S9 (1000 + v) 3 = nI (vW A v - mvW A v g) ∧ fI S9 (1000 + v) 4 = nI (vT A v) ∧ fI S9 (1000 + v) 5 = nI (vM A v) ∧ fI S9 (1000 + v) 6 = nI (vG A v) ∧ fI S9 (1000 + v) 7 = nI (vC A v)) ∧
  (fI S9 (1000 + u) 0 = nI (vK A u) ∧ fI S9 (1000 + u) 3 = nI (vW A u + mvW A v g) ∧ fI S9 (1000 + u) 4 = nI (mvT A v u g) ∧ fI S9 (1000 + u) 5 = nI (vM A u) ∧ fI S9 (1000 + u) 6 = nI (vG A u) ∧ fI S9 (1000 + u) 7 = nI (vC A u))
theorem sumN_part {f : Nat → Nat} {p n : Nat} (h : p ≤ n) : sumN f p ≤ sumN f n := by
  have : ∀ m p, p + m = n → sumN f p ≤ sumN f n := by
    intro m
    induction m with
    | zero => intro p hp; rw [show p = n by omega]; exact Nat.le_refl _
    | succ m ih => intro p hp; have := ih (p + 1) (by omega); simp only [sumN] at this; omega
  exact this (n - p) p (by omega)
theorem mvMid.step {S9 : GS} {A : AV} {v u g p : Nat} {x : Int32} (h : mvMid S9 A v u g p) (hvu : v ≠ u) (hu : u < 100) (hv : v < 100) (hp : p < 60) (hx : x = nI (mvS A v g p)) (hs : mvS A v g p ≤ vD A v p) (hs2 : sumN (mvS A v g) (p + 1) ≤ vdry A v) : mvMid (yPour (yPour S9 v p (-x) 0) u p x 0) A v u g (p + 1) := by
  obtain ⟨⟨a1, a2⟩, b, ⟨c0, c3, c4, c5, c6, c7⟩, d0, d3, d4, d5, d6, d7⟩ := h
  have hF1 := yPour_fr (S := S9) (v := v) (p := p) (x := -x) (y := 0)
  have hF2 := yPour_fr (S := yPour S9 v p (-x) 0) (v := u) (p := p) (x := x) (y := 0)
  have e1 : ∀ k, fI (yPour (yPour S9 v p (-x) 0) u p x 0) (1000 + v) k = fI (yPour S9 v p (-x) 0) (1000 + v) k := fun k => congrFun (hF2.2.2.2.2.2.1 (1000 + v) (by omega)) k
  have e2 : ∀ k, fI (yPour S9 v p (-x) 0) (1000 + u) k = fI S9 (1000 + u) k := fun k => congrFun (hF1.2.2.2.2.2.1 (1000 + u) (by omega)) k
  have e3 : aI (yPour (yPour S9 v p (-x) 0) u p x 0) (2000 + v) = aI (yPour S9 v p (-x) 0) (2000 + v) := hF2.2.2.2.2.2.2 (2000 + v) (by omega)
  have e4 : aI (yPour S9 v p (-x) 0) (2000 + u) = aI S9 (2000 + u) := hF1.2.2.2.2.2.2 (2000 + u) (by omega)
  simp only [sumN] at hs2
  refine ⟨⟨?_, ?_⟩, fun k hk => ⟨?_, ?_⟩, ⟨?_, ?_, ?_, ?_, ?_, ?_⟩, ?_, ?_, ?_, ?_, ?_, ?_⟩
  · rw [e1, yPour_2, ni_addneg a1 hx (by omega)]
    simp only [sumN]
    congr 1
    omega
  · rw [yPour_2, e2, a2, hx, nI_add]
    simp only [sumN]
    congr 1
    omega
  · rw [e3, yPour_a]
    by_cases e : k = p
    · subst e
      rw [va_up_self, ni_addneg (a := vD A v k) (b := mvS A v g k) ((b k hk).1.trans (by rw [if_neg (Nat.lt_irrefl k)])) hx hs, if_pos (Nat.lt_succ_self k)]
    · rw [va_up_ne _ _ e, (b k hk).1]
      by_cases c : k < p
      · rw [if_pos c, if_pos (by omega)]
      · rw [if_neg c, if_neg (by omega)]
  · rw [yPour_a, e4]
    by_cases e : k = p
    · subst e
      rw [va_up_self, (b k hk).2, if_neg (Nat.lt_irrefl k), hx, nI_add, if_pos (Nat.lt_succ_self k)]
    · rw [va_up_ne _ _ e, (b k hk).2]
      by_cases c : k < p
      · rw [if_pos c, if_pos (by omega)]
      · rw [if_neg c, if_neg (by omega)]
  · rw [e1, yPour_o (by decide) (by decide)]; exact c0
  · rw [e1, yPour_3, c3]; exact Int32.add_zero _
  · rw [e1, yPour_o (by decide) (by decide)]; exact c4
  · rw [e1, yPour_o (by decide) (by decide)]; exact c5
  · rw [e1, yPour_o (by decide) (by decide)]; exact c6
  · rw [e1, yPour_o (by decide) (by decide)]; exact c7
  · rw [yPour_o (by decide) (by decide), e2]; exact d0
  · rw [yPour_3, e2, d3]; exact Int32.add_zero _
  · rw [yPour_o (by decide) (by decide), e2]; exact d4
  · rw [yPour_o (by decide) (by decide), e2]; exact d5
  · rw [yPour_o (by decide) (by decide), e2]; exact d6
  · rw [yPour_o (by decide) (by decide), e2]; exact d7
theorem YVes.move {S S9 : GS} {A : AV} {v u g : Nat} (hY : YVes S A) (hF : YFr2 S S9 v u) (h9 : mvMid S9 A v u g 60) (hvu : v ≠ u) (hv : v < vn A) (hu : u < vn A) (h100 : vn A ≤ 100) (h0 : 0 < vwt A v) (hg : g ≤ vwt A v) : YVes S9 (aMove A v u g) := by
  obtain ⟨a1, a2, a3⟩ := aMove_dry hvu h0 hg
  obtain ⟨b1, b2, b3⟩ := aMove_W (A := A) (g := g) hvu
  have hs := mvS_sum h0 hg
  obtain ⟨⟨m1, m2⟩, m3, ⟨c0, c3, c4, c5, c6, c7⟩, d0, d3, d4, d5, d6, d7⟩ := h9
  obtain ⟨f1, f2, f3, f4, f5, f6, f7⟩ := hF
  obtain ⟨y1, y2, y3⟩ := hY
  refine ⟨by rw [f6 200 (by omega) (by omega)]; exact y1, fun q hq => ?_, fun q hq hq2 => by rw [f1]; exact y3 q hq hq2⟩
  have hq : q < vn A := hq
  have hq3 := y2 q hq
  rw [f1, f2, f3]
  refine ⟨hq3.1, ?_⟩
  have eT : vT (aMove A v u g) q = if q = u then mvT A v u g else vT A q := rfl
  show fI S9 (1000 + q) 0 = nI (vK A q) ∧ fI S9 (1000 + q) 2 = nI (vdry (aMove A v u g) q) ∧ fI S9 (1000 + q) 3 = nI (vW (aMove A v u g) q) ∧ fI S9 (1000 + q) 4 = nI (vT (aMove A v u g) q) ∧ fI S9 (1000 + q) 5 = nI (vM A q) ∧ fI S9 (1000 + q) 6 = nI (vG A q) ∧ fI S9 (1000 + q) 7 = nI (vC A q) ∧ ∀ p, p < 60 → aI S9 (2000 + q) p = nI (va_up (va_up (vD A) v (fun p => vD A v p - mvS A v g p)) u (fun p => vD A u p + mvS A v g p) q p)
  by_cases e1 : q = v
  · subst e1
    rw [eT, if_neg hvu, b1]
    refine ⟨c0, by rw [m1]; congr 1; omega, c3, c4, c5, c6, c7, fun p hp => ?_⟩
    rw [va_up_ne _ _ hvu, va_up_self, (m3 p hp).1, if_pos hp]
  · by_cases e2 : q = u
    · subst e2
      rw [eT, if_pos rfl, b2]
      refine ⟨d0, by rw [m2]; congr 1; omega, d3, d4, d5, d6, d7, fun p hp => ?_⟩
      rw [va_up_self, (m3 p hp).2, if_pos hp]
    · rw [eT, if_neg e2, a3 q e1 e2, b3 q e1 e2, f6 (1000 + q) (by omega) (by omega), f7 (2000 + q) (by omega) (by omega) (by omega), va_up_ne _ _ e2, va_up_ne _ _ e1]
      exact hq3.2
def mayGo (A : AV) (v u : Nat) : Prop := (vK A v ≠ 3 ∧ (vK A u = vK A v ∨ vK A u = vK A v + 1)) ∧ (vK A u = 3 → vwet A v ≤ 75 ∧ vC A u = 0)
theorem le_subM {M g w : Nat} (hM : M < 2 ^ 30) (hg : g < 2 ^ 30) (hw : w < 2 ^ 30) : nI g ≤ nI M - nI w ↔ w + g ≤ M := by
  rw [fa_le, pk_sub_toInt hM hw, nI_toInt (by omega)]
  omega
