/-! ===== the class's vessels: what a call changes ===== -/
/-- only the vessel v has changed: its fields, its row -/
def YFr (S S2 : GS) (v : Nat) : Prop := kd S2 = kd S ∧ ln S2 = ln S ∧ rf S2 = rf S ∧ fJ S2 = fJ S ∧ aJ S2 = aJ S ∧ (∀ g, g ≠ 1000 + v → fI S2 g = fI S g) ∧ ∀ g, g ≠ 2000 + v → aI S2 g = aI S g
theorem YFr.rfl' (S : GS) (v : Nat) : YFr S S v := ⟨rfl, rfl, rfl, rfl, rfl, fun _ _ => rfl, fun _ _ => rfl⟩
theorem YFr.trans {S S2 S3 : GS} {v : Nat} (h : YFr S S2 v) (h2 : YFr S2 S3 v) : YFr S S3 v :=
  ⟨h2.1.trans h.1, h2.2.1.trans h.2.1, h2.2.2.1.trans h.2.2.1, h2.2.2.2.1.trans h.2.2.2.1, h2.2.2.2.2.1.trans h.2.2.2.2.1, fun g hg => (h2.2.2.2.2.2.1 g hg).trans (h.2.2.2.2.2.1 g hg), fun g hg => (h2.2.2.2.2.2.2 g hg).trans (h.2.2.2.2.2.2 g hg)⟩
theorem YFr.I {S : GS} {v k : Nat} {x : Int32} : YFr S (sI S (1000 + v) k x) v := ⟨rfl, rfl, rfl, rfl, rfl, fun g hg => up2_row hg, fun _ _ => rfl⟩
theorem YFr.A {S : GS} {v k : Nat} {x : Int32} : YFr S (sA S (2000 + v) k x) v := ⟨rfl, rfl, rfl, rfl, rfl, fun _ _ => rfl, fun g hg => up2_row hg⟩
theorem YFr.ok {S S2 : GS} {v : Nat} (h : YFr S S2 v) (hQ : YOK S) : YOK S2 := by
  unfold YOK
  rw [h.1, h.2.1, h.2.2.1]
  exact hQ
/-- the numbers of the other vessels are the same -/
def AFr (A A2 : AV) (v : Nat) : Prop := vn A2 = vn A ∧ ∀ u, u ≠ v → vK A2 u = vK A u ∧ vD A2 u = vD A u ∧ vW A2 u = vW A u ∧ vT A2 u = vT A u ∧ vM A2 u = vM A u ∧ vG A2 u = vG A u ∧ vC A2 u = vC A u
theorem YVes.upd {S S2 : GS} {A A2 : AV} {v : Nat} (hY : YVes S A) (hF : YFr S S2 v) (hA : AFr A A2 v) (hv : v < vn A) (h100 : vn A ≤ 100)
    (h : fI S2 (1000 + v) 0 = nI (vK A2 v) ∧ fI S2 (1000 + v) 2 = nI (vdry A2 v) ∧ fI S2 (1000 + v) 3 = nI (vW A2 v) ∧ fI S2 (1000 + v) 4 = nI (vT A2 v) ∧ fI S2 (1000 + v) 5 = nI (vM A2 v) ∧ fI S2 (1000 + v) 6 = nI (vG A2 v) ∧ fI S2 (1000 + v) 7 = nI (vC A2 v) ∧ ∀ p, p < 60 → aI S2 (2000 + v) p = nI (vD A2 v p)) : YVes S2 A2 := by
  obtain ⟨f1, f2, f3, f4, f5, f6, f7⟩ := hF
  obtain ⟨y1, y2, y3⟩ := hY
  refine ⟨by rw [f6 200 (by omega), hA.1]; exact y1, fun u hu => ?_, fun u hu hu2 => ?_⟩
  · rw [hA.1] at hu
    have hu2 := y2 u hu
    rw [f1, f2, f3]
    refine ⟨hu2.1, ?_⟩
    by_cases e : u = v
    · subst e; exact h
    · obtain ⟨a1, a2, a3, a4, a5, a6, a7⟩ := hA.2 u e
      rw [f6 (1000 + u) (by omega), f7 (2000 + u) (by omega), show vdry A2 u = vdry A u by unfold vdry; rw [a2], a1, a2, a3, a4, a5, a6, a7]
      exact hu2.2
  · rw [hA.1] at hu
    rw [f1]
    exact y3 u hu hu2
/-- pourIn -/
def yPour (S : GS) (v p : Nat) (x y : Int32) : GS := sI (sI (sA S (2000 + v) p (aI S (2000 + v) p + x)) (1000 + v) 2 (fI S (1000 + v) 2 + x)) (1000 + v) 3 (fI S (1000 + v) 3 + y)
theorem yPour_fr {S : GS} {v p : Nat} {x y : Int32} : YFr S (yPour S v p x y) v := (YFr.A.trans YFr.I).trans YFr.I
theorem yPour_2 {S : GS} {v p : Nat} {x y : Int32} : fI (yPour S v p x y) (1000 + v) 2 = fI S (1000 + v) 2 + x := by
  unfold yPour; rw [fI_sI, up2_nk (by decide), fI_sI, up2_at]
theorem yPour_3 {S : GS} {v p : Nat} {x y : Int32} : fI (yPour S v p x y) (1000 + v) 3 = fI S (1000 + v) 3 + y := by
  unfold yPour; rw [fI_sI, up2_at]
theorem yPour_o {S : GS} {v p k : Nat} {x y : Int32} (h2 : k ≠ 2) (h3 : k ≠ 3) : fI (yPour S v p x y) (1000 + v) k = fI S (1000 + v) k := by
  unfold yPour; rw [fI_sI, up2_nk h3, fI_sI, up2_nk h2]; rfl
theorem yPour_a {S : GS} {v p : Nat} {x y : Int32} : aI (yPour S v p x y) (2000 + v) = va_up (aI S (2000 + v)) p (aI S (2000 + v) p + x) := by
  show up2 (aI S) (2000 + v) p (aI S (2000 + v) p + x) (2000 + v) = _
  rw [up2_row1, va_up_self]
def yBuy (S : GS) (v p g b : Nat) : GS := sJ (yPour S v p (nI (g - b)) (nI b)) 200 3 (fJ S 200 3 + lN (g - b))
theorem aBuy_fr {A : AV} {v p g b : Nat} : AFr A (aBuy A v p g b) v := ⟨rfl, fun u hu => ⟨rfl, va_up_ne _ _ hu, va_up_ne _ _ hu, rfl, rfl, rfl, rfl⟩⟩
theorem YVes.buy {S : GS} {A : AV} {v p g b : Nat} (hY : YVes S A) (hv : v < vn A) (h100 : vn A ≤ 100) (hp : p < 60) : YVes (yBuy S v p g b) (aBuy A v p g b) := by
  have h1 : YVes (yPour S v p (nI (g - b)) (nI b)) (aBuy A v p g b) := by
    refine hY.upd yPour_fr aBuy_fr hv h100 ?_
    rw [yPour_2, yPour_3, yPour_o (by decide) (by decide), yPour_o (by decide) (by decide), yPour_o (by decide) (by decide), yPour_o (by decide) (by decide), yPour_o (by decide) (by decide), yPour_a, hY.Y v hv, hY.W v hv, hY.D v hv p hp, nI_add, nI_add, nI_add, aBuy_dry hp v, if_pos rfl]
    refine ⟨hY.K v hv, rfl, ?_, hY.T v hv, hY.M v hv, hY.G v hv, hY.C v hv, fun q hq => ?_⟩
    · show _ = nI (va_up (vW A) v _ v)
      rw [va_up_self]
    · show _ = nI (va_up (vD A) v _ v q)
      rw [va_up_self]
      by_cases e : q = p
      · subst e; rw [va_up_self, va_up_self]
      · rw [va_up_ne _ _ e, va_up_ne _ _ e]; exact hY.D v hv q hq
  exact h1
theorem nf_b {c : Nat} (h : c ≤ 1) : narrow .boolean (.int (nI c)) = .int (nI c) ∧ fits .boolean (.int (nI c)) = true := by
  match c, h with
  | 0, _ => exact ⟨rfl, rfl⟩
  | 1, _ => exact ⟨rfl, rfl⟩
theorem aMark_fr {A : AV} {v c : Nat} : AFr A (aMark A v c) v := ⟨rfl, fun u hu => ⟨rfl, rfl, rfl, rfl, va_up_ne _ _ hu, rfl, rfl⟩⟩
theorem YVes.mark {S : GS} {A : AV} {v c : Nat} (hY : YVes S A) (hv : v < vn A) (h100 : vn A ≤ 100) : YVes (sI S (1000 + v) 5 (nI c)) (aMark A v c) := by
  refine hY.upd YFr.I aMark_fr hv h100 ?_
  rw [fI_sI, up2_nk (by decide), up2_nk (by decide), up2_nk (by decide), up2_nk (by decide), up2_at, up2_nk (by decide), up2_nk (by decide)]
  refine ⟨hY.K v hv, hY.Y v hv, hY.W v hv, hY.T v hv, ?_, hY.G v hv, hY.C v hv, hY.D v hv⟩
  show _ = nI (va_up (vM A) v c v)
  rw [va_up_self]
