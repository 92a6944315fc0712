/-! ===== a new premium in the class ===== -/
def yPi (S : GS) (x s q c td : Nat) : GS := sI (sR (sN (sI (sI (sI (sR S (6000 + x) 0 (some (1000 + s))) (6000 + x) 1 (nI q)) (6000 + x) 2 (nI c)) (6000 + x) 3 (nI td)) (7000 + x) 21 20) (6000 + x) 4 (some (7000 + x))) (6000 + x) 5 (-1)
def yA1 (S : GS) (x s q c td pd : Nat) : GS := sJ (sR (yPi (sN S (6000 + x) 4 0) x s q c td) 213 x (some (6000 + x))) 212 5 (lN (pd + c))
def dA1 (x g : Nat) : Prop := g = 6000 + x ∨ g = 7000 + x ∨ g = 213 ∨ g = 212
theorem yPi_sm (S : GS) (x s q c td : Nat) : YSm (fun g => g = 6000 + x ∨ g = 7000 + x) S (yPi S x s q c td) := ((((((YSm.R (Or.inl rfl)).trans (YSm.I (Or.inl rfl))).trans (YSm.I (Or.inl rfl))).trans (YSm.I (Or.inl rfl))).trans (YSm.N (Or.inr rfl))).trans (YSm.R (Or.inl rfl))).trans (YSm.I (Or.inl rfl))
theorem yA1_sm (S : GS) (x s q c td pd : Nat) : YSm (dA1 x) S (yA1 S x s q c td pd) := (((YSm.N (Or.inl rfl)).trans ((yPi_sm _ x s q c td).mono (fun g hg => by unfold dA1; omega))).trans (YSm.R (Or.inr (Or.inr (Or.inl rfl))))).trans (YSm.J (Or.inr (Or.inr (Or.inr rfl))))
section
variable (S : GS) (x s q c td pd : Nat)
theorem yA1_k6 : kd (yA1 S x s q c td pd) (6000 + x) = 3 + 1 := by
  show va_up (va_up (kd S) (6000 + x) 4) (7000 + x) 21 (6000 + x) = _
  rw [va_up_ne _ _ (by omega), va_up_self]
theorem yA1_k7 : kd (yA1 S x s q c td pd) (7000 + x) = 21 := va_up_self (va_up (kd S) (6000 + x) 4) (7000 + x) 21
theorem yA1_l7 : ln (yA1 S x s q c td pd) (7000 + x) = 20 := va_up_self (va_up (ln S) (6000 + x) 0) (7000 + x) 20
theorem yA1_r13 : rf (yA1 S x s q c td pd) 213 x = some (6000 + x) := up2_at (f := rf (yPi (sN S (6000 + x) 4 0) x s q c td)) (g := 213) (k := x) (v := some (6000 + x))
theorem yA1_r13n {k : Nat} (h : k ≠ x) : rf (yA1 S x s q c td pd) 213 k = rf S 213 k := by
  show up2 (rf (yPi (sN S (6000 + x) 4 0) x s q c td)) 213 x (some (6000 + x)) 213 k = _
  rw [up2_nk h, (yPi_sm _ x s q c td).rf (by omega), sN_rr (by omega)]
theorem yA1_r0 : rf (yA1 S x s q c td pd) (6000 + x) 0 = some (1000 + s) := by
  show up2 (up2 (va_up (up2 (va_up (rf S) (6000 + x) (fun _ => none)) (6000 + x) 0 (some (1000 + s))) (7000 + x) (fun _ => none)) (6000 + x) 4 (some (7000 + x))) 213 x (some (6000 + x)) (6000 + x) 0 = _
  rw [up2_ne (by omega), up2_nk (by decide), va_up_ne _ _ (by omega), up2_at]
theorem yA1_r4 : rf (yA1 S x s q c td pd) (6000 + x) 4 = some (7000 + x) := by
  show up2 (up2 (va_up (up2 (va_up (rf S) (6000 + x) (fun _ => none)) (6000 + x) 0 (some (1000 + s))) (7000 + x) (fun _ => none)) (6000 + x) 4 (some (7000 + x))) 213 x (some (6000 + x)) (6000 + x) 4 = _
  rw [up2_ne (by omega), up2_at]
theorem yA1_f (k : Nat) : fI (yA1 S x s q c td pd) (6000 + x) k = if k = 5 then -1 else if k = 3 then nI td else if k = 2 then nI c else if k = 1 then nI q else 0 := by
  show up2 (va_up (up2 (up2 (up2 (va_up (fI S) (6000 + x) (fun _ => 0)) (6000 + x) 1 (nI q)) (6000 + x) 2 (nI c)) (6000 + x) 3 (nI td)) (7000 + x) (fun _ => 0)) (6000 + x) 5 (-1) (6000 + x) k = _
  rw [up2_self, va_up_ne _ _ (by omega), up2_self, up2_self, up2_self, va_up_self]
theorem yA1_a (m : Nat) : aI (yA1 S x s q c td pd) (7000 + x) m = nI 0 := by
  show va_up (va_up (aI S) (6000 + x) (fun _ => 0)) (7000 + x) (fun _ => 0) (7000 + x) m = _
  rw [va_up_self]
  rfl
theorem yA1_j : fJ (yA1 S x s q c td pd) 212 5 = lN (pd + c) := up2_at (f := fJ (sR (yPi (sN S (6000 + x) 4 0) x s q c td) 213 x (some (6000 + x)))) (g := 212) (k := 5) (v := lN (pd + c))
theorem yA1_s : fI (yA1 S x s q c td pd) 212 = fI S 212 := (yPi_sm (sN S (6000 + x) 4 0) x s q c td).fI (by omega) |>.trans (sN_fI (by omega))
end
theorem yA1_ok {S : GS} {x s q c td pd : Nat} (hQ : YOK S) : YOK (yA1 S x s q c td pd) := by
  have h1 : YOK (sR (sN S (6000 + x) 4 0) (6000 + x) 0 (some (1000 + s))) := YOK.sR (Or.inl (by omega)) (hQ.sN (by omega))
  have h2 : YOK (sN (sI (sI (sI (sR (sN S (6000 + x) 4 0) (6000 + x) 0 (some (1000 + s))) (6000 + x) 1 (nI q)) (6000 + x) 2 (nI c)) (6000 + x) 3 (nI td)) (7000 + x) 21 20) := YOK.sN (S := sI (sI (sI (sR (sN S (6000 + x) 4 0) (6000 + x) 0 (some (1000 + s))) (6000 + x) 1 (nI q)) (6000 + x) 2 (nI c)) (6000 + x) 3 (nI td)) (by omega) h1
  have h3 : YOK (yPi (sN S (6000 + x) 4 0) x s q c td) := YOK.sR (S := sN (sI (sI (sI (sR (sN S (6000 + x) 4 0) (6000 + x) 0 (some (1000 + s))) (6000 + x) 1 (nI q)) (6000 + x) 2 (nI c)) (6000 + x) 3 (nI td)) (7000 + x) 21 20) (g := 6000 + x) (k := 4) (v := some (7000 + x)) (Or.inl (by omega)) h2
  exact YOK.sR (S := yPi (sN S (6000 + x) 4 0) x s q c td) (g := 213) (k := x) (v := some (6000 + x)) (Or.inr (Or.inr rfl)) h3
def dYQ (g : Nat) : Prop := (209 ≤ g ∧ g ≤ 214) ∨ g = 216 ∨ g = 217 ∨ dLed g ∨ (6000 ≤ g ∧ g < 6100) ∨ (7000 ≤ g ∧ g < 7100)
def YQf (S S2 : GS) : Prop := YSm dYQ S S2 ∧ (YOK S → YOK S2)
theorem YQf.rfl' (S : GS) : YQf S S := ⟨YSm.rfl' _ S, fun h => h⟩
theorem YQf.trans {S S2 S3 : GS} (h : YQf S S2) (h2 : YQf S2 S3) : YQf S S3 := ⟨h.1.trans h2.1, fun q => h2.2 (h.2 q)⟩
theorem YSf.q {S S2 : GS} {x : Nat} (hx : x < 100) (h : YSf S S2 x) : YQf S S2 := ⟨h.1.mono (fun g hg => by unfold dSet dLed at hg; unfold dYQ dLed; omega), h.2.1⟩
theorem yA1_q {S : GS} {x s q c td pd : Nat} (hx : x < 100) : YQf S (yA1 S x s q c td pd) := ⟨(yA1_sm S x s q c td pd).mono (fun g hg => by unfold dA1 at hg; unfold dYQ; omega), yA1_ok⟩
theorem YPx.sm {S S2 : GS} {R : AR} {x : Nat} (h1 : rf S2 213 x = rf S 213 x) (h6 : kd S2 (6000 + x) = kd S (6000 + x) ∧ rf S2 (6000 + x) = rf S (6000 + x) ∧ ∀ k, k ≠ 5 → fI S2 (6000 + x) k = fI S (6000 + x) k) (h7 : kd S2 (7000 + x) = kd S (7000 + x) ∧ ln S2 (7000 + x) = ln S (7000 + x)) (h : YPx S R x) : YPx S2 R x := by
  unfold YPx
  rw [h1, h6.1, h6.2.1, h7.1, h7.2, h6.2.2 1 (by decide), h6.2.2 2 (by decide), h6.2.2 3 (by decide)]
  exact h
theorem YPv.sm {S S2 : GS} {R : AR} {x : Nat} (h6 : fI S2 (6000 + x) = fI S (6000 + x)) (h7 : aI S2 (7000 + x) = aI S (7000 + x)) (h : YPv S R x) : YPv S2 R x := by
  unfold YPv
  rw [h6, h7]
  exact h
theorem yPr_new {S S5 : GS} {R : AR} {s q c td pd : Nat} {o : Option Nat} {sh : Nat → Nat} (h : YPr S R) (hn : rn R < 100) (j4 : YSf (yA1 S (rn R) s q c td pd) S5 (rn R)) (j2 : fI S5 (6000 + rn R) 5 = an o) (j3 : ∀ m, m < 20 → aI S5 (7000 + rn R) m = nI (sh m)) : YPr (sI S5 212 4 (nI (rn R + 1))) (aPrm R s td c q o sh) := by
  obtain ⟨h1, h2, h3⟩ := h
  have sa := yA1_sm S (rn R) s q c td pd
  have e213 : rf S5 213 = rf (yA1 S (rn R) s q c td pd) 213 := j4.1.rf (by unfold dSet dLed; omega)
  have eI : ∀ g, g ≠ 212 → fI (sI S5 212 4 (nI (rn R + 1))) g = fI S5 g := fun g hg => up2_row hg
  refine ⟨?_, fun x hx => ?_, fun x hx hx2 => ?_⟩
  · show up2 (fI S5) 212 4 (nI (rn R + 1)) 212 4 = _
    rw [up2_at]; rfl
  · have hx : x < rn R + 1 := hx
    by_cases e : x = rn R
    · subst e
      constructor
      · show (rf S5 213 (rn R) = some (6000 + rn R) ∧ kd S5 (6000 + rn R) = 4 ∧ rf S5 (6000 + rn R) 0 = some (1000 + va_up (rS R) (rn R) s (rn R)) ∧ rf S5 (6000 + rn R) 4 = some (7000 + rn R) ∧ kd S5 (7000 + rn R) = 21 ∧ ln S5 (7000 + rn R) = 20) ∧ fI (sI S5 212 4 (nI (rn R + 1))) (6000 + rn R) 1 = nI (va_up (rG R) (rn R) q (rn R)) ∧ fI (sI S5 212 4 (nI (rn R + 1))) (6000 + rn R) 2 = nI (va_up (rC R) (rn R) c (rn R)) ∧ fI (sI S5 212 4 (nI (rn R + 1))) (6000 + rn R) 3 = nI (va_up (rD R) (rn R) td (rn R))
        rw [va_up_self, va_up_self, va_up_self, va_up_self, eI _ (by omega), e213, j4.2.2.1.1, j4.2.2.1.2.1, j4.2.2.2.1, j4.2.2.2.2, j4.2.2.1.2.2 1 (by decide), j4.2.2.1.2.2 2 (by decide), j4.2.2.1.2.2 3 (by decide), yA1_f, yA1_f, yA1_f]
        exact ⟨⟨yA1_r13 .., yA1_k6 .., yA1_r0 .., yA1_r4 .., yA1_k7 .., yA1_l7 ..⟩, rfl, rfl, rfl⟩
      · show fI (sI S5 212 4 (nI (rn R + 1))) (6000 + rn R) 5 = an (va_up (rV R) (rn R) o (rn R)) ∧ ∀ m, m < 20 → aI S5 (7000 + rn R) m = nI (va_up (rH R) (rn R) sh (rn R) m)
        rw [va_up_self, va_up_self, eI _ (by omega)]
        exact ⟨j2, j3⟩
    · obtain ⟨a1, a2⟩ := h2 x (by omega)
      have d6 : ¬ dSet (rn R) (6000 + x) := by unfold dSet dLed; omega
      have d7 : ¬ dSet (rn R) (7000 + x) := by unfold dSet dLed; omega
      have c6 : ¬ dA1 (rn R) (6000 + x) := by unfold dA1; omega
      have c7 : ¬ dA1 (rn R) (7000 + x) := by unfold dA1; omega
      constructor
      · have k := YPx.sm (S := S) (S2 := sI S5 212 4 (nI (rn R + 1))) (by show rf S5 213 x = _; rw [e213, yA1_r13n _ _ _ _ _ _ _ e]) ⟨(j4.1.kd d6).trans (sa.kd c6), (j4.1.rf d6).trans (sa.rf c6), fun k _ => by rw [eI _ (by omega), j4.1.fI d6, sa.fI c6]⟩ ⟨(j4.1.kd d7).trans (sa.kd c7), (j4.1.ln d7).trans (sa.ln c7)⟩ a1
        unfold YPx at k ⊢
        show _ ∧ _ = nI (va_up (rG R) (rn R) q x) ∧ _ = nI (va_up (rC R) (rn R) c x) ∧ _ = nI (va_up (rD R) (rn R) td x)
        rw [va_up_ne _ _ e, va_up_ne _ _ e, va_up_ne _ _ e, show rS (aPrm R s td c q o sh) x = rS R x from va_up_ne _ _ e]
        exact k
      · have k := YPv.sm (S := S) (S2 := sI S5 212 4 (nI (rn R + 1))) (by rw [eI _ (by omega), j4.1.fI d6, sa.fI c6]) ((j4.1.aI d7).trans (sa.aI c7)) a2
        unfold YPv at k ⊢
        rw [show rV (aPrm R s td c q o sh) x = rV R x from va_up_ne _ _ e, show rH (aPrm R s td c q o sh) x = rH R x from va_up_ne _ _ e]
        exact k
  · have hx : rn R + 1 ≤ x := hx
    obtain ⟨a1, a2⟩ := h3 x (by omega) hx2
    exact ⟨(j4.1.kd (by unfold dSet dLed; omega)).trans ((sa.kd (by unfold dA1; omega)).trans a1), (j4.1.kd (by unfold dSet dLed; omega)).trans ((sa.kd (by unfold dA1; omega)).trans a2)⟩
