/-! ===== a day and a cut in the class ===== -/
def aDay1 (A : AV) (su ra v : Nat) : AV := (vn A, vK A, vD A, va_up (vW A) v (dW A su ra v), va_up (vT A) v (dT A v), va_up (vM A) v (dM A v), A.2.2.2.2.2.2)
theorem aDay1_fr {A : AV} {su ra v : Nat} : AFr A (aDay1 A su ra v) v := ⟨rfl, fun u hu => ⟨rfl, rfl, va_up_ne _ _ hu, va_up_ne _ _ hu, va_up_ne _ _ hu, rfl, rfl⟩⟩
theorem YVes.day1 {S S2 : GS} {A : AV} {su ra v : Nat} (hY : YVes S A) (hF : YFr S S2 v) (hv : v < vn A) (h100 : vn A ≤ 100) (ho : ∀ k, k ≠ 3 → k ≠ 4 → k ≠ 5 → fI S2 (1000 + v) k = fI S (1000 + v) k) (ha : aI S2 (2000 + v) = aI S (2000 + v)) (h3 : fI S2 (1000 + v) 3 = nI (dW A su ra v)) (h4 : fI S2 (1000 + v) 4 = nI (dT A v)) (h5 : fI S2 (1000 + v) 5 = nI (dM A v)) : YVes S2 (aDay1 A su ra v) := by
  refine hY.upd hF aDay1_fr hv h100 ?_
  rw [ho 0 (by decide) (by decide) (by decide), ho 2 (by decide) (by decide) (by decide), ho 6 (by decide) (by decide) (by decide), ho 7 (by decide) (by decide) (by decide), h3, h4, h5, ha]
  refine ⟨hY.K v hv, hY.Y v hv, ?_, ?_, ?_, hY.G v hv, hY.C v hv, hY.D v hv⟩
  · show _ = nI (va_up (vW A) v _ v)
    rw [va_up_self]
  · show _ = nI (va_up (vT A) v _ v)
    rw [va_up_self]
  · show _ = nI (va_up (vM A) v _ v)
    rw [va_up_self]
theorem aDay1_N (A : AV) (su ra p : Nat) : aDay1 (aDayN A su ra p) su ra p = aDayN A su ra (p + 1) := by
  have e1 : vW (aDayN A su ra p) p = vW A p := if_neg (Nat.lt_irrefl p)
  have e2 : vT (aDayN A su ra p) p = vT A p := if_neg (Nat.lt_irrefl p)
  have e3 : vM (aDayN A su ra p) p = vM A p := if_neg (Nat.lt_irrefl p)
  have w1 : dW (aDayN A su ra p) su ra p = dW A su ra p := by unfold dW; rw [e1, e3]; rfl
  have w2 : dT (aDayN A su ra p) p = dT A p := by unfold dT; rw [aDayN_wt, e2, e3]; rfl
  have w3 : dM (aDayN A su ra p) p = dM A p := by unfold dM; rw [e3]; rfl
  have key : ∀ (F G : Nat → Nat), va_up (fun v => if v < p then F v else G v) p (F p) = fun v => if v < p + 1 then F v else G v := by
    intro F G
    funext u
    by_cases e : u = p
    · subst e; rw [va_up_self, if_pos (Nat.lt_succ_self u)]
    · rw [va_up_ne _ _ e]
      by_cases c : u < p
      · rw [if_pos c, if_pos (by omega)]
      · rw [if_neg c, if_neg (by omega)]
  show (vn A, vK A, vD A, va_up (fun v => if v < p then dW A su ra v else vW A v) p (dW (aDayN A su ra p) su ra p), va_up (fun v => if v < p then dT A v else vT A v) p (dT (aDayN A su ra p) p), va_up (fun v => if v < p then dM A v else vM A v) p (dM (aDayN A su ra p) p), A.2.2.2.2.2.2) = _
  rw [w1, w2, w3, key, key, key]
  rfl
/-- only vessels' fields have changed -/
def YFrV (S S2 : GS) : Prop := kd S2 = kd S ∧ ln S2 = ln S ∧ rf S2 = rf S ∧ fJ S2 = fJ S ∧ aJ S2 = aJ S ∧ aI S2 = aI S ∧ ∀ g, (g < 1000 ∨ 1100 ≤ g) → fI S2 g = fI S g
theorem YFrV.ok {S S2 : GS} (h : YFrV S S2) (hQ : YOK S) : YOK S2 := by
  unfold YOK
  rw [h.1, h.2.1, h.2.2.1]
  exact hQ
theorem YFrV.add {S S2 S3 : GS} {v : Nat} (h : YFrV S S2) (h2 : YFr S2 S3 v) (ha : aI S3 = aI S2) (hv : v < 100) : YFrV S S3 :=
  ⟨h2.1.trans h.1, h2.2.1.trans h.2.1, h2.2.2.1.trans h.2.2.1, h2.2.2.2.1.trans h.2.2.2.1, h2.2.2.2.2.1.trans h.2.2.2.2.1, ha.trans h.2.2.2.2.2.1, fun g hg => (h2.2.2.2.2.2.1 g (by omega)).trans (h.2.2.2.2.2.2 g hg)⟩
def yCut (S : GS) (v c g : Nat) : GS := sI (sI S (1000 + v) 7 (nI (c + 1))) (1000 + v) 6 (nI g)
theorem aCut_fr {A : AV} {v g : Nat} : AFr A (aCut A v g) v := ⟨rfl, fun u hu => ⟨rfl, rfl, rfl, rfl, rfl, va_up_ne _ _ hu, va_up_ne _ _ hu⟩⟩
theorem YVes.cut {S : GS} {A : AV} {v g : Nat} (hY : YVes S A) (hv : v < vn A) (h100 : vn A ≤ 100) : YVes (yCut S v (vC A v) g) (aCut A v g) := by
  refine hY.upd (YFr.I.trans YFr.I) aCut_fr hv h100 ?_
  unfold yCut
  rw [fI_sI, up2_nk (by decide), up2_nk (by decide), up2_nk (by decide), up2_nk (by decide), up2_nk (by decide), up2_at, up2_nk (by decide), fI_sI, up2_nk (by decide), up2_nk (by decide), up2_nk (by decide), up2_nk (by decide), up2_nk (by decide), up2_at]
  refine ⟨hY.K v hv, hY.Y v hv, hY.W v hv, hY.T v hv, hY.M v hv, ?_, ?_, hY.D v hv⟩
  · show _ = nI (va_up (vG A) v g v)
    rw [va_up_self]
  · show _ = nI (va_up (vC A) v (vC A v + 1) v)
    rw [va_up_self]
