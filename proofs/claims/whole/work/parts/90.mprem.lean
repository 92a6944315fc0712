/-! ===== a new premium in the reference ===== -/
theorem MPr.new {S S2 : GS} {A : AV} {R : AR} {s td c q : Nat} {o : Option Nat} {sh : Nat → Nat} (h : MPr S A R) (h2 : fI S2 0 2 = nI (rn R + 1))
    (e28 : ∀ j, j ≠ rn R → aI S2 28 j = aI S 28 j) (n28 : aI S2 28 (rn R) = nI td) (e29 : ∀ j, j ≠ rn R → aI S2 29 j = aI S 29 j) (n29 : aI S2 29 (rn R) = nI c) (e30 : ∀ j, j ≠ rn R → aI S2 30 j = aI S 30 j) (n30 : aI S2 30 (rn R) = nI q) (e31 : ∀ j, j ≠ rn R → aI S2 31 j = aI S 31 j) (n31 : aI S2 31 (rn R) = an o)
    (e32 : ∀ j, j < 20 * rn R → aI S2 32 j = aI S 32 j) (n32 : ∀ m, m < 20 → aI S2 32 (20 * rn R + m) = nI (gmN A s m)) (e33 : ∀ j, j < 20 * rn R → aI S2 33 j = aI S 33 j) (n33 : ∀ m, m < 20 → aI S2 33 (20 * rn R + m) = nI (plN A s m)) (e34 : ∀ j, j < 20 * rn R → aI S2 34 j = aI S 34 j) (n34 : ∀ m, m < 20 → ¬ gmN A s m = 0 → aI S2 34 (20 * rn R + m) = nI (sh m)) : MPr S2 A (aPrm R s td c q o sh) := by
  obtain ⟨h1, h3, h4⟩ := h
  refine ⟨h2, fun x hx => ?_, fun x hx => ?_⟩
  · have hx : x < rn R + 1 := hx
    show aI S2 28 x = nI (va_up (rD R) (rn R) td x) ∧ aI S2 29 x = nI (va_up (rC R) (rn R) c x) ∧ aI S2 30 x = nI (va_up (rG R) (rn R) q x) ∧ aI S2 31 x = an (va_up (rV R) (rn R) o x) ∧ ∀ m, m < 20 → aI S2 32 (20 * x + m) = nI (gmN A (va_up (rS R) (rn R) s x) m) ∧ aI S2 33 (20 * x + m) = nI (plN A (va_up (rS R) (rn R) s x) m)
    by_cases e : x = rn R
    · subst e
      rw [va_up_self, va_up_self, va_up_self, va_up_self, va_up_self]
      exact ⟨n28, n29, n30, n31, fun m hm => ⟨n32 m hm, n33 m hm⟩⟩
    · rw [va_up_ne _ _ e, va_up_ne _ _ e, va_up_ne _ _ e, va_up_ne _ _ e, va_up_ne _ _ e, e28 x e, e29 x e, e30 x e, e31 x e]
      obtain ⟨a1, a2, a3, a4, a5⟩ := h3 x (by omega)
      exact ⟨a1, a2, a3, a4, fun m hm => by rw [e32 _ (by omega), e33 _ (by omega)]; exact a5 m hm⟩
  · have hx : x < rn R + 1 := hx
    show ∀ m, m < 20 → ¬ gmN A (va_up (rS R) (rn R) s x) m = 0 → aI S2 34 (20 * x + m) = nI (va_up (rH R) (rn R) sh x m)
    by_cases e : x = rn R
    · subst e
      rw [va_up_self, va_up_self]
      exact n34
    · rw [va_up_ne _ _ e, va_up_ne _ _ e]
      intro m hm hg
      rw [e34 _ (by omega)]
      exact h4 x (by omega) m hm hg
theorem nI_s0 (a : Nat) : nI a - nI 0 = nI a := by rw [pk_sub (Nat.zero_le a)]; rfl
def pPrm (A : AV) (R : AR) (x y : Int32) : Prop := ((wi_ x 0 ((vn A : Int) - 1) ∧ vK A (tn x) = 3) ∧ vG A (tn x) ≠ 0) ∧ wi_ y 1 1000000 ∧ rn R < 100
/-- the state before the loop over the members -/
def mP1 (S : GS) (n td c q : Nat) (pd : Nat) : GS := sJ (sA (sA (sA (sI S 0 2 (nI (n + 1))) 28 n (nI td)) 29 n (nI c)) 30 n (nI q)) 0 5 (lN (pd + c))
def mP2 (S : GS) (n td c q : Nat) (pd : Nat) (f h : Nat → Int32) : GS := rA (rA (mP1 S n td c q pd) 32 f) 33 h
section
variable (S : GS) (n td c q pd : Nat) (f h : Nat → Int32)
theorem mP2_q : MQf S (mP2 S n td c q pd f h) := (((((MQf.I.trans (MQf.A (by decide))).trans (MQf.A (by decide))).trans (MQf.A (by decide))).trans MQf.J).trans (MQf.r (by decide))).trans (MQf.r (by decide))
theorem mP2_32 (j : Nat) (v : Int32) : sA (mP2 S n td c q pd f h) 32 j v = mP2 S n td c q pd (va_up f j v) h := (sA_rAn (rA (mP1 S n td c q pd) 32 f) (by decide) h j v).trans (congrArg (fun z => rA z 33 h) (sA_rA (mP1 S n td c q pd) 32 f j v))
theorem mP2_33 (j : Nat) (v : Int32) : sA (mP2 S n td c q pd f h) 33 j v = mP2 S n td c q pd f (va_up h j v) := sA_rA (rA (mP1 S n td c q pd) 32 f) 33 h j v
theorem mP2_r28 : aI (mP2 S n td c q pd f h) 28 = va_up (aI S 28) n (nI td) := by
  show va_up (va_up (up2 (up2 (up2 (aI S) 28 n (nI td)) 29 n (nI c)) 30 n (nI q)) 32 f) 33 h 28 = _
  rw [va_up_ne _ _ (by decide), va_up_ne _ _ (by decide), up2_row (by decide), up2_row (by decide), up2_row1, va_up_self]
theorem mP2_r29 : aI (mP2 S n td c q pd f h) 29 = va_up (aI S 29) n (nI c) := by
  show va_up (va_up (up2 (up2 (up2 (aI S) 28 n (nI td)) 29 n (nI c)) 30 n (nI q)) 32 f) 33 h 29 = _
  rw [va_up_ne _ _ (by decide), va_up_ne _ _ (by decide), up2_row (by decide), up2_row1, va_up_self, up2_row (by decide)]
theorem mP2_r30 : aI (mP2 S n td c q pd f h) 30 = va_up (aI S 30) n (nI q) := by
  show va_up (va_up (up2 (up2 (up2 (aI S) 28 n (nI td)) 29 n (nI c)) 30 n (nI q)) 32 f) 33 h 30 = _
  rw [va_up_ne _ _ (by decide), va_up_ne _ _ (by decide), up2_row1, va_up_self, up2_row (by decide), up2_row (by decide)]
theorem mP2_r32 : aI (mP2 S n td c q pd f h) 32 = f := by
  show va_up (va_up (aI (mP1 S n td c q pd)) 32 f) 33 h 32 = _
  rw [va_up_ne _ _ (by decide), va_up_self]
theorem mP2_r33 : aI (mP2 S n td c q pd f h) 33 = h := by
  show va_up (va_up (aI (mP1 S n td c q pd)) 32 f) 33 h 33 = _
  rw [va_up_self]
theorem mP2_o {g : Nat} (hg : g = 31 ∨ g = 34) : aI (mP2 S n td c q pd f h) g = aI S g := by
  show va_up (va_up (up2 (up2 (up2 (aI S) 28 n (nI td)) 29 n (nI c)) 30 n (nI q)) 32 f) 33 h g = _
  rw [va_up_ne _ _ (by omega), va_up_ne _ _ (by omega), up2_row (by omega), up2_row (by omega), up2_row (by omega)]
theorem mP2_n : fI (mP2 S n td c q pd f h) 0 2 = nI (n + 1) := by
  show up2 (fI S) 0 2 (nI (n + 1)) 0 2 = _
  rw [up2_at]
theorem mP2_p : fJ (mP2 S n td c q pd f h) 0 5 = lN (pd + c) := by
  show up2 (fJ S) 0 5 (lN (pd + c)) 0 5 = _
  rw [up2_at]
theorem mP2_L {L : AL} (hL : MLd S L) : MLd (mP2 S n td c q pd f h) L := MLd.r (by decide) (MLd.r (by decide) (MLd.J (MLd.A (by decide) (MLd.A (by decide) (MLd.A (by decide) (MLd.I hL))))))
end
