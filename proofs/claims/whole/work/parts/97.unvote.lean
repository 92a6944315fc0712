/-! ===== a vote taken back ===== -/
def aUnv (B : AB) (v : Nat) : AB := (bn B, bF B, va_up (bG B) v 1, bT B)
theorem BOK.unv {B : AB} {v : Nat} (h : BOK B) : BOK (aUnv B v) := by
  refine ⟨h.1, fun u hu => ?_⟩
  have h1 := h.2 u hu
  refine ⟨h1.1, ?_, h1.2.2⟩
  show va_up (bG B) v 1 u ≤ 1
  by_cases e : u = v
  · rw [e, va_up_self]; exact Nat.le_refl _
  · rw [va_up_ne _ _ e]; exact h1.2.1
theorem MVo.unv {S : GS} {B : AB} {v : Nat} (h : MVo S B) : MVo (sA S 23 v 1) (aUnv B v) := by
  refine ⟨h.1, fun u hu => ?_⟩
  obtain ⟨a1, a2, a3⟩ := h.2 u hu
  have e1 : aI (sA S 23 v 1) 21 = aI S 21 := by rw [aI_sA, up2_row (by decide)]
  have e2 : aI (sA S 23 v 1) 22 = aI S 22 := by rw [aI_sA, up2_row (by decide)]
  refine ⟨by rw [e2]; exact a1, ?_, by rw [e1]; exact a3⟩
  show up2 (aI S) 23 v 1 23 u = nI (va_up (bG B) v 1 u)
  by_cases e : u = v
  · subst e; rw [up2_at, va_up_self]; rfl
  · rw [up2_nk e, va_up_ne _ _ e]; exact a2
theorem YVo.unv {S : GS} {B : AB} {v : Nat} (h : YVo S B) (hv : v < bn B) (hn : bn B ≤ 50) : YVo (sI S (3000 + v) 2 1) (aUnv B v) := by
  obtain ⟨y1, y2, y3⟩ := h
  refine ⟨?_, fun u hu => ?_, y3⟩
  · show up2 (fI S) (3000 + v) 2 1 207 2 = _
    rw [up2_ne (by omega)]; exact y1
  · obtain ⟨a1, a2, a3, a4, a5⟩ := y2 u hu
    refine ⟨a1, ?_, ?_, ?_, a5⟩
    · show up2 (fI S) (3000 + v) 2 1 (3000 + u) 0 = _
      rw [up2_nk (by decide)]; exact a2
    · show up2 (fI S) (3000 + v) 2 1 (3000 + u) 2 = nI (va_up (bG B) v 1 u)
      by_cases e : u = v
      · subst e; rw [up2_at, va_up_self]; rfl
      · rw [up2_ne (by omega), va_up_ne _ _ e]; exact a3
    · show up2 (fI S) (3000 + v) 2 1 (4000 + u) 1 = _
      have hu : u < bn B := hu
      rw [up2_ne (by omega)]; exact a4
theorem ROK.unv {R : AR} {A : AV} {B : AB} {t v : Nat} (h : ROK R A B t) : ROK R A (aUnv B v) t := h
/-- parting anew, premium by premium -/
def shq (A : AV) (B : AB) (R : AR) (x : Nat) : Nat → Nat := shr A B (rS R x) (rG R x) (inF B (rD R x)) (rC R x)
def ufd (A : AV) (B : AB) (v td : Nat) (L : AL) (R : AR) : Nat → AL × AR
  | 0 => (L, R)
  | x + 1 => if rV R x = some v then (lfd (gmN A (rS R x)) (shq A B R x) (rH R x) 0 td x (ufd A B v td L R x).1 20, rSet (ufd A B v td L R x).2 x (inF B (rD R x)) (shq A B R x)) else ufd A B v td L R x
section
variable {A : AV} {B : AB} {v td : Nat} {L : AL} {R : AR}
theorem ufd_1 {x : Nat} (h : rV R x = some v) : ufd A B v td L R (x + 1) = (lfd (gmN A (rS R x)) (shq A B R x) (rH R x) 0 td x (ufd A B v td L R x).1 20, rSet (ufd A B v td L R x).2 x (inF B (rD R x)) (shq A B R x)) := if_pos h
theorem ufd_0 {x : Nat} (h : ¬ rV R x = some v) : ufd A B v td L R (x + 1) = ufd A B v td L R x := if_neg h
theorem ufd_en (x : Nat) : en L ≤ en (ufd A B v td L R x).1 ∧ en (ufd A B v td L R x).1 ≤ en L + 20 * x := by
  induction x with
  | zero => exact ⟨Nat.le_refl _, Nat.le_refl _⟩
  | succ x ih =>
    by_cases e : rV R x = some v
    · rw [ufd_1 e]
      have := lfd_le (g := gmN A (rS R x)) (sh := shq A B R x) (h := rH R x) (fi := 0) (td := td) (x := x) (L := (ufd A B v td L R x).1) 20
      show en L ≤ en (lfd _ _ _ _ _ _ _ 20) ∧ en (lfd _ _ _ _ _ _ _ 20) ≤ _
      omega
    · rw [ufd_0 e]
      omega
theorem ufd_mono {x y : Nat} (h : x ≤ y) : en (ufd A B v td L R x).1 ≤ en (ufd A B v td L R y).1 := by
  induction y with
  | zero => rw [show x = 0 by omega]; exact Nat.le_refl _
  | succ y ih =>
    by_cases e : x = y + 1
    · rw [e]; exact Nat.le_refl _
    · have h1 := ih (by omega)
      by_cases e2 : rV R y = some v
      · rw [ufd_1 e2]
        have := (lfd_le (g := gmN A (rS R y)) (sh := shq A B R y) (h := rH R y) (fi := 0) (td := td) (x := y) (L := (ufd A B v td L R y).1) 20).1
        exact Nat.le_trans h1 this
      · rw [ufd_0 e2]; exact h1
theorem ufd_R (x : Nat) : rn (ufd A B v td L R x).2 = rn R ∧ rS (ufd A B v td L R x).2 = rS R ∧ rD (ufd A B v td L R x).2 = rD R ∧ rC (ufd A B v td L R x).2 = rC R ∧ rG (ufd A B v td L R x).2 = rG R ∧ ∀ y, x ≤ y → rV (ufd A B v td L R x).2 y = rV R y ∧ rH (ufd A B v td L R x).2 y = rH R y := by
  induction x with
  | zero => exact ⟨rfl, rfl, rfl, rfl, rfl, fun _ _ => ⟨rfl, rfl⟩⟩
  | succ x ih =>
    obtain ⟨a1, a2, a3, a4, a5, a6⟩ := ih
    by_cases e : rV R x = some v
    · rw [ufd_1 e]
      refine ⟨a1, a2, a3, a4, a5, fun y hy => ?_⟩
      show va_up (rV (ufd A B v td L R x).2) x _ y = _ ∧ va_up (rH (ufd A B v td L R x).2) x _ y = _
      rw [va_up_ne _ _ (by omega), va_up_ne _ _ (by omega)]
      exact a6 y (by omega)
    · rw [ufd_0 e]
      exact ⟨a1, a2, a3, a4, a5, fun y hy => a6 y (by omega)⟩
end
theorem ROK.vd {R : AR} {A : AV} {B : AB} {t x : Nat} (h : ROK R A B t) (hO : VOK A t) (hx : x < rn R) : 0 < vdry A (rS R x) := by
  obtain ⟨a1, a2, -⟩ := h.2 x hx
  have h3 := (hO.2.2.1 _ a1).2.2.2.2.2.2.2.2.2.2 a2
  have := h3.2.1
  omega
theorem ROK.set {R : AR} {A : AV} {B : AB} {t x : Nat} {o : Option Nat} {sh : Nat → Nat} (h : ROK R A B t) (ho : ∀ v, o = some v → v < bn B) (hs : ∀ m, m < 20 → sh m ≤ 1000000 ∧ (gmN A (rS R x) m = 0 → sh m = 0)) : ROK (rSet R x o sh) A B t := by
  refine ⟨h.1, fun y hy => ?_⟩
  obtain ⟨a1, a2, a3, a4, a5, a6, a7, a8⟩ := h.2 y hy
  refine ⟨a1, a2, a3, a4, a5, a6, ?_, ?_⟩
  · show ∀ v, va_up (rV R) x o y = some v → v < bn B
    by_cases e : y = x
    · subst e; rw [va_up_self]; exact ho
    · rw [va_up_ne _ _ e]; exact a7
  · show ∀ m, m < 20 → va_up (rH R) x sh y m ≤ 1000000 ∧ (gmN A (rS R y) m = 0 → va_up (rH R) x sh y m = 0)
    by_cases e : y = x
    · subst e; rw [va_up_self]; exact hs
    · rw [va_up_ne _ _ e]; exact a8
theorem ROK.ufd {R : AR} {A : AV} {B : AB} {t v td : Nat} {L : AL} (h : ROK R A B t) (hO : VOK A t) (x : Nat) (hx : x ≤ rn R) : ROK (ufd A B v td L R x).2 A B t := by
  induction x with
  | zero => exact h
  | succ x ih =>
    by_cases e : rV R x = some v
    · rw [ufd_1 e]
      have h1 := ih (by omega)
      have hv := h.vd hO (show x < rn R by omega)
      obtain ⟨a1, a2, a3, a4, a5, a6, a7, a8⟩ := h.2 x (by omega)
      refine h1.set cy_inF (fun m hm => ⟨Nat.le_trans (shr_le hv hm) a5, fun h0 => ?_⟩)
      rw [(ufd_R x).2.1] at h0
      exact shr_0 hv hm h0
    · rw [ufd_0 e]; exact ih (by omega)
theorem an_eq {o : Option Nat} {v : Nat} (hv : v < 2 ^ 31) (ho : ∀ u, o = some u → u < 2 ^ 31) : an o = nI v ↔ o = some v := by
  cases o with
  | none =>
    constructor
    · intro h; exact absurd h.symm (nIm1 hv)
    · intro h; cases h
  | some u =>
    show nI u = nI v ↔ some u = some v
    rw [nI_eq (ho u rfl) hv]
    constructor
    · intro h; rw [h]
    · intro h; exact Option.some.inj h
theorem nI_back (a b : Int32) : a + (b - a) = b := by
  rw [Int32.sub_eq_add_neg, ← Int32.add_assoc, Int32.add_comm a b, Int32.add_assoc, Int32.add_right_neg, Int32.add_zero]
/-- the reference, premium x parted anew -/
theorem MPx.set {S S2 : GS} {A : AV} {R : AR} {x y : Nat} {o : Option Nat} {sh : Nat → Nat} (hp : MPf S S2 x o) (h : MPx S A R y) : MPx S2 A (rSet R x o sh) y := by
  obtain ⟨-, -, -, -, -, h6, h7, -⟩ := hp
  obtain ⟨a1, a2, a3, a4, a5⟩ := h
  refine ⟨by rw [h6 28 (by decide) (by decide) (by decide)]; exact a1, by rw [h6 29 (by decide) (by decide) (by decide)]; exact a2, by rw [h6 30 (by decide) (by decide) (by decide)]; exact a3, ?_, fun m hm => ?_⟩
  · show _ = an (va_up (rV R) x o y)
    rw [h7]
    by_cases e : y = x
    · subst e; rw [va_up_self, va_up_self]
    · rw [va_up_ne _ _ e, va_up_ne _ _ e]; exact a4
  · rw [h6 32 (by decide) (by decide) (by decide), h6 33 (by decide) (by decide) (by decide)]; exact a5 m hm
theorem YPr.set {S S2 : GS} {R : AR} {x : Nat} {o : Option Nat} {sh : Nat → Nat} (h : YPr S R) (hn : rn R ≤ 100) (hx : x < rn R) (j4 : YSf S S2 x) (j2 : fI S2 (6000 + x) 5 = an o) (j3 : ∀ m, m < 20 → aI S2 (7000 + x) m = nI (sh m)) : YPr S2 (rSet R x o sh) := by
  obtain ⟨h1, h2, h3⟩ := h
  refine ⟨?_, fun y hy => ?_, fun y hy hy2 => ?_⟩
  · rw [j4.1.fI (g := 212) (by unfold dSet dLed; omega)]; exact h1
  · have hy : y < rn R := hy
    obtain ⟨a1, a2⟩ := h2 y hy
    have e213 : rf S2 213 = rf S 213 := j4.1.rf (by unfold dSet dLed; omega)
    by_cases e : y = x
    · subst e
      refine ⟨YPx.sm (by rw [e213]) j4.2.2.1 j4.2.2.2 a1, ?_⟩
      show fI S2 (6000 + y) 5 = an (va_up (rV R) y o y) ∧ ∀ m, m < 20 → aI S2 (7000 + y) m = nI (va_up (rH R) y sh y m)
      rw [va_up_self, va_up_self]
      exact ⟨j2, j3⟩
    · have d6 : ¬ dSet x (6000 + y) := by unfold dSet dLed; omega
      have d7 : ¬ dSet x (7000 + y) := by unfold dSet dLed; omega
      refine ⟨YPx.sm (by rw [e213]) ⟨j4.1.kd d6, j4.1.rf d6, fun k _ => by rw [j4.1.fI d6]⟩ ⟨j4.1.kd d7, j4.1.ln d7⟩ a1, ?_⟩
      have k := YPv.sm (S := S) (S2 := S2) (j4.1.fI d6) (j4.1.aI d7) a2
      unfold YPv at k ⊢
      rw [show rV (rSet R x o sh) y = rV R y from va_up_ne _ _ e, show rH (rSet R x o sh) y = rH R y from va_up_ne _ _ e]
      exact k
  · have hy : rn R ≤ y := hy
    obtain ⟨a1, a2⟩ := h3 y hy hy2
    exact ⟨(j4.1.kd (by unfold dSet dLed; omega)).trans a1, (j4.1.kd (by unfold dSet dLed; omega)).trans a2⟩
theorem YPr.fr {D : Nat → Prop} {S S2 : GS} {R : AR} (h : YSm D S S2) (h1 : ¬ D 212) (h2 : ¬ D 213) (hd : ∀ g, 6000 ≤ g → ¬ D g) (hR : YPr S R) : YPr S2 R := by
  obtain ⟨a1, a2, a3⟩ := hR
  refine ⟨by rw [h.fI h1]; exact a1, fun x hx => ?_, fun x hx hx2 => ?_⟩
  · have d6 := hd (6000 + x) (by omega)
    have d7 := hd (7000 + x) (by omega)
    obtain ⟨b1, b2⟩ := a2 x hx
    exact ⟨YPx.sm (by rw [h.rf h2]) ⟨h.kd d6, h.rf d6, fun k _ => by rw [h.fI d6]⟩ ⟨h.kd d7, h.ln d7⟩ b1, YPv.sm (h.fI d6) (h.aI d7) b2⟩
  · rw [h.kd (hd (6000 + x) (by omega)), h.kd (hd (7000 + x) (by omega))]
    exact a3 x hx hx2
theorem yPr_I {S : GS} {R : AR} {v : Nat} (hv : v < 50) (hR : YPr S R) : YPr (sI S (3000 + v) 2 1) R := hR.fr (D := fun g => g = 3000 + v) (YSm.I rfl) (by omega) (by omega) (fun g hg => by omega)
