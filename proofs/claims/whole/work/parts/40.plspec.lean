/-! ===== the plan: how many jobs; their first and last days; the days' places ===== -/
abbrev AP : Type := Nat × (Nat → Nat) × (Nat → Nat) × (Nat → Nat)
def jn (B : AP) : Nat := B.1
def jF (B : AP) : Nat → Nat := B.2.1
def jL (B : AP) : Nat → Nat := B.2.2.1
def jP (B : AP) : Nat → Nat := B.2.2.2
def POKa (B : AP) : Prop := jn B ≤ 60 ∧ (∀ j, j < jn B → jF B j ≤ jL B j ∧ jL B j < 60) ∧ ∀ d, d < 60 → jP B d ≤ 9
def MPl (S : GS) (B : AP) : Prop := fI S 0 45 = nI (jn B) ∧ (∀ j, j < jn B → aI S 41 j = nI (jF B j) ∧ aI S 42 j = nI (jL B j)) ∧ ∀ d, d < 60 → aI S 44 d = nI (jP B d)
def YPl (S : GS) (B : AP) : Prop := fI S 221 5 = nI (jn B) ∧ (∀ j, j < jn B → aI S 222 j = nI (jF B j) ∧ aI S 223 j = nI (jL B j)) ∧ ∀ d, d < 60 → aI S 225 d = nI (jP B d)
def pJob (B : AP) (f l : Int32) : Prop := (wi_ f 0 59 ∧ wi_ l 0 59 ∧ tn f ≤ tn l) ∧ jn B < 60
def aJob (B : AP) (f l : Nat) : AP := (jn B + 1, va_up (jF B) (jn B) f, va_up (jL B) (jn B) l, jP B)
def pPlaces (x y : Int32) : Prop := wi_ x 0 59 ∧ wi_ y 0 9
def aPlaces (B : AP) (x n : Nat) : AP := (jn B, jF B, jL B, va_up (jP B) x n)
def aClear (B : AP) : AP := (0, jF B, jL B, jP B)
def mJob (S : GS) (B : AP) (f l : Int32) : GS := sI (sA (sA S 41 (jn B) f) 42 (jn B) l) 0 45 (nI (jn B + 1))
def yJob (S : GS) (B : AP) (f l : Int32) : GS := sI (sA (sA S 222 (jn B) f) 223 (jn B) l) 221 5 (nI (jn B + 1))
theorem POKa.job {B : AP} {f l : Nat} (h : POKa B) (hf : f ≤ l) (hl : l < 60) (hn : jn B < 60) : POKa (aJob B f l) := by
  obtain ⟨h1, h2, h3⟩ := h
  refine ⟨by show jn B + 1 ≤ 60; omega, fun j hj => ?_, h3⟩
  have hj : j < jn B + 1 := hj
  show va_up (jF B) (jn B) f j ≤ va_up (jL B) (jn B) l j ∧ va_up (jL B) (jn B) l j < 60
  by_cases e : j = jn B
  · rw [e, va_up_self, va_up_self]; exact ⟨hf, hl⟩
  · rw [va_up_ne _ _ e, va_up_ne _ _ e]; exact h2 j (by omega)
theorem POKa.places {B : AP} {x n : Nat} (h : POKa B) (hn : n ≤ 9) : POKa (aPlaces B x n) := by
  refine ⟨h.1, h.2.1, fun d hd => ?_⟩
  show va_up (jP B) x n d ≤ 9
  by_cases e : d = x
  · rw [e, va_up_self]; exact hn
  · rw [va_up_ne _ _ e]; exact h.2.2 d hd
theorem POKa.clear {B : AP} (h : POKa B) : POKa (aClear B) := ⟨Nat.zero_le _, fun j hj => absurd hj (Nat.not_lt_zero j), h.2.2⟩
theorem MPl.job {S : GS} {B : AP} {f l : Nat} (h : MPl S B) : MPl (mJob S B (nI f) (nI l)) (aJob B f l) := by
  obtain ⟨h1, h2, h3⟩ := h
  refine ⟨by unfold mJob; rw [fI_sI, up2_at]; rfl, fun j hj => ?_, h3⟩
  have hj : j < jn B + 1 := hj
  constructor
  · show up2 (aI S) 41 (jn B) (nI f) 41 j = nI (va_up (jF B) (jn B) f j)
    by_cases e : j = jn B
    · rw [e, up2_at, va_up_self]
    · rw [up2_nk e, va_up_ne _ _ e]; exact (h2 j (by omega)).1
  · show up2 (aI (sA S 41 (jn B) (nI f))) 42 (jn B) (nI l) 42 j = nI (va_up (jL B) (jn B) l j)
    by_cases e : j = jn B
    · rw [e, up2_at, va_up_self]
    · rw [up2_nk e, va_up_ne _ _ e]; exact (h2 j (by omega)).2
theorem YPl.job {S : GS} {B : AP} {f l : Nat} (h : YPl S B) : YPl (yJob S B (nI f) (nI l)) (aJob B f l) := by
  obtain ⟨h1, h2, h3⟩ := h
  refine ⟨by unfold yJob; rw [fI_sI, up2_at]; rfl, fun j hj => ?_, h3⟩
  have hj : j < jn B + 1 := hj
  constructor
  · show up2 (aI S) 222 (jn B) (nI f) 222 j = nI (va_up (jF B) (jn B) f j)
    by_cases e : j = jn B
    · rw [e, up2_at, va_up_self]
    · rw [up2_nk e, va_up_ne _ _ e]; exact (h2 j (by omega)).1
  · show up2 (aI (sA S 222 (jn B) (nI f))) 223 (jn B) (nI l) 223 j = nI (va_up (jL B) (jn B) l j)
    by_cases e : j = jn B
    · rw [e, up2_at, va_up_self]
    · rw [up2_nk e, va_up_ne _ _ e]; exact (h2 j (by omega)).2
theorem MPl.places {S : GS} {B : AP} {x n : Nat} (h : MPl S B) : MPl (sA S 44 x (nI n)) (aPlaces B x n) := by
  refine ⟨h.1, h.2.1, fun d hd => ?_⟩
  show up2 (aI S) 44 x (nI n) 44 d = nI (va_up (jP B) x n d)
  by_cases e : d = x
  · rw [e, up2_at, va_up_self]
  · rw [up2_nk e, va_up_ne _ _ e]; exact h.2.2 d hd
theorem YPl.places {S : GS} {B : AP} {x n : Nat} (h : YPl S B) : YPl (sA S 225 x (nI n)) (aPlaces B x n) := by
  refine ⟨h.1, h.2.1, fun d hd => ?_⟩
  show up2 (aI S) 225 x (nI n) 225 d = nI (va_up (jP B) x n d)
  by_cases e : d = x
  · rw [e, up2_at, va_up_self]
  · rw [up2_nk e, va_up_ne _ _ e]; exact h.2.2 d hd
theorem MPl.clear {S : GS} {B : AP} (h : MPl S B) : MPl (sI S 0 45 0) (aClear B) := ⟨by rw [fI_sI, up2_at]; rfl, fun j hj => absurd hj (Nat.not_lt_zero j), h.2.2⟩
theorem YPl.clear {S : GS} {B : AP} (h : YPl S B) : YPl (sI S 221 5 0) (aClear B) := ⟨by rw [fI_sI, up2_at]; rfl, fun j hj => absurd hj (Nat.not_lt_zero j), h.2.2⟩
