/-! ===== parting in the class: a Parting g with its rows gs (shares), gr (rests) ===== -/
def D2 (S : GS) (gs gr : Nat) (f : Nat → Int32) (h : Nat → Int64) : GS := rL (rA S gs f) gr h
theorem D2_self (S : GS) (gs gr : Nat) : S = D2 S gs gr (aI S gs) (aJ S gr) := by
  unfold D2
  rw [rA_self, rL_self]
theorem D2_s (S : GS) (gs gr : Nat) (f : Nat → Int32) (h : Nat → Int64) (j : Nat) (v : Int32) : sA (D2 S gs gr f h) gs j v = D2 S gs gr (va_up f j v) h := by
  show sA (rL (rA S gs f) gr h) gs j v = rL (rA S gs (va_up f j v)) gr h
  rw [← sA_rA]
  rfl
theorem D2_r (S : GS) (gs gr : Nat) (f : Nat → Int32) (h : Nat → Int64) (j : Nat) (v : Int64) : sL (D2 S gs gr f h) gr j v = D2 S gs gr f (va_up h j v) := by
  unfold D2
  rw [sL_rL]
theorem D2_m {S : GS} {gs gr ga : Nat} {f : Nat → Int32} {h : Nat → Int64} (hn : ga ≠ gs) : aI (D2 S gs gr f h) ga = aI S ga := va_up_ne _ _ hn
theorem D2_f {S : GS} {gs gr : Nat} {f : Nat → Int32} {h : Nat → Int64} : aI (D2 S gs gr f h) gs = f := va_up_self _ _ _
theorem D2_h {S : GS} {gs gr : Nat} {f : Nat → Int32} {h : Nat → Int64} : aJ (D2 S gs gr f h) gr = h := va_up_self _ _ _
/-- a Parting and its rows -/
def POK (S : GS) (g gs gr : Nat) : Prop := kd S g = 1 + 1 ∧ rf S g 0 = some gs ∧ rf S g 1 = some gr ∧ kd S gs = 21 ∧ ln S gs = 60 ∧ kd S gr = 22 ∧ ln S gr = 60
def restOf (r G : Nat → Nat) (k : Nat) : Int64 := if G k = 0 then lN (r k) else -1
theorem restOf_0 {r G : Nat → Nat} {k : Nat} (h : G k = 0) : restOf r G k = lN (r k) := if_pos h
theorem restOf_1 {r G : Nat → Nat} {k : Nat} (h : ¬ G k = 0) : restOf r G k = -1 := if_neg h
theorem m1_lt {a : Nat} (h : a < 2 ^ 63) : (-1 : Int64) < lN a ∧ ¬ lN a < (-1 : Int64) ∧ lN a ≤ lN a := by
  have h1 : (lN a).toInt = (a : Int) := pk_lT h
  have h2 : ((-1 : Int64)).toInt = -1 := by decide
  refine ⟨?_, ?_, ?_⟩
  · rw [fa_ltJ, h1, h2]; omega
  · rw [fa_ltJ, h1, h2]; omega
  · rw [fa_leJ]; exact Int.le_refl _
theorem pb_1 (r G : Nat → Nat) : (pb r G 1).getD 0 = 0 := by
  simp only [pb]
  split <;> rfl
/-- one step of the class's search -/
theorem cb_step {r G : Nat → Nat} {p : Nat} (hp : 1 ≤ p) (hr : ∀ k, k ≤ p → r k < 2 ^ 63) : (restOf r G p ≤ restOf r G ((pb r G p).getD 0) → (pb r G (p + 1)).getD 0 = (pb r G p).getD 0) ∧ (¬ restOf r G p ≤ restOf r G ((pb r G p).getD 0) → (pb r G (p + 1)).getD 0 = p) := by
  obtain ⟨s1, s2⟩ := pb_spec r G p
  by_cases hg : G p = 0
  · rw [restOf_0 hg]
    cases hb : pb r G p with
    | none =>
      rw [pb_none hb hg]
      have h0 := s1 hb 0 (by omega)
      simp only [Option.getD_none, Option.getD_some]
      rw [restOf_1 h0]
      refine ⟨fun q => ?_, fun _ => trivial⟩
      have := (m1_lt (hr p (Nat.le_refl _))).1
      rw [fa_ltJ] at this
      rw [fa_leJ] at q
      omega
    | some b =>
      obtain ⟨b1, b2, -⟩ := s2 b hb
      simp only [Option.getD_some]
      rw [restOf_0 b2]
      have hle := pk_lLE (hr p (Nat.le_refl _)) (hr b (by omega))
      constructor
      · intro q
        rw [pb_less hb (by have := hle.mp q; omega)]
        rfl
      · intro q
        rw [pb_more hb hg (by rcases Nat.lt_or_ge (r b) (r p) with z | z; exact z; exact absurd (hle.mpr z) q)]
        rfl
  · rw [restOf_1 hg, pb_given hg]
    refine ⟨fun _ => rfl, fun q => ?_⟩
    exfalso
    apply q
    cases hb : pb r G p with
    | none =>
      have h0 := s1 hb 0 (by omega)
      simp only [Option.getD_none]
      rw [restOf_1 h0, fa_leJ]
      exact Int.le_refl _
    | some b =>
      obtain ⟨b1, b2, -⟩ := s2 b hb
      simp only [Option.getD_some]
      rw [restOf_0 b2]
      have := (m1_lt (hr b (by omega))).1
      rw [fa_ltJ] at this
      rw [fa_leJ]
      omega
theorem pb_lt {r G : Nat → Nat} {p : Nat} (hp : 1 ≤ p) : (pb r G p).getD 0 < p := by
  cases hb : pb r G p with
  | none => simp only [Option.getD_none]; omega
  | some b => exact ((pb_spec r G p).2 b hb).1
