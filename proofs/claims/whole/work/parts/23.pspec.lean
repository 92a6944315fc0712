/-! ===== parting in the reference: rows share (14) and more (15) change ===== -/
def R2 (S : GS) (f : Nat → Int64) (h : Nat → Int32) : GS := rA (rL S 14 f) 15 h
theorem R2_self (S : GS) : S = R2 S (aJ S 14) (aI S 15) := by
  unfold R2
  rw [rL_self, rA_self]
theorem R2_14 (S : GS) (f : Nat → Int64) (h : Nat → Int32) (j : Nat) (v : Int64) : sL (R2 S f h) 14 j v = R2 S (va_up f j v) h := by
  show sL (rA (rL S 14 f) 15 h) 14 j v = rA (rL S 14 (va_up f j v)) 15 h
  rw [← sL_rL]
  rfl
theorem R2_15 (S : GS) (f : Nat → Int64) (h : Nat → Int32) (j : Nat) (v : Int32) : sA (R2 S f h) 15 j v = R2 S f (va_up h j v) := by
  unfold R2
  rw [sA_rA]
def bI (o : Option Nat) : Int32 := match o with
  | none => -1
  | some b => nI b
def bR (r : Nat → Nat) (o : Option Nat) : Int64 := match o with
  | none => 0
  | some b => lN (r b)
theorem pb_none {r G : Nat → Nat} {k : Nat} (h : pb r G k = none) (hg : G k = 0) : pb r G (k + 1) = some k := by simp only [pb, h, if_pos hg]
theorem pb_given {r G : Nat → Nat} {k : Nat} (hg : ¬ G k = 0) : pb r G (k + 1) = pb r G k := by
  cases h : pb r G k with
  | none => simp only [pb, h, if_neg hg]
  | some b => simp only [pb, h]; rw [if_neg (fun q => hg q.1)]
theorem pb_more {r G : Nat → Nat} {k b : Nat} (h : pb r G k = some b) (hg : G k = 0) (hr : r b < r k) : pb r G (k + 1) = some k := by simp only [pb, h]; rw [if_pos ⟨hg, hr⟩]
theorem pb_less {r G : Nat → Nat} {k b : Nat} (h : pb r G k = some b) (hr : ¬ r b < r k) : pb r G (k + 1) = some b := by simp only [pb, h]; rw [if_neg (fun q => hr q.2)]
theorem bI_ne {c : Nat} (h : c < 2 ^ 31) : ¬ bI (some c) = -1 := by
  intro e
  have h1 := congrArg Int32.toInt e
  rw [show (bI (some c)).toInt = (c : Int) from nI_toInt h, show ((-1 : Int32)).toInt = -1 by decide] at h1
  omega
