/-! ===== the premiums, as numbers: how many; sack, day, coins, grade, vote, shares ===== -/
abbrev AR : Type := Nat × (Nat → Nat) × (Nat → Nat) × (Nat → Nat) × (Nat → Nat) × (Nat → Option Nat) × (Nat → Nat → Nat)
def rn (R : AR) : Nat := R.1
def rS (R : AR) : Nat → Nat := R.2.1
def rD (R : AR) : Nat → Nat := R.2.2.1
def rC (R : AR) : Nat → Nat := R.2.2.2.1
def rG (R : AR) : Nat → Nat := R.2.2.2.2.1
def rV (R : AR) : Nat → Option Nat := R.2.2.2.2.2.1
def rH (R : AR) : Nat → Nat → Nat := R.2.2.2.2.2.2
def mz (A : AV) (B : AB) (s q : Nat) (o : Option Nat) (m : Nat) : Nat := if gmN A s m = 0 then 0 else tlN B o (gmN A s m) q (plN A s m)
def mz1 (A : AV) (B : AB) (s q : Nat) (o : Option Nat) (m : Nat) : Nat := if sumN (mz A B s q o) 20 = 0 then gmN A s m else mz A B s q o m
def shr (A : AV) (B : AB) (s q : Nat) (o : Option Nat) (c m : Nat) : Nat := pSh c (mz1 A B s q o) 20 m
theorem mz_0 {A : AV} {B : AB} {s q : Nat} {o : Option Nat} {m : Nat} (h : gmN A s m = 0) : mz A B s q o m = 0 := if_pos h
theorem mz_1 {A : AV} {B : AB} {s q : Nat} {o : Option Nat} {m : Nat} (h : ¬ gmN A s m = 0) : mz A B s q o m = tlN B o (gmN A s m) q (plN A s m) := if_neg h
theorem mz1_0 {A : AV} {B : AB} {s q : Nat} {o : Option Nat} {m : Nat} (h : gmN A s m = 0) : mz1 A B s q o m = 0 := by
  unfold mz1
  split
  · exact h
  · exact mz_0 h
theorem mz_le {A : AV} {B : AB} {t s q : Nat} {o : Option Nat} {m : Nat} (hO : VOK A t) (hs : s < vn A) (hm : m < 20) : mz A B s q o m ≤ 1000000000 := by
  unfold mz
  split
  · omega
  · exact (tlJ_n (gm_le hO hs hm)).2
theorem mz1_le {A : AV} {B : AB} {t s q : Nat} {o : Option Nat} {m : Nat} (hO : VOK A t) (hs : s < vn A) (hm : m < 20) : mz1 A B s q o m ≤ 1000000000 := by
  unfold mz1
  split
  · have := gm_le hO hs hm; omega
  · exact mz_le hO hs hm
theorem sumN_split (f : Nat → Nat) (a b : Nat) : sumN f (a + b) = sumN f a + sumN (fun i => f (a + i)) b := by
  induction b with
  | zero => rfl
  | succ b ih => show sumN f (a + b) + f (a + b) = sumN f a + (sumN (fun i => f (a + i)) b + f (a + b)); omega
theorem gm_sum (A : AV) (s : Nat) : sumN (gmN A s) 20 = vdry A s := by
  have h1 : vdry A s = sumN (vD A s) 20 + sumN (fun i => vD A s (20 + i)) 20 + sumN (fun i => vD A s (20 + 20 + i)) 20 := by
    show sumN (vD A s) (20 + 20 + 20) = _
    rw [sumN_split (vD A s) (20 + 20) 20, sumN_split (vD A s) 20 20]
  have h2 : sumN (gmN A s) 20 = sumN (fun i => vD A s i + vD A s (20 + i)) 20 + sumN (fun i => vD A s (20 + 20 + i)) 20 := by
    rw [← sumN_add]
    refine sumN_congr (fun i _ => ?_)
    show vD A s i + vD A s (i + 20) + vD A s (i + 20 + 20) = _
    rw [Nat.add_comm 20 i, show 20 + 20 + i = i + 20 + 20 by omega]
  rw [h1, h2, sumN_add]
theorem mz1_pos {A : AV} {B : AB} {s q : Nat} {o : Option Nat} (h : 0 < vdry A s) : 0 < sumN (mz1 A B s q o) 20 := by
  by_cases e : sumN (mz A B s q o) 20 = 0
  · rw [sumN_congr (f := mz1 A B s q o) (g := gmN A s) (n := 20) (fun i _ => if_pos e), gm_sum]; exact h
  · rw [sumN_congr (f := mz1 A B s q o) (g := mz A B s q o) (n := 20) (fun i _ => if_neg e)]; omega
theorem cn_pos {A : AV} {s : Nat} (h : 0 < vdry A s) : 0 < cn (gmN A s) 20 := by
  rcases Nat.eq_zero_or_pos (cn (gmN A s) 20) with z | z
  · exfalso
    have h1 : ∀ m, m < 20 → gmN A s m = 0 := fun m hm => Classical.byContradiction (fun q => by have := cn_lt hm q; omega)
    rw [← gm_sum, sumN_congr (g := fun _ => 0) (fun i hi => h1 i hi), sumN_const] at h
    omega
  · exact z
theorem shr_le {A : AV} {B : AB} {s q : Nat} {o : Option Nat} {c m : Nat} (h : 0 < vdry A s) (hm : m < 20) : shr A B s q o c m ≤ c := by
  have h1 := pSh_sum (n := c) (mz1_pos (B := B) (q := q) (o := o) h)
  have h2 := sumN_one (f := pSh c (mz1 A B s q o) 20) hm
  unfold shr
  omega
theorem shr_0 {A : AV} {B : AB} {s q : Nat} {o : Option Nat} {c m : Nat} (h : 0 < vdry A s) (hm : m < 20) (h0 : gmN A s m = 0) : shr A B s q o c m = 0 := pSh_00 (mz1_pos h) hm (mz1_0 h0)
/-- the reference parts a premium: rows who (40), measure (13), pile (27) change on the way -/
def U3 (S : GS) (w : Nat → Int32) (f h : Nat → Int64) : GS := rL (rL (rA S 40 w) 13 f) 27 h
theorem U3_w (S : GS) (w : Nat → Int32) (f h : Nat → Int64) (j : Nat) (v : Int32) : sA (U3 S w f h) 40 j v = U3 S (va_up w j v) f h := by
  show sA (rL (rL (rA S 40 w) 13 f) 27 h) 40 j v = rL (rL (rA S 40 (va_up w j v)) 13 f) 27 h
  rw [← sA_rA]
  rfl
theorem U3_f (S : GS) (w : Nat → Int32) (f h : Nat → Int64) (j : Nat) (v : Int64) : sL (U3 S w f h) 13 j v = U3 S w (va_up f j v) h := by
  simp only [U3, sL, rL, rA]
  rw [up2_upn _ (by decide), up2_up]
theorem U3_h (S : GS) (w : Nat → Int32) (f h h2 : Nat → Int64) : rL (U3 S w f h) 27 h2 = U3 S w f h2 := rL_rL _ 27 h h2
theorem U3_self (S : GS) : S = U3 S (aI S 40) (aJ S 13) (aJ S 27) := by
  unfold U3
  rw [rA_self, rL_self, rL_self]
theorem U3_13 (S : GS) (w : Nat → Int32) (f h : Nat → Int64) (i : Nat) : aJ (U3 S w f h) 13 i = f i := by
  show va_up (va_up (aJ S) 13 f) 27 h 13 i = _
  rw [va_up_ne _ _ (by decide), va_up_self]
theorem U3_40 (S : GS) (w : Nat → Int32) (f h : Nat → Int64) (i : Nat) : aI (U3 S w f h) 40 i = w i := by
  show va_up (aI S) 40 w 40 i = _
  rw [va_up_self]
theorem U3_r (S : GS) (w : Nat → Int32) (f h : Nat → Int64) {g : Nat} (hg : g ≠ 40) : aI (U3 S w f h) g = aI S g := va_up_ne _ _ hg
theorem MVo.sm {S S2 : GS} {B : AB} (h1 : fI S2 0 24 = fI S 0 24) (h2 : aI S2 21 = aI S 21) (h3 : aI S2 22 = aI S 22) (h4 : aI S2 23 = aI S 23) (hV : MVo S B) : MVo S2 B := by
  unfold MVo
  rw [h1, h2, h3, h4]
  exact hV
theorem MVo.U3 {S : GS} {B : AB} {w : Nat → Int32} {f h : Nat → Int64} (hV : MVo S B) : MVo (U3 S w f h) B := hV.sm rfl (U3_r _ _ _ _ (by decide)) (U3_r _ _ _ _ (by decide)) (U3_r _ _ _ _ (by decide))
def MPf (S S2 : GS) (x : Nat) (o : Option Nat) : Prop := kd S2 = kd S ∧ ln S2 = ln S ∧ rf S2 = rf S ∧ fI S2 = fI S ∧ fJ S2 = fJ S ∧ (∀ g, g ≠ 15 → g ≠ 31 → g ≠ 40 → aI S2 g = aI S g) ∧ aI S2 31 = va_up (aI S 31) x (an o) ∧ ∀ g, g ≠ 13 → g ≠ 14 → g ≠ 27 → aJ S2 g = aJ S g
theorem MPf.of (S : GS) (w h2 : Nat → Int32) (f h f2 : Nat → Int64) (x : Nat) (o : Option Nat) : MPf S (sA (R2 (U3 S w f h) f2 h2) 31 x (an o)) x o := by
  refine ⟨rfl, rfl, rfl, rfl, rfl, fun g a b c => ?_, ?_, fun g a b c => ?_⟩
  · show up2 (va_up (va_up (aI S) 40 w) 15 h2) 31 x (an o) g = _
    rw [up2_row b, va_up_ne _ _ a, va_up_ne _ _ c]
  · show up2 (va_up (va_up (aI S) 40 w) 15 h2) 31 x (an o) 31 = _
    rw [up2_row1, va_up_self, va_up_ne _ _ (by decide), va_up_ne _ _ (by decide)]
  · show va_up (va_up (va_up (aJ S) 13 f) 27 h) 14 f2 g = _
    rw [va_up_ne _ _ b, va_up_ne _ _ c, va_up_ne _ _ a]
theorem MPf_40 (S : GS) (w h2 : Nat → Int32) (f h f2 : Nat → Int64) (x : Nat) (o : Option Nat) (i : Nat) : aI (sA (R2 (U3 S w f h) f2 h2) 31 x (an o)) 40 i = w i := by
  show up2 (va_up (va_up (aI S) 40 w) 15 h2) 31 x (an o) 40 i = _
  rw [up2_ne (by decide), va_up_ne _ _ (by decide), va_up_self]
theorem MPf_14 (S : GS) (w h2 : Nat → Int32) (f h f2 : Nat → Int64) (x : Nat) (o : Option Nat) (i : Nat) : aJ (sA (R2 (U3 S w f h) f2 h2) 31 x (an o)) 14 i = f2 i := by
  show va_up (va_up (va_up (aJ S) 13 f) 27 h) 14 f2 14 i = _
  rw [va_up_self]
