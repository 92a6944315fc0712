/-! ===== a day in the reference: three rows change ===== -/
def R3 (S : GS) (f g h : Nat → Int32) : GS := rA (rA (rA S 8 f) 9 g) 10 h
theorem R3_self (S : GS) : S = R3 S (aI S 8) (aI S 9) (aI S 10) := by
  unfold R3
  rw [rA_self]
  rw [show rA S 9 (aI S 9) = S from rA_self S 9, rA_self]
theorem R3_8 (S : GS) (f g h : Nat → Int32) (j : Nat) (v : Int32) : sA (R3 S f g h) 8 j v = R3 S (va_up f j v) g h := by
  unfold R3
  rw [sA_rAn _ (by decide), sA_rAn _ (by decide), sA_rA]
theorem R3_9 (S : GS) (f g h : Nat → Int32) (j : Nat) (v : Int32) : sA (R3 S f g h) 9 j v = R3 S f (va_up g j v) h := by
  unfold R3
  rw [sA_rAn _ (by decide), sA_rA]
theorem R3_10 (S : GS) (f g h : Nat → Int32) (j : Nat) (v : Int32) : sA (R3 S f g h) 10 j v = R3 S f g (va_up h j v) := by
  unfold R3
  rw [sA_rA]
theorem VOK.dayN {A : AV} {t sun rain n : Nat} (h : VOK A t) (ht : t + 1 ≤ 600) (hn : n ≤ vn A) : VOK (aDayN A sun rain n) (t + 1) := by
  have h0 := h.day (sun := sun) (rain := rain) ht
  obtain ⟨h1, h2, h3, h4⟩ := h
  obtain ⟨-, -, k3, k4⟩ := h0
  refine ⟨h1, ht, fun u hu => ?_, fun u hu => ?_⟩
  · have hu : u < vn A := hu
    by_cases hq : u < n
    · have h5 := k3 u hu
      have e2 : vW (aDayN A sun rain n) u = vW (aDayN A sun rain (vn A)) u := (if_pos hq).trans (if_pos hu).symm
      have e3 : vT (aDayN A sun rain n) u = vT (aDayN A sun rain (vn A)) u := (if_pos hq).trans (if_pos hu).symm
      have e5 : vM (aDayN A sun rain n) u = vM (aDayN A sun rain (vn A)) u := (if_pos hq).trans (if_pos hu).symm
      have e6 : vwt (aDayN A sun rain n) u = vwt (aDayN A sun rain (vn A)) u := by unfold vwt; rw [e2]; rfl
      rw [e2, e3, e5, e6]
      exact h5
    · have h5 := h3 u hu
      have e2 : vW (aDayN A sun rain n) u = vW A u := if_neg hq
      have e3 : vT (aDayN A sun rain n) u = vT A u := if_neg hq
      have e5 : vM (aDayN A sun rain n) u = vM A u := if_neg hq
      have e6 : vwt (aDayN A sun rain n) u = vwt A u := by unfold vwt; rw [e2]; rfl
      rw [e2, e3, e5, e6]
      show vK A u ≤ 3 ∧ vT A u ≤ 100 ∧ vM A u ≤ 1 ∧ vG A u ≤ 3 ∧ vC A u ≤ 2 ∧ vdry A u ≤ 1000000 ∧ (vK A u ≠ 2 → vwt A u ≤ 1000000) ∧ vW A u ≤ 1000000 + 100000 * (t + 1) ∧ (vK A u = 3 → vW A u ≠ 0 → vdry A u ≠ 0) ∧ (vG A u ≠ 0 → vC A u ≠ 0) ∧ (vC A u ≠ 0 → vK A u = 3 ∧ vdry A u ≠ 0 ∧ vG A u ≠ 0)
      omega
  · have hu : vn A ≤ u := hu
    have h5 := h4 u hu
    have hq : ¬ u < n := by omega
    refine ⟨h5.1, h5.2.1, ?_, ?_, ?_, h5.2.2.2.2.2⟩
    · exact (if_neg hq).trans h5.2.2.1
    · exact (if_neg hq).trans h5.2.2.2.1
    · exact (if_neg hq).trans h5.2.2.2.2.1
section
variable {S : GS} {A : AV} {su ra p : Nat}
theorem MVes.pK (h : MVes S (aDayN A su ra p)) (hp : p < 100) : aI S 6 p = nI (vK A p) := h.K p hp
theorem MVes.pW (h : MVes S (aDayN A su ra p)) (hp : p < 100) : aI S 8 p = nI (vW A p) := (h.W p hp).trans (congrArg nI (if_neg (Nat.lt_irrefl p)))
theorem MVes.pT (h : MVes S (aDayN A su ra p)) (hp : p < 100) : aI S 9 p = nI (vT A p) := (h.T p hp).trans (congrArg nI (if_neg (Nat.lt_irrefl p)))
theorem MVes.pM (h : MVes S (aDayN A su ra p)) (hp : p < 100) : aI S 10 p = nI (vM A p) := (h.M p hp).trans (congrArg nI (if_neg (Nat.lt_irrefl p)))
theorem aDayN_wt : vwt (aDayN A su ra p) p = vwt A p := by
  unfold vwt
  rw [show vW (aDayN A su ra p) p = vW A p from if_neg (Nat.lt_irrefl p)]
  rfl
theorem MVes.dayStep {f g h f' g' h' : Nat → Int32} (hV : MVes (R3 S f g h) (aDayN A su ra p)) (hf : (∀ j, j ≠ p → f' j = f j) ∧ f' p = nI (dW A su ra p)) (hg : (∀ j, j ≠ p → g' j = g j) ∧ g' p = nI (dT A p)) (hh : (∀ j, j ≠ p → h' j = h j) ∧ h' p = nI (dM A p)) : MVes (R3 S f' g' h') (aDayN A su ra (p + 1)) := by
  have key : ∀ (F : Nat → Nat) (G : Nat → Nat) (u : Nat), u ≠ p → (if u < p + 1 then F u else G u) = (if u < p then F u else G u) := by
    intro F G u hu
    by_cases e : u < p
    · rw [if_pos e, if_pos (by omega)]
    · rw [if_neg e, if_neg (by omega)]
  have same : ∀ (F : Nat → Nat) (G : Nat → Nat), (if p < p + 1 then F p else G p) = F p := fun F G => if_pos (Nat.lt_succ_self p)
  refine ⟨hV.1, fun u hu => ?_, hV.2.2⟩
  obtain ⟨h1, h2, h3, h4, h5⟩ := hV.2.1 u hu
  refine ⟨h1, ?_, ?_, ?_, h5⟩
  · show f' u = nI (if u < p + 1 then dW A su ra u else vW A u)
    by_cases e : u = p
    · rw [e, same (dW A su ra) (vW A)]; exact hf.2
    · rw [key _ _ u e, hf.1 u e]; exact h2
  · show g' u = nI (if u < p + 1 then dT A u else vT A u)
    by_cases e : u = p
    · rw [e, same (dT A) (vT A)]; exact hg.2
    · rw [key _ _ u e, hg.1 u e]; exact h3
  · show h' u = nI (if u < p + 1 then dM A u else vM A u)
    by_cases e : u = p
    · rw [e, same (dM A) (vM A)]; exact hh.2
    · rw [key _ _ u e, hh.1 u e]; exact h4
theorem MVes.row8 {f g h : Nat → Int32} (hV : MVes (R3 S f g h) (aDayN A su ra p)) (hp : p < 100) : f p = nI (vW A p) := hV.pW hp
theorem MVes.row9 {f g h : Nat → Int32} (hV : MVes (R3 S f g h) (aDayN A su ra p)) (hp : p < 100) : g p = nI (vT A p) := hV.pT hp
theorem MVes.row10 {f g h : Nat → Int32} (hV : MVes (R3 S f g h) (aDayN A su ra p)) (hp : p < 100) : h p = nI (vM A p) := hV.pM hp
end
theorem up_p {f : Nat → Int32} {p : Nat} {v w : Int32} (h : v = w) : (∀ j, j ≠ p → va_up f p v j = f j) ∧ va_up f p v p = w := ⟨fun _ hj => va_up_ne _ _ hj, (va_up_self _ _ _).trans h⟩
theorem up_0 {f : Nat → Int32} {p : Nat} {w : Int32} (h : f p = w) : (∀ j, j ≠ p → f j = f j) ∧ f p = w := ⟨fun _ _ => rfl, h⟩
theorem imin_n {x y : Int32} {a b : Nat} (hx : x = nI a) (hy : y = nI b) (ha : a < 2 ^ 31) (hb : b < 2 ^ 31) : (if y < x then y else x) = nI (min a b) := by
  rw [hx, hy]
  by_cases e : b < a
  · rw [if_pos (nI_lt e ha), Nat.min_eq_right (by omega)]
  · rw [if_neg (nI_nlt (by omega) hb), Nat.min_eq_left (by omega)]
theorem imax_n {x y : Int32} {a b : Nat} (hx : x = nI a) (hy : y = nI b) (ha : a < 2 ^ 31) (hb : b < 2 ^ 31) : (if x < y then y else x) = nI (max a b) := by
  rw [hx, hy]
  by_cases e : a < b
  · rw [if_pos (nI_lt e hb), Nat.max_eq_right (by omega)]
  · rw [if_neg (nI_nlt (by omega) ha), Nat.max_eq_left (by omega)]
theorem imax_sub {x y : Int32} {a b : Nat} (hx : x = nI a) (hy : y = nI b) (ha : a < 2 ^ 30) (hb : b < 2 ^ 30) : (if 0 < x - y then x - y else 0) = nI (a - b) := by
  rw [hx, hy]
  have h1 := pk_sub_toInt ha hb
  by_cases e : b < a
  · rw [if_pos (by rw [fa_lt, h1]; show (0 : Int) < _; omega), pk_sub (by omega)]
  · rw [if_neg (by rw [fa_lt, h1]; show ¬ (0 : Int) < _; omega), show a - b = 0 by omega]
    rfl
/-- fewer locals, place by place -/
def lle : List (Option Value) → List (Option Value) → Prop
  | [], _ => True
  | none :: a, _ :: b => lle a b
  | none :: a, [] => lle a []
  | some v :: a, w :: b => w = some v ∧ lle a b
  | some _ :: _, [] => False
theorem lle_get : ∀ (a b : List (Option Value)), lle a b → ∀ (i : Nat) (v : Value), a[i]? = some (some v) → b[i]? = some (some v)
  | [], _, _, i, v, h => by simp at h
  | none :: a, w :: b, hl, 0, v, h => by simp at h
  | none :: a, w :: b, hl, i + 1, v, h => by
    have := lle_get a b hl i v (by simpa using h)
    simpa using this
  | none :: a, [], hl, 0, v, h => by simp at h
  | none :: a, [], hl, i + 1, v, h => by
    have := lle_get a [] hl i v (by simpa using h)
    simp at this
  | some u :: a, w :: b, hl, 0, v, h => by
    have : u = v := by simpa using h
    subst this
    simp [hl.1]
  | some u :: a, w :: b, hl, i + 1, v, h => by
    have := lle_get a b hl.2 i v (by simpa using h)
    simpa using this
  | some u :: a, [], hl, i, v, h => absurd hl (fun q => q)
theorem V_lo {X : CX} {pc k n : Nat} {lo lo' : List (Option Value)} {st : List Value} {S : GS} (hl : lle lo' lo) (h : V X pc lo' st S k n) : V X pc lo st S k n := V_less (lle_get lo' lo hl) h
