/-! ===== move, as numbers ===== -/
def pMay (A : AV) (x z : Int32) : Prop := (wi_ x 0 ((vn A : Int) - 1) ∧ wi_ z 0 ((vn A : Int) - 1) ∧ tn x ≠ tn z) ∧ (vK A (tn x) ≠ 3 ∧ (vK A (tn z) = vK A (tn x) ∨ vK A (tn z) = vK A (tn x) + 1)) ∧ (vK A (tn z) = 3 → vwet A (tn x) ≤ 75 ∧ vC A (tn z) = 0)
def pMove (A : AV) (x z g : Int32) : Prop := pMay A x z ∧ wi_ g 1 (vwt A (tn x)) ∧ vwt A (tn z) + tn g ≤ 1000000
def mvW (A : AV) (v g : Nat) : Nat := g * vW A v / vwt A v
def mvS (A : AV) (v g p : Nat) : Nat := pSh (g - mvW A v g) (vD A v) 60 p
def mvT (A : AV) (v u g : Nat) : Nat := (vwt A u * vT A u + g * vT A v) / (vwt A u + g)
def aMove (A : AV) (v u g : Nat) : AV := (vn A, vK A, va_up (va_up (vD A) v (fun p => vD A v p - mvS A v g p)) u (fun p => vD A u p + mvS A v g p), va_up (va_up (vW A) v (vW A v - mvW A v g)) u (vW A u + mvW A v g), va_up (vT A) u (mvT A v u g), A.2.2.2.2.2)
theorem pSh_0 {mm : Nat → Nat} {N k : Nat} : pSh 0 mm N k = 0 := by
  unfold pSh
  have h1 : ∀ k, pB 0 mm N k = 0 := fun k => by simp [pB]
  have h2 : pLeft 0 mm N = 0 := by unfold pLeft; omega
  rw [h1, h2]
  rfl
theorem mvW_le {A : AV} {v g : Nat} (h : 0 < vwt A v) : mvW A v g ≤ g := by
  unfold mvW
  refine Nat.div_le_of_le_mul ?_
  rw [Nat.mul_comm (vwt A v) g]
  exact Nat.mul_le_mul_left g (by unfold vwt; omega)
theorem mvW_leW {A : AV} {v g : Nat} (h : 0 < vwt A v) (hg : g ≤ vwt A v) : mvW A v g ≤ vW A v := by
  unfold mvW
  refine Nat.div_le_of_le_mul ?_
  exact Nat.mul_le_mul_right _ hg
theorem mvN_le {A : AV} {v g : Nat} (h : 0 < vwt A v) (hg : g ≤ vwt A v) : g - mvW A v g ≤ vdry A v := by
  rcases Nat.le_total g (vdry A v) with q | q
  · omega
  · have h1 : g - vdry A v ≤ mvW A v g := by
      unfold mvW
      refine (Nat.le_div_iff_mul_le h).mpr ?_
      obtain ⟨a, ha⟩ : ∃ a, g = vdry A v + a := ⟨g - vdry A v, by omega⟩
      have hw : vwt A v = vdry A v + vW A v := rfl
      have ha2 : a ≤ vW A v := by omega
      rw [ha, hw, Nat.add_sub_cancel_left, Nat.mul_add, Nat.add_mul, Nat.mul_comm a (vdry A v)]
      have := Nat.mul_le_mul_left (vdry A v) ha2
      omega
    omega
theorem mvN_0 {A : AV} {v g : Nat} (h : 0 < vwt A v) (hg : g ≤ vwt A v) (hd : vdry A v = 0) : g - mvW A v g = 0 := by
  have := mvN_le h hg
  omega
theorem mvS_le {A : AV} {v g p : Nat} (h : 0 < vwt A v) (hg : g ≤ vwt A v) (hp : p < 60) : mvS A v g p ≤ vD A v p := by
  rcases Nat.eq_zero_or_pos (g - mvW A v g) with e | e
  · unfold mvS; rw [e, pSh_0]; exact Nat.zero_le _
  · have h1 := mvN_le h hg
    exact pSh_le (show 0 < sumN (vD A v) 60 by have : vdry A v = sumN (vD A v) 60 := rfl; omega) h1 hp
theorem mvS_sum {A : AV} {v g : Nat} (h : 0 < vwt A v) (hg : g ≤ vwt A v) : sumN (mvS A v g) 60 = g - mvW A v g := by
  rcases Nat.eq_zero_or_pos (g - mvW A v g) with e | e
  · rw [sumN_congr (g := fun _ => 0) (fun k _ => by unfold mvS; rw [e, pSh_0]), sumN_const, e]
  · have h1 := mvN_le h hg
    exact pSh_sum (show 0 < sumN (vD A v) 60 by have : vdry A v = sumN (vD A v) 60 := rfl; omega)
theorem sumN_sub {f g : Nat → Nat} {n : Nat} (h : ∀ i, i < n → g i ≤ f i) : sumN (fun i => f i - g i) n + sumN g n = sumN f n := by
  induction n with
  | zero => rfl
  | succ n ih =>
    have := ih (fun i hi => h i (by omega))
    have := h n (by omega)
    simp only [sumN]
    omega
theorem aMove_dry {A : AV} {v u g : Nat} (hvu : v ≠ u) (h : 0 < vwt A v) (hg : g ≤ vwt A v) : vdry (aMove A v u g) v + (g - mvW A v g) = vdry A v ∧ vdry (aMove A v u g) u = vdry A u + (g - mvW A v g) ∧ ∀ q, q ≠ v → q ≠ u → vdry (aMove A v u g) q = vdry A q := by
  refine ⟨?_, ?_, fun q h1 h2 => ?_⟩
  · show sumN (va_up (va_up (vD A) v _) u _ v) 60 + _ = _
    rw [va_up_ne _ _ hvu, va_up_self, ← mvS_sum h hg]
    exact sumN_sub (fun i hi => mvS_le h hg hi)
  · show sumN (va_up (va_up (vD A) v _) u _ u) 60 = _
    rw [va_up_self, sumN_add, mvS_sum h hg]
    rfl
  · show sumN (va_up (va_up (vD A) v _) u _ q) 60 = _
    rw [va_up_ne _ _ h2, va_up_ne _ _ h1]
    rfl
theorem aMove_W {A : AV} {v u g : Nat} (hvu : v ≠ u) : vW (aMove A v u g) v = vW A v - mvW A v g ∧ vW (aMove A v u g) u = vW A u + mvW A v g ∧ ∀ q, q ≠ v → q ≠ u → vW (aMove A v u g) q = vW A q := by
  refine ⟨?_, ?_, fun q h1 h2 => ?_⟩
  · show va_up (va_up (vW A) v _) u _ v = _
    rw [va_up_ne _ _ hvu, va_up_self]
  · show va_up (va_up (vW A) v _) u _ u = _
    rw [va_up_self]
  · show va_up (va_up (vW A) v _) u _ q = _
    rw [va_up_ne _ _ h2, va_up_ne _ _ h1]
theorem aMove_wt {A : AV} {v u g : Nat} (hvu : v ≠ u) (h : 0 < vwt A v) (hg : g ≤ vwt A v) : vwt (aMove A v u g) v + g = vwt A v ∧ vwt (aMove A v u g) u = vwt A u + g := by
  obtain ⟨a1, a2, -⟩ := aMove_dry hvu h hg
  obtain ⟨b1, b2, -⟩ := aMove_W (A := A) (g := g) hvu
  have h1 := mvW_le (g := g) h
  have h2 := mvW_leW h hg
  have e1 : vwt A v = vdry A v + vW A v := rfl
  have e2 : vwt A u = vdry A u + vW A u := rfl
  refine ⟨?_, ?_⟩
  · show vdry (aMove A v u g) v + vW (aMove A v u g) v + g = _
    omega
  · show vdry (aMove A v u g) u + vW (aMove A v u g) u = _
    omega
theorem mvT_le {A : AV} {v u g : Nat} (hg : 0 < g) (h1 : vT A u ≤ 100) (h2 : vT A v ≤ 100) : mvT A v u g ≤ 100 := by
  unfold mvT
  refine Nat.div_le_of_le_mul ?_
  have a := Nat.mul_le_mul_left (vwt A u) h1
  have b := Nat.mul_le_mul_left g h2
  rw [Nat.add_mul]
  omega
/-- a sack gets something dry -/
theorem mvN_sack {A : AV} {v g : Nat} (h : 0 < vwt A v) (hg : 0 < g) (hw : vwet A v ≤ 75) : 0 < g - mvW A v g := by
  have h1 : mvW A v g < g := by
    unfold mvW
    refine (Nat.div_lt_iff_lt_mul h).mpr ?_
    refine Nat.mul_lt_mul_of_pos_left ?_ hg
    unfold vwet at hw
    rw [if_neg (by omega)] at hw
    have h3 : 1000 * vW A v < 76 * vwt A v := by
      rcases Nat.lt_or_ge (1000 * vW A v) (76 * vwt A v) with q | q
      · exact q
      · have := (Nat.le_div_iff_mul_le h).mpr q
        omega
    omega
  omega
theorem VOK.move {A : AV} {t v u g : Nat} (hO : VOK A t) (hv : v < vn A) (hu : u < vn A) (hvu : v ≠ u) (hg1 : 0 < g) (hg : g ≤ vwt A v) (hw : vwt A u + g ≤ 1000000) (hk3 : vK A v ≠ 3) (hk : vK A u = 3 → vwet A v ≤ 75 ∧ vC A u = 0) : VOK (aMove A v u g) t := by
  have h0 : 0 < vwt A v := by omega
  obtain ⟨a1, a2, a3⟩ := aMove_dry hvu h0 hg
  obtain ⟨b1, b2, b3⟩ := aMove_W (A := A) (g := g) hvu
  obtain ⟨d1, d2⟩ := aMove_wt hvu h0 hg
  have e1 := mvW_le (g := g) h0
  have e2 := mvW_leW h0 hg
  obtain ⟨h1, h2, h3, h4⟩ := hO
  have hv3 := h3 v hv
  have hu3 := h3 u hu
  have ewv : vwt A v = vdry A v + vW A v := rfl
  have ewu : vwt A u = vdry A u + vW A u := rfl
  refine ⟨h1, h2, fun q hq => ?_, fun q hq => ?_⟩
  · have hq3 := h3 q hq
    have eT : vT (aMove A v u g) q = if q = u then mvT A v u g else vT A q := rfl
    show vK A q ≤ 3 ∧ vT (aMove A v u g) q ≤ 100 ∧ vM A q ≤ 1 ∧ vG A q ≤ 3 ∧ vC A q ≤ 2 ∧ vdry (aMove A v u g) q ≤ 1000000 ∧ (vK A q ≠ 2 → vwt (aMove A v u g) q ≤ 1000000) ∧ vW (aMove A v u g) q ≤ 1000000 + 100000 * t ∧ (vK A q = 3 → vW (aMove A v u g) q ≠ 0 → vdry (aMove A v u g) q ≠ 0) ∧ (vG A q ≠ 0 → vC A q ≠ 0) ∧ (vC A q ≠ 0 → vK A q = 3 ∧ vdry (aMove A v u g) q ≠ 0 ∧ vG A q ≠ 0)
    have ew : vwt (aMove A v u g) q = vdry (aMove A v u g) q + vW (aMove A v u g) q := rfl
    by_cases c1 : q = v
    · subst c1
      rw [eT, if_neg hvu]
      omega
    · by_cases c2 : q = u
      · subst c2
        rw [eT, if_pos rfl]
        have := mvT_le (A := A) (v := v) (u := q) hg1 hu3.2.1 hv3.2.1
        have hs : vK A q = 3 → 0 < g - mvW A v g := fun z => mvN_sack h0 hg1 (hk z).1
        omega
      · rw [eT, if_neg c2, a3 q c1 c2, b3 q c1 c2, show vwt (aMove A v u g) q = vwt A q by rw [ew, a3 q c1 c2, b3 q c1 c2]; rfl]
        exact hq3
  · have hq : vn A ≤ q := hq
    have h5 := h4 q hq
    have c1 : q ≠ v := by omega
    have c2 : q ≠ u := by omega
    refine ⟨fun p => ?_, h5.2.1, (b3 q c1 c2).trans h5.2.2.1, ?_, h5.2.2.2.2⟩
    · show va_up (va_up (vD A) v _) u _ q p = 0
      rw [va_up_ne _ _ c2, va_up_ne _ _ c1]; exact h5.1 p
    · show va_up (vT A) u _ q = 0
      rw [va_up_ne _ _ c2]; exact h5.2.2.2.1
/-- which rows of the reference may change -/
def FrM (LA LJ : List Nat) (S S2 : GS) : Prop := kd S2 = kd S ∧ ln S2 = ln S ∧ rf S2 = rf S ∧ fI S2 = fI S ∧ fJ S2 = fJ S ∧ (∀ g, g ∉ LA → aI S2 g = aI S g) ∧ ∀ g, g ∉ LJ → aJ S2 g = aJ S g
theorem MVes.move {S S2 : GS} {A : AV} {v u g : Nat} (hV : MVes S A) (hn : fI S2 0 1 = fI S 0 1) (h6 : aI S2 6 = aI S 6) (h10 : aI S2 10 = aI S 10) (h11 : aI S2 11 = aI S 11) (h12 : aI S2 12 = aI S 12)
    (h9 : aI S2 9 = va_up (aI S 9) u (nI (mvT A v u g))) (h8 : aI S2 8 = va_up (va_up (aI S 8) v (nI (vW A v - mvW A v g))) u (nI (vW A u + mvW A v g)))
    (h7 : ∀ p, p < 60 → aI S2 7 (60 * v + p) = nI (vD A v p - mvS A v g p) ∧ aI S2 7 (60 * u + p) = nI (vD A u p + mvS A v g p)) (h7o : ∀ q, (∀ p, p < 60 → q ≠ 60 * v + p ∧ q ≠ 60 * u + p) → aI S2 7 q = aI S 7 q) (hvu : v ≠ u) : MVes S2 (aMove A v u g) := by
  refine ⟨hn.trans hV.1, fun q hq => ?_, fun q hq p hp => ?_⟩
  · obtain ⟨k1, k2, k3, k4, k5, k6⟩ := hV.2.1 q hq
    rw [h6, h8, h9, h10, h11, h12]
    refine ⟨k1, ?_, ?_, k4, k5, k6⟩
    · show _ = nI (va_up (va_up (vW A) v _) u _ q)
      by_cases c2 : q = u
      · subst c2; rw [va_up_self, va_up_self]
      · rw [va_up_ne _ _ c2, va_up_ne _ _ c2]
        by_cases c1 : q = v
        · subst c1; rw [va_up_self, va_up_self]
        · rw [va_up_ne _ _ c1, va_up_ne _ _ c1]; exact k2
    · show _ = nI (va_up (vT A) u _ q)
      by_cases c2 : q = u
      · subst c2; rw [va_up_self, va_up_self]
      · rw [va_up_ne _ _ c2, va_up_ne _ _ c2]; exact k3
  · show _ = nI (va_up (va_up (vD A) v _) u _ q p)
    by_cases c2 : q = u
    · subst c2; rw [va_up_self]; exact (h7 p hp).2
    · rw [va_up_ne _ _ c2]
      by_cases c1 : q = v
      · subst c1; rw [va_up_self]; exact (h7 p hp).1
      · rw [va_up_ne _ _ c1, h7o (60 * q + p) (fun p' hp' => by omega)]
        exact hV.D q hq p hp
