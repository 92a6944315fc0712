/-! ===== parting among those alone whose g is not 0: the shares are the same ===== -/
def cn (g : Nat → Nat) (m : Nat) : Nat := sumN (fun k => bz (g k)) m
theorem cn_0 {g : Nat → Nat} {m : Nat} (h : g m = 0) : cn g (m + 1) = cn g m := by
  show cn g m + bz (g m) = _
  rw [bz_0 h]
  rfl
theorem cn_1 {g : Nat → Nat} {m : Nat} (h : ¬ g m = 0) : cn g (m + 1) = cn g m + 1 := by
  show cn g m + bz (g m) = _
  rw [bz_1 h]
theorem cn_le (g : Nat → Nat) (m : Nat) : cn g m ≤ m := bsum_b g m
theorem cn_mono (g : Nat → Nat) {m n : Nat} (h : m ≤ n) : cn g m ≤ cn g n := bsum_le g h
theorem cn_lt {g : Nat → Nat} {m n : Nat} (h : m < n) (hg : ¬ g m = 0) : cn g m < cn g n := by
  have h1 := cn_1 hg
  have h2 := cn_mono g (m := m + 1) (n := n) h
  omega
theorem cn_inj {g : Nat → Nat} {m n : Nat} (hm : ¬ g m = 0) (hn : ¬ g n = 0) (h : cn g m = cn g n) : m = n := by
  rcases Nat.lt_trichotomy m n with z | z | z
  · have := cn_lt z hm; omega
  · exact z
  · have := cn_lt z hn; omega
theorem cn_ex {g : Nat → Nat} {N j : Nat} (h : j < cn g N) : ∃ m, m < N ∧ ¬ g m = 0 ∧ cn g m = j := by
  induction N with
  | zero => exact absurd h (Nat.not_lt_zero _)
  | succ N ih =>
    by_cases e : g N = 0
    · rw [cn_0 e] at h
      obtain ⟨m, h1, h2⟩ := ih h
      exact ⟨m, by omega, h2⟩
    · rw [cn_1 e] at h
      by_cases e2 : j = cn g N
      · exact ⟨N, by omega, e, e2.symm⟩
      · obtain ⟨m, h1, h2⟩ := ih (by omega)
        exact ⟨m, by omega, h2⟩
def wq (g : Nat → Nat) : Nat → Nat → Nat
  | 0, _ => 0
  | N + 1, j => if g N ≠ 0 ∧ cn g N = j then N else wq g N j
theorem wq_cn {g : Nat → Nat} {N m : Nat} (h : m < N) (hg : ¬ g m = 0) : wq g N (cn g m) = m := by
  induction N with
  | zero => omega
  | succ N ih =>
    by_cases e : m = N
    · subst e; exact if_pos ⟨hg, rfl⟩
    · have h1 : wq g (N + 1) (cn g m) = wq g N (cn g m) := if_neg (fun z => by have := cn_lt (g := g) (m := m) (n := N) (by omega) hg; omega)
      rw [h1]
      exact ih (by omega)
theorem sum_cmp {g F w : Nat → Nat} {N : Nat} (hw : ∀ m, m < N → ¬ g m = 0 → w (cn g m) = m) (hF : ∀ m, m < N → g m = 0 → F m = 0) : sumN (fun j => F (w j)) (cn g N) = sumN F N := by
  induction N with
  | zero => rfl
  | succ N ih =>
    have h1 := ih (fun m hm => hw m (by omega)) (fun m hm => hF m (by omega))
    by_cases e : g N = 0
    · rw [cn_0 e, h1]
      show _ = sumN F N + F N
      rw [hF N (by omega) e]
      rfl
    · rw [cn_1 e]
      show sumN (fun j => F (w j)) (cn g N) + F (w (cn g N)) = sumN F N + F N
      rw [h1, hw N (by omega) e]
theorem pb_first {r G : Nat → Nat} : ∀ {N b : Nat}, pb r G N = some b → ∀ k, k < b → G k = 0 → r k < r b
  | 0, b, h => by cases h
  | N + 1, b, h => by
    intro k hk hg
    cases hp : pb r G N with
    | none =>
      have h3 := (pb_spec r G N).1 hp
      by_cases hz : G N = 0
      · rw [pb_none hp hz] at h
        cases h
        exact absurd hg (h3 k hk)
      · rw [pb_given hz, hp] at h
        cases h
    | some c =>
      obtain ⟨c1, c2, c3⟩ := (pb_spec r G N).2 c hp
      by_cases hz : G N = 0 ∧ r c < r N
      · rw [pb_more hp hz.1 hz.2] at h
        cases h
        have := c3 k hk hg
        omega
      · have h2 : pb r G (N + 1) = some c := by
          simp only [pb, hp]
          rw [if_neg hz]
        rw [h2] at h
        cases h
        exact pb_first hp k hk hg
section
variable {g mu w : Nat → Nat} {n N : Nat} (hw : ∀ m, m < N → ¬ g m = 0 → w (cn g m) = m) (hz : ∀ m, m < N → g m = 0 → mu m = 0)
theorem mu_cmp (hw : ∀ m, m < N → ¬ g m = 0 → w (cn g m) = m) (hz : ∀ m, m < N → g m = 0 → mu m = 0) : sumN (fun j => mu (w j)) (cn g N) = sumN mu N := sum_cmp hw hz
theorem pB_cmp (hw : ∀ m, m < N → ¬ g m = 0 → w (cn g m) = m) (hz : ∀ m, m < N → g m = 0 → mu m = 0) : pB n (fun j => mu (w j)) (cn g N) = fun j => pB n mu N (w j) := by
  funext j
  unfold pB
  rw [mu_cmp hw hz]
theorem pR_cmp (hw : ∀ m, m < N → ¬ g m = 0 → w (cn g m) = m) (hz : ∀ m, m < N → g m = 0 → mu m = 0) : pR n (fun j => mu (w j)) (cn g N) = fun j => pR n mu N (w j) := by
  funext j
  unfold pR
  rw [mu_cmp hw hz]
theorem pL_cmp (hw : ∀ m, m < N → ¬ g m = 0 → w (cn g m) = m) (hz : ∀ m, m < N → g m = 0 → mu m = 0) : pLeft n (fun j => mu (w j)) (cn g N) = pLeft n mu N := by
  unfold pLeft
  rw [pB_cmp hw hz, sum_cmp hw (fun m hm h0 => by unfold pB; rw [hz m hm h0, Nat.mul_zero, Nat.zero_div])]
theorem pG_cmp (hw : ∀ m, m < N → ¬ g m = 0 → w (cn g m) = m) (hz : ∀ m, m < N → g m = 0 → mu m = 0) (hs : 0 < sumN mu N) : ∀ j, j ≤ pLeft n mu N → ∀ m, m < N → ¬ g m = 0 → pG (pR n (fun j => mu (w j)) (cn g N)) (cn g N) j (cn g m) = pG (pR n mu N) N j m := by
  intro j
  induction j with
  | zero => intro _ m _ _; rfl
  | succ j ih =>
    intro hj m hm hg
    have ih := ih (by omega)
    have hs' : 0 < sumN (fun j => mu (w j)) (cn g N) := by rw [mu_cmp hw hz]; exact hs
    obtain ⟨b, b1, b2, b3, b4⟩ := pb_left (n := n) hs (j := j) (by omega)
    obtain ⟨c, c1, c2, c3, c4⟩ := pb_left (n := n) hs' (j := j) (by rw [pL_cmp hw hz]; omega)
    have rp : 0 < pR n mu N b := (pG_spec (n := n) hs (j + 1) hj).2.2 b b2 (by rw [b4, va_up_self])
    have gb : ¬ g b = 0 := fun e => by
      unfold pR at rp
      rw [hz b b2 e, Nat.mul_zero, Nat.zero_mod] at rp
      exact absurd rp (Nat.lt_irrefl _)
    obtain ⟨q, q1, q2, q3⟩ := cn_ex c2
    subst q3
    have er : ∀ k, k < N → ¬ g k = 0 → pR n (fun j => mu (w j)) (cn g N) (cn g k) = pR n mu N k := fun k hk hgk => by rw [pR_cmp hw hz]; show pR n mu N (w (cn g k)) = _; rw [hw k hk hgk]
    have e1 := (pb_spec _ _ N).2 b b1
    have e2 := (pb_spec _ _ (cn g N)).2 (cn g q) c1
    have f1 := pb_first b1
    have f2 := pb_first c1
    have x1 := e1.2.2 q q1 (by rw [← ih q q1 q2]; exact c3)
    have x2 := e2.2.2 (cn g b) (cn_lt b2 gb) (by rw [ih b b2 gb]; exact b3)
    rw [er b b2 gb, er q q1 q2] at x2
    have eq : q = b := by
      rcases Nat.lt_trichotomy q b with z | z | z
      · have := f1 q z (by rw [← ih q q1 q2]; exact c3)
        omega
      · exact z
      · have := f2 (cn g b) (cn_lt z gb) (by rw [ih b b2 gb]; exact b3)
        rw [er b b2 gb, er q q1 q2] at this
        omega
    subst eq
    rw [b4, c4]
    by_cases e : m = q
    · subst e; rw [va_up_self, va_up_self]
    · rw [va_up_ne _ _ e, va_up_ne _ _ (fun z => e (cn_inj hg q2 z))]
      exact ih m hm hg
theorem pSh_cmp (hw : ∀ m, m < N → ¬ g m = 0 → w (cn g m) = m) (hz : ∀ m, m < N → g m = 0 → mu m = 0) (hs : 0 < sumN mu N) {m : Nat} (hm : m < N) (hg : ¬ g m = 0) : pSh n (fun j => mu (w j)) (cn g N) (cn g m) = pSh n mu N m := by
  unfold pSh
  rw [pL_cmp hw hz, pG_cmp hw hz hs _ (Nat.le_refl _) m hm hg, pB_cmp hw hz]
  show pB n mu N (w (cn g m)) + _ = _
  rw [hw m hm hg]
theorem pSh_00 {m : Nat} (hs : 0 < sumN mu N) (hm : m < N) (h0 : mu m = 0) : pSh n mu N m = 0 := by
  obtain ⟨-, h2, h3⟩ := pG_spec (n := n) hs (pLeft n mu N) (Nat.le_refl _)
  have k1 := h2 m
  have k2 := h3 m hm
  have k3 : pR n mu N m = 0 := by unfold pR; rw [h0, Nat.mul_zero, Nat.zero_mod]
  have k4 : pB n mu N m = 0 := by unfold pB; rw [h0, Nat.mul_zero, Nat.zero_div]
  unfold pSh
  omega
end
/-! a member's grams and plots in a vessel; what a vote tells -/
def gmN (A : AV) (v m : Nat) : Nat := vD A v m + vD A v (m + 20) + vD A v (m + 20 + 20)
def plN (A : AV) (v m : Nat) : Nat := bz (vD A v m) + bz (vD A v (m + 20)) + bz (vD A v (m + 20 + 20))
def tlJ (B : AB) (o : Option Nat) (g q p : Nat) : Int64 := match o with
  | none => lN g
  | some v => tcl (WK (bT B v) (lN g) (lN q) (lN p) 0 [(0, 1)] 0)
def tlN (B : AB) (o : Option Nat) (g q p : Nat) : Nat := (tlJ B o g q p).toInt.toNat
theorem tcl_in (x : Int64) : 0 ≤ (tcl x).toInt ∧ (tcl x).toInt ≤ 1000000000 := by
  unfold tcl
  have z0 : ((0 : Int64)).toInt = 0 := rfl
  have zN : ((1000000000 : Int64)).toInt = 1000000000 := rfl
  split
  · rw [z0]; omega
  · next h1 =>
    split
    · rw [zN]; omega
    · next h2 =>
      rw [fa_ltJ] at h1 h2
      omega
theorem tlJ_n {B : AB} {o : Option Nat} {g q p : Nat} (hg : g ≤ 1000000) : tlJ B o g q p = lN (tlN B o g q p) ∧ tlN B o g q p ≤ 1000000000 := by
  have key : 0 ≤ (tlJ B o g q p).toInt ∧ (tlJ B o g q p).toInt ≤ 1000000000 := by
    cases o with
    | none =>
      show 0 ≤ (lN g).toInt ∧ (lN g).toInt ≤ 1000000000
      rw [lN_toInt (by omega)]
      omega
    | some v => exact tcl_in _
  refine ⟨?_, by unfold tlN; omega⟩
  rw [fa_eqJ, lN_toInt (by unfold tlN; omega)]
  unfold tlN
  omega
theorem gm_le {A : AV} {t v m : Nat} (hO : VOK A t) (hv : v < vn A) (hm : m < 20) : gmN A v m ≤ 1000000 := by
  have h1 := (hO.2.2.1 v hv).2.2.2.2.2.1
  have h2 : ∀ a b c, a < b → b < c → c < 60 → vD A v a + vD A v b + vD A v c ≤ vdry A v := by
    intro a b c hab hbc hc
    unfold vdry
    have k : ∀ f : Nat → Nat, ∀ n, c < n → f a + f b + f c ≤ sumN f n := by
      intro f n
      induction n with
      | zero => intro h; omega
      | succ n ih =>
        intro h
        simp only [sumN]
        by_cases e : c = n
        · subst e
          have j1 : ∀ n, b < n → f a + f b ≤ sumN f n := by
            intro n
            induction n with
            | zero => intro h; omega
            | succ n ih2 =>
              intro h
              simp only [sumN]
              by_cases e : b = n
              · subst e
                have := sumN_one (f := f) (n := b) hab
                omega
              · have := ih2 (by omega); omega
          have := j1 c hbc
          omega
        · have := ih (by omega); omega
    exact k _ 60 hc
  have := h2 m (m + 20) (m + 20 + 20) (by omega) (by omega) (by omega)
  unfold gmN
  omega
theorem pl_le (A : AV) (v m : Nat) : plN A v m ≤ 3 := by
  have := bz_le (vD A v m)
  have := bz_le (vD A v (m + 20))
  have := bz_le (vD A v (m + 20 + 20))
  unfold plN
  omega
