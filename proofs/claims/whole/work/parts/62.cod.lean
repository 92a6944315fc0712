/-! ===== the codes that the reference says, and its pile ===== -/
def pmR (f : Nat → Int32) (hi : Nat) (g q p : Int64) : Nat → Nat → List Int64 → Option Int64
  | 0, _, _ => none
  | m + 1, k, s =>
    if hi ≤ k then none
    else if f k = 7 then (match s with
      | [x] => some x
      | _ => none)
    else if f k < 4 then pmR f hi g q p m (if f k = 0 then k + 2 else k + 1) ((if f k = 0 then (f (k + 1)).toInt64 else if f k = 1 then g else if f k = 2 then q else p) :: s)
    else match s with
      | b :: a :: r => pmR f hi g q p m (k + 1) ((if f k = 4 then a + b else if f k = 5 then a - b else a * b) :: r)
      | _ => none
def Cod (f : Nat → Int32) (g q p : Int64) (a b : Nat) (v : Int64) : Prop := a < b ∧ ∀ f' : Nat → Int32, (∀ k, a ≤ k → k < b → f' k = f k) → ∀ hi, b ≤ hi → ∃ s, ∀ m k, pmR f' hi g q p (m + s) a k = pmR f' hi g q p m b (v :: k)
theorem Cod.congr {f f2 : Nat → Int32} {g q p v : Int64} {a b : Nat} (h : Cod f g q p a b v) (hh : ∀ k, a ≤ k → k < b → f2 k = f k) : Cod f2 g q p a b v := ⟨h.1, fun f' hf => h.2 f' (fun k ha hb => (hf k ha hb).trans (hh k ha hb))⟩
theorem Cod.num {f : Nat → Int32} {g q p : Int64} {a : Nat} {z : Int32} (h0 : f a = 0) (h1 : f (a + 1) = z) : Cod f g q p a (a + 2) z.toInt64 := by
  refine ⟨by omega, fun f' hf hi hh => ⟨1, fun m k => ?_⟩⟩
  have e0 : f' a = 0 := (hf a (Nat.le_refl _) (by omega)).trans h0
  have e1 : f' (a + 1) = z := (hf (a + 1) (by omega) (by omega)).trans h1
  simp only [pmR]
  rw [if_neg (by omega : ¬ hi ≤ a), e0, e1, if_neg (by decide), if_pos (by decide), if_pos rfl, if_pos rfl]
theorem Cod.one {f : Nat → Int32} {g q p v : Int64} {a : Nat} {c : Int32} (h0 : f a = c) (hc : (c = 1 ∧ v = g) ∨ (c = 2 ∧ v = q) ∨ (c = 3 ∧ v = p)) : Cod f g q p a (a + 1) v := by
  refine ⟨by omega, fun f' hf hi hh => ⟨1, fun m k => ?_⟩⟩
  have e0 : f' a = c := (hf a (Nat.le_refl _) (by omega)).trans h0
  simp only [pmR]
  rw [if_neg (by omega : ¬ hi ≤ a), e0]
  rcases hc with ⟨rfl, rfl⟩ | ⟨rfl, rfl⟩ | ⟨rfl, rfl⟩
  · rw [if_neg (by decide), if_pos (by decide), if_neg (by decide), if_neg (by decide), if_pos rfl]
  · rw [if_neg (by decide), if_pos (by decide), if_neg (by decide), if_neg (by decide), if_neg (by decide), if_pos rfl]
  · rw [if_neg (by decide), if_pos (by decide), if_neg (by decide), if_neg (by decide), if_neg (by decide), if_neg (by decide)]
theorem Cod.op {f : Nat → Int32} {g q p x y v : Int64} {a b e : Nat} {c : Int32} (h1 : Cod f g q p a b x) (h2 : Cod f g q p b e y) (h0 : f e = c) (hc : (c = 4 ∧ v = x + y) ∨ (c = 5 ∧ v = x - y) ∨ (c = 6 ∧ v = x * y)) : Cod f g q p a (e + 1) v := by
  have l1 := h1.1
  have l2 := h2.1
  refine ⟨by omega, fun f' hf hi hh => ?_⟩
  obtain ⟨s1, k1⟩ := h1.2 f' (fun k ha hb => hf k ha (by omega)) hi (by omega)
  obtain ⟨s2, k2⟩ := h2.2 f' (fun k ha hb => hf k (by omega) (by omega)) hi (by omega)
  have e0 : f' e = c := (hf e (by omega) (by omega)).trans h0
  refine ⟨1 + s2 + s1, fun m k => ?_⟩
  rw [show m + (1 + s2 + s1) = (m + 1 + s2) + s1 by omega, k1, k2]
  simp only [pmR]
  rw [if_neg (by omega : ¬ hi ≤ e), e0]
  rcases hc with ⟨rfl, rfl⟩ | ⟨rfl, rfl⟩ | ⟨rfl, rfl⟩
  · rw [if_neg (by decide), if_neg (by decide), if_pos rfl]
  · rw [if_neg (by decide), if_neg (by decide), if_neg (by decide), if_pos rfl]
  · rw [if_neg (by decide), if_neg (by decide), if_neg (by decide), if_neg (by decide)]
theorem Cod.fin {f : Nat → Int32} {g q p v : Int64} {b : Nat} (h : Cod f g q p 0 b v) : ∀ f' : Nat → Int32, (∀ k, k < b → f' k = f k) → f' b = 7 → ∀ hi, b < hi → ∃ m, pmR f' hi g q p m 0 [] = some v := by
  intro f' hf h7 hi hh
  obtain ⟨s, k⟩ := h.2 f' (fun k _ hb => hf k hb) hi (by omega)
  refine ⟨1 + s, ?_⟩
  rw [k]
  simp only [pmR]
  rw [if_neg (by omega : ¬ hi ≤ b), if_pos h7]
/-! what a piece of the reference's parser has done: from i to j, from q codes to q2 -/
def POk (T : AT) (i j o q q2 : Nat) (f f2 : Nat → Int32) : Prop := i < j ∧ j ≤ T.1 ∧ q2 + 2 * i ≤ q + 2 * j ∧ (∀ k, k < q → f2 k = f k) ∧ FR T i 1 o 0 = FR T j 0 o 0 ∧ ∀ g r p : Int64, ∃ v, Cod f2 g r p q q2 v ∧ ∀ (x : Int64 × Int64) (k : List (Int64 × Int64)), k.length = o → WK T g r p i (x :: k) 0 = WK T g r p j ((x.1, x.2 * v) :: k) 0
def PBad (T : AT) (i a w o q q2 : Nat) : Prop := FR T i 1 o 0 = some w ∧ w ≤ T.1 ∧ i ≤ a ∧ a ≤ T.1 + (8 - o) ∧ q2 + 2 * i ≤ q + 2 * a
def PXk (T : AT) (i j o q q2 : Nat) (f f2 : Nat → Int32) : Prop := i < j ∧ j ≤ T.1 ∧ q2 + 2 * i ≤ q + 2 * j ∧ (∀ k, k < q → f2 k = f k) ∧ FR T i 1 o 0 = FR T j 0 o 0 ∧ ∀ g r p : Int64, ∃ v, Cod f2 g r p q q2 v ∧ ∀ k : List (Int64 × Int64), k.length = o → ∃ x : Int64 × Int64, x.1 + x.2 = v ∧ WK T g r p i ((0, 1) :: k) 0 = WK T g r p j (x :: k) 0
theorem POk.sp {T : AT} {i j j2 o q q2 : Nat} {f f2 : Nat → Int32} (h : POk T i j o q q2 f f2) (s : Spn T j j2) : POk T i j2 o q q2 f f2 := by
  obtain ⟨h1, h2, h3, h4, h5, h6⟩ := h
  have s1 := s.1
  have s2 := s.2.1
  refine ⟨by omega, s2, by omega, h4, h5.trans (s.fr 0 o), fun g r p => ?_⟩
  obtain ⟨v, c, w⟩ := h6 g r p
  exact ⟨v, c, fun x k hk => (w x k hk).trans (s.wk g r p _ _)⟩
theorem PXk.sp {T : AT} {i j j2 o q q2 : Nat} {f f2 : Nat → Int32} (h : PXk T i j o q q2 f f2) (s : Spn T j j2) : PXk T i j2 o q q2 f f2 := by
  obtain ⟨h1, h2, h3, h4, h5, h6⟩ := h
  have s1 := s.1
  have s2 := s.2.1
  refine ⟨by omega, s2, by omega, h4, h5.trans (s.fr 0 o), fun g r p => ?_⟩
  obtain ⟨v, c, w⟩ := h6 g r p
  refine ⟨v, c, fun k hk => ?_⟩
  obtain ⟨x, e, w2⟩ := w k hk
  exact ⟨x, e, w2.trans (s.wk g r p _ _)⟩
theorem POk.pre {T : AT} {i i2 j o q q2 : Nat} {f f2 : Nat → Int32} (s : Spn T i i2) (h : POk T i2 j o q q2 f f2) : POk T i j o q q2 f f2 := by
  obtain ⟨h1, h2, h3, h4, h5, h6⟩ := h
  have s1 := s.1
  refine ⟨by omega, h2, by omega, h4, (s.fr 1 o).trans h5, fun g r p => ?_⟩
  obtain ⟨v, c, w⟩ := h6 g r p
  exact ⟨v, c, fun x k hk => (s.wk g r p _ _).trans (w x k hk)⟩
theorem PBad.pre {T : AT} {i i2 a w o q q2 : Nat} (s : Spn T i i2) (h : PBad T i2 a w o q q2) : PBad T i a w o q q2 := by
  obtain ⟨h1, h2, h3, h4, h5⟩ := h
  have s1 := s.1
  exact ⟨(s.fr 1 o).trans h1, h2, by omega, h4, by omega⟩
theorem sy_l {f : Nat → Int32} {q k : Nat} {c : Int32} (h : k < q) : va_up f q c k = f k := va_up_ne _ _ (by omega)
theorem POk.num {T : AT} {i o c v : Nat} (h : Nm T i o c v) (hn : ¬ (i + c < T.1 ∧ dg (T.2 (i + c)))) (q : Nat) (f : Nat → Int32) : POk T i (i + c) o q (q + 2) f (va_up (va_up f q 0) (q + 1) (nI v)) := by
  obtain ⟨h1, h2, h3, h4, h5⟩ := h.fin hn
  refine ⟨by omega, h3, by omega, fun k hk => ?_, h4, fun g r p => ⟨lN v, ?_, fun x k _ => h5 g r p x k⟩⟩
  · rw [sy_l (by omega), sy_l hk]
  · rw [← nI_l (n := v) (by omega)]
    exact Cod.num (by rw [sy_l (by omega), va_up_self]) (va_up_self _ _ _)
theorem POk.var {T : AT} {i b : Nat} {c : Int32} (h : i < T.1) (hb : T.2 i = b) (hc : (c = 1 ∧ b = 103) ∨ (c = 2 ∧ b = 113) ∨ (c = 3 ∧ b = 112)) (o q : Nat) (f : Nat → Int32) : POk T i (i + 1) o q (q + 1) f (va_up f q c) := by
  have e1 : FR T i 1 o 0 = FR T (i + 1) 0 o 0 := by
    rw [FR_go h (by rw [hb]; unfold dg; omega) (by rw [hb]; omega) (by rw [hb]; exact Or.inl ⟨rfl, by unfold mb; omega⟩), hb]
    rcases hc with ⟨-, rfl⟩ | ⟨-, rfl⟩ | ⟨-, rfl⟩ <;> rfl
  refine ⟨by omega, h, by omega, fun k hk => sy_l hk, e1, fun g r p => ⟨if c = 1 then g else if c = 2 then r else p, ?_, fun x k _ => ?_⟩⟩
  · refine Cod.one (va_up_self _ _ _) ?_
    rcases hc with ⟨rfl, -⟩ | ⟨rfl, -⟩ | ⟨rfl, -⟩
    · exact Or.inl ⟨rfl, if_pos rfl⟩
    · exact Or.inr (Or.inl ⟨rfl, rfl⟩)
    · exact Or.inr (Or.inr ⟨rfl, rfl⟩)
  · rw [WK_o h (by rw [hb]; unfold dg; omega), hb]
    rcases hc with ⟨rfl, rfl⟩ | ⟨rfl, rfl⟩ | ⟨rfl, rfl⟩ <;> rfl
theorem PBad.here {T : AT} {j o : Nat} (hj : j ≤ T.1) (h : j < T.1 → ¬ dg (T.2 j) ∧ T.2 j ≠ 32 ∧ ¬ mb (T.2 j) o) (q : Nat) : PBad T j j j o q q := by
  refine ⟨?_, hj, Nat.le_refl _, by omega, Nat.le_refl _⟩
  by_cases e : j < T.1
  · obtain ⟨h1, h2, h3⟩ := h e
    exact FR_no e h1 h2 (by unfold mx; intro z; rcases z with z | z; exact h3 z.2; exact z.1 rfl)
  · rw [FR_end (by omega), if_pos (Or.inl rfl)]
    congr 1
    omega
theorem fr_open {T : AT} {i o : Nat} (h : i < T.1) (hb : T.2 i = 40) (ho : o < 8) : FR T i 1 o 0 = FR T (i + 1) 1 (o + 1) 0 := by
  rw [FR_go h (by rw [hb]; decide) (by rw [hb]; decide) (by rw [hb]; exact Or.inl ⟨rfl, by unfold mb; omega⟩), hb]
  rfl
theorem fr_close {T : AT} {i o : Nat} (h : i < T.1) (hb : T.2 i = 41) : FR T i 0 (o + 1) 0 = FR T (i + 1) 0 o 0 := by
  rw [FR_go h (by rw [hb]; decide) (by rw [hb]; decide) (by rw [hb]; exact Or.inr ⟨by decide, by unfold mf; omega⟩), hb]
  rfl
theorem fr_sign {T : AT} {i o : Nat} (h : i < T.1) (hb : sg (T.2 i)) : FR T i 0 o 0 = FR T (i + 1) 1 o 0 := by
  rw [FR_go h (by unfold dg; unfold sg at hb; omega) (by unfold sg at hb; omega) (Or.inr ⟨by decide, Or.inl hb⟩)]
  rcases hb with e | e | e <;> rw [e] <;> rfl
theorem POk.paren {T : AT} {i j o q q2 : Nat} {f f2 : Nat → Int32} (hi : i < T.1) (hb : T.2 i = 40) (ho : o < 8) (h : PXk T (i + 1) j (o + 1) q q2 f f2) (hj : j < T.1) (hc : T.2 j = 41) : POk T i (j + 1) o q q2 f f2 := by
  obtain ⟨h1, h2, h3, h4, h5, h6⟩ := h
  refine ⟨by omega, hj, by omega, h4, (fr_open hi hb ho).trans (h5.trans (fr_close hj hc)), fun g r p => ?_⟩
  obtain ⟨v, c, w⟩ := h6 g r p
  refine ⟨v, c, fun x k hk => ?_⟩
  obtain ⟨y, e, w2⟩ := w (x :: k) (by simp [hk])
  rw [WK_o hi (by rw [hb]; decide), hb]
  have e1 : stpT g r p 40 (x :: k) = (0, 1) :: x :: k := (show stpT g r p 40 (x :: k) = opnT (x :: k) from rfl).trans (if_pos (show (x :: k).length < 9 by rw [List.length_cons, hk]; omega))
  rw [e1, w2, WK_o hj (by rw [hc]; decide), hc]
  have e2 : stpT g r p 41 (y :: x :: k) = (x.1, x.2 * (y.1 + y.2)) :: k := rfl
  rw [e2, e]
theorem PBad.par1 {T : AT} {i a w o q q2 : Nat} (hi : i < T.1) (hb : T.2 i = 40) (ho : o < 8) (h : PBad T (i + 1) a w (o + 1) q q2) : PBad T i (a + 1) w o q q2 := by
  obtain ⟨h1, h2, h3, h4, h5⟩ := h
  exact ⟨(fr_open hi hb ho).trans h1, h2, by omega, by omega, by omega⟩
theorem fr_stop {T : AT} {j o : Nat} (hj : j ≤ T.1) (ho : j = T.1 → 0 < o) (h : j < T.1 → T.2 j ≠ 32 ∧ ¬ mf (T.2 j) o) : FR T j 0 o 0 = some j := by
  by_cases e : j < T.1
  · obtain ⟨h1, h2⟩ := h e
    by_cases d : dg (T.2 j)
    · exact FR_d4 e d (Or.inr ⟨rfl, rfl⟩)
    · exact FR_no e d h1 (by unfold mx; intro z; rcases z with z | z; exact absurd z.1 (by decide); exact h2 z.2)
  · rw [FR_end (by omega), if_pos (Or.inr (ho (by omega)))]
    congr 1
    omega
theorem PBad.par2 {T : AT} {i j o q q2 : Nat} {f f2 : Nat → Int32} (hi : i < T.1) (hb : T.2 i = 40) (ho : o < 8) (h : PXk T (i + 1) j (o + 1) q q2 f f2) (hs : j < T.1 → T.2 j ≠ 32 ∧ ¬ sg (T.2 j)) (hc : j < T.1 → T.2 j ≠ 41) : PBad T i (j + 1) j o q q2 := by
  obtain ⟨h1, h2, h3, h4, h5, h6⟩ := h
  refine ⟨(fr_open hi hb ho).trans (h5.trans (fr_stop h2 (fun _ => by omega) (fun e => ⟨(hs e).1, fun z => ?_⟩))), h2, by omega, by omega, by omega⟩
  rcases z with z | z
  · exact (hs e).2 z
  · exact hc e z.1
theorem POk.mul {T : AT} {i j e o q q2 q3 : Nat} {f f2 f3 : Nat → Int32} (h : POk T i j o q q2 f f2) (hj : j < T.1) (hb : T.2 j = 42) (k : POk T (j + 1) e o q2 q3 f2 f3) : POk T i e o q (q3 + 1) f (va_up f3 q3 6) := by
  obtain ⟨h1, h2, h3, h4, h5, h6⟩ := h
  obtain ⟨k1, k2, k3, k4, k5, k6⟩ := k
  refine ⟨by omega, k2, by omega, fun z hz => ?_, h5.trans ((fr_sign hj (by unfold sg; omega)).trans k5), fun g r p => ?_⟩
  · obtain ⟨v, c, -⟩ := h6 0 0 0
    obtain ⟨v2, c2, -⟩ := k6 0 0 0
    have := c.1
    have := c2.1
    rw [sy_l (by omega), k4 z (by omega), h4 z hz]
  · obtain ⟨v, c, w⟩ := h6 g r p
    obtain ⟨v2, c2, w2⟩ := k6 g r p
    have l1 := c.1
    have l2 := c2.1
    refine ⟨v * v2, Cod.op ((c.congr (f2 := f3) (fun z _ hz => k4 z hz)).congr (fun z _ hz => sy_l (by omega))) (c2.congr (fun z _ hz => sy_l hz)) (va_up_self _ _ _) (Or.inr (Or.inr ⟨rfl, rfl⟩)), fun x l hl => ?_⟩
    rw [w x l hl, WK_o hj (by rw [hb]; decide), hb]
    have e1 : stpT g r p 42 ((x.1, x.2 * v) :: l) = (x.1, x.2 * v) :: l := rfl
    rw [e1, w2 _ l hl, Int64.mul_assoc]
theorem PBad.mul {T : AT} {i j a w o q q2 q3 : Nat} {f f2 : Nat → Int32} (h : POk T i j o q q2 f f2) (hj : j < T.1) (hb : T.2 j = 42) (k : PBad T (j + 1) a w o q2 q3) : PBad T i a w o q (q3 + 1) := by
  obtain ⟨h1, h2, h3, h4, h5, h6⟩ := h
  obtain ⟨k1, k2, k3, k4, k5⟩ := k
  exact ⟨h5.trans ((fr_sign hj (by unfold sg; omega)).trans k1), k2, by omega, k4, by omega⟩
theorem PXk.of {T : AT} {i j o q q2 : Nat} {f f2 : Nat → Int32} (h : POk T i j o q q2 f f2) : PXk T i j o q q2 f f2 := by
  obtain ⟨h1, h2, h3, h4, h5, h6⟩ := h
  refine ⟨h1, h2, h3, h4, h5, fun g r p => ?_⟩
  obtain ⟨v, c, w⟩ := h6 g r p
  exact ⟨v, c, fun k hk => ⟨_, by simp, w (0, 1) k hk⟩⟩
theorem PXk.add {T : AT} {i j e o q q2 q3 b : Nat} {c0 : Int32} {f f2 f3 : Nat → Int32} (h : PXk T i j o q q2 f f2) (hj : j < T.1) (hb : T.2 j = b) (hc : (c0 = 4 ∧ b = 43) ∨ (c0 = 5 ∧ b = 45)) (k : POk T (j + 1) e o q2 q3 f2 f3) : PXk T i e o q (q3 + 1) f (va_up f3 q3 c0) := by
  obtain ⟨h1, h2, h3, h4, h5, h6⟩ := h
  obtain ⟨k1, k2, k3, k4, k5, k6⟩ := k
  refine ⟨by omega, k2, by omega, fun z hz => ?_, h5.trans ((fr_sign hj (by unfold sg; omega)).trans k5), fun g r p => ?_⟩
  · obtain ⟨v, c, -⟩ := h6 0 0 0
    obtain ⟨v2, c2, -⟩ := k6 0 0 0
    have := c.1
    have := c2.1
    rw [sy_l (by omega), k4 z (by omega), h4 z hz]
  · obtain ⟨v, c, w⟩ := h6 g r p
    obtain ⟨v2, c2, w2⟩ := k6 g r p
    have l1 := c.1
    have l2 := c2.1
    refine ⟨if c0 = 4 then v + v2 else v - v2, Cod.op ((c.congr (f2 := f3) (fun z _ hz => k4 z hz)).congr (fun z _ hz => sy_l (by omega))) (c2.congr (fun z _ hz => sy_l hz)) (va_up_self _ _ _) ?_, fun l hl => ?_⟩
    · rcases hc with ⟨rfl, -⟩ | ⟨rfl, -⟩
      · exact Or.inl ⟨rfl, if_pos rfl⟩
      · exact Or.inr (Or.inl ⟨rfl, rfl⟩)
    · obtain ⟨x, ex, wx⟩ := w l hl
      rw [wx, WK_o hj (by rw [hb]; unfold dg; omega), hb]
      rcases hc with ⟨rfl, rfl⟩ | ⟨rfl, rfl⟩
      · have e1 : stpT g r p 43 (x :: l) = (x.1 + x.2, 1) :: l := rfl
        rw [e1, w2 _ l hl]
        exact ⟨_, by rw [← ex, if_pos rfl, Int64.one_mul], rfl⟩
      · have e1 : stpT g r p 45 (x :: l) = (x.1 + x.2, -1) :: l := rfl
        rw [e1, w2 _ l hl]
        exact ⟨_, by rw [← ex, if_neg (by decide), Int64.neg_mul, Int64.one_mul, Int64.sub_eq_add_neg], rfl⟩
theorem PBad.add {T : AT} {i j a w o q q2 q3 : Nat} {f f2 : Nat → Int32} (h : PXk T i j o q q2 f f2) (hj : j < T.1) (hb : T.2 j = 43 ∨ T.2 j = 45) (k : PBad T (j + 1) a w o q2 q3) : PBad T i a w o q (q3 + 1) := by
  obtain ⟨h1, h2, h3, h4, h5, h6⟩ := h
  obtain ⟨k1, k2, k3, k4, k5⟩ := k
  exact ⟨h5.trans ((fr_sign hj (by unfold sg; omega)).trans k1), k2, by omega, k4, by omega⟩
/-- a text without a fault: its codes work out what the class works out -/
def PMv (T : AT) (f : Nat → Int32) : Prop := ∀ g r p : Int64, ∃ m, pmR f 420 g r p m 0 [] = some (WK T g r p 0 [(0, 1)] 0)
theorem PXk.fin {T : AT} {q2 : Nat} {f f2 : Nat → Int32} (h : PXk T 0 T.1 0 0 q2 f f2) : FR T 0 1 0 0 = none ∧ ∀ f', (∀ k, k < q2 → f' k = f2 k) → f' q2 = 7 → q2 < 420 → PMv T f' := by
  obtain ⟨h1, h2, h3, h4, h5, h6⟩ := h
  refine ⟨?_, fun f' hf h7 hq g r p => ?_⟩
  · rw [h5, FR_end (Nat.le_refl _)]
    rfl
  · obtain ⟨v, c, w⟩ := h6 g r p
    obtain ⟨x, e, w2⟩ := w [] rfl
    rw [w2, WK_end (Nat.le_refl _)]
    obtain ⟨m, hm⟩ := c.fin f' hf h7 420 hq
    exact ⟨m, hm.trans (by rw [← e]; rfl)⟩
theorem PXk.stop {T : AT} {j q2 : Nat} {f f2 : Nat → Int32} (h : PXk T 0 j 0 0 q2 f f2) (hj : j < T.1) (hs : T.2 j ≠ 32 ∧ ¬ sg (T.2 j)) : FR T 0 1 0 0 = some j := by
  obtain ⟨h1, h2, h3, h4, h5, h6⟩ := h
  rw [h5]
  exact fr_stop h2 (fun _ => by omega) (fun _ => ⟨hs.1, fun z => by rcases z with z | z; exact hs.2 z; omega⟩)
