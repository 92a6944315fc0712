/-! ===== a new vote, on both sides ===== -/
def aVote (B : AB) (T : AT) (x : Nat) : AB := (bn B + 1, va_up (bF B) (bn B) x, va_up (bG B) (bn B) 0, va_up (bT B) (bn B) T)
theorem BOK.vote {B : AB} {T : AT} {x : Nat} (h : BOK B) (hn : bn B < 50) (hT : TOK T) (hx : x ≤ 10000) : BOK (aVote B T x) := by
  refine ⟨by show bn B + 1 ≤ 50; omega, fun v hv => ?_⟩
  have hv : v < bn B + 1 := hv
  show va_up (bF B) (bn B) x v ≤ 10000 ∧ va_up (bG B) (bn B) 0 v ≤ 1 ∧ TOK (va_up (bT B) (bn B) T v)
  by_cases e : v = bn B
  · subst e; rw [va_up_self, va_up_self, va_up_self]; exact ⟨hx, by omega, hT⟩
  · rw [va_up_ne _ _ e, va_up_ne _ _ e, va_up_ne _ _ e]; exact h.2 v (by omega)
section
variable (S : GS) (u n : Nat)
theorem yCp_kd (g : Nat) : kd (yCp S u n) g = if g = 5000 + u then 23 else if g = 4000 + u then 7 else kd S g := rfl
theorem yCp_ln : ln (yCp S u n) (5000 + u) = n := va_up_self (va_up (ln S) (4000 + u) 0) (5000 + u) n
theorem yCp_r4 : rf (yCp S u n) (4000 + u) 0 = some (5000 + u) := up2_at (f := rf (sN (sN S (4000 + u) 7 0) (5000 + u) 23 n)) (g := 4000 + u) (k := 0) (v := some (5000 + u))
theorem yCp_f4 : fI (yCp S u n) (4000 + u) 1 = nI n := by rw [yCp, fI_sI, up2_at]
theorem yCp_a5 {i : Nat} (hi : i < n) : aI (yCp S u n) (5000 + u) i = aI S 206 i := by
  rw [yCp, aI_sI, aI_rA, va_up_self, va_cpy, if_pos (by omega)]
  rw [(yTi_sm S u n).aI (by omega)]
  congr 1
  omega
end
theorem YVo.vote {S : GS} {B : AB} {T : AT} {x : Nat} (hV : YVo S B) (hB : BOK B) (hX : YTx S T) (hn : bn B < 50) : YVo (sI (yAdd S (bn B) T.1 (nI x)) 205 1 0) (aVote B T x) := by
  have sm := (yAdd_sm S (bn B) T.1 (nI x))
  have eI : fI (sI (yAdd S (bn B) T.1 (nI x)) 205 1 0) = up2 (up2 (up2 (fI (yCp (sN S (3000 + bn B) 9 0) (bn B) T.1)) (3000 + bn B) 0 (nI x)) 207 2 (nI (bn B + 1))) 205 1 0 := rfl
  have eR : rf (sI (yAdd S (bn B) T.1 (nI x)) 205 1 0) = up2 (up2 (rf (yCp (sN S (3000 + bn B) 9 0) (bn B) T.1)) (3000 + bn B) 1 (some (4000 + bn B))) 208 (bn B) (some (3000 + bn B)) := rfl
  have eK : kd (sI (yAdd S (bn B) T.1 (nI x)) 205 1 0) = kd (yCp (sN S (3000 + bn B) 9 0) (bn B) T.1) := rfl
  have eL : ln (sI (yAdd S (bn B) T.1 (nI x)) 205 1 0) = ln (yCp (sN S (3000 + bn B) 9 0) (bn B) T.1) := rfl
  have eA : aI (sI (yAdd S (bn B) T.1 (nI x)) 205 1 0) = aI (yCp (sN S (3000 + bn B) 9 0) (bn B) T.1) := rfl
  obtain ⟨y1, y2, y3⟩ := hV
  refine ⟨?_, fun v hv => ?_, fun v hv h1 => ?_⟩
  · rw [eI, up2_ne (by decide), up2_at]; rfl
  · have hv : v < bn B + 1 := hv
    show _ ∧ _ = nI (va_up (bF B) (bn B) x v) ∧ _ = nI (va_up (bG B) (bn B) 0 v) ∧ _ = nI (va_up (bT B) (bn B) T v).1 ∧ ∀ i, i < (va_up (bT B) (bn B) T v).1 → _ = bv ((va_up (bT B) (bn B) T v).2 i)
    by_cases e : v = bn B
    · subst e
      rw [va_up_self, va_up_self, va_up_self]
      refine ⟨⟨?_, ?_, ?_, ?_, ?_, ?_, ?_⟩, ?_, ?_, ?_, fun i hi => ?_⟩
      · rw [eR, up2_at]
      · rw [eK, yCp_kd, if_neg (by omega), if_neg (by omega), kd_sN, va_up_self]
      · rw [eR, up2_ne (by omega), up2_at]
      · rw [eK, yCp_kd, if_neg (by omega), if_pos rfl]
      · rw [eR, up2_ne (by omega), up2_ne (by omega), yCp_r4]
      · rw [eK, yCp_kd, if_pos rfl]
      · show ln (sI (yAdd S (bn B) T.1 (nI x)) 205 1 0) (5000 + bn B) = (va_up (bT B) (bn B) T (bn B)).1
        rw [eL, yCp_ln, va_up_self]
      · rw [eI, up2_ne (by omega), up2_ne (by omega), up2_at]
      · rw [eI, up2_ne (by omega), up2_ne (by omega), up2_nk (by decide), (yCp_sm _ _ _).fI (by omega), fI_sN, va_up_self]; rfl
      · rw [eI, up2_ne (by omega), up2_ne (by omega), up2_ne (by omega), yCp_f4]
      · rw [eA, yCp_a5 _ _ _ hi, sN_aI (by omega)]
        exact hX.b hi
    · have h5 := y2 v (by omega)
      rw [va_up_ne _ _ e, va_up_ne _ _ e, va_up_ne _ _ e]
      have k1 : ∀ g, (g = 3000 + v ∨ g = 4000 + v ∨ g = 5000 + v) → ¬ (g = 3000 + bn B ∨ g = 4000 + bn B ∨ g = 5000 + bn B ∨ g = 207 ∨ g = 208) := fun g hg => by omega
      have j1 := k1 (3000 + v) (by omega)
      have j2 := k1 (4000 + v) (by omega)
      have j3 := k1 (5000 + v) (by omega)
      have eI2 : ∀ g, g ≠ 205 → fI (sI (yAdd S (bn B) T.1 (nI x)) 205 1 0) g = fI (yAdd S (bn B) T.1 (nI x)) g := fun g hg => up2_row hg
      refine ⟨⟨?_, ?_, ?_, ?_, ?_, ?_, ?_⟩, ?_, ?_, ?_, fun i hi => ?_⟩
      · rw [eR, up2_nk e, up2_ne (by omega), (yCp_sm _ _ _).rf (by omega), rf_sN, va_up_ne _ _ (by omega)]; exact h5.1.1
      · exact (sm.kd j1).trans h5.1.2.1
      · exact (congrFun (sm.rf j1) 1).trans h5.1.2.2.1
      · exact (sm.kd j2).trans h5.1.2.2.2.1
      · exact (congrFun (sm.rf j2) 0).trans h5.1.2.2.2.2.1
      · exact (sm.kd j3).trans h5.1.2.2.2.2.2.1
      · show ln (yAdd S (bn B) T.1 (nI x)) (5000 + v) = (va_up (bT B) (bn B) T v).1
        rw [va_up_ne _ _ e]; exact (sm.ln j3).trans h5.1.2.2.2.2.2.2
      · rw [eI2 _ (by omega), sm.fI j1]; exact h5.2.1
      · rw [eI2 _ (by omega), sm.fI j1]; exact h5.2.2.1
      · rw [eI2 _ (by omega), sm.fI j2]; exact h5.2.2.2.1
      · exact (congrFun (sm.aI j3) i).trans (h5.2.2.2.2 i hi)
  · have hv : bn B + 1 ≤ v := hv
    have k1 := y3 v (by omega) h1
    exact ⟨(sm.kd (by omega)).trans k1.1, (sm.kd (by omega)).trans k1.2.1, (sm.kd (by omega)).trans k1.2.2⟩
theorem yok_vote {S : GS} {u n : Nat} {x : Int32} (hQ : YOK S) : YOK (sI (yAdd S u n x) 205 1 0) := by
  have h1 : YOK (yCp (sN S (3000 + u) 9 0) u n) := yCp_ok (hQ.sN (by omega))
  have h2 : YOK (sR (sR (sI (yCp (sN S (3000 + u) 9 0) u n) (3000 + u) 0 x) (3000 + u) 1 (some (4000 + u))) 208 u (some (3000 + u))) := YOK.sR (Or.inr (Or.inl rfl)) (YOK.sR (S := sI (yCp (sN S (3000 + u) 9 0) u n) (3000 + u) 0 x) (Or.inl (by omega)) h1)
  exact h2
/-! the reference -/
theorem pm_none {f : Nat → Int32} {hi : Nat} {g q p : Int64} {m k : Nat} {s : List Int64} (h : hi ≤ k) : pmR f hi g q p m k s = none := by
  cases m with
  | zero => rfl
  | succ m => simp only [pmR]; rw [if_pos h]
theorem pm_congr {f f' : Nat → Int32} {hi : Nat} {g q p : Int64} (hf : ∀ k, k < hi → f' k = f k) (m : Nat) : ∀ (k : Nat) (s : List Int64), pmR f' hi g q p m k s = pmR f hi g q p m k s := by
  induction m with
  | zero => intro k s; rfl
  | succ m ih =>
    intro k s
    simp only [pmR]
    by_cases e : hi ≤ k
    · rw [if_pos e, if_pos e]
    · rw [if_neg e, if_neg e, hf k (by omega)]
      by_cases e7 : f k = 7
      · rw [if_pos e7, if_pos e7]
      · rw [if_neg e7, if_neg e7]
        by_cases e4 : f k < 4
        · rw [if_pos e4, if_pos e4]
          by_cases e0 : f k = 0
          · rw [if_pos e0, if_pos e0, if_pos e0]
            by_cases e1 : k + 1 < hi
            · rw [hf (k + 1) e1, ih]
            · rw [pm_none (by omega), pm_none (by omega)]
          · rw [if_neg e0, if_neg e0, if_neg e0, ih]
        · rw [if_neg e4, if_neg e4]
          match s with
          | b :: a :: r => exact ih _ _
          | [] => rfl
          | [x] => rfl
theorem PMv.congr {T : AT} {f f' : Nat → Int32} (h : PMv T f) (hf : ∀ k, k < 420 → f' k = f k) : PMv T f' := fun g r p => by
  obtain ⟨m, hm⟩ := h g r p
  exact ⟨m, (pm_congr hf m 0 []).trans hm⟩
theorem pst_k (S : GS) (a : Nat) (w : Int32) (o q : Nat) (f : Nat → Int32) {k : Nat} (h : k ≠ 18 ∧ k ≠ 19 ∧ k ≠ 20 ∧ k ≠ 25) : fI (pst S a w o q f) 0 k = fI S 0 k := by
  rw [pst, fI_sI, fI_sI, fI_sI, fI_sI, up2_nk h.2.2.2, up2_nk h.2.2.1, up2_nk h.2.1, up2_nk h.1]
  rfl
def mVot (S : GS) (a : Nat) (w : Int32) (o q : Nat) (f c : Nat → Int32) (n : Nat) (x : Int32) : GS := sI (sI (sA (sA (rA (pst S a w o q f) 21 c) 22 n x) 23 n 0) 0 24 (nI (n + 1))) 0 17 0
def cOld (S : GS) (n q : Nat) (f c : Nat → Int32) : Prop := (∀ k, k < q → c (420 * n + k) = f k) ∧ ∀ j, j < 420 * n → c j = aI S 21 j
theorem MVo.vote {S : GS} {B : AB} {T : AT} {a : Nat} {w : Int32} {o q : Nat} {f c : Nat → Int32} {x : Nat} (hV : MVo S B) (hc : cOld S (bn B) q f c) (hP : ∀ f3, (∀ k, k < q → f3 k = f k) → PMv T f3) : MVo (mVot S a w o q f c (bn B) (nI x)) (aVote B T x) := by
  refine ⟨?_, fun v hv => ?_⟩
  · rw [mVot, fI_sI, up2_nk (by decide), fI_sI, up2_at]; rfl
  · have hv : v < bn B + 1 := hv
    show _ = nI (va_up (bF B) (bn B) x v) ∧ _ = nI (va_up (bG B) (bn B) 0 v) ∧ PMv (va_up (bT B) (bn B) T v) _
    have e2 : aI (mVot S a w o q f c (bn B) (nI x)) 22 v = if v = bn B then nI x else aI S 22 v := by
      show up2 (up2 (va_up (va_up (aI S) 26 f) 21 c) 22 (bn B) (nI x)) 23 (bn B) 0 22 v = _
      rw [up2_ne (by decide), up2_self, va_up_ne _ _ (by decide), va_up_ne _ _ (by decide)]
    have e3 : aI (mVot S a w o q f c (bn B) (nI x)) 23 v = if v = bn B then 0 else aI S 23 v := by
      show up2 (up2 (va_up (va_up (aI S) 26 f) 21 c) 22 (bn B) (nI x)) 23 (bn B) 0 23 v = _
      rw [up2_self, up2_ne (by decide), va_up_ne _ _ (by decide), va_up_ne _ _ (by decide)]
    have e1 : aI (mVot S a w o q f c (bn B) (nI x)) 21 = c := by
      show up2 (up2 (va_up (va_up (aI S) 26 f) 21 c) 22 (bn B) (nI x)) 23 (bn B) 0 21 = _
      rw [up2_row (by decide), up2_row (by decide), va_up_self]
    rw [e2, e3, e1]
    by_cases e : v = bn B
    · subst e
      rw [va_up_self, va_up_self, va_up_self, if_pos rfl, if_pos rfl]
      exact ⟨rfl, rfl, hP _ hc.1⟩
    · rw [va_up_ne _ _ e, va_up_ne _ _ e, va_up_ne _ _ e, if_neg e, if_neg e]
      have h5 := hV.2 v (by omega)
      exact ⟨h5.1, h5.2.1, h5.2.2.congr (fun k hk => hc.2 _ (by omega))⟩
