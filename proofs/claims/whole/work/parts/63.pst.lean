/-! ===== the state of the reference's parser ===== -/
theorem up2_cm {α : Type} (F : Nat → Nat → α) (g k k' : Nat) (v w : α) (h : k ≠ k') : up2 (up2 F g k v) g k' w = up2 (up2 F g k' w) g k v := by
  funext x y
  unfold up2
  by_cases e : x = g
  · by_cases e1 : y = k
    · subst e1; simp [e, h]
    · simp [e, e1]
  · simp [e]
def pst (S : GS) (a : Nat) (w : Int32) (o q : Nat) (f : Nat → Int32) : GS := sI (sI (sI (sI (rA S 26 f) 0 18 (nI a)) 0 19 w) 0 20 (nI o)) 0 25 (nI q)
section
variable (S : GS) (a : Nat) (w : Int32) (o q : Nat) (f : Nat → Int32)
theorem pst_a : fI (pst S a w o q f) 0 18 = nI a := by
  rw [pst, fI_sI, fI_sI, fI_sI, fI_sI, up2_nk (by decide), up2_nk (by decide), up2_nk (by decide), up2_at]
theorem pst_w : fI (pst S a w o q f) 0 19 = w := by
  rw [pst, fI_sI, fI_sI, fI_sI, fI_sI, up2_nk (by decide), up2_nk (by decide), up2_at]
theorem pst_o : fI (pst S a w o q f) 0 20 = nI o := by
  rw [pst, fI_sI, fI_sI, fI_sI, fI_sI, up2_nk (by decide), up2_at]
theorem pst_q : fI (pst S a w o q f) 0 25 = nI q := by
  rw [pst, fI_sI, fI_sI, fI_sI, fI_sI, up2_at]
theorem pst_n {T : AT} (h : MTx S T) : fI (pst S a w o q f) 0 17 = nI T.1 := by
  rw [pst, fI_sI, fI_sI, fI_sI, fI_sI, up2_nk (by decide), up2_nk (by decide), up2_nk (by decide), up2_nk (by decide)]
  exact h.1
theorem pst_t {T : AT} (h : MTx S T) {i : Nat} (hi : i < T.1) : aI (pst S a w o q f) 16 i = nI (T.2 i) := by
  show va_up (aI S) 26 f 16 i = _
  rw [va_up_ne _ _ (by decide)]
  exact h.2 i hi
theorem pst_sa (b : Nat) : sI (pst S a w o q f) 0 18 (nI b) = pst S b w o q f := by
  simp only [pst, sI, rA]
  rw [up2_cm _ 0 25 18 _ _ (by decide), up2_cm _ 0 20 18 _ _ (by decide), up2_cm _ 0 19 18 _ _ (by decide), up2_up2]
theorem pst_sw (z : Int32) : sI (pst S a w o q f) 0 19 z = pst S a z o q f := by
  simp only [pst, sI, rA]
  rw [up2_cm _ 0 25 19 _ _ (by decide), up2_cm _ 0 20 19 _ _ (by decide), up2_up2]
theorem pst_so (b : Nat) : sI (pst S a w o q f) 0 20 (nI b) = pst S a w b q f := by
  simp only [pst, sI, rA]
  rw [up2_cm _ 0 25 20 _ _ (by decide), up2_up2]
theorem pst_say (c : Int32) (b : Nat) : sI (sA (pst S a w o q f) 26 q c) 0 25 (nI b) = pst S a w o b (va_up f q c) := by
  simp only [pst, sI, sA, rA, up2_up, up2_up2]
end
theorem pst_in (S : GS) (w : Int32) : sI (sI (sI (sI S 0 18 (nI 0)) 0 19 w) 0 20 (nI 0)) 0 25 (nI 0) = pst S 0 w 0 0 (aI S 26) := by
  rw [pst, rA_self]
def lkv (T : AT) (j : Nat) : Int32 := if j < T.1 then nI (T.2 j) else -1
theorem lk_1 {T : AT} {j : Nat} (h : j < T.1) : lkv T j = nI (T.2 j) := if_pos h
theorem lk_0 {T : AT} {j : Nat} (h : ¬ j < T.1) : lkv T j = -1 := if_neg h
theorem lk_v {T : AT} {j : Nat} (hT : TOK T) (hj : j ≤ T.1) : (j < T.1 ∧ (lkv T j).toInt = (T.2 j : Int) ∧ T.2 j ≤ 255) ∨ (j = T.1 ∧ (lkv T j).toInt = -1) := by
  by_cases h : j < T.1
  · have := hT.2 j h
    exact Or.inl ⟨h, by rw [lk_1 h, nI_toInt (by omega)], this.2⟩
  · exact Or.inr ⟨by omega, by rw [lk_0 h]; rfl⟩
abbrev PF1 (S : GS) (T : AT) (i o q : Nat) (f : Nat → Int32) : Option Value → GS → Prop := fun r S2 => r = none ∧ ((∃ j q2 f2, S2 = pst S j (-1) o q2 f2 ∧ POk T i j o q q2 f f2) ∨ (∃ a w q2 f2, S2 = pst S a (nI w) o q2 f2 ∧ PBad T i a w o q q2))
abbrev PT1 (S : GS) (T : AT) (i o q : Nat) (f : Nat → Int32) : Option Value → GS → Prop := fun r S2 => r = none ∧ ((∃ j q2 f2, S2 = pst S j (-1) o q2 f2 ∧ POk T i j o q q2 f f2 ∧ (j < T.1 → T.2 j ≠ 32 ∧ T.2 j ≠ 42)) ∨ (∃ a w q2 f2, S2 = pst S a (nI w) o q2 f2 ∧ PBad T i a w o q q2))
abbrev PX1 (S : GS) (T : AT) (i o q : Nat) (f : Nat → Int32) : Option Value → GS → Prop := fun r S2 => r = none ∧ ((∃ j q2 f2, S2 = pst S j (-1) o q2 f2 ∧ PXk T i j o q q2 f f2 ∧ (j < T.1 → T.2 j ≠ 32 ∧ ¬ sg (T.2 j))) ∨ (∃ a w q2 f2, S2 = pst S a (nI w) o q2 f2 ∧ PBad T i a w o q q2))
def CFac (l : Launch) (d o : Nat) : Prop := ∀ (S : GS) (T : AT) (i q : Nat) (f : Nat → Int32), TOK T → MOK S → MTx S T → i ≤ T.1 → q ≤ 2 * i → GC l d yX11_factor cX11_factor 2 none [.ref 0] (pst S i (-1) o q f) (PF1 S T i o q f) 0 0
def CTer (l : Launch) (d o : Nat) : Prop := ∀ (S : GS) (T : AT) (i q : Nat) (f : Nat → Int32), TOK T → MOK S → MTx S T → i ≤ T.1 → q ≤ 2 * i → GC l d yX11_term cX11_term 1 none [.ref 0] (pst S i (-1) o q f) (PT1 S T i o q f) 0 0
def CExp (l : Launch) (d o : Nat) : Prop := ∀ (S : GS) (T : AT) (i q : Nat) (f : Nat → Int32), TOK T → MOK S → MTx S T → i ≤ T.1 → q ≤ 2 * i → GC l d yX11_expression cX11_expression 2 none [.ref 0] (pst S i (-1) o q f) (PX1 S T i o q f) 0 0
theorem nIm1 {w : Nat} (h : w < 2 ^ 31) : ¬ nI w = -1 := by
  rw [fa_eq, nI_toInt h, show ((-1 : Int32)).toInt = -1 from rfl]
  omega
theorem PF1_pre {S : GS} {T : AT} {i j o q : Nat} {f : Nat → Int32} {r : Option Value} {S2 : GS} (s : Spn T i j) (h : PF1 S T j o q f r S2) : PF1 S T i o q f r S2 := by
  obtain ⟨rfl, ⟨j2, q2, f2, rfl, k⟩ | ⟨a, w, q2, f2, rfl, k⟩⟩ := h
  · exact ⟨rfl, Or.inl ⟨j2, q2, f2, rfl, POk.pre s k⟩⟩
  · exact ⟨rfl, Or.inr ⟨a, w, q2, f2, rfl, PBad.pre s k⟩⟩
def an : Option Nat → Int32
  | none => -1
  | some i => nI i
