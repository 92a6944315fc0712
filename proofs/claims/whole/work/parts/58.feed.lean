/-! ===== feeding the text, as numbers ===== -/
def bz (b : Nat) : Nat := if b = 0 then 0 else 1
def bv (b : Nat) : Int32 := (nI b).toInt8.toInt32
theorem bz_0 {b : Nat} (h : b = 0) : bz b = 0 := if_pos h
theorem bz_1 {b : Nat} (h : ¬ b = 0) : bz b = 1 := if_neg h
theorem bz_le (b : Nat) : bz b ≤ 1 := by unfold bz; split <;> omega
theorem nz1_bz (x : Int32) (s : Nat) : nz1 x s = bz (byt x s) := rfl
theorem bv_nar (b : Nat) : vp_nar .byte (bv b) = bv b := by rw [vp_nar_byte]; simp [bv]
def aPut (T : AT) (b : Nat) : AT := if b = 0 then T else (T.1 + 1, va_up T.2 T.1 b)
theorem aPut_0 {T : AT} {b : Nat} (h : b = 0) : aPut T b = T := if_pos h
theorem aPut_1 {T : AT} {b : Nat} (h : ¬ b = 0) : aPut T b = (T.1 + 1, va_up T.2 T.1 b) := if_neg h
theorem aPut_n (T : AT) (b : Nat) : (aPut T b).1 = T.1 + bz b := by
  by_cases h : b = 0
  · rw [aPut_0 h, bz_0 h]; rfl
  · rw [aPut_1 h, bz_1 h]
theorem TOK.put {T : AT} {b : Nat} (h : TOK T) (hb : b < 256) (hn : T.1 + bz b ≤ 200) : TOK (aPut T b) := by
  by_cases e : b = 0
  · rw [aPut_0 e]; exact h
  · rw [bz_1 e] at hn
    rw [aPut_1 e]
    refine ⟨hn, fun i hi => ?_⟩
    have hi : i < T.1 + 1 := hi
    show 1 ≤ va_up T.2 T.1 b i ∧ va_up T.2 T.1 b i ≤ 255
    by_cases e2 : i = T.1
    · subst e2; rw [va_up_self]; omega
    · rw [va_up_ne _ _ e2]; exact h.2 i (by omega)
def aF (T : AT) (g : Nat → Nat) : Nat → AT
  | 0 => T
  | k + 1 => aPut (aF T g k) (g k)
theorem aF_n (T : AT) (g : Nat → Nat) (k : Nat) : (aF T g k).1 = T.1 + sumN (fun i => bz (g i)) k := by
  induction k with
  | zero => rfl
  | succ k ih => simp only [aF, sumN]; rw [aPut_n, ih]; omega
theorem bsum_le (g : Nat → Nat) {k n : Nat} (h : k ≤ n) : sumN (fun i => bz (g i)) k ≤ sumN (fun i => bz (g i)) n := by
  induction n with
  | zero => rw [show k = 0 by omega]; exact Nat.le_refl _
  | succ n ih =>
    by_cases e : k = n + 1
    · rw [e]; exact Nat.le_refl _
    · have := ih (by omega); simp only [sumN]; omega
theorem bsum_b (g : Nat → Nat) (n : Nat) : sumN (fun i => bz (g i)) n ≤ n := by
  induction n with
  | zero => exact Nat.le_refl _
  | succ n ih => have := bz_le (g n); simp only [sumN]; omega
theorem TOK.feed {T : AT} {g : Nat → Nat} {k : Nat} (h : TOK T) (hb : ∀ i, g i < 256) (hn : T.1 + sumN (fun i => bz (g i)) k ≤ 200) : TOK (aF T g k) := by
  induction k with
  | zero => exact h
  | succ k ih =>
    simp only [sumN] at hn
    exact (ih (by omega)).put (hb k) (by rw [aF_n]; omega)
def aApp (T : AT) (x : Int32) : AT := aPut (aPut (aPut (aPut T (byt x 24)) (byt x 16)) (byt x 8)) (byt x 0)
theorem aApp_n (T : AT) (x : Int32) : (aApp T x).1 = T.1 + nz x := by
  unfold aApp nz
  rw [aPut_n, aPut_n, aPut_n, aPut_n]
  simp only [nz1_bz]
  omega
def fsel (a b c d e : Int32) (k : Nat) : Int32 := if k < 4 then a else if k < 8 then b else if k < 12 then c else if k < 16 then d else e
def fby (a b c d e : Int32) (k : Nat) : Nat := byt (fsel a b c d e k) (24 - 8 * (k % 4))
theorem fby_lt (a b c d e : Int32) (k : Nat) : fby a b c d e k < 256 := byt_lt _ _
theorem app_feed (T : AT) (a b c d e : Int32) : aApp (aApp (aApp (aApp (aApp T a) b) c) d) e = aF T (fby a b c d e) 20 := rfl
theorem cnt_feed (a b c d e : Int32) : nz a + nz b + nz c + nz d + nz e = sumN (fun i => bz (fby a b c d e i)) 20 := by
  have h : sumN (fun i => bz (fby a b c d e i)) 20 = 0 + nz1 a 24 + nz1 a 16 + nz1 a 8 + nz1 a 0 + nz1 b 24 + nz1 b 16 + nz1 b 8 + nz1 b 0 + nz1 c 24 + nz1 c 16 + nz1 c 8 + nz1 c 0 + nz1 d 24 + nz1 d 16 + nz1 d 8 + nz1 d 0 + nz1 e 24 + nz1 e 16 + nz1 e 8 + nz1 e 0 := rfl
  rw [h]
  unfold nz
  omega
theorem up2_up2 {α : Type} (F : Nat → Nat → α) (g k : Nat) (v w : α) : up2 (up2 F g k v) g k w = up2 F g k w := by
  funext x y
  unfold up2
  by_cases e : x = g <;> by_cases e2 : y = k <;> simp [e, e2]
theorem up2_same {α : Type} (F : Nat → Nat → α) (g k : Nat) : up2 F g k (F g k) = F := by
  funext x y
  unfold up2
  by_cases e : x = g <;> by_cases e2 : y = k <;> simp [e, e2]
/-- the text's length and its row, both sides -/
def tst (S : GS) (n : Nat) (f : Nat → Int32) : GS := sI (rA S 206 f) 205 1 (nI n)
def tsm (S : GS) (n : Nat) (f : Nat → Int32) : GS := sI (rA S 16 f) 0 17 (nI n)
theorem tst_put (S : GS) (n m : Nat) (f : Nat → Int32) (v : Int32) : sI (sA (tst S n f) 206 n v) 205 1 (nI m) = tst S m (va_up f n v) := by
  simp only [tst, sI, sA, rA, up2_up, up2_up2]
theorem tsm_put (S : GS) (n m : Nat) (f : Nat → Int32) (v : Int32) : sI (sA (tsm S n f) 16 n v) 0 17 (nI m) = tsm S m (va_up f n v) := by
  simp only [tsm, sI, sA, rA, up2_up, up2_up2]
theorem tst_self {S : GS} {T : AT} (h : YTx S T) : tst S T.1 (aI S 206) = S := by
  have e : fI S 205 1 = nI T.1 := h.1
  show (S.1, S.2.1, S.2.2.1, up2 S.2.2.2.1 205 1 (nI T.1), S.2.2.2.2.1, va_up S.2.2.2.2.2.1 206 (S.2.2.2.2.2.1 206), S.2.2.2.2.2.2) = S
  rw [va_up_same, ← e, show fI S = S.2.2.2.1 from rfl, up2_same]
theorem tsm_self {S : GS} {T : AT} (h : MTx S T) : tsm S T.1 (aI S 16) = S := by
  have e : fI S 0 17 = nI T.1 := h.1
  show (S.1, S.2.1, S.2.2.1, up2 S.2.2.2.1 0 17 (nI T.1), S.2.2.2.2.1, va_up S.2.2.2.2.2.1 16 (S.2.2.2.2.2.1 16), S.2.2.2.2.2.2) = S
  rw [va_up_same, ← e, show fI S = S.2.2.2.1 from rfl, up2_same]
theorem bv_put {T : AT} {f : Nat → Int32} {b : Nat} (hf : ∀ i, i < T.1 → f i = bv (T.2 i)) : ∀ i, i < T.1 + 1 → va_up f T.1 (bv b) i = bv (va_up T.2 T.1 b i) := by
  intro i hi
  by_cases e : i = T.1
  · subst e; rw [va_up_self, va_up_self]
  · rw [va_up_ne _ _ e, va_up_ne _ _ e]; exact hf i (by omega)
theorem ni_put {T : AT} {f : Nat → Int32} {b : Nat} (hf : ∀ i, i < T.1 → f i = nI (T.2 i)) : ∀ i, i < T.1 + 1 → va_up f T.1 (nI b) i = nI (va_up T.2 T.1 b i) := by
  intro i hi
  by_cases e : i = T.1
  · subst e; rw [va_up_self, va_up_self]
  · rw [va_up_ne _ _ e, va_up_ne _ _ e]; exact hf i (by omega)
theorem tst_n (S : GS) (n : Nat) (f : Nat → Int32) : fI (tst S n f) 205 1 = nI n := by rw [tst, fI_sI, up2_at]
theorem tsm_n (S : GS) (n : Nat) (f : Nat → Int32) : fI (tsm S n f) 0 17 = nI n := by rw [tsm, fI_sI, up2_at]
theorem YTx.of {S : GS} {T : AT} {f : Nat → Int32} (hf : ∀ i, i < T.1 → f i = bv (T.2 i)) : YTx (tst S T.1 f) T := ⟨tst_n S T.1 f, fun i hi => (congrFun (va_up_self (aI S) 206 f) i).trans (hf i hi)⟩
theorem MTx.of {S : GS} {T : AT} {f : Nat → Int32} (hf : ∀ i, i < T.1 → f i = nI (T.2 i)) : MTx (tsm S T.1 f) T := ⟨tsm_n S T.1 f, fun i hi => (congrFun (va_up_self (aI S) 16 f) i).trans (hf i hi)⟩
theorem ii_rem {x y : Int32} {a b : Nat} (hx : x = nI a) (hy : y = nI b) (ha : a < 2 ^ 31) (h0 : 0 < b) (hb : b < 2 ^ 31) : x - x / y * y = nI (a % b) := by rw [hx, hy, pk_rem ha h0 hb]
