/-! ===== the class's reckoner: its stack in two rows ===== -/
def Kst : List (Int64 × Int64) → (Nat → Int64) → (Nat → Int64) → Prop
  | [], _, _ => True
  | x :: r, f1, f2 => f1 r.length = x.1 ∧ f2 r.length = x.2 ∧ Kst r f1 f2
theorem Kst.up1 {k : List (Int64 × Int64)} {f1 f2 : Nat → Int64} {n : Nat} {v : Int64} (h : Kst k f1 f2) (hn : k.length ≤ n) : Kst k (va_up f1 n v) f2 := by
  induction k with
  | nil => trivial
  | cons x r ih =>
    simp only [List.length_cons] at hn
    exact ⟨(va_up_ne _ _ (by omega)).trans h.1, h.2.1, ih h.2.2 (by omega)⟩
theorem Kst.up2 {k : List (Int64 × Int64)} {f1 f2 : Nat → Int64} {n : Nat} {v : Int64} (h : Kst k f1 f2) (hn : k.length ≤ n) : Kst k f1 (va_up f2 n v) := by
  induction k with
  | nil => trivial
  | cons x r ih =>
    simp only [List.length_cons] at hn
    exact ⟨h.1, (va_up_ne _ _ (by omega)).trans h.2.1, ih h.2.2 (by omega)⟩
theorem Kst.endT {k : List (Int64 × Int64)} {f1 f2 : Nat → Int64} (h : Kst k f1 f2) (hk : 1 ≤ k.length) : f1 0 + f2 0 = endT k := by
  induction k with
  | nil => exact absurd hk (by decide)
  | cons x r ih =>
    cases r with
    | nil =>
      obtain ⟨h1, h2, -⟩ := h
      simp only [List.length_nil] at h1 h2
      rw [h1, h2]
      rfl
    | cons y r => exact ih h.2.2 (by simp)
def rck (S : GS) (n : Nat) (f1 f2 : Nat → Int64) : GS := sI (rL (rL S 210 f1) 211 f2) 209 2 (nI n)
section
variable (S : GS) (n : Nat) (f1 f2 : Nat → Int64)
theorem rck_n : fI (rck S n f1 f2) 209 2 = nI n := by rw [rck, fI_sI, up2_at]
theorem rck_1 (i : Nat) : aJ (rck S n f1 f2) 210 i = f1 i := by
  show va_up (va_up (aJ S) 210 f1) 211 f2 210 i = _
  rw [va_up_ne _ _ (by decide), va_up_self]
theorem rck_2 (i : Nat) : aJ (rck S n f1 f2) 211 i = f2 i := by
  show va_up (va_up (aJ S) 210 f1) 211 f2 211 i = _
  rw [va_up_self]
theorem va_up_up {α : Type} (F : Nat → α) (g : Nat) (v w : α) : va_up (va_up F g v) g w = va_up F g w := by
  funext x
  unfold va_up
  by_cases e : x = g <;> simp [e]
theorem va_up_cm {α : Type} (F : Nat → α) {g h : Nat} (v w : α) (hn : g ≠ h) : va_up (va_up F g v) h w = va_up (va_up F h w) g v := by
  funext x
  unfold va_up
  by_cases e : x = g
  · subst e; simp [hn]
  · simp [e]
theorem rck_s1 (i : Nat) (v : Int64) : sL (rck S n f1 f2) 210 i v = rck S n (va_up f1 i v) f2 := by
  simp only [rck, sL, sI, rL]
  rw [up2_upn _ (by decide), up2_up]
theorem rck_s2 (i : Nat) (v : Int64) : sL (rck S n f1 f2) 211 i v = rck S n f1 (va_up f2 i v) := by
  simp only [rck, sL, sI, rL]
  rw [up2_up]
theorem rck_sn (m : Nat) : sI (rck S n f1 f2) 209 2 (nI m) = rck S m f1 f2 := by
  simp only [rck, sI, rL, up2_up2]
theorem rck_in : sI S 209 2 (nI n) = rck S n (aJ S 210) (aJ S 211) := by
  rw [rck, rL_self, show aJ S 211 = aJ (rL S 210 (aJ S 210)) 211 from by rw [rL_self]]
  rw [rL_self, rL_self]
end
/-- the stack after each byte -/
theorem len_mulT (k : List (Int64 × Int64)) (v : Int64) : (mulT k v).length = k.length := by cases k <;> rfl
theorem len_newT (k : List (Int64 × Int64)) (v : Int64) : (newT k v).length = k.length := by cases k <;> rfl
theorem Kst.mul {k : List (Int64 × Int64)} {f1 f2 : Nat → Int64} {n : Nat} (h : Kst k f1 f2) (hn : k.length = n + 1) (v : Int64) : Kst (mulT k v) f1 (va_up f2 n (f2 n * v)) := by
  cases k with
  | nil => trivial
  | cons x r =>
    simp only [List.length_cons] at hn
    obtain rfl : r.length = n := by omega
    exact ⟨h.1, by rw [va_up_self, h.2.1], h.2.2.up2 (Nat.le_refl _)⟩
theorem Kst.new {k : List (Int64 × Int64)} {f1 f2 : Nat → Int64} {n : Nat} (h : Kst k f1 f2) (hn : k.length = n + 1) (v : Int64) : Kst (newT k v) (va_up f1 n (f1 n + f2 n)) (va_up f2 n v) := by
  cases k with
  | nil => trivial
  | cons x r =>
    simp only [List.length_cons] at hn
    obtain rfl : r.length = n := by omega
    exact ⟨by rw [va_up_self, h.1, h.2.1], va_up_self _ _ _, (h.2.2.up1 (Nat.le_refl _)).up2 (Nat.le_refl _)⟩
theorem Kst.opn {k : List (Int64 × Int64)} {f1 f2 : Nat → Int64} {n : Nat} (h : Kst k f1 f2) (hn : k.length = n) : Kst ((0, 1) :: k) (va_up f1 n 0) (va_up f2 n 1) := by
  subst hn
  exact ⟨va_up_self _ _ _, va_up_self _ _ _, (h.up1 (Nat.le_refl _)).up2 (Nat.le_refl _)⟩
theorem Kst.cls {k : List (Int64 × Int64)} {f1 f2 : Nat → Int64} {n : Nat} (h : Kst k f1 f2) (hn : k.length = n + 2) : Kst (clsT k) f1 (va_up f2 n (f2 n * (f1 (n + 1) + f2 (n + 1)))) ∧ (clsT k).length = n + 1 := by
  match k, hn with
  | x :: y :: r, hn =>
    simp only [List.length_cons] at hn
    obtain rfl : r.length = n := by omega
    obtain ⟨h1, h2, h3, h4, h5⟩ := h
    simp only [List.length_cons] at h1 h2
    exact ⟨⟨h3, by rw [va_up_self, h1, h2, h4], h5.up2 (Nat.le_refl _)⟩, by simp [clsT]⟩
theorem clsT_1 {k : List (Int64 × Int64)} (hn : k.length = 1) : clsT k = k := by
  match k, hn with
  | [x], _ => rfl
theorem opnT_9 {k : List (Int64 × Int64)} (hn : k.length = 9) : opnT k = k := if_neg (by omega)
theorem opnT_l {k : List (Int64 × Int64)} (hn : k.length < 9) : opnT k = (0, 1) :: k := if_pos hn
theorem bv_small {b : Nat} (h : b < 128) : bv b = nI b := by
  rw [fa_eq, bv_toInt (by omega), if_pos h, nI_toInt (by omega)]
theorem dig_l {b : Nat} (h : dg b) : (bv b - 48).toInt64 = lN (b - 48) := by
  have h1 := h.1
  have h2 := h.2
  rw [bv_small (by omega), show (48 : Int32) = nI 48 from rfl, pk_sub (by omega), nI_l (by omega)]
/-- what is told: between 0 and 1000000000 -/
def tcl (x : Int64) : Int64 := if x < 0 then 0 else if 1000000000 < x then 1000000000 else x
theorem tcl_mm (s : Int64) : (if (if s < 1000000000 then s else 1000000000) < (0 : Int64) then (0 : Int64) else (if s < 1000000000 then s else 1000000000)) = tcl s := by
  unfold tcl
  have z0 : ((0 : Int64)).toInt = 0 := rfl
  have zN : ((1000000000 : Int64)).toInt = 1000000000 := rfl
  by_cases h2 : s < 1000000000
  · rw [if_pos h2]
    by_cases h1 : s < 0
    · rw [if_pos h1, if_pos h1]
    · rw [if_neg h1, if_neg h1, if_neg (fun z => by rw [fa_ltJ] at h2 z; omega)]
  · rw [if_neg h2, if_neg (by decide), if_neg (fun z => by rw [fa_ltJ] at h2 z; omega)]
    by_cases h3 : 1000000000 < s
    · rw [if_pos h3]
    · rw [if_neg h3, fa_eqJ]
      rw [fa_ltJ] at h2 h3
      omega
theorem lks {x : Int} (h : x ≠ 40 ∧ x ≠ 41 ∧ x ≠ 43 ∧ x ≠ 45 ∧ x ≠ 103 ∧ x ≠ 112 ∧ x ≠ 113) : Op.lookupswitch.offset [(40, 138), (41, 145), (43, 120), (45, 128), (103, 68), (112, 102), (113, 85)] 152 x = 152 := by
  simp only [Op.lookupswitch.offset_cons, Op.lookupswitch.offset_nil]
  rw [if_neg (by omega), if_neg (by omega), if_neg (by omega), if_neg (by omega), if_neg (by omega), if_neg (by omega), if_neg (by omega)]
theorem rck_f (S : GS) (n : Nat) (f1 f2 : Nat → Int64) {g k : Nat} (hg : g ≠ 209) : fI (rck S n f1 f2) g k = fI S g k := by
  rw [rck, fI_sI, up2_ne hg]
  rfl
