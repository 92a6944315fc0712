/-! ===== the first fault of a text, as the class goes through it ===== -/
abbrev dg (b : Nat) : Prop := 48 ≤ b ∧ b ≤ 57
abbrev sg (b : Nat) : Prop := b = 43 ∨ b = 45 ∨ b = 42
abbrev mb (b o : Nat) : Prop := b = 103 ∨ b = 113 ∨ b = 112 ∨ (b = 40 ∧ o < 8)
abbrev mf (b o : Nat) : Prop := sg b ∨ (b = 41 ∧ 0 < o)
abbrev mx (w b o : Nat) : Prop := (w = 1 ∧ mb b o) ∨ (w ≠ 1 ∧ mf b o)
def wn (b : Nat) : Nat := if b = 40 ∨ sg b then 1 else 0
def dn (b o : Nat) : Nat := if b = 40 then o + 1 else if b = 41 then o - 1 else o
def ffR (T : AT) : Nat → Nat → Nat → Nat → Nat → Option Nat
  | 0, _, w, o, _ => if w = 1 ∨ 0 < o then some T.1 else none
  | m + 1, i, w, o, g =>
    if dg (T.2 i) then (if g = 4 ∨ (g = 0 ∧ w = 0) then some i else ffR T m (i + 1) 0 o (g + 1))
    else if T.2 i = 32 then ffR T m (i + 1) w o 0
    else if mx w (T.2 i) o then ffR T m (i + 1) (wn (T.2 i)) (dn (T.2 i) o) 0
    else some i
def FR (T : AT) (i w o g : Nat) : Option Nat := ffR T (T.1 - i) i w o g
theorem FR_end {T : AT} {i w o g : Nat} (h : T.1 ≤ i) : FR T i w o g = if w = 1 ∨ 0 < o then some T.1 else none := by
  unfold FR
  rw [show T.1 - i = 0 by omega]
  rfl
theorem FR_step {T : AT} {i : Nat} (w o g : Nat) (h : i < T.1) : FR T i w o g = if dg (T.2 i) then (if g = 4 ∨ (g = 0 ∧ w = 0) then some i else FR T (i + 1) 0 o (g + 1)) else if T.2 i = 32 then FR T (i + 1) w o 0 else if mx w (T.2 i) o then FR T (i + 1) (wn (T.2 i)) (dn (T.2 i) o) 0 else some i := by
  unfold FR
  rw [show T.1 - i = (T.1 - (i + 1)) + 1 by omega]
  rfl
theorem FR_d4 {T : AT} {i w o g : Nat} (h : i < T.1) (hd : dg (T.2 i)) (hg : g = 4 ∨ (g = 0 ∧ w = 0)) : FR T i w o g = some i := by
  rw [FR_step w o g h, if_pos hd, if_pos hg]
theorem FR_dg {T : AT} {i w o g : Nat} (h : i < T.1) (hd : dg (T.2 i)) (hg : ¬ (g = 4 ∨ (g = 0 ∧ w = 0))) : FR T i w o g = FR T (i + 1) 0 o (g + 1) := by
  rw [FR_step w o g h, if_pos hd, if_neg hg]
theorem FR_sp {T : AT} {i w o g : Nat} (h : i < T.1) (hs : T.2 i = 32) : FR T i w o g = FR T (i + 1) w o 0 := by
  rw [FR_step w o g h, if_neg (by rw [hs]; decide), if_pos hs]
theorem FR_go {T : AT} {i w o g : Nat} (h : i < T.1) (hd : ¬ dg (T.2 i)) (hs : T.2 i ≠ 32) (hm : mx w (T.2 i) o) : FR T i w o g = FR T (i + 1) (wn (T.2 i)) (dn (T.2 i) o) 0 := by
  rw [FR_step w o g h, if_neg hd, if_neg hs, if_pos hm]
theorem FR_no {T : AT} {i w o g : Nat} (h : i < T.1) (hd : ¬ dg (T.2 i)) (hs : T.2 i ≠ 32) (hm : ¬ mx w (T.2 i) o) : FR T i w o g = some i := by
  rw [FR_step w o g h, if_neg hd, if_neg hs, if_neg hm]
theorem FR_drop {T : AT} {i : Nat} (w o g g' : Nat) (h : i < T.1 → ¬ dg (T.2 i)) : FR T i w o g = FR T i w o g' := by
  by_cases hi : i < T.1
  · rw [FR_step w o g hi, FR_step w o g' hi, if_neg (h hi), if_neg (h hi)]
  · rw [FR_end (by omega), FR_end (by omega)]
/-! what the class works out of a text: each open ( has a sum and a term -/
def mulT : List (Int64 × Int64) → Int64 → List (Int64 × Int64)
  | x :: r, v => (x.1, x.2 * v) :: r
  | [], _ => []
def newT : List (Int64 × Int64) → Int64 → List (Int64 × Int64)
  | x :: r, v => (x.1 + x.2, v) :: r
  | [], _ => []
def opnT (k : List (Int64 × Int64)) : List (Int64 × Int64) := if k.length < 9 then (0, 1) :: k else k
def clsT : List (Int64 × Int64) → List (Int64 × Int64)
  | x :: y :: r => (y.1, y.2 * (x.1 + x.2)) :: r
  | k => k
def endT : List (Int64 × Int64) → Int64
  | [] => 0
  | [x] => x.1 + x.2
  | _ :: y :: r => endT (y :: r)
def stpT (g q p : Int64) (b : Nat) (k : List (Int64 × Int64)) : List (Int64 × Int64) :=
  if b = 103 then mulT k g else if b = 113 then mulT k q else if b = 112 then mulT k p else if b = 43 then newT k 1 else if b = 45 then newT k (-1) else if b = 40 then opnT k else if b = 41 then clsT k else k
def wkR (T : AT) (g q p : Int64) : Nat → Nat → List (Int64 × Int64) → Int64 → Int64
  | 0, _, k, _ => endT k
  | m + 1, i, k, z =>
    if dg (T.2 i) then (if i + 1 < T.1 ∧ dg (T.2 (i + 1)) then wkR T g q p m (i + 1) k (z * 10 + lN (T.2 i - 48)) else wkR T g q p m (i + 1) (mulT k (z * 10 + lN (T.2 i - 48))) 0)
    else wkR T g q p m (i + 1) (stpT g q p (T.2 i) k) z
def WK (T : AT) (g q p : Int64) (i : Nat) (k : List (Int64 × Int64)) (z : Int64) : Int64 := wkR T g q p (T.1 - i) i k z
theorem WK_end {T : AT} {g q p : Int64} {i : Nat} {k : List (Int64 × Int64)} {z : Int64} (h : T.1 ≤ i) : WK T g q p i k z = endT k := by
  unfold WK
  rw [show T.1 - i = 0 by omega]
  rfl
theorem WK_step {T : AT} {g q p : Int64} {i : Nat} (k : List (Int64 × Int64)) (z : Int64) (h : i < T.1) : WK T g q p i k z = if dg (T.2 i) then (if i + 1 < T.1 ∧ dg (T.2 (i + 1)) then WK T g q p (i + 1) k (z * 10 + lN (T.2 i - 48)) else WK T g q p (i + 1) (mulT k (z * 10 + lN (T.2 i - 48))) 0) else WK T g q p (i + 1) (stpT g q p (T.2 i) k) z := by
  unfold WK
  rw [show T.1 - i = (T.1 - (i + 1)) + 1 by omega]
  rfl
theorem WK_d1 {T : AT} {g q p : Int64} {i : Nat} {k : List (Int64 × Int64)} {z : Int64} (h : i < T.1) (hd : dg (T.2 i)) (hn : i + 1 < T.1 ∧ dg (T.2 (i + 1))) : WK T g q p i k z = WK T g q p (i + 1) k (z * 10 + lN (T.2 i - 48)) := by
  rw [WK_step k z h, if_pos hd, if_pos hn]
theorem WK_d2 {T : AT} {g q p : Int64} {i : Nat} {k : List (Int64 × Int64)} {z : Int64} (h : i < T.1) (hd : dg (T.2 i)) (hn : ¬ (i + 1 < T.1 ∧ dg (T.2 (i + 1)))) : WK T g q p i k z = WK T g q p (i + 1) (mulT k (z * 10 + lN (T.2 i - 48))) 0 := by
  rw [WK_step k z h, if_pos hd, if_neg hn]
theorem WK_o {T : AT} {g q p : Int64} {i : Nat} {k : List (Int64 × Int64)} {z : Int64} (h : i < T.1) (hd : ¬ dg (T.2 i)) : WK T g q p i k z = WK T g q p (i + 1) (stpT g q p (T.2 i) k) z := by
  rw [WK_step k z h, if_neg hd]
theorem WK_sp {T : AT} {g q p : Int64} {i : Nat} {k : List (Int64 × Int64)} {z : Int64} (h : i < T.1) (hs : T.2 i = 32) : WK T g q p i k z = WK T g q p (i + 1) k z := by
  rw [WK_o h (by rw [hs]; decide), hs]
  rfl
/-! spaces -/
def Spn (T : AT) (i j : Nat) : Prop := i ≤ j ∧ j ≤ T.1 ∧ (∀ p, i ≤ p → p < j → T.2 p = 32) ∧ (j < T.1 → T.2 j ≠ 32)
theorem Spn.fr {T : AT} {i j : Nat} (h : Spn T i j) (w o : Nat) : FR T i w o 0 = FR T j w o 0 := by
  obtain ⟨h1, h2, h3, -⟩ := h
  have key : ∀ m a, a + m = j → i ≤ a → FR T a w o 0 = FR T j w o 0 := by
    intro m
    induction m with
    | zero => intro a ha _; rw [show a = j by omega]
    | succ m ih => intro a ha hb; rw [FR_sp (by omega) (h3 a hb (by omega))]; exact ih (a + 1) (by omega) (by omega)
  exact key (j - i) i (by omega) (Nat.le_refl _)
theorem Spn.wk {T : AT} {i j : Nat} (h : Spn T i j) (g q p : Int64) (k : List (Int64 × Int64)) (z : Int64) : WK T g q p i k z = WK T g q p j k z := by
  obtain ⟨h1, h2, h3, -⟩ := h
  have key : ∀ m a, a + m = j → i ≤ a → WK T g q p a k z = WK T g q p j k z := by
    intro m
    induction m with
    | zero => intro a ha _; rw [show a = j by omega]
    | succ m ih => intro a ha hb; rw [WK_sp (by omega) (h3 a hb (by omega))]; exact ih (a + 1) (by omega) (by omega)
  exact key (j - i) i (by omega) (Nat.le_refl _)
theorem Spn.same {T : AT} {i j : Nat} (h : Spn T i j) (hi : i < T.1 → T.2 i ≠ 32) : j = i := by
  obtain ⟨h1, h2, h3, -⟩ := h
  by_cases e : i < j
  · exact absurd (h3 i (Nat.le_refl _) e) (hi (by omega))
  · omega
/-! a number of at most four digits: c of them are read, their value is v -/
def Nm (T : AT) (i o c v : Nat) : Prop := c ≤ 4 ∧ v < 10 ^ c ∧ i + c ≤ T.1 ∧ (c = 0 → i < T.1 ∧ dg (T.2 i)) ∧ FR T i 1 o 0 = FR T (i + c) (if c = 0 then 1 else 0) o c ∧ ∀ (g q p : Int64) (x : Int64 × Int64) (r : List (Int64 × Int64)), ((i + c < T.1 ∧ dg (T.2 (i + c))) → WK T g q p i (x :: r) 0 = WK T g q p (i + c) (x :: r) (lN v)) ∧ (¬ (i + c < T.1 ∧ dg (T.2 (i + c))) → WK T g q p i (x :: r) 0 = WK T g q p (i + c) ((x.1, x.2 * lN v) :: r) 0)
theorem Nm.start {T : AT} {i : Nat} (o : Nat) (h : i < T.1) (hd : dg (T.2 i)) : Nm T i o 0 0 := by
  refine ⟨by omega, by decide, by omega, fun _ => ⟨h, hd⟩, rfl, fun g q p x r => ⟨fun _ => rfl, fun hn => absurd ⟨h, hd⟩ hn⟩⟩
theorem Nm.next {T : AT} {i o c v : Nat} (h : Nm T i o c v) (hp : i + c < T.1) (hd : dg (T.2 (i + c))) (hc : c ≠ 4) : Nm T i o (c + 1) (10 * v + T.2 (i + c) - 48) := by
  obtain ⟨h1, h2, h3, h4, h5, h6⟩ := h
  have e : 10 * v + T.2 (i + c) - 48 = v * 10 + (T.2 (i + c) - 48) := by omega
  refine ⟨by omega, ?_, by omega, fun q => by omega, ?_, fun g q p x r => ?_⟩
  · rw [Nat.pow_succ]; omega
  · have e2 : (if c + 1 = 0 then 1 else 0) = 0 := if_neg (by omega)
    rw [h5, e2]
    by_cases c0 : c = 0
    · subst c0
      exact FR_dg hp hd (by intro z; rcases z with z | z; omega; exact absurd z.2 (by decide))
    · rw [if_neg c0]
      exact FR_dg hp hd (by omega)
  · have h7 := (h6 g q p x r).1 ⟨hp, hd⟩
    rw [e, ← lN_add, ← lN_mul]
    refine ⟨fun hn => ?_, fun hn => ?_⟩
    · rw [h7]
      exact WK_d1 hp hd hn
    · rw [h7]
      exact WK_d2 hp hd hn
theorem Nm.fail {T : AT} {i o v : Nat} (h : Nm T i o 4 v) (hp : i + 4 < T.1) (hd : dg (T.2 (i + 4))) : FR T i 1 o 0 = some (i + 4) := by
  rw [h.2.2.2.2.1]
  exact FR_d4 hp hd (Or.inl rfl)
theorem Nm.fin {T : AT} {i o c v : Nat} (h : Nm T i o c v) (hn : ¬ (i + c < T.1 ∧ dg (T.2 (i + c)))) : 1 ≤ c ∧ v < 10000 ∧ i + c ≤ T.1 ∧ FR T i 1 o 0 = FR T (i + c) 0 o 0 ∧ ∀ (g q p : Int64) (x : Int64 × Int64) (r : List (Int64 × Int64)), WK T g q p i (x :: r) 0 = WK T g q p (i + c) ((x.1, x.2 * lN v) :: r) 0 := by
  obtain ⟨h1, h2, h3, h4, h5, h6⟩ := h
  have c1 : 1 ≤ c := by
    by_cases c0 : c = 0
    · subst c0
      exact absurd (h4 rfl) hn
    · omega
  refine ⟨c1, ?_, h3, ?_, fun g q p x r => (h6 g q p x r).2 hn⟩
  · have : 10 ^ c ≤ 10 ^ 4 := Nat.pow_le_pow_right (by decide) h1
    omega
  · rw [h5, if_neg (by omega)]
    exact FR_drop 0 o c 0 (fun hi hd => hn ⟨hi, hd⟩)
