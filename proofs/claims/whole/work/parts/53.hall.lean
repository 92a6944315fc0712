/-! ===== where every job has a day no row is tight ===== -/
def jval (B : AP) (D : Nat → Option Nat) : Prop := ∀ j t, D j = some t → jF B j ≤ t ∧ t ≤ jL B j
def dcnt (D : Nat → Option Nat) (t n : Nat) : Nat := sumN (fun j => if D j = some t then 1 else 0) n
theorem jst_val {B : AP} {d : Nat} {D : Nat → Option Nat} (h : jval B D) : jval B (jst B d D) := by
  intro j t hj
  cases hb : jb B D d (jn B) with
  | none => rw [jst_none hb] at hj; exact h j t hj
  | some c =>
    rw [jst_some hb] at hj
    by_cases e : j = c
    · subst e
      rw [va_up_self] at hj
      cases hj
      exact (jb_lt _ _ hb).2.2
    · rw [va_up_ne _ _ e] at hj; exact h j t hj
theorem jit_val {B : AP} {d : Nat} : ∀ i (D : Nat → Option Nat), jval B D → jval B (jit B d i D)
  | 0, _, h => h
  | i + 1, D, h => jst_val (jit_val i D h)
theorem jpl_val {B : AP} : ∀ k, jval B (jpl B k)
  | 0 => fun j t h => by cases h
  | k + 1 => jit_val _ _ (jpl_val k)
theorem dcnt_up {D : Nat → Option Nat} {b d t n : Nat} (hb : b < n) (hD : D b = none) : dcnt (va_up D b (some d)) t n = dcnt D t n + if t = d then 1 else 0 := by
  have h := sumN_up (f := fun j => if D j = some t then 1 else 0) (g := fun j => if va_up D b (some d) j = some t then 1 else 0) hb (fun j _ hj => by rw [va_up_ne _ _ hj])
  have h1 : (if D b = some t then 1 else 0) = 0 := if_neg (by rw [hD]; intro q; cases q)
  have h2 : (if va_up D b (some d) b = some t then 1 else 0) = if t = d then 1 else 0 := by
    rw [va_up_self]
    by_cases e : t = d
    · subst e; rw [if_pos rfl, if_pos rfl]
    · rw [if_neg (fun q => e (Option.some.inj q).symm), if_neg e]
  simp only [h1, h2] at h
  unfold dcnt
  omega
theorem jst_cnt {B : AP} {d t : Nat} {D : Nat → Option Nat} : dcnt (jst B d D) t (jn B) ≤ dcnt D t (jn B) + if t = d then 1 else 0 := by
  cases hb : jb B D d (jn B) with
  | none => rw [jst_none hb]; exact Nat.le_add_right _ _
  | some c =>
    rw [jst_some hb, dcnt_up (jb_lt _ _ hb).1 (jb_lt _ _ hb).2.1]
    exact Nat.le_refl _
theorem jit_cnt {B : AP} {d t : Nat} : ∀ i (D : Nat → Option Nat), dcnt (jit B d i D) t (jn B) ≤ dcnt D t (jn B) + if t = d then i else 0
  | 0, D => by
    have : (if t = d then 0 else 0) = 0 := by split <;> rfl
    rw [this]
    exact Nat.le_refl _
  | i + 1, D => by
    have h1 := jit_cnt (B := B) (d := d) (t := t) i D
    have h2 := jst_cnt (B := B) (d := d) (t := t) (D := jit B d i D)
    show dcnt (jst B d (jit B d i D)) t (jn B) ≤ _
    by_cases e : t = d
    · rw [if_pos e] at h1 h2 ⊢; omega
    · rw [if_neg e] at h1 h2 ⊢; omega
theorem jpl_cnt {B : AP} {t : Nat} : ∀ k, dcnt (jpl B k) t (jn B) ≤ if t < k then jP B t else 0
  | 0 => by
    rw [if_neg (by omega)]
    unfold dcnt
    rw [sumN_congr (g := fun _ => 0) (fun j _ => if_neg (fun q => by cases q)), sumN_const]
    omega
  | k + 1 => by
    have h1 := jpl_cnt (B := B) (t := t) k
    have h2 := jit_cnt (B := B) (d := k) (t := t) (jP B k) (jpl B k)
    show dcnt (jit B k (jP B k) (jpl B k)) t (jn B) ≤ _
    by_cases e : t = k
    · subst e
      rw [if_neg (Nat.lt_irrefl t)] at h1
      rw [if_pos rfl] at h2
      rw [if_pos (Nat.lt_succ_self t)]
      omega
    · rw [if_neg e] at h2
      by_cases c : t < k
      · rw [if_pos c] at h1; rw [if_pos (by omega)]; omega
      · rw [if_neg c] at h1; rw [if_neg (by omega)]; omega
theorem sumN_swap {g : Nat → Nat → Nat} {m : Nat} : ∀ n, sumN (fun j => sumN (fun i => g i j) m) n = sumN (fun i => sumN (fun j => g i j) n) m
  | 0 => by
    show 0 = sumN (fun _ => 0) m
    rw [sumN_const]
    omega
  | n + 1 => by
    show sumN (fun j => sumN (fun i => g i j) m) n + sumN (fun i => g i n) m = sumN (fun i => sumN (fun j => g i j) n + g i n) m
    rw [sumN_swap n, sumN_add]
theorem jall_row {B : AP} (h : jall B) {a b : Nat} (hb : b < 60) : ¬ rmany B a b := by
  intro hm
  have hm : rplc B a (b + 1 - a) < rcnt B a b := hm
  have h1 : rcnt B a b ≤ sumN (fun j => sumN (fun i => if jpl B 60 j = some (a + i) then 1 else 0) (b + 1 - a)) (jn B) := by
    refine sumN_le (fun j hj => ?_)
    unfold rin
    by_cases c : a ≤ jF B j ∧ jL B j ≤ b
    · rw [if_pos c]
      cases hd : jpl B 60 j with
      | none => exact absurd hd (h j hj)
      | some t =>
        have hv := jpl_val (B := B) 60 j t hd
        have := sumN_one (f := fun i => if some t = some (a + i) then 1 else 0) (n := b + 1 - a) (i := t - a) (by omega)
        rw [if_pos (by rw [show a + (t - a) = t by omega])] at this
        exact this
    · rw [if_neg c]; exact Nat.zero_le _
  rw [sumN_swap] at h1
  have h2 : sumN (fun i => sumN (fun j => if jpl B 60 j = some (a + i) then 1 else 0) (jn B)) (b + 1 - a) ≤ rplc B a (b + 1 - a) := by
    refine sumN_le (fun i hi => ?_)
    have := jpl_cnt (B := B) (t := a + i) 60
    rw [if_pos (by omega)] at this
    exact this
  omega
theorem jall_rsa {B : AP} (h : jall B) {b : Nat} (hb : b < 60) : ∀ c, rsa B b c = none
  | 0 => rfl
  | c + 1 => by rw [rsa_no (jall_row h hb)]; exact jall_rsa h hb c
theorem jall_rsb {B : AP} (h : jall B) : ∀ m b, b + m ≤ 60 → rsb B m b = none
  | 0, _, _ => rfl
  | m + 1, b, hb => by rw [rsb_none (jall_rsa h (by omega) (b + 1))]; exact jall_rsb h m (b + 1) (by omega)
/-- so both sides' answers of row are one -/
theorem row_same {B : AP} {la : Nat} (h : jall B) : rans (rsb B 60 0) la = -1 := by rw [jall_rsb h 60 0 (by omega)]; rfl
