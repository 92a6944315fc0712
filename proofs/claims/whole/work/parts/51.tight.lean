/-! ===== the class's search for the row ===== -/
def bgn (B : AP) (k f : Nat) : Nat := sumN (fun j => if jL B j < k ∧ jF B j = f then 1 else 0) (jn B)
def bge (B : AP) (k f p : Nat) : Nat := sumN (fun j => if jL B j = k ∧ jF B j = f then 1 else 0) p
theorem bgn_succ (B : AP) (k f : Nat) : bgn B (k + 1) f = bgn B k f + bge B k f (jn B) := by
  unfold bgn bge
  rw [← sumN_add]
  refine sumN_congr (fun j _ => ?_)
  by_cases e : jF B j = f
  · by_cases c1 : jL B j < k
    · rw [if_pos ⟨by omega, e⟩, if_pos ⟨c1, e⟩, if_neg (by omega)]
    · by_cases c2 : jL B j = k
      · rw [if_pos ⟨by omega, e⟩, if_neg (by omega), if_pos ⟨c2, e⟩]
      · rw [if_neg (by omega), if_neg (by omega), if_neg (by omega)]
  · rw [if_neg (fun q => e q.2), if_neg (fun q => e q.2), if_neg (fun q => e q.2)]
theorem bgn_0 (B : AP) (f : Nat) : bgn B 0 f = 0 := by
  unfold bgn
  rw [sumN_congr (g := fun _ => 0) (fun j _ => if_neg (by omega)), sumN_const]
  omega
theorem bgn_le (B : AP) (k f : Nat) : bgn B k f ≤ jn B := by
  have := sumN_le (f := fun j => if jL B j < k ∧ jF B j = f then 1 else 0) (g := fun _ => 1) (n := jn B) (fun j _ => by split <;> omega)
  rw [sumN_const] at this
  unfold bgn
  omega
theorem rcnt_down (B : AP) (a b : Nat) : rcnt B a b = rcnt B (a + 1) b + bgn B (b + 1) a := by
  unfold rcnt bgn
  rw [← sumN_add]
  refine sumN_congr (fun j _ => ?_)
  unfold rin
  by_cases c : jL B j ≤ b
  · by_cases e : jF B j = a
    · rw [if_pos ⟨by omega, c⟩, if_neg (by omega), if_pos ⟨by omega, e⟩]
    · by_cases h : a + 1 ≤ jF B j
      · rw [if_pos ⟨by omega, c⟩, if_pos ⟨h, c⟩, if_neg (fun q => e q.2)]
      · rw [if_neg (by omega), if_neg (by omega), if_neg (fun q => e q.2)]
  · rw [if_neg (fun q => c q.2), if_neg (fun q => c q.2), if_neg (by omega)]
theorem rcnt_top {B : AP} {b : Nat} (h : POKa B) : rcnt B (b + 1) b = 0 := by
  unfold rcnt
  rw [sumN_congr (g := fun _ => 0) (fun j hj => by have := (h.2.1 j hj).1; unfold rin; exact if_neg (by omega)), sumN_const]
  omega
theorem sumN_front {f : Nat → Nat} : ∀ n, sumN f (n + 1) = f 0 + sumN (fun i => f (i + 1)) n
  | 0 => by simp [sumN]
  | n + 1 => by
    have := sumN_front (f := f) n
    simp only [sumN] at this ⊢
    omega
theorem rplc_down {B : AP} {a b : Nat} (h : a ≤ b) : rplc B a (b + 1 - a) = jP B a + rplc B (a + 1) (b + 1 - (a + 1)) := by
  unfold rplc
  rw [show b + 1 - a = (b + 1 - (a + 1)) + 1 by omega, sumN_front]
  congr 1
  exact sumN_congr (fun i _ => by rw [show a + (i + 1) = a + 1 + i by omega])
theorem lack_step (x y u v : Int32) : (x - y) + (u - v) = (x + u) - (v + y) := by
  apply Int32.toBitVec_inj.mp
  simp only [Int32.toBitVec_sub, Int32.toBitVec_add]
  generalize x.toBitVec = a
  generalize y.toBitVec = b
  generalize u.toBitVec = c
  generalize v.toBitVec = e
  rw [BitVec.sub_eq_add_neg, BitVec.sub_eq_add_neg, BitVec.sub_eq_add_neg, BitVec.neg_add]
  rw [BitVec.sub_eq_add_neg]
  ac_rfl
theorem rsa_lt {B : AP} {b a : Nat} : ∀ {c : Nat}, rsa B b c = some a → c ≤ 60 → a < 2 ^ 31
  | 0, h, _ => by cases h
  | c + 1, h, hc => by
    by_cases hm : rmany B c b
    · rw [rsa_yes hm] at h
      cases h
      omega
    · rw [rsa_no hm] at h
      exact rsa_lt h (by omega)
