/-! ===== the search for the row ===== -/
noncomputable def rsa (B : AP) (b : Nat) : Nat → Option Nat
  | 0 => none
  | a + 1 => @ite (Option Nat) (rmany B a b) (Classical.propDecidable _) (some a) (rsa B b a)
theorem rsa_yes {B : AP} {a b : Nat} (h : rmany B a b) : rsa B b (a + 1) = some a := by simp [rsa, h]
theorem rsa_no {B : AP} {a b : Nat} (h : ¬ rmany B a b) : rsa B b (a + 1) = rsa B b a := by simp [rsa, h]
noncomputable def rsb (B : AP) : Nat → Nat → Option (Nat × Nat)
  | 0, _ => none
  | m + 1, b => match rsa B b (b + 1) with
    | some a => some (a, b)
    | none => rsb B m (b + 1)
theorem rsb_some {B : AP} {m b a : Nat} (h : rsa B b (b + 1) = some a) : rsb B (m + 1) b = some (a, b) := by simp [rsb, h]
theorem rsb_none {B : AP} {m b : Nat} (h : rsa B b (b + 1) = none) : rsb B (m + 1) b = rsb B m (b + 1) := by simp [rsb, h]
/-- what row answers -/
def rans (o : Option (Nat × Nat)) (la : Nat) : Int32 := match o with
  | none => -1
  | some q => if la = 0 then nI q.1 else nI q.2
theorem dec1 (c : Nat) : (nI (c + 1) - 1) + Int32.ofInt (-1) = nI c - 1 := by
  rw [nI_pred, Int32.sub_eq_add_neg]
  rfl
theorem dec0 {c : Nat} (h : c ≤ 60) : (nI c - 1 < 0) ↔ c = 0 := by
  rw [fa_lt, nI_m1 (by omega)]
  have : ((0 : Int32)).toInt = 0 := rfl
  omega
