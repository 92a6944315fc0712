/-! ===== the row where something must spoil ===== -/
def rin (B : AP) (a b j : Nat) : Nat := if a ≤ jF B j ∧ jL B j ≤ b then 1 else 0
def rcnt (B : AP) (a b : Nat) : Nat := sumN (rin B a b) (jn B)
/-- the places of the days a .. a + n - 1 -/
def rplc (B : AP) (a n : Nat) : Nat := sumN (fun i => jP B (a + i)) n
def rmany (B : AP) (a b : Nat) : Prop := rplc B a (b + 1 - a) < rcnt B a b
theorem rcnt_le (B : AP) (a b : Nat) : rcnt B a b ≤ jn B := by
  have := sumN_le (f := rin B a b) (g := fun _ => 1) (n := jn B) (fun j _ => by unfold rin; split <;> omega)
  rw [sumN_const] at this
  unfold rcnt
  omega
theorem rplc_le {B : AP} {a n : Nat} (h : POKa B) (hn : a + n ≤ 60) : rplc B a n ≤ 540 := by
  have := sumN_le (f := fun i => jP B (a + i)) (g := fun _ => 9) (n := n) (fun i hi => h.2.2 (a + i) (by omega))
  rw [sumN_const] at this
  unfold rplc
  omega
theorem sub_sub3 (x y z : Int32) : x - y - z = x - (y + z) := by
  apply Int32.toBitVec_inj.mp
  simp only [Int32.toBitVec_sub, Int32.toBitVec_add]
  rw [BitVec.sub_sub]
