theorem cm_in (l : Launch) (d : Nat) (S : GS) (v a b : Int32) : GC l (d) yX11_in cX11_in 3 (some FieldType.boolean) [.int v, .int a, .int b] S (fun r S2 => r = some (.int (bi (a ≤ v ∧ v ≤ b))) ∧ S2 = S) (0) (0) := by
  refine GC.ofV (by decide) (Nat.le_of_ble_eq_true rfl) (fun X hl E R hnm => ?_)
  subst hl
  have E : En X RX11 cX11_in 3 (d) (0) (0) := E
  have R : Rt X (some FieldType.boolean) (fun r S2 => r = some (.int (bi (a ≤ v ∧ v ≤ b))) ∧ S2 = S) := R
  refine V_iload_n E dX11_in_0 rfl ?_
  refine V_iload_n E dX11_in_1 rfl ?_
  refine V_icmp_lt (tgt := 14) E dX11_in_2 (by decide) (fun h_2 => ?_) (fun h_2 => ?_)
  · refine V_iconst (v := 0) E dX11_in_14 (by decide) ?_
    exact V_iret E R dX11_in_15 rfl (Nat.le_refl _) (Nat.le_refl _) ⟨by rw [bi_f (by simp only [fa_lt, fa_le] at *; omega)], rfl⟩
  · refine V_iload_n E dX11_in_5 rfl ?_
    refine V_iload_n E dX11_in_6 rfl ?_
    refine V_icmp_gt (tgt := 14) E dX11_in_7 (by decide) (fun h_7 => ?_) (fun h_7 => ?_)
    · refine V_iconst (v := 0) E dX11_in_14 (by decide) ?_
      exact V_iret E R dX11_in_15 rfl (Nat.le_refl _) (Nat.le_refl _) ⟨by rw [bi_f (by simp only [fa_lt, fa_le] at *; omega)], rfl⟩
    · refine V_iconst (v := 1) E dX11_in_10 (by decide) ?_
      refine V_goto (tgt := 15) E dX11_in_11 (by decide) ?_
      exact V_iret E R dX11_in_15 rfl (Nat.le_refl _) (Nat.le_refl _) ⟨by rw [bi_t (by simp only [fa_lt, fa_le] at *; omega)], rfl⟩

theorem cm_dryOf (l : Launch) (d : Nat) (S : GS) (hM : MOK S) (v : Nat) (hv : v < 100) : GC l (d) yX11_dryOf cX11_dryOf 4 (some FieldType.int) [.ref 0, .int (nI v)] S (fun r S2 => r = some (.int (sumI (fun p => aI S 7 (60 * v + p)) 60)) ∧ S2 = S) (0) (0) := by
  refine GC.ofV (by decide) (Nat.le_of_ble_eq_true rfl) (fun X hl E R hnm => ?_)
  subst hl
  have E : En X RX11 cX11_dryOf 4 (d) (0) (0) := E
  have R : Rt X (some FieldType.int) (fun r S2 => r = some (.int (sumI (fun p => aI S 7 (60 * v + p)) 60)) ∧ S2 = S) := R
  refine V_iconst (v := 0) E dX11_dryOf_0 (by decide) ?_
  refine V_istore_n E dX11_dryOf_1 (by decide) rfl ?_
  refine V_iconst (v := 0) E dX11_dryOf_2 (by decide) ?_
  refine V_istore_n E dX11_dryOf_3 (by decide) rfl ?_
  have loop : ∀ m p, p + m = 60 → V X 4 [some (.ref 0), some (.int (nI v)), some (.int (sumI (fun p => aI S 7 (60 * v + p)) p)), some (.int (nI p))] [] S 0 0 := by
    intro m
    induction m with
    | zero =>
      intro p  hp
      refine V_iload_n E dX11_dryOf_4 rfl ?_
      refine V_bipush (v := 60) E dX11_dryOf_5 (by decide) ?_
      refine V_ge_yes (a := p) (b := 60) (tgt := 30) E dX11_dryOf_7 (by decide) (@rfl _ (nI (p))) (rfl : (60 : Int32) = nI 60) (by omega) (by omega) ?_
      refine V_iload_n E dX11_dryOf_30 rfl ?_
      exact V_iret E R dX11_dryOf_31 rfl (Nat.le_refl _) (Nat.le_refl _) ⟨by rw [show p = 60 by omega], rfl⟩
    | succ m ih =>
      intro p  hp
      refine V_iload_n E dX11_dryOf_4 rfl ?_
      refine V_bipush (v := 60) E dX11_dryOf_5 (by decide) ?_
      refine V_ge_no (a := p) (b := 60) (tgt := 30) E dX11_dryOf_7 (by decide) (@rfl _ (nI (p))) (rfl : (60 : Int32) = nI 60) (by omega) (by omega) ?_
      refine V_iload_n E dX11_dryOf_10 rfl ?_
      refine V_aload_n E dX11_dryOf_11 rfl ?_
      refine V_getR E fl_X11_13 dX11_dryOf_12 rfl hM.o (hM.r 7 (by decide)) ?_
      refine V_bipush (v := 60) E dX11_dryOf_15 (by decide) ?_
      refine V_iload_n E dX11_dryOf_17 rfl ?_
      refine V_imul E dX11_dryOf_18 ?_
      refine V_iload_n E dX11_dryOf_19 rfl ?_
      refine V_iadd E dX11_dryOf_20 ?_
      refine V_ia (j := ((60 * v) + p)) E dX11_dryOf_21 (hM.k 7 21 rfl (by decide)) (ni_add (a := (60 * v)) (b := p) (ni_mul (a := 60) (b := v) (rfl : (60 : Int32) = nI 60) (@rfl _ (nI (v)))) (@rfl _ (nI (p)))) (hM.l 7 6000 rfl (by decide)) (by omega) (by decide) ?_
      refine V_iadd E dX11_dryOf_22 ?_
      refine V_istore_n E dX11_dryOf_23 (by decide) rfl ?_
      refine V_iinc (v := nI (p + 1)) E dX11_dryOf_24 rfl (ni_inc (a := p) (z := 1) (@rfl _ (nI (p)))) (by decide) rfl ?_
      refine V_goto (tgt := 4) E dX11_dryOf_27 (by decide) ?_
      exact ih (p + 1) (by omega)
  exact loop (60 - 0) 0 (by omega)
