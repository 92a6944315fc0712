theorem cm_isTooMany (l : Launch) (d : Nat) (S : GS) (B : AP) (hB : POKa B) (hM : MOK S) (hJ : MPl S B) (a b : Nat) (hab : a ≤ b) (hb : b < 60) : GC l (d) yX11_isTooMany cX11_isTooMany 5 (some FieldType.boolean) [.ref 0, .int (nI a), .int (nI b)] S (fun r S2 => r = some (.int (bi (rmany B a b))) ∧ S2 = S) (0) (0) := by
  refine GC.ofV (by decide) (Nat.le_of_ble_eq_true rfl) (fun X hl E R hnm => ?_)
  subst hl
  have E : En X RX11 cX11_isTooMany 5 (d) (0) (0) := E
  have R : Rt X (some FieldType.boolean) (fun r S2 => r = some (.int (bi (rmany B a b))) ∧ S2 = S) := R
  have hn := hB.1
  have hc := rcnt_le B a b
  refine V_iconst (v := 0) E dX11_isTooMany_0 (by decide) ?_
  refine V_istore_n E dX11_isTooMany_1 (by decide) rfl ?_
  refine V_iconst (v := 0) E dX11_isTooMany_2 (by decide) ?_
  refine V_istore E dX11_isTooMany_3 (by decide) rfl ?_
  have loop1 : ∀ m p, p + m = jn B → V X 5 [some (.ref (0)), some (.int (nI (a))), some (.int (nI (b))), some (.int (nI (sumN (rin B a b) p))), some (.int (nI (p)))] [] S 0 0 := by
    intro m
    induction m with
    | zero =>
      intro p hp
      rw [show p = jn B by omega]
      refine V_iload E dX11_isTooMany_5 rfl ?_
      refine V_aload_n E dX11_isTooMany_7 rfl ?_
      refine V_getI E fl_X11_245 dX11_isTooMany_8 rfl hM.o ?_
      refine V_ge_yes (a := jn B) (b := jn B) (tgt := 50) E dX11_isTooMany_11 (by decide) rfl hJ.1 (by omega) (by omega) ?_
      refine V_iload_n E dX11_isTooMany_50 rfl ?_
      refine V_istore E dX11_isTooMany_51 (by decide) rfl ?_
      have loop2 : ∀ m i, i + m = b + 1 - a → V X 53 [some (.ref (0)), some (.int (nI (a))), some (.int (nI (b))), some (.int (nI (rcnt B a b) - nI (rplc B a i))), some (.int (nI (a + i)))] [] S 0 0 := by
        intro m
        induction m with
        | zero =>
          intro i hi
          have hi2 : i = b + 1 - a := by omega
          have hpl := rplc_le (a := a) (n := i) hB (by omega)
          have e1 : (nI (rcnt B a b) - nI (rplc B a i)).toInt = (rcnt B a b : Int) - (rplc B a i : Int) := pk_sub_toInt (by omega) (by omega)
          refine V_iload E dX11_isTooMany_53 rfl ?_
          refine V_iload_n E dX11_isTooMany_55 rfl ?_
          refine V_icmp_gt (tgt := 75) E dX11_isTooMany_56 (by decide) (fun _ => ?_) (fun hx => absurd hx (fun q => q (nI_lt (by omega) (by omega))))
          refine V_iload_n E dX11_isTooMany_75 rfl ?_
          refine V_if_le (tgt := 83) E dX11_isTooMany_76 (by decide) (fun h76 => ?_) (fun h76 => ?_)
          · have g76 : ¬ rmany B a b := fun q => by rw [fa_le, e1, hi2] at h76; have q2 : rplc B a (b + 1 - a) < rcnt B a b := q; have z0 : ((0 : Int32)).toInt = 0 := rfl; omega
            refine V_iconst (v := 0) E dX11_isTooMany_83 (by decide) ?_
            exact V_iret E R dX11_isTooMany_84 rfl (Nat.le_refl _) (Nat.le_refl _) ⟨by rw [bi_f g76], rfl⟩
          · have g76 : rmany B a b := by rw [fa_le, e1, hi2] at h76; show rplc B a (b + 1 - a) < rcnt B a b; have z0 : ((0 : Int32)).toInt = 0 := rfl; omega
            refine V_iconst (v := 1) E dX11_isTooMany_79 (by decide) ?_
            refine V_goto (tgt := 84) E dX11_isTooMany_80 (by decide) ?_
            exact V_iret E R dX11_isTooMany_84 rfl (Nat.le_refl _) (Nat.le_refl _) ⟨by rw [bi_t g76], rfl⟩
        | succ m ih =>
          intro i hi
          have k5 := hJ.2.2 (a + i) (by omega)
          refine V_iload E dX11_isTooMany_53 rfl ?_
          refine V_iload_n E dX11_isTooMany_55 rfl ?_
          refine V_icmp_gt (tgt := 75) E dX11_isTooMany_56 (by decide) (fun hx => absurd hx (fun q => absurd q (nI_nlt (by omega) (by omega)))) (fun _ => ?_)
          refine V_iload_n E dX11_isTooMany_59 rfl ?_
          refine V_aload_n E dX11_isTooMany_60 rfl ?_
          refine V_getR E fl_X11_108 dX11_isTooMany_61 rfl hM.o (hM.r 44 (by decide)) ?_
          refine V_iload E dX11_isTooMany_64 rfl ?_
          refine V_ia (j := a + i) E dX11_isTooMany_66 (hM.k 44 21 rfl (by decide)) (@rfl _ (nI (a + i))) (hM.l 44 60 rfl (by decide)) (by omega) (by decide) ?_
          refine V_isub E dX11_isTooMany_67 ?_
          refine V_cvi (y := nI (rcnt B a b) - nI (rplc B a (i + 1))) (by rw [k5, show rplc B a (i + 1) = rplc B a i + jP B (a + i) from rfl, ← nI_add]; exact sub_sub3 _ _ _) ?_
          refine V_istore_n E dX11_isTooMany_68 (by decide) rfl ?_
          refine V_iinc (v := nI (a + i + 1)) E dX11_isTooMany_69 rfl (ni_inc (a := a + i) (z := 1) (@rfl _ (nI (a + i)))) (by decide) rfl ?_
          refine V_goto (tgt := 53) E dX11_isTooMany_72 (by decide) ?_
          exact ih (i + 1) (by omega)
      have h9 := loop2 (b + 1 - a) 0 (by omega)
      rw [show nI (rcnt B a b) - nI (rplc B a 0) = nI (rcnt B a b) from Int32.sub_zero _] at h9
      exact h9
    | succ m ih =>
      intro p hp
      obtain ⟨k1, k2⟩ := hJ.2.1 p (by omega)
      obtain ⟨b1, b2⟩ := hB.2.1 p (by omega)
      refine V_iload E dX11_isTooMany_5 rfl ?_
      refine V_aload_n E dX11_isTooMany_7 rfl ?_
      refine V_getI E fl_X11_245 dX11_isTooMany_8 rfl hM.o ?_
      refine V_ge_no (a := p) (b := jn B) (tgt := 50) E dX11_isTooMany_11 (by decide) rfl hJ.1 (by omega) (by omega) ?_
      refine V_iload_n E dX11_isTooMany_14 rfl ?_
      refine V_aload_n E dX11_isTooMany_15 rfl ?_
      refine V_getR E fl_X11_99 dX11_isTooMany_16 rfl hM.o (hM.r 41 (by decide)) ?_
      refine V_iload E dX11_isTooMany_19 rfl ?_
      refine V_ia (j := p) E dX11_isTooMany_21 (hM.k 41 21 rfl (by decide)) (@rfl _ (nI (p))) (hM.l 41 60 rfl (by decide)) (by omega) (by decide) ?_
      refine V_iload_n E dX11_isTooMany_22 rfl ?_
      refine V_icmp_lt (tgt := 41) E dX11_isTooMany_23 (by decide) (fun h23 => ?_) (fun h23 => ?_)
      · have g : ¬ (a ≤ jF B p ∧ jL B p ≤ b) := fun z => absurd (nI_le z.1 (by omega)) (by rw [← k1]; exact Int32.not_le.mpr h23)
        refine V_iconst (v := 0) E dX11_isTooMany_41 (by decide) ?_
        refine V_iadd E dX11_isTooMany_42 ?_
        refine V_cvi (y := nI (sumN (rin B a b) (p + 1))) (by simp only [sumN]; rw [rin, if_neg g]; exact Int32.add_zero _) ?_
        refine V_istore_n E dX11_isTooMany_43 (by decide) rfl ?_
        refine V_iinc (v := nI (p + 1)) E dX11_isTooMany_44 rfl (ni_inc (a := p) (z := 1) (@rfl _ (nI (p)))) (by decide) rfl ?_
        refine V_goto (tgt := 5) E dX11_isTooMany_47 (by decide) ?_
        exact ih (p + 1) (by omega)
      · have g23 : a ≤ jF B p := (nI_leI (by omega) (by omega)).mp (by rw [← k1]; exact Int32.not_lt.mp h23)
        refine V_aload_n E dX11_isTooMany_26 rfl ?_
        refine V_getR E fl_X11_102 dX11_isTooMany_27 rfl hM.o (hM.r 42 (by decide)) ?_
        refine V_iload E dX11_isTooMany_30 rfl ?_
        refine V_ia (j := p) E dX11_isTooMany_32 (hM.k 42 21 rfl (by decide)) (@rfl _ (nI (p))) (hM.l 42 60 rfl (by decide)) (by omega) (by decide) ?_
        refine V_iload_n E dX11_isTooMany_33 rfl ?_
        refine V_icmp_gt (tgt := 41) E dX11_isTooMany_34 (by decide) (fun h34 => ?_) (fun h34 => ?_)
        · have g : ¬ (a ≤ jF B p ∧ jL B p ≤ b) := fun z => absurd (nI_le z.2 (by omega)) (by rw [← k2]; exact Int32.not_le.mpr h34)
          refine V_iconst (v := 0) E dX11_isTooMany_41 (by decide) ?_
          refine V_iadd E dX11_isTooMany_42 ?_
          refine V_cvi (y := nI (sumN (rin B a b) (p + 1))) (by simp only [sumN]; rw [rin, if_neg g]; exact Int32.add_zero _) ?_
          refine V_istore_n E dX11_isTooMany_43 (by decide) rfl ?_
          refine V_iinc (v := nI (p + 1)) E dX11_isTooMany_44 rfl (ni_inc (a := p) (z := 1) (@rfl _ (nI (p)))) (by decide) rfl ?_
          refine V_goto (tgt := 5) E dX11_isTooMany_47 (by decide) ?_
          exact ih (p + 1) (by omega)
        · have g : a ≤ jF B p ∧ jL B p ≤ b := ⟨g23, (nI_leI (by omega) (by omega)).mp (by rw [← k2]; exact Int32.not_lt.mp h34)⟩
          refine V_iconst (v := 1) E dX11_isTooMany_37 (by decide) ?_
          refine V_goto (tgt := 42) E dX11_isTooMany_38 (by decide) ?_
          refine V_iadd E dX11_isTooMany_42 ?_
          refine V_cvi (y := nI (sumN (rin B a b) (p + 1))) (by simp only [sumN]; rw [rin, if_pos g]; exact nI_1 _) ?_
          refine V_istore_n E dX11_isTooMany_43 (by decide) rfl ?_
          refine V_iinc (v := nI (p + 1)) E dX11_isTooMany_44 rfl (ni_inc (a := p) (z := 1) (@rfl _ (nI (p)))) (by decide) rfl ?_
          refine V_goto (tgt := 5) E dX11_isTooMany_47 (by decide) ?_
          exact ih (p + 1) (by omega)
  exact loop1 (jn B) 0 (by omega)
