theorem cy_mostPressing (l : Launch) (d : Nat) (S : GS) (B : AP) (hB : POKa B) (hQ : YOK S) (hJ : YPl S B) (D : Nat → Option Nat) (hD : jday D) (hd : ∀ j, j < jn B → aI S 224 j = bI (D j)) (dd : Nat) (hdd : dd < 60) : GC l (d) yX2_mostPressing cX2_mostPressing 5 (some FieldType.int) [.ref 221, .int (nI dd)] S (fun r S2 => r = some (.int (bI (jb B D dd (jn B)))) ∧ S2 = S) (0) (0) := by
  refine GC.ofV (by decide) (Nat.le_of_ble_eq_true rfl) (fun X hl E R hnm => ?_)
  subst hl
  have E : En X RX2 cX2_mostPressing 5 (d) (0) (0) := E
  have R : Rt X (some FieldType.int) (fun r S2 => r = some (.int (bI (jb B D dd (jn B)))) ∧ S2 = S) := R
  have hn := hB.1
  refine V_iconst (v := -1) E dX2_mostPressing_0 (by decide) ?_
  refine V_istore_n E dX2_mostPressing_1 (by decide) rfl ?_
  refine V_iconst (v := 0) E dX2_mostPressing_2 (by decide) ?_
  refine V_istore_n E dX2_mostPressing_3 (by decide) rfl ?_
  have loop : ∀ m p, p + m = jn B → V X 4 [some (.ref (221)), some (.int (nI (dd))), some (.int (bI (jb B D dd p))), some (.int (nI (p))), none] [] S 0 0 := by
    intro m
    induction m with
    | zero =>
      intro p hp
      refine V_iload_n E dX2_mostPressing_4 rfl ?_
      refine V_aload_n E dX2_mostPressing_5 rfl ?_
      refine V_getI E fl_X2_27 dX2_mostPressing_6 rfl (hQ.k 221 3 rfl (by decide)) ?_
      refine V_ge_yes (a := p) (b := (jn B)) (tgt := 82) E dX2_mostPressing_9 (by decide) (@rfl _ (nI (p))) hJ.1 (by omega) (by omega) ?_
      refine V_iload_n E dX2_mostPressing_82 rfl ?_
      exact V_iret E R dX2_mostPressing_83 rfl (Nat.le_refl _) (Nat.le_refl _) ⟨by rw [show p = jn B by omega], rfl⟩
    | succ m ih =>
      intro p hp
      obtain ⟨k1, k2⟩ := hJ.2.1 p (by omega)
      obtain ⟨b1, b2⟩ := hB.2.1 p (by omega)
      have k3 := hd p (by omega)
      refine V_iload_n E dX2_mostPressing_4 rfl ?_
      refine V_aload_n E dX2_mostPressing_5 rfl ?_
      refine V_getI E fl_X2_27 dX2_mostPressing_6 rfl (hQ.k 221 3 rfl (by decide)) ?_
      refine V_ge_no (a := p) (b := (jn B)) (tgt := 82) E dX2_mostPressing_9 (by decide) (@rfl _ (nI (p))) hJ.1 (by omega) (by omega) ?_
      have J47 : V X 47 [some (.ref (221)), some (.int (nI (dd))), some (.int (bI (jb B D dd p))), some (.int (nI (p))), none] [(.int (bi (jav B D dd p)))] (S) 0 0 := by
        refine V_istore E dX2_mostPressing_47 (by decide) rfl ?_
        refine V_iload E dX2_mostPressing_49 rfl ?_
        refine V_ifeq_b (tgt := 76) E dX2_mostPressing_51 (by decide) (fun hc51 => ?_) (fun hc51 => ?_)
        · refine V_iinc (v := nI (p + 1)) E dX2_mostPressing_76 rfl (ni_inc (a := p) (z := 1) (@rfl _ (nI (p)))) (by decide) rfl ?_
          refine V_goto (tgt := 4) E dX2_mostPressing_79 (by decide) ?_
          have h9 := ih (p + 1) (by omega)
          rw [jb_not hc51] at h9
          refine V_lo (lo' := [some (.ref (221)), some (.int (nI (dd))), some (.int (bI (jb B D dd p))), some (.int (nI (p + 1))), none]) (And.intro rfl (And.intro rfl (And.intro rfl (And.intro rfl True.intro)))) ?_
          exact h9
        · refine V_iload_n E dX2_mostPressing_54 rfl ?_
          refine V_iconst (v := -1) E dX2_mostPressing_55 (by decide) ?_
          cases hpb : jb B D dd p with
          | none =>
            refine V_icmp_eq (tgt := 74) E dX2_mostPressing_56 (by decide) (fun _ => ?_) (fun hx => absurd rfl hx)
            refine V_iload_n E dX2_mostPressing_74 rfl ?_
            refine V_istore_n E dX2_mostPressing_75 (by decide) rfl ?_
            refine V_iinc (v := nI (p + 1)) E dX2_mostPressing_76 rfl (ni_inc (a := p) (z := 1) (@rfl _ (nI (p)))) (by decide) rfl ?_
            refine V_goto (tgt := 4) E dX2_mostPressing_79 (by decide) ?_
            have h9 := ih (p + 1) (by omega)
            rw [jb_none hpb hc51] at h9
            refine V_lo (lo' := [some (.ref (221)), some (.int (nI (dd))), some (.int (bI (some p))), some (.int (nI (p + 1))), none]) (And.intro rfl (And.intro rfl (And.intro rfl (And.intro rfl True.intro)))) ?_
            exact h9
          | some c =>
            obtain ⟨c1, -⟩ := jb_lt p c hpb
            obtain ⟨-, k4⟩ := hJ.2.1 c (by omega)
            obtain ⟨-, b4⟩ := hB.2.1 c (by omega)
            refine V_icmp_eq (tgt := 74) E dX2_mostPressing_56 (by decide) (fun hx => absurd hx (bI_ne (by omega))) (fun _ => ?_)
            refine V_aload_n E dX2_mostPressing_59 rfl ?_
            refine V_getR E fl_X2_15 dX2_mostPressing_60 rfl (hQ.k 221 3 rfl (by decide)) (hQ.r 221 1 223 rfl) ?_
            refine V_iload_n E dX2_mostPressing_63 rfl ?_
            refine V_ia (j := p) E dX2_mostPressing_64 (hQ.k 223 21 rfl (by decide)) (@rfl _ (nI (p))) (hQ.l 223 60 rfl (by decide)) (by omega) (by decide) ?_
            refine V_aload_n E dX2_mostPressing_65 rfl ?_
            refine V_getR E fl_X2_15 dX2_mostPressing_66 rfl (hQ.k 221 3 rfl (by decide)) (hQ.r 221 1 223 rfl) ?_
            refine V_iload_n E dX2_mostPressing_69 rfl ?_
            refine V_ia (j := c) E dX2_mostPressing_70 (hQ.k 223 21 rfl (by decide)) (rfl : bI (some c) = nI c) (hQ.l 223 60 rfl (by decide)) (by omega) (by decide) ?_
            refine V_icmp_ge (tgt := 76) E dX2_mostPressing_71 (by decide) (fun h71 => ?_) (fun h71 => ?_)
            · have g71 : ¬ jL B p < jL B c := fun q => absurd (nI_lt q (by omega)) (by rw [← k2, ← k4]; exact Int32.not_lt.mpr h71)
              refine V_iinc (v := nI (p + 1)) E dX2_mostPressing_76 rfl (ni_inc (a := p) (z := 1) (@rfl _ (nI (p)))) (by decide) rfl ?_
              refine V_goto (tgt := 4) E dX2_mostPressing_79 (by decide) ?_
              have h9 := ih (p + 1) (by omega)
              rw [jb_less hpb g71] at h9
              refine V_lo (lo' := [some (.ref (221)), some (.int (nI (dd))), some (.int (bI (some c))), some (.int (nI (p + 1))), none]) (And.intro rfl (And.intro rfl (And.intro rfl (And.intro rfl True.intro)))) ?_
              exact h9
            · have g71 : jL B p < jL B c := (nI_ltI (by omega) (by omega)).mp (by rw [← k2, ← k4]; exact Int32.not_le.mp h71)
              refine V_iload_n E dX2_mostPressing_74 rfl ?_
              refine V_istore_n E dX2_mostPressing_75 (by decide) rfl ?_
              refine V_iinc (v := nI (p + 1)) E dX2_mostPressing_76 rfl (ni_inc (a := p) (z := 1) (@rfl _ (nI (p)))) (by decide) rfl ?_
              refine V_goto (tgt := 4) E dX2_mostPressing_79 (by decide) ?_
              have h9 := ih (p + 1) (by omega)
              rw [jb_more hpb hc51 g71] at h9
              refine V_lo (lo' := [some (.ref (221)), some (.int (nI (dd))), some (.int (bI (some p))), some (.int (nI (p + 1))), none]) (And.intro rfl (And.intro rfl (And.intro rfl (And.intro rfl True.intro)))) ?_
              exact h9
      refine V_aload_n E dX2_mostPressing_12 rfl ?_
      refine V_getR E fl_X2_18 dX2_mostPressing_13 rfl (hQ.k 221 3 rfl (by decide)) (hQ.r 221 2 224 rfl) ?_
      refine V_iload_n E dX2_mostPressing_16 rfl ?_
      refine V_ia (j := p) E dX2_mostPressing_17 (hQ.k 224 21 rfl (by decide)) (@rfl _ (nI (p))) (hQ.l 224 60 rfl (by decide)) (by omega) (by decide) ?_
      refine V_iconst (v := -1) E dX2_mostPressing_18 (by decide) ?_
      refine V_icmp_ne (tgt := 46) E dX2_mostPressing_19 (by decide) (fun h19 => ?_) (fun h19 => ?_)
      · have g19 : ¬ D p = none := fun e => h19 (k3.trans (by rw [e]; rfl))
        refine V_iconst (v := 0) E dX2_mostPressing_46 (by decide) ?_
        exact V_cvi (y := bi (jav B D dd p)) (bi_f (fun q => g19 q.1)).symm J47
      · have g19 : D p = none := (bI_eq (fun b hb => by have := hD p b hb; omega)).mp (k3.symm.trans h19)
        refine V_aload_n E dX2_mostPressing_22 rfl ?_
        refine V_getR E fl_X2_9 dX2_mostPressing_23 rfl (hQ.k 221 3 rfl (by decide)) (hQ.r 221 0 222 rfl) ?_
        refine V_iload_n E dX2_mostPressing_26 rfl ?_
        refine V_ia (j := p) E dX2_mostPressing_27 (hQ.k 222 21 rfl (by decide)) (@rfl _ (nI (p))) (hQ.l 222 60 rfl (by decide)) (by omega) (by decide) ?_
        refine V_iload_n E dX2_mostPressing_28 rfl ?_
        refine V_icmp_gt (tgt := 46) E dX2_mostPressing_29 (by decide) (fun h29 => ?_) (fun h29 => ?_)
        · have g29 : ¬ jF B p ≤ dd := fun q => absurd (nI_le q (by omega)) (by rw [← k1]; exact Int32.not_le.mpr h29)
          refine V_iconst (v := 0) E dX2_mostPressing_46 (by decide) ?_
          exact V_cvi (y := bi (jav B D dd p)) (bi_f (fun q => g29 q.2.1)).symm J47
        · have g29 : jF B p ≤ dd := (nI_leI (by omega) (by omega)).mp (by rw [← k1]; exact Int32.not_lt.mp h29)
          refine V_iload_n E dX2_mostPressing_32 rfl ?_
          refine V_aload_n E dX2_mostPressing_33 rfl ?_
          refine V_getR E fl_X2_15 dX2_mostPressing_34 rfl (hQ.k 221 3 rfl (by decide)) (hQ.r 221 1 223 rfl) ?_
          refine V_iload_n E dX2_mostPressing_37 rfl ?_
          refine V_ia (j := p) E dX2_mostPressing_38 (hQ.k 223 21 rfl (by decide)) (@rfl _ (nI (p))) (hQ.l 223 60 rfl (by decide)) (by omega) (by decide) ?_
          refine V_icmp_gt (tgt := 46) E dX2_mostPressing_39 (by decide) (fun h39 => ?_) (fun h39 => ?_)
          · have g39 : ¬ dd ≤ jL B p := fun q => absurd (nI_le q (by omega)) (by rw [← k2]; exact Int32.not_le.mpr h39)
            refine V_iconst (v := 0) E dX2_mostPressing_46 (by decide) ?_
            exact V_cvi (y := bi (jav B D dd p)) (bi_f (fun q => g39 q.2.2)).symm J47
          · have g39 : dd ≤ jL B p := (nI_leI (by omega) (by omega)).mp (by rw [← k2]; exact Int32.not_lt.mp h39)
            refine V_iconst (v := 1) E dX2_mostPressing_42 (by decide) ?_
            refine V_goto (tgt := 47) E dX2_mostPressing_43 (by decide) ?_
            exact V_cvi (y := bi (jav B D dd p)) (bi_t ⟨g19, g29, g39⟩).symm J47
  exact loop (jn B) 0 (by omega)
