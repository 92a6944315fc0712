theorem cm_inForce (l : Launch) (d : Nat) (S : GS) (B : AB) (hB : BOK B) (hM : MOK S) (hV : MVo S B) (day : Nat) (hd : day < 2 ^ 31) : GC l (d) yX11_inForce cX11_inForce 3 (some FieldType.int) [.ref 0, .int (nI day)] S (fun r S2 => r = some (.int (an (inF B day))) ∧ S2 = S) (0) (0) := by
  refine GC.ofV (by decide) (Nat.le_of_ble_eq_true rfl) (fun X hl E R hnm => ?_)
  subst hl
  have E : En X RX11 cX11_inForce 3 (d) (0) (0) := E
  have R : Rt X (some FieldType.int) (fun r S2 => r = some (.int (an (inF B day))) ∧ S2 = S) := R
  have hn := hB.1
  have loop : ∀ c, c ≤ bn B → inF B day = ifc B day c → V X 7 [some (.ref 0), some (.int (nI day)), some (.int (nI c - 1))] [] S 0 0 := by
    intro c
    induction c with
    | zero =>
      intro hc hI
      refine V_iload_n E dX11_inForce_7 rfl ?_
      refine V_if_lt (tgt := 36) E dX11_inForce_8 (by decide) (fun _ => ?_) (fun hx => absurd hx (by decide))
      refine V_iload_n E dX11_inForce_36 rfl ?_
      exact V_iret E R dX11_inForce_37 rfl (Nat.le_refl _) (Nat.le_refl _) ⟨congrArg (fun z => some (Value.int z)) ((congrArg an hI).symm), rfl⟩
    | succ c ih =>
      intro hc hI
      have hb := hB.2 c (by omega)
      rw [nI_pred c]
      refine V_iload_n E dX11_inForce_7 rfl ?_
      refine V_if_lt (tgt := 36) E dX11_inForce_8 (by decide) (fun hx => absurd hx (nI_pos (n := c) (by omega))) (fun _ => ?_)
      refine V_aload_n E dX11_inForce_11 rfl ?_
      refine V_getR E fl_X11_51 dX11_inForce_12 rfl hM.o (hM.r 23 (by decide)) ?_
      refine V_iload_n E dX11_inForce_15 rfl ?_
      refine V_za (j := c) E dX11_inForce_16 (hM.k 23 24 rfl (by decide)) (@rfl _ (nI (c))) (hM.l 23 50 rfl (by decide)) (by omega) (by decide) ?_
      refine V_if_ne (tgt := 30) E dX11_inForce_17 (by decide) (fun h17 => ?_) (fun h17 => ?_)
      · have g0 : bG B c ≠ 0 := fun z => h17 ((hV.G c (by omega)).trans (by rw [z]; rfl))
        have g1 : ¬ (bG B c = 0 ∧ bF B c ≤ day) := fun z => g0 z.1
        refine V_iinc (v := nI c - 1) E dX11_inForce_30 rfl ((congrArg (fun z => z + Int32.ofInt (-1)) (nI_pred c)).symm.trans (dec1 c)) (by decide) rfl ?_
        refine V_goto (tgt := 7) E dX11_inForce_33 (by decide) ?_
        exact ih (by omega) (hI.trans (ifc_no g1))
      · have g0 : bG B c = 0 := (nI_eq (a := bG B c) (b := 0) (by omega) (by omega)).mp ((hV.G c (by omega)).symm.trans h17)
        refine V_aload_n E dX11_inForce_20 rfl ?_
        refine V_getR E fl_X11_48 dX11_inForce_21 rfl hM.o (hM.r 22 (by decide)) ?_
        refine V_iload_n E dX11_inForce_24 rfl ?_
        refine V_ia (j := c) E dX11_inForce_25 (hM.k 22 21 rfl (by decide)) (@rfl _ (nI (c))) (hM.l 22 50 rfl (by decide)) (by omega) (by decide) ?_
        refine V_iload_n E dX11_inForce_26 rfl ?_
        refine V_icmp_le (tgt := 36) E dX11_inForce_27 (by decide) (fun hq => ?_) (fun hq => ?_)
        · rw [hV.F c (by omega)] at hq
          have g2 : bF B c ≤ day := (nI_leI (a := bF B c) (b := day) (by omega) (by omega)).mp hq
          refine V_iload_n E dX11_inForce_36 rfl ?_
          exact V_iret E R dX11_inForce_37 rfl (Nat.le_refl _) (Nat.le_refl _) ⟨congrArg (fun z => some (Value.int z)) ((congrArg an (hI.trans (ifc_yes g0 g2))).symm), rfl⟩
        · rw [hV.F c (by omega)] at hq
          have g1 : ¬ (bG B c = 0 ∧ bF B c ≤ day) := fun z => hq ((nI_leI (a := bF B c) (b := day) (by omega) (by omega)).mpr z.2)
          refine V_iinc (v := nI c - 1) E dX11_inForce_30 rfl ((congrArg (fun z => z + Int32.ofInt (-1)) (nI_pred c)).symm.trans (dec1 c)) (by decide) rfl ?_
          refine V_goto (tgt := 7) E dX11_inForce_33 (by decide) ?_
          exact ih (by omega) (hI.trans (ifc_no g1))
  refine V_aload_n E dX11_inForce_0 rfl ?_
  refine V_getI E fl_X11_204 dX11_inForce_1 rfl hM.o ?_
  refine V_iconst (v := 1) E dX11_inForce_4 (by decide) ?_
  refine V_isub E dX11_inForce_5 ?_
  refine V_cvi (y := nI (bn B) - 1) (congrArg (fun z => z - 1) hV.n) ?_
  refine V_istore_n E dX11_inForce_6 (by decide) rfl ?_
  exact loop (bn B) (Nat.le_refl _) rfl

theorem cm_force (l : Launch) (d : Nat) (S : GS) (B : AB) (hB : BOK B) (hM : MOK S) (hV : MVo S B) (x : Int32) : GC l (d + 1) yX11_force cX11_force 2 (some FieldType.int) [.ref 0, .int x] S (fun r S2 => (wi_ x 0 10000 ∧ r = some (.int (an (inF B (tn x)))) ∧ S2 = S) ∨ (¬ wi_ x 0 10000 ∧ r = some (.int (-1)) ∧ S2 = S)) (0) (0) := by
  refine GC.ofV (by decide) (Nat.le_of_ble_eq_true rfl) (fun X hl E R hnm => ?_)
  subst hl
  have E : En X RX11 cX11_force 2 (d + 1) (0) (0) := E
  have R : Rt X (some FieldType.int) (fun r S2 => (wi_ x 0 10000 ∧ r = some (.int (an (inF B (tn x)))) ∧ S2 = S) ∨ (¬ wi_ x 0 10000 ∧ r = some (.int (-1)) ∧ S2 = S)) := R
  refine V_iload_n E dX11_force_0 rfl ?_
  refine V_iconst (v := 0) E dX11_force_1 (by decide) ?_
  refine V_sipush (v := 10000) E dX11_force_2 (by decide) ?_
  refine V_callS E (cm_in (x_l X) d S _ _ _) ml_X11_115 ms_X11_in dX11_force_5 rfl (by simp [Value.category]) (by omega) (by omega) (by omega) (fun r S2 hp => ?_)
  obtain ⟨rfl, hS2⟩ := hp
  obtain rfl := hS2.symm
  refine V_ifeq_b (tgt := 19) E dX11_force_8 (by decide) (fun hc8 => ?_) (fun hc8 => ?_)
  · have w8 : ¬ wi_ x 0 10000 := fun q => hc8 ((wi_iff (by decide) (by decide)).mpr q)
    refine V_iconst (v := -1) E dX11_force_19 (by decide) ?_
    exact V_iret E R dX11_force_20 rfl (Nat.le_refl _) (Nat.le_refl _) (Or.inr ⟨w8, rfl, rfl⟩)
  · have w8 : wi_ x 0 10000 := (wi_iff (by decide) (by decide)).mp hc8
    obtain ⟨day, rfl, tday, lday, uday, -⟩ := wi_nat w8 (by omega)
    refine V_aload_n E dX11_force_11 rfl ?_
    refine V_iload_n E dX11_force_12 rfl ?_
    refine V_callV E (cm_inForce (x_l X) d S B hB hM hV day (by omega)) ml_X11_235 mv_X11_inForce hM.o dX11_force_13 rfl (by simp [Value.category]) (by omega) (by omega) (by omega) (fun r S2 hp => ?_)
    obtain ⟨rfl, hS2⟩ := hp
    obtain rfl := hS2.symm
    refine V_goto (tgt := 20) E dX11_force_16 (by decide) ?_
    exact V_iret E R dX11_force_20 rfl (Nat.le_refl _) (Nat.le_refl _) (Or.inl ⟨w8, by rw [tday], rfl⟩)

theorem cy_inForce (l : Launch) (d : Nat) (S : GS) (B : AB) (hB : BOK B) (hQ : YOK S) (hV : YVo S B) (day : Nat) (hd : day < 2 ^ 31) : GC l (d) yX9_inForce cX9_inForce 3 (some FieldType.int) [.ref 207, .int (nI day)] S (fun r S2 => r = some (.int (an (inF B day))) ∧ S2 = S) (0) (0) := by
  refine GC.ofV (by decide) (Nat.le_of_ble_eq_true rfl) (fun X hl E R hnm => ?_)
  subst hl
  have E : En X RX9 cX9_inForce 3 (d) (0) (0) := E
  have R : Rt X (some FieldType.int) (fun r S2 => r = some (.int (an (inF B day))) ∧ S2 = S) := R
  have hn := hB.1
  have loop : ∀ c, c ≤ bn B → inF B day = ifc B day c → V X 7 [some (.ref 207), some (.int (nI day)), some (.int (nI c - 1))] [] S 0 0 := by
    intro c
    induction c with
    | zero =>
      intro hc hI
      refine V_iload_n E dX9_inForce_7 rfl ?_
      refine V_if_lt (tgt := 44) E dX9_inForce_8 (by decide) (fun _ => ?_) (fun hx => absurd hx (by decide))
      refine V_iconst (v := -1) E dX9_inForce_44 (by decide) ?_
      exact V_iret E R dX9_inForce_45 rfl (Nat.le_refl _) (Nat.le_refl _) ⟨congrArg (fun z => some (Value.int z)) ((congrArg an hI).symm), rfl⟩
    | succ c ih =>
      intro hc hI
      have hb := hB.2 c (by omega)
      rw [nI_pred c]
      refine V_iload_n E dX9_inForce_7 rfl ?_
      refine V_if_lt (tgt := 44) E dX9_inForce_8 (by decide) (fun hx => absurd hx (nI_pos (n := c) (by omega))) (fun _ => ?_)
      refine V_aload_n E dX9_inForce_11 rfl ?_
      refine V_getR E fl_X9_11 dX9_inForce_12 rfl (hQ.k 207 10 rfl (by decide)) (hQ.r 207 0 208 rfl) ?_
      refine V_iload_n E dX9_inForce_15 rfl ?_
      refine V_aa (j := c) E dX9_inForce_16 (hQ.k 208 26 rfl (by decide)) (by decide) (@rfl _ (nI (c))) (hQ.l 208 50 rfl (by decide)) (by omega) (by decide) (hV.el c (by omega)) ?_
      refine V_getIN E fn_X9_37 dX9_inForce_17 rfl (hV.ok c (by omega)) ?_
      refine V_if_ne (tgt := 38) E dX9_inForce_20 (by decide) (fun h20 => ?_) (fun h20 => ?_)
      · have g0 : bG B c ≠ 0 := fun z => h20 ((hV.G c (by omega)).trans (by rw [z]; rfl))
        have g1 : ¬ (bG B c = 0 ∧ bF B c ≤ day) := fun z => g0 z.1
        refine V_iinc (v := nI c - 1) E dX9_inForce_38 rfl ((congrArg (fun z => z + Int32.ofInt (-1)) (nI_pred c)).symm.trans (dec1 c)) (by decide) rfl ?_
        refine V_goto (tgt := 7) E dX9_inForce_41 (by decide) ?_
        exact ih (by omega) (hI.trans (ifc_no g1))
      · have g0 : bG B c = 0 := (nI_eq (a := bG B c) (b := 0) (by omega) (by omega)).mp ((hV.G c (by omega)).symm.trans h20)
        refine V_aload_n E dX9_inForce_23 rfl ?_
        refine V_getR E fl_X9_11 dX9_inForce_24 rfl (hQ.k 207 10 rfl (by decide)) (hQ.r 207 0 208 rfl) ?_
        refine V_iload_n E dX9_inForce_27 rfl ?_
        refine V_aa (j := c) E dX9_inForce_28 (hQ.k 208 26 rfl (by decide)) (by decide) (@rfl _ (nI (c))) (hQ.l 208 50 rfl (by decide)) (by omega) (by decide) (hV.el c (by omega)) ?_
        refine V_getIN E fn_X9_41 dX9_inForce_29 rfl (hV.ok c (by omega)) ?_
        refine V_iload_n E dX9_inForce_32 rfl ?_
        refine V_icmp_gt (tgt := 38) E dX9_inForce_33 (by decide) (fun hq => ?_) (fun hq => ?_)
        · rw [hV.F c (by omega)] at hq
          have g1 : ¬ (bG B c = 0 ∧ bF B c ≤ day) := fun z => by have := (nI_ltI (a := day) (b := bF B c) (by omega) (by omega)).mp hq; omega
          refine V_iinc (v := nI c - 1) E dX9_inForce_38 rfl ((congrArg (fun z => z + Int32.ofInt (-1)) (nI_pred c)).symm.trans (dec1 c)) (by decide) rfl ?_
          refine V_goto (tgt := 7) E dX9_inForce_41 (by decide) ?_
          exact ih (by omega) (hI.trans (ifc_no g1))
        · rw [hV.F c (by omega)] at hq
          have g2 : bF B c ≤ day := Nat.le_of_not_lt (fun z => hq ((nI_ltI (a := day) (b := bF B c) (by omega) (by omega)).mpr z))
          refine V_iload_n E dX9_inForce_36 rfl ?_
          exact V_iret E R dX9_inForce_37 rfl (Nat.le_refl _) (Nat.le_refl _) ⟨congrArg (fun z => some (Value.int z)) ((congrArg an (hI.trans (ifc_yes g0 g2))).symm), rfl⟩
  refine V_aload_n E dX9_inForce_0 rfl ?_
  refine V_getI E fl_X9_24 dX9_inForce_1 rfl (hQ.k 207 10 rfl (by decide)) ?_
  refine V_iconst (v := 1) E dX9_inForce_4 (by decide) ?_
  refine V_isub E dX9_inForce_5 ?_
  refine V_cvi (y := nI (bn B) - 1) (congrArg (fun z => z - 1) hV.n) ?_
  refine V_istore_n E dX9_inForce_6 (by decide) rfl ?_
  exact loop (bn B) (Nat.le_refl _) rfl

theorem cy_force (l : Launch) (d : Nat) (S : GS) (B : AB) (hB : BOK B) (hQ : YOK S) (hV : YVo S B) (x : Int32) : GC l (d + 1) yX10_force cX10_force 2 (some FieldType.int) [.ref 200, .int x] S (fun r S2 => (wi_ x 0 10000 ∧ r = some (.int (an (inF B (tn x)))) ∧ S2 = S) ∨ (¬ wi_ x 0 10000 ∧ r = some (.int (-1)) ∧ S2 = S)) (0) (0) := by
  refine GC.ofV (by decide) (Nat.le_of_ble_eq_true rfl) (fun X hl E R hnm => ?_)
  subst hl
  have E : En X RX10 cX10_force 2 (d + 1) (0) (0) := E
  have R : Rt X (some FieldType.int) (fun r S2 => (wi_ x 0 10000 ∧ r = some (.int (an (inF B (tn x)))) ∧ S2 = S) ∨ (¬ wi_ x 0 10000 ∧ r = some (.int (-1)) ∧ S2 = S)) := R
  refine V_iload_n E dX10_force_0 rfl ?_
  refine V_iconst (v := 0) E dX10_force_1 (by decide) ?_
  refine V_sipush (v := 10000) E dX10_force_2 (by decide) ?_
  refine V_callS E (cy_isWithin (x_l X) d S _ _ _) ml_X10_61 ms_X10_isWithin dX10_force_5 rfl (by simp [Value.category]) (by omega) (by omega) (by omega) (fun r S2 hp => ?_)
  obtain ⟨rfl, hS2⟩ := hp
  obtain rfl := hS2.symm
  refine V_ifeq_b (tgt := 22) E dX10_force_8 (by decide) (fun hc8 => ?_) (fun hc8 => ?_)
  · have w8 : ¬ wi_ x 0 10000 := fun q => hc8 ((wi_iff (by decide) (by decide)).mpr q)
    refine V_iconst (v := -1) E dX10_force_22 (by decide) ?_
    exact V_iret E R dX10_force_23 rfl (Nat.le_refl _) (Nat.le_refl _) (Or.inr ⟨w8, rfl, rfl⟩)
  · have w8 : wi_ x 0 10000 := (wi_iff (by decide) (by decide)).mp hc8
    obtain ⟨day, rfl, tday, lday, uday, -⟩ := wi_nat w8 (by omega)
    refine V_aload_n E dX10_force_11 rfl ?_
    refine V_getR E fl_X10_34 dX10_force_12 rfl (hQ.k 200 11 rfl (by decide)) (hQ.r 200 6 207 rfl) ?_
    refine V_iload_n E dX10_force_15 rfl ?_
    refine V_callV E (cy_inForce (x_l X) d S B hB hQ hV day (by omega)) ml_X10_174 mv_X9_inForce (hQ.k 207 10 rfl (by decide)) dX10_force_16 rfl (by simp [Value.category]) (by omega) (by omega) (by omega) (fun r S2 hp => ?_)
    obtain ⟨rfl, hS2⟩ := hp
    obtain rfl := hS2.symm
    refine V_goto (tgt := 23) E dX10_force_19 (by decide) ?_
    exact V_iret E R dX10_force_23 rfl (Nat.le_refl _) (Nat.le_refl _) (Or.inl ⟨w8, by rw [tday], rfl⟩)
