theorem cy_isDigit (l : Launch) (d : Nat) (S : GS) (b : Nat) (hb : b ≤ 255) : GC l (d) yX6_isDigit cX6_isDigit 1 (some FieldType.boolean) [.int (bv b)] S (fun r S2 => r = some (.int (bi (dg b))) ∧ S2 = S) (0) (0) := by
  refine GC.ofV (by decide) (Nat.le_of_ble_eq_true rfl) (fun X hl E R hnm => ?_)
  subst hl
  have E : En X RX6 cX6_isDigit 1 (d) (0) (0) := E
  have R : Rt X (some FieldType.boolean) (fun r S2 => r = some (.int (bi (dg b))) ∧ S2 = S) := R
  have vb := bv_or hb
  have z48 : ((48 : Int32)).toInt = 48 := rfl
  have z57 : ((57 : Int32)).toInt = 57 := rfl
  refine V_iload_n E dX6_isDigit_0 rfl ?_
  refine V_bipush (v := 48) E dX6_isDigit_1 (by decide) ?_
  refine V_icmp_lt (tgt := 16) E dX6_isDigit_3 (by decide) (fun h3 => ?_) (fun h3 => ?_)
  · rw [fa_lt, z48] at h3
    refine V_iconst (v := 0) E dX6_isDigit_16 (by decide) ?_
    exact V_iret E R dX6_isDigit_17 rfl (Nat.le_refl _) (Nat.le_refl _) ⟨congrArg (fun z => some (Value.int z)) (bi_f (by unfold dg; omega)).symm, rfl⟩
  · rw [fa_lt, z48] at h3
    refine V_iload_n E dX6_isDigit_6 rfl ?_
    refine V_bipush (v := 57) E dX6_isDigit_7 (by decide) ?_
    refine V_icmp_gt (tgt := 16) E dX6_isDigit_9 (by decide) (fun h9 => ?_) (fun h9 => ?_)
    · rw [fa_lt, z57] at h9
      refine V_iconst (v := 0) E dX6_isDigit_16 (by decide) ?_
      exact V_iret E R dX6_isDigit_17 rfl (Nat.le_refl _) (Nat.le_refl _) ⟨congrArg (fun z => some (Value.int z)) (bi_f (by unfold dg; omega)).symm, rfl⟩
    · rw [fa_lt, z57] at h9
      refine V_iconst (v := 1) E dX6_isDigit_12 (by decide) ?_
      refine V_goto (tgt := 17) E dX6_isDigit_13 (by decide) ?_
      exact V_iret E R dX6_isDigit_17 rfl (Nat.le_refl _) (Nat.le_refl _) ⟨congrArg (fun z => some (Value.int z)) (bi_t (by unfold dg; omega)).symm, rfl⟩

theorem cy_isSign (l : Launch) (d : Nat) (S : GS) (b : Nat) (hb : b ≤ 255) : GC l (d) yX6_isSign cX6_isSign 1 (some FieldType.boolean) [.int (bv b)] S (fun r S2 => r = some (.int (bi (sg b))) ∧ S2 = S) (0) (0) := by
  refine GC.ofV (by decide) (Nat.le_of_ble_eq_true rfl) (fun X hl E R hnm => ?_)
  subst hl
  have E : En X RX6 cX6_isSign 1 (d) (0) (0) := E
  have R : Rt X (some FieldType.boolean) (fun r S2 => r = some (.int (bi (sg b))) ∧ S2 = S) := R
  have vb := bv_or hb
  have z42 : ((42 : Int32)).toInt = 42 := rfl
  have z43 : ((43 : Int32)).toInt = 43 := rfl
  have z45 : ((45 : Int32)).toInt = 45 := rfl
  refine V_iload_n E dX6_isSign_0 rfl ?_
  refine V_bipush (v := 43) E dX6_isSign_1 (by decide) ?_
  refine V_icmp_eq (tgt := 18) E dX6_isSign_3 (by decide) (fun h3 => ?_) (fun h3 => ?_)
  · rw [fa_eq, z43] at h3
    refine V_iconst (v := 1) E dX6_isSign_18 (by decide) ?_
    refine V_goto (tgt := 23) E dX6_isSign_19 (by decide) ?_
    exact V_iret E R dX6_isSign_23 rfl (Nat.le_refl _) (Nat.le_refl _) ⟨congrArg (fun z => some (Value.int z)) (bi_t (by unfold sg; omega)).symm, rfl⟩
  · rw [fa_eq, z43] at h3
    refine V_iload_n E dX6_isSign_6 rfl ?_
    refine V_bipush (v := 45) E dX6_isSign_7 (by decide) ?_
    refine V_icmp_eq (tgt := 18) E dX6_isSign_9 (by decide) (fun h9 => ?_) (fun h9 => ?_)
    · rw [fa_eq, z45] at h9
      refine V_iconst (v := 1) E dX6_isSign_18 (by decide) ?_
      refine V_goto (tgt := 23) E dX6_isSign_19 (by decide) ?_
      exact V_iret E R dX6_isSign_23 rfl (Nat.le_refl _) (Nat.le_refl _) ⟨congrArg (fun z => some (Value.int z)) (bi_t (by unfold sg; omega)).symm, rfl⟩
    · rw [fa_eq, z45] at h9
      refine V_iload_n E dX6_isSign_12 rfl ?_
      refine V_bipush (v := 42) E dX6_isSign_13 (by decide) ?_
      refine V_icmp_ne (tgt := 22) E dX6_isSign_15 (by decide) (fun h15 => ?_) (fun h15 => ?_)
      · rw [fa_eq, z42] at h15
        refine V_iconst (v := 0) E dX6_isSign_22 (by decide) ?_
        exact V_iret E R dX6_isSign_23 rfl (Nat.le_refl _) (Nat.le_refl _) ⟨congrArg (fun z => some (Value.int z)) (bi_f (by unfold sg; omega)).symm, rfl⟩
      · rw [fa_eq, z42] at h15
        refine V_iconst (v := 1) E dX6_isSign_18 (by decide) ?_
        refine V_goto (tgt := 23) E dX6_isSign_19 (by decide) ?_
        exact V_iret E R dX6_isSign_23 rfl (Nat.le_refl _) (Nat.le_refl _) ⟨congrArg (fun z => some (Value.int z)) (bi_t (by unfold sg; omega)).symm, rfl⟩

theorem cy_mayBegin (l : Launch) (d : Nat) (S : GS) (b : Nat) (hb : b ≤ 255) (o : Nat) (ho : o ≤ 8) : GC l (d) yX6_mayBegin cX6_mayBegin 2 (some FieldType.boolean) [.int (bv b), .int (nI o)] S (fun r S2 => r = some (.int (bi (mb b o))) ∧ S2 = S) (0) (0) := by
  refine GC.ofV (by decide) (Nat.le_of_ble_eq_true rfl) (fun X hl E R hnm => ?_)
  subst hl
  have E : En X RX6 cX6_mayBegin 2 (d) (0) (0) := E
  have R : Rt X (some FieldType.boolean) (fun r S2 => r = some (.int (bi (mb b o))) ∧ S2 = S) := R
  have vb := bv_or hb
  have z40 : ((40 : Int32)).toInt = 40 := rfl
  have z103 : ((103 : Int32)).toInt = 103 := rfl
  have z112 : ((112 : Int32)).toInt = 112 := rfl
  have z113 : ((113 : Int32)).toInt = 113 := rfl
  refine V_iload_n E dX6_mayBegin_0 rfl ?_
  refine V_bipush (v := 103) E dX6_mayBegin_1 (by decide) ?_
  refine V_icmp_eq (tgt := 30) E dX6_mayBegin_3 (by decide) (fun h3 => ?_) (fun h3 => ?_)
  · rw [fa_eq, z103] at h3
    refine V_iconst (v := 1) E dX6_mayBegin_30 (by decide) ?_
    refine V_goto (tgt := 35) E dX6_mayBegin_31 (by decide) ?_
    exact V_iret E R dX6_mayBegin_35 rfl (Nat.le_refl _) (Nat.le_refl _) ⟨congrArg (fun z => some (Value.int z)) (bi_t (by unfold mb; omega)).symm, rfl⟩
  · rw [fa_eq, z103] at h3
    refine V_iload_n E dX6_mayBegin_6 rfl ?_
    refine V_bipush (v := 113) E dX6_mayBegin_7 (by decide) ?_
    refine V_icmp_eq (tgt := 30) E dX6_mayBegin_9 (by decide) (fun h9 => ?_) (fun h9 => ?_)
    · rw [fa_eq, z113] at h9
      refine V_iconst (v := 1) E dX6_mayBegin_30 (by decide) ?_
      refine V_goto (tgt := 35) E dX6_mayBegin_31 (by decide) ?_
      exact V_iret E R dX6_mayBegin_35 rfl (Nat.le_refl _) (Nat.le_refl _) ⟨congrArg (fun z => some (Value.int z)) (bi_t (by unfold mb; omega)).symm, rfl⟩
    · rw [fa_eq, z113] at h9
      refine V_iload_n E dX6_mayBegin_12 rfl ?_
      refine V_bipush (v := 112) E dX6_mayBegin_13 (by decide) ?_
      refine V_icmp_eq (tgt := 30) E dX6_mayBegin_15 (by decide) (fun h15 => ?_) (fun h15 => ?_)
      · rw [fa_eq, z112] at h15
        refine V_iconst (v := 1) E dX6_mayBegin_30 (by decide) ?_
        refine V_goto (tgt := 35) E dX6_mayBegin_31 (by decide) ?_
        exact V_iret E R dX6_mayBegin_35 rfl (Nat.le_refl _) (Nat.le_refl _) ⟨congrArg (fun z => some (Value.int z)) (bi_t (by unfold mb; omega)).symm, rfl⟩
      · rw [fa_eq, z112] at h15
        refine V_iload_n E dX6_mayBegin_18 rfl ?_
        refine V_bipush (v := 40) E dX6_mayBegin_19 (by decide) ?_
        refine V_icmp_ne (tgt := 34) E dX6_mayBegin_21 (by decide) (fun h21 => ?_) (fun h21 => ?_)
        · rw [fa_eq, z40] at h21
          refine V_iconst (v := 0) E dX6_mayBegin_34 (by decide) ?_
          exact V_iret E R dX6_mayBegin_35 rfl (Nat.le_refl _) (Nat.le_refl _) ⟨congrArg (fun z => some (Value.int z)) (bi_f (by unfold mb; omega)).symm, rfl⟩
        · rw [fa_eq, z40] at h21
          refine V_iload_n E dX6_mayBegin_24 rfl ?_
          refine V_bipush (v := 8) E dX6_mayBegin_25 (by decide) ?_
          refine V_icmp_ge (tgt := 34) E dX6_mayBegin_27 (by decide) (fun h27 => ?_) (fun h27 => ?_)
          · have g27 := (nI_leI (a := 8) (b := o) (by omega) (by omega)).mp h27
            refine V_iconst (v := 0) E dX6_mayBegin_34 (by decide) ?_
            exact V_iret E R dX6_mayBegin_35 rfl (Nat.le_refl _) (Nat.le_refl _) ⟨congrArg (fun z => some (Value.int z)) (bi_f (by unfold mb; omega)).symm, rfl⟩
          · have g27 : ¬ 8 ≤ o := fun z => h27 ((nI_leI (a := 8) (b := o) (by omega) (by omega)).mpr z)
            refine V_iconst (v := 1) E dX6_mayBegin_30 (by decide) ?_
            refine V_goto (tgt := 35) E dX6_mayBegin_31 (by decide) ?_
            exact V_iret E R dX6_mayBegin_35 rfl (Nat.le_refl _) (Nat.le_refl _) ⟨congrArg (fun z => some (Value.int z)) (bi_t (by unfold mb; omega)).symm, rfl⟩

theorem cy_mayFollow (l : Launch) (d : Nat) (S : GS) (b : Nat) (hb : b ≤ 255) (o : Nat) (ho : o ≤ 8) : GC l (d + 1) yX6_mayFollow cX6_mayFollow 2 (some FieldType.boolean) [.int (bv b), .int (nI o)] S (fun r S2 => r = some (.int (bi (mf b o))) ∧ S2 = S) (0) (0) := by
  refine GC.ofV (by decide) (Nat.le_of_ble_eq_true rfl) (fun X hl E R hnm => ?_)
  subst hl
  have E : En X RX6 cX6_mayFollow 2 (d + 1) (0) (0) := E
  have R : Rt X (some FieldType.boolean) (fun r S2 => r = some (.int (bi (mf b o))) ∧ S2 = S) := R
  have vb := bv_or hb
  have z41 : ((41 : Int32)).toInt = 41 := rfl
  refine V_iload_n E dX6_mayFollow_0 rfl ?_
  refine V_callS E (cy_isSign (x_l X) d S b hb) ml_X6_45 ms_X6_isSign dX6_mayFollow_1 rfl (by simp [Value.category]) (by omega) (by omega) (by omega) (fun r S2 hp => ?_)
  obtain ⟨rfl, hS2⟩ := hp
  obtain rfl := hS2.symm
  refine V_ifne_b (tgt := 17) E dX6_mayFollow_4 (by decide) (fun hc4 => ?_) (fun hc4 => ?_)
  · unfold sg at hc4
    refine V_iconst (v := 1) E dX6_mayFollow_17 (by decide) ?_
    refine V_goto (tgt := 22) E dX6_mayFollow_18 (by decide) ?_
    exact V_iret E R dX6_mayFollow_22 rfl (Nat.le_refl _) (Nat.le_refl _) ⟨congrArg (fun z => some (Value.int z)) (bi_t (by unfold mf sg; omega)).symm, rfl⟩
  · unfold sg at hc4
    refine V_iload_n E dX6_mayFollow_7 rfl ?_
    refine V_bipush (v := 41) E dX6_mayFollow_8 (by decide) ?_
    refine V_icmp_ne (tgt := 21) E dX6_mayFollow_10 (by decide) (fun h10 => ?_) (fun h10 => ?_)
    · rw [fa_eq, z41] at h10
      refine V_iconst (v := 0) E dX6_mayFollow_21 (by decide) ?_
      exact V_iret E R dX6_mayFollow_22 rfl (Nat.le_refl _) (Nat.le_refl _) ⟨congrArg (fun z => some (Value.int z)) (bi_f (by unfold mf sg; omega)).symm, rfl⟩
    · rw [fa_eq, z41] at h10
      refine V_iload_n E dX6_mayFollow_13 rfl ?_
      refine V_if_le (tgt := 21) E dX6_mayFollow_14 (by decide) (fun h14 => ?_) (fun h14 => ?_)
      · have g14 := (nI_leI (a := o) (b := 0) (by omega) (by omega)).mp h14
        refine V_iconst (v := 0) E dX6_mayFollow_21 (by decide) ?_
        exact V_iret E R dX6_mayFollow_22 rfl (Nat.le_refl _) (Nat.le_refl _) ⟨congrArg (fun z => some (Value.int z)) (bi_f (by unfold mf sg; omega)).symm, rfl⟩
      · have g14 : ¬ o ≤ 0 := fun z => h14 ((nI_leI (a := o) (b := 0) (by omega) (by omega)).mpr z)
        refine V_iconst (v := 1) E dX6_mayFollow_17 (by decide) ?_
        refine V_goto (tgt := 22) E dX6_mayFollow_18 (by decide) ?_
        exact V_iret E R dX6_mayFollow_22 rfl (Nat.le_refl _) (Nat.le_refl _) ⟨congrArg (fun z => some (Value.int z)) (bi_t (by unfold mf sg; omega)).symm, rfl⟩

theorem cy_firstFault (l : Launch) (d : Nat) (S : GS) (T : AT) (hT : TOK T) (hQ : YOK S) (hX : YTx S T) : GC l (d + 2) yX6_firstFault cX6_firstFault 6 (some FieldType.int) [.ref 205] S (fun r S2 => r = some (.int (an (FR T 0 1 0 0))) ∧ S2 = S) (0) (0) := by
  refine GC.ofV (by decide) (Nat.le_of_ble_eq_true rfl) (fun X hl E R hnm => ?_)
  subst hl
  have E : En X RX6 cX6_firstFault 6 (d + 2) (0) (0) := E
  have R : Rt X (some FieldType.int) (fun r S2 => r = some (.int (an (FR T 0 1 0 0))) ∧ S2 = S) := R
  have hn := hT.1
  have z32 : ((32 : Int32)).toInt = 32 := rfl
  have z40 : ((40 : Int32)).toInt = 40 := rfl
  have z41 : ((41 : Int32)).toInt = 41 := rfl
  refine V_iconst (v := 1) E dX6_firstFault_0 (by decide) ?_
  refine V_istore_n E dX6_firstFault_1 (by decide) rfl ?_
  refine V_iconst (v := 0) E dX6_firstFault_2 (by decide) ?_
  refine V_istore_n E dX6_firstFault_3 (by decide) rfl ?_
  refine V_iconst (v := 0) E dX6_firstFault_4 (by decide) ?_
  refine V_istore_n E dX6_firstFault_5 (by decide) rfl ?_
  refine V_iconst (v := 0) E dX6_firstFault_6 (by decide) ?_
  refine V_istore E dX6_firstFault_7 (by decide) rfl ?_
  have loop : ∀ m i w o g, i + m = T.1 → (w ≤ 1 ∧ o ≤ 8 ∧ g ≤ 4) → FR T 0 1 0 0 = FR T i w o g → V X 9 [some (.ref (205)), some (.int (nI (w))), some (.int (nI (o))), some (.int (nI (g))), some (.int (nI (i))), none] [] S 0 0 := by
    intro m
    induction m with
    | zero =>
      intro i w o g hp hb hR
      have hR := hR.trans (FR_end (i := i) (w := w) (o := o) (g := g) (by omega))
      refine V_iload E dX6_firstFault_9 rfl ?_
      refine V_aload_n E dX6_firstFault_11 rfl ?_
      refine V_getI E fl_X6_21 dX6_firstFault_12 rfl (hQ.k 205 7 rfl (by decide)) ?_
      refine V_ge_yes (a := i) (b := T.1) (tgt := 152) E dX6_firstFault_15 (by decide) (@rfl _ (nI (i))) hX.1 (by omega) (by omega) ?_
      refine V_iload_n E dX6_firstFault_152 rfl ?_
      refine V_if_ne (tgt := 160) E dX6_firstFault_153 (by decide) (fun h153 => ?_) (fun h153 => ?_)
      · have g153 : w ≠ 0 := fun z => h153 (by rw [z]; rfl)
        refine V_aload_n E dX6_firstFault_160 rfl ?_
        refine V_getI E fl_X6_21 dX6_firstFault_161 rfl (hQ.k 205 7 rfl (by decide)) ?_
        refine V_goto (tgt := 168) E dX6_firstFault_164 (by decide) ?_
        exact V_iret E R dX6_firstFault_168 rfl (Nat.le_refl _) (Nat.le_refl _) ⟨congrArg (fun z => some (Value.int z)) (hX.1.trans (congrArg an (hR.trans (if_pos (by omega)))).symm), rfl⟩
      · have g153 : w = 0 := (nI_eq (a := w) (b := 0) (by omega) (by omega)).mp h153
        refine V_iload_n E dX6_firstFault_156 rfl ?_
        refine V_if_le (tgt := 167) E dX6_firstFault_157 (by decide) (fun h157 => ?_) (fun h157 => ?_)
        · have g157 := (nI_leI (a := o) (b := 0) (by omega) (by omega)).mp h157
          refine V_iconst (v := -1) E dX6_firstFault_167 (by decide) ?_
          exact V_iret E R dX6_firstFault_168 rfl (Nat.le_refl _) (Nat.le_refl _) ⟨congrArg (fun z => some (Value.int z)) ((congrArg an (hR.trans (if_neg (by omega)))).symm), rfl⟩
        · have g157 : ¬ o ≤ 0 := fun z => h157 ((nI_leI (a := o) (b := 0) (by omega) (by omega)).mpr z)
          refine V_aload_n E dX6_firstFault_160 rfl ?_
          refine V_getI E fl_X6_21 dX6_firstFault_161 rfl (hQ.k 205 7 rfl (by decide)) ?_
          refine V_goto (tgt := 168) E dX6_firstFault_164 (by decide) ?_
          exact V_iret E R dX6_firstFault_168 rfl (Nat.le_refl _) (Nat.le_refl _) ⟨congrArg (fun z => some (Value.int z)) (hX.1.trans (congrArg an (hR.trans (if_pos (by omega)))).symm), rfl⟩
    | succ m ih =>
      intro i w o g hp hb hR
      have hi : i < T.1 := by omega
      have hbb := hT.2 i hi
      have vb := bv_or hbb.2
      refine V_iload E dX6_firstFault_9 rfl ?_
      refine V_aload_n E dX6_firstFault_11 rfl ?_
      refine V_getI E fl_X6_21 dX6_firstFault_12 rfl (hQ.k 205 7 rfl (by decide)) ?_
      refine V_ge_no (a := i) (b := T.1) (tgt := 152) E dX6_firstFault_15 (by decide) (@rfl _ (nI (i))) hX.1 (by omega) (by omega) ?_
      refine V_aload_n E dX6_firstFault_18 rfl ?_
      refine V_getR E fl_X6_15 dX6_firstFault_19 rfl (hQ.k 205 7 rfl (by decide)) (hQ.r 205 0 206 rfl) ?_
      refine V_iload E dX6_firstFault_22 rfl ?_
      refine V_ba (j := i) E dX6_firstFault_24 (hQ.k 206 23 rfl (by decide)) (@rfl _ (nI (i))) (hQ.l 206 200 rfl (by decide)) (by omega) (by decide) ?_
      refine V_cvi (hX.b hi) ?_
      refine V_istore E dX6_firstFault_25 (by decide) rfl ?_
      refine V_iload E dX6_firstFault_27 rfl ?_
      refine V_callS E (cy_isDigit (x_l X) d S (T.2 i) hbb.2) ml_X6_34 ms_X6_isDigit dX6_firstFault_29 rfl (by simp [Value.category]) (by omega) (by omega) (by omega) (fun r S2 hp => ?_)
      obtain ⟨rfl, hS2⟩ := hp
      obtain rfl := hS2.symm
      refine V_ifeq_b (tgt := 59) E dX6_firstFault_32 (by decide) (fun hc32 => ?_) (fun hc32 => ?_)
      · refine V_iconst (v := 0) E dX6_firstFault_59 (by decide) ?_
        refine V_istore_n E dX6_firstFault_60 (by decide) rfl ?_
        refine V_iload E dX6_firstFault_61 rfl ?_
        refine V_bipush (v := 32) E dX6_firstFault_63 (by decide) ?_
        refine V_icmp_ne (tgt := 71) E dX6_firstFault_65 (by decide) (fun h65 => ?_) (fun h65 => ?_)
        · rw [fa_eq, z32] at h65
          have g65 : T.2 i ≠ 32 := by omega
          have J99 : mx w (T.2 i) o → V X 99 [some (.ref (205)), some (.int (nI (w))), some (.int (nI (o))), some (.int (0)), some (.int (nI (i))), some (.int ((bv (T.2 i))))] [] S 0 0 := by
            intro hm
            have hm2 : (T.2 i = 40 → o < 8) ∧ (T.2 i = 41 → 1 ≤ o) := by unfold mx mb mf sg at hm; omega
            have hb2 : wn (T.2 i) ≤ 1 ∧ dn (T.2 i) o ≤ 8 ∧ 0 ≤ 4 := by unfold wn dn; refine ⟨?_, ?_, by omega⟩; split <;> omega; split; omega; split <;> omega
            refine V_iload_n E dX6_firstFault_99 rfl ?_
            refine V_iload E dX6_firstFault_100 rfl ?_
            refine V_bipush (v := 40) E dX6_firstFault_102 (by decide) ?_
            refine V_icmp_ne (tgt := 111) E dX6_firstFault_104 (by decide) (fun h104 => ?_) (fun h104 => ?_)
            · have h := h104
              rw [fa_eq, z40] at h
              have g104 : T.2 i ≠ 40 := by omega
              refine V_iload E dX6_firstFault_111 rfl ?_
              refine V_bipush (v := 41) E dX6_firstFault_113 (by decide) ?_
              refine V_icmp_ne (tgt := 122) E dX6_firstFault_115 (by decide) (fun h115 => ?_) (fun h115 => ?_)
              · rw [fa_eq, z41] at h115
                have g115 : T.2 i ≠ 41 := by omega
                refine V_iconst (v := 0) E dX6_firstFault_122 (by decide) ?_
                refine V_iadd E dX6_firstFault_123 ?_
                refine V_cvi (y := nI (dn (T.2 i) o)) ((ni_add (a := o) (b := 0) rfl (rfl : (0 : Int32) = nI 0)).trans (congrArg nI ((if_neg g104).trans (if_neg g115)).symm)) ?_
                refine V_istore_n E dX6_firstFault_124 (by decide) rfl ?_
                refine V_iload E dX6_firstFault_125 rfl ?_
                refine V_bipush (v := 40) E dX6_firstFault_127 (by decide) ?_
                refine V_icmp_eq (tgt := 140) E dX6_firstFault_129 (by decide) (fun hx => absurd hx h104) (fun _ => ?_)
                refine V_iload E dX6_firstFault_132 rfl ?_
                refine V_callS E (cy_isSign (x_l X) d S (T.2 i) hbb.2) ml_X6_45 ms_X6_isSign dX6_firstFault_134 rfl (by simp [Value.category]) (by omega) (by omega) (by omega) (fun r S2 hp => ?_)
                obtain ⟨rfl, hS2⟩ := hp
                obtain rfl := hS2.symm
                refine V_ifeq_b (tgt := 144) E dX6_firstFault_137 (by decide) (fun hc137 => ?_) (fun hc137 => ?_)
                · refine V_iconst (v := 0) E dX6_firstFault_144 (by decide) ?_
                  refine V_cvi (y := nI (wn (T.2 i))) (congrArg nI (if_neg (fun z => z.elim g104 hc137)).symm) ?_
                  refine V_istore_n E dX6_firstFault_145 (by decide) rfl ?_
                  refine V_lo (lo' := [some (.ref (205)), some (.int (nI (wn (T.2 i)))), some (.int (nI (dn (T.2 i) o))), some (.int (0)), some (.int (nI (i))), none]) (And.intro rfl (And.intro rfl (And.intro rfl (And.intro rfl (And.intro rfl True.intro))))) ?_
                  refine V_iinc (v := nI (i + 1)) E dX6_firstFault_146 rfl (ni_inc (a := i) (z := 1) (@rfl _ (nI (i)))) (by decide) rfl ?_
                  refine V_goto (tgt := 9) E dX6_firstFault_149 (by decide) ?_
                  exact ih (i + 1) (wn (T.2 i)) (dn (T.2 i) o) 0 (by omega) hb2 (hR.trans (FR_go hi hc32 g65 hm))
                · refine V_iconst (v := 1) E dX6_firstFault_140 (by decide) ?_
                  refine V_goto (tgt := 145) E dX6_firstFault_141 (by decide) ?_
                  refine V_cvi (y := nI (wn (T.2 i))) (congrArg nI (if_pos (Or.inr hc137)).symm) ?_
                  refine V_istore_n E dX6_firstFault_145 (by decide) rfl ?_
                  refine V_lo (lo' := [some (.ref (205)), some (.int (nI (wn (T.2 i)))), some (.int (nI (dn (T.2 i) o))), some (.int (0)), some (.int (nI (i))), none]) (And.intro rfl (And.intro rfl (And.intro rfl (And.intro rfl (And.intro rfl True.intro))))) ?_
                  refine V_iinc (v := nI (i + 1)) E dX6_firstFault_146 rfl (ni_inc (a := i) (z := 1) (@rfl _ (nI (i)))) (by decide) rfl ?_
                  refine V_goto (tgt := 9) E dX6_firstFault_149 (by decide) ?_
                  exact ih (i + 1) (wn (T.2 i)) (dn (T.2 i) o) 0 (by omega) hb2 (hR.trans (FR_go hi hc32 g65 hm))
              · rw [fa_eq, z41] at h115
                have g115 : T.2 i = 41 := by omega
                refine V_iconst (v := -1) E dX6_firstFault_118 (by decide) ?_
                refine V_goto (tgt := 123) E dX6_firstFault_119 (by decide) ?_
                refine V_iadd E dX6_firstFault_123 ?_
                refine V_cvi (y := nI (dn (T.2 i) o)) ((nI_m (hm2.2 g115)).trans (congrArg nI ((if_neg g104).trans (if_pos g115)).symm)) ?_
                refine V_istore_n E dX6_firstFault_124 (by decide) rfl ?_
                refine V_iload E dX6_firstFault_125 rfl ?_
                refine V_bipush (v := 40) E dX6_firstFault_127 (by decide) ?_
                refine V_icmp_eq (tgt := 140) E dX6_firstFault_129 (by decide) (fun hx => absurd hx h104) (fun _ => ?_)
                refine V_iload E dX6_firstFault_132 rfl ?_
                refine V_callS E (cy_isSign (x_l X) d S (T.2 i) hbb.2) ml_X6_45 ms_X6_isSign dX6_firstFault_134 rfl (by simp [Value.category]) (by omega) (by omega) (by omega) (fun r S2 hp => ?_)
                obtain ⟨rfl, hS2⟩ := hp
                obtain rfl := hS2.symm
                refine V_ifeq_b (tgt := 144) E dX6_firstFault_137 (by decide) (fun hc137 => ?_) (fun hc137 => ?_)
                · refine V_iconst (v := 0) E dX6_firstFault_144 (by decide) ?_
                  refine V_cvi (y := nI (wn (T.2 i))) (congrArg nI (if_neg (fun z => z.elim g104 hc137)).symm) ?_
                  refine V_istore_n E dX6_firstFault_145 (by decide) rfl ?_
                  refine V_lo (lo' := [some (.ref (205)), some (.int (nI (wn (T.2 i)))), some (.int (nI (dn (T.2 i) o))), some (.int (0)), some (.int (nI (i))), none]) (And.intro rfl (And.intro rfl (And.intro rfl (And.intro rfl (And.intro rfl True.intro))))) ?_
                  refine V_iinc (v := nI (i + 1)) E dX6_firstFault_146 rfl (ni_inc (a := i) (z := 1) (@rfl _ (nI (i)))) (by decide) rfl ?_
                  refine V_goto (tgt := 9) E dX6_firstFault_149 (by decide) ?_
                  exact ih (i + 1) (wn (T.2 i)) (dn (T.2 i) o) 0 (by omega) hb2 (hR.trans (FR_go hi hc32 g65 hm))
                · refine V_iconst (v := 1) E dX6_firstFault_140 (by decide) ?_
                  refine V_goto (tgt := 145) E dX6_firstFault_141 (by decide) ?_
                  refine V_cvi (y := nI (wn (T.2 i))) (congrArg nI (if_pos (Or.inr hc137)).symm) ?_
                  refine V_istore_n E dX6_firstFault_145 (by decide) rfl ?_
                  refine V_lo (lo' := [some (.ref (205)), some (.int (nI (wn (T.2 i)))), some (.int (nI (dn (T.2 i) o))), some (.int (0)), some (.int (nI (i))), none]) (And.intro rfl (And.intro rfl (And.intro rfl (And.intro rfl (And.intro rfl True.intro))))) ?_
                  refine V_iinc (v := nI (i + 1)) E dX6_firstFault_146 rfl (ni_inc (a := i) (z := 1) (@rfl _ (nI (i)))) (by decide) rfl ?_
                  refine V_goto (tgt := 9) E dX6_firstFault_149 (by decide) ?_
                  exact ih (i + 1) (wn (T.2 i)) (dn (T.2 i) o) 0 (by omega) hb2 (hR.trans (FR_go hi hc32 g65 hm))
            · have h := h104
              rw [fa_eq, z40] at h
              have g104 : T.2 i = 40 := by omega
              refine V_iconst (v := 1) E dX6_firstFault_107 (by decide) ?_
              refine V_goto (tgt := 123) E dX6_firstFault_108 (by decide) ?_
              refine V_iadd E dX6_firstFault_123 ?_
              refine V_cvi (y := nI (dn (T.2 i) o)) ((ni_add (a := o) (b := 1) rfl (rfl : (1 : Int32) = nI 1)).trans (congrArg nI (if_pos g104).symm)) ?_
              refine V_istore_n E dX6_firstFault_124 (by decide) rfl ?_
              refine V_iload E dX6_firstFault_125 rfl ?_
              refine V_bipush (v := 40) E dX6_firstFault_127 (by decide) ?_
              refine V_icmp_eq (tgt := 140) E dX6_firstFault_129 (by decide) (fun _ => ?_) (fun hx => absurd h104 hx)
              refine V_iconst (v := 1) E dX6_firstFault_140 (by decide) ?_
              refine V_goto (tgt := 145) E dX6_firstFault_141 (by decide) ?_
              refine V_cvi (y := nI (wn (T.2 i))) (congrArg nI (if_pos (Or.inl g104)).symm) ?_
              refine V_istore_n E dX6_firstFault_145 (by decide) rfl ?_
              refine V_lo (lo' := [some (.ref (205)), some (.int (nI (wn (T.2 i)))), some (.int (nI (dn (T.2 i) o))), some (.int (0)), some (.int (nI (i))), none]) (And.intro rfl (And.intro rfl (And.intro rfl (And.intro rfl (And.intro rfl True.intro))))) ?_
              refine V_iinc (v := nI (i + 1)) E dX6_firstFault_146 rfl (ni_inc (a := i) (z := 1) (@rfl _ (nI (i)))) (by decide) rfl ?_
              refine V_goto (tgt := 9) E dX6_firstFault_149 (by decide) ?_
              exact ih (i + 1) (wn (T.2 i)) (dn (T.2 i) o) 0 (by omega) hb2 (hR.trans (FR_go hi hc32 g65 hm))
          refine V_iload_n E dX6_firstFault_71 rfl ?_
          refine V_if_eq (tgt := 87) E dX6_firstFault_72 (by decide) (fun h72 => ?_) (fun h72 => ?_)
          · have g72 : w = 0 := (nI_eq (a := w) (b := 0) (by omega) (by omega)).mp h72
            refine V_iload E dX6_firstFault_87 rfl ?_
            refine V_iload_n E dX6_firstFault_89 rfl ?_
            refine V_callS E (cy_mayFollow (x_l X) d S (T.2 i) hbb.2 o hb.2.1) ml_X6_42 ms_X6_mayFollow dX6_firstFault_90 rfl (by simp [Value.category]) (by omega) (by omega) (by omega) (fun r S2 hp => ?_)
            obtain ⟨rfl, hS2⟩ := hp
            obtain rfl := hS2.symm
            refine V_ifne_b (tgt := 99) E dX6_firstFault_93 (by decide) (fun hc93 => ?_) (fun hc93 => ?_)
            · have hm : mx w (T.2 i) o := Or.inr ⟨by omega, hc93⟩
              exact J99 hm
            · have gg := hR.trans (FR_no hi hc32 g65 (by intro z; rcases z with z | z; omega; exact hc93 z.2))
              refine V_iload E dX6_firstFault_96 rfl ?_
              exact V_iret E R dX6_firstFault_98 rfl (Nat.le_refl _) (Nat.le_refl _) ⟨congrArg (fun z => some (Value.int z)) ((congrArg an gg).symm), rfl⟩
          · have g72 : w ≠ 0 := fun z => h72 (by rw [z]; rfl)
            refine V_iload E dX6_firstFault_75 rfl ?_
            refine V_iload_n E dX6_firstFault_77 rfl ?_
            refine V_callS E (cy_mayBegin (x_l X) d S (T.2 i) hbb.2 o hb.2.1) ml_X6_38 ms_X6_mayBegin dX6_firstFault_78 rfl (by simp [Value.category]) (by omega) (by omega) (by omega) (fun r S2 hp => ?_)
            obtain ⟨rfl, hS2⟩ := hp
            obtain rfl := hS2.symm
            refine V_ifne_b (tgt := 99) E dX6_firstFault_81 (by decide) (fun hc81 => ?_) (fun hc81 => ?_)
            · have hm : mx w (T.2 i) o := Or.inl ⟨by omega, hc81⟩
              exact J99 hm
            · have gg := hR.trans (FR_no hi hc32 g65 (by intro z; rcases z with z | z; exact hc81 z.2; omega))
              refine V_goto (tgt := 96) E dX6_firstFault_84 (by decide) ?_
              refine V_iload E dX6_firstFault_96 rfl ?_
              exact V_iret E R dX6_firstFault_98 rfl (Nat.le_refl _) (Nat.le_refl _) ⟨congrArg (fun z => some (Value.int z)) ((congrArg an gg).symm), rfl⟩
        · rw [fa_eq, z32] at h65
          have g65 : T.2 i = 32 := by omega
          refine V_goto (tgt := 146) E dX6_firstFault_68 (by decide) ?_
          refine V_lo (lo' := [some (.ref (205)), some (.int (nI (w))), some (.int (nI (o))), some (.int (0)), some (.int (nI (i))), none]) (And.intro rfl (And.intro rfl (And.intro rfl (And.intro rfl (And.intro rfl True.intro))))) ?_
          refine V_iinc (v := nI (i + 1)) E dX6_firstFault_146 rfl (ni_inc (a := i) (z := 1) (@rfl _ (nI (i)))) (by decide) rfl ?_
          refine V_goto (tgt := 9) E dX6_firstFault_149 (by decide) ?_
          exact ih (i + 1) w o 0 (by omega) ⟨by omega, by omega, by omega⟩ (hR.trans (FR_sp hi g65))
      · refine V_iload_n E dX6_firstFault_35 rfl ?_
        refine V_iconst (v := 4) E dX6_firstFault_36 (by decide) ?_
        refine V_icmp_eq (tgt := 48) E dX6_firstFault_37 (by decide) (fun h37 => ?_) (fun h37 => ?_)
        · have g37 : g = 4 := (nI_eq (a := g) (b := 4) (by omega) (by omega)).mp h37
          have gg := hR.trans (FR_d4 hi hc32 (Or.inl g37))
          refine V_iload E dX6_firstFault_48 rfl ?_
          exact V_iret E R dX6_firstFault_50 rfl (Nat.le_refl _) (Nat.le_refl _) ⟨congrArg (fun z => some (Value.int z)) ((congrArg an gg).symm), rfl⟩
        · have g37 : g ≠ 4 := fun z => h37 (by rw [z]; rfl)
          refine V_iload_n E dX6_firstFault_40 rfl ?_
          refine V_if_ne (tgt := 51) E dX6_firstFault_41 (by decide) (fun h41 => ?_) (fun h41 => ?_)
          · have g41 : g ≠ 0 := fun z => h41 (by rw [z]; rfl)
            refine V_iinc (v := nI (g + 1)) E dX6_firstFault_51 rfl (ni_inc (a := g) (z := 1) (@rfl _ (nI (g)))) (by decide) rfl ?_
            refine V_iconst (v := 0) E dX6_firstFault_54 (by decide) ?_
            refine V_istore_n E dX6_firstFault_55 (by decide) rfl ?_
            refine V_goto (tgt := 146) E dX6_firstFault_56 (by decide) ?_
            refine V_lo (lo' := [some (.ref (205)), some (.int (0)), some (.int (nI (o))), some (.int (nI (g + 1))), some (.int (nI (i))), none]) (And.intro rfl (And.intro rfl (And.intro rfl (And.intro rfl (And.intro rfl True.intro))))) ?_
            refine V_iinc (v := nI (i + 1)) E dX6_firstFault_146 rfl (ni_inc (a := i) (z := 1) (@rfl _ (nI (i)))) (by decide) rfl ?_
            refine V_goto (tgt := 9) E dX6_firstFault_149 (by decide) ?_
            exact ih (i + 1) 0 o (g + 1) (by omega) ⟨by omega, by omega, by omega⟩ (hR.trans (FR_dg hi hc32 (by omega)))
          · have g41 : g = 0 := (nI_eq (a := g) (b := 0) (by omega) (by omega)).mp h41
            refine V_iload_n E dX6_firstFault_44 rfl ?_
            refine V_if_ne (tgt := 51) E dX6_firstFault_45 (by decide) (fun h45 => ?_) (fun h45 => ?_)
            · have g45 : w ≠ 0 := fun z => h45 (by rw [z]; rfl)
              refine V_iinc (v := nI (g + 1)) E dX6_firstFault_51 rfl (ni_inc (a := g) (z := 1) (@rfl _ (nI (g)))) (by decide) rfl ?_
              refine V_iconst (v := 0) E dX6_firstFault_54 (by decide) ?_
              refine V_istore_n E dX6_firstFault_55 (by decide) rfl ?_
              refine V_goto (tgt := 146) E dX6_firstFault_56 (by decide) ?_
              refine V_lo (lo' := [some (.ref (205)), some (.int (0)), some (.int (nI (o))), some (.int (nI (g + 1))), some (.int (nI (i))), none]) (And.intro rfl (And.intro rfl (And.intro rfl (And.intro rfl (And.intro rfl True.intro))))) ?_
              refine V_iinc (v := nI (i + 1)) E dX6_firstFault_146 rfl (ni_inc (a := i) (z := 1) (@rfl _ (nI (i)))) (by decide) rfl ?_
              refine V_goto (tgt := 9) E dX6_firstFault_149 (by decide) ?_
              exact ih (i + 1) 0 o (g + 1) (by omega) ⟨by omega, by omega, by omega⟩ (hR.trans (FR_dg hi hc32 (by omega)))
            · have g45 : w = 0 := (nI_eq (a := w) (b := 0) (by omega) (by omega)).mp h45
              have gg := hR.trans (FR_d4 hi hc32 (Or.inr ⟨g41, g45⟩))
              refine V_iload E dX6_firstFault_48 rfl ?_
              exact V_iret E R dX6_firstFault_50 rfl (Nat.le_refl _) (Nat.le_refl _) ⟨congrArg (fun z => some (Value.int z)) ((congrArg an gg).symm), rfl⟩
  exact loop T.1 0 1 0 0 (by omega) ⟨by omega, by omega, by omega⟩ rfl

theorem cy_fault (l : Launch) (d : Nat) (S : GS) (T : AT) (hT : TOK T) (hQ : YOK S) (hX : YTx S T) : GC l (d + 3) yX10_fault cX10_fault 1 (some FieldType.int) [.ref 200] S (fun r S2 => r = some (.int (an (FR T 0 1 0 0))) ∧ S2 = S) (0) (0) := by
  refine GC.ofV (by decide) (Nat.le_of_ble_eq_true rfl) (fun X hl E R hnm => ?_)
  subst hl
  have E : En X RX10 cX10_fault 1 (d + 3) (0) (0) := E
  have R : Rt X (some FieldType.int) (fun r S2 => r = some (.int (an (FR T 0 1 0 0))) ∧ S2 = S) := R
  refine V_aload_n E dX10_fault_0 rfl ?_
  refine V_getR E fl_X10_27 dX10_fault_1 rfl (hQ.k 200 11 rfl (by decide)) (hQ.r 200 5 205 rfl) ?_
  refine V_callV E (cy_firstFault (x_l X) d S T hT hQ hX) ml_X10_125 mv_X6_firstFault (hQ.k 205 7 rfl (by decide)) dX10_fault_4 rfl (by simp [Value.category]) (by omega) (by omega) (by omega) (fun r S2 hp => ?_)
  obtain ⟨rfl, hS2⟩ := hp
  obtain rfl := hS2.symm
  exact V_iret E R dX10_fault_7 rfl (Nat.le_refl _) (Nat.le_refl _) ⟨rfl, rfl⟩
