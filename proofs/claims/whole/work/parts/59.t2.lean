theorem cy_bytesIn (l : Launch) (d : Nat) (S : GS) (x : Int32) : GC l (d) yX6_bytesIn cX6_bytesIn 3 (some FieldType.int) [.int x] S (fun r S2 => r = some (.int (nI (nz x))) ∧ S2 = S) (0) (0) := by
  refine GC.ofV (by decide) (Nat.le_of_ble_eq_true rfl) (fun X hl E R hnm => ?_)
  subst hl
  have E : En X RX6 cX6_bytesIn 3 (d) (0) (0) := E
  have R : Rt X (some FieldType.int) (fun r S2 => r = some (.int (nI (nz x))) ∧ S2 = S) := R
  have b24 := byt_lt x 24
  have e24 := byt_u x (s := 24) (by unfold bsh; omega)
  have b16 := byt_lt x 16
  have e16 := byt_u x (s := 16) (by unfold bsh; omega)
  have b8 := byt_lt x 8
  have e8 := byt_u x (s := 8) (by unfold bsh; omega)
  have b0 := byt_lt x 0
  have e0 := byt_u x (s := 0) (by unfold bsh; omega)
  refine V_iconst (v := 0) E dX6_bytesIn_0 (by decide) ?_
  refine V_istore_n E dX6_bytesIn_1 (by decide) rfl ?_
  refine V_bipush (v := 24) E dX6_bytesIn_2 (by decide) ?_
  refine V_istore_n E dX6_bytesIn_4 (by decide) rfl ?_
  refine V_iload_n E dX6_bytesIn_5 rfl ?_
  refine V_if_lt (tgt := 33) E dX6_bytesIn_6 (by decide) (fun hx => absurd hx (by decide)) (fun _ => ?_)
  have J25 : V X 25 [some (.int (x)), some (.int (0)), some (.int (24))] [(.int (nI (nz1 x 24))), (.int (0))] (S) 0 0 := by
    refine V_iadd E dX6_bytesIn_25 ?_
    refine V_cvi (y := nI ((0 + nz1 x 24))) (ni_add (a := 0) (b := nz1 x 24) (rfl : (0 : Int32) = nI 0) (@rfl _ (nI (nz1 x 24)))) ?_
    refine V_istore_n E dX6_bytesIn_26 (by decide) rfl ?_
    refine V_iinc (v := 16) E dX6_bytesIn_27 rfl (by decide) (by decide) rfl ?_
    refine V_goto (tgt := 5) E dX6_bytesIn_30 (by decide) ?_
    refine V_iload_n E dX6_bytesIn_5 rfl ?_
    refine V_if_lt (tgt := 33) E dX6_bytesIn_6 (by decide) (fun hx => absurd hx (by decide)) (fun _ => ?_)
    have J25 : V X 25 [some (.int (x)), some (.int (nI ((0 + nz1 x 24)))), some (.int (16))] [(.int (nI (nz1 x 16))), (.int (nI ((0 + nz1 x 24))))] (S) 0 0 := by
      refine V_iadd E dX6_bytesIn_25 ?_
      refine V_cvi (y := nI (((0 + nz1 x 24) + nz1 x 16))) (ni_add (a := (0 + nz1 x 24)) (b := nz1 x 16) (@rfl _ (nI ((0 + nz1 x 24)))) (@rfl _ (nI (nz1 x 16)))) ?_
      refine V_istore_n E dX6_bytesIn_26 (by decide) rfl ?_
      refine V_iinc (v := 8) E dX6_bytesIn_27 rfl (by decide) (by decide) rfl ?_
      refine V_goto (tgt := 5) E dX6_bytesIn_30 (by decide) ?_
      refine V_iload_n E dX6_bytesIn_5 rfl ?_
      refine V_if_lt (tgt := 33) E dX6_bytesIn_6 (by decide) (fun hx => absurd hx (by decide)) (fun _ => ?_)
      have J25 : V X 25 [some (.int (x)), some (.int (nI (((0 + nz1 x 24) + nz1 x 16)))), some (.int (8))] [(.int (nI (nz1 x 8))), (.int (nI (((0 + nz1 x 24) + nz1 x 16))))] (S) 0 0 := by
        refine V_iadd E dX6_bytesIn_25 ?_
        refine V_cvi (y := nI ((((0 + nz1 x 24) + nz1 x 16) + nz1 x 8))) (ni_add (a := ((0 + nz1 x 24) + nz1 x 16)) (b := nz1 x 8) (@rfl _ (nI (((0 + nz1 x 24) + nz1 x 16)))) (@rfl _ (nI (nz1 x 8)))) ?_
        refine V_istore_n E dX6_bytesIn_26 (by decide) rfl ?_
        refine V_iinc (v := 0) E dX6_bytesIn_27 rfl (by decide) (by decide) rfl ?_
        refine V_goto (tgt := 5) E dX6_bytesIn_30 (by decide) ?_
        refine V_iload_n E dX6_bytesIn_5 rfl ?_
        refine V_if_lt (tgt := 33) E dX6_bytesIn_6 (by decide) (fun hx => absurd hx (by decide)) (fun _ => ?_)
        have J25 : V X 25 [some (.int (x)), some (.int (nI ((((0 + nz1 x 24) + nz1 x 16) + nz1 x 8)))), some (.int (0))] [(.int (nI (nz1 x 0))), (.int (nI ((((0 + nz1 x 24) + nz1 x 16) + nz1 x 8))))] (S) 0 0 := by
          refine V_iadd E dX6_bytesIn_25 ?_
          refine V_cvi (y := nI (((((0 + nz1 x 24) + nz1 x 16) + nz1 x 8) + nz1 x 0))) (ni_add (a := (((0 + nz1 x 24) + nz1 x 16) + nz1 x 8)) (b := nz1 x 0) (@rfl _ (nI ((((0 + nz1 x 24) + nz1 x 16) + nz1 x 8)))) (@rfl _ (nI (nz1 x 0)))) ?_
          refine V_istore_n E dX6_bytesIn_26 (by decide) rfl ?_
          refine V_iinc (v := -8) E dX6_bytesIn_27 rfl (by decide) (by decide) rfl ?_
          refine V_goto (tgt := 5) E dX6_bytesIn_30 (by decide) ?_
          refine V_iload_n E dX6_bytesIn_5 rfl ?_
          refine V_if_lt (tgt := 33) E dX6_bytesIn_6 (by decide) (fun _ => ?_) (fun hx => absurd hx (by decide))
          refine V_iload_n E dX6_bytesIn_33 rfl ?_
          exact V_iret E R dX6_bytesIn_34 rfl (Nat.le_refl _) (Nat.le_refl _) ⟨congrArg (fun z => some (Value.int (nI z))) (by unfold nz; omega), rfl⟩
        refine V_iload_n E dX6_bytesIn_9 rfl ?_
        refine V_iload_n E dX6_bytesIn_10 rfl ?_
        refine V_iload_n E dX6_bytesIn_11 rfl ?_
        refine V_iushr E dX6_bytesIn_12 rfl ?_
        refine V_sipush (v := 255) E dX6_bytesIn_13 (by decide) ?_
        refine V_iand E dX6_bytesIn_16 ?_
        refine V_if_eq (tgt := 24) E dX6_bytesIn_17 (by decide) (fun h0 => ?_) (fun h0 => ?_)
        · have g0 : byt x 0 = 0 := (nI_eq (a := byt x 0) (b := 0) (by omega) (by omega)).mp (e0.symm.trans h0)
          refine V_iconst (v := 0) E dX6_bytesIn_24 (by decide) ?_
          exact V_cvi (y := nI (nz1 x 0)) (congrArg nI (bz_0 g0)).symm J25
        · have g0 : ¬ byt x 0 = 0 := fun q => h0 (e0.trans (by rw [q]; rfl))
          refine V_iconst (v := 1) E dX6_bytesIn_20 (by decide) ?_
          refine V_goto (tgt := 25) E dX6_bytesIn_21 (by decide) ?_
          exact V_cvi (y := nI (nz1 x 0)) (congrArg nI (bz_1 g0)).symm J25
      refine V_iload_n E dX6_bytesIn_9 rfl ?_
      refine V_iload_n E dX6_bytesIn_10 rfl ?_
      refine V_iload_n E dX6_bytesIn_11 rfl ?_
      refine V_iushr E dX6_bytesIn_12 rfl ?_
      refine V_sipush (v := 255) E dX6_bytesIn_13 (by decide) ?_
      refine V_iand E dX6_bytesIn_16 ?_
      refine V_if_eq (tgt := 24) E dX6_bytesIn_17 (by decide) (fun h8 => ?_) (fun h8 => ?_)
      · have g8 : byt x 8 = 0 := (nI_eq (a := byt x 8) (b := 0) (by omega) (by omega)).mp (e8.symm.trans h8)
        refine V_iconst (v := 0) E dX6_bytesIn_24 (by decide) ?_
        exact V_cvi (y := nI (nz1 x 8)) (congrArg nI (bz_0 g8)).symm J25
      · have g8 : ¬ byt x 8 = 0 := fun q => h8 (e8.trans (by rw [q]; rfl))
        refine V_iconst (v := 1) E dX6_bytesIn_20 (by decide) ?_
        refine V_goto (tgt := 25) E dX6_bytesIn_21 (by decide) ?_
        exact V_cvi (y := nI (nz1 x 8)) (congrArg nI (bz_1 g8)).symm J25
    refine V_iload_n E dX6_bytesIn_9 rfl ?_
    refine V_iload_n E dX6_bytesIn_10 rfl ?_
    refine V_iload_n E dX6_bytesIn_11 rfl ?_
    refine V_iushr E dX6_bytesIn_12 rfl ?_
    refine V_sipush (v := 255) E dX6_bytesIn_13 (by decide) ?_
    refine V_iand E dX6_bytesIn_16 ?_
    refine V_if_eq (tgt := 24) E dX6_bytesIn_17 (by decide) (fun h16 => ?_) (fun h16 => ?_)
    · have g16 : byt x 16 = 0 := (nI_eq (a := byt x 16) (b := 0) (by omega) (by omega)).mp (e16.symm.trans h16)
      refine V_iconst (v := 0) E dX6_bytesIn_24 (by decide) ?_
      exact V_cvi (y := nI (nz1 x 16)) (congrArg nI (bz_0 g16)).symm J25
    · have g16 : ¬ byt x 16 = 0 := fun q => h16 (e16.trans (by rw [q]; rfl))
      refine V_iconst (v := 1) E dX6_bytesIn_20 (by decide) ?_
      refine V_goto (tgt := 25) E dX6_bytesIn_21 (by decide) ?_
      exact V_cvi (y := nI (nz1 x 16)) (congrArg nI (bz_1 g16)).symm J25
  refine V_iload_n E dX6_bytesIn_9 rfl ?_
  refine V_iload_n E dX6_bytesIn_10 rfl ?_
  refine V_iload_n E dX6_bytesIn_11 rfl ?_
  refine V_iushr E dX6_bytesIn_12 rfl ?_
  refine V_sipush (v := 255) E dX6_bytesIn_13 (by decide) ?_
  refine V_iand E dX6_bytesIn_16 ?_
  refine V_if_eq (tgt := 24) E dX6_bytesIn_17 (by decide) (fun h24 => ?_) (fun h24 => ?_)
  · have g24 : byt x 24 = 0 := (nI_eq (a := byt x 24) (b := 0) (by omega) (by omega)).mp (e24.symm.trans h24)
    refine V_iconst (v := 0) E dX6_bytesIn_24 (by decide) ?_
    exact V_cvi (y := nI (nz1 x 24)) (congrArg nI (bz_0 g24)).symm J25
  · have g24 : ¬ byt x 24 = 0 := fun q => h24 (e24.trans (by rw [q]; rfl))
    refine V_iconst (v := 1) E dX6_bytesIn_20 (by decide) ?_
    refine V_goto (tgt := 25) E dX6_bytesIn_21 (by decide) ?_
    exact V_cvi (y := nI (nz1 x 24)) (congrArg nI (bz_1 g24)).symm J25

theorem cy_append (l : Launch) (d : Nat) (S : GS) (hQ : YOK S) (T : AT) (f : Nat → Int32) (x : Int32) (hf : ∀ i, i < (T).1 → f i = bv ((T).2 i)) (hn : T.1 + nz x ≤ 200) : GC l (d) yX6_append cX6_append 4 none [.ref 205, .int x] (tst S T.1 f) (fun r S2 => r = none ∧ ∃ f2 : Nat → Int32, S2 = tst S (aApp T x).1 f2 ∧ ∀ i, i < (aApp T x).1 → f2 i = bv ((aApp T x).2 i)) (0) (0) := by
  refine GC.ofV (by decide) (Nat.le_of_ble_eq_true rfl) (fun X hl E R hnm => ?_)
  subst hl
  have E : En X RX6 cX6_append 4 (d) (0) (0) := E
  have R : Rt X none (fun r S2 => r = none ∧ ∃ f2 : Nat → Int32, S2 = tst S (aApp T x).1 f2 ∧ ∀ i, i < (aApp T x).1 → f2 i = bv ((aApp T x).2 i)) := R
  have b24 := byt_lt x 24
  have e24 := byt_u x (s := 24) (by unfold bsh; omega)
  have c24 := nz1_bz x 24
  have b16 := byt_lt x 16
  have e16 := byt_u x (s := 16) (by unfold bsh; omega)
  have c16 := nz1_bz x 16
  have b8 := byt_lt x 8
  have e8 := byt_u x (s := 8) (by unfold bsh; omega)
  have c8 := nz1_bz x 8
  have b0 := byt_lt x 0
  have e0 := byt_u x (s := 0) (by unfold bsh; omega)
  have c0 := nz1_bz x 0
  have qn : T.1 + nz1 x 24 + nz1 x 16 + nz1 x 8 + nz1 x 0 ≤ 200 := by unfold nz at hn; omega
  refine V_bipush (v := 24) E dX6_append_0 (by decide) ?_
  refine V_istore_n E dX6_append_2 (by decide) rfl ?_
  refine V_iload_n E dX6_append_3 rfl ?_
  refine V_if_lt (tgt := 58) E dX6_append_4 (by decide) (fun hx => absurd hx (by decide)) (fun _ => ?_)
  have J24 : ∀ f1 : Nat → Int32, (∀ i, i < ((aPut T (byt x 24))).1 → f1 i = bv (((aPut T (byt x 24))).2 i)) → V X 52 [some (.ref (205)), some (.int (x)), some (.int (24)), none] [] (tst S ((aPut T (byt x 24))).1 f1) 0 0 := by
    intro f1 hf1
    have qn : ((aPut T (byt x 24))).1 + nz1 x 16 + nz1 x 8 + nz1 x 0 ≤ 200 := by rw [aPut_n]; omega
    refine V_iinc (v := 16) E dX6_append_52 rfl (by decide) (by decide) rfl ?_
    refine V_goto (tgt := 3) E dX6_append_55 (by decide) ?_
    refine V_iload_n E dX6_append_3 rfl ?_
    refine V_if_lt (tgt := 58) E dX6_append_4 (by decide) (fun hx => absurd hx (by decide)) (fun _ => ?_)
    have J16 : ∀ f2 : Nat → Int32, (∀ i, i < ((aPut (aPut T (byt x 24)) (byt x 16))).1 → f2 i = bv (((aPut (aPut T (byt x 24)) (byt x 16))).2 i)) → V X 52 [some (.ref (205)), some (.int (x)), some (.int (16)), none] [] (tst S ((aPut (aPut T (byt x 24)) (byt x 16))).1 f2) 0 0 := by
      intro f2 hf2
      have qn : ((aPut (aPut T (byt x 24)) (byt x 16))).1 + nz1 x 8 + nz1 x 0 ≤ 200 := by rw [aPut_n]; omega
      refine V_iinc (v := 8) E dX6_append_52 rfl (by decide) (by decide) rfl ?_
      refine V_goto (tgt := 3) E dX6_append_55 (by decide) ?_
      refine V_iload_n E dX6_append_3 rfl ?_
      refine V_if_lt (tgt := 58) E dX6_append_4 (by decide) (fun hx => absurd hx (by decide)) (fun _ => ?_)
      have J8 : ∀ f3 : Nat → Int32, (∀ i, i < ((aPut (aPut (aPut T (byt x 24)) (byt x 16)) (byt x 8))).1 → f3 i = bv (((aPut (aPut (aPut T (byt x 24)) (byt x 16)) (byt x 8))).2 i)) → V X 52 [some (.ref (205)), some (.int (x)), some (.int (8)), none] [] (tst S ((aPut (aPut (aPut T (byt x 24)) (byt x 16)) (byt x 8))).1 f3) 0 0 := by
        intro f3 hf3
        have qn : ((aPut (aPut (aPut T (byt x 24)) (byt x 16)) (byt x 8))).1 + nz1 x 0 ≤ 200 := by rw [aPut_n]; omega
        refine V_iinc (v := 0) E dX6_append_52 rfl (by decide) (by decide) rfl ?_
        refine V_goto (tgt := 3) E dX6_append_55 (by decide) ?_
        refine V_iload_n E dX6_append_3 rfl ?_
        refine V_if_lt (tgt := 58) E dX6_append_4 (by decide) (fun hx => absurd hx (by decide)) (fun _ => ?_)
        have J0 : ∀ f4 : Nat → Int32, (∀ i, i < ((aPut (aPut (aPut (aPut T (byt x 24)) (byt x 16)) (byt x 8)) (byt x 0))).1 → f4 i = bv (((aPut (aPut (aPut (aPut T (byt x 24)) (byt x 16)) (byt x 8)) (byt x 0))).2 i)) → V X 52 [some (.ref (205)), some (.int (x)), some (.int (0)), none] [] (tst S ((aPut (aPut (aPut (aPut T (byt x 24)) (byt x 16)) (byt x 8)) (byt x 0))).1 f4) 0 0 := by
          intro f4 hf4
          have qn : ((aPut (aPut (aPut (aPut T (byt x 24)) (byt x 16)) (byt x 8)) (byt x 0))).1 ≤ 200 := by rw [aPut_n]; omega
          refine V_iinc (v := -8) E dX6_append_52 rfl (by decide) (by decide) rfl ?_
          refine V_goto (tgt := 3) E dX6_append_55 (by decide) ?_
          refine V_iload_n E dX6_append_3 rfl ?_
          refine V_if_lt (tgt := 58) E dX6_append_4 (by decide) (fun _ => ?_) (fun hx => absurd hx (by decide))
          exact V_vret E R dX6_append_58 (Nat.le_refl _) (Nat.le_refl _) ⟨rfl, f4, rfl, hf4⟩
        refine V_iload_n E dX6_append_7 rfl ?_
        refine V_iload_n E dX6_append_8 rfl ?_
        refine V_iushr E dX6_append_9 rfl ?_
        refine V_sipush (v := 255) E dX6_append_10 (by decide) ?_
        refine V_iand E dX6_append_13 ?_
        refine V_cvi (y := nI (byt x 0)) e0 ?_
        refine V_istore_n E dX6_append_14 (by decide) rfl ?_
        refine V_iload_n E dX6_append_15 rfl ?_
        refine V_if_eq (tgt := 52) E dX6_append_16 (by decide) (fun h0 => ?_) (fun h0 => ?_)
        · have g0 : byt x 0 = 0 := (nI_eq (a := byt x 0) (b := 0) (by omega) (by omega)).mp h0
          refine V_lo (lo' := [some (.ref (205)), some (.int (x)), some (.int (0)), none]) (And.intro rfl (And.intro rfl (And.intro rfl True.intro))) ?_
          rw [aPut_0 g0] at J0
          exact J0 f3 hf3
        · have g0 : ¬ byt x 0 = 0 := fun q => h0 (by rw [q]; rfl)
          have u0 : nz1 x 0 = 1 := bz_1 g0
          refine V_aload_n E dX6_append_19 rfl ?_
          refine V_getI E fl_X6_21 dX6_append_20 rfl (hQ.k 205 7 rfl (by decide)) ?_
          refine V_aload_n E dX6_append_23 rfl ?_
          refine V_getR E fl_X6_15 dX6_append_24 rfl (hQ.k 205 7 rfl (by decide)) (hQ.r 205 0 206 rfl) ?_
          refine V_al E dX6_append_27 (hQ.k 206 23 rfl (by decide)) (by decide) (hQ.l 206 200 rfl (by decide)) ?_
          refine V_ge_no (a := ((aPut (aPut (aPut T (byt x 24)) (byt x 16)) (byt x 8))).1) (b := 200) (tgt := 52) E dX6_append_28 (by decide) (tst_n S ((aPut (aPut (aPut T (byt x 24)) (byt x 16)) (byt x 8))).1 f3) (@rfl _ (nI (200))) (by omega) (by omega) ?_
          refine V_aload_n E dX6_append_31 rfl ?_
          refine V_getR E fl_X6_15 dX6_append_32 rfl (hQ.k 205 7 rfl (by decide)) (hQ.r 205 0 206 rfl) ?_
          refine V_aload_n E dX6_append_35 rfl ?_
          refine V_getI E fl_X6_21 dX6_append_36 rfl (hQ.k 205 7 rfl (by decide)) ?_
          refine V_iload_n E dX6_append_39 rfl ?_
          refine V_i2b E dX6_append_40 rfl ?_
          refine V_bas (j := ((aPut (aPut (aPut T (byt x 24)) (byt x 16)) (byt x 8))).1) E dX6_append_41 (hQ.k 206 23 rfl (by decide)) (tst_n S ((aPut (aPut (aPut T (byt x 24)) (byt x 16)) (byt x 8))).1 f3) (hQ.l 206 200 rfl (by decide)) (by omega) (by decide) ?_
          refine V_aload_n E dX6_append_42 rfl ?_
          refine V_dup E dX6_append_43 rfl ?_
          refine V_getI E fl_X6_21 dX6_append_44 rfl (hQ.k 205 7 rfl (by decide)) ?_
          refine V_iconst (v := 1) E dX6_append_47 (by decide) ?_
          refine V_iadd E dX6_append_48 ?_
          refine V_cvi (y := nI ((((aPut (aPut (aPut T (byt x 24)) (byt x 16)) (byt x 8))).1 + 1))) (ni_add (a := ((aPut (aPut (aPut T (byt x 24)) (byt x 16)) (byt x 8))).1) (b := 1) (tst_n S ((aPut (aPut (aPut T (byt x 24)) (byt x 16)) (byt x 8))).1 f3) (rfl : (1 : Int32) = nI 1)) ?_
          refine V_putI E fl_X6_21 dX6_append_49 rfl (hQ.k 205 7 rfl (by decide)) ⟨rfl, rfl⟩ rfl ?_
          refine V_lo (lo' := [some (.ref (205)), some (.int (x)), some (.int (0)), none]) (And.intro rfl (And.intro rfl (And.intro rfl True.intro))) ?_
          rw [aPut_1 g0] at J0
          exact V_cvS (show _ = tst S (((aPut (aPut (aPut T (byt x 24)) (byt x 16)) (byt x 8))).1 + 1) (va_up f3 ((aPut (aPut (aPut T (byt x 24)) (byt x 16)) (byt x 8))).1 (bv (byt x 0))) from (congrArg (fun z => sI (sA (tst S ((aPut (aPut (aPut T (byt x 24)) (byt x 16)) (byt x 8))).1 f3) 206 ((aPut (aPut (aPut T (byt x 24)) (byt x 16)) (byt x 8))).1 z) 205 1 (nI (((aPut (aPut (aPut T (byt x 24)) (byt x 16)) (byt x 8))).1 + 1))) (bv_nar (byt x 0))).trans (tst_put S _ _ _ _)) (J0 _ (bv_put hf3))
      refine V_iload_n E dX6_append_7 rfl ?_
      refine V_iload_n E dX6_append_8 rfl ?_
      refine V_iushr E dX6_append_9 rfl ?_
      refine V_sipush (v := 255) E dX6_append_10 (by decide) ?_
      refine V_iand E dX6_append_13 ?_
      refine V_cvi (y := nI (byt x 8)) e8 ?_
      refine V_istore_n E dX6_append_14 (by decide) rfl ?_
      refine V_iload_n E dX6_append_15 rfl ?_
      refine V_if_eq (tgt := 52) E dX6_append_16 (by decide) (fun h8 => ?_) (fun h8 => ?_)
      · have g8 : byt x 8 = 0 := (nI_eq (a := byt x 8) (b := 0) (by omega) (by omega)).mp h8
        refine V_lo (lo' := [some (.ref (205)), some (.int (x)), some (.int (8)), none]) (And.intro rfl (And.intro rfl (And.intro rfl True.intro))) ?_
        rw [aPut_0 g8] at J8
        exact J8 f2 hf2
      · have g8 : ¬ byt x 8 = 0 := fun q => h8 (by rw [q]; rfl)
        have u8 : nz1 x 8 = 1 := bz_1 g8
        refine V_aload_n E dX6_append_19 rfl ?_
        refine V_getI E fl_X6_21 dX6_append_20 rfl (hQ.k 205 7 rfl (by decide)) ?_
        refine V_aload_n E dX6_append_23 rfl ?_
        refine V_getR E fl_X6_15 dX6_append_24 rfl (hQ.k 205 7 rfl (by decide)) (hQ.r 205 0 206 rfl) ?_
        refine V_al E dX6_append_27 (hQ.k 206 23 rfl (by decide)) (by decide) (hQ.l 206 200 rfl (by decide)) ?_
        refine V_ge_no (a := ((aPut (aPut T (byt x 24)) (byt x 16))).1) (b := 200) (tgt := 52) E dX6_append_28 (by decide) (tst_n S ((aPut (aPut T (byt x 24)) (byt x 16))).1 f2) (@rfl _ (nI (200))) (by omega) (by omega) ?_
        refine V_aload_n E dX6_append_31 rfl ?_
        refine V_getR E fl_X6_15 dX6_append_32 rfl (hQ.k 205 7 rfl (by decide)) (hQ.r 205 0 206 rfl) ?_
        refine V_aload_n E dX6_append_35 rfl ?_
        refine V_getI E fl_X6_21 dX6_append_36 rfl (hQ.k 205 7 rfl (by decide)) ?_
        refine V_iload_n E dX6_append_39 rfl ?_
        refine V_i2b E dX6_append_40 rfl ?_
        refine V_bas (j := ((aPut (aPut T (byt x 24)) (byt x 16))).1) E dX6_append_41 (hQ.k 206 23 rfl (by decide)) (tst_n S ((aPut (aPut T (byt x 24)) (byt x 16))).1 f2) (hQ.l 206 200 rfl (by decide)) (by omega) (by decide) ?_
        refine V_aload_n E dX6_append_42 rfl ?_
        refine V_dup E dX6_append_43 rfl ?_
        refine V_getI E fl_X6_21 dX6_append_44 rfl (hQ.k 205 7 rfl (by decide)) ?_
        refine V_iconst (v := 1) E dX6_append_47 (by decide) ?_
        refine V_iadd E dX6_append_48 ?_
        refine V_cvi (y := nI ((((aPut (aPut T (byt x 24)) (byt x 16))).1 + 1))) (ni_add (a := ((aPut (aPut T (byt x 24)) (byt x 16))).1) (b := 1) (tst_n S ((aPut (aPut T (byt x 24)) (byt x 16))).1 f2) (rfl : (1 : Int32) = nI 1)) ?_
        refine V_putI E fl_X6_21 dX6_append_49 rfl (hQ.k 205 7 rfl (by decide)) ⟨rfl, rfl⟩ rfl ?_
        refine V_lo (lo' := [some (.ref (205)), some (.int (x)), some (.int (8)), none]) (And.intro rfl (And.intro rfl (And.intro rfl True.intro))) ?_
        rw [aPut_1 g8] at J8
        exact V_cvS (show _ = tst S (((aPut (aPut T (byt x 24)) (byt x 16))).1 + 1) (va_up f2 ((aPut (aPut T (byt x 24)) (byt x 16))).1 (bv (byt x 8))) from (congrArg (fun z => sI (sA (tst S ((aPut (aPut T (byt x 24)) (byt x 16))).1 f2) 206 ((aPut (aPut T (byt x 24)) (byt x 16))).1 z) 205 1 (nI (((aPut (aPut T (byt x 24)) (byt x 16))).1 + 1))) (bv_nar (byt x 8))).trans (tst_put S _ _ _ _)) (J8 _ (bv_put hf2))
    refine V_iload_n E dX6_append_7 rfl ?_
    refine V_iload_n E dX6_append_8 rfl ?_
    refine V_iushr E dX6_append_9 rfl ?_
    refine V_sipush (v := 255) E dX6_append_10 (by decide) ?_
    refine V_iand E dX6_append_13 ?_
    refine V_cvi (y := nI (byt x 16)) e16 ?_
    refine V_istore_n E dX6_append_14 (by decide) rfl ?_
    refine V_iload_n E dX6_append_15 rfl ?_
    refine V_if_eq (tgt := 52) E dX6_append_16 (by decide) (fun h16 => ?_) (fun h16 => ?_)
    · have g16 : byt x 16 = 0 := (nI_eq (a := byt x 16) (b := 0) (by omega) (by omega)).mp h16
      refine V_lo (lo' := [some (.ref (205)), some (.int (x)), some (.int (16)), none]) (And.intro rfl (And.intro rfl (And.intro rfl True.intro))) ?_
      rw [aPut_0 g16] at J16
      exact J16 f1 hf1
    · have g16 : ¬ byt x 16 = 0 := fun q => h16 (by rw [q]; rfl)
      have u16 : nz1 x 16 = 1 := bz_1 g16
      refine V_aload_n E dX6_append_19 rfl ?_
      refine V_getI E fl_X6_21 dX6_append_20 rfl (hQ.k 205 7 rfl (by decide)) ?_
      refine V_aload_n E dX6_append_23 rfl ?_
      refine V_getR E fl_X6_15 dX6_append_24 rfl (hQ.k 205 7 rfl (by decide)) (hQ.r 205 0 206 rfl) ?_
      refine V_al E dX6_append_27 (hQ.k 206 23 rfl (by decide)) (by decide) (hQ.l 206 200 rfl (by decide)) ?_
      refine V_ge_no (a := ((aPut T (byt x 24))).1) (b := 200) (tgt := 52) E dX6_append_28 (by decide) (tst_n S ((aPut T (byt x 24))).1 f1) (@rfl _ (nI (200))) (by omega) (by omega) ?_
      refine V_aload_n E dX6_append_31 rfl ?_
      refine V_getR E fl_X6_15 dX6_append_32 rfl (hQ.k 205 7 rfl (by decide)) (hQ.r 205 0 206 rfl) ?_
      refine V_aload_n E dX6_append_35 rfl ?_
      refine V_getI E fl_X6_21 dX6_append_36 rfl (hQ.k 205 7 rfl (by decide)) ?_
      refine V_iload_n E dX6_append_39 rfl ?_
      refine V_i2b E dX6_append_40 rfl ?_
      refine V_bas (j := ((aPut T (byt x 24))).1) E dX6_append_41 (hQ.k 206 23 rfl (by decide)) (tst_n S ((aPut T (byt x 24))).1 f1) (hQ.l 206 200 rfl (by decide)) (by omega) (by decide) ?_
      refine V_aload_n E dX6_append_42 rfl ?_
      refine V_dup E dX6_append_43 rfl ?_
      refine V_getI E fl_X6_21 dX6_append_44 rfl (hQ.k 205 7 rfl (by decide)) ?_
      refine V_iconst (v := 1) E dX6_append_47 (by decide) ?_
      refine V_iadd E dX6_append_48 ?_
      refine V_cvi (y := nI ((((aPut T (byt x 24))).1 + 1))) (ni_add (a := ((aPut T (byt x 24))).1) (b := 1) (tst_n S ((aPut T (byt x 24))).1 f1) (rfl : (1 : Int32) = nI 1)) ?_
      refine V_putI E fl_X6_21 dX6_append_49 rfl (hQ.k 205 7 rfl (by decide)) ⟨rfl, rfl⟩ rfl ?_
      refine V_lo (lo' := [some (.ref (205)), some (.int (x)), some (.int (16)), none]) (And.intro rfl (And.intro rfl (And.intro rfl True.intro))) ?_
      rw [aPut_1 g16] at J16
      exact V_cvS (show _ = tst S (((aPut T (byt x 24))).1 + 1) (va_up f1 ((aPut T (byt x 24))).1 (bv (byt x 16))) from (congrArg (fun z => sI (sA (tst S ((aPut T (byt x 24))).1 f1) 206 ((aPut T (byt x 24))).1 z) 205 1 (nI (((aPut T (byt x 24))).1 + 1))) (bv_nar (byt x 16))).trans (tst_put S _ _ _ _)) (J16 _ (bv_put hf1))
  refine V_iload_n E dX6_append_7 rfl ?_
  refine V_iload_n E dX6_append_8 rfl ?_
  refine V_iushr E dX6_append_9 rfl ?_
  refine V_sipush (v := 255) E dX6_append_10 (by decide) ?_
  refine V_iand E dX6_append_13 ?_
  refine V_cvi (y := nI (byt x 24)) e24 ?_
  refine V_istore_n E dX6_append_14 (by decide) rfl ?_
  refine V_iload_n E dX6_append_15 rfl ?_
  refine V_if_eq (tgt := 52) E dX6_append_16 (by decide) (fun h24 => ?_) (fun h24 => ?_)
  · have g24 : byt x 24 = 0 := (nI_eq (a := byt x 24) (b := 0) (by omega) (by omega)).mp h24
    refine V_lo (lo' := [some (.ref (205)), some (.int (x)), some (.int (24)), none]) (And.intro rfl (And.intro rfl (And.intro rfl True.intro))) ?_
    rw [aPut_0 g24] at J24
    exact J24 f hf
  · have g24 : ¬ byt x 24 = 0 := fun q => h24 (by rw [q]; rfl)
    have u24 : nz1 x 24 = 1 := bz_1 g24
    refine V_aload_n E dX6_append_19 rfl ?_
    refine V_getI E fl_X6_21 dX6_append_20 rfl (hQ.k 205 7 rfl (by decide)) ?_
    refine V_aload_n E dX6_append_23 rfl ?_
    refine V_getR E fl_X6_15 dX6_append_24 rfl (hQ.k 205 7 rfl (by decide)) (hQ.r 205 0 206 rfl) ?_
    refine V_al E dX6_append_27 (hQ.k 206 23 rfl (by decide)) (by decide) (hQ.l 206 200 rfl (by decide)) ?_
    refine V_ge_no (a := (T).1) (b := 200) (tgt := 52) E dX6_append_28 (by decide) (tst_n S (T).1 f) (@rfl _ (nI (200))) (by omega) (by omega) ?_
    refine V_aload_n E dX6_append_31 rfl ?_
    refine V_getR E fl_X6_15 dX6_append_32 rfl (hQ.k 205 7 rfl (by decide)) (hQ.r 205 0 206 rfl) ?_
    refine V_aload_n E dX6_append_35 rfl ?_
    refine V_getI E fl_X6_21 dX6_append_36 rfl (hQ.k 205 7 rfl (by decide)) ?_
    refine V_iload_n E dX6_append_39 rfl ?_
    refine V_i2b E dX6_append_40 rfl ?_
    refine V_bas (j := (T).1) E dX6_append_41 (hQ.k 206 23 rfl (by decide)) (tst_n S (T).1 f) (hQ.l 206 200 rfl (by decide)) (by omega) (by decide) ?_
    refine V_aload_n E dX6_append_42 rfl ?_
    refine V_dup E dX6_append_43 rfl ?_
    refine V_getI E fl_X6_21 dX6_append_44 rfl (hQ.k 205 7 rfl (by decide)) ?_
    refine V_iconst (v := 1) E dX6_append_47 (by decide) ?_
    refine V_iadd E dX6_append_48 ?_
    refine V_cvi (y := nI (((T).1 + 1))) (ni_add (a := (T).1) (b := 1) (tst_n S (T).1 f) (rfl : (1 : Int32) = nI 1)) ?_
    refine V_putI E fl_X6_21 dX6_append_49 rfl (hQ.k 205 7 rfl (by decide)) ⟨rfl, rfl⟩ rfl ?_
    refine V_lo (lo' := [some (.ref (205)), some (.int (x)), some (.int (24)), none]) (And.intro rfl (And.intro rfl (And.intro rfl True.intro))) ?_
    rw [aPut_1 g24] at J24
    exact V_cvS (show _ = tst S ((T).1 + 1) (va_up f (T).1 (bv (byt x 24))) from (congrArg (fun z => sI (sA (tst S (T).1 f) 206 (T).1 z) 205 1 (nI ((T).1 + 1))) (bv_nar (byt x 24))).trans (tst_put S _ _ _ _)) (J24 _ (bv_put hf))

theorem cy_feed (l : Launch) (d : Nat) (S : GS) (T : AT) (hT : TOK T) (hQ : YOK S) (hX : YTx S T) (a b c e g : Int32) : GC l (d + 1) yX10_feed cX10_feed 7 (some FieldType.int) [.ref 200, .int a, .int b, .int c, .int e, .int g] S (fun r S2 => (T.1 + sumN (fun i => bz ((fby a b c e g) i)) 20 ≤ 200 ∧ r = some (.int (nI (aF T (fby a b c e g) 20).1)) ∧ ∃ f : Nat → Int32, S2 = tst S (aF T (fby a b c e g) 20).1 f ∧ ∀ i, i < ((aF T (fby a b c e g) 20)).1 → f i = bv (((aF T (fby a b c e g) 20)).2 i)) ∨ (¬ T.1 + sumN (fun i => bz ((fby a b c e g) i)) 20 ≤ 200 ∧ r = some (.int (-1)) ∧ S2 = S)) (0) (0) := by
  refine GC.ofV (by decide) (Nat.le_of_ble_eq_true rfl) (fun X hl E R hnm => ?_)
  subst hl
  have E : En X RX10 cX10_feed 7 (d + 1) (0) (0) := E
  have R : Rt X (some FieldType.int) (fun r S2 => (T.1 + sumN (fun i => bz ((fby a b c e g) i)) 20 ≤ 200 ∧ r = some (.int (nI (aF T (fby a b c e g) 20).1)) ∧ ∃ f : Nat → Int32, S2 = tst S (aF T (fby a b c e g) 20).1 f ∧ ∀ i, i < ((aF T (fby a b c e g) 20)).1 → f i = bv (((aF T (fby a b c e g) 20)).2 i)) ∨ (¬ T.1 + sumN (fun i => bz ((fby a b c e g) i)) 20 ≤ 200 ∧ r = some (.int (-1)) ∧ S2 = S)) := R
  have hn := hT.1
  have hc := cnt_feed a b c e g
  have na := nz_le a
  have nb := nz_le b
  have nc := nz_le c
  have ne := nz_le e
  have ng := nz_le g
  refine V_iload_n E dX10_feed_0 rfl ?_
  refine V_callS E (cy_bytesIn (x_l X) d S a) ml_X10_115 ms_X6_bytesIn dX10_feed_1 rfl (by simp [Value.category]) (by omega) (by omega) (by omega) (fun r S2 hp => ?_)
  obtain ⟨rfl, hS2⟩ := hp
  obtain rfl := hS2.symm
  refine V_iload_n E dX10_feed_4 rfl ?_
  refine V_callS E (cy_bytesIn (x_l X) d S b) ml_X10_115 ms_X6_bytesIn dX10_feed_5 rfl (by simp [Value.category]) (by omega) (by omega) (by omega) (fun r S2 hp => ?_)
  obtain ⟨rfl, hS2⟩ := hp
  obtain rfl := hS2.symm
  refine V_iadd E dX10_feed_8 ?_
  refine V_iload_n E dX10_feed_9 rfl ?_
  refine V_callS E (cy_bytesIn (x_l X) d S c) ml_X10_115 ms_X6_bytesIn dX10_feed_10 rfl (by simp [Value.category]) (by omega) (by omega) (by omega) (fun r S2 hp => ?_)
  obtain ⟨rfl, hS2⟩ := hp
  obtain rfl := hS2.symm
  refine V_iadd E dX10_feed_13 ?_
  refine V_iload E dX10_feed_14 rfl ?_
  refine V_callS E (cy_bytesIn (x_l X) d S e) ml_X10_115 ms_X6_bytesIn dX10_feed_16 rfl (by simp [Value.category]) (by omega) (by omega) (by omega) (fun r S2 hp => ?_)
  obtain ⟨rfl, hS2⟩ := hp
  obtain rfl := hS2.symm
  refine V_iadd E dX10_feed_19 ?_
  refine V_iload E dX10_feed_20 rfl ?_
  refine V_callS E (cy_bytesIn (x_l X) d S g) ml_X10_115 ms_X6_bytesIn dX10_feed_22 rfl (by simp [Value.category]) (by omega) (by omega) (by omega) (fun r S2 hp => ?_)
  obtain ⟨rfl, hS2⟩ := hp
  obtain rfl := hS2.symm
  refine V_iadd E dX10_feed_25 ?_
  refine V_istore E dX10_feed_26 (by decide) rfl ?_
  refine V_iload E dX10_feed_28 rfl ?_
  refine V_sipush (v := 200) E dX10_feed_30 (by decide) ?_
  refine V_aload_n E dX10_feed_33 rfl ?_
  refine V_getR E fl_X10_27 dX10_feed_34 rfl (hQ.k 200 11 rfl (by decide)) (hQ.r 200 5 205 rfl) ?_
  refine V_getIN E fn_X10_119 dX10_feed_37 rfl (hQ.k 205 7 rfl (by decide)) ?_
  refine V_isub E dX10_feed_40 ?_
  by_cases hP : T.1 + sumN (fun i => bz ((fby a b c e g) i)) 20 ≤ 200
  · refine V_icmp_le (tgt := 46) E dX10_feed_41 (by decide) (fun _ => ?_) (fun q => absurd (by rw [(ni_add (a := (((nz a + nz b) + nz c) + nz e)) (b := nz g) (ni_add (a := ((nz a + nz b) + nz c)) (b := nz e) (ni_add (a := (nz a + nz b)) (b := nz c) (ni_add (a := nz a) (b := nz b) (@rfl _ (nI (nz a))) (@rfl _ (nI (nz b)))) (@rfl _ (nI (nz c)))) (@rfl _ (nI (nz e)))) (@rfl _ (nI (nz g)))), (ni_sub (a := 200) (b := T.1) (rfl : (200 : Int32) = nI 200) hX.1 (by omega))]; exact nI_le (by omega) (by omega)) q)
    refine V_cvS (tst_self hX).symm ?_
    refine V_lo (lo' := [some (.ref (200)), some (.int (a)), some (.int (b)), some (.int (c)), some (.int (e)), some (.int (g)), none]) (And.intro rfl (And.intro rfl (And.intro rfl (And.intro rfl (And.intro rfl (And.intro rfl True.intro)))))) ?_
    refine V_aload_n E dX10_feed_46 rfl ?_
    refine V_getR E fl_X10_27 dX10_feed_47 rfl (hQ.k 200 11 rfl (by decide)) (hQ.r 200 5 205 rfl) ?_
    refine V_iload_n E dX10_feed_50 rfl ?_
    have m0 : T.1 + nz a ≤ 200 := by omega
    refine V_callV E (cy_append (x_l X) d S hQ T (aI S 206) a hX.2 m0) ml_X10_122 mv_X6_append (hQ.k 205 7 rfl (by decide)) dX10_feed_51 rfl (by simp [Value.category]) (by omega) (by omega) (by omega) (fun r S2 hp => ?_)
    obtain ⟨rfl, f1, rfl, hf1⟩ := hp
    refine V_aload_n E dX10_feed_54 rfl ?_
    refine V_getR E fl_X10_27 dX10_feed_55 rfl (hQ.k 200 11 rfl (by decide)) (hQ.r 200 5 205 rfl) ?_
    refine V_iload_n E dX10_feed_58 rfl ?_
    have m1 : (aApp T a).1 + nz b ≤ 200 := by rw [aApp_n]; omega
    refine V_callV E (cy_append (x_l X) d S hQ (aApp T a) f1 b hf1 m1) ml_X10_122 mv_X6_append (hQ.k 205 7 rfl (by decide)) dX10_feed_59 rfl (by simp [Value.category]) (by omega) (by omega) (by omega) (fun r S2 hp => ?_)
    obtain ⟨rfl, f2, rfl, hf2⟩ := hp
    refine V_aload_n E dX10_feed_62 rfl ?_
    refine V_getR E fl_X10_27 dX10_feed_63 rfl (hQ.k 200 11 rfl (by decide)) (hQ.r 200 5 205 rfl) ?_
    refine V_iload_n E dX10_feed_66 rfl ?_
    have m2 : (aApp (aApp T a) b).1 + nz c ≤ 200 := by rw [aApp_n, aApp_n]; omega
    refine V_callV E (cy_append (x_l X) d S hQ (aApp (aApp T a) b) f2 c hf2 m2) ml_X10_122 mv_X6_append (hQ.k 205 7 rfl (by decide)) dX10_feed_67 rfl (by simp [Value.category]) (by omega) (by omega) (by omega) (fun r S2 hp => ?_)
    obtain ⟨rfl, f3, rfl, hf3⟩ := hp
    refine V_aload_n E dX10_feed_70 rfl ?_
    refine V_getR E fl_X10_27 dX10_feed_71 rfl (hQ.k 200 11 rfl (by decide)) (hQ.r 200 5 205 rfl) ?_
    refine V_iload E dX10_feed_74 rfl ?_
    have m3 : (aApp (aApp (aApp T a) b) c).1 + nz e ≤ 200 := by rw [aApp_n, aApp_n, aApp_n]; omega
    refine V_callV E (cy_append (x_l X) d S hQ (aApp (aApp (aApp T a) b) c) f3 e hf3 m3) ml_X10_122 mv_X6_append (hQ.k 205 7 rfl (by decide)) dX10_feed_76 rfl (by simp [Value.category]) (by omega) (by omega) (by omega) (fun r S2 hp => ?_)
    obtain ⟨rfl, f4, rfl, hf4⟩ := hp
    refine V_aload_n E dX10_feed_79 rfl ?_
    refine V_getR E fl_X10_27 dX10_feed_80 rfl (hQ.k 200 11 rfl (by decide)) (hQ.r 200 5 205 rfl) ?_
    refine V_iload E dX10_feed_83 rfl ?_
    have m4 : (aApp (aApp (aApp (aApp T a) b) c) e).1 + nz g ≤ 200 := by rw [aApp_n, aApp_n, aApp_n, aApp_n]; omega
    refine V_callV E (cy_append (x_l X) d S hQ (aApp (aApp (aApp (aApp T a) b) c) e) f4 g hf4 m4) ml_X10_122 mv_X6_append (hQ.k 205 7 rfl (by decide)) dX10_feed_85 rfl (by simp [Value.category]) (by omega) (by omega) (by omega) (fun r S2 hp => ?_)
    obtain ⟨rfl, f5, rfl, hf5⟩ := hp
    refine V_aload_n E dX10_feed_88 rfl ?_
    refine V_getR E fl_X10_27 dX10_feed_89 rfl (hQ.k 200 11 rfl (by decide)) (hQ.r 200 5 205 rfl) ?_
    refine V_getIN E fn_X10_119 dX10_feed_92 rfl (hQ.k 205 7 rfl (by decide)) ?_
    exact V_iret E R dX10_feed_95 rfl (Nat.le_refl _) (Nat.le_refl _) (Or.inl ⟨hP, congrArg (fun z => some (Value.int z)) (tst_n S (aApp (aApp (aApp (aApp (aApp T a) b) c) e) g).1 f5), f5, rfl, hf5⟩)
  · refine V_icmp_le (tgt := 46) E dX10_feed_41 (by decide) (fun q => absurd q (by rw [(ni_add (a := (((nz a + nz b) + nz c) + nz e)) (b := nz g) (ni_add (a := ((nz a + nz b) + nz c)) (b := nz e) (ni_add (a := (nz a + nz b)) (b := nz c) (ni_add (a := nz a) (b := nz b) (@rfl _ (nI (nz a))) (@rfl _ (nI (nz b)))) (@rfl _ (nI (nz c)))) (@rfl _ (nI (nz e)))) (@rfl _ (nI (nz g)))), (ni_sub (a := 200) (b := T.1) (rfl : (200 : Int32) = nI 200) hX.1 (by omega))]; exact nI_ge (by omega) (by omega))) (fun _ => ?_)
    refine V_iconst (v := -1) E dX10_feed_44 (by decide) ?_
    exact V_iret E R dX10_feed_45 rfl (Nat.le_refl _) (Nat.le_refl _) (Or.inr ⟨hP, rfl, rfl⟩)
