theorem cm_gramsOf (l : Launch) (d : Nat) (S : GS) (A : AV) (t : Nat) (hO : VOK A t) (hM : MOK S) (hV : MVes S A) (v : Nat) (hv : v < vn A) (m : Nat) (hm : m < 20) : GC l (d) yX11_gramsOf cX11_gramsOf 5 (some FieldType.int) [.ref 0, .int (nI v), .int (nI m)] S (fun r S2 => r = some (.int (nI (gmN A v m))) ∧ S2 = S) (0) (0) := by
  refine GC.ofV (by decide) (Nat.le_of_ble_eq_true rfl) (fun X hl E R hnm => ?_)
  subst hl
  have E : En X RX11 cX11_gramsOf 5 (d) (0) (0) := E
  have R : Rt X (some FieldType.int) (fun r S2 => r = some (.int (nI (gmN A v m))) ∧ S2 = S) := R
  have hn := hO.1
  have h3 := hO.2.2.1 v hv
  refine V_iconst (v := 0) E dX11_gramsOf_0 (by decide) ?_
  refine V_istore_n E dX11_gramsOf_1 (by decide) rfl ?_
  refine V_iload_n E dX11_gramsOf_2 rfl ?_
  refine V_istore E dX11_gramsOf_3 (by decide) rfl ?_
  refine V_iload E dX11_gramsOf_5 rfl ?_
  refine V_bipush (v := 60) E dX11_gramsOf_7 (by decide) ?_
  refine V_ge_no (a := m) (b := 60) (tgt := 33) E dX11_gramsOf_9 (by decide) (@rfl _ (nI (m))) (rfl : (60 : Int32) = nI 60) (by omega) (by omega) ?_
  refine V_iload_n E dX11_gramsOf_12 rfl ?_
  refine V_aload_n E dX11_gramsOf_13 rfl ?_
  refine V_getR E fl_X11_13 dX11_gramsOf_14 rfl hM.o (hM.r 7 (by decide)) ?_
  refine V_bipush (v := 60) E dX11_gramsOf_17 (by decide) ?_
  refine V_iload_n E dX11_gramsOf_19 rfl ?_
  refine V_imul E dX11_gramsOf_20 ?_
  refine V_iload E dX11_gramsOf_21 rfl ?_
  refine V_iadd E dX11_gramsOf_23 ?_
  refine V_ia (j := 60 * v + (m)) E dX11_gramsOf_24 (hM.k 7 21 rfl (by decide)) (ni_add (a := (60 * v)) (b := m) (ni_mul (a := 60) (b := v) (rfl : (60 : Int32) = nI 60) (@rfl _ (nI (v)))) (@rfl _ (nI (m)))) (hM.l 7 6000 rfl (by decide)) (by omega) (by decide) ?_
  refine V_iadd E dX11_gramsOf_25 ?_
  refine V_cvi (y := nI ((0 + (vD A v (m))))) (ni_add (a := 0) (b := (vD A v (m))) (rfl : (0 : Int32) = nI 0) (hV.D v (by omega) (m) (by omega))) ?_
  refine V_istore_n E dX11_gramsOf_26 (by decide) rfl ?_
  refine V_iinc (v := nI (m + 20)) E dX11_gramsOf_27 rfl (ni_inc (a := m) (z := 20) (@rfl _ (nI (m)))) (by decide) rfl ?_
  refine V_goto (tgt := 5) E dX11_gramsOf_30 (by decide) ?_
  refine V_iload E dX11_gramsOf_5 rfl ?_
  refine V_bipush (v := 60) E dX11_gramsOf_7 (by decide) ?_
  refine V_ge_no (a := m + 20) (b := 60) (tgt := 33) E dX11_gramsOf_9 (by decide) (@rfl _ (nI (m + 20))) (rfl : (60 : Int32) = nI 60) (by omega) (by omega) ?_
  refine V_iload_n E dX11_gramsOf_12 rfl ?_
  refine V_aload_n E dX11_gramsOf_13 rfl ?_
  refine V_getR E fl_X11_13 dX11_gramsOf_14 rfl hM.o (hM.r 7 (by decide)) ?_
  refine V_bipush (v := 60) E dX11_gramsOf_17 (by decide) ?_
  refine V_iload_n E dX11_gramsOf_19 rfl ?_
  refine V_imul E dX11_gramsOf_20 ?_
  refine V_iload E dX11_gramsOf_21 rfl ?_
  refine V_iadd E dX11_gramsOf_23 ?_
  refine V_ia (j := 60 * v + (m + 20)) E dX11_gramsOf_24 (hM.k 7 21 rfl (by decide)) (ni_add (a := (60 * v)) (b := m + 20) (ni_mul (a := 60) (b := v) (rfl : (60 : Int32) = nI 60) (@rfl _ (nI (v)))) (@rfl _ (nI (m + 20)))) (hM.l 7 6000 rfl (by decide)) (by omega) (by decide) ?_
  refine V_iadd E dX11_gramsOf_25 ?_
  refine V_cvi (y := nI (((0 + (vD A v (m))) + (vD A v (m + 20))))) (ni_add (a := (0 + (vD A v (m)))) (b := (vD A v (m + 20))) (@rfl _ (nI ((0 + (vD A v (m)))))) (hV.D v (by omega) (m + 20) (by omega))) ?_
  refine V_istore_n E dX11_gramsOf_26 (by decide) rfl ?_
  refine V_iinc (v := nI (m + 20 + 20)) E dX11_gramsOf_27 rfl (ni_inc (a := m + 20) (z := 20) (@rfl _ (nI (m + 20)))) (by decide) rfl ?_
  refine V_goto (tgt := 5) E dX11_gramsOf_30 (by decide) ?_
  refine V_iload E dX11_gramsOf_5 rfl ?_
  refine V_bipush (v := 60) E dX11_gramsOf_7 (by decide) ?_
  refine V_ge_no (a := m + 20 + 20) (b := 60) (tgt := 33) E dX11_gramsOf_9 (by decide) (@rfl _ (nI (m + 20 + 20))) (rfl : (60 : Int32) = nI 60) (by omega) (by omega) ?_
  refine V_iload_n E dX11_gramsOf_12 rfl ?_
  refine V_aload_n E dX11_gramsOf_13 rfl ?_
  refine V_getR E fl_X11_13 dX11_gramsOf_14 rfl hM.o (hM.r 7 (by decide)) ?_
  refine V_bipush (v := 60) E dX11_gramsOf_17 (by decide) ?_
  refine V_iload_n E dX11_gramsOf_19 rfl ?_
  refine V_imul E dX11_gramsOf_20 ?_
  refine V_iload E dX11_gramsOf_21 rfl ?_
  refine V_iadd E dX11_gramsOf_23 ?_
  refine V_ia (j := 60 * v + (m + 20 + 20)) E dX11_gramsOf_24 (hM.k 7 21 rfl (by decide)) (ni_add (a := (60 * v)) (b := m + 20 + 20) (ni_mul (a := 60) (b := v) (rfl : (60 : Int32) = nI 60) (@rfl _ (nI (v)))) (@rfl _ (nI (m + 20 + 20)))) (hM.l 7 6000 rfl (by decide)) (by omega) (by decide) ?_
  refine V_iadd E dX11_gramsOf_25 ?_
  refine V_cvi (y := nI ((((0 + (vD A v (m))) + (vD A v (m + 20))) + (vD A v (m + 20 + 20))))) (ni_add (a := ((0 + (vD A v (m))) + (vD A v (m + 20)))) (b := (vD A v (m + 20 + 20))) (@rfl _ (nI (((0 + (vD A v (m))) + (vD A v (m + 20)))))) (hV.D v (by omega) (m + 20 + 20) (by omega))) ?_
  refine V_istore_n E dX11_gramsOf_26 (by decide) rfl ?_
  refine V_iinc (v := nI (m + 20 + 20 + 20)) E dX11_gramsOf_27 rfl (ni_inc (a := m + 20 + 20) (z := 20) (@rfl _ (nI (m + 20 + 20)))) (by decide) rfl ?_
  refine V_goto (tgt := 5) E dX11_gramsOf_30 (by decide) ?_
  refine V_iload E dX11_gramsOf_5 rfl ?_
  refine V_bipush (v := 60) E dX11_gramsOf_7 (by decide) ?_
  refine V_ge_yes (a := m + 20 + 20 + 20) (b := 60) (tgt := 33) E dX11_gramsOf_9 (by decide) (@rfl _ (nI (m + 20 + 20 + 20))) (rfl : (60 : Int32) = nI 60) (by omega) (by omega) ?_
  refine V_iload_n E dX11_gramsOf_33 rfl ?_
  exact V_iret E R dX11_gramsOf_34 rfl (Nat.le_refl _) (Nat.le_refl _) ⟨congrArg (fun z => some (Value.int (nI z))) (by unfold gmN; omega), rfl⟩

theorem cm_plotsOf (l : Launch) (d : Nat) (S : GS) (A : AV) (t : Nat) (hO : VOK A t) (hM : MOK S) (hV : MVes S A) (v : Nat) (hv : v < vn A) (m : Nat) (hm : m < 20) : GC l (d) yX11_plotsOf cX11_plotsOf 5 (some FieldType.int) [.ref 0, .int (nI v), .int (nI m)] S (fun r S2 => r = some (.int (nI (plN A v m))) ∧ S2 = S) (0) (0) := by
  refine GC.ofV (by decide) (Nat.le_of_ble_eq_true rfl) (fun X hl E R hnm => ?_)
  subst hl
  have E : En X RX11 cX11_plotsOf 5 (d) (0) (0) := E
  have R : Rt X (some FieldType.int) (fun r S2 => r = some (.int (nI (plN A v m))) ∧ S2 = S) := R
  have hn := hO.1
  have h3 := hO.2.2.1 v hv
  have hD : ∀ p, p < 60 → vD A v p ≤ 1000000 := fun p hp => Nat.le_trans (sumN_one (f := vD A v) hp) h3.2.2.2.2.2.1
  refine V_iconst (v := 0) E dX11_plotsOf_0 (by decide) ?_
  refine V_istore_n E dX11_plotsOf_1 (by decide) rfl ?_
  refine V_iload_n E dX11_plotsOf_2 rfl ?_
  refine V_istore E dX11_plotsOf_3 (by decide) rfl ?_
  refine V_iload E dX11_plotsOf_5 rfl ?_
  refine V_bipush (v := 60) E dX11_plotsOf_7 (by decide) ?_
  refine V_ge_no (a := m) (b := 60) (tgt := 41) E dX11_plotsOf_9 (by decide) (@rfl _ (nI (m))) (rfl : (60 : Int32) = nI 60) (by omega) (by omega) ?_
  have J33 : V X 33 [some (.ref (0)), some (.int (nI (v))), some (.int (nI (m))), some (.int (0)), some (.int (nI (m)))] [(.int (nI (bz (vD A v (m))))), (.int (0))] (S) 0 0 := by
    refine V_iadd E dX11_plotsOf_33 ?_
    refine V_cvi (y := nI ((0 + bz (vD A v (m))))) (ni_add (a := 0) (b := bz (vD A v (m))) (rfl : (0 : Int32) = nI 0) (@rfl _ (nI (bz (vD A v (m)))))) ?_
    refine V_istore_n E dX11_plotsOf_34 (by decide) rfl ?_
    refine V_iinc (v := nI (m + 20)) E dX11_plotsOf_35 rfl (ni_inc (a := m) (z := 20) (@rfl _ (nI (m)))) (by decide) rfl ?_
    refine V_goto (tgt := 5) E dX11_plotsOf_38 (by decide) ?_
    refine V_iload E dX11_plotsOf_5 rfl ?_
    refine V_bipush (v := 60) E dX11_plotsOf_7 (by decide) ?_
    refine V_ge_no (a := m + 20) (b := 60) (tgt := 41) E dX11_plotsOf_9 (by decide) (@rfl _ (nI (m + 20))) (rfl : (60 : Int32) = nI 60) (by omega) (by omega) ?_
    have J33 : V X 33 [some (.ref (0)), some (.int (nI (v))), some (.int (nI (m))), some (.int (nI ((0 + bz (vD A v (m)))))), some (.int (nI (m + 20)))] [(.int (nI (bz (vD A v (m + 20))))), (.int (nI ((0 + bz (vD A v (m))))))] (S) 0 0 := by
      refine V_iadd E dX11_plotsOf_33 ?_
      refine V_cvi (y := nI (((0 + bz (vD A v (m))) + bz (vD A v (m + 20))))) (ni_add (a := (0 + bz (vD A v (m)))) (b := bz (vD A v (m + 20))) (@rfl _ (nI ((0 + bz (vD A v (m)))))) (@rfl _ (nI (bz (vD A v (m + 20)))))) ?_
      refine V_istore_n E dX11_plotsOf_34 (by decide) rfl ?_
      refine V_iinc (v := nI (m + 20 + 20)) E dX11_plotsOf_35 rfl (ni_inc (a := m + 20) (z := 20) (@rfl _ (nI (m + 20)))) (by decide) rfl ?_
      refine V_goto (tgt := 5) E dX11_plotsOf_38 (by decide) ?_
      refine V_iload E dX11_plotsOf_5 rfl ?_
      refine V_bipush (v := 60) E dX11_plotsOf_7 (by decide) ?_
      refine V_ge_no (a := m + 20 + 20) (b := 60) (tgt := 41) E dX11_plotsOf_9 (by decide) (@rfl _ (nI (m + 20 + 20))) (rfl : (60 : Int32) = nI 60) (by omega) (by omega) ?_
      have J33 : V X 33 [some (.ref (0)), some (.int (nI (v))), some (.int (nI (m))), some (.int (nI (((0 + bz (vD A v (m))) + bz (vD A v (m + 20)))))), some (.int (nI (m + 20 + 20)))] [(.int (nI (bz (vD A v (m + 20 + 20))))), (.int (nI (((0 + bz (vD A v (m))) + bz (vD A v (m + 20))))))] (S) 0 0 := by
        refine V_iadd E dX11_plotsOf_33 ?_
        refine V_cvi (y := nI ((((0 + bz (vD A v (m))) + bz (vD A v (m + 20))) + bz (vD A v (m + 20 + 20))))) (ni_add (a := ((0 + bz (vD A v (m))) + bz (vD A v (m + 20)))) (b := bz (vD A v (m + 20 + 20))) (@rfl _ (nI (((0 + bz (vD A v (m))) + bz (vD A v (m + 20)))))) (@rfl _ (nI (bz (vD A v (m + 20 + 20)))))) ?_
        refine V_istore_n E dX11_plotsOf_34 (by decide) rfl ?_
        refine V_iinc (v := nI (m + 20 + 20 + 20)) E dX11_plotsOf_35 rfl (ni_inc (a := m + 20 + 20) (z := 20) (@rfl _ (nI (m + 20 + 20)))) (by decide) rfl ?_
        refine V_goto (tgt := 5) E dX11_plotsOf_38 (by decide) ?_
        refine V_iload E dX11_plotsOf_5 rfl ?_
        refine V_bipush (v := 60) E dX11_plotsOf_7 (by decide) ?_
        refine V_ge_yes (a := m + 20 + 20 + 20) (b := 60) (tgt := 41) E dX11_plotsOf_9 (by decide) (@rfl _ (nI (m + 20 + 20 + 20))) (rfl : (60 : Int32) = nI 60) (by omega) (by omega) ?_
        refine V_iload_n E dX11_plotsOf_41 rfl ?_
        exact V_iret E R dX11_plotsOf_42 rfl (Nat.le_refl _) (Nat.le_refl _) ⟨congrArg (fun z => some (Value.int (nI z))) (by unfold plN; omega), rfl⟩
      refine V_iload_n E dX11_plotsOf_12 rfl ?_
      refine V_aload_n E dX11_plotsOf_13 rfl ?_
      refine V_getR E fl_X11_13 dX11_plotsOf_14 rfl hM.o (hM.r 7 (by decide)) ?_
      refine V_bipush (v := 60) E dX11_plotsOf_17 (by decide) ?_
      refine V_iload_n E dX11_plotsOf_19 rfl ?_
      refine V_imul E dX11_plotsOf_20 ?_
      refine V_iload E dX11_plotsOf_21 rfl ?_
      refine V_iadd E dX11_plotsOf_23 ?_
      refine V_ia (j := 60 * v + (m + 20 + 20)) E dX11_plotsOf_24 (hM.k 7 21 rfl (by decide)) (ni_add (a := (60 * v)) (b := m + 20 + 20) (ni_mul (a := 60) (b := v) (rfl : (60 : Int32) = nI 60) (@rfl _ (nI (v)))) (@rfl _ (nI (m + 20 + 20)))) (hM.l 7 6000 rfl (by decide)) (by omega) (by decide) ?_
      refine V_if_le (tgt := 32) E dX11_plotsOf_25 (by decide) (fun hz => ?_) (fun hz => ?_)
      · have gz : vD A v (m + 20 + 20) = 0 := by have := (nI_leI (a := vD A v (m + 20 + 20)) (b := 0) (by have := hD (m + 20 + 20) (by omega); omega) (by omega)).mp (by rw [← hV.D v (by omega) (m + 20 + 20) (by omega)]; exact hz); omega
        refine V_iconst (v := 0) E dX11_plotsOf_32 (by decide) ?_
        exact V_cvi (y := nI (bz (vD A v (m + 20 + 20)))) (congrArg nI (bz_0 gz)).symm J33
      · have gz : ¬ vD A v (m + 20 + 20) = 0 := fun q => hz (by rw [hV.D v (by omega) (m + 20 + 20) (by omega), q]; decide)
        refine V_iconst (v := 1) E dX11_plotsOf_28 (by decide) ?_
        refine V_goto (tgt := 33) E dX11_plotsOf_29 (by decide) ?_
        exact V_cvi (y := nI (bz (vD A v (m + 20 + 20)))) (congrArg nI (bz_1 gz)).symm J33
    refine V_iload_n E dX11_plotsOf_12 rfl ?_
    refine V_aload_n E dX11_plotsOf_13 rfl ?_
    refine V_getR E fl_X11_13 dX11_plotsOf_14 rfl hM.o (hM.r 7 (by decide)) ?_
    refine V_bipush (v := 60) E dX11_plotsOf_17 (by decide) ?_
    refine V_iload_n E dX11_plotsOf_19 rfl ?_
    refine V_imul E dX11_plotsOf_20 ?_
    refine V_iload E dX11_plotsOf_21 rfl ?_
    refine V_iadd E dX11_plotsOf_23 ?_
    refine V_ia (j := 60 * v + (m + 20)) E dX11_plotsOf_24 (hM.k 7 21 rfl (by decide)) (ni_add (a := (60 * v)) (b := m + 20) (ni_mul (a := 60) (b := v) (rfl : (60 : Int32) = nI 60) (@rfl _ (nI (v)))) (@rfl _ (nI (m + 20)))) (hM.l 7 6000 rfl (by decide)) (by omega) (by decide) ?_
    refine V_if_le (tgt := 32) E dX11_plotsOf_25 (by decide) (fun hz => ?_) (fun hz => ?_)
    · have gz : vD A v (m + 20) = 0 := by have := (nI_leI (a := vD A v (m + 20)) (b := 0) (by have := hD (m + 20) (by omega); omega) (by omega)).mp (by rw [← hV.D v (by omega) (m + 20) (by omega)]; exact hz); omega
      refine V_iconst (v := 0) E dX11_plotsOf_32 (by decide) ?_
      exact V_cvi (y := nI (bz (vD A v (m + 20)))) (congrArg nI (bz_0 gz)).symm J33
    · have gz : ¬ vD A v (m + 20) = 0 := fun q => hz (by rw [hV.D v (by omega) (m + 20) (by omega), q]; decide)
      refine V_iconst (v := 1) E dX11_plotsOf_28 (by decide) ?_
      refine V_goto (tgt := 33) E dX11_plotsOf_29 (by decide) ?_
      exact V_cvi (y := nI (bz (vD A v (m + 20)))) (congrArg nI (bz_1 gz)).symm J33
  refine V_iload_n E dX11_plotsOf_12 rfl ?_
  refine V_aload_n E dX11_plotsOf_13 rfl ?_
  refine V_getR E fl_X11_13 dX11_plotsOf_14 rfl hM.o (hM.r 7 (by decide)) ?_
  refine V_bipush (v := 60) E dX11_plotsOf_17 (by decide) ?_
  refine V_iload_n E dX11_plotsOf_19 rfl ?_
  refine V_imul E dX11_plotsOf_20 ?_
  refine V_iload E dX11_plotsOf_21 rfl ?_
  refine V_iadd E dX11_plotsOf_23 ?_
  refine V_ia (j := 60 * v + (m)) E dX11_plotsOf_24 (hM.k 7 21 rfl (by decide)) (ni_add (a := (60 * v)) (b := m) (ni_mul (a := 60) (b := v) (rfl : (60 : Int32) = nI 60) (@rfl _ (nI (v)))) (@rfl _ (nI (m)))) (hM.l 7 6000 rfl (by decide)) (by omega) (by decide) ?_
  refine V_if_le (tgt := 32) E dX11_plotsOf_25 (by decide) (fun hz => ?_) (fun hz => ?_)
  · have gz : vD A v (m) = 0 := by have := (nI_leI (a := vD A v (m)) (b := 0) (by have := hD (m) (by omega); omega) (by omega)).mp (by rw [← hV.D v (by omega) (m) (by omega)]; exact hz); omega
    refine V_iconst (v := 0) E dX11_plotsOf_32 (by decide) ?_
    exact V_cvi (y := nI (bz (vD A v (m)))) (congrArg nI (bz_0 gz)).symm J33
  · have gz : ¬ vD A v (m) = 0 := fun q => hz (by rw [hV.D v (by omega) (m) (by omega), q]; decide)
    refine V_iconst (v := 1) E dX11_plotsOf_28 (by decide) ?_
    refine V_goto (tgt := 33) E dX11_plotsOf_29 (by decide) ?_
    exact V_cvi (y := nI (bz (vD A v (m)))) (congrArg nI (bz_1 gz)).symm J33

theorem cy_dryOfMember (l : Launch) (d : Nat) (S : GS) (A : AV) (t : Nat) (hO : VOK A t) (hY : YVes S A) (v : Nat) (hv : v < vn A) (m : Nat) (hm : m < 20) : GC l (d) yX7_dryOfMember cX7_dryOfMember 4 (some FieldType.int) [.ref (1000 + v), .int (nI m)] S (fun r S2 => r = some (.int (nI (gmN A v m))) ∧ S2 = S) (0) (0) := by
  refine GC.ofV (by decide) (Nat.le_of_ble_eq_true rfl) (fun X hl E R hnm => ?_)
  subst hl
  have E : En X RX7 cX7_dryOfMember 4 (d) (0) (0) := E
  have R : Rt X (some FieldType.int) (fun r S2 => r = some (.int (nI (gmN A v m))) ∧ S2 = S) := R
  have hn := hO.1
  have h3 := hO.2.2.1 v hv
  refine V_iconst (v := 0) E dX7_dryOfMember_0 (by decide) ?_
  refine V_istore_n E dX7_dryOfMember_1 (by decide) rfl ?_
  refine V_iload_n E dX7_dryOfMember_2 rfl ?_
  refine V_istore_n E dX7_dryOfMember_3 (by decide) rfl ?_
  refine V_iload_n E dX7_dryOfMember_4 rfl ?_
  refine V_bipush (v := 60) E dX7_dryOfMember_5 (by decide) ?_
  refine V_ge_no (a := m) (b := 60) (tgt := 25) E dX7_dryOfMember_7 (by decide) (@rfl _ (nI (m))) (rfl : (60 : Int32) = nI 60) (by omega) (by omega) ?_
  refine V_iload_n E dX7_dryOfMember_10 rfl ?_
  refine V_aload_n E dX7_dryOfMember_11 rfl ?_
  refine V_getR E fl_X7_15 dX7_dryOfMember_12 rfl (hY.ok v hv) (hY.dr v hv) ?_
  refine V_iload_n E dX7_dryOfMember_15 rfl ?_
  refine V_ia (j := m) E dX7_dryOfMember_16 (hY.dk v hv) (@rfl _ (nI (m))) (hY.dl v hv) (by omega) (by decide) ?_
  refine V_iadd E dX7_dryOfMember_17 ?_
  refine V_cvi (y := nI ((0 + (vD A v (m))))) (ni_add (a := 0) (b := (vD A v (m))) (rfl : (0 : Int32) = nI 0) (hY.D v hv (m) (by omega))) ?_
  refine V_istore_n E dX7_dryOfMember_18 (by decide) rfl ?_
  refine V_iinc (v := nI (m + 20)) E dX7_dryOfMember_19 rfl (ni_inc (a := m) (z := 20) (@rfl _ (nI (m)))) (by decide) rfl ?_
  refine V_goto (tgt := 4) E dX7_dryOfMember_22 (by decide) ?_
  refine V_iload_n E dX7_dryOfMember_4 rfl ?_
  refine V_bipush (v := 60) E dX7_dryOfMember_5 (by decide) ?_
  refine V_ge_no (a := m + 20) (b := 60) (tgt := 25) E dX7_dryOfMember_7 (by decide) (@rfl _ (nI (m + 20))) (rfl : (60 : Int32) = nI 60) (by omega) (by omega) ?_
  refine V_iload_n E dX7_dryOfMember_10 rfl ?_
  refine V_aload_n E dX7_dryOfMember_11 rfl ?_
  refine V_getR E fl_X7_15 dX7_dryOfMember_12 rfl (hY.ok v hv) (hY.dr v hv) ?_
  refine V_iload_n E dX7_dryOfMember_15 rfl ?_
  refine V_ia (j := m + 20) E dX7_dryOfMember_16 (hY.dk v hv) (@rfl _ (nI (m + 20))) (hY.dl v hv) (by omega) (by decide) ?_
  refine V_iadd E dX7_dryOfMember_17 ?_
  refine V_cvi (y := nI (((0 + (vD A v (m))) + (vD A v (m + 20))))) (ni_add (a := (0 + (vD A v (m)))) (b := (vD A v (m + 20))) (@rfl _ (nI ((0 + (vD A v (m)))))) (hY.D v hv (m + 20) (by omega))) ?_
  refine V_istore_n E dX7_dryOfMember_18 (by decide) rfl ?_
  refine V_iinc (v := nI (m + 20 + 20)) E dX7_dryOfMember_19 rfl (ni_inc (a := m + 20) (z := 20) (@rfl _ (nI (m + 20)))) (by decide) rfl ?_
  refine V_goto (tgt := 4) E dX7_dryOfMember_22 (by decide) ?_
  refine V_iload_n E dX7_dryOfMember_4 rfl ?_
  refine V_bipush (v := 60) E dX7_dryOfMember_5 (by decide) ?_
  refine V_ge_no (a := m + 20 + 20) (b := 60) (tgt := 25) E dX7_dryOfMember_7 (by decide) (@rfl _ (nI (m + 20 + 20))) (rfl : (60 : Int32) = nI 60) (by omega) (by omega) ?_
  refine V_iload_n E dX7_dryOfMember_10 rfl ?_
  refine V_aload_n E dX7_dryOfMember_11 rfl ?_
  refine V_getR E fl_X7_15 dX7_dryOfMember_12 rfl (hY.ok v hv) (hY.dr v hv) ?_
  refine V_iload_n E dX7_dryOfMember_15 rfl ?_
  refine V_ia (j := m + 20 + 20) E dX7_dryOfMember_16 (hY.dk v hv) (@rfl _ (nI (m + 20 + 20))) (hY.dl v hv) (by omega) (by decide) ?_
  refine V_iadd E dX7_dryOfMember_17 ?_
  refine V_cvi (y := nI ((((0 + (vD A v (m))) + (vD A v (m + 20))) + (vD A v (m + 20 + 20))))) (ni_add (a := ((0 + (vD A v (m))) + (vD A v (m + 20)))) (b := (vD A v (m + 20 + 20))) (@rfl _ (nI (((0 + (vD A v (m))) + (vD A v (m + 20)))))) (hY.D v hv (m + 20 + 20) (by omega))) ?_
  refine V_istore_n E dX7_dryOfMember_18 (by decide) rfl ?_
  refine V_iinc (v := nI (m + 20 + 20 + 20)) E dX7_dryOfMember_19 rfl (ni_inc (a := m + 20 + 20) (z := 20) (@rfl _ (nI (m + 20 + 20)))) (by decide) rfl ?_
  refine V_goto (tgt := 4) E dX7_dryOfMember_22 (by decide) ?_
  refine V_iload_n E dX7_dryOfMember_4 rfl ?_
  refine V_bipush (v := 60) E dX7_dryOfMember_5 (by decide) ?_
  refine V_ge_yes (a := m + 20 + 20 + 20) (b := 60) (tgt := 25) E dX7_dryOfMember_7 (by decide) (@rfl _ (nI (m + 20 + 20 + 20))) (rfl : (60 : Int32) = nI 60) (by omega) (by omega) ?_
  refine V_iload_n E dX7_dryOfMember_25 rfl ?_
  exact V_iret E R dX7_dryOfMember_26 rfl (Nat.le_refl _) (Nat.le_refl _) ⟨congrArg (fun z => some (Value.int (nI z))) (by unfold gmN; omega), rfl⟩

theorem cy_plotsOfMember (l : Launch) (d : Nat) (S : GS) (A : AV) (t : Nat) (hO : VOK A t) (hY : YVes S A) (v : Nat) (hv : v < vn A) (m : Nat) (hm : m < 20) : GC l (d) yX7_plotsOfMember cX7_plotsOfMember 4 (some FieldType.int) [.ref (1000 + v), .int (nI m)] S (fun r S2 => r = some (.int (nI (plN A v m))) ∧ S2 = S) (0) (0) := by
  refine GC.ofV (by decide) (Nat.le_of_ble_eq_true rfl) (fun X hl E R hnm => ?_)
  subst hl
  have E : En X RX7 cX7_plotsOfMember 4 (d) (0) (0) := E
  have R : Rt X (some FieldType.int) (fun r S2 => r = some (.int (nI (plN A v m))) ∧ S2 = S) := R
  have hn := hO.1
  have h3 := hO.2.2.1 v hv
  have hD : ∀ p, p < 60 → vD A v p ≤ 1000000 := fun p hp => Nat.le_trans (sumN_one (f := vD A v) hp) h3.2.2.2.2.2.1
  refine V_iconst (v := 0) E dX7_plotsOfMember_0 (by decide) ?_
  refine V_istore_n E dX7_plotsOfMember_1 (by decide) rfl ?_
  refine V_iload_n E dX7_plotsOfMember_2 rfl ?_
  refine V_istore_n E dX7_plotsOfMember_3 (by decide) rfl ?_
  refine V_iload_n E dX7_plotsOfMember_4 rfl ?_
  refine V_bipush (v := 60) E dX7_plotsOfMember_5 (by decide) ?_
  refine V_ge_no (a := m) (b := 60) (tgt := 33) E dX7_plotsOfMember_7 (by decide) (@rfl _ (nI (m))) (rfl : (60 : Int32) = nI 60) (by omega) (by omega) ?_
  have J25 : V X 25 [some (.ref (1000 + v)), some (.int (nI (m))), some (.int (0)), some (.int (nI (m)))] [(.int (nI (bz (vD A v (m))))), (.int (0))] (S) 0 0 := by
    refine V_iadd E dX7_plotsOfMember_25 ?_
    refine V_cvi (y := nI ((0 + bz (vD A v (m))))) (ni_add (a := 0) (b := bz (vD A v (m))) (rfl : (0 : Int32) = nI 0) (@rfl _ (nI (bz (vD A v (m)))))) ?_
    refine V_istore_n E dX7_plotsOfMember_26 (by decide) rfl ?_
    refine V_iinc (v := nI (m + 20)) E dX7_plotsOfMember_27 rfl (ni_inc (a := m) (z := 20) (@rfl _ (nI (m)))) (by decide) rfl ?_
    refine V_goto (tgt := 4) E dX7_plotsOfMember_30 (by decide) ?_
    refine V_iload_n E dX7_plotsOfMember_4 rfl ?_
    refine V_bipush (v := 60) E dX7_plotsOfMember_5 (by decide) ?_
    refine V_ge_no (a := m + 20) (b := 60) (tgt := 33) E dX7_plotsOfMember_7 (by decide) (@rfl _ (nI (m + 20))) (rfl : (60 : Int32) = nI 60) (by omega) (by omega) ?_
    have J25 : V X 25 [some (.ref (1000 + v)), some (.int (nI (m))), some (.int (nI ((0 + bz (vD A v (m)))))), some (.int (nI (m + 20)))] [(.int (nI (bz (vD A v (m + 20))))), (.int (nI ((0 + bz (vD A v (m))))))] (S) 0 0 := by
      refine V_iadd E dX7_plotsOfMember_25 ?_
      refine V_cvi (y := nI (((0 + bz (vD A v (m))) + bz (vD A v (m + 20))))) (ni_add (a := (0 + bz (vD A v (m)))) (b := bz (vD A v (m + 20))) (@rfl _ (nI ((0 + bz (vD A v (m)))))) (@rfl _ (nI (bz (vD A v (m + 20)))))) ?_
      refine V_istore_n E dX7_plotsOfMember_26 (by decide) rfl ?_
      refine V_iinc (v := nI (m + 20 + 20)) E dX7_plotsOfMember_27 rfl (ni_inc (a := m + 20) (z := 20) (@rfl _ (nI (m + 20)))) (by decide) rfl ?_
      refine V_goto (tgt := 4) E dX7_plotsOfMember_30 (by decide) ?_
      refine V_iload_n E dX7_plotsOfMember_4 rfl ?_
      refine V_bipush (v := 60) E dX7_plotsOfMember_5 (by decide) ?_
      refine V_ge_no (a := m + 20 + 20) (b := 60) (tgt := 33) E dX7_plotsOfMember_7 (by decide) (@rfl _ (nI (m + 20 + 20))) (rfl : (60 : Int32) = nI 60) (by omega) (by omega) ?_
      have J25 : V X 25 [some (.ref (1000 + v)), some (.int (nI (m))), some (.int (nI (((0 + bz (vD A v (m))) + bz (vD A v (m + 20)))))), some (.int (nI (m + 20 + 20)))] [(.int (nI (bz (vD A v (m + 20 + 20))))), (.int (nI (((0 + bz (vD A v (m))) + bz (vD A v (m + 20))))))] (S) 0 0 := by
        refine V_iadd E dX7_plotsOfMember_25 ?_
        refine V_cvi (y := nI ((((0 + bz (vD A v (m))) + bz (vD A v (m + 20))) + bz (vD A v (m + 20 + 20))))) (ni_add (a := ((0 + bz (vD A v (m))) + bz (vD A v (m + 20)))) (b := bz (vD A v (m + 20 + 20))) (@rfl _ (nI (((0 + bz (vD A v (m))) + bz (vD A v (m + 20)))))) (@rfl _ (nI (bz (vD A v (m + 20 + 20)))))) ?_
        refine V_istore_n E dX7_plotsOfMember_26 (by decide) rfl ?_
        refine V_iinc (v := nI (m + 20 + 20 + 20)) E dX7_plotsOfMember_27 rfl (ni_inc (a := m + 20 + 20) (z := 20) (@rfl _ (nI (m + 20 + 20)))) (by decide) rfl ?_
        refine V_goto (tgt := 4) E dX7_plotsOfMember_30 (by decide) ?_
        refine V_iload_n E dX7_plotsOfMember_4 rfl ?_
        refine V_bipush (v := 60) E dX7_plotsOfMember_5 (by decide) ?_
        refine V_ge_yes (a := m + 20 + 20 + 20) (b := 60) (tgt := 33) E dX7_plotsOfMember_7 (by decide) (@rfl _ (nI (m + 20 + 20 + 20))) (rfl : (60 : Int32) = nI 60) (by omega) (by omega) ?_
        refine V_iload_n E dX7_plotsOfMember_33 rfl ?_
        exact V_iret E R dX7_plotsOfMember_34 rfl (Nat.le_refl _) (Nat.le_refl _) ⟨congrArg (fun z => some (Value.int (nI z))) (by unfold plN; omega), rfl⟩
      refine V_iload_n E dX7_plotsOfMember_10 rfl ?_
      refine V_aload_n E dX7_plotsOfMember_11 rfl ?_
      refine V_getR E fl_X7_15 dX7_plotsOfMember_12 rfl (hY.ok v hv) (hY.dr v hv) ?_
      refine V_iload_n E dX7_plotsOfMember_15 rfl ?_
      refine V_ia (j := m + 20 + 20) E dX7_plotsOfMember_16 (hY.dk v hv) (@rfl _ (nI (m + 20 + 20))) (hY.dl v hv) (by omega) (by decide) ?_
      refine V_if_le (tgt := 24) E dX7_plotsOfMember_17 (by decide) (fun hz => ?_) (fun hz => ?_)
      · have gz : vD A v (m + 20 + 20) = 0 := by have := (nI_leI (a := vD A v (m + 20 + 20)) (b := 0) (by have := hD (m + 20 + 20) (by omega); omega) (by omega)).mp (by rw [← hY.D v hv (m + 20 + 20) (by omega)]; exact hz); omega
        refine V_iconst (v := 0) E dX7_plotsOfMember_24 (by decide) ?_
        exact V_cvi (y := nI (bz (vD A v (m + 20 + 20)))) (congrArg nI (bz_0 gz)).symm J25
      · have gz : ¬ vD A v (m + 20 + 20) = 0 := fun q => hz (by rw [hY.D v hv (m + 20 + 20) (by omega), q]; decide)
        refine V_iconst (v := 1) E dX7_plotsOfMember_20 (by decide) ?_
        refine V_goto (tgt := 25) E dX7_plotsOfMember_21 (by decide) ?_
        exact V_cvi (y := nI (bz (vD A v (m + 20 + 20)))) (congrArg nI (bz_1 gz)).symm J25
    refine V_iload_n E dX7_plotsOfMember_10 rfl ?_
    refine V_aload_n E dX7_plotsOfMember_11 rfl ?_
    refine V_getR E fl_X7_15 dX7_plotsOfMember_12 rfl (hY.ok v hv) (hY.dr v hv) ?_
    refine V_iload_n E dX7_plotsOfMember_15 rfl ?_
    refine V_ia (j := m + 20) E dX7_plotsOfMember_16 (hY.dk v hv) (@rfl _ (nI (m + 20))) (hY.dl v hv) (by omega) (by decide) ?_
    refine V_if_le (tgt := 24) E dX7_plotsOfMember_17 (by decide) (fun hz => ?_) (fun hz => ?_)
    · have gz : vD A v (m + 20) = 0 := by have := (nI_leI (a := vD A v (m + 20)) (b := 0) (by have := hD (m + 20) (by omega); omega) (by omega)).mp (by rw [← hY.D v hv (m + 20) (by omega)]; exact hz); omega
      refine V_iconst (v := 0) E dX7_plotsOfMember_24 (by decide) ?_
      exact V_cvi (y := nI (bz (vD A v (m + 20)))) (congrArg nI (bz_0 gz)).symm J25
    · have gz : ¬ vD A v (m + 20) = 0 := fun q => hz (by rw [hY.D v hv (m + 20) (by omega), q]; decide)
      refine V_iconst (v := 1) E dX7_plotsOfMember_20 (by decide) ?_
      refine V_goto (tgt := 25) E dX7_plotsOfMember_21 (by decide) ?_
      exact V_cvi (y := nI (bz (vD A v (m + 20)))) (congrArg nI (bz_1 gz)).symm J25
  refine V_iload_n E dX7_plotsOfMember_10 rfl ?_
  refine V_aload_n E dX7_plotsOfMember_11 rfl ?_
  refine V_getR E fl_X7_15 dX7_plotsOfMember_12 rfl (hY.ok v hv) (hY.dr v hv) ?_
  refine V_iload_n E dX7_plotsOfMember_15 rfl ?_
  refine V_ia (j := m) E dX7_plotsOfMember_16 (hY.dk v hv) (@rfl _ (nI (m))) (hY.dl v hv) (by omega) (by decide) ?_
  refine V_if_le (tgt := 24) E dX7_plotsOfMember_17 (by decide) (fun hz => ?_) (fun hz => ?_)
  · have gz : vD A v (m) = 0 := by have := (nI_leI (a := vD A v (m)) (b := 0) (by have := hD (m) (by omega); omega) (by omega)).mp (by rw [← hY.D v hv (m) (by omega)]; exact hz); omega
    refine V_iconst (v := 0) E dX7_plotsOfMember_24 (by decide) ?_
    exact V_cvi (y := nI (bz (vD A v (m)))) (congrArg nI (bz_0 gz)).symm J25
  · have gz : ¬ vD A v (m) = 0 := fun q => hz (by rw [hY.D v hv (m) (by omega), q]; decide)
    refine V_iconst (v := 1) E dX7_plotsOfMember_20 (by decide) ?_
    refine V_goto (tgt := 25) E dX7_plotsOfMember_21 (by decide) ?_
    exact V_cvi (y := nI (bz (vD A v (m)))) (congrArg nI (bz_1 gz)).symm J25
