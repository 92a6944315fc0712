theorem cm_planned (l : Launch) (d : Nat) (S : GS) (B : AP) (hB : POKa B) (hM : MOK S) (hJ : MPl S B) (x : Int32) : GC l (d + 2) yX11_planned cX11_planned 2 (some FieldType.int) [.ref 0, .int x] S (fun r S2 => (∃ f, S2 = rA S 43 f) ∧ (((wi_ x 0 ((jn B : Int) - 1) ∧ jall B) ∧ r = some (.int (bI (jpl B 60 (tn x))))) ∨ (¬ (wi_ x 0 ((jn B : Int) - 1) ∧ jall B) ∧ r = some (.int (-1))))) (0) (0) := by
  refine GC.ofV (by decide) (Nat.le_of_ble_eq_true rfl) (fun X hl E R hnm => ?_)
  subst hl
  have E : En X RX11 cX11_planned 2 (d + 2) (0) (0) := E
  have R : Rt X (some FieldType.int) (fun r S2 => (∃ f, S2 = rA S 43 f) ∧ (((wi_ x 0 ((jn B : Int) - 1) ∧ jall B) ∧ r = some (.int (bI (jpl B 60 (tn x))))) ∨ (¬ (wi_ x 0 ((jn B : Int) - 1) ∧ jall B) ∧ r = some (.int (-1))))) := R
  have hn := hB.1
  have hw : (0 ≤ x ∧ x ≤ fI S 0 45 - 1) ↔ wi_ x 0 ((jn B : Int) - 1) := wi_iff rfl (by rw [hJ.1]; exact nI_m1 (by omega))
  refine V_iload_n E dX11_planned_0 rfl ?_
  refine V_iconst (v := 0) E dX11_planned_1 (by decide) ?_
  refine V_aload_n E dX11_planned_2 rfl ?_
  refine V_getI E fl_X11_245 dX11_planned_3 rfl hM.o ?_
  refine V_iconst (v := 1) E dX11_planned_6 (by decide) ?_
  refine V_isub E dX11_planned_7 ?_
  refine V_callS E (cm_in (x_l X) d S _ _ _) ml_X11_115 ms_X11_in dX11_planned_8 rfl (by simp [Value.category]) (by omega) (by omega) (by omega) (fun r S2 hp => ?_)
  obtain ⟨rfl, hS2⟩ := hp
  obtain rfl := hS2.symm
  refine V_ifeq_b (tgt := 30) E dX11_planned_11 (by decide) (fun hc11 => ?_) (fun hc11 => ?_)
  · refine V_iconst (v := -1) E dX11_planned_30 (by decide) ?_
    exact V_iret E R dX11_planned_31 rfl (Nat.le_refl _) (Nat.le_refl _) ⟨⟨aI S 43, (rA_self S 43).symm⟩, Or.inr ⟨fun q => hc11 (hw.mpr q.1), rfl⟩⟩
  · obtain ⟨v, rfl, tv, lv, uv, -⟩ := wi_nat (hw.mp hc11) (by omega)
    refine V_aload_n E dX11_planned_14 rfl ?_
    refine V_callV E (cm_plans (x_l X) d S B hB hM hJ) ml_X11_248 mv_X11_plans hM.o dX11_planned_15 rfl (by simp [Value.category]) (by omega) (by omega) (by omega) (fun r S2 hp => ?_)
    obtain ⟨rfl, f, rfl, hf⟩ := hp
    refine V_ifeq_b (tgt := 30) E dX11_planned_18 (by decide) (fun hc18 => ?_) (fun hc18 => ?_)
    · refine V_iconst (v := -1) E dX11_planned_30 (by decide) ?_
      exact V_iret E R dX11_planned_31 rfl (Nat.le_refl _) (Nat.le_refl _) ⟨⟨f, rfl⟩, Or.inr ⟨fun q => hc18 q.2, rfl⟩⟩
    · refine V_aload_n E dX11_planned_21 rfl ?_
      refine V_getR E fl_X11_105 dX11_planned_22 rfl hM.o (hM.r 43 (by decide)) ?_
      refine V_iload_n E dX11_planned_25 rfl ?_
      refine V_ia (j := v) E dX11_planned_26 (hM.k 43 21 rfl (by decide)) (@rfl _ (nI (v))) (hM.l 43 60 rfl (by decide)) (by omega) (by decide) ?_
      refine V_goto (tgt := 31) E dX11_planned_27 (by decide) ?_
      exact V_iret E R dX11_planned_31 rfl (Nat.le_refl _) (Nat.le_refl _) ⟨⟨f, rfl⟩, Or.inl ⟨⟨hw.mp hc11, hc18⟩, by rw [tv, aI_rA, va_up_self, hf v (by omega)]⟩⟩

theorem cy_planned (l : Launch) (d : Nat) (S : GS) (B : AP) (hB : POKa B) (hQ : YOK S) (hJ : YPl S B) (x : Int32) : GC l (d + 2) yX10_planned cX10_planned 2 (some FieldType.int) [.ref 200, .int x] S (fun r S2 => (∃ f, S2 = rA S 224 f) ∧ (((wi_ x 0 ((jn B : Int) - 1) ∧ jall B) ∧ r = some (.int (bI (jpl B 60 (tn x))))) ∨ (¬ (wi_ x 0 ((jn B : Int) - 1) ∧ jall B) ∧ r = some (.int (-1))))) (0) (0) := by
  refine GC.ofV (by decide) (Nat.le_of_ble_eq_true rfl) (fun X hl E R hnm => ?_)
  subst hl
  have E : En X RX10 cX10_planned 2 (d + 2) (0) (0) := E
  have R : Rt X (some FieldType.int) (fun r S2 => (∃ f, S2 = rA S 224 f) ∧ (((wi_ x 0 ((jn B : Int) - 1) ∧ jall B) ∧ r = some (.int (bI (jpl B 60 (tn x))))) ∨ (¬ (wi_ x 0 ((jn B : Int) - 1) ∧ jall B) ∧ r = some (.int (-1))))) := R
  have hn := hB.1
  have hw : (0 ≤ x ∧ x ≤ fI S 221 5 - 1) ↔ wi_ x 0 ((jn B : Int) - 1) := wi_iff rfl (by rw [hJ.1]; exact nI_m1 (by omega))
  refine V_iload_n E dX10_planned_0 rfl ?_
  refine V_iconst (v := 0) E dX10_planned_1 (by decide) ?_
  refine V_aload_n E dX10_planned_2 rfl ?_
  refine V_getR E fl_X10_48 dX10_planned_3 rfl (hQ.k 200 11 rfl (by decide)) (hQ.r 200 8 221 rfl) ?_
  refine V_getIN E fn_X10_192 dX10_planned_6 rfl (hQ.k 221 3 rfl (by decide)) ?_
  refine V_iconst (v := 1) E dX10_planned_9 (by decide) ?_
  refine V_isub E dX10_planned_10 ?_
  refine V_callS E (cy_isWithin (x_l X) d S _ _ _) ml_X10_61 ms_X10_isWithin dX10_planned_11 rfl (by simp [Value.category]) (by omega) (by omega) (by omega) (fun r S2 hp => ?_)
  obtain ⟨rfl, hS2⟩ := hp
  obtain rfl := hS2.symm
  refine V_ifeq_b (tgt := 27) E dX10_planned_14 (by decide) (fun hc14 => ?_) (fun hc14 => ?_)
  · refine V_iconst (v := -1) E dX10_planned_27 (by decide) ?_
    exact V_iret E R dX10_planned_28 rfl (Nat.le_refl _) (Nat.le_refl _) ⟨⟨aI S 224, (rA_self S 224).symm⟩, Or.inr ⟨fun q => hc14 (hw.mpr q.1), rfl⟩⟩
  · obtain ⟨v, rfl, tv, lv, uv, -⟩ := wi_nat (hw.mp hc14) (by omega)
    refine V_aload_n E dX10_planned_17 rfl ?_
    refine V_getR E fl_X10_48 dX10_planned_18 rfl (hQ.k 200 11 rfl (by decide)) (hQ.r 200 8 221 rfl) ?_
    refine V_callV E (cy_giveDays (x_l X) d S B hB hQ hJ) ml_X10_195 mv_X2_giveDays (hQ.k 221 3 rfl (by decide)) dX10_planned_21 rfl (by simp [Value.category]) (by omega) (by omega) (by omega) (fun r S2 hp => ?_)
    obtain ⟨rfl, f, rfl, hf⟩ := hp
    refine V_ifne_b (tgt := 29) E dX10_planned_24 (by decide) (fun hc24 => ?_) (fun hc24 => ?_)
    · refine V_aload_n E dX10_planned_29 rfl ?_
      refine V_getR E fl_X10_48 dX10_planned_30 rfl (hQ.k 200 11 rfl (by decide)) (hQ.r 200 8 221 rfl) ?_
      refine V_getRN E fn_X10_198 dX10_planned_33 rfl (hQ.k 221 3 rfl (by decide)) (hQ.r 221 2 224 rfl) ?_
      refine V_iload_n E dX10_planned_36 rfl ?_
      refine V_ia (j := v) E dX10_planned_37 (hQ.k 224 21 rfl (by decide)) (@rfl _ (nI (v))) (hQ.l 224 60 rfl (by decide)) (by omega) (by decide) ?_
      exact V_iret E R dX10_planned_38 rfl (Nat.le_refl _) (Nat.le_refl _) ⟨⟨f, rfl⟩, Or.inl ⟨⟨hw.mp hc14, hc24⟩, by rw [tv, aI_rA, va_up_self, hf v (by omega)]⟩⟩
    · refine V_iconst (v := -1) E dX10_planned_27 (by decide) ?_
      exact V_iret E R dX10_planned_28 rfl (Nat.le_refl _) (Nat.le_refl _) ⟨⟨f, rfl⟩, Or.inr ⟨fun q => hc24 q.2, rfl⟩⟩
