theorem cm_job (l : Launch) (d : Nat) (S : GS) (B : AP) (hB : POKa B) (hM : MOK S) (hJ : MPl S B) (x z : Int32) : GC l (d + 1) yX11_job cX11_job 3 (some FieldType.int) [.ref 0, .int x, .int z] S (fun r S2 => (pJob B x z ∧ r = some (.int (nI (jn B))) ∧ S2 = mJob S B x z) ∨ (¬ pJob B x z ∧ r = some (.int (-1)) ∧ S2 = S)) (0) (0) := by
  refine GC.ofV (by decide) (Nat.le_of_ble_eq_true rfl) (fun X hl E R hnm => ?_)
  subst hl
  have E : En X RX11 cX11_job 3 (d + 1) (0) (0) := E
  have R : Rt X (some FieldType.int) (fun r S2 => (pJob B x z ∧ r = some (.int (nI (jn B))) ∧ S2 = mJob S B x z) ∨ (¬ pJob B x z ∧ r = some (.int (-1)) ∧ S2 = S)) := R
  have hn := hB.1
  refine V_iload_n E dX11_job_0 rfl ?_
  refine V_iconst (v := 0) E dX11_job_1 (by decide) ?_
  refine V_bipush (v := 59) E dX11_job_2 (by decide) ?_
  refine V_callS E (cm_in (x_l X) d S _ _ _) ml_X11_115 ms_X11_in dX11_job_4 rfl (by simp [Value.category]) (by omega) (by omega) (by omega) (fun r S2 hp => ?_)
  obtain ⟨rfl, hS2⟩ := hp
  obtain rfl := hS2.symm
  refine V_ifeq_b (tgt := 29) E dX11_job_7 (by decide) (fun hc7 => ?_) (fun hc7 => ?_)
  · have w7 : ¬ wi_ x 0 59 := fun q => hc7 ((wi_iff (by decide) (by decide)).mpr q)
    refine V_iconst (v := -1) E dX11_job_29 (by decide) ?_
    exact V_iret E R dX11_job_30 rfl (Nat.le_refl _) (Nat.le_refl _) (Or.inr ⟨fun q => w7 q.1.1, rfl, rfl⟩)
  · have w7 : wi_ x 0 59 := (wi_iff (by decide) (by decide)).mp hc7
    obtain ⟨a, rfl, ta, la, ua, -⟩ := wi_nat w7 (by omega)
    refine V_iload_n E dX11_job_10 rfl ?_
    refine V_iload_n E dX11_job_11 rfl ?_
    refine V_bipush (v := 59) E dX11_job_12 (by decide) ?_
    refine V_callS E (cm_in (x_l X) d S _ _ _) ml_X11_115 ms_X11_in dX11_job_14 rfl (by simp [Value.category]) (by omega) (by omega) (by omega) (fun r S2 hp => ?_)
    obtain ⟨rfl, hS2⟩ := hp
    obtain rfl := hS2.symm
    refine V_ifeq_b (tgt := 29) E dX11_job_17 (by decide) (fun hc17 => ?_) (fun hc17 => ?_)
    · have w17 : ¬ wi_ z a 59 := fun q => hc17 ((wi_iff (nI_toInt (by omega)) (by decide)).mpr q)
      refine V_iconst (v := -1) E dX11_job_29 (by decide) ?_
      exact V_iret E R dX11_job_30 rfl (Nat.le_refl _) (Nat.le_refl _) (Or.inr ⟨fun q => w17 (by obtain ⟨⟨q1, q2, q3⟩, q4⟩ := q; obtain ⟨b, rfl, tb, lb, ub, -⟩ := wi_nat q2 (by omega); rw [ta, tb] at q3; exact (wi_nI (by omega)).mpr (by omega)), rfl, rfl⟩)
    · have w17 : wi_ z a 59 := (wi_iff (nI_toInt (by omega)) (by decide)).mp hc17
      obtain ⟨b, rfl, tb, lb, ub, -⟩ := wi_nat w17 (by omega)
      refine V_aload_n E dX11_job_20 rfl ?_
      refine V_getI E fl_X11_245 dX11_job_21 rfl hM.o ?_
      refine V_bipush (v := 60) E dX11_job_24 (by decide) ?_
      refine V_icmp_ne (tgt := 31) E dX11_job_26 (by decide) (fun h26 => ?_) (fun h26 => ?_)
      · have g26 : jn B < 60 := by rcases Nat.lt_or_ge (jn B) 60 with q | q; exact q; exact absurd (by rw [hJ.1, show jn B = 60 by omega]; rfl) h26
        refine V_aload_n E dX11_job_31 rfl ?_
        refine V_getR E fl_X11_99 dX11_job_32 rfl hM.o (hM.r 41 (by decide)) ?_
        refine V_aload_n E dX11_job_35 rfl ?_
        refine V_getI E fl_X11_245 dX11_job_36 rfl hM.o ?_
        refine V_iload_n E dX11_job_39 rfl ?_
        refine V_ias (j := (jn B)) E dX11_job_40 (hM.k 41 21 rfl (by decide)) hJ.1 (hM.l 41 60 rfl (by decide)) (by omega) (by decide) ?_
        refine V_aload_n E dX11_job_41 rfl ?_
        refine V_getR E fl_X11_102 dX11_job_42 rfl hM.o (hM.r 42 (by decide)) ?_
        refine V_aload_n E dX11_job_45 rfl ?_
        refine V_getI E fl_X11_245 dX11_job_46 rfl hM.o ?_
        refine V_iload_n E dX11_job_49 rfl ?_
        refine V_ias (j := (jn B)) E dX11_job_50 (hM.k 42 21 rfl (by decide)) hJ.1 (hM.l 42 60 rfl (by decide)) (by omega) (by decide) ?_
        refine V_aload_n E dX11_job_51 rfl ?_
        refine V_dup E dX11_job_52 rfl ?_
        refine V_getI E fl_X11_245 dX11_job_53 rfl hM.o ?_
        refine V_iconst (v := 1) E dX11_job_56 (by decide) ?_
        refine V_iadd E dX11_job_57 ?_
        refine V_cvi (y := nI (((jn B) + 1))) (ni_add (a := (jn B)) (b := 1) hJ.1 (rfl : (1 : Int32) = nI 1)) ?_
        refine V_putI E fl_X11_245 dX11_job_58 rfl hM.o ⟨rfl, rfl⟩ rfl ?_
        refine V_aload_n E dX11_job_61 rfl ?_
        refine V_getI E fl_X11_245 dX11_job_62 rfl hM.o ?_
        refine V_iconst (v := 1) E dX11_job_65 (by decide) ?_
        refine V_isub E dX11_job_66 ?_
        exact V_iret E R dX11_job_67 rfl (Nat.le_refl _) (Nat.le_refl _) (Or.inl ⟨⟨⟨w7, (wi_nI (by omega)).mpr (by omega), by rw [ta, tb]; omega⟩, g26⟩, by rw [fI_sI, up2_at]; exact congrArg (fun q => some (Value.int q)) (nI_pred (jn B)), rfl⟩)
      · have g26 : jn B = 60 := (nI_eq (a := jn B) (b := 60) (by omega) (by omega)).mp (hJ.1.symm.trans h26)
        refine V_iconst (v := -1) E dX11_job_29 (by decide) ?_
        exact V_iret E R dX11_job_30 rfl (Nat.le_refl _) (Nat.le_refl _) (Or.inr ⟨fun q => absurd q.2 (by omega), rfl, rfl⟩)

theorem cm_places (l : Launch) (d : Nat) (S : GS) (B : AP) (hB : POKa B) (hM : MOK S) (hJ : MPl S B) (x z : Int32) : GC l (d + 1) yX11_places cX11_places 3 (some FieldType.boolean) [.ref 0, .int x, .int z] S (fun r S2 => (pPlaces x z ∧ r = some (.int 1) ∧ S2 = sA S 44 (tn x) z) ∨ (¬ pPlaces x z ∧ r = some (.int 0) ∧ S2 = S)) (0) (0) := by
  refine GC.ofV (by decide) (Nat.le_of_ble_eq_true rfl) (fun X hl E R hnm => ?_)
  subst hl
  have E : En X RX11 cX11_places 3 (d + 1) (0) (0) := E
  have R : Rt X (some FieldType.boolean) (fun r S2 => (pPlaces x z ∧ r = some (.int 1) ∧ S2 = sA S 44 (tn x) z) ∨ (¬ pPlaces x z ∧ r = some (.int 0) ∧ S2 = S)) := R
  refine V_iload_n E dX11_places_0 rfl ?_
  refine V_iconst (v := 0) E dX11_places_1 (by decide) ?_
  refine V_bipush (v := 59) E dX11_places_2 (by decide) ?_
  refine V_callS E (cm_in (x_l X) d S _ _ _) ml_X11_115 ms_X11_in dX11_places_4 rfl (by simp [Value.category]) (by omega) (by omega) (by omega) (fun r S2 hp => ?_)
  obtain ⟨rfl, hS2⟩ := hp
  obtain rfl := hS2.symm
  refine V_ifeq_b (tgt := 20) E dX11_places_7 (by decide) (fun hc7 => ?_) (fun hc7 => ?_)
  · have w7 : ¬ wi_ x 0 59 := fun q => hc7 ((wi_iff (by decide) (by decide)).mpr q)
    refine V_iconst (v := 0) E dX11_places_20 (by decide) ?_
    exact V_iret E R dX11_places_21 rfl (Nat.le_refl _) (Nat.le_refl _) (Or.inr ⟨fun q => w7 q.1, rfl, rfl⟩)
  · have w7 : wi_ x 0 59 := (wi_iff (by decide) (by decide)).mp hc7
    obtain ⟨a, rfl, ta, la, ua, -⟩ := wi_nat w7 (by omega)
    refine V_iload_n E dX11_places_10 rfl ?_
    refine V_iconst (v := 0) E dX11_places_11 (by decide) ?_
    refine V_bipush (v := 9) E dX11_places_12 (by decide) ?_
    refine V_callS E (cm_in (x_l X) d S _ _ _) ml_X11_115 ms_X11_in dX11_places_14 rfl (by simp [Value.category]) (by omega) (by omega) (by omega) (fun r S2 hp => ?_)
    obtain ⟨rfl, hS2⟩ := hp
    obtain rfl := hS2.symm
    refine V_ifne_b (tgt := 22) E dX11_places_17 (by decide) (fun hc17 => ?_) (fun hc17 => ?_)
    · have w17 : wi_ z 0 9 := (wi_iff (by decide) (by decide)).mp hc17
      refine V_aload_n E dX11_places_22 rfl ?_
      refine V_getR E fl_X11_108 dX11_places_23 rfl hM.o (hM.r 44 (by decide)) ?_
      refine V_iload_n E dX11_places_26 rfl ?_
      refine V_iload_n E dX11_places_27 rfl ?_
      refine V_ias (j := a) E dX11_places_28 (hM.k 44 21 rfl (by decide)) (@rfl _ (nI (a))) (hM.l 44 60 rfl (by decide)) (by omega) (by decide) ?_
      refine V_iconst (v := 1) E dX11_places_29 (by decide) ?_
      exact V_iret E R dX11_places_30 rfl (Nat.le_refl _) (Nat.le_refl _) (Or.inl ⟨⟨w7, w17⟩, rfl, by rw [ta]⟩)
    · have w17 : ¬ wi_ z 0 9 := fun q => hc17 ((wi_iff (by decide) (by decide)).mpr q)
      refine V_iconst (v := 0) E dX11_places_20 (by decide) ?_
      exact V_iret E R dX11_places_21 rfl (Nat.le_refl _) (Nat.le_refl _) (Or.inr ⟨fun q => w17 q.2, rfl, rfl⟩)

theorem cy_places (l : Launch) (d : Nat) (S : GS) (B : AP) (hB : POKa B) (hQ : YOK S) (hJ : YPl S B) (x z : Int32) : GC l (d + 1) yX10_places cX10_places 3 (some FieldType.boolean) [.ref 200, .int x, .int z] S (fun r S2 => (pPlaces x z ∧ r = some (.int 1) ∧ S2 = sA S 225 (tn x) z) ∨ (¬ pPlaces x z ∧ r = some (.int 0) ∧ S2 = S)) (0) (0) := by
  refine GC.ofV (by decide) (Nat.le_of_ble_eq_true rfl) (fun X hl E R hnm => ?_)
  subst hl
  have E : En X RX10 cX10_places 3 (d + 1) (0) (0) := E
  have R : Rt X (some FieldType.boolean) (fun r S2 => (pPlaces x z ∧ r = some (.int 1) ∧ S2 = sA S 225 (tn x) z) ∨ (¬ pPlaces x z ∧ r = some (.int 0) ∧ S2 = S)) := R
  refine V_iload_n E dX10_places_0 rfl ?_
  refine V_iconst (v := 0) E dX10_places_1 (by decide) ?_
  refine V_bipush (v := 59) E dX10_places_2 (by decide) ?_
  refine V_callS E (cy_isWithin (x_l X) d S _ _ _) ml_X10_61 ms_X10_isWithin dX10_places_4 rfl (by simp [Value.category]) (by omega) (by omega) (by omega) (fun r S2 hp => ?_)
  obtain ⟨rfl, hS2⟩ := hp
  obtain rfl := hS2.symm
  refine V_ifeq_b (tgt := 20) E dX10_places_7 (by decide) (fun hc7 => ?_) (fun hc7 => ?_)
  · have w7 : ¬ wi_ x 0 59 := fun q => hc7 ((wi_iff (by decide) (by decide)).mpr q)
    refine V_iconst (v := 0) E dX10_places_20 (by decide) ?_
    exact V_iret E R dX10_places_21 rfl (Nat.le_refl _) (Nat.le_refl _) (Or.inr ⟨fun q => w7 q.1, rfl, rfl⟩)
  · have w7 : wi_ x 0 59 := (wi_iff (by decide) (by decide)).mp hc7
    obtain ⟨a, rfl, ta, la, ua, -⟩ := wi_nat w7 (by omega)
    refine V_iload_n E dX10_places_10 rfl ?_
    refine V_iconst (v := 0) E dX10_places_11 (by decide) ?_
    refine V_bipush (v := 9) E dX10_places_12 (by decide) ?_
    refine V_callS E (cy_isWithin (x_l X) d S _ _ _) ml_X10_61 ms_X10_isWithin dX10_places_14 rfl (by simp [Value.category]) (by omega) (by omega) (by omega) (fun r S2 hp => ?_)
    obtain ⟨rfl, hS2⟩ := hp
    obtain rfl := hS2.symm
    refine V_ifne_b (tgt := 22) E dX10_places_17 (by decide) (fun hc17 => ?_) (fun hc17 => ?_)
    · have w17 : wi_ z 0 9 := (wi_iff (by decide) (by decide)).mp hc17
      refine V_aload_n E dX10_places_22 rfl ?_
      refine V_getR E fl_X10_48 dX10_places_23 rfl (hQ.k 200 11 rfl (by decide)) (hQ.r 200 8 221 rfl) ?_
      refine V_getRN E fn_X10_189 dX10_places_26 rfl (hQ.k 221 3 rfl (by decide)) (hQ.r 221 3 225 rfl) ?_
      refine V_iload_n E dX10_places_29 rfl ?_
      refine V_iload_n E dX10_places_30 rfl ?_
      refine V_ias (j := a) E dX10_places_31 (hQ.k 225 21 rfl (by decide)) (@rfl _ (nI (a))) (hQ.l 225 60 rfl (by decide)) (by omega) (by decide) ?_
      refine V_iconst (v := 1) E dX10_places_32 (by decide) ?_
      exact V_iret E R dX10_places_33 rfl (Nat.le_refl _) (Nat.le_refl _) (Or.inl ⟨⟨w7, w17⟩, rfl, by rw [ta]⟩)
    · have w17 : ¬ wi_ z 0 9 := fun q => hc17 ((wi_iff (by decide) (by decide)).mpr q)
      refine V_iconst (v := 0) E dX10_places_20 (by decide) ?_
      exact V_iret E R dX10_places_21 rfl (Nat.le_refl _) (Nat.le_refl _) (Or.inr ⟨fun q => w17 q.2, rfl, rfl⟩)

theorem cm_clear (l : Launch) (d : Nat) (S : GS) (hM : MOK S) : GC l (d) yX11_clear cX11_clear 1 none [.ref 0] S (fun r S2 => r = none ∧ S2 = sI S 0 45 0) (0) (0) := by
  refine GC.ofV (by decide) (Nat.le_of_ble_eq_true rfl) (fun X hl E R hnm => ?_)
  subst hl
  have E : En X RX11 cX11_clear 1 (d) (0) (0) := E
  have R : Rt X none (fun r S2 => r = none ∧ S2 = sI S 0 45 0) := R
  refine V_aload_n E dX11_clear_0 rfl ?_
  refine V_iconst (v := 0) E dX11_clear_1 (by decide) ?_
  refine V_putI E fl_X11_245 dX11_clear_2 rfl hM.o ⟨rfl, rfl⟩ rfl ?_
  exact V_vret E R dX11_clear_5 (Nat.le_refl _) (Nat.le_refl _) ⟨rfl, rfl⟩

theorem cy_clear (l : Launch) (d : Nat) (S : GS) (hQ : YOK S) : GC l (d) yX10_clear cX10_clear 1 none [.ref 200] S (fun r S2 => r = none ∧ S2 = sI S 221 5 0) (0) (0) := by
  refine GC.ofV (by decide) (Nat.le_of_ble_eq_true rfl) (fun X hl E R hnm => ?_)
  subst hl
  have E : En X RX10 cX10_clear 1 (d) (0) (0) := E
  have R : Rt X none (fun r S2 => r = none ∧ S2 = sI S 221 5 0) := R
  refine V_aload_n E dX10_clear_0 rfl ?_
  refine V_getR E fl_X10_48 dX10_clear_1 rfl (hQ.k 200 11 rfl (by decide)) (hQ.r 200 8 221 rfl) ?_
  refine V_iconst (v := 0) E dX10_clear_4 (by decide) ?_
  refine V_putIN E fn_X10_192 dX10_clear_5 rfl (hQ.k 221 3 rfl (by decide)) ⟨rfl, rfl⟩ rfl ?_
  exact V_vret E R dX10_clear_8 (Nat.le_refl _) (Nat.le_refl _) ⟨rfl, rfl⟩

theorem cy_planAdd (l : Launch) (d : Nat) (S : GS) (B : AP) (hB : POKa B) (hQ : YOK S) (hJ : YPl S B) (x z : Int32) : GC l (d) yX2_add cX2_add 3 (some FieldType.int) [.ref 221, .int x, .int z] S (fun r S2 => (jn B < 60 ∧ r = some (.int (nI (jn B))) ∧ S2 = yJob S B x z) ∨ (¬ jn B < 60 ∧ r = some (.int (-1)) ∧ S2 = S)) (0) (0) := by
  refine GC.ofV (by decide) (Nat.le_of_ble_eq_true rfl) (fun X hl E R hnm => ?_)
  subst hl
  have E : En X RX2 cX2_add 3 (d) (0) (0) := E
  have R : Rt X (some FieldType.int) (fun r S2 => (jn B < 60 ∧ r = some (.int (nI (jn B))) ∧ S2 = yJob S B x z) ∨ (¬ jn B < 60 ∧ r = some (.int (-1)) ∧ S2 = S)) := R
  have hn := hB.1
  refine V_aload_n E dX2_add_0 rfl ?_
  refine V_getI E fl_X2_27 dX2_add_1 rfl (hQ.k 221 3 rfl (by decide)) ?_
  refine V_bipush (v := 60) E dX2_add_4 (by decide) ?_
  refine V_icmp_lt (tgt := 11) E dX2_add_6 (by decide) (fun h6 => ?_) (fun h6 => ?_)
  · have g6 : jn B < 60 := (nI_ltI (a := jn B) (b := 60) (by omega) (by omega)).mp (by rw [← hJ.1]; exact h6)
    refine V_aload_n E dX2_add_11 rfl ?_
    refine V_getR E fl_X2_9 dX2_add_12 rfl (hQ.k 221 3 rfl (by decide)) (hQ.r 221 0 222 rfl) ?_
    refine V_aload_n E dX2_add_15 rfl ?_
    refine V_getI E fl_X2_27 dX2_add_16 rfl (hQ.k 221 3 rfl (by decide)) ?_
    refine V_iload_n E dX2_add_19 rfl ?_
    refine V_ias (j := (jn B)) E dX2_add_20 (hQ.k 222 21 rfl (by decide)) hJ.1 (hQ.l 222 60 rfl (by decide)) (by omega) (by decide) ?_
    refine V_aload_n E dX2_add_21 rfl ?_
    refine V_getR E fl_X2_15 dX2_add_22 rfl (hQ.k 221 3 rfl (by decide)) (hQ.r 221 1 223 rfl) ?_
    refine V_aload_n E dX2_add_25 rfl ?_
    refine V_getI E fl_X2_27 dX2_add_26 rfl (hQ.k 221 3 rfl (by decide)) ?_
    refine V_iload_n E dX2_add_29 rfl ?_
    refine V_ias (j := (jn B)) E dX2_add_30 (hQ.k 223 21 rfl (by decide)) hJ.1 (hQ.l 223 60 rfl (by decide)) (by omega) (by decide) ?_
    refine V_aload_n E dX2_add_31 rfl ?_
    refine V_dup E dX2_add_32 rfl ?_
    refine V_getI E fl_X2_27 dX2_add_33 rfl (hQ.k 221 3 rfl (by decide)) ?_
    refine V_cvi (y := nI ((jn B))) hJ.1 ?_
    refine V_dup_x1 E dX2_add_36 rfl rfl ?_
    refine V_iconst (v := 1) E dX2_add_37 (by decide) ?_
    refine V_iadd E dX2_add_38 ?_
    refine V_cvi (y := nI (((jn B) + 1))) (ni_add (a := (jn B)) (b := 1) (@rfl _ (nI ((jn B)))) (rfl : (1 : Int32) = nI 1)) ?_
    refine V_putI E fl_X2_27 dX2_add_39 rfl (hQ.k 221 3 rfl (by decide)) ⟨rfl, rfl⟩ rfl ?_
    exact V_iret E R dX2_add_42 rfl (Nat.le_refl _) (Nat.le_refl _) (Or.inl ⟨g6, rfl, rfl⟩)
  · have g6 : ¬ jn B < 60 := fun q => h6 (by rw [hJ.1]; exact nI_lt (a := jn B) (b := 60) q (by omega))
    refine V_iconst (v := -1) E dX2_add_9 (by decide) ?_
    exact V_iret E R dX2_add_10 rfl (Nat.le_refl _) (Nat.le_refl _) (Or.inr ⟨g6, rfl, rfl⟩)

theorem cy_job (l : Launch) (d : Nat) (S : GS) (B : AP) (hB : POKa B) (hQ : YOK S) (hJ : YPl S B) (x z : Int32) : GC l (d + 1) yX10_job cX10_job 3 (some FieldType.int) [.ref 200, .int x, .int z] S (fun r S2 => (pJob B x z ∧ r = some (.int (nI (jn B))) ∧ S2 = yJob S B x z) ∨ (¬ pJob B x z ∧ r = some (.int (-1)) ∧ S2 = S)) (0) (0) := by
  refine GC.ofV (by decide) (Nat.le_of_ble_eq_true rfl) (fun X hl E R hnm => ?_)
  subst hl
  have E : En X RX10 cX10_job 3 (d + 1) (0) (0) := E
  have R : Rt X (some FieldType.int) (fun r S2 => (pJob B x z ∧ r = some (.int (nI (jn B))) ∧ S2 = yJob S B x z) ∨ (¬ pJob B x z ∧ r = some (.int (-1)) ∧ S2 = S)) := R
  have hn := hB.1
  have z0 : ((0 : Int32)).toInt = 0 := rfl
  have z60 : ((60 : Int32)).toInt = 60 := rfl
  have key : (0 ≤ x.toInt ∧ x.toInt ≤ z.toInt ∧ z.toInt < 60) ↔ (wi_ x 0 59 ∧ wi_ z 0 59 ∧ tn x ≤ tn z) := by
    unfold wi_ tn
    omega
  refine V_iload_n E dX10_job_0 rfl ?_
  refine V_if_lt (tgt := 15) E dX10_job_1 (by decide) (fun h1 => ?_) (fun h1 => ?_)
  · have g : ¬ pJob B x z := fun q => by have := key.mpr q.1; rw [fa_lt] at h1; omega
    refine V_iconst (v := -1) E dX10_job_15 (by decide) ?_
    exact V_iret E R dX10_job_16 rfl (Nat.le_refl _) (Nat.le_refl _) (Or.inr ⟨g, rfl, rfl⟩)
  · rw [fa_lt] at h1
    refine V_iload_n E dX10_job_4 rfl ?_
    refine V_iload_n E dX10_job_5 rfl ?_
    refine V_icmp_gt (tgt := 15) E dX10_job_6 (by decide) (fun h6 => ?_) (fun h6 => ?_)
    · have g : ¬ pJob B x z := fun q => by have := key.mpr q.1; rw [fa_lt] at h6; omega
      refine V_iconst (v := -1) E dX10_job_15 (by decide) ?_
      exact V_iret E R dX10_job_16 rfl (Nat.le_refl _) (Nat.le_refl _) (Or.inr ⟨g, rfl, rfl⟩)
    · rw [fa_lt] at h6
      refine V_iload_n E dX10_job_9 rfl ?_
      refine V_bipush (v := 60) E dX10_job_10 (by decide) ?_
      refine V_icmp_lt (tgt := 17) E dX10_job_12 (by decide) (fun h12 => ?_) (fun h12 => ?_)
      · rw [fa_lt] at h12; have g := key.mp (by omega)
        refine V_aload_n E dX10_job_17 rfl ?_
        refine V_getR E fl_X10_48 dX10_job_18 rfl (hQ.k 200 11 rfl (by decide)) (hQ.r 200 8 221 rfl) ?_
        refine V_iload_n E dX10_job_21 rfl ?_
        refine V_iload_n E dX10_job_22 rfl ?_
        refine V_callV E (cy_planAdd (x_l X) d S B hB hQ hJ x z) ml_X10_187 mv_X2_add (hQ.k 221 3 rfl (by decide)) dX10_job_23 rfl (by simp [Value.category]) (by omega) (by omega) (by omega) (fun r S2 hp => ?_)
        rcases hp with ⟨hj, rfl, rfl⟩ | ⟨hj, rfl, hS2⟩
        · exact V_iret E R dX10_job_26 rfl (Nat.le_refl _) (Nat.le_refl _) (Or.inl ⟨⟨g, hj⟩, rfl, rfl⟩)
        · obtain rfl := hS2.symm
          exact V_iret E R dX10_job_26 rfl (Nat.le_refl _) (Nat.le_refl _) (Or.inr ⟨fun q => hj q.2, rfl, rfl⟩)
      · have g : ¬ pJob B x z := fun q => by have := key.mpr q.1; rw [fa_lt] at h12; omega
        refine V_iconst (v := -1) E dX10_job_15 (by decide) ?_
        exact V_iret E R dX10_job_16 rfl (Nat.le_refl _) (Nat.le_refl _) (Or.inr ⟨g, rfl, rfl⟩)
