theorem cy_Vessel_init (l : Launch) (d : Nat) (S : GS) (v : Nat) (hv : v < 100) (hk : kd S (1000 + v) = 7 + 1) (hf : kd S (2000 + v) = 0) (x : Int32) : GC l (d + 1) yX7_init cX7_init 2 none [.ref (1000 + v), .int x] S (fun r S2 => r = none ∧ S2 = yInit S v x) (1) (60) := by
  refine GC.ofV (by decide) (Nat.le_of_ble_eq_true rfl) (fun X hl E R hnm => ?_)
  subst hl
  have E : En X RX7 cX7_init 2 (d + 1) (1) (60) := E
  have R : Rt X none (fun r S2 => r = none ∧ S2 = yInit S v x) := R
  refine V_aload_n E dX7_init_0 rfl ?_
  refine V_objInit E ml_X7_3 dX7_init_1 (by decide) (by omega) ?_
  refine V_aload_n E dX7_init_4 rfl ?_
  refine V_iload_n E dX7_init_5 rfl ?_
  refine V_putIF E fl_X7_9 hnm dX7_init_6 rfl hk ⟨rfl, rfl⟩ rfl rfl ?_
  refine V_aload_n E dX7_init_9 rfl ?_
  refine V_bipush (v := 60) E dX7_init_10 (by decide) ?_
  refine V_newa (at_ := .int) (N := 60) (2000 + v) E rfl (by decide) ac_int dX7_init_12 (rfl : (60 : Int32) = nI 60) (by omega) hf (by omega) (by omega) ?_
  refine V_putRF E fl_X7_15 hnm dX7_init_14 rfl (show va_up (kd S) (2000 + v) 21 (1000 + v) = 7 + 1 from (va_up_ne _ _ (by omega)).trans hk) rfl rfl ?_
  exact V_vret E R dX7_init_17 (by omega) (by omega) ⟨rfl, rfl⟩

theorem cy_vessel (l : Launch) (d : Nat) (S : GS) (A : AV) (t : Nat) (hO : VOK A t) (hQ : YOK S) (hY : YVes S A) (x : Int32) : GC l (d + 2) yX10_vessel cX10_vessel 2 (some FieldType.int) [.ref 200, .int x] S (fun r S2 => (pVessel A x ∧ r = some (.int (nI (vn A))) ∧ S2 = yVessel S (vn A) x) ∨ (¬ pVessel A x ∧ r = some (.int (-1)) ∧ S2 = S)) (2) (68) := by
  refine GC.ofV (by decide) (Nat.le_of_ble_eq_true rfl) (fun X hl E R hnm => ?_)
  subst hl
  have E : En X RX10 cX10_vessel 2 (d + 2) (2) (68) := E
  have R : Rt X (some FieldType.int) (fun r S2 => (pVessel A x ∧ r = some (.int (nI (vn A))) ∧ S2 = yVessel S (vn A) x) ∨ (¬ pVessel A x ∧ r = some (.int (-1)) ∧ S2 = S)) := R
  have hn := hO.1
  refine V_iload_n E dX10_vessel_0 rfl ?_
  refine V_if_lt (tgt := 18) E dX10_vessel_1 (by decide) (fun h1 => ?_) (fun h1 => ?_)
  · have g1 : ¬ pVessel A x := fun q => by have := q.1.1; rw [fa_lt] at h1; have z0 : ((0 : Int32)).toInt = 0 := rfl; omega
    refine V_iconst (v := -1) E dX10_vessel_18 (by decide) ?_
    exact V_iret E R dX10_vessel_19 rfl (by omega) (by omega) (Or.inr ⟨g1, rfl, rfl⟩)
  · have g1 : 0 ≤ x.toInt := by rw [fa_lt] at h1; have z0 : ((0 : Int32)).toInt = 0 := rfl; omega
    refine V_iload_n E dX10_vessel_4 rfl ?_
    refine V_iconst (v := 3) E dX10_vessel_5 (by decide) ?_
    refine V_icmp_gt (tgt := 18) E dX10_vessel_6 (by decide) (fun h6 => ?_) (fun h6 => ?_)
    · have g1 : ¬ pVessel A x := fun q => by have := q.1.2; rw [fa_lt] at h6; have z3 : ((3 : Int32)).toInt = 3 := rfl; omega
      refine V_iconst (v := -1) E dX10_vessel_18 (by decide) ?_
      exact V_iret E R dX10_vessel_19 rfl (by omega) (by omega) (Or.inr ⟨g1, rfl, rfl⟩)
    · have g6 : x.toInt ≤ 3 := by rw [fa_lt] at h6; have z3 : ((3 : Int32)).toInt = 3 := rfl; omega
      refine V_aload_n E dX10_vessel_9 rfl ?_
      refine V_getI E fl_X10_52 dX10_vessel_10 rfl (hQ.k 200 11 rfl (by decide)) ?_
      refine V_bipush (v := 100) E dX10_vessel_13 (by decide) ?_
      refine V_icmp_lt (tgt := 20) E dX10_vessel_15 (by decide) (fun h15 => ?_) (fun h15 => ?_)
      · have g15 : vn A < 100 := (nI_ltI (a := vn A) (b := 100) (by omega) (by omega)).mp (by rw [← hY.n]; exact h15)
        obtain ⟨f1, f2⟩ := hY.2.2 (vn A) (Nat.le_refl _) g15
        refine V_aload_n E dX10_vessel_20 rfl ?_
        refine V_getR E fl_X10_11 dX10_vessel_21 rfl (hQ.k 200 11 rfl (by decide)) (hQ.r 200 0 201 rfl) ?_
        refine V_aload_n E dX10_vessel_24 rfl ?_
        refine V_getI E fl_X10_52 dX10_vessel_25 rfl (hQ.k 200 11 rfl (by decide)) ?_
        refine V_newN (N := 8) (1000 + vn A) E (by decide) cl_X10_9 dX10_vessel_28 f1 rfl (by omega) (by omega) ?_
        refine V_dup E dX10_vessel_31 rfl ?_
        refine V_iload_n E dX10_vessel_32 rfl ?_
        refine V_callI E (cy_Vessel_init (x_l X) d (sN S (1000 + vn A) 8 0) (vn A) g15 (va_up_self _ _ _) ((show va_up (kd S) (1000 + vn A) 8 (2000 + vn A) = 0 from (va_up_ne _ _ (by omega)).trans f2)) x) ml_X10_56 mi_X7_init dX10_vessel_33 rfl (by simp [Value.category]) (by omega) (by omega) (by omega) (fun r S2 hp => ?_)
        obtain ⟨rfl, rfl⟩ := hp
        have k1 : ∀ g, g ≠ 1000 + vn A → g ≠ 2000 + vn A → kd (yInit (sN S (1000 + vn A) 8 0) (vn A) x) g = kd S g ∧ ln (yInit (sN S (1000 + vn A) 8 0) (vn A) x) g = ln S g := fun g q1 q2 => ⟨(show va_up (va_up (kd S) (1000 + vn A) 8) (2000 + vn A) 21 g = kd S g from by rw [va_up_ne _ _ q2, va_up_ne _ _ q1]), (show va_up (va_up (ln S) (1000 + vn A) 0) (2000 + vn A) 60 g = ln S g from by rw [va_up_ne _ _ q2, va_up_ne _ _ q1])⟩
        refine V_aas (j := (vn A)) E dX10_vessel_36 ((k1 201 (by omega) (by omega)).1.trans (hQ.k 201 25 rfl (by decide))) (by decide) (show va_up (va_up (kd S) (1000 + vn A) 8) (2000 + vn A) 21 (1000 + vn A) = 7 + 1 from by rw [va_up_ne _ _ (by omega), va_up_self]) hY.n ((k1 201 (by omega) (by omega)).2.trans (hQ.l 201 100 rfl (by decide))) (by omega) (by decide) ?_
        refine V_aload_n E dX10_vessel_37 rfl ?_
        refine V_dup E dX10_vessel_38 rfl ?_
        refine V_getI E fl_X10_52 dX10_vessel_39 rfl ((k1 200 (by omega) (by omega)).1.trans (hQ.k 200 11 rfl (by decide))) ?_
        refine V_cvi (y := nI (vn A)) (by show va_up (up2 (va_up (fI S) (1000 + vn A) (fun _ => 0)) (1000 + vn A) 0 x) (2000 + vn A) (fun _ => 0) 200 1 = nI (vn A); rw [va_up_ne _ _ (by omega), up2_ne (by omega), va_up_ne _ _ (by omega)]; exact hY.n) ?_
        refine V_dup_x1 E dX10_vessel_42 rfl rfl ?_
        refine V_iconst (v := 1) E dX10_vessel_43 (by decide) ?_
        refine V_iadd E dX10_vessel_44 ?_
        refine V_cvi (y := nI ((vn A + 1))) (ni_add (a := vn A) (b := 1) (@rfl _ (nI (vn A))) (rfl : (1 : Int32) = nI 1)) ?_
        refine V_putI E fl_X10_52 dX10_vessel_45 rfl ((k1 200 (by omega) (by omega)).1.trans (hQ.k 200 11 rfl (by decide))) ⟨rfl, rfl⟩ rfl ?_
        exact V_iret E R dX10_vessel_48 rfl (by omega) (by omega) (Or.inl ⟨⟨⟨g1, g6⟩, g15⟩, rfl, rfl⟩)
      · have g1 : ¬ pVessel A x := fun q => h15 (by rw [hY.n]; exact nI_lt (a := vn A) (b := 100) q.2 (by omega))
        refine V_iconst (v := -1) E dX10_vessel_18 (by decide) ?_
        exact V_iret E R dX10_vessel_19 rfl (by omega) (by omega) (Or.inr ⟨g1, rfl, rfl⟩)
