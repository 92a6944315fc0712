theorem cm_dryOfA (l : Launch) (d : Nat) (S : GS) (A : AV) (hM : MOK S) (hV : MVes S A) (v : Nat) (hv : v < 100) : GC l d yX11_dryOf cX11_dryOf 4 (some .int) [.ref 0, .int (nI v)] S (fun r S2 => r = some (.int (nI (vdry A v))) ∧ S2 = S) 0 0 := by
  have h := cm_dryOf l d S hM v hv
  rw [hV.sum v hv] at h
  exact h

theorem cm_weight (l : Launch) (d : Nat) (S : GS) (A : AV) (t : Nat) (hO : VOK A t) (hM : MOK S) (hV : MVes S A) (v : Nat) (hv : v < 100) : GC l (d + 1) yX11_weight cX11_weight 2 (some FieldType.int) [.ref 0, .int (nI v)] S (fun r S2 => r = some (.int (nI (vwt A v))) ∧ S2 = S) (0) (0) := by
  refine GC.ofV (by decide) (Nat.le_of_ble_eq_true rfl) (fun X hl E R hnm => ?_)
  subst hl
  have E : En X RX11 cX11_weight 2 (d + 1) (0) (0) := E
  have R : Rt X (some FieldType.int) (fun r S2 => r = some (.int (nI (vwt A v))) ∧ S2 = S) := R
  refine V_aload_n E dX11_weight_0 rfl ?_
  refine V_iload_n E dX11_weight_1 rfl ?_
  refine V_callV E (cm_dryOfA (x_l X) 0 S A hM hV (v) (by omega)) ml_X11_119 mv_X11_dryOf hM.o dX11_weight_2 rfl (by simp [Value.category]) (by omega) (by omega) (by omega) (fun r S2 hp => ?_)
  obtain ⟨rfl, hS2⟩ := hp
  obtain rfl := hS2.symm
  refine V_aload_n E dX11_weight_5 rfl ?_
  refine V_getR E fl_X11_16 dX11_weight_6 rfl hM.o (hM.r 8 (by decide)) ?_
  refine V_iload_n E dX11_weight_9 rfl ?_
  refine V_ia (j := v) E dX11_weight_10 (hM.k 8 21 rfl (by decide)) (@rfl _ (nI (v))) (hM.l 8 100 rfl (by decide)) (by omega) (by decide) ?_
  refine V_iadd E dX11_weight_11 ?_
  exact V_iret E R dX11_weight_12 rfl (Nat.le_refl _) (Nat.le_refl _) ⟨by rw [(ni_add (a := vdry A (v)) (b := (vW A (v))) (@rfl _ (nI (vdry A (v)))) (hV.W (v) (by omega)))]; rfl, rfl⟩

theorem cm_wetness (l : Launch) (d : Nat) (S : GS) (A : AV) (t : Nat) (hO : VOK A t) (hM : MOK S) (hV : MVes S A) (v : Nat) (hv : v < vn A) : GC l (d + 2) yX11_wetness cX11_wetness 3 (some FieldType.int) [.ref 0, .int (nI v)] S (fun r S2 => r = some (.int (nI (vwet A v))) ∧ S2 = S) (0) (0) := by
  refine GC.ofV (by decide) (Nat.le_of_ble_eq_true rfl) (fun X hl E R hnm => ?_)
  subst hl
  have E : En X RX11 cX11_wetness 3 (d + 2) (0) (0) := E
  have R : Rt X (some FieldType.int) (fun r S2 => r = some (.int (nI (vwet A v))) ∧ S2 = S) := R
  have hb : vwt A v < 100000000 ∧ vW A v ≤ vwt A v ∧ v < 100 := by
    have h1 := hO.1
    have h2 := hO.2.1
    have h3 := hO.2.2.1 v hv
    unfold vwt
    omega
  refine V_aload_n E dX11_wetness_0 rfl ?_
  refine V_iload_n E dX11_wetness_1 rfl ?_
  refine V_callV E (cm_weight (x_l X) d S A t hO hM hV v (by omega)) ml_X11_123 mv_X11_weight hM.o dX11_wetness_2 rfl (by simp [Value.category]) (by omega) (by omega) (by omega) (fun r S2 hp => ?_)
  obtain ⟨rfl, hS2⟩ := hp
  obtain rfl := hS2.symm
  refine V_istore_n E dX11_wetness_5 (by decide) rfl ?_
  refine V_iload_n E dX11_wetness_6 rfl ?_
  refine V_if_ne (tgt := 14) E dX11_wetness_7 (by decide) (fun h0 => ?_) (fun h0 => ?_)
  · have h1 : vwt A v ≠ 0 := fun e => h0 (by rw [e]; rfl)
    refine V_ldc2 E dX11_wetness_14 kl_X11_126 ?_
    refine V_aload_n E dX11_wetness_17 rfl ?_
    refine V_getR E fl_X11_16 dX11_wetness_18 rfl hM.o (hM.r 8 (by decide)) ?_
    refine V_iload_n E dX11_wetness_21 rfl ?_
    refine V_ia (j := v) E dX11_wetness_22 (hM.k 8 21 rfl (by decide)) (@rfl _ (nI (v))) (hM.l 8 100 rfl (by decide)) (by omega) (by decide) ?_
    refine V_i2l E dX11_wetness_23 rfl ?_
    refine V_lmul E dX11_wetness_24 ?_
    refine V_iload_n E dX11_wetness_25 rfl ?_
    refine V_i2l E dX11_wetness_26 rfl ?_
    refine V_ldiv E dX11_wetness_27 (ll_ne (b := vwt A v) (li_of rfl (by omega)) (by omega) (by omega)) ?_
    refine V_l2i E dX11_wetness_28 rfl ?_
    exact V_iret E R dX11_wetness_29 rfl (Nat.le_refl _) (Nat.le_refl _) ⟨by rw [(il_of (ll_div (a := (1000 * (vW A (v)))) (b := vwt A v) (ll_mul (a := 1000) (b := (vW A (v))) (rfl : (1000 : Int64) = lN 1000) (li_of (hV.W (v) (by omega)) (by omega))) (li_of (@rfl _ (nI (vwt A v))) (by omega)) (by omega) (by omega) (by omega))), vwet, if_neg h1], rfl⟩
  · have h1 : vwt A v = 0 := by have := (nI_eq (a := vwt A v) (b := 0) (by omega) (by omega)).mp h0; omega
    refine V_iconst (v := 0) E dX11_wetness_10 (by decide) ?_
    refine V_goto (tgt := 29) E dX11_wetness_11 (by decide) ?_
    exact V_iret E R dX11_wetness_29 rfl (Nat.le_refl _) (Nat.le_refl _) ⟨by rw [vwet, if_pos h1]; rfl, rfl⟩

theorem cm_is (l : Launch) (d : Nat) (S : GS) (A : AV) (t : Nat) (hO : VOK A t) (hM : MOK S) (hV : MVes S A) (x : Int32) (kk : Nat) (hkk : kk < 4) : GC l (d + 1) yX11_is cX11_is 3 (some FieldType.boolean) [.ref 0, .int x, .int (nI kk)] S (fun r S2 => r = some (.int (bi (wi_ x 0 ((vn A : Int) - 1) ∧ vK A (tn x) = kk))) ∧ S2 = S) (0) (0) := by
  refine GC.ofV (by decide) (Nat.le_of_ble_eq_true rfl) (fun X hl E R hnm => ?_)
  subst hl
  have E : En X RX11 cX11_is 3 (d + 1) (0) (0) := E
  have R : Rt X (some FieldType.boolean) (fun r S2 => r = some (.int (bi (wi_ x 0 ((vn A : Int) - 1) ∧ vK A (tn x) = kk))) ∧ S2 = S) := R
  have hn := hO.1
  have hw : (0 ≤ x ∧ x ≤ fI S 0 1 - 1) ↔ wi_ x 0 ((vn A : Int) - 1) := wi_iff rfl (by rw [hV.n]; exact nI_m1 (by omega))
  refine V_iload_n E dX11_is_0 rfl ?_
  refine V_iconst (v := 0) E dX11_is_1 (by decide) ?_
  refine V_aload_n E dX11_is_2 rfl ?_
  refine V_getI E fl_X11_111 dX11_is_3 rfl hM.o ?_
  refine V_iconst (v := 1) E dX11_is_6 (by decide) ?_
  refine V_isub E dX11_is_7 ?_
  refine V_callS E (cm_in (x_l X) 0 S _ _ _) ml_X11_115 ms_X11_in dX11_is_8 rfl (by simp [Value.category]) (by omega) (by omega) (by omega) (fun r S2 hp => ?_)
  obtain ⟨rfl, hS2⟩ := hp
  obtain rfl := hS2.symm
  refine V_ifeq_b (tgt := 28) E dX11_is_11 (by decide) (fun hc11 => ?_) (fun hc11 => ?_)
  · refine V_iconst (v := 0) E dX11_is_28 (by decide) ?_
    exact V_iret E R dX11_is_29 rfl (Nat.le_refl _) (Nat.le_refl _) ⟨by rw [bi_f (fun q => hc11 (hw.mpr q.1))], rfl⟩
  · obtain ⟨v, rfl, htn, h1, h2, -⟩ := wi_nat (hw.mp hc11) (by omega)
    have hv3 : vn A ≤ 100 := hn
    have h3 := hO.2.2.1 v (by omega)
    refine V_aload_n E dX11_is_14 rfl ?_
    refine V_getR E fl_X11_9 dX11_is_15 rfl hM.o (hM.r 6 (by decide)) ?_
    refine V_iload_n E dX11_is_18 rfl ?_
    refine V_ia (j := v) E dX11_is_19 (hM.k 6 21 rfl (by decide)) (@rfl _ (nI (v))) (hM.l 6 100 rfl (by decide)) (by omega) (by decide) ?_
    refine V_iload_n E dX11_is_20 rfl ?_
    refine V_icmp_ne (tgt := 28) E dX11_is_21 (by decide) (fun h9 => ?_) (fun h9 => ?_)
    · rw [hV.K v (by omega)] at h9
      refine V_iconst (v := 0) E dX11_is_28 (by decide) ?_
      exact V_iret E R dX11_is_29 rfl (Nat.le_refl _) (Nat.le_refl _) ⟨by rw [bi_f (fun q => h9 (by rw [← q.2, htn]))], rfl⟩
    · rw [hV.K v (by omega), nI_eq (by omega) (by omega)] at h9
      refine V_iconst (v := 1) E dX11_is_24 (by decide) ?_
      refine V_goto (tgt := 29) E dX11_is_25 (by decide) ?_
      exact V_iret E R dX11_is_29 rfl (Nat.le_refl _) (Nat.le_refl _) ⟨by rw [bi_t ⟨hw.mp hc11, by rw [htn]; exact h9⟩], rfl⟩
