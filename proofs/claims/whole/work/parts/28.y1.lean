theorem cy_isWithin (l : Launch) (d : Nat) (S : GS) (v a b : Int32) : GC l (d) yX10_isWithin cX10_isWithin 3 (some FieldType.boolean) [.int v, .int a, .int b] S (fun r S2 => r = some (.int (bi (a ≤ v ∧ v ≤ b))) ∧ S2 = S) (0) (0) := by
  refine GC.ofV (by decide) (Nat.le_of_ble_eq_true rfl) (fun X hl E R hnm => ?_)
  subst hl
  have E : En X RX10 cX10_isWithin 3 (d) (0) (0) := E
  have R : Rt X (some FieldType.boolean) (fun r S2 => r = some (.int (bi (a ≤ v ∧ v ≤ b))) ∧ S2 = S) := R
  refine V_iload_n E dX10_isWithin_0 rfl ?_
  refine V_iload_n E dX10_isWithin_1 rfl ?_
  refine V_icmp_lt (tgt := 14) E dX10_isWithin_2 (by decide) (fun h_2 => ?_) (fun h_2 => ?_)
  · refine V_iconst (v := 0) E dX10_isWithin_14 (by decide) ?_
    exact V_iret E R dX10_isWithin_15 rfl (Nat.le_refl _) (Nat.le_refl _) ⟨by rw [bi_f (by simp only [fa_lt, fa_le] at *; omega)], rfl⟩
  · refine V_iload_n E dX10_isWithin_5 rfl ?_
    refine V_iload_n E dX10_isWithin_6 rfl ?_
    refine V_icmp_gt (tgt := 14) E dX10_isWithin_7 (by decide) (fun h_7 => ?_) (fun h_7 => ?_)
    · refine V_iconst (v := 0) E dX10_isWithin_14 (by decide) ?_
      exact V_iret E R dX10_isWithin_15 rfl (Nat.le_refl _) (Nat.le_refl _) ⟨by rw [bi_f (by simp only [fa_lt, fa_le] at *; omega)], rfl⟩
    · refine V_iconst (v := 1) E dX10_isWithin_10 (by decide) ?_
      refine V_goto (tgt := 15) E dX10_isWithin_11 (by decide) ?_
      exact V_iret E R dX10_isWithin_15 rfl (Nat.le_refl _) (Nat.le_refl _) ⟨by rw [bi_t (by simp only [fa_lt, fa_le] at *; omega)], rfl⟩

theorem cy_vesselAt (l : Launch) (d : Nat) (S : GS) (A : AV) (t : Nat) (hO : VOK A t) (hQ : YOK S) (hY : YVes S A) (x : Int32) : GC l (d) yX10_vesselAt cX10_vesselAt 2 (some (FieldType.object "CocoaYard$Vessel")) [.ref 200, .int x] S (fun r S2 => (wi_ x 0 ((vn A : Int) - 1) ∧ r = some (.ref (1000 + tn x)) ∧ S2 = S) ∨ (¬ wi_ x 0 ((vn A : Int) - 1) ∧ r = some .null ∧ S2 = S)) (0) (0) := by
  refine GC.ofV (by decide) (Nat.le_of_ble_eq_true rfl) (fun X hl E R hnm => ?_)
  subst hl
  have E : En X RX10 cX10_vesselAt 2 (d) (0) (0) := E
  have R : Rt X (some (FieldType.object "CocoaYard$Vessel")) (fun r S2 => (wi_ x 0 ((vn A : Int) - 1) ∧ r = some (.ref (1000 + tn x)) ∧ S2 = S) ∨ (¬ wi_ x 0 ((vn A : Int) - 1) ∧ r = some .null ∧ S2 = S)) := R
  have hn := hO.1
  refine V_iload_n E dX10_vesselAt_0 rfl ?_
  refine V_if_lt (tgt := 21) E dX10_vesselAt_1 (by decide) (fun h1 => ?_) (fun h1 => ?_)
  · have g1 : ¬ wi_ x 0 ((vn A : Int) - 1) := fun q => by have := q.1; rw [fa_lt] at h1; have : ((0 : Int32)).toInt = 0 := rfl; omega
    refine V_null E dX10_vesselAt_21 ?_
    exact V_aret (r := none) E R (by first | exact Or.inl ⟨_, rfl⟩ | exact Or.inr ⟨_, rfl⟩) dX10_vesselAt_22 (Nat.le_refl _) (Nat.le_refl _) (Or.inr ⟨g1, rfl, rfl⟩)
  · have g1 : 0 ≤ x.toInt := by rw [fa_lt] at h1; have : ((0 : Int32)).toInt = 0 := rfl; omega
    refine V_iload_n E dX10_vesselAt_4 rfl ?_
    refine V_aload_n E dX10_vesselAt_5 rfl ?_
    refine V_getI E fl_X10_52 dX10_vesselAt_6 rfl (hQ.k 200 11 rfl (by decide)) ?_
    refine V_icmp_ge (tgt := 21) E dX10_vesselAt_9 (by decide) (fun h9 => ?_) (fun h9 => ?_)
    · have g1 : ¬ wi_ x 0 ((vn A : Int) - 1) := fun q => by have := q.2; rw [fa_le, hY.n, nI_toInt (by omega)] at h9; omega
      refine V_null E dX10_vesselAt_21 ?_
      exact V_aret (r := none) E R (by first | exact Or.inl ⟨_, rfl⟩ | exact Or.inr ⟨_, rfl⟩) dX10_vesselAt_22 (Nat.le_refl _) (Nat.le_refl _) (Or.inr ⟨g1, rfl, rfl⟩)
    · have g9 : wi_ x 0 ((vn A : Int) - 1) := ⟨g1, by rw [fa_le, hY.n, nI_toInt (by omega)] at h9; omega⟩
      obtain ⟨v, rfl, tv, lv, uv, -⟩ := wi_nat g9 (by omega)
      refine V_aload_n E dX10_vesselAt_12 rfl ?_
      refine V_getR E fl_X10_11 dX10_vesselAt_13 rfl (hQ.k 200 11 rfl (by decide)) (hQ.r 200 0 201 rfl) ?_
      refine V_iload_n E dX10_vesselAt_16 rfl ?_
      refine V_aa (j := v) E dX10_vesselAt_17 (hQ.k 201 25 rfl (by decide)) (by decide) (@rfl _ (nI (v))) (hQ.l 201 100 rfl (by decide)) (by omega) (by decide) (hY.el v (by omega)) ?_
      refine V_goto (tgt := 22) E dX10_vesselAt_18 (by decide) ?_
      exact V_aret (r := (some (1000 + v))) E R (by first | exact Or.inl ⟨_, rfl⟩ | exact Or.inr ⟨_, rfl⟩) dX10_vesselAt_22 (Nat.le_refl _) (Nat.le_refl _) (Or.inl ⟨g9, by rw [tv]; rfl, rfl⟩)

theorem cy_vesselOf (l : Launch) (d : Nat) (S : GS) (A : AV) (t : Nat) (hO : VOK A t) (hQ : YOK S) (hY : YVes S A) (c : Nat) (hc : c < 4) (x : Int32) : GC l (d + 1) yX10_vesselOf cX10_vesselOf 4 (some (FieldType.object "CocoaYard$Vessel")) [.ref 200, .int (nI c), .int x] S (fun r S2 => ((wi_ x 0 ((vn A : Int) - 1) ∧ vK A (tn x) = c) ∧ r = some (.ref (1000 + tn x)) ∧ S2 = S) ∨ (¬ (wi_ x 0 ((vn A : Int) - 1) ∧ vK A (tn x) = c) ∧ r = some .null ∧ S2 = S)) (0) (0) := by
  refine GC.ofV (by decide) (Nat.le_of_ble_eq_true rfl) (fun X hl E R hnm => ?_)
  subst hl
  have E : En X RX10 cX10_vesselOf 4 (d + 1) (0) (0) := E
  have R : Rt X (some (FieldType.object "CocoaYard$Vessel")) (fun r S2 => ((wi_ x 0 ((vn A : Int) - 1) ∧ vK A (tn x) = c) ∧ r = some (.ref (1000 + tn x)) ∧ S2 = S) ∨ (¬ (wi_ x 0 ((vn A : Int) - 1) ∧ vK A (tn x) = c) ∧ r = some .null ∧ S2 = S)) := R
  have hn := hO.1
  refine V_aload_n E dX10_vesselOf_0 rfl ?_
  refine V_iload_n E dX10_vesselOf_1 rfl ?_
  refine V_callV E (cy_vesselAt (x_l X) d S A t hO hQ hY x) ml_X10_79 mv_X10_vesselAt (hQ.k 200 11 rfl (by decide)) dX10_vesselOf_2 rfl (by simp [Value.category]) (by omega) (by omega) (by omega) (fun r S2 hp => ?_)
  rcases hp with ⟨hx, rfl, hS2⟩ | ⟨hx, rfl, hS2⟩
  · obtain rfl := hS2.symm
    obtain ⟨v, rfl, tv, lv, uv, -⟩ := wi_nat hx (by omega)
    rw [tv]
    have h3 := hO.2.2.1 v (by omega)
    refine V_astore_n E dX10_vesselOf_5 (by decide) rfl ?_
    refine V_aload_n E dX10_vesselOf_6 rfl ?_
    refine V_ifnull E dX10_vesselOf_7 ?_
    refine V_aload_n E dX10_vesselOf_10 rfl ?_
    refine V_getIN E fn_X10_217 dX10_vesselOf_11 rfl (hY.ok v (by omega)) ?_
    refine V_iload_n E dX10_vesselOf_14 rfl ?_
    refine V_icmp_ne (tgt := 22) E dX10_vesselOf_15 (by decide) (fun h15 => ?_) (fun h15 => ?_)
    · have g15 : vK A v ≠ c := fun e => h15 (by rw [hY.K v (by omega), e])
      refine V_null E dX10_vesselOf_22 ?_
      exact V_aret (r := none) E R (by first | exact Or.inl ⟨_, rfl⟩ | exact Or.inr ⟨_, rfl⟩) dX10_vesselOf_23 (Nat.le_refl _) (Nat.le_refl _) (Or.inr ⟨fun q => g15 (by have := q.2; rw [tv] at this; exact this), rfl, rfl⟩)
    · have g15 : vK A v = c := (nI_eq (by omega) (by omega)).mp (by rw [← hY.K v (by omega)]; exact h15)
      refine V_aload_n E dX10_vesselOf_18 rfl ?_
      refine V_goto (tgt := 23) E dX10_vesselOf_19 (by decide) ?_
      exact V_aret (r := (some (1000 + v))) E R (by first | exact Or.inl ⟨_, rfl⟩ | exact Or.inr ⟨_, rfl⟩) dX10_vesselOf_23 (Nat.le_refl _) (Nat.le_refl _) (Or.inl ⟨⟨hx, by rw [tv]; exact g15⟩, by rw [tv]; rfl, rfl⟩)
  · obtain rfl := hS2.symm
    refine V_astore_nN E dX10_vesselOf_5 (by decide) rfl ?_
    refine V_aload_nN E dX10_vesselOf_6 rfl ?_
    refine V_ifnullN (tgt := 22) E dX10_vesselOf_7 (by decide) ?_
    refine V_null E dX10_vesselOf_22 ?_
    exact V_aret (r := none) E R (by first | exact Or.inl ⟨_, rfl⟩ | exact Or.inr ⟨_, rfl⟩) dX10_vesselOf_23 (Nat.le_refl _) (Nat.le_refl _) (Or.inr ⟨fun q => hx q.1, rfl, rfl⟩)

theorem cy_weight (l : Launch) (d : Nat) (S : GS) (A : AV) (t : Nat) (hO : VOK A t) (hQ : YOK S) (hY : YVes S A) (v : Nat) (hv : v < vn A) : GC l (d) yX7_weight cX7_weight 1 (some FieldType.int) [.ref (1000 + v)] S (fun r S2 => r = some (.int (nI (vwt A v))) ∧ S2 = S) (0) (0) := by
  refine GC.ofV (by decide) (Nat.le_of_ble_eq_true rfl) (fun X hl E R hnm => ?_)
  subst hl
  have E : En X RX7 cX7_weight 1 (d) (0) (0) := E
  have R : Rt X (some FieldType.int) (fun r S2 => r = some (.int (nI (vwt A v))) ∧ S2 = S) := R
  have h1 := hO.1
  have h2 := hO.2.1
  have h3 := hO.2.2.1 v hv
  have ewv : vwt A v = vdry A v + vW A v := rfl
  refine V_aload_n E dX7_weight_0 rfl ?_
  refine V_getI E fl_X7_19 dX7_weight_1 rfl (hY.ok v (by omega)) ?_
  refine V_aload_n E dX7_weight_4 rfl ?_
  refine V_getI E fl_X7_22 dX7_weight_5 rfl (hY.ok v (by omega)) ?_
  refine V_iadd E dX7_weight_8 ?_
  exact V_iret E R dX7_weight_9 rfl (Nat.le_refl _) (Nat.le_refl _) ⟨by rw [(ni_add (a := (vdry A v)) (b := (vW A v)) (hY.Y v (by omega)) (hY.W v (by omega)))]; rfl, rfl⟩

theorem cy_wetness (l : Launch) (d : Nat) (S : GS) (A : AV) (t : Nat) (hO : VOK A t) (hQ : YOK S) (hY : YVes S A) (v : Nat) (hv : v < vn A) : GC l (d + 1) yX7_wetness cX7_wetness 2 (some FieldType.int) [.ref (1000 + v)] S (fun r S2 => r = some (.int (nI (vwet A v))) ∧ S2 = S) (0) (0) := by
  refine GC.ofV (by decide) (Nat.le_of_ble_eq_true rfl) (fun X hl E R hnm => ?_)
  subst hl
  have E : En X RX7 cX7_wetness 2 (d + 1) (0) (0) := E
  have R : Rt X (some FieldType.int) (fun r S2 => r = some (.int (nI (vwet A v))) ∧ S2 = S) := R
  have h1 := hO.1
  have h2 := hO.2.1
  have h3 := hO.2.2.1 v hv
  have ewv : vwt A v = vdry A v + vW A v := rfl
  refine V_aload_n E dX7_wetness_0 rfl ?_
  refine V_callV E (cy_weight (x_l X) d S A t hO hQ hY v hv) ml_X7_25 mv_X7_weight (hY.ok v (by omega)) dX7_wetness_1 rfl (by simp [Value.category]) (by omega) (by omega) (by omega) (fun r S2 hp => ?_)
  obtain ⟨rfl, hS2⟩ := hp
  obtain rfl := hS2.symm
  refine V_istore_n E dX7_wetness_4 (by decide) rfl ?_
  refine V_iload_n E dX7_wetness_5 rfl ?_
  refine V_if_gt (tgt := 13) E dX7_wetness_6 (by decide) (fun h6 => ?_) (fun h6 => ?_)
  · have g6 : vwt A v ≠ 0 := fun e => by rw [e] at h6; exact absurd h6 (by decide)
    refine V_ldc2 E dX7_wetness_13 kl_X7_29 ?_
    refine V_aload_n E dX7_wetness_16 rfl ?_
    refine V_getI E fl_X7_22 dX7_wetness_17 rfl (hY.ok v (by omega)) ?_
    refine V_i2l E dX7_wetness_20 rfl ?_
    refine V_lmul E dX7_wetness_21 ?_
    refine V_iload_n E dX7_wetness_22 rfl ?_
    refine V_i2l E dX7_wetness_23 rfl ?_
    refine V_ldiv E dX7_wetness_24 (ll_ne (b := vwt A v) (li_of rfl (by omega)) (by omega) (by omega)) ?_
    refine V_l2i E dX7_wetness_25 rfl ?_
    exact V_iret E R dX7_wetness_26 rfl (Nat.le_refl _) (Nat.le_refl _) ⟨by rw [(il_of (ll_div (a := (1000 * (vW A v))) (b := vwt A v) (ll_mul (a := 1000) (b := (vW A v)) (rfl : (1000 : Int64) = lN 1000) (li_of (hY.W v (by omega)) (by omega))) (li_of (@rfl _ (nI (vwt A v))) (by omega)) (by omega) (by omega) (by omega))), vwet, if_neg g6], rfl⟩
  · have g6 : vwt A v = 0 := by rcases Nat.eq_zero_or_pos (vwt A v) with e | e; exact e; exact absurd (nI_lt (a := 0) e (by omega)) h6
    refine V_iconst (v := 0) E dX7_wetness_9 (by decide) ?_
    refine V_goto (tgt := 26) E dX7_wetness_10 (by decide) ?_
    exact V_iret E R dX7_wetness_26 rfl (Nat.le_refl _) (Nat.le_refl _) ⟨by rw [vwet, if_pos g6]; rfl, rfl⟩
