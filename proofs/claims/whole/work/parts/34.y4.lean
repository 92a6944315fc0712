theorem cy_ripen (l : Launch) (d : Nat) (S : GS) (A : AV) (t : Nat) (hO : VOK A t) (hQ : YOK S) (hY : YVes S A) (v : Nat) (hv : v < vn A) (m : Nat) (hm : m ≤ 12) : GC l (d + 1) yX7_ripen cX7_ripen 2 none [.ref (1000 + v), .int (nI m)] S (fun r S2 => r = none ∧ ((vwt A v = 0 ∧ S2 = S) ∨ (vwt A v ≠ 0 ∧ S2 = sI S (1000 + v) 4 (nI (min 100 (vT A v + m)))))) (0) (0) := by
  refine GC.ofV (by decide) (Nat.le_of_ble_eq_true rfl) (fun X hl E R hnm => ?_)
  subst hl
  have E : En X RX7 cX7_ripen 2 (d + 1) (0) (0) := E
  have R : Rt X none (fun r S2 => r = none ∧ ((vwt A v = 0 ∧ S2 = S) ∨ (vwt A v ≠ 0 ∧ S2 = sI S (1000 + v) 4 (nI (min 100 (vT A v + m)))))) := R
  have h1 := hO.1
  have h2 := hO.2.1
  have h3 := hO.2.2.1 v hv
  have ewv : vwt A v = vdry A v + vW A v := rfl
  refine V_aload_n E dX7_ripen_0 rfl ?_
  refine V_callV E (cy_weight (x_l X) d S A t hO hQ hY v hv) ml_X7_25 mv_X7_weight (hY.ok v hv) dX7_ripen_1 rfl (by simp [Value.category]) (by omega) (by omega) (by omega) (fun r S2 hp => ?_)
  obtain ⟨rfl, hS2⟩ := hp
  obtain rfl := hS2.symm
  refine V_if_le (tgt := 22) E dX7_ripen_4 (by decide) (fun h4 => ?_) (fun h4 => ?_)
  · have g4 : vwt A v = 0 := by have := (nI_leI (a := vwt A v) (b := 0) (by omega) (by omega)).mp h4; omega
    exact V_vret E R dX7_ripen_22 (Nat.le_refl _) (Nat.le_refl _) ⟨rfl, Or.inl ⟨g4, rfl⟩⟩
  · have g4 : vwt A v ≠ 0 := fun e => h4 (by rw [e]; decide)
    refine V_aload_n E dX7_ripen_7 rfl ?_
    refine V_bipush (v := 100) E dX7_ripen_8 (by decide) ?_
    refine V_aload_n E dX7_ripen_10 rfl ?_
    refine V_getI E fl_X7_37 dX7_ripen_11 rfl (hY.ok v hv) ?_
    refine V_iload_n E dX7_ripen_14 rfl ?_
    refine V_iadd E dX7_ripen_15 ?_
    refine V_imin E ml_X7_68 dX7_ripen_16 (by simp [Value.category]) (by omega) (Nat.le_refl _) (Nat.le_refl _) ?_
    refine V_cvi (y := nI ((min (100) (((vT A v) + m))))) (imin_n (a := 100) (b := ((vT A v) + m)) (rfl : (100 : Int32) = nI 100) (ni_add (a := (vT A v)) (b := m) (hY.T v hv) (@rfl _ (nI (m)))) (by omega) (by omega)) ?_
    refine V_putI E fl_X7_37 dX7_ripen_19 rfl (hY.ok v hv) ⟨rfl, rfl⟩ rfl ?_
    exact V_vret E R dX7_ripen_22 (Nat.le_refl _) (Nat.le_refl _) ⟨rfl, Or.inr ⟨g4, rfl⟩⟩

theorem cy_dryOrWet (l : Launch) (d : Nat) (S : GS) (A : AV) (t : Nat) (hO : VOK A t) (hQ : YOK S) (hY : YVes S A) (v : Nat) (hv : v < vn A) (su ra : Nat) (hsu : su ≤ 12) (hra : ra ≤ 1) : GC l (d + 1) yX7_dryOrWet cX7_dryOrWet 3 none [.ref (1000 + v), .int (nI su), .int (nI ra)] S (fun r S2 => r = none ∧ S2 = sI S (1000 + v) 3 (nI (if ra = 0 then vW A v - su * vdry A v / 40 else vW A v + vdry A v / 10))) (0) (0) := by
  refine GC.ofV (by decide) (Nat.le_of_ble_eq_true rfl) (fun X hl E R hnm => ?_)
  subst hl
  have E : En X RX7 cX7_dryOrWet 3 (d + 1) (0) (0) := E
  have R : Rt X none (fun r S2 => r = none ∧ S2 = sI S (1000 + v) 3 (nI (if ra = 0 then vW A v - su * vdry A v / 40 else vW A v + vdry A v / 10))) := R
  have h1 := hO.1
  have h2 := hO.2.1
  have h3 := hO.2.2.1 v hv
  have ewv : vwt A v = vdry A v + vW A v := rfl
  have hsd : su * vdry A v ≤ 12000000 := Nat.mul_le_mul hsu h3.2.2.2.2.2.1
  refine V_iload_n E dX7_dryOrWet_0 rfl ?_
  refine V_if_eq (tgt := 23) E dX7_dryOrWet_1 (by decide) (fun h9 => ?_) (fun h9 => ?_)
  · have g1 : ra = 0 := (nI_eq (a := ra) (b := 0) (by omega) (by omega)).mp h9
    refine V_aload_n E dX7_dryOrWet_23 rfl ?_
    refine V_iconst (v := 0) E dX7_dryOrWet_24 (by decide) ?_
    refine V_aload_n E dX7_dryOrWet_25 rfl ?_
    refine V_getI E fl_X7_22 dX7_dryOrWet_26 rfl (hY.ok v hv) ?_
    refine V_iload_n E dX7_dryOrWet_29 rfl ?_
    refine V_aload_n E dX7_dryOrWet_30 rfl ?_
    refine V_getI E fl_X7_19 dX7_dryOrWet_31 rfl (hY.ok v hv) ?_
    refine V_imul E dX7_dryOrWet_34 ?_
    refine V_bipush (v := 40) E dX7_dryOrWet_35 (by decide) ?_
    refine V_idiv E dX7_dryOrWet_37 (by decide) ?_
    refine V_isub E dX7_dryOrWet_38 ?_
    refine V_imax E ml_X7_62 dX7_dryOrWet_39 (by simp [Value.category]) (by omega) (Nat.le_refl _) (Nat.le_refl _) ?_
    refine V_cvi (y := nI (vW A v - su * vdry A v / 40)) (imax_sub (a := vW A v) (b := su * vdry A v / 40) (hY.W v hv) (ii_div (a := su * vdry A v) (b := 40) (ni_mul (a := su) (b := vdry A v) rfl (hY.Y v hv)) rfl (by omega) (by omega) (by omega)) (by omega) (by omega)) ?_
    refine V_putI E fl_X7_22 dX7_dryOrWet_42 rfl (hY.ok v hv) ⟨rfl, rfl⟩ rfl ?_
    exact V_vret E R dX7_dryOrWet_45 (Nat.le_refl _) (Nat.le_refl _) ⟨rfl, by rw [if_pos g1]⟩
  · have g1 : ra ≠ 0 := fun e => h9 (by rw [e]; rfl)
    refine V_aload_n E dX7_dryOrWet_4 rfl ?_
    refine V_dup E dX7_dryOrWet_5 rfl ?_
    refine V_getI E fl_X7_22 dX7_dryOrWet_6 rfl (hY.ok v hv) ?_
    refine V_aload_n E dX7_dryOrWet_9 rfl ?_
    refine V_getI E fl_X7_19 dX7_dryOrWet_10 rfl (hY.ok v hv) ?_
    refine V_bipush (v := 10) E dX7_dryOrWet_13 (by decide) ?_
    refine V_idiv E dX7_dryOrWet_15 (by decide) ?_
    refine V_iadd E dX7_dryOrWet_16 ?_
    refine V_cvi (y := nI (((vW A v) + ((vdry A v) / 10)))) (ni_add (a := (vW A v)) (b := ((vdry A v) / 10)) (hY.W v hv) (ii_div (a := (vdry A v)) (b := 10) (hY.Y v hv) (rfl : (10 : Int32) = nI 10) (by omega) (by omega) (by omega))) ?_
    refine V_putI E fl_X7_22 dX7_dryOrWet_17 rfl (hY.ok v hv) ⟨rfl, rfl⟩ rfl ?_
    refine V_goto (tgt := 45) E dX7_dryOrWet_20 (by decide) ?_
    exact V_vret E R dX7_dryOrWet_45 (Nat.le_refl _) (Nat.le_refl _) ⟨rfl, by rw [if_neg g1]⟩

theorem cy_passDay (l : Launch) (d : Nat) (S : GS) (A : AV) (t : Nat) (hO : VOK A t) (hQ : YOK S) (hY : YVes S A) (v : Nat) (hv : v < vn A) (su ra : Nat) (hsu : su ≤ 12) (hra : ra ≤ 1) : GC l (d + 2) yX7_passDay cX7_passDay 3 none [.ref (1000 + v), .int (nI su), .int (nI ra)] S (fun r S2 => r = none ∧ YFr S S2 v ∧ aI S2 = aI S ∧ YVes S2 (aDay1 A su ra v)) (0) (0) := by
  refine GC.ofV (by decide) (Nat.le_of_ble_eq_true rfl) (fun X hl E R hnm => ?_)
  subst hl
  have E : En X RX7 cX7_passDay 3 (d + 2) (0) (0) := E
  have R : Rt X none (fun r S2 => r = none ∧ YFr S S2 v ∧ aI S2 = aI S ∧ YVes S2 (aDay1 A su ra v)) := R
  have h1 := hO.1
  have h2 := hO.2.1
  have h3 := hO.2.2.1 v hv
  have ewv : vwt A v = vdry A v + vW A v := rfl
  have k0 := hY.K v hv
  have k3 := hY.W v hv
  have k4 := hY.T v hv
  have k5 := hY.M v hv
  rcases (show vK A v = 0 ∨ vK A v = 1 ∨ vK A v = 2 ∨ vK A v = 3 by omega) with hK | hK | hK | hK
  · refine V_aload_n E dX7_passDay_0 rfl ?_
    refine V_getI E fl_X7_9 dX7_passDay_1 rfl (hY.ok v hv) ?_
    refine V_iconst (v := 2) E dX7_passDay_4 (by decide) ?_
    refine V_icmp_ne (tgt := 24) E dX7_passDay_5 (by decide) (fun _ => ?_) (fun hx => absurd hx (fun e => absurd (k0.symm.trans e) (by rw [hK]; decide)))
    refine V_aload_n E dX7_passDay_24 rfl ?_
    refine V_getI E fl_X7_9 dX7_passDay_25 rfl (hY.ok v hv) ?_
    refine V_iconst (v := 1) E dX7_passDay_28 (by decide) ?_
    refine V_icmp_ne (tgt := 58) E dX7_passDay_29 (by decide) (fun _ => ?_) (fun hx => absurd hx (fun e => absurd (k0.symm.trans e) (by rw [hK]; decide)))
    refine V_aload_n E dX7_passDay_58 rfl ?_
    refine V_getI E fl_X7_9 dX7_passDay_59 rfl (hY.ok v hv) ?_
    refine V_if_ne (tgt := 70) E dX7_passDay_62 (by decide) (fun hx => absurd hx (fun q => q (k0.trans (by rw [hK]; rfl)))) (fun _ => ?_)
    refine V_aload_n E dX7_passDay_65 rfl ?_
    refine V_iconst (v := 1) E dX7_passDay_66 (by decide) ?_
    refine V_callV E (cy_ripen (x_l X) d S A t hO hQ hY v hv 1 (by omega)) ml_X7_58 mv_X7_ripen (hY.ok v hv) dX7_passDay_67 rfl (by simp [Value.category]) (by omega) (by omega) (by omega) (fun r S2 hp => ?_)
    obtain ⟨rfl, hp⟩ := hp
    rcases hp with ⟨hz, hS2⟩ | ⟨hz, rfl⟩
    · obtain rfl := hS2.symm
      exact V_vret E R dX7_passDay_70 (Nat.le_refl _) (Nat.le_refl _) ⟨rfl, YFr.rfl' S v, rfl, hY.day1 (YFr.rfl' S v) hv h1 (fun _ _ _ _ => rfl) rfl (k3.trans (by rw [dW, if_neg (by omega)])) (k4.trans (by rw [dT, if_pos hz])) (k5.trans (by rw [dM, if_neg (by omega)]))⟩
    · exact V_vret E R dX7_passDay_70 (Nat.le_refl _) (Nat.le_refl _) ⟨rfl, YFr.I, rfl, hY.day1 YFr.I hv h1 (fun k q1 q2 q3 => by rw [fI_sI, up2_nk q2]) rfl (by rw [fI_sI, up2_nk (by decide), k3, dW, if_neg (by omega)]) (by rw [fI_sI, up2_at, dT, if_neg hz, if_neg (by omega), if_pos hK]) (by rw [fI_sI, up2_nk (by decide), k5, dM, if_neg (by omega)])⟩
  · refine V_aload_n E dX7_passDay_0 rfl ?_
    refine V_getI E fl_X7_9 dX7_passDay_1 rfl (hY.ok v hv) ?_
    refine V_iconst (v := 2) E dX7_passDay_4 (by decide) ?_
    refine V_icmp_ne (tgt := 24) E dX7_passDay_5 (by decide) (fun _ => ?_) (fun hx => absurd hx (fun e => absurd (k0.symm.trans e) (by rw [hK]; decide)))
    refine V_aload_n E dX7_passDay_24 rfl ?_
    refine V_getI E fl_X7_9 dX7_passDay_25 rfl (hY.ok v hv) ?_
    refine V_iconst (v := 1) E dX7_passDay_28 (by decide) ?_
    refine V_icmp_ne (tgt := 58) E dX7_passDay_29 (by decide) (fun hx => absurd hx (fun q => q (k0.trans (by rw [hK]; rfl)))) (fun _ => ?_)
    refine V_aload_n E dX7_passDay_32 rfl ?_
    refine V_aload_n E dX7_passDay_33 rfl ?_
    refine V_getI E fl_X7_50 dX7_passDay_34 rfl (hY.ok v hv) ?_
    refine V_if_eq (tgt := 45) E dX7_passDay_37 (by decide) (fun hmm => ?_) (fun hmm => ?_)
    · have hm : vM A v = 0 := (nI_eq (a := vM A v) (b := 0) (by omega) (by omega)).mp (k5.symm.trans hmm)
      refine V_bipush (v := 7) E dX7_passDay_45 (by decide) ?_
      refine V_callV E (cy_ripen (x_l X) d S A t hO hQ hY v hv 7 (by omega)) ml_X7_58 mv_X7_ripen (hY.ok v hv) dX7_passDay_47 rfl (by simp [Value.category]) (by omega) (by omega) (by omega) (fun r S2 hp => ?_)
      obtain ⟨rfl, hp⟩ := hp
      rcases hp with ⟨hz, hS2⟩ | ⟨hz, rfl⟩
      · obtain rfl := hS2.symm
        refine V_aload_n E dX7_passDay_50 rfl ?_
        refine V_iconst (v := 0) E dX7_passDay_51 (by decide) ?_
        refine V_putI E fl_X7_50 dX7_passDay_52 rfl (hY.ok v hv) ⟨rfl, rfl⟩ rfl ?_
        refine V_goto (tgt := 70) E dX7_passDay_55 (by decide) ?_
        exact V_vret E R dX7_passDay_70 (Nat.le_refl _) (Nat.le_refl _) ⟨rfl, YFr.I, rfl, hY.day1 YFr.I hv h1 (fun k q1 q2 q3 => by rw [fI_sI, up2_nk q3]) rfl (by rw [fI_sI, up2_nk (by decide), k3, dW, if_neg (by omega)]) (by rw [fI_sI, up2_nk (by decide), k4, dT, if_pos hz]) (by rw [fI_sI, up2_at, dM, if_pos hK]; rfl)⟩
      · refine V_aload_n E dX7_passDay_50 rfl ?_
        refine V_iconst (v := 0) E dX7_passDay_51 (by decide) ?_
        refine V_putI E fl_X7_50 dX7_passDay_52 rfl (hY.ok v hv) ⟨rfl, rfl⟩ rfl ?_
        refine V_goto (tgt := 70) E dX7_passDay_55 (by decide) ?_
        exact V_vret E R dX7_passDay_70 (Nat.le_refl _) (Nat.le_refl _) ⟨rfl, YFr.I.trans YFr.I, rfl, hY.day1 (YFr.I.trans YFr.I) hv h1 (fun k q1 q2 q3 => by rw [fI_sI, up2_nk q3, fI_sI, up2_nk q2]) rfl (by rw [fI_sI, up2_nk (by decide), fI_sI, up2_nk (by decide), k3, dW, if_neg (by omega)]) (by rw [fI_sI, up2_nk (by decide), fI_sI, up2_at, dT, if_neg hz, if_pos hK, if_pos hm]) (by rw [fI_sI, up2_at, dM, if_pos hK]; rfl)⟩
    · have hm : vM A v ≠ 0 := fun e => hmm (k5.trans (by rw [e]; rfl))
      refine V_bipush (v := 12) E dX7_passDay_40 (by decide) ?_
      refine V_goto (tgt := 47) E dX7_passDay_42 (by decide) ?_
      refine V_callV E (cy_ripen (x_l X) d S A t hO hQ hY v hv 12 (by omega)) ml_X7_58 mv_X7_ripen (hY.ok v hv) dX7_passDay_47 rfl (by simp [Value.category]) (by omega) (by omega) (by omega) (fun r S2 hp => ?_)
      obtain ⟨rfl, hp⟩ := hp
      rcases hp with ⟨hz, hS2⟩ | ⟨hz, rfl⟩
      · obtain rfl := hS2.symm
        refine V_aload_n E dX7_passDay_50 rfl ?_
        refine V_iconst (v := 0) E dX7_passDay_51 (by decide) ?_
        refine V_putI E fl_X7_50 dX7_passDay_52 rfl (hY.ok v hv) ⟨rfl, rfl⟩ rfl ?_
        refine V_goto (tgt := 70) E dX7_passDay_55 (by decide) ?_
        exact V_vret E R dX7_passDay_70 (Nat.le_refl _) (Nat.le_refl _) ⟨rfl, YFr.I, rfl, hY.day1 YFr.I hv h1 (fun k q1 q2 q3 => by rw [fI_sI, up2_nk q3]) rfl (by rw [fI_sI, up2_nk (by decide), k3, dW, if_neg (by omega)]) (by rw [fI_sI, up2_nk (by decide), k4, dT, if_pos hz]) (by rw [fI_sI, up2_at, dM, if_pos hK]; rfl)⟩
      · refine V_aload_n E dX7_passDay_50 rfl ?_
        refine V_iconst (v := 0) E dX7_passDay_51 (by decide) ?_
        refine V_putI E fl_X7_50 dX7_passDay_52 rfl (hY.ok v hv) ⟨rfl, rfl⟩ rfl ?_
        refine V_goto (tgt := 70) E dX7_passDay_55 (by decide) ?_
        exact V_vret E R dX7_passDay_70 (Nat.le_refl _) (Nat.le_refl _) ⟨rfl, YFr.I.trans YFr.I, rfl, hY.day1 (YFr.I.trans YFr.I) hv h1 (fun k q1 q2 q3 => by rw [fI_sI, up2_nk q3, fI_sI, up2_nk q2]) rfl (by rw [fI_sI, up2_nk (by decide), fI_sI, up2_nk (by decide), k3, dW, if_neg (by omega)]) (by rw [fI_sI, up2_nk (by decide), fI_sI, up2_at, dT, if_neg hz, if_pos hK, if_neg hm]) (by rw [fI_sI, up2_at, dM, if_pos hK]; rfl)⟩
  · refine V_aload_n E dX7_passDay_0 rfl ?_
    refine V_getI E fl_X7_9 dX7_passDay_1 rfl (hY.ok v hv) ?_
    refine V_iconst (v := 2) E dX7_passDay_4 (by decide) ?_
    refine V_icmp_ne (tgt := 24) E dX7_passDay_5 (by decide) (fun hx => absurd hx (fun q => q (k0.trans (by rw [hK]; rfl)))) (fun _ => ?_)
    refine V_aload_n E dX7_passDay_8 rfl ?_
    refine V_getI E fl_X7_50 dX7_passDay_9 rfl (hY.ok v hv) ?_
    refine V_if_ne (tgt := 24) E dX7_passDay_12 (by decide) (fun hmm => ?_) (fun hmm => ?_)
    · have hm : vM A v ≠ 0 := fun e => hmm (k5.trans (by rw [e]; rfl))
      refine V_aload_n E dX7_passDay_24 rfl ?_
      refine V_getI E fl_X7_9 dX7_passDay_25 rfl (hY.ok v hv) ?_
      refine V_iconst (v := 1) E dX7_passDay_28 (by decide) ?_
      refine V_icmp_ne (tgt := 58) E dX7_passDay_29 (by decide) (fun _ => ?_) (fun hx => absurd hx (fun e => absurd (k0.symm.trans e) (by rw [hK]; decide)))
      refine V_aload_n E dX7_passDay_58 rfl ?_
      refine V_getI E fl_X7_9 dX7_passDay_59 rfl (hY.ok v hv) ?_
      refine V_if_ne (tgt := 70) E dX7_passDay_62 (by decide) (fun _ => ?_) (fun hx => absurd hx (fun e => absurd (k0.symm.trans e) (by rw [hK]; decide)))
      exact V_vret E R dX7_passDay_70 (Nat.le_refl _) (Nat.le_refl _) ⟨rfl, YFr.rfl' S v, rfl, hY.day1 (YFr.rfl' S v) hv h1 (fun _ _ _ _ => rfl) rfl (k3.trans (by rw [dW, if_neg (by omega)])) (k4.trans (by rw [dT]; split; rfl; rw [if_neg (by omega), if_neg (by omega)])) (k5.trans (by rw [dM, if_neg (by omega)]))⟩
    · have hm : vM A v = 0 := (nI_eq (a := vM A v) (b := 0) (by omega) (by omega)).mp (k5.symm.trans hmm)
      refine V_aload_n E dX7_passDay_15 rfl ?_
      refine V_iload_n E dX7_passDay_16 rfl ?_
      refine V_iload_n E dX7_passDay_17 rfl ?_
      refine V_callV E (cy_dryOrWet (x_l X) d S A t hO hQ hY v hv su ra hsu hra) ml_X7_54 mv_X7_dryOrWet (hY.ok v hv) dX7_passDay_18 rfl (by simp [Value.category]) (by omega) (by omega) (by omega) (fun r S2 hp => ?_)
      obtain ⟨rfl, rfl⟩ := hp
      refine V_goto (tgt := 70) E dX7_passDay_21 (by decide) ?_
      exact V_vret E R dX7_passDay_70 (Nat.le_refl _) (Nat.le_refl _) ⟨rfl, YFr.I, rfl, hY.day1 YFr.I hv h1 (fun k q1 q2 q3 => by rw [fI_sI, up2_nk q1]) rfl (by rw [fI_sI, up2_at]; exact congrArg nI (show _ = dW A su ra v from (if_pos (⟨hK, hm⟩ : vK A v = 2 ∧ vM A v = 0)).symm)) (by rw [fI_sI, up2_nk (by decide), k4, dT]; split; rfl; rw [if_neg (by omega), if_neg (by omega)]) (by rw [fI_sI, up2_nk (by decide), k5, dM, if_neg (by omega)])⟩
  · refine V_aload_n E dX7_passDay_0 rfl ?_
    refine V_getI E fl_X7_9 dX7_passDay_1 rfl (hY.ok v hv) ?_
    refine V_iconst (v := 2) E dX7_passDay_4 (by decide) ?_
    refine V_icmp_ne (tgt := 24) E dX7_passDay_5 (by decide) (fun _ => ?_) (fun hx => absurd hx (fun e => absurd (k0.symm.trans e) (by rw [hK]; decide)))
    refine V_aload_n E dX7_passDay_24 rfl ?_
    refine V_getI E fl_X7_9 dX7_passDay_25 rfl (hY.ok v hv) ?_
    refine V_iconst (v := 1) E dX7_passDay_28 (by decide) ?_
    refine V_icmp_ne (tgt := 58) E dX7_passDay_29 (by decide) (fun _ => ?_) (fun hx => absurd hx (fun e => absurd (k0.symm.trans e) (by rw [hK]; decide)))
    refine V_aload_n E dX7_passDay_58 rfl ?_
    refine V_getI E fl_X7_9 dX7_passDay_59 rfl (hY.ok v hv) ?_
    refine V_if_ne (tgt := 70) E dX7_passDay_62 (by decide) (fun _ => ?_) (fun hx => absurd hx (fun e => absurd (k0.symm.trans e) (by rw [hK]; decide)))
    exact V_vret E R dX7_passDay_70 (Nat.le_refl _) (Nat.le_refl _) ⟨rfl, YFr.rfl' S v, rfl, hY.day1 (YFr.rfl' S v) hv h1 (fun _ _ _ _ => rfl) rfl (k3.trans (by rw [dW, if_neg (by omega)])) (k4.trans (by rw [dT]; split; rfl; rw [if_neg (by omega), if_neg (by omega)])) (k5.trans (by rw [dM, if_neg (by omega)]))⟩

theorem cy_day (l : Launch) (d : Nat) (S : GS) (A : AV) (t : Nat) (hO : VOK A t) (hQ : YOK S) (hY : YVes S A) (ht : t + 1 ≤ 600) (td : Nat) (hT : fI S 200 2 = nI td) (x : Int32) (ra : Nat) (hra : ra ≤ 1) : GC l (d + 3) yX10_day cX10_day 4 (some FieldType.int) [.ref 200, .int x, .int (nI ra)] S (fun r S2 => (wi_ x 0 12 ∧ r = some (.int (nI (td + 1))) ∧ ∃ S3, S2 = sI S3 200 2 (nI (td + 1)) ∧ YFrV S S3 ∧ YVes S3 (aDayN A (tn x) ra (vn A))) ∨ (¬ wi_ x 0 12 ∧ r = some (.int (-1)) ∧ S2 = S)) (0) (0) := by
  refine GC.ofV (by decide) (Nat.le_of_ble_eq_true rfl) (fun X hl E R hnm => ?_)
  subst hl
  have E : En X RX10 cX10_day 4 (d + 3) (0) (0) := E
  have R : Rt X (some FieldType.int) (fun r S2 => (wi_ x 0 12 ∧ r = some (.int (nI (td + 1))) ∧ ∃ S3, S2 = sI S3 200 2 (nI (td + 1)) ∧ YFrV S S3 ∧ YVes S3 (aDayN A (tn x) ra (vn A))) ∨ (¬ wi_ x 0 12 ∧ r = some (.int (-1)) ∧ S2 = S)) := R
  have hn := hO.1
  refine V_iload_n E dX10_day_0 rfl ?_
  refine V_iconst (v := 0) E dX10_day_1 (by decide) ?_
  refine V_bipush (v := 12) E dX10_day_2 (by decide) ?_
  refine V_callS E (cy_isWithin (x_l X) d S _ _ _) ml_X10_61 ms_X10_isWithin dX10_day_4 rfl (by simp [Value.category]) (by omega) (by omega) (by omega) (fun r S2 hp => ?_)
  obtain ⟨rfl, hS2⟩ := hp
  obtain rfl := hS2.symm
  refine V_ifne_b (tgt := 12) E dX10_day_7 (by decide) (fun hc7 => ?_) (fun hc7 => ?_)
  · have w7 : wi_ x 0 12 := (wi_iff (by decide) (by decide)).mp hc7
    obtain ⟨su, rfl, tsu, lsu, usu, -⟩ := wi_nat w7 (by omega)
    refine V_iconst (v := 0) E dX10_day_12 (by decide) ?_
    refine V_istore_n E dX10_day_13 (by decide) rfl ?_
    have loop : ∀ m p S9, p + m = vn A → YFrV S S9 → YVes S9 (aDayN A su ra p) → V X 14 [some (.ref (200)), some (.int (nI (su))), some (.int (nI (ra))), some (.int (nI (p)))] [] S9 0 0 := by
      intro m
      induction m with
      | zero =>
        intro p S9 hp hF9 hY9
        have hQ9 := hF9.ok hQ
        refine V_iload_n E dX10_day_14 rfl ?_
        refine V_aload_n E dX10_day_15 rfl ?_
        refine V_getI E fl_X10_52 dX10_day_16 rfl (hQ9.k 200 11 rfl (by decide)) ?_
        refine V_ge_yes (a := p) (b := (vn A)) (tgt := 39) E dX10_day_19 (by decide) (@rfl _ (nI (p))) hY9.n (by omega) (by omega) ?_
        refine V_aload_n E dX10_day_39 rfl ?_
        refine V_dup E dX10_day_40 rfl ?_
        refine V_getI E fl_X10_99 dX10_day_41 rfl (hQ9.k 200 11 rfl (by decide)) ?_
        refine V_iconst (v := 1) E dX10_day_44 (by decide) ?_
        refine V_iadd E dX10_day_45 ?_
        refine V_cvi (y := nI ((td + 1))) (ni_add (a := td) (b := 1) ((congrFun (hF9.2.2.2.2.2.2 200 (by omega)) 2).trans hT) (rfl : (1 : Int32) = nI 1)) ?_
        refine V_putI E fl_X10_99 dX10_day_46 rfl (hQ9.k 200 11 rfl (by decide)) ⟨rfl, rfl⟩ rfl ?_
        refine V_aload_n E dX10_day_49 rfl ?_
        refine V_getI E fl_X10_99 dX10_day_50 rfl (hQ9.k 200 11 rfl (by decide)) ?_
        exact V_iret E R dX10_day_53 rfl (Nat.le_refl _) (Nat.le_refl _) (Or.inl ⟨w7, by rw [fI_sI, up2_at], S9, rfl, hF9, by rw [tsu, ← show p = vn A by omega]; exact hY9⟩)
      | succ m ih =>
        intro p S9 hp hF9 hY9
        have hQ9 := hF9.ok hQ
        have hO9 := hO.dayN (sun := su) (rain := ra) ht (show p ≤ vn A by omega)
        refine V_iload_n E dX10_day_14 rfl ?_
        refine V_aload_n E dX10_day_15 rfl ?_
        refine V_getI E fl_X10_52 dX10_day_16 rfl (hQ9.k 200 11 rfl (by decide)) ?_
        refine V_ge_no (a := p) (b := (vn A)) (tgt := 39) E dX10_day_19 (by decide) (@rfl _ (nI (p))) hY9.n (by omega) (by omega) ?_
        refine V_aload_n E dX10_day_22 rfl ?_
        refine V_getR E fl_X10_11 dX10_day_23 rfl (hQ9.k 200 11 rfl (by decide)) (hQ9.r 200 0 201 rfl) ?_
        refine V_iload_n E dX10_day_26 rfl ?_
        refine V_aa (j := p) E dX10_day_27 (hQ9.k 201 25 rfl (by decide)) (by decide) (@rfl _ (nI (p))) (hQ9.l 201 100 rfl (by decide)) (by omega) (by decide) (hY9.el p (show p < vn A by omega)) ?_
        refine V_iload_n E dX10_day_28 rfl ?_
        refine V_iload_n E dX10_day_29 rfl ?_
        refine V_callV E (cy_passDay (x_l X) d S9 (aDayN A su ra p) (t + 1) hO9 hQ9 hY9 p (show p < vn A by omega) su ra (by omega) hra) ml_X10_95 mv_X7_passDay (hY9.ok p (show p < vn A by omega)) dX10_day_30 rfl (by simp [Value.category]) (by omega) (by omega) (by omega) (fun r S2 hp => ?_)
        obtain ⟨rfl, hF2, ha2, hY2⟩ := hp
        rw [aDay1_N] at hY2
        refine V_iinc (v := nI (p + 1)) E dX10_day_33 rfl (ni_inc (a := p) (z := 1) (@rfl _ (nI (p)))) (by decide) rfl ?_
        refine V_goto (tgt := 14) E dX10_day_36 (by decide) ?_
        exact ih (p + 1) S2 (by omega) (hF9.add hF2 ha2 (by omega)) hY2
    exact loop (vn A) 0 S (by omega) ⟨rfl, rfl, rfl, rfl, rfl, rfl, fun _ _ => rfl⟩ (by rw [aDayN_0]; exact hY)
  · have w7 : ¬ wi_ x 0 12 := fun q => hc7 ((wi_iff (by decide) (by decide)).mpr q)
    refine V_iconst (v := -1) E dX10_day_10 (by decide) ?_
    exact V_iret E R dX10_day_11 rfl (Nat.le_refl _) (Nat.le_refl _) (Or.inr ⟨w7, rfl, rfl⟩)
