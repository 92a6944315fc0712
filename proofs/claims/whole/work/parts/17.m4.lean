theorem cm_turn (l : Launch) (d : Nat) (S : GS) (A : AV) (t : Nat) (hO : VOK A t) (hM : MOK S) (hV : MVes S A) (x : Int32) : GC l (d + 2) yX11_turn cX11_turn 2 (some FieldType.boolean) [.ref 0, .int x] S (fun r S2 => (pTurn A x ∧ r = some (.int 1) ∧ S2 = mMark S (tn x) 1) ∨ (¬ pTurn A x ∧ r = some (.int 0) ∧ S2 = S)) (0) (0) := by
  refine GC.ofV (by decide) (Nat.le_of_ble_eq_true rfl) (fun X hl E R hnm => ?_)
  subst hl
  have E : En X RX11 cX11_turn 2 (d + 2) (0) (0) := E
  have R : Rt X (some FieldType.boolean) (fun r S2 => (pTurn A x ∧ r = some (.int 1) ∧ S2 = mMark S (tn x) 1) ∨ (¬ pTurn A x ∧ r = some (.int 0) ∧ S2 = S)) := R
  have hn := hO.1
  refine V_aload_n E dX11_turn_0 rfl ?_
  refine V_iload_n E dX11_turn_1 rfl ?_
  refine V_iconst (v := 1) E dX11_turn_2 (by decide) ?_
  refine V_callV E (cm_is (x_l X) d S A t hO hM hV x 1 (by omega)) ml_X11_128 mv_X11_is hM.o dX11_turn_3 rfl (by simp [Value.category]) (by omega) (by omega) (by omega) (fun r S2 hp => ?_)
  obtain ⟨rfl, hS2⟩ := hp
  obtain rfl := hS2.symm
  refine V_ifeq_b (tgt := 18) E dX11_turn_6 (by decide) (fun hc6 => ?_) (fun hc6 => ?_)
  · refine V_iconst (v := 0) E dX11_turn_18 (by decide) ?_
    exact V_iret E R dX11_turn_19 rfl (Nat.le_refl _) (Nat.le_refl _) (Or.inr ⟨fun q => hc6 q.1, rfl, rfl⟩)
  · obtain ⟨v, rfl, tv, lv, uv, -⟩ := wi_nat hc6.1 (by omega)
    have hk : vK A v = 1 := by rw [← tv]; exact hc6.2
    have h3 := hO.2.2.1 v (by omega)
    refine V_aload_n E dX11_turn_9 rfl ?_
    refine V_getR E fl_X11_22 dX11_turn_10 rfl hM.o (hM.r 10 (by decide)) ?_
    refine V_iload_n E dX11_turn_13 rfl ?_
    refine V_za (j := v) E dX11_turn_14 (hM.k 10 24 rfl (by decide)) (@rfl _ (nI (v))) (hM.l 10 100 rfl (by decide)) (by omega) (by decide) ?_
    refine V_if_eq (tgt := 20) E dX11_turn_15 (by decide) (fun h15 => ?_) (fun h15 => ?_)
    · rw [hV.M v (by omega)] at h15; have h16 : vM A v = 0 := (nI_eq (a := vM A v) (b := 0) (by omega) (by omega)).mp h15
      refine V_aload_n E dX11_turn_20 rfl ?_
      refine V_getR E fl_X11_22 dX11_turn_21 rfl hM.o (hM.r 10 (by decide)) ?_
      refine V_iload_n E dX11_turn_24 rfl ?_
      refine V_iconst (v := 1) E dX11_turn_25 (by decide) ?_
      refine V_zas (j := v) E dX11_turn_26 (hM.k 10 24 rfl (by decide)) (@rfl _ (nI (v))) (hM.l 10 100 rfl (by decide)) (by omega) (by decide) ?_
      refine V_cvS (S' := mMark S v 1) rfl ?_
      refine V_iconst (v := 1) E dX11_turn_27 (by decide) ?_
      exact V_iret E R dX11_turn_28 rfl (Nat.le_refl _) (Nat.le_refl _) (Or.inl ⟨⟨hc6, by rw [tv]; exact h16⟩, rfl, by rw [tv]⟩)
    · have h16 : ¬ vM A v = 0 := fun e => h15 (by rw [hV.M v (by omega), e]; rfl)
      refine V_iconst (v := 0) E dX11_turn_18 (by decide) ?_
      exact V_iret E R dX11_turn_19 rfl (Nat.le_refl _) (Nat.le_refl _) (Or.inr ⟨fun q => h16 (by have := q.2; rw [tv] at this; exact this), rfl, rfl⟩)

theorem cm_cover (l : Launch) (d : Nat) (S : GS) (A : AV) (t : Nat) (hO : VOK A t) (hM : MOK S) (hV : MVes S A) (x : Int32) (c : Nat) (hc : c ≤ 1) : GC l (d + 2) yX11_cover cX11_cover 3 (some FieldType.boolean) [.ref 0, .int x, .int (nI c)] S (fun r S2 => (pCover A x c ∧ r = some (.int 1) ∧ S2 = mMark S (tn x) c) ∨ (¬ pCover A x c ∧ r = some (.int 0) ∧ S2 = S)) (0) (0) := by
  refine GC.ofV (by decide) (Nat.le_of_ble_eq_true rfl) (fun X hl E R hnm => ?_)
  subst hl
  have E : En X RX11 cX11_cover 3 (d + 2) (0) (0) := E
  have R : Rt X (some FieldType.boolean) (fun r S2 => (pCover A x c ∧ r = some (.int 1) ∧ S2 = mMark S (tn x) c) ∨ (¬ pCover A x c ∧ r = some (.int 0) ∧ S2 = S)) := R
  have hn := hO.1
  refine V_aload_n E dX11_cover_0 rfl ?_
  refine V_iload_n E dX11_cover_1 rfl ?_
  refine V_iconst (v := 2) E dX11_cover_2 (by decide) ?_
  refine V_callV E (cm_is (x_l X) d S A t hO hM hV x 2 (by omega)) ml_X11_128 mv_X11_is hM.o dX11_cover_3 rfl (by simp [Value.category]) (by omega) (by omega) (by omega) (fun r S2 hp => ?_)
  obtain ⟨rfl, hS2⟩ := hp
  obtain rfl := hS2.symm
  refine V_ifeq_b (tgt := 19) E dX11_cover_6 (by decide) (fun hc6 => ?_) (fun hc6 => ?_)
  · refine V_iconst (v := 0) E dX11_cover_19 (by decide) ?_
    exact V_iret E R dX11_cover_20 rfl (Nat.le_refl _) (Nat.le_refl _) (Or.inr ⟨fun q => hc6 q.1, rfl, rfl⟩)
  · obtain ⟨v, rfl, tv, lv, uv, -⟩ := wi_nat hc6.1 (by omega)
    have hk : vK A v = 2 := by rw [← tv]; exact hc6.2
    have h3 := hO.2.2.1 v (by omega)
    refine V_aload_n E dX11_cover_9 rfl ?_
    refine V_getR E fl_X11_22 dX11_cover_10 rfl hM.o (hM.r 10 (by decide)) ?_
    refine V_iload_n E dX11_cover_13 rfl ?_
    refine V_za (j := v) E dX11_cover_14 (hM.k 10 24 rfl (by decide)) (@rfl _ (nI (v))) (hM.l 10 100 rfl (by decide)) (by omega) (by decide) ?_
    refine V_iload_n E dX11_cover_15 rfl ?_
    refine V_icmp_ne (tgt := 21) E dX11_cover_16 (by decide) (fun h15 => ?_) (fun h15 => ?_)
    · have h16 : vM A v ≠ c := fun e => h15 (by rw [hV.M v (by omega), e])
      refine V_aload_n E dX11_cover_21 rfl ?_
      refine V_getR E fl_X11_22 dX11_cover_22 rfl hM.o (hM.r 10 (by decide)) ?_
      refine V_iload_n E dX11_cover_25 rfl ?_
      refine V_iload_n E dX11_cover_26 rfl ?_
      refine V_zas (j := v) E dX11_cover_27 (hM.k 10 24 rfl (by decide)) (@rfl _ (nI (v))) (hM.l 10 100 rfl (by decide)) (by omega) (by decide) ?_
      refine V_cvS (S' := mMark S v c) (by rw [mMark, nar_b hc]) ?_
      refine V_iconst (v := 1) E dX11_cover_28 (by decide) ?_
      exact V_iret E R dX11_cover_29 rfl (Nat.le_refl _) (Nat.le_refl _) (Or.inl ⟨⟨hc6, by rw [tv]; exact h16⟩, rfl, by rw [tv]⟩)
    · rw [hV.M v (by omega)] at h15; have h16 : ¬ vM A v ≠ c := fun q => q ((nI_eq (by omega) (by omega)).mp h15)
      refine V_iconst (v := 0) E dX11_cover_19 (by decide) ?_
      exact V_iret E R dX11_cover_20 rfl (Nat.le_refl _) (Nat.le_refl _) (Or.inr ⟨fun q => h16 (by have := q.2; rw [tv] at this; exact this), rfl, rfl⟩)

theorem cm_part (l : Launch) (d : Nat) (S : GS) (A : AV) (t : Nat) (hO : VOK A t) (hM : MOK S) (hV : MVes S A) (x pl : Int32) : GC l (d + 1) yX11_part cX11_part 3 (some FieldType.int) [.ref 0, .int x, .int pl] S (fun r S2 => ((wi_ x 0 ((vn A : Int) - 1) ∧ wi_ pl 0 59) ∧ r = some (.int (nI (vD A (tn x) (tn pl)))) ∧ S2 = S) ∨ (¬ (wi_ x 0 ((vn A : Int) - 1) ∧ wi_ pl 0 59) ∧ r = some (.int 0) ∧ S2 = S)) (0) (0) := by
  refine GC.ofV (by decide) (Nat.le_of_ble_eq_true rfl) (fun X hl E R hnm => ?_)
  subst hl
  have E : En X RX11 cX11_part 3 (d + 1) (0) (0) := E
  have R : Rt X (some FieldType.int) (fun r S2 => ((wi_ x 0 ((vn A : Int) - 1) ∧ wi_ pl 0 59) ∧ r = some (.int (nI (vD A (tn x) (tn pl)))) ∧ S2 = S) ∨ (¬ (wi_ x 0 ((vn A : Int) - 1) ∧ wi_ pl 0 59) ∧ r = some (.int 0) ∧ S2 = S)) := R
  have hn := hO.1
  have hw : (0 ≤ x ∧ x ≤ fI S 0 1 - 1) ↔ wi_ x 0 ((vn A : Int) - 1) := wi_iff rfl (by rw [hV.n]; exact nI_m1 (by omega))
  refine V_iload_n E dX11_part_0 rfl ?_
  refine V_iconst (v := 0) E dX11_part_1 (by decide) ?_
  refine V_aload_n E dX11_part_2 rfl ?_
  refine V_getI E fl_X11_111 dX11_part_3 rfl hM.o ?_
  refine V_iconst (v := 1) E dX11_part_6 (by decide) ?_
  refine V_isub E dX11_part_7 ?_
  refine V_callS E (cm_in (x_l X) 0 S _ _ _) ml_X11_115 ms_X11_in dX11_part_8 rfl (by simp [Value.category]) (by omega) (by omega) (by omega) (fun r S2 hp => ?_)
  obtain ⟨rfl, hS2⟩ := hp
  obtain rfl := hS2.symm
  refine V_ifeq_b (tgt := 38) E dX11_part_11 (by decide) (fun hc11 => ?_) (fun hc11 => ?_)
  · refine V_iconst (v := 0) E dX11_part_38 (by decide) ?_
    exact V_iret E R dX11_part_39 rfl (Nat.le_refl _) (Nat.le_refl _) (Or.inr ⟨fun q => hc11 (hw.mpr q.1), rfl, rfl⟩)
  · obtain ⟨v, rfl, tv, lv, uv, -⟩ := wi_nat (hw.mp hc11) (by omega)
    have h3 := hO.2.2.1 v (by omega)
    refine V_iload_n E dX11_part_14 rfl ?_
    refine V_iconst (v := 0) E dX11_part_15 (by decide) ?_
    refine V_bipush (v := 59) E dX11_part_16 (by decide) ?_
    refine V_callS E (cm_in (x_l X) 0 S _ _ _) ml_X11_115 ms_X11_in dX11_part_18 rfl (by simp [Value.category]) (by omega) (by omega) (by omega) (fun r S2 hp => ?_)
    obtain ⟨rfl, hS2⟩ := hp
    obtain rfl := hS2.symm
    refine V_ifeq_b (tgt := 38) E dX11_part_21 (by decide) (fun hc21 => ?_) (fun hc21 => ?_)
    · have w21 : ¬ wi_ pl 0 59 := fun q => hc21 ((wi_iff (by decide) (by decide)).mpr q)
      refine V_iconst (v := 0) E dX11_part_38 (by decide) ?_
      exact V_iret E R dX11_part_39 rfl (Nat.le_refl _) (Nat.le_refl _) (Or.inr ⟨fun q => w21 q.2, rfl, rfl⟩)
    · have w21 : wi_ pl 0 59 := (wi_iff (by decide) (by decide)).mp hc21
      obtain ⟨p, rfl, tp, lp, up, -⟩ := wi_nat w21 (by omega)
      refine V_aload_n E dX11_part_24 rfl ?_
      refine V_getR E fl_X11_13 dX11_part_25 rfl hM.o (hM.r 7 (by decide)) ?_
      refine V_bipush (v := 60) E dX11_part_28 (by decide) ?_
      refine V_iload_n E dX11_part_30 rfl ?_
      refine V_imul E dX11_part_31 ?_
      refine V_iload_n E dX11_part_32 rfl ?_
      refine V_iadd E dX11_part_33 ?_
      refine V_ia (j := ((60 * v) + p)) E dX11_part_34 (hM.k 7 21 rfl (by decide)) (ni_add (a := (60 * v)) (b := p) (ni_mul (a := 60) (b := v) (rfl : (60 : Int32) = nI 60) (@rfl _ (nI (v)))) (@rfl _ (nI (p)))) (hM.l 7 6000 rfl (by decide)) (by omega) (by decide) ?_
      refine V_goto (tgt := 39) E dX11_part_35 (by decide) ?_
      exact V_iret E R dX11_part_39 rfl (Nat.le_refl _) (Nat.le_refl _) (Or.inl ⟨⟨hw.mp hc11, w21⟩, by rw [(hV.D v (by omega) p (by omega)), tv, tp], rfl⟩)

theorem cm_told (l : Launch) (d : Nat) (S : GS) (A : AV) (t : Nat) (hO : VOK A t) (hM : MOK S) (hV : MVes S A) (x wh : Int32) : GC l (d + 3) yX11_told cX11_told 5 (some FieldType.int) [.ref 0, .int x, .int wh] S (fun r S2 => (wi_ x 0 ((vn A : Int) - 1) ∧ wi_ wh 0 8 ∧ r = some (.int (nI (vTold A (tn x) (tn wh)))) ∧ S2 = S) ∨ (¬ (wi_ x 0 ((vn A : Int) - 1) ∧ wi_ wh 0 8) ∧ r = some (.int (-1)) ∧ S2 = S)) (0) (0) := by
  refine GC.ofV (by decide) (Nat.le_of_ble_eq_true rfl) (fun X hl E R hnm => ?_)
  subst hl
  have E : En X RX11 cX11_told 5 (d + 3) (0) (0) := E
  have R : Rt X (some FieldType.int) (fun r S2 => (wi_ x 0 ((vn A : Int) - 1) ∧ wi_ wh 0 8 ∧ r = some (.int (nI (vTold A (tn x) (tn wh)))) ∧ S2 = S) ∨ (¬ (wi_ x 0 ((vn A : Int) - 1) ∧ wi_ wh 0 8) ∧ r = some (.int (-1)) ∧ S2 = S)) := R
  have hn := hO.1
  have hw : (0 ≤ x ∧ x ≤ fI S 0 1 - 1) ↔ wi_ x 0 ((vn A : Int) - 1) := wi_iff rfl (by rw [hV.n]; exact nI_m1 (by omega))
  refine V_iload_n E dX11_told_0 rfl ?_
  refine V_iconst (v := 0) E dX11_told_1 (by decide) ?_
  refine V_aload_n E dX11_told_2 rfl ?_
  refine V_getI E fl_X11_111 dX11_told_3 rfl hM.o ?_
  refine V_iconst (v := 1) E dX11_told_6 (by decide) ?_
  refine V_isub E dX11_told_7 ?_
  refine V_callS E (cm_in (x_l X) 0 S _ _ _) ml_X11_115 ms_X11_in dX11_told_8 rfl (by simp [Value.category]) (by omega) (by omega) (by omega) (fun r S2 hp => ?_)
  obtain ⟨rfl, hS2⟩ := hp
  obtain rfl := hS2.symm
  refine V_ifne_b (tgt := 16) E dX11_told_11 (by decide) (fun hc11 => ?_) (fun hc11 => ?_)
  · obtain ⟨v, rfl, tv, lv, uv, -⟩ := wi_nat (hw.mp hc11) (by omega)
    have h3 := hO.2.2.1 v (by omega)
    refine V_iconst (v := 0) E dX11_told_16 (by decide) ?_
    refine V_istore_n E dX11_told_17 (by decide) rfl ?_
    refine V_iconst (v := 0) E dX11_told_18 (by decide) ?_
    refine V_istore E dX11_told_19 (by decide) rfl ?_
    have loop : ∀ m p, p + m = 60 → V X 21 [some (.ref 0), some (.int (nI v)), some (.int wh), some (.int (nI (sumN (fun p => if 0 < vD A v p then 1 else 0) p))), some (.int (nI p))] [] S 0 0 := by
      intro m
      induction m with
      | zero =>
        intro p  hp
        refine V_iload E dX11_told_21 rfl ?_
        refine V_bipush (v := 60) E dX11_told_23 (by decide) ?_
        refine V_ge_yes (a := p) (b := 60) (tgt := 57) E dX11_told_25 (by decide) (@rfl _ (nI (p))) (rfl : (60 : Int32) = nI 60) (by omega) (by omega) ?_
        refine V_iload_n E dX11_told_57 rfl ?_
        by_cases hwh : wi_ wh 0 8
        · obtain ⟨j, rfl, tj, lj, uj, -⟩ := wi_nat hwh (by omega)
          have hxv : wi_ (nI v) 0 ((vn A : Int) - 1) := hw.mp hc11
          rcases (show j = 0 ∨ j = 1 ∨ j = 2 ∨ j = 3 ∨ j = 4 ∨ j = 5 ∨ j = 6 ∨ j = 7 ∨ j = 8 by omega) with rfl | rfl | rfl | rfl | rfl | rfl | rfl | rfl | rfl
          · refine V_tableIn (off := 50) (tgt := 108) E dX11_told_58 (by decide) (by decide) (by decide) (by decide) ?_
            refine V_aload_n E dX11_told_108 rfl ?_
            refine V_getR E fl_X11_9 dX11_told_109 rfl hM.o (hM.r 6 (by decide)) ?_
            refine V_iload_n E dX11_told_112 rfl ?_
            refine V_ia (j := v) E dX11_told_113 (hM.k 6 21 rfl (by decide)) (@rfl _ (nI (v))) (hM.l 6 100 rfl (by decide)) (by omega) (by decide) ?_
            exact V_iret E R dX11_told_114 rfl (Nat.le_refl _) (Nat.le_refl _) (Or.inl ⟨hxv, hwh, by rw [tv, tj, (hV.K (v) (by omega))]; rfl, rfl⟩)
          · refine V_tableIn (off := 57) (tgt := 115) E dX11_told_58 (by decide) (by decide) (by decide) (by decide) ?_
            refine V_aload_n E dX11_told_115 rfl ?_
            refine V_iload_n E dX11_told_116 rfl ?_
            refine V_callV E (cm_weight (x_l X) d S A t hO hM hV v (by omega)) ml_X11_123 mv_X11_weight hM.o dX11_told_117 rfl (by simp [Value.category]) (by omega) (by omega) (by omega) (fun r S2 hp => ?_)
            obtain ⟨rfl, hS2⟩ := hp
            obtain rfl := hS2.symm
            exact V_iret E R dX11_told_120 rfl (Nat.le_refl _) (Nat.le_refl _) (Or.inl ⟨hxv, hwh, by rw [tv, tj, (@rfl _ (nI (vwt A v)))]; rfl, rfl⟩)
          · refine V_tableIn (off := 63) (tgt := 121) E dX11_told_58 (by decide) (by decide) (by decide) (by decide) ?_
            refine V_aload_n E dX11_told_121 rfl ?_
            refine V_iload_n E dX11_told_122 rfl ?_
            refine V_callV E (cm_dryOfA (x_l X) 0 S A hM hV (v) (by omega)) ml_X11_119 mv_X11_dryOf hM.o dX11_told_123 rfl (by simp [Value.category]) (by omega) (by omega) (by omega) (fun r S2 hp => ?_)
            obtain ⟨rfl, hS2⟩ := hp
            obtain rfl := hS2.symm
            exact V_iret E R dX11_told_126 rfl (Nat.le_refl _) (Nat.le_refl _) (Or.inl ⟨hxv, hwh, by rw [tv, tj, (@rfl _ (nI (vdry A (v))))]; rfl, rfl⟩)
          · refine V_tableIn (off := 69) (tgt := 127) E dX11_told_58 (by decide) (by decide) (by decide) (by decide) ?_
            refine V_aload_n E dX11_told_127 rfl ?_
            refine V_getR E fl_X11_16 dX11_told_128 rfl hM.o (hM.r 8 (by decide)) ?_
            refine V_iload_n E dX11_told_131 rfl ?_
            refine V_ia (j := v) E dX11_told_132 (hM.k 8 21 rfl (by decide)) (@rfl _ (nI (v))) (hM.l 8 100 rfl (by decide)) (by omega) (by decide) ?_
            exact V_iret E R dX11_told_133 rfl (Nat.le_refl _) (Nat.le_refl _) (Or.inl ⟨hxv, hwh, by rw [tv, tj, (hV.W (v) (by omega))]; rfl, rfl⟩)
          · refine V_tableIn (off := 76) (tgt := 134) E dX11_told_58 (by decide) (by decide) (by decide) (by decide) ?_
            refine V_aload_n E dX11_told_134 rfl ?_
            refine V_iload_n E dX11_told_135 rfl ?_
            refine V_callV E (cm_wetness (x_l X) d S A t hO hM hV v (by omega)) ml_X11_138 mv_X11_wetness hM.o dX11_told_136 rfl (by simp [Value.category]) (by omega) (by omega) (by omega) (fun r S2 hp => ?_)
            obtain ⟨rfl, hS2⟩ := hp
            obtain rfl := hS2.symm
            exact V_iret E R dX11_told_139 rfl (Nat.le_refl _) (Nat.le_refl _) (Or.inl ⟨hxv, hwh, by rw [tv, tj, (@rfl _ (nI (vwet A v)))]; rfl, rfl⟩)
          · refine V_tableIn (off := 82) (tgt := 140) E dX11_told_58 (by decide) (by decide) (by decide) (by decide) ?_
            refine V_aload_n E dX11_told_140 rfl ?_
            refine V_getR E fl_X11_19 dX11_told_141 rfl hM.o (hM.r 9 (by decide)) ?_
            refine V_iload_n E dX11_told_144 rfl ?_
            refine V_ia (j := v) E dX11_told_145 (hM.k 9 21 rfl (by decide)) (@rfl _ (nI (v))) (hM.l 9 100 rfl (by decide)) (by omega) (by decide) ?_
            exact V_iret E R dX11_told_146 rfl (Nat.le_refl _) (Nat.le_refl _) (Or.inl ⟨hxv, hwh, by rw [tv, tj, (hV.T (v) (by omega))]; rfl, rfl⟩)
          · refine V_tableIn (off := 89) (tgt := 147) E dX11_told_58 (by decide) (by decide) (by decide) (by decide) ?_
            refine V_aload_n E dX11_told_147 rfl ?_
            refine V_getR E fl_X11_22 dX11_told_148 rfl hM.o (hM.r 10 (by decide)) ?_
            refine V_iload_n E dX11_told_151 rfl ?_
            refine V_za (j := v) E dX11_told_152 (hM.k 10 24 rfl (by decide)) (@rfl _ (nI (v))) (hM.l 10 100 rfl (by decide)) (by omega) (by decide) ?_
            refine V_if_eq (tgt := 160) E dX11_told_153 (by decide) (fun h15 => ?_) (fun h15 => ?_)
            · rw [hV.M v (by omega)] at h15; have h16 : vM A v = 0 := (nI_eq (a := vM A v) (b := 0) (by omega) (by omega)).mp h15
              refine V_iconst (v := 0) E dX11_told_160 (by decide) ?_
              exact V_iret E R dX11_told_161 rfl (Nat.le_refl _) (Nat.le_refl _) (Or.inl ⟨hxv, hwh, by rw [tv, tj]; show _ = some (Value.int (nI (vM A v))); rw [h16]; rfl, rfl⟩)
            · have h16 : vM A v = 1 := by rcases Nat.eq_zero_or_pos (vM A v) with e | e; exact absurd (by rw [hV.M v (by omega), e]; rfl) h15; omega
              refine V_iconst (v := 1) E dX11_told_156 (by decide) ?_
              refine V_goto (tgt := 161) E dX11_told_157 (by decide) ?_
              exact V_iret E R dX11_told_161 rfl (Nat.le_refl _) (Nat.le_refl _) (Or.inl ⟨hxv, hwh, by rw [tv, tj]; show _ = some (Value.int (nI (vM A v))); rw [h16]; rfl, rfl⟩)
          · refine V_tableIn (off := 104) (tgt := 162) E dX11_told_58 (by decide) (by decide) (by decide) (by decide) ?_
            refine V_aload_n E dX11_told_162 rfl ?_
            refine V_getR E fl_X11_26 dX11_told_163 rfl hM.o (hM.r 11 (by decide)) ?_
            refine V_iload_n E dX11_told_166 rfl ?_
            refine V_ia (j := v) E dX11_told_167 (hM.k 11 21 rfl (by decide)) (@rfl _ (nI (v))) (hM.l 11 100 rfl (by decide)) (by omega) (by decide) ?_
            exact V_iret E R dX11_told_168 rfl (Nat.le_refl _) (Nat.le_refl _) (Or.inl ⟨hxv, hwh, by rw [tv, tj, (hV.G (v) (by omega))]; rfl, rfl⟩)
          · refine V_tableIn (off := 111) (tgt := 169) E dX11_told_58 (by decide) (by decide) (by decide) (by decide) ?_
            refine V_iload_n E dX11_told_169 rfl ?_
            exact V_iret E R dX11_told_170 rfl (Nat.le_refl _) (Nat.le_refl _) (Or.inl ⟨hxv, hwh, by rw [tv, tj]; show _ = some (Value.int (nI (vplots A v))); rw [show p = 60 by omega]; rfl, rfl⟩)
        · refine V_tableOut (tgt := 171) E dX11_told_58 (by rcases Int.lt_or_le wh.toInt 0 with q | q; exact Or.inl q; rcases Int.lt_or_le 8 wh.toInt with q2 | q2; exact Or.inr q2; exact absurd ⟨q, q2⟩ hwh) (by decide) ?_
          refine V_iconst (v := -1) E dX11_told_171 (by decide) ?_
          exact V_iret E R dX11_told_172 rfl (Nat.le_refl _) (Nat.le_refl _) (Or.inr ⟨fun q => hwh q.2, rfl, rfl⟩)
      | succ m ih =>
        intro p  hp
        refine V_iload E dX11_told_21 rfl ?_
        refine V_bipush (v := 60) E dX11_told_23 (by decide) ?_
        refine V_ge_no (a := p) (b := 60) (tgt := 57) E dX11_told_25 (by decide) (@rfl _ (nI (p))) (rfl : (60 : Int32) = nI 60) (by omega) (by omega) ?_
        refine V_iload_n E dX11_told_28 rfl ?_
        refine V_aload_n E dX11_told_29 rfl ?_
        refine V_getR E fl_X11_13 dX11_told_30 rfl hM.o (hM.r 7 (by decide)) ?_
        refine V_bipush (v := 60) E dX11_told_33 (by decide) ?_
        refine V_iload_n E dX11_told_35 rfl ?_
        refine V_imul E dX11_told_36 ?_
        refine V_iload E dX11_told_37 rfl ?_
        refine V_iadd E dX11_told_39 ?_
        refine V_ia (j := ((60 * v) + p)) E dX11_told_40 (hM.k 7 21 rfl (by decide)) (ni_add (a := (60 * v)) (b := p) (ni_mul (a := 60) (b := v) (rfl : (60 : Int32) = nI 60) (@rfl _ (nI (v)))) (@rfl _ (nI (p)))) (hM.l 7 6000 rfl (by decide)) (by omega) (by decide) ?_
        refine V_if_le (tgt := 48) E dX11_told_41 (by decide) (fun h41 => ?_) (fun h41 => ?_)
        · have h42 : ¬ 0 < vD A v p := by rw [hV.D v (by omega) p (by omega)] at h41; have := (nI_leI (a := vD A v p) (b := 0) (by have := sumN_one (f := vD A v) (n := 60) (i := p) (by omega); have : vdry A v = sumN (vD A v) 60 := rfl; omega) (by omega)).mp h41; omega
          refine V_iconst (v := 0) E dX11_told_48 (by decide) ?_
          refine V_iadd E dX11_told_49 ?_
          refine V_cvi (y := nI (sumN (fun p => if 0 < vD A v p then 1 else 0) (p + 1))) (by simp only [sumN, if_neg h42]; exact Int32.add_zero _) ?_
          refine V_istore_n E dX11_told_50 (by decide) rfl ?_
          refine V_iinc (v := nI (p + 1)) E dX11_told_51 rfl (ni_inc (a := p) (z := 1) (@rfl _ (nI (p)))) (by decide) rfl ?_
          refine V_goto (tgt := 21) E dX11_told_54 (by decide) ?_
          exact ih (p + 1) (by omega)
        · have h42 : 0 < vD A v p := by rcases Nat.eq_zero_or_pos (vD A v p) with e | e; exact absurd (by rw [hV.D v (by omega) p (by omega), e]; decide) h41; exact e
          refine V_iconst (v := 1) E dX11_told_44 (by decide) ?_
          refine V_goto (tgt := 49) E dX11_told_45 (by decide) ?_
          refine V_iadd E dX11_told_49 ?_
          refine V_cvi (y := nI (sumN (fun p => if 0 < vD A v p then 1 else 0) (p + 1))) (by simp only [sumN, if_pos h42]; exact nI_1 _) ?_
          refine V_istore_n E dX11_told_50 (by decide) rfl ?_
          refine V_iinc (v := nI (p + 1)) E dX11_told_51 rfl (ni_inc (a := p) (z := 1) (@rfl _ (nI (p)))) (by decide) rfl ?_
          refine V_goto (tgt := 21) E dX11_told_54 (by decide) ?_
          exact ih (p + 1) (by omega)
    exact loop (60 - 0) 0 (by omega)
  · refine V_iconst (v := -1) E dX11_told_14 (by decide) ?_
    exact V_iret E R dX11_told_15 rfl (Nat.le_refl _) (Nat.le_refl _) (Or.inr ⟨fun q => hc11 (hw.mpr q.1), rfl, rfl⟩)
