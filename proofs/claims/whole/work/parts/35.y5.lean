theorem cy_areCounts (l : Launch) (d : Nat) (S : GS) (m s f : Int32) : GC l (d + 1) yX10_areCounts cX10_areCounts 3 (some FieldType.boolean) [.int m, .int s, .int f] S (fun r S2 => r = some (.int (bi (cCut m s f))) ∧ S2 = S) (0) (0) := by
  refine GC.ofV (by decide) (Nat.le_of_ble_eq_true rfl) (fun X hl E R hnm => ?_)
  subst hl
  have E : En X RX10 cX10_areCounts 3 (d + 1) (0) (0) := E
  have R : Rt X (some FieldType.boolean) (fun r S2 => r = some (.int (bi (cCut m s f))) ∧ S2 = S) := R
  refine V_iload_n E dX10_areCounts_0 rfl ?_
  refine V_iconst (v := 0) E dX10_areCounts_1 (by decide) ?_
  refine V_bipush (v := 100) E dX10_areCounts_2 (by decide) ?_
  refine V_callS E (cy_isWithin (x_l X) d S _ _ _) ml_X10_61 ms_X10_isWithin dX10_areCounts_4 rfl (by simp [Value.category]) (by omega) (by omega) (by omega) (fun r S2 hp => ?_)
  obtain ⟨rfl, hS2⟩ := hp
  obtain rfl := hS2.symm
  refine V_ifeq_b (tgt := 44) E dX10_areCounts_7 (by decide) (fun hc7 => ?_) (fun hc7 => ?_)
  · have w7 : ¬ wi_ m 0 100 := fun q => hc7 ((wi_iff (by decide) (by decide)).mpr q)
    refine V_iconst (v := 0) E dX10_areCounts_44 (by decide) ?_
    exact V_iret E R dX10_areCounts_45 rfl (Nat.le_refl _) (Nat.le_refl _) ⟨by rw [bi_f (fun q => w7 q.1.1)], rfl⟩
  · have w7 : wi_ m 0 100 := (wi_iff (by decide) (by decide)).mp hc7
    refine V_iload_n E dX10_areCounts_10 rfl ?_
    refine V_iconst (v := 0) E dX10_areCounts_11 (by decide) ?_
    refine V_bipush (v := 100) E dX10_areCounts_12 (by decide) ?_
    refine V_callS E (cy_isWithin (x_l X) d S _ _ _) ml_X10_61 ms_X10_isWithin dX10_areCounts_14 rfl (by simp [Value.category]) (by omega) (by omega) (by omega) (fun r S2 hp => ?_)
    obtain ⟨rfl, hS2⟩ := hp
    obtain rfl := hS2.symm
    refine V_ifeq_b (tgt := 44) E dX10_areCounts_17 (by decide) (fun hc17 => ?_) (fun hc17 => ?_)
    · have w17 : ¬ wi_ s 0 100 := fun q => hc17 ((wi_iff (by decide) (by decide)).mpr q)
      refine V_iconst (v := 0) E dX10_areCounts_44 (by decide) ?_
      exact V_iret E R dX10_areCounts_45 rfl (Nat.le_refl _) (Nat.le_refl _) ⟨by rw [bi_f (fun q => w17 q.1.2.1)], rfl⟩
    · have w17 : wi_ s 0 100 := (wi_iff (by decide) (by decide)).mp hc17
      refine V_iload_n E dX10_areCounts_20 rfl ?_
      refine V_iconst (v := 0) E dX10_areCounts_21 (by decide) ?_
      refine V_bipush (v := 100) E dX10_areCounts_22 (by decide) ?_
      refine V_callS E (cy_isWithin (x_l X) d S _ _ _) ml_X10_61 ms_X10_isWithin dX10_areCounts_24 rfl (by simp [Value.category]) (by omega) (by omega) (by omega) (fun r S2 hp => ?_)
      obtain ⟨rfl, hS2⟩ := hp
      obtain rfl := hS2.symm
      refine V_ifeq_b (tgt := 44) E dX10_areCounts_27 (by decide) (fun hc27 => ?_) (fun hc27 => ?_)
      · have w27 : ¬ wi_ f 0 100 := fun q => hc27 ((wi_iff (by decide) (by decide)).mpr q)
        refine V_iconst (v := 0) E dX10_areCounts_44 (by decide) ?_
        exact V_iret E R dX10_areCounts_45 rfl (Nat.le_refl _) (Nat.le_refl _) ⟨by rw [bi_f (fun q => w27 q.1.2.2)], rfl⟩
      · have w27 : wi_ f 0 100 := (wi_iff (by decide) (by decide)).mp hc27
        refine V_iload_n E dX10_areCounts_30 rfl ?_
        refine V_iload_n E dX10_areCounts_31 rfl ?_
        refine V_iadd E dX10_areCounts_32 ?_
        refine V_iload_n E dX10_areCounts_33 rfl ?_
        refine V_iadd E dX10_areCounts_34 ?_
        refine V_bipush (v := 100) E dX10_areCounts_35 (by decide) ?_
        refine V_icmp_gt (tgt := 44) E dX10_areCounts_37 (by decide) (fun h39 => ?_) (fun h39 => ?_)
        · obtain ⟨a, rfl, ta, la, ua, -⟩ := wi_nat w7 (by omega); obtain ⟨b, rfl, tb, lb, ub, -⟩ := wi_nat w17 (by omega); obtain ⟨e, rfl, te, le_, ue, -⟩ := wi_nat w27 (by omega)
          have g39 : ¬ a + b + e ≤ 100 := fun q => absurd (nI_le (a := a + b + e) (b := 100) q (by omega)) (Int32.not_le.mpr (by rw [nI_add, nI_add] at h39; exact h39))
          refine V_iconst (v := 0) E dX10_areCounts_44 (by decide) ?_
          exact V_iret E R dX10_areCounts_45 rfl (Nat.le_refl _) (Nat.le_refl _) ⟨by rw [bi_f (fun q => g39 (by have := q.2; rw [ta, tb, te] at this; exact this))], rfl⟩
        · obtain ⟨a, rfl, ta, la, ua, -⟩ := wi_nat w7 (by omega); obtain ⟨b, rfl, tb, lb, ub, -⟩ := wi_nat w17 (by omega); obtain ⟨e, rfl, te, le_, ue, -⟩ := wi_nat w27 (by omega)
          have g39 : a + b + e ≤ 100 := (nI_leI (a := a + b + e) (b := 100) (by omega) (by omega)).mp (by rw [nI_add, nI_add] at h39; exact Int32.not_lt.mp h39)
          refine V_iconst (v := 1) E dX10_areCounts_40 (by decide) ?_
          refine V_goto (tgt := 45) E dX10_areCounts_41 (by decide) ?_
          exact V_iret E R dX10_areCounts_45 rfl (Nat.le_refl _) (Nat.le_refl _) ⟨by rw [bi_t ⟨⟨w7, w17, w27⟩, by rw [ta, tb, te]; exact g39⟩], rfl⟩

theorem cy_mayBeCut (l : Launch) (d : Nat) (S : GS) (A : AV) (t : Nat) (hO : VOK A t) (hQ : YOK S) (hY : YVes S A) (v : Nat) (hv : v < vn A) : GC l (d + 1) yX7_mayBeCut cX7_mayBeCut 1 (some FieldType.boolean) [.ref (1000 + v)] S (fun r S2 => r = some (.int (bi (vwt A v ≠ 0 ∧ (vC A v = 0 ∨ (vC A v = 1 ∧ vG A v = 3))))) ∧ S2 = S) (0) (0) := by
  refine GC.ofV (by decide) (Nat.le_of_ble_eq_true rfl) (fun X hl E R hnm => ?_)
  subst hl
  have E : En X RX7 cX7_mayBeCut 1 (d + 1) (0) (0) := E
  have R : Rt X (some FieldType.boolean) (fun r S2 => r = some (.int (bi (vwt A v ≠ 0 ∧ (vC A v = 0 ∨ (vC A v = 1 ∧ vG A v = 3))))) ∧ S2 = S) := R
  have h1 := hO.1
  have h2 := hO.2.1
  have h3 := hO.2.2.1 v hv
  have ewv : vwt A v = vdry A v + vW A v := rfl
  refine V_aload_n E dX7_mayBeCut_0 rfl ?_
  refine V_callV E (cy_weight (x_l X) d S A t hO hQ hY v hv) ml_X7_25 mv_X7_weight (hY.ok v hv) dX7_mayBeCut_1 rfl (by simp [Value.category]) (by omega) (by omega) (by omega) (fun r S2 hp => ?_)
  obtain ⟨rfl, hS2⟩ := hp
  obtain rfl := hS2.symm
  refine V_if_le (tgt := 34) E dX7_mayBeCut_4 (by decide) (fun h4 => ?_) (fun h4 => ?_)
  · have g4 : vwt A v = 0 := by have := (nI_leI (a := vwt A v) (b := 0) (by omega) (by omega)).mp h4; omega
    refine V_iconst (v := 0) E dX7_mayBeCut_34 (by decide) ?_
    exact V_iret E R dX7_mayBeCut_35 rfl (Nat.le_refl _) (Nat.le_refl _) ⟨by rw [bi_f (by omega)], rfl⟩
  · have g4 : vwt A v ≠ 0 := fun e => h4 (by rw [e]; decide)
    refine V_aload_n E dX7_mayBeCut_7 rfl ?_
    refine V_getI E fl_X7_34 dX7_mayBeCut_8 rfl (hY.ok v hv) ?_
    refine V_if_eq (tgt := 30) E dX7_mayBeCut_11 (by decide) (fun h11 => ?_) (fun h11 => ?_)
    · have g11 : vC A v = 0 := (nI_eq (a := vC A v) (b := 0) (by omega) (by omega)).mp ((hY.C v hv).symm.trans h11)
      refine V_iconst (v := 1) E dX7_mayBeCut_30 (by decide) ?_
      refine V_goto (tgt := 35) E dX7_mayBeCut_31 (by decide) ?_
      exact V_iret E R dX7_mayBeCut_35 rfl (Nat.le_refl _) (Nat.le_refl _) ⟨by rw [bi_t (by omega)], rfl⟩
    · have g11 : vC A v ≠ 0 := fun e => h11 ((hY.C v hv).trans (by rw [e]; rfl))
      refine V_aload_n E dX7_mayBeCut_14 rfl ?_
      refine V_getI E fl_X7_34 dX7_mayBeCut_15 rfl (hY.ok v hv) ?_
      refine V_iconst (v := 1) E dX7_mayBeCut_18 (by decide) ?_
      refine V_icmp_ne (tgt := 34) E dX7_mayBeCut_19 (by decide) (fun h19 => ?_) (fun h19 => ?_)
      · have g19 : vC A v ≠ 1 := fun e => h19 ((hY.C v hv).trans (by rw [e]; rfl))
        refine V_iconst (v := 0) E dX7_mayBeCut_34 (by decide) ?_
        exact V_iret E R dX7_mayBeCut_35 rfl (Nat.le_refl _) (Nat.le_refl _) ⟨by rw [bi_f (by omega)], rfl⟩
      · have g19 : vC A v = 1 := (nI_eq (a := vC A v) (b := 1) (by omega) (by omega)).mp ((hY.C v hv).symm.trans h19)
        refine V_aload_n E dX7_mayBeCut_22 rfl ?_
        refine V_getI E fl_X7_71 dX7_mayBeCut_23 rfl (hY.ok v hv) ?_
        refine V_iconst (v := 3) E dX7_mayBeCut_26 (by decide) ?_
        refine V_icmp_ne (tgt := 34) E dX7_mayBeCut_27 (by decide) (fun h27 => ?_) (fun h27 => ?_)
        · have g27 : vG A v ≠ 3 := fun e => h27 ((hY.G v hv).trans (by rw [e]; rfl))
          refine V_iconst (v := 0) E dX7_mayBeCut_34 (by decide) ?_
          exact V_iret E R dX7_mayBeCut_35 rfl (Nat.le_refl _) (Nat.le_refl _) ⟨by rw [bi_f (by omega)], rfl⟩
        · have g27 : vG A v = 3 := (nI_eq (a := vG A v) (b := 3) (by omega) (by omega)).mp ((hY.G v hv).symm.trans h27)
          refine V_iconst (v := 1) E dX7_mayBeCut_30 (by decide) ?_
          refine V_goto (tgt := 35) E dX7_mayBeCut_31 (by decide) ?_
          exact V_iret E R dX7_mayBeCut_35 rfl (Nat.le_refl _) (Nat.le_refl _) ⟨by rw [bi_t (by omega)], rfl⟩

theorem cy_takeCut (l : Launch) (d : Nat) (S : GS) (A : AV) (t : Nat) (hO : VOK A t) (hQ : YOK S) (hY : YVes S A) (v : Nat) (hv : v < vn A) (a b e : Nat) (ha : a ≤ 100) (hb : b ≤ 100) (he : e ≤ 100) : GC l (d) yX7_takeCut cX7_takeCut 4 none [.ref (1000 + v), .int (nI a), .int (nI b), .int (nI e)] S (fun r S2 => r = none ∧ S2 = yCut S v (vC A v) (gCut A v a b e)) (0) (0) := by
  refine GC.ofV (by decide) (Nat.le_of_ble_eq_true rfl) (fun X hl E R hnm => ?_)
  subst hl
  have E : En X RX7 cX7_takeCut 4 (d) (0) (0) := E
  have R : Rt X none (fun r S2 => r = none ∧ S2 = yCut S v (vC A v) (gCut A v a b e)) := R
  have h1 := hO.1
  have h2 := hO.2.1
  have h3 := hO.2.2.1 v hv
  have ewv : vwt A v = vdry A v + vW A v := rfl
  refine V_aload_n E dX7_takeCut_0 rfl ?_
  refine V_dup E dX7_takeCut_1 rfl ?_
  refine V_getI E fl_X7_34 dX7_takeCut_2 rfl (hY.ok v hv) ?_
  refine V_iconst (v := 1) E dX7_takeCut_5 (by decide) ?_
  refine V_iadd E dX7_takeCut_6 ?_
  refine V_cvi (y := nI (((vC A v) + 1))) (ni_add (a := (vC A v)) (b := 1) (hY.C v hv) (rfl : (1 : Int32) = nI 1)) ?_
  refine V_putI E fl_X7_34 dX7_takeCut_7 rfl (hY.ok v hv) ⟨rfl, rfl⟩ rfl ?_
  have k4 : fI (sI S (1000 + v) 7 (nI (vC A v + 1))) (1000 + v) 4 = nI (vT A v) := by rw [fI_sI, up2_nk (by decide)]; exact hY.T v hv
  have K51 : ¬ c1Cut A v a b e → V X 51 [some (.ref (1000 + v)), some (.int (nI (a))), some (.int (nI (b))), some (.int (nI (e)))] [] (sI S (1000 + v) 7 (nI (vC A v + 1))) 0 0 := by
    intro hn1
    refine V_iload_n E dX7_takeCut_51 rfl ?_
    refine V_iconst (v := 4) E dX7_takeCut_52 (by decide) ?_
    refine V_icmp_gt (tgt := 76) E dX7_takeCut_53 (by decide) (fun h53 => ?_) (fun h53 => ?_)
    · have g53 : ¬ a ≤ 4 := fun q => absurd (nI_le (a := a) (b := 4) q (by omega)) (Int32.not_le.mpr h53)
      refine V_aload_n E dX7_takeCut_76 rfl ?_
      refine V_iconst (v := 3) E dX7_takeCut_77 (by decide) ?_
      refine V_putI E fl_X7_71 dX7_takeCut_78 rfl (hY.ok v hv) ⟨rfl, rfl⟩ rfl ?_
      exact V_vret E R dX7_takeCut_81 (Nat.le_refl _) (Nat.le_refl _) ⟨rfl, by rw [gCut_3 hn1 (fun q => g53 q.1)]; rfl⟩
    · have g53 : a ≤ 4 := (nI_leI (a := a) (b := 4) (by omega) (by omega)).mp (Int32.not_lt.mp h53)
      refine V_iload_n E dX7_takeCut_56 rfl ?_
      refine V_bipush (v := 8) E dX7_takeCut_57 (by decide) ?_
      refine V_icmp_gt (tgt := 76) E dX7_takeCut_59 (by decide) (fun h59 => ?_) (fun h59 => ?_)
      · have g59 : ¬ b ≤ 8 := fun q => absurd (nI_le (a := b) (b := 8) q (by omega)) (Int32.not_le.mpr h59)
        refine V_aload_n E dX7_takeCut_76 rfl ?_
        refine V_iconst (v := 3) E dX7_takeCut_77 (by decide) ?_
        refine V_putI E fl_X7_71 dX7_takeCut_78 rfl (hY.ok v hv) ⟨rfl, rfl⟩ rfl ?_
        exact V_vret E R dX7_takeCut_81 (Nat.le_refl _) (Nat.le_refl _) ⟨rfl, by rw [gCut_3 hn1 (fun q => g59 q.2.1)]; rfl⟩
      · have g59 : b ≤ 8 := (nI_leI (a := b) (b := 8) (by omega) (by omega)).mp (Int32.not_lt.mp h59)
        refine V_iload_n E dX7_takeCut_62 rfl ?_
        refine V_bipush (v := 6) E dX7_takeCut_63 (by decide) ?_
        refine V_icmp_gt (tgt := 76) E dX7_takeCut_65 (by decide) (fun h65 => ?_) (fun h65 => ?_)
        · have g65 : ¬ e ≤ 6 := fun q => absurd (nI_le (a := e) (b := 6) q (by omega)) (Int32.not_le.mpr h65)
          refine V_aload_n E dX7_takeCut_76 rfl ?_
          refine V_iconst (v := 3) E dX7_takeCut_77 (by decide) ?_
          refine V_putI E fl_X7_71 dX7_takeCut_78 rfl (hY.ok v hv) ⟨rfl, rfl⟩ rfl ?_
          exact V_vret E R dX7_takeCut_81 (Nat.le_refl _) (Nat.le_refl _) ⟨rfl, by rw [gCut_3 hn1 (fun q => g65 q.2.2)]; rfl⟩
        · have g65 : e ≤ 6 := (nI_leI (a := e) (b := 6) (by omega) (by omega)).mp (Int32.not_lt.mp h65)
          refine V_aload_n E dX7_takeCut_68 rfl ?_
          refine V_iconst (v := 2) E dX7_takeCut_69 (by decide) ?_
          refine V_putI E fl_X7_71 dX7_takeCut_70 rfl (hY.ok v hv) ⟨rfl, rfl⟩ rfl ?_
          refine V_goto (tgt := 81) E dX7_takeCut_73 (by decide) ?_
          exact V_vret E R dX7_takeCut_81 (Nat.le_refl _) (Nat.le_refl _) ⟨rfl, by rw [gCut_2 hn1 ⟨g53, g59, g65⟩]; rfl⟩
  refine V_iload_n E dX7_takeCut_10 rfl ?_
  refine V_iconst (v := 3) E dX7_takeCut_11 (by decide) ?_
  refine V_icmp_gt (tgt := 51) E dX7_takeCut_12 (by decide) (fun h12 => ?_) (fun h12 => ?_)
  · have g12 : ¬ a ≤ 3 := fun q => absurd (nI_le (a := a) (b := 3) q (by omega)) (Int32.not_le.mpr h12)
    exact K51 (fun q => g12 q.1)
  · have g12 : a ≤ 3 := (nI_leI (a := a) (b := 3) (by omega) (by omega)).mp (Int32.not_lt.mp h12)
    refine V_iload_n E dX7_takeCut_15 rfl ?_
    refine V_iconst (v := 3) E dX7_takeCut_16 (by decide) ?_
    refine V_icmp_gt (tgt := 51) E dX7_takeCut_17 (by decide) (fun h17 => ?_) (fun h17 => ?_)
    · have g17 : ¬ b ≤ 3 := fun q => absurd (nI_le (a := b) (b := 3) q (by omega)) (Int32.not_le.mpr h17)
      exact K51 (fun q => g17 q.2.1)
    · have g17 : b ≤ 3 := (nI_leI (a := b) (b := 3) (by omega) (by omega)).mp (Int32.not_lt.mp h17)
      refine V_iload_n E dX7_takeCut_20 rfl ?_
      refine V_iconst (v := 3) E dX7_takeCut_21 (by decide) ?_
      refine V_icmp_gt (tgt := 51) E dX7_takeCut_22 (by decide) (fun h22 => ?_) (fun h22 => ?_)
      · have g22 : ¬ e ≤ 3 := fun q => absurd (nI_le (a := e) (b := 3) q (by omega)) (Int32.not_le.mpr h22)
        exact K51 (fun q => g22 q.2.2.1)
      · have g22 : e ≤ 3 := (nI_leI (a := e) (b := 3) (by omega) (by omega)).mp (Int32.not_lt.mp h22)
        refine V_aload_n E dX7_takeCut_25 rfl ?_
        refine V_getI E fl_X7_37 dX7_takeCut_26 rfl (hY.ok v hv) ?_
        refine V_bipush (v := 50) E dX7_takeCut_29 (by decide) ?_
        refine V_icmp_lt (tgt := 51) E dX7_takeCut_31 (by decide) (fun h31 => ?_) (fun h31 => ?_)
        · have g31 : ¬ 50 ≤ vT A v := fun q => absurd (nI_le (a := 50) (b := vT A v) q (by omega)) (by rw [← k4]; exact Int32.not_le.mpr h31)
          exact K51 (fun q => g31 q.2.2.2.1)
        · have g31 : 50 ≤ vT A v := (nI_leI (a := 50) (b := vT A v) (by omega) (by omega)).mp (by rw [← k4]; exact Int32.not_lt.mp h31)
          refine V_aload_n E dX7_takeCut_34 rfl ?_
          refine V_getI E fl_X7_37 dX7_takeCut_35 rfl (hY.ok v hv) ?_
          refine V_bipush (v := 90) E dX7_takeCut_38 (by decide) ?_
          refine V_icmp_gt (tgt := 51) E dX7_takeCut_40 (by decide) (fun h40 => ?_) (fun h40 => ?_)
          · have g40 : ¬ vT A v ≤ 90 := fun q => absurd (nI_le (a := vT A v) (b := 90) q (by omega)) (by rw [← k4]; exact Int32.not_le.mpr h40)
            exact K51 (fun q => g40 q.2.2.2.2)
          · have g40 : vT A v ≤ 90 := (nI_leI (a := vT A v) (b := 90) (by omega) (by omega)).mp (by rw [← k4]; exact Int32.not_lt.mp h40)
            refine V_aload_n E dX7_takeCut_43 rfl ?_
            refine V_iconst (v := 1) E dX7_takeCut_44 (by decide) ?_
            refine V_putI E fl_X7_71 dX7_takeCut_45 rfl (hY.ok v hv) ⟨rfl, rfl⟩ rfl ?_
            refine V_goto (tgt := 81) E dX7_takeCut_48 (by decide) ?_
            exact V_vret E R dX7_takeCut_81 (Nat.le_refl _) (Nat.le_refl _) ⟨rfl, by rw [gCut_1 ⟨g12, g17, g22, g31, g40⟩]; rfl⟩

theorem cy_cut (l : Launch) (d : Nat) (S : GS) (A : AV) (t : Nat) (hO : VOK A t) (hQ : YOK S) (hY : YVes S A) (x m s f : Int32) : GC l (d + 2) yX10_cut cX10_cut 6 (some FieldType.int) [.ref 200, .int x, .int m, .int s, .int f] S (fun r S2 => (pCut A x m s f ∧ r = some (.int (nI (gCut A (tn x) (tn m) (tn s) (tn f)))) ∧ S2 = yCut S (tn x) (vC A (tn x)) (gCut A (tn x) (tn m) (tn s) (tn f))) ∨ (¬ pCut A x m s f ∧ r = some (.int (-1)) ∧ S2 = S)) (0) (0) := by
  refine GC.ofV (by decide) (Nat.le_of_ble_eq_true rfl) (fun X hl E R hnm => ?_)
  subst hl
  have E : En X RX10 cX10_cut 6 (d + 2) (0) (0) := E
  have R : Rt X (some FieldType.int) (fun r S2 => (pCut A x m s f ∧ r = some (.int (nI (gCut A (tn x) (tn m) (tn s) (tn f)))) ∧ S2 = yCut S (tn x) (vC A (tn x)) (gCut A (tn x) (tn m) (tn s) (tn f))) ∨ (¬ pCut A x m s f ∧ r = some (.int (-1)) ∧ S2 = S)) := R
  have hn := hO.1
  refine V_aload_n E dX10_cut_0 rfl ?_
  refine V_iconst (v := 3) E dX10_cut_1 (by decide) ?_
  refine V_iload_n E dX10_cut_2 rfl ?_
  refine V_callV E (cy_vesselOf (x_l X) d S A t hO hQ hY 3 (by omega) x) ml_X10_57 mv_X10_vesselOf (hQ.k 200 11 rfl (by decide)) dX10_cut_3 rfl (by simp [Value.category]) (by omega) (by omega) (by omega) (fun r S2 hp => ?_)
  rcases hp with ⟨hx, rfl, hS2⟩ | ⟨hx, rfl, hS2⟩
  · obtain rfl := hS2.symm
    obtain ⟨v, rfl, tv, lv, uv, -⟩ := wi_nat hx.1 (by omega)
    have hk : vK A v = 3 := by rw [← tv]; exact hx.2
    rw [tv]
    have h3 := hO.2.2.1 v (by omega)
    have ewv : vwt A v = vdry A v + vW A v := rfl
    refine V_astore E dX10_cut_6 (by decide) rfl ?_
    refine V_aload E dX10_cut_8 rfl ?_
    refine V_ifnull E dX10_cut_10 ?_
    refine V_aload E dX10_cut_13 rfl ?_
    refine V_callV E (cy_mayBeCut (x_l X) d S A t hO hQ hY v (by omega)) ml_X10_102 mv_X7_mayBeCut (hY.ok v (by omega)) dX10_cut_15 rfl (by simp [Value.category]) (by omega) (by omega) (by omega) (fun r S2 hp => ?_)
    obtain ⟨rfl, hS2⟩ := hp
    obtain rfl := hS2.symm
    refine V_ifeq_b (tgt := 31) E dX10_cut_18 (by decide) (fun hc18 => ?_) (fun hc18 => ?_)
    · refine V_iconst (v := -1) E dX10_cut_31 (by decide) ?_
      exact V_iret E R dX10_cut_32 rfl (Nat.le_refl _) (Nat.le_refl _) (Or.inr ⟨fun q => hc18 (by have h8 := q.2.1; have h9 := q.2.2.2; rw [tv] at h8 h9; exact ⟨h8, h9⟩), rfl, rfl⟩)
    · refine V_iload_n E dX10_cut_21 rfl ?_
      refine V_iload_n E dX10_cut_22 rfl ?_
      refine V_iload E dX10_cut_23 rfl ?_
      refine V_callS E (cy_areCounts (x_l X) d S m s f) ml_X10_106 ms_X10_areCounts dX10_cut_25 rfl (by simp [Value.category]) (by omega) (by omega) (by omega) (fun r S2 hp => ?_)
      obtain ⟨rfl, hS2⟩ := hp
      obtain rfl := hS2.symm
      refine V_ifne_b (tgt := 33) E dX10_cut_28 (by decide) (fun hc28 => ?_) (fun hc28 => ?_)
      · obtain ⟨⟨q1, q2, q3⟩, q4⟩ := id hc28
        obtain ⟨a, rfl, ta, la, ua, -⟩ := wi_nat q1 (by omega)
        obtain ⟨b, rfl, tb, lb, ub, -⟩ := wi_nat q2 (by omega)
        obtain ⟨e, rfl, te, le, ue, -⟩ := wi_nat q3 (by omega)
        refine V_aload E dX10_cut_33 rfl ?_
        refine V_iload_n E dX10_cut_35 rfl ?_
        refine V_iload_n E dX10_cut_36 rfl ?_
        refine V_iload E dX10_cut_37 rfl ?_
        refine V_callV E (cy_takeCut (x_l X) d S A t hO hQ hY v (by omega) a b e (by omega) (by omega) (by omega)) ml_X10_109 mv_X7_takeCut (hY.ok v (by omega)) dX10_cut_39 rfl (by simp [Value.category]) (by omega) (by omega) (by omega) (fun r S2 hp => ?_)
        obtain ⟨rfl, rfl⟩ := hp
        refine V_aload E dX10_cut_42 rfl ?_
        refine V_getIN E fn_X10_112 dX10_cut_44 rfl (hY.ok v (by omega)) ?_
        exact V_iret E R dX10_cut_47 rfl (Nat.le_refl _) (Nat.le_refl _) (Or.inl ⟨⟨hx, by rw [tv]; exact hc18.1, hc28, by rw [tv]; exact hc18.2⟩, by rw [tv, ta, tb, te]; unfold yCut; rw [fI_sI, up2_at], by rw [tv, ta, tb, te]⟩)
      · refine V_iconst (v := -1) E dX10_cut_31 (by decide) ?_
        exact V_iret E R dX10_cut_32 rfl (Nat.le_refl _) (Nat.le_refl _) (Or.inr ⟨fun q => hc28 q.2.2.1, rfl, rfl⟩)
  · obtain rfl := hS2.symm
    refine V_astoreN E dX10_cut_6 (by decide) rfl ?_
    refine V_aloadN E dX10_cut_8 rfl ?_
    refine V_ifnullN (tgt := 31) E dX10_cut_10 (by decide) ?_
    refine V_iconst (v := -1) E dX10_cut_31 (by decide) ?_
    exact V_iret E R dX10_cut_32 rfl (Nat.le_refl _) (Nat.le_refl _) (Or.inr ⟨fun q => hx q.1, rfl, rfl⟩)
