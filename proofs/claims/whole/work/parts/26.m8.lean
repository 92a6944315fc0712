theorem cm_mayMove (l : Launch) (d : Nat) (S : GS) (A : AV) (t : Nat) (hO : VOK A t) (hM : MOK S) (hV : MVes S A) (x z : Int32) : GC l (d + 3) yX11_mayMove cX11_mayMove 5 (some FieldType.boolean) [.ref 0, .int x, .int z] S (fun r S2 => r = some (.int (bi (pMay A x z))) ∧ S2 = S) (0) (0) := by
  refine GC.ofV (by decide) (Nat.le_of_ble_eq_true rfl) (fun X hl E R hnm => ?_)
  subst hl
  have E : En X RX11 cX11_mayMove 5 (d + 3) (0) (0) := E
  have R : Rt X (some FieldType.boolean) (fun r S2 => r = some (.int (bi (pMay A x z))) ∧ S2 = S) := R
  have hn := hO.1
  have hw : ∀ x : Int32, (0 ≤ x ∧ x ≤ fI S 0 1 - 1) ↔ wi_ x 0 ((vn A : Int) - 1) := fun x => wi_iff rfl (by rw [hV.n]; exact nI_m1 (by omega))
  refine V_iload_n E dX11_mayMove_0 rfl ?_
  refine V_iconst (v := 0) E dX11_mayMove_1 (by decide) ?_
  refine V_aload_n E dX11_mayMove_2 rfl ?_
  refine V_getI E fl_X11_111 dX11_mayMove_3 rfl hM.o ?_
  refine V_iconst (v := 1) E dX11_mayMove_6 (by decide) ?_
  refine V_isub E dX11_mayMove_7 ?_
  refine V_callS E (cm_in (x_l X) 0 S _ _ _) ml_X11_115 ms_X11_in dX11_mayMove_8 rfl (by simp [Value.category]) (by omega) (by omega) (by omega) (fun r S2 hp => ?_)
  obtain ⟨rfl, hS2⟩ := hp
  obtain rfl := hS2.symm
  refine V_ifeq_b (tgt := 33) E dX11_mayMove_11 (by decide) (fun hc11 => ?_) (fun hc11 => ?_)
  · refine V_iconst (v := 0) E dX11_mayMove_33 (by decide) ?_
    exact V_iret E R dX11_mayMove_34 rfl (Nat.le_refl _) (Nat.le_refl _) ⟨by rw [bi_f (fun q => hc11 ((hw _).mpr q.1.1))], rfl⟩
  · obtain ⟨v, rfl, tv, lv, uv, -⟩ := wi_nat ((hw x).mp hc11) (by omega)
    have h3 := hO.2.2.1 v (by omega)
    refine V_iload_n E dX11_mayMove_14 rfl ?_
    refine V_iconst (v := 0) E dX11_mayMove_15 (by decide) ?_
    refine V_aload_n E dX11_mayMove_16 rfl ?_
    refine V_getI E fl_X11_111 dX11_mayMove_17 rfl hM.o ?_
    refine V_iconst (v := 1) E dX11_mayMove_20 (by decide) ?_
    refine V_isub E dX11_mayMove_21 ?_
    refine V_callS E (cm_in (x_l X) 0 S _ _ _) ml_X11_115 ms_X11_in dX11_mayMove_22 rfl (by simp [Value.category]) (by omega) (by omega) (by omega) (fun r S2 hp => ?_)
    obtain ⟨rfl, hS2⟩ := hp
    obtain rfl := hS2.symm
    refine V_ifeq_b (tgt := 33) E dX11_mayMove_25 (by decide) (fun hc25 => ?_) (fun hc25 => ?_)
    · refine V_iconst (v := 0) E dX11_mayMove_33 (by decide) ?_
      exact V_iret E R dX11_mayMove_34 rfl (Nat.le_refl _) (Nat.le_refl _) ⟨by rw [bi_f (fun q => hc25 ((hw _).mpr q.1.2.1))], rfl⟩
    · obtain ⟨u, rfl, tu, lu, uu, -⟩ := wi_nat ((hw z).mp hc25) (by omega)
      have h4 := hO.2.2.1 u (by omega)
      refine V_iload_n E dX11_mayMove_28 rfl ?_
      refine V_iload_n E dX11_mayMove_29 rfl ?_
      refine V_icmp_ne (tgt := 35) E dX11_mayMove_30 (by decide) (fun h30 => ?_) (fun h30 => ?_)
      · have g30 : v ≠ u := fun e => h30 (by rw [e])
        refine V_aload_n E dX11_mayMove_35 rfl ?_
        refine V_getR E fl_X11_9 dX11_mayMove_36 rfl hM.o (hM.r 6 (by decide)) ?_
        refine V_iload_n E dX11_mayMove_39 rfl ?_
        refine V_ia (j := v) E dX11_mayMove_40 (hM.k 6 21 rfl (by decide)) (@rfl _ (nI (v))) (hM.l 6 100 rfl (by decide)) (by omega) (by decide) ?_
        refine V_cvi (y := nI ((vK A (v)))) (hV.K (v) (by omega)) ?_
        refine V_istore_n E dX11_mayMove_41 (by decide) rfl ?_
        refine V_aload_n E dX11_mayMove_42 rfl ?_
        refine V_getR E fl_X11_9 dX11_mayMove_43 rfl hM.o (hM.r 6 (by decide)) ?_
        refine V_iload_n E dX11_mayMove_46 rfl ?_
        refine V_ia (j := u) E dX11_mayMove_47 (hM.k 6 21 rfl (by decide)) (@rfl _ (nI (u))) (hM.l 6 100 rfl (by decide)) (by omega) (by decide) ?_
        refine V_cvi (y := nI ((vK A (u)))) (hV.K (u) (by omega)) ?_
        refine V_istore E dX11_mayMove_48 (by decide) rfl ?_
        refine V_iload_n E dX11_mayMove_50 rfl ?_
        refine V_iconst (v := 3) E dX11_mayMove_51 (by decide) ?_
        refine V_icmp_eq (tgt := 69) E dX11_mayMove_52 (by decide) (fun h52 => ?_) (fun h52 => ?_)
        · have g52 : vK A v = 3 := (nI_eq (a := vK A v) (b := 3) (by omega) (by omega)).mp h52
          refine V_iconst (v := 0) E dX11_mayMove_69 (by decide) ?_
          exact V_iret E R dX11_mayMove_70 rfl (Nat.le_refl _) (Nat.le_refl _) ⟨by rw [bi_f (fun q => q.2.1.1 (by rw [tv]; exact g52))], rfl⟩
        · have g52 : vK A v ≠ 3 := fun e => h52 (by rw [e]; rfl)
          refine V_iload E dX11_mayMove_55 rfl ?_
          refine V_iload_n E dX11_mayMove_57 rfl ?_
          refine V_icmp_eq (tgt := 71) E dX11_mayMove_58 (by decide) (fun h58 => ?_) (fun h58 => ?_)
          · have g58 : vK A u = vK A v := (nI_eq (by omega) (by omega)).mp h58
            refine V_iload E dX11_mayMove_71 rfl ?_
            refine V_iconst (v := 3) E dX11_mayMove_73 (by decide) ?_
            refine V_icmp_ne (tgt := 96) E dX11_mayMove_74 (by decide) (fun h74 => ?_) (fun h74 => ?_)
            · have g74 : vK A u ≠ 3 := fun e => h74 (by rw [e]; rfl)
              refine V_iconst (v := 1) E dX11_mayMove_96 (by decide) ?_
              refine V_goto (tgt := 101) E dX11_mayMove_97 (by decide) ?_
              exact V_iret E R dX11_mayMove_101 rfl (Nat.le_refl _) (Nat.le_refl _) ⟨by rw [bi_t ⟨⟨(hw _).mp hc11, (hw _).mp hc25, by rw [tv, tu]; exact g30⟩, by rw [tv, tu]; exact ⟨g52, Or.inl g58⟩, by rw [tv, tu]; exact (fun q => absurd q g74)⟩], rfl⟩
            · have g74 : vK A u = 3 := (nI_eq (a := vK A u) (b := 3) (by omega) (by omega)).mp h74
              refine V_aload_n E dX11_mayMove_77 rfl ?_
              refine V_iload_n E dX11_mayMove_78 rfl ?_
              refine V_callV E (cm_wetness (x_l X) d S A t hO hM hV v (by omega)) ml_X11_138 mv_X11_wetness hM.o dX11_mayMove_79 rfl (by simp [Value.category]) (by omega) (by omega) (by omega) (fun r S2 hp => ?_)
              obtain ⟨rfl, hS2⟩ := hp
              obtain rfl := hS2.symm
              have hwt : vwet A v ≤ 1000 := by unfold vwet; split; omega; exact Nat.div_le_of_le_mul (by rw [Nat.mul_comm (vwt A v)]; exact Nat.mul_le_mul_left _ (by unfold vwt; omega))
              refine V_bipush (v := 75) E dX11_mayMove_82 (by decide) ?_
              refine V_icmp_gt (tgt := 100) E dX11_mayMove_84 (by decide) (fun h84 => ?_) (fun h84 => ?_)
              · have g84 : ¬ vwet A v ≤ 75 := fun q => absurd (nI_le (a := vwet A v) (b := 75) q (by omega)) (Int32.not_le.mpr h84)
                refine V_iconst (v := 0) E dX11_mayMove_100 (by decide) ?_
                exact V_iret E R dX11_mayMove_101 rfl (Nat.le_refl _) (Nat.le_refl _) ⟨by rw [bi_f (fun q => g84 (by have := (q.2.2 (by rw [tu]; exact g74)).1; rw [tv] at this; exact this))], rfl⟩
              · have g84 : vwet A v ≤ 75 := (nI_leI (a := vwet A v) (b := 75) (by omega) (by omega)).mp (Int32.not_lt.mp h84)
                refine V_aload_n E dX11_mayMove_87 rfl ?_
                refine V_getR E fl_X11_29 dX11_mayMove_88 rfl hM.o (hM.r 12 (by decide)) ?_
                refine V_iload_n E dX11_mayMove_91 rfl ?_
                refine V_ia (j := u) E dX11_mayMove_92 (hM.k 12 21 rfl (by decide)) (@rfl _ (nI (u))) (hM.l 12 100 rfl (by decide)) (by omega) (by decide) ?_
                refine V_if_ne (tgt := 100) E dX11_mayMove_93 (by decide) (fun h93 => ?_) (fun h93 => ?_)
                · have g93 : vC A u ≠ 0 := fun e => h93 (by rw [hV.C u (by omega), e]; rfl)
                  refine V_iconst (v := 0) E dX11_mayMove_100 (by decide) ?_
                  exact V_iret E R dX11_mayMove_101 rfl (Nat.le_refl _) (Nat.le_refl _) ⟨by rw [bi_f (fun q => g93 (by have := (q.2.2 (by rw [tu]; exact g74)).2; rw [tu] at this; exact this))], rfl⟩
                · have g93 : vC A u = 0 := (nI_eq (a := vC A u) (b := 0) (by omega) (by omega)).mp (by rw [← hV.C u (by omega)]; exact h93)
                  refine V_iconst (v := 1) E dX11_mayMove_96 (by decide) ?_
                  refine V_goto (tgt := 101) E dX11_mayMove_97 (by decide) ?_
                  exact V_iret E R dX11_mayMove_101 rfl (Nat.le_refl _) (Nat.le_refl _) ⟨by rw [bi_t ⟨⟨(hw _).mp hc11, (hw _).mp hc25, by rw [tv, tu]; exact g30⟩, by rw [tv, tu]; exact ⟨g52, Or.inl g58⟩, by rw [tv, tu]; exact (fun _ => ⟨g84, g93⟩)⟩], rfl⟩
          · have g58 : vK A u ≠ vK A v := fun e => h58 (by rw [e])
            refine V_iload E dX11_mayMove_61 rfl ?_
            refine V_iload_n E dX11_mayMove_63 rfl ?_
            refine V_iconst (v := 1) E dX11_mayMove_64 (by decide) ?_
            refine V_iadd E dX11_mayMove_65 ?_
            refine V_icmp_eq (tgt := 71) E dX11_mayMove_66 (by decide) (fun h66 => ?_) (fun h66 => ?_)
            · have g66 : vK A u = vK A v + 1 := (nI_eq (by omega) (by omega)).mp (by rw [← nI_1]; exact h66)
              refine V_iload E dX11_mayMove_71 rfl ?_
              refine V_iconst (v := 3) E dX11_mayMove_73 (by decide) ?_
              refine V_icmp_ne (tgt := 96) E dX11_mayMove_74 (by decide) (fun h74 => ?_) (fun h74 => ?_)
              · have g74 : vK A u ≠ 3 := fun e => h74 (by rw [e]; rfl)
                refine V_iconst (v := 1) E dX11_mayMove_96 (by decide) ?_
                refine V_goto (tgt := 101) E dX11_mayMove_97 (by decide) ?_
                exact V_iret E R dX11_mayMove_101 rfl (Nat.le_refl _) (Nat.le_refl _) ⟨by rw [bi_t ⟨⟨(hw _).mp hc11, (hw _).mp hc25, by rw [tv, tu]; exact g30⟩, by rw [tv, tu]; exact ⟨g52, Or.inr g66⟩, by rw [tv, tu]; exact (fun q => absurd q g74)⟩], rfl⟩
              · have g74 : vK A u = 3 := (nI_eq (a := vK A u) (b := 3) (by omega) (by omega)).mp h74
                refine V_aload_n E dX11_mayMove_77 rfl ?_
                refine V_iload_n E dX11_mayMove_78 rfl ?_
                refine V_callV E (cm_wetness (x_l X) d S A t hO hM hV v (by omega)) ml_X11_138 mv_X11_wetness hM.o dX11_mayMove_79 rfl (by simp [Value.category]) (by omega) (by omega) (by omega) (fun r S2 hp => ?_)
                obtain ⟨rfl, hS2⟩ := hp
                obtain rfl := hS2.symm
                have hwt : vwet A v ≤ 1000 := by unfold vwet; split; omega; exact Nat.div_le_of_le_mul (by rw [Nat.mul_comm (vwt A v)]; exact Nat.mul_le_mul_left _ (by unfold vwt; omega))
                refine V_bipush (v := 75) E dX11_mayMove_82 (by decide) ?_
                refine V_icmp_gt (tgt := 100) E dX11_mayMove_84 (by decide) (fun h84 => ?_) (fun h84 => ?_)
                · have g84 : ¬ vwet A v ≤ 75 := fun q => absurd (nI_le (a := vwet A v) (b := 75) q (by omega)) (Int32.not_le.mpr h84)
                  refine V_iconst (v := 0) E dX11_mayMove_100 (by decide) ?_
                  exact V_iret E R dX11_mayMove_101 rfl (Nat.le_refl _) (Nat.le_refl _) ⟨by rw [bi_f (fun q => g84 (by have := (q.2.2 (by rw [tu]; exact g74)).1; rw [tv] at this; exact this))], rfl⟩
                · have g84 : vwet A v ≤ 75 := (nI_leI (a := vwet A v) (b := 75) (by omega) (by omega)).mp (Int32.not_lt.mp h84)
                  refine V_aload_n E dX11_mayMove_87 rfl ?_
                  refine V_getR E fl_X11_29 dX11_mayMove_88 rfl hM.o (hM.r 12 (by decide)) ?_
                  refine V_iload_n E dX11_mayMove_91 rfl ?_
                  refine V_ia (j := u) E dX11_mayMove_92 (hM.k 12 21 rfl (by decide)) (@rfl _ (nI (u))) (hM.l 12 100 rfl (by decide)) (by omega) (by decide) ?_
                  refine V_if_ne (tgt := 100) E dX11_mayMove_93 (by decide) (fun h93 => ?_) (fun h93 => ?_)
                  · have g93 : vC A u ≠ 0 := fun e => h93 (by rw [hV.C u (by omega), e]; rfl)
                    refine V_iconst (v := 0) E dX11_mayMove_100 (by decide) ?_
                    exact V_iret E R dX11_mayMove_101 rfl (Nat.le_refl _) (Nat.le_refl _) ⟨by rw [bi_f (fun q => g93 (by have := (q.2.2 (by rw [tu]; exact g74)).2; rw [tu] at this; exact this))], rfl⟩
                  · have g93 : vC A u = 0 := (nI_eq (a := vC A u) (b := 0) (by omega) (by omega)).mp (by rw [← hV.C u (by omega)]; exact h93)
                    refine V_iconst (v := 1) E dX11_mayMove_96 (by decide) ?_
                    refine V_goto (tgt := 101) E dX11_mayMove_97 (by decide) ?_
                    exact V_iret E R dX11_mayMove_101 rfl (Nat.le_refl _) (Nat.le_refl _) ⟨by rw [bi_t ⟨⟨(hw _).mp hc11, (hw _).mp hc25, by rw [tv, tu]; exact g30⟩, by rw [tv, tu]; exact ⟨g52, Or.inr g66⟩, by rw [tv, tu]; exact (fun _ => ⟨g84, g93⟩)⟩], rfl⟩
            · have g66 : vK A u ≠ vK A v + 1 := fun e => h66 (by rw [e, nI_1])
              refine V_iconst (v := 0) E dX11_mayMove_69 (by decide) ?_
              exact V_iret E R dX11_mayMove_70 rfl (Nat.le_refl _) (Nat.le_refl _) ⟨by rw [bi_f (fun q => by have := q.2.1.2; rw [tv, tu] at this; exact this.elim g58 g66)], rfl⟩
      · have g30 : v = u := (nI_eq (by omega) (by omega)).mp h30
        refine V_iconst (v := 0) E dX11_mayMove_33 (by decide) ?_
        exact V_iret E R dX11_mayMove_34 rfl (Nat.le_refl _) (Nat.le_refl _) ⟨by rw [bi_f (fun q => q.1.2.2 (by rw [g30]))], rfl⟩

theorem cm_move (l : Launch) (d : Nat) (S : GS) (A : AV) (t : Nat) (hO : VOK A t) (hM : MOK S) (hV : MVes S A) (x z gr : Int32) : GC l (d + 4) yX11_move cX11_move 9 (some FieldType.int) [.ref 0, .int x, .int z, .int gr] S (fun r S2 => (pMove A x z gr ∧ r = some (.int (nI (vwt A (tn z) + tn gr))) ∧ FrM [7, 8, 9, 15] [13, 14] S S2 ∧ MVes S2 (aMove A (tn x) (tn z) (tn gr))) ∨ (¬ pMove A x z gr ∧ r = some (.int (-1)) ∧ S2 = S)) (0) (0) := by
  refine GC.ofV (by decide) (Nat.le_of_ble_eq_true rfl) (fun X hl E R hnm => ?_)
  subst hl
  have E : En X RX11 cX11_move 9 (d + 4) (0) (0) := E
  have R : Rt X (some FieldType.int) (fun r S2 => (pMove A x z gr ∧ r = some (.int (nI (vwt A (tn z) + tn gr))) ∧ FrM [7, 8, 9, 15] [13, 14] S S2 ∧ MVes S2 (aMove A (tn x) (tn z) (tn gr))) ∨ (¬ pMove A x z gr ∧ r = some (.int (-1)) ∧ S2 = S)) := R
  have hn := hO.1
  refine V_aload_n E dX11_move_0 rfl ?_
  refine V_iload_n E dX11_move_1 rfl ?_
  refine V_iload_n E dX11_move_2 rfl ?_
  refine V_callV E (cm_mayMove (x_l X) d S A t hO hM hV x z) ml_X11_141 mv_X11_mayMove hM.o dX11_move_3 rfl (by simp [Value.category]) (by omega) (by omega) (by omega) (fun r S2 hp => ?_)
  obtain ⟨rfl, hS2⟩ := hp
  obtain rfl := hS2.symm
  refine V_ifeq_b (tgt := 35) E dX11_move_6 (by decide) (fun hc6 => ?_) (fun hc6 => ?_)
  · refine V_iconst (v := -1) E dX11_move_35 (by decide) ?_
    exact V_iret E R dX11_move_36 rfl (Nat.le_refl _) (Nat.le_refl _) (Or.inr ⟨fun q => hc6 q.1, rfl, rfl⟩)
  · obtain ⟨v, rfl, tv, lv, uv, -⟩ := wi_nat hc6.1.1 (by omega)
    obtain ⟨u, rfl, tu, lu, uu, -⟩ := wi_nat hc6.1.2.1 (by omega)
    have hvu : v ≠ u := by have := hc6.1.2.2; rw [tv, tu] at this; exact this
    have hk3 : vK A v ≠ 3 := by have := hc6.2.1.1; rw [tv] at this; exact this
    have hks : vK A u = 3 → vwet A v ≤ 75 ∧ vC A u = 0 := by have := hc6.2.2; rw [tv, tu] at this; exact this
    have h3 := hO.2.2.1 v (by omega)
    have h4 := hO.2.2.1 u (by omega)
    have h2 := hO.2.1
    have ewv : vwt A v = vdry A v + vW A v := rfl
    have ewu : vwt A u = vdry A u + vW A u := rfl
    refine V_iload_n E dX11_move_9 rfl ?_
    refine V_iconst (v := 1) E dX11_move_10 (by decide) ?_
    refine V_icmp_lt (tgt := 35) E dX11_move_11 (by decide) (fun h11 => ?_) (fun h11 => ?_)
    · have g11 : ¬ wi_ gr 1 (vwt A v) := fun q => by have h9 := q.1; rw [fa_lt] at h11; have : ((1 : Int32)).toInt = 1 := rfl; omega
      refine V_iconst (v := -1) E dX11_move_35 (by decide) ?_
      exact V_iret E R dX11_move_36 rfl (Nat.le_refl _) (Nat.le_refl _) (Or.inr ⟨fun q => g11 (by have := q.2.1; rw [tv] at this; exact this), rfl, rfl⟩)
    · have g11 : 1 ≤ gr.toInt := by rw [fa_lt] at h11; have : ((1 : Int32)).toInt = 1 := rfl; omega
      refine V_iload_n E dX11_move_14 rfl ?_
      refine V_aload_n E dX11_move_15 rfl ?_
      refine V_iload_n E dX11_move_16 rfl ?_
      refine V_callV E (cm_weight (x_l X) d S A t hO hM hV v (by omega)) ml_X11_123 mv_X11_weight hM.o dX11_move_17 rfl (by simp [Value.category]) (by omega) (by omega) (by omega) (fun r S2 hp => ?_)
      obtain ⟨rfl, hS2⟩ := hp
      obtain rfl := hS2.symm
      refine V_icmp_gt (tgt := 35) E dX11_move_20 (by decide) (fun h20 => ?_) (fun h20 => ?_)
      · have g20 : ¬ wi_ gr 1 (vwt A v) := fun q => by have h9 := q.2; rw [fa_lt, nI_toInt (by omega)] at h20; omega
        refine V_iconst (v := -1) E dX11_move_35 (by decide) ?_
        exact V_iret E R dX11_move_36 rfl (Nat.le_refl _) (Nat.le_refl _) (Or.inr ⟨fun q => g20 (by have := q.2.1; rw [tv] at this; exact this), rfl, rfl⟩)
      · have w20 : wi_ gr 1 (vwt A v) := ⟨g11, by rw [fa_lt, nI_toInt (by omega)] at h20; omega⟩
        obtain ⟨g, rfl, tg, lg, ug, -⟩ := wi_nat w20 (by omega)
        refine V_aload_n E dX11_move_23 rfl ?_
        refine V_iload_n E dX11_move_24 rfl ?_
        refine V_callV E (cm_weight (x_l X) d S A t hO hM hV u (by omega)) ml_X11_123 mv_X11_weight hM.o dX11_move_25 rfl (by simp [Value.category]) (by omega) (by omega) (by omega) (fun r S2 hp => ?_)
        obtain ⟨rfl, hS2⟩ := hp
        obtain rfl := hS2.symm
        refine V_iload_n E dX11_move_28 rfl ?_
        refine V_iadd E dX11_move_29 ?_
        refine V_ldc E dX11_move_30 kc_X11_133 ?_
        refine V_icmp_le (tgt := 37) E dX11_move_32 (by decide) (fun h32 => ?_) (fun h32 => ?_)
        · have g32 : vwt A u + g ≤ 1000000 := (nI_leI (a := vwt A u + g) (b := 1000000) (by omega) (by omega)).mp (by rw [← nI_add]; exact h32)
          have h0 : 0 < vwt A v := by omega
          have hgw : g * vW A v ≤ 100000000 * 100000000 := Nat.mul_le_mul (by omega) (by omega)
          have hmw := mvW_le (g := g) h0
          have hmw2 := mvW_leW h0 (show g ≤ vwt A v by omega)
          have hmn := mvN_le h0 (show g ≤ vwt A v by omega)
          have ht1 : vwt A u * vT A u ≤ 100000000 * 100 := Nat.mul_le_mul (by omega) h4.2.1
          have ht2 : g * vT A v ≤ 100000000 * 100 := Nat.mul_le_mul (by omega) h3.2.1
          have hmt := mvT_le (A := A) (v := v) (u := u) (show 0 < g by omega) h4.2.1 h3.2.1
          refine V_iload_n E dX11_move_37 rfl ?_
          refine V_i2l E dX11_move_38 rfl ?_
          refine V_aload_n E dX11_move_39 rfl ?_
          refine V_getR E fl_X11_16 dX11_move_40 rfl hM.o (hM.r 8 (by decide)) ?_
          refine V_iload_n E dX11_move_43 rfl ?_
          refine V_ia (j := v) E dX11_move_44 (hM.k 8 21 rfl (by decide)) (@rfl _ (nI (v))) (hM.l 8 100 rfl (by decide)) (by omega) (by decide) ?_
          refine V_i2l E dX11_move_45 rfl ?_
          refine V_lmul E dX11_move_46 ?_
          refine V_aload_n E dX11_move_47 rfl ?_
          refine V_iload_n E dX11_move_48 rfl ?_
          refine V_callV E (cm_weight (x_l X) d S A t hO hM hV v (by omega)) ml_X11_123 mv_X11_weight hM.o dX11_move_49 rfl (by simp [Value.category]) (by omega) (by omega) (by omega) (fun r S2 hp => ?_)
          obtain ⟨rfl, hS2⟩ := hp
          obtain rfl := hS2.symm
          refine V_i2l E dX11_move_52 rfl ?_
          refine V_ldiv E dX11_move_53 (ll_ne (b := vwt A v) (li_of rfl (by omega)) h0 (by omega)) ?_
          refine V_cvl (y := lN (mvW A v g)) (ll_div (a := (g * (vW A (v)))) (b := vwt A v) (ll_mul (a := g) (b := (vW A (v))) (li_of (@rfl _ (nI (g))) (by omega)) (li_of (hV.W (v) (by omega)) (by omega))) (li_of (@rfl _ (nI (vwt A v))) (by omega)) (by omega) h0 (by omega)) ?_
          refine V_lstore E dX11_move_54 (by decide) rfl ?_
          refine V_aload_n E dX11_move_56 rfl ?_
          refine V_iload_n E dX11_move_57 rfl ?_
          refine V_callV E (cm_weight (x_l X) d S A t hO hM hV u (by omega)) ml_X11_123 mv_X11_weight hM.o dX11_move_58 rfl (by simp [Value.category]) (by omega) (by omega) (by omega) (fun r S2 hp => ?_)
          obtain ⟨rfl, hS2⟩ := hp
          obtain rfl := hS2.symm
          refine V_i2l E dX11_move_61 rfl ?_
          refine V_cvl (y := lN (vwt A u)) (li_of (@rfl _ (nI (vwt A u))) (by omega)) ?_
          refine V_lstore E dX11_move_62 (by decide) rfl ?_
          refine V_aload_n E dX11_move_64 rfl ?_
          refine V_getR E fl_X11_19 dX11_move_65 rfl hM.o (hM.r 9 (by decide)) ?_
          refine V_iload_n E dX11_move_68 rfl ?_
          refine V_lload E dX11_move_69 rfl ?_
          refine V_aload_n E dX11_move_71 rfl ?_
          refine V_getR E fl_X11_19 dX11_move_72 rfl hM.o (hM.r 9 (by decide)) ?_
          refine V_iload_n E dX11_move_75 rfl ?_
          refine V_ia (j := u) E dX11_move_76 (hM.k 9 21 rfl (by decide)) (@rfl _ (nI (u))) (hM.l 9 100 rfl (by decide)) (by omega) (by decide) ?_
          refine V_i2l E dX11_move_77 rfl ?_
          refine V_lmul E dX11_move_78 ?_
          refine V_iload_n E dX11_move_79 rfl ?_
          refine V_i2l E dX11_move_80 rfl ?_
          refine V_aload_n E dX11_move_81 rfl ?_
          refine V_getR E fl_X11_19 dX11_move_82 rfl hM.o (hM.r 9 (by decide)) ?_
          refine V_iload_n E dX11_move_85 rfl ?_
          refine V_ia (j := v) E dX11_move_86 (hM.k 9 21 rfl (by decide)) (@rfl _ (nI (v))) (hM.l 9 100 rfl (by decide)) (by omega) (by decide) ?_
          refine V_i2l E dX11_move_87 rfl ?_
          refine V_lmul E dX11_move_88 ?_
          refine V_ladd E dX11_move_89 ?_
          refine V_lload E dX11_move_90 rfl ?_
          refine V_iload_n E dX11_move_92 rfl ?_
          refine V_i2l E dX11_move_93 rfl ?_
          refine V_ladd E dX11_move_94 ?_
          refine V_ldiv E dX11_move_95 (ll_ne (b := vwt A u + g) (ll_add (a := vwt A u) (b := g) rfl (li_of rfl (by omega))) (by omega) (by omega)) ?_
          refine V_l2i E dX11_move_96 rfl ?_
          refine V_cvi (y := nI (mvT A v u g)) (il_of (ll_div (a := ((vwt A u * (vT A (u))) + (g * (vT A (v))))) (b := (vwt A u + g)) (ll_add (a := (vwt A u * (vT A (u)))) (b := (g * (vT A (v)))) (ll_mul (a := vwt A u) (b := (vT A (u))) (@rfl _ (lN (vwt A u))) (li_of (hV.T (u) (by omega)) (by omega))) (ll_mul (a := g) (b := (vT A (v))) (li_of (@rfl _ (nI (g))) (by omega)) (li_of (hV.T (v) (by omega)) (by omega)))) (ll_add (a := vwt A u) (b := g) (@rfl _ (lN (vwt A u))) (li_of (@rfl _ (nI (g))) (by omega))) (by omega) (by omega) (by omega))) ?_
          refine V_ias (j := u) E dX11_move_97 (hM.k 9 21 rfl (by decide)) (@rfl _ (nI (u))) (hM.l 9 100 rfl (by decide)) (by omega) (by decide) ?_
          refine V_iconst (v := 0) E dX11_move_98 (by decide) ?_
          refine V_istore E dX11_move_99 (by decide) rfl ?_
          refine V_cvS (rL_self (sA S 9 u (nI (mvT A v u g))) 13).symm ?_
          have loopm : ∀ m p f, p + m = 60 → (∀ k, k < p → f k = lN (vD A v k)) → V X 101 [some (.ref (0)), some (.int (nI (v))), some (.int (nI (u))), some (.int (nI (g))), some (.long (lN (mvW A v g))), none, some (.long (lN (vwt A u))), none, some (.int (nI (p)))] [] (rL (sA S 9 u (nI (mvT A v u g))) 13 f) 0 0 := by
            intro m
            induction m with
            | zero =>
              intro p f hp hf
              have hp6 : p = 60 := by omega
              subst hp6
              have hdv := hV.D v (by omega)
              have hdu := hV.D u (by omega)
              have hDb : ∀ k, k < 60 → vD A v k ≤ 1000000 := fun k hk => by have := sumN_one (f := vD A v) hk; have : vdry A v = sumN (vD A v) 60 := rfl; omega
              have fin : ∀ (S5 : GS), FrM [7, 9, 15] [13, 14] S S5 → aI S5 9 = va_up (aI S 9) u (nI (mvT A v u g)) → (∀ p, p < 60 → aI S5 7 (60 * v + p) = nI (vD A v p - mvS A v g p) ∧ aI S5 7 (60 * u + p) = nI (vD A u p + mvS A v g p)) → (∀ q, (∀ p, p < 60 → q ≠ 60 * v + p ∧ q ≠ 60 * u + p) → aI S5 7 q = aI S 7 q) → V X 217 [some (.ref (0)), some (.int (nI (v))), some (.int (nI (u))), some (.int (nI (g))), some (.long (lN (mvW A v g))), none, some (.long (lN (vwt A u))), none, none] [] S5 0 0 := by
                intro S5 hF5 h59 h57 h57o
                obtain ⟨q1, q2, q3, q4, q5, q6, q7⟩ := id hF5
                have hM5 : MOK S5 := by unfold MOK; rw [q1, q2, q3]; exact hM
                have h58 : aI S5 8 = aI S 8 := q6 8 (by decide)
                refine V_aload_n E dX11_move_217 rfl ?_
                refine V_getR E fl_X11_16 dX11_move_218 rfl hM5.o (hM5.r 8 (by decide)) ?_
                refine V_iload_n E dX11_move_221 rfl ?_
                refine V_dup2 E dX11_move_222 rfl rfl ?_
                refine V_ia (j := v) E dX11_move_223 (hM5.k 8 21 rfl (by decide)) (@rfl _ (nI (v))) (hM5.l 8 100 rfl (by decide)) (by omega) (by decide) ?_
                refine V_lload E dX11_move_224 rfl ?_
                refine V_l2i E dX11_move_226 rfl ?_
                refine V_isub E dX11_move_227 ?_
                refine V_cvi (y := nI (vW A v - mvW A v g)) (ni_sub (a := vW A v) (b := mvW A v g) ((congrFun h58 v).trans (hV.W v (by omega))) (il_of (@rfl _ (lN (mvW A v g)))) (by omega)) ?_
                refine V_ias (j := v) E dX11_move_228 (hM5.k 8 21 rfl (by decide)) (@rfl _ (nI (v))) (hM5.l 8 100 rfl (by decide)) (by omega) (by decide) ?_
                refine V_aload_n E dX11_move_229 rfl ?_
                refine V_getR E fl_X11_16 dX11_move_230 rfl hM5.o (hM5.r 8 (by decide)) ?_
                refine V_iload_n E dX11_move_233 rfl ?_
                refine V_dup2 E dX11_move_234 rfl rfl ?_
                refine V_ia (j := u) E dX11_move_235 (hM5.k 8 21 rfl (by decide)) (@rfl _ (nI (u))) (hM5.l 8 100 rfl (by decide)) (by omega) (by decide) ?_
                refine V_lload E dX11_move_236 rfl ?_
                refine V_l2i E dX11_move_238 rfl ?_
                refine V_iadd E dX11_move_239 ?_
                refine V_cvi (y := nI (vW A u + mvW A v g)) (ni_add (a := vW A u) (b := mvW A v g) ((show up2 (aI S5) 8 v _ 8 u = _ from up2_nk (fun e => hvu e.symm)).trans ((congrFun h58 u).trans (hV.W u (by omega)))) (il_of (@rfl _ (lN (mvW A v g))))) ?_
                refine V_ias (j := u) E dX11_move_240 (hM5.k 8 21 rfl (by decide)) (@rfl _ (nI (u))) (hM5.l 8 100 rfl (by decide)) (by omega) (by decide) ?_
                have hF6 : FrM [7, 8, 9, 15] [13, 14] S (sA (sA S5 8 v (nI (vW A v - mvW A v g))) 8 u (nI (vW A u + mvW A v g))) := ⟨q1, q2, q3, q4, q5, fun k hk => by rw [aI_sA, up2_row (fun e => hk (by rw [e]; decide)), aI_sA, up2_row (fun e => hk (by rw [e]; decide))]; exact q6 k (fun z => hk (by revert z; simp only [List.mem_cons, List.not_mem_nil, or_false]; omega)), q7⟩
                have hV6 : MVes (sA (sA S5 8 v (nI (vW A v - mvW A v g))) 8 u (nI (vW A u + mvW A v g))) (aMove A v u g) := hV.move (congrFun (congrFun q4 0) 1) (q6 6 (by decide)) (q6 10 (by decide)) (q6 11 (by decide)) (q6 12 (by decide)) h59 (by rw [aI_sA, up2_row1, va_up_self, aI_sA, up2_row1, va_up_self, h58]) h57 h57o hvu
                have hO6 := hO.move (by omega) (by omega) hvu (by omega) (show g ≤ vwt A v by omega) g32 hk3 hks
                refine V_aload_n E dX11_move_241 rfl ?_
                refine V_iload_n E dX11_move_242 rfl ?_
                refine V_callV E (cm_weight (x_l X) d (sA (sA S5 8 v (nI (vW A v - mvW A v g))) 8 u (nI (vW A u + mvW A v g))) (aMove A v u g) t hO6 hM5 hV6 u (by omega)) ml_X11_123 mv_X11_weight hM5.o dX11_move_243 rfl (by simp [Value.category]) (by omega) (by omega) (by omega) (fun r S2 hp => ?_)
                obtain ⟨rfl, hS2⟩ := hp
                obtain rfl := hS2.symm
                exact V_iret E R dX11_move_246 rfl (Nat.le_refl _) (Nat.le_refl _) (Or.inl ⟨⟨hc6, by rw [tv]; exact w20, by rw [tu, tg]; exact g32⟩, by rw [(aMove_wt hvu h0 (show g ≤ vwt A v by omega)).2, tu, tg], hF6, by rw [tv, tu, tg]; exact hV6⟩)
              refine V_iload E dX11_move_101 rfl ?_
              refine V_bipush (v := 60) E dX11_move_103 (by decide) ?_
              refine V_ge_yes (a := 60) (b := 60) (tgt := 134) E dX11_move_105 (by decide) (@rfl _ (nI (60))) rfl (by omega) (by omega) ?_
              refine V_iload_n E dX11_move_134 rfl ?_
              refine V_i2l E dX11_move_135 rfl ?_
              refine V_lload E dX11_move_136 rfl ?_
              refine V_lsub E dX11_move_138 ?_
              refine V_lconst (v := 0) E dX11_move_139 (by decide) ?_
              refine V_lcmp E dX11_move_140 ?_
              refine V_if_le (tgt := 217) E dX11_move_141 (by decide) (fun h141 => ?_) (fun h141 => ?_)
              · have hz : g - mvW A v g = 0 := by have := (pk_lLE (a := g - mvW A v g) (b := 0) (by omega) (by omega)).mp ((lg_cmp_le _ _).mp (by rw [li_of (a := g) rfl (by omega), lN_sub hmw] at h141; exact h141)); omega
                refine V_lo (lo' := [some (.ref (0)), some (.int (nI (v))), some (.int (nI (u))), some (.int (nI (g))), some (.long (lN (mvW A v g))), none, some (.long (lN (vwt A u))), none, none]) (And.intro rfl (And.intro rfl (And.intro rfl (And.intro rfl (And.intro rfl (And.intro rfl True.intro)))))) ?_
                refine fin _ ⟨rfl, rfl, rfl, rfl, rfl, fun k hk => ?_, fun k hk => ?_⟩ ?_ (fun p hp => ?_) (fun q hq => rfl)
                · exact (show aI (sA S 9 u (nI (mvT A v u g))) k = aI S k from up2_row (fun e => hk (by rw [e]; decide)))
                · exact (show va_up (aJ S) 13 f k = aJ S k from va_up_ne _ _ (fun e => hk (by rw [e]; decide)))
                · exact (show aI (sA S 9 u (nI (mvT A v u g))) 9 = _ from by rw [aI_sA, up2_row1, va_up_self])
                · have e0 : mvS A v g p = 0 := by unfold mvS; rw [hz, pSh_0]
                  rw [e0]; exact ⟨hdv p hp, hdu p hp⟩
              · have hz : 0 < g - mvW A v g := by rcases Nat.eq_zero_or_pos (g - mvW A v g) with e | e; exact absurd ((lg_cmp_le _ _).mpr (by rw [li_of (a := g) rfl (by omega), lN_sub hmw, e]; decide)) h141; exact e
                refine V_aload_n E dX11_move_144 rfl ?_
                refine V_iload_n E dX11_move_145 rfl ?_
                refine V_i2l E dX11_move_146 rfl ?_
                refine V_lload E dX11_move_147 rfl ?_
                refine V_lsub E dX11_move_149 ?_
                refine V_cvl (y := lN (g - mvW A v g)) (ll_sub (a := g) (b := mvW A v g) (li_of rfl (by omega)) rfl hmw) ?_
                refine V_bipush (v := 60) E dX11_move_150 (by decide) ?_
                refine V_callV E (cm_partAmong (x_l X) d (rL (sA S 9 u (nI (mvT A v u g))) 13 f) hM (g - mvW A v g) 60 (vD A v) (by omega) (fun k hk => hf k hk) (show 0 < sumN (vD A v) 60 by have : vdry A v = sumN (vD A v) 60 := rfl; omega) (fun k hk => by have := hDb k hk; omega) (by omega)) ml_X11_144 mv_X11_partAmong hM.o dX11_move_152 rfl (by simp [Value.category]) (by omega) (by omega) (by omega) (fun r S2 hp => ?_)
                obtain ⟨rfl, f2, h2v, rfl, hsh⟩ := hp
                refine V_iconst (v := 0) E dX11_move_155 (by decide) ?_
                refine V_istore E dX11_move_156 (by decide) rfl ?_
                refine V_cvS (rA_self (R2 (rL (sA S 9 u (nI (mvT A v u g))) 13 f) f2 h2v) 7).symm ?_
                have loopd : ∀ m p a, p + m = 60 → (∀ k, k < p → a (60 * v + k) = nI (vD A v k - mvS A v g k) ∧ a (60 * u + k) = nI (vD A u k + mvS A v g k)) → (∀ q, (∀ k, k < p → q ≠ 60 * v + k ∧ q ≠ 60 * u + k) → a q = aI S 7 q) → V X 158 [some (.ref (0)), some (.int (nI (v))), some (.int (nI (u))), some (.int (nI (g))), some (.long (lN (mvW A v g))), none, some (.long (lN (vwt A u))), none, some (.int (nI (p)))] [] (rA (R2 (rL (sA S 9 u (nI (mvT A v u g))) 13 f) f2 h2v) 7 a) 0 0 := by
                  intro m
                  induction m with
                  | zero =>
                    intro p a hp ha hao
                    have hp6 : p = 60 := by omega
                    subst hp6
                    refine V_iload E dX11_move_158 rfl ?_
                    refine V_bipush (v := 60) E dX11_move_160 (by decide) ?_
                    refine V_ge_yes (a := 60) (b := 60) (tgt := 217) E dX11_move_162 (by decide) (@rfl _ (nI (60))) rfl (by omega) (by omega) ?_
                    refine V_lo (lo' := [some (.ref (0)), some (.int (nI (v))), some (.int (nI (u))), some (.int (nI (g))), some (.long (lN (mvW A v g))), none, some (.long (lN (vwt A u))), none, none]) (And.intro rfl (And.intro rfl (And.intro rfl (And.intro rfl (And.intro rfl (And.intro rfl True.intro)))))) ?_
                    refine fin _ ⟨rfl, rfl, rfl, rfl, rfl, fun k hk => ?_, fun k hk => ?_⟩ ?_ (fun p hp => ha p hp) (fun q hq => hao q hq)
                    · have e7 : k ≠ 7 := fun e => hk (by rw [e]; decide)
                      have e15 : k ≠ 15 := fun e => hk (by rw [e]; decide)
                      have e9 : k ≠ 9 := fun e => hk (by rw [e]; decide)
                      exact (show va_up (va_up (aI (sA S 9 u (nI (mvT A v u g)))) 15 h2v) 7 a k = aI S k from by rw [va_up_ne _ _ e7, va_up_ne _ _ e15, aI_sA, up2_row e9])
                    · have e13 : k ≠ 13 := fun e => hk (by rw [e]; decide)
                      have e14 : k ≠ 14 := fun e => hk (by rw [e]; decide)
                      exact (show va_up (va_up (aJ S) 13 f) 14 f2 k = aJ S k from by rw [va_up_ne _ _ e14, va_up_ne _ _ e13])
                    · exact (show aI (sA S 9 u (nI (mvT A v u g))) 9 = _ from by rw [aI_sA, up2_row1, va_up_self])
                  | succ m ih =>
                    intro p a hp ha hao
                    have hsp := mvS_le h0 (show g ≤ vwt A v by omega) (show p < 60 by omega)
                    have hdp := hDb p (by omega)
                    have av : a (60 * v + p) = nI (vD A v p) := (hao _ (fun k hk => by omega)).trans (hdv p (by omega))
                    have au : a (60 * u + p) = nI (vD A u p) := (hao _ (fun k hk => by omega)).trans (hdu p (by omega))
                    have hs1 : f2 p = lN (mvS A v g p) := hsh p (by omega)
                    refine V_iload E dX11_move_158 rfl ?_
                    refine V_bipush (v := 60) E dX11_move_160 (by decide) ?_
                    refine V_ge_no (a := p) (b := 60) (tgt := 217) E dX11_move_162 (by decide) (@rfl _ (nI (p))) rfl (by omega) (by omega) ?_
                    refine V_aload_n E dX11_move_165 rfl ?_
                    refine V_getR E fl_X11_13 dX11_move_166 rfl hM.o (hM.r 7 (by decide)) ?_
                    refine V_bipush (v := 60) E dX11_move_169 (by decide) ?_
                    refine V_iload_n E dX11_move_171 rfl ?_
                    refine V_imul E dX11_move_172 ?_
                    refine V_iload E dX11_move_173 rfl ?_
                    refine V_iadd E dX11_move_175 ?_
                    refine V_dup2 E dX11_move_176 rfl rfl ?_
                    refine V_ia (j := ((60 * v) + p)) E dX11_move_177 (hM.k 7 21 rfl (by decide)) (ni_add (a := (60 * v)) (b := p) (ni_mul (a := 60) (b := v) (rfl : (60 : Int32) = nI 60) (@rfl _ (nI (v)))) (@rfl _ (nI (p)))) (hM.l 7 6000 rfl (by decide)) (by omega) (by decide) ?_
                    refine V_aload_n E dX11_move_178 rfl ?_
                    refine V_getR E fl_X11_36 dX11_move_179 rfl hM.o (hM.r 14 (by decide)) ?_
                    refine V_iload E dX11_move_182 rfl ?_
                    refine V_la (j := p) E dX11_move_184 (hM.k 14 22 rfl (by decide)) (@rfl _ (nI (p))) (hM.l 14 60 rfl (by decide)) (by omega) (by decide) ?_
                    refine V_l2i E dX11_move_185 rfl ?_
                    refine V_isub E dX11_move_186 ?_
                    refine V_cvi (y := nI (vD A v p - mvS A v g p)) (ni_sub (a := vD A v p) (b := (mvS A v g p)) av (il_of hs1) hsp) ?_
                    refine V_ias (j := ((60 * v) + p)) E dX11_move_187 (hM.k 7 21 rfl (by decide)) (ni_add (a := (60 * v)) (b := p) (ni_mul (a := 60) (b := v) (rfl : (60 : Int32) = nI 60) (@rfl _ (nI (v)))) (@rfl _ (nI (p)))) (hM.l 7 6000 rfl (by decide)) (by omega) (by decide) ?_
                    refine V_cvS (sA_rA _ _ _ _ _) ?_
                    refine V_aload_n E dX11_move_188 rfl ?_
                    refine V_getR E fl_X11_13 dX11_move_189 rfl hM.o (hM.r 7 (by decide)) ?_
                    refine V_bipush (v := 60) E dX11_move_192 (by decide) ?_
                    refine V_iload_n E dX11_move_194 rfl ?_
                    refine V_imul E dX11_move_195 ?_
                    refine V_iload E dX11_move_196 rfl ?_
                    refine V_iadd E dX11_move_198 ?_
                    refine V_dup2 E dX11_move_199 rfl rfl ?_
                    refine V_ia (j := ((60 * u) + p)) E dX11_move_200 (hM.k 7 21 rfl (by decide)) (ni_add (a := (60 * u)) (b := p) (ni_mul (a := 60) (b := u) (rfl : (60 : Int32) = nI 60) (@rfl _ (nI (u)))) (@rfl _ (nI (p)))) (hM.l 7 6000 rfl (by decide)) (by omega) (by decide) ?_
                    refine V_aload_n E dX11_move_201 rfl ?_
                    refine V_getR E fl_X11_36 dX11_move_202 rfl hM.o (hM.r 14 (by decide)) ?_
                    refine V_iload E dX11_move_205 rfl ?_
                    refine V_la (j := p) E dX11_move_207 (hM.k 14 22 rfl (by decide)) (@rfl _ (nI (p))) (hM.l 14 60 rfl (by decide)) (by omega) (by decide) ?_
                    refine V_l2i E dX11_move_208 rfl ?_
                    refine V_iadd E dX11_move_209 ?_
                    refine V_cvi (y := nI (vD A u p + mvS A v g p)) (ni_add (a := vD A u p) (b := (mvS A v g p)) ((show va_up a (60 * v + p) (nI (vD A v p - mvS A v g p)) (60 * u + p) = _ from va_up_ne _ _ (by omega)).trans au) (il_of hs1)) ?_
                    refine V_ias (j := ((60 * u) + p)) E dX11_move_210 (hM.k 7 21 rfl (by decide)) (ni_add (a := (60 * u)) (b := p) (ni_mul (a := 60) (b := u) (rfl : (60 : Int32) = nI 60) (@rfl _ (nI (u)))) (@rfl _ (nI (p)))) (hM.l 7 6000 rfl (by decide)) (by omega) (by decide) ?_
                    refine V_cvS (sA_rA _ _ _ _ _) ?_
                    refine V_iinc (v := nI (p + 1)) E dX11_move_211 rfl (ni_inc (a := p) (z := 1) (@rfl _ (nI (p)))) (by decide) rfl ?_
                    refine V_goto (tgt := 158) E dX11_move_214 (by decide) ?_
                    refine ih (p + 1) _ (by omega) (fun k hk => ?_) (fun q hq => ?_)
                    · by_cases e : k = p
                      · subst e; rw [va_up_self, va_up_ne _ _ (by omega), va_up_self]; exact ⟨rfl, rfl⟩
                      · rw [va_up_ne _ _ (by omega), va_up_ne _ _ (by omega), va_up_ne _ _ (by omega), va_up_ne _ _ (by omega)]; exact ha k (by omega)
                    · have := hq p (by omega)
                      rw [va_up_ne _ _ (by omega), va_up_ne _ _ (by omega)]; exact hao q (fun k hk => hq k (by omega))
                exact loopd 60 0 _ (by omega) (fun k hk => absurd hk (Nat.not_lt_zero k)) (fun q _ => rfl)
            | succ m ih =>
              intro p f hp hf
              have hDb : vD A v p ≤ 1000000 := by have := sumN_one (f := vD A v) (n := 60) (i := p) (by omega); have : vdry A v = sumN (vD A v) 60 := rfl; omega
              refine V_iload E dX11_move_101 rfl ?_
              refine V_bipush (v := 60) E dX11_move_103 (by decide) ?_
              refine V_ge_no (a := p) (b := 60) (tgt := 134) E dX11_move_105 (by decide) (@rfl _ (nI (p))) rfl (by omega) (by omega) ?_
              refine V_aload_n E dX11_move_108 rfl ?_
              refine V_getR E fl_X11_32 dX11_move_109 rfl hM.o (hM.r 13 (by decide)) ?_
              refine V_iload E dX11_move_112 rfl ?_
              refine V_aload_n E dX11_move_114 rfl ?_
              refine V_getR E fl_X11_13 dX11_move_115 rfl hM.o (hM.r 7 (by decide)) ?_
              refine V_bipush (v := 60) E dX11_move_118 (by decide) ?_
              refine V_iload_n E dX11_move_120 rfl ?_
              refine V_imul E dX11_move_121 ?_
              refine V_iload E dX11_move_122 rfl ?_
              refine V_iadd E dX11_move_124 ?_
              refine V_ia (j := ((60 * v) + p)) E dX11_move_125 (hM.k 7 21 rfl (by decide)) (ni_add (a := (60 * v)) (b := p) (ni_mul (a := 60) (b := v) (rfl : (60 : Int32) = nI 60) (@rfl _ (nI (v)))) (@rfl _ (nI (p)))) (hM.l 7 6000 rfl (by decide)) (by omega) (by decide) ?_
              refine V_i2l E dX11_move_126 rfl ?_
              refine V_cvl (y := lN (vD A v p)) (li_of (hV.D v (by omega) p (by omega)) (by omega)) ?_
              refine V_las (j := p) E dX11_move_127 (hM.k 13 22 rfl (by decide)) (@rfl _ (nI (p))) (hM.l 13 60 rfl (by decide)) (by omega) (by decide) ?_
              refine V_cvS (sL_rL _ _ _ _ _) ?_
              refine V_iinc (v := nI (p + 1)) E dX11_move_128 rfl (ni_inc (a := p) (z := 1) (@rfl _ (nI (p)))) (by decide) rfl ?_
              refine V_goto (tgt := 101) E dX11_move_131 (by decide) ?_
              refine ih (p + 1) _ (by omega) (fun k hk => ?_)
              by_cases e : k = p
              · subst e; exact va_up_self _ _ _
              · rw [va_up_ne _ _ e]; exact hf k (by omega)
          exact loopm 60 0 _ (by omega) (fun k hk => absurd hk (Nat.not_lt_zero k))
        · have g32 : ¬ vwt A u + g ≤ 1000000 := fun q => h32 (by rw [nI_add]; exact nI_le (a := vwt A u + g) (b := 1000000) q (by omega))
          refine V_iconst (v := -1) E dX11_move_35 (by decide) ?_
          exact V_iret E R dX11_move_36 rfl (Nat.le_refl _) (Nat.le_refl _) (Or.inr ⟨fun q => g32 (by have := q.2.2; rw [tu, tg] at this; exact this), rfl, rfl⟩)
