theorem cm_vessel (l : Launch) (d : Nat) (S : GS) (A : AV) (t : Nat) (hO : VOK A t) (hM : MOK S) (hV : MVes S A) (x : Int32) : GC l (d + 1) yX11_vessel cX11_vessel 2 (some FieldType.int) [.ref 0, .int x] S (fun r S2 => (pVessel A x ∧ r = some (.int (nI (vn A))) ∧ S2 = mVessel S A x) ∨ (¬ pVessel A x ∧ r = some (.int (-1)) ∧ S2 = S)) (0) (0) := by
  refine GC.ofV (by decide) (Nat.le_of_ble_eq_true rfl) (fun X hl E R hnm => ?_)
  subst hl
  have E : En X RX11 cX11_vessel 2 (d + 1) (0) (0) := E
  have R : Rt X (some FieldType.int) (fun r S2 => (pVessel A x ∧ r = some (.int (nI (vn A))) ∧ S2 = mVessel S A x) ∨ (¬ pVessel A x ∧ r = some (.int (-1)) ∧ S2 = S)) := R
  have hn := hO.1
  refine V_iload_n E dX11_vessel_0 rfl ?_
  refine V_iconst (v := 0) E dX11_vessel_1 (by decide) ?_
  refine V_iconst (v := 3) E dX11_vessel_2 (by decide) ?_
  refine V_callS E (cm_in (x_l X) 0 S _ _ _) ml_X11_115 ms_X11_in dX11_vessel_3 rfl (by simp [Value.category]) (by omega) (by omega) (by omega) (fun r S2 hp => ?_)
  obtain ⟨rfl, hS2⟩ := hp
  obtain rfl := hS2.symm
  refine V_ifeq_b (tgt := 18) E dX11_vessel_6 (by decide) (fun hc6 => ?_) (fun hc6 => ?_)
  · have w6 : ¬ wi_ x 0 3 := fun q => hc6 ((wi_iff (by decide) (by decide)).mpr q)
    refine V_iconst (v := -1) E dX11_vessel_18 (by decide) ?_
    exact V_iret E R dX11_vessel_19 rfl (Nat.le_refl _) (Nat.le_refl _) (Or.inr ⟨fun q => absurd q.1 w6, rfl, rfl⟩)
  · have w6 : wi_ x 0 3 := (wi_iff (by decide) (by decide)).mp hc6
    refine V_aload_n E dX11_vessel_9 rfl ?_
    refine V_getI E fl_X11_111 dX11_vessel_10 rfl hM.o ?_
    refine V_bipush (v := 100) E dX11_vessel_13 (by decide) ?_
    refine V_icmp_ne (tgt := 20) E dX11_vessel_15 (by decide) (fun h15 => ?_) (fun h15 => ?_)
    · have h16 : vn A < 100 := by rcases Nat.lt_or_ge (vn A) 100 with q | q; exact q; exact absurd (by rw [hV.n, show vn A = 100 by omega]; rfl) h15
      refine V_aload_n E dX11_vessel_20 rfl ?_
      refine V_getR E fl_X11_9 dX11_vessel_21 rfl hM.o (hM.r 6 (by decide)) ?_
      refine V_aload_n E dX11_vessel_24 rfl ?_
      refine V_getI E fl_X11_111 dX11_vessel_25 rfl hM.o ?_
      refine V_iload_n E dX11_vessel_28 rfl ?_
      refine V_ias (j := (vn A)) E dX11_vessel_29 (hM.k 6 21 rfl (by decide)) hV.n (hM.l 6 100 rfl (by decide)) (by omega) (by decide) ?_
      refine V_aload_n E dX11_vessel_30 rfl ?_
      refine V_dup E dX11_vessel_31 rfl ?_
      refine V_getI E fl_X11_111 dX11_vessel_32 rfl hM.o ?_
      refine V_iconst (v := 1) E dX11_vessel_35 (by decide) ?_
      refine V_iadd E dX11_vessel_36 ?_
      refine V_cvi (y := nI (((vn A) + 1))) (ni_add (a := (vn A)) (b := 1) hV.n (rfl : (1 : Int32) = nI 1)) ?_
      refine V_putI E fl_X11_111 dX11_vessel_37 rfl hM.o ⟨rfl, rfl⟩ rfl ?_
      refine V_aload_n E dX11_vessel_40 rfl ?_
      refine V_getI E fl_X11_111 dX11_vessel_41 rfl hM.o ?_
      refine V_iconst (v := 1) E dX11_vessel_44 (by decide) ?_
      refine V_isub E dX11_vessel_45 ?_
      exact V_iret E R dX11_vessel_46 rfl (Nat.le_refl _) (Nat.le_refl _) (Or.inl ⟨⟨w6, h16⟩, by rw [fI_sI, up2_at]; exact congrArg (fun z => some (Value.int z)) (nI_pred (vn A)), rfl⟩)
    · have h16 : vn A = 100 := by rw [hV.n] at h15; exact (nI_eq (a := vn A) (b := 100) (by omega) (by omega)).mp h15
      refine V_iconst (v := -1) E dX11_vessel_18 (by decide) ?_
      exact V_iret E R dX11_vessel_19 rfl (Nat.le_refl _) (Nat.le_refl _) (Or.inr ⟨fun q => absurd q.2 (by omega), rfl, rfl⟩)

theorem cm_buy (l : Launch) (d : Nat) (S : GS) (A : AV) (t : Nat) (hO : VOK A t) (hM : MOK S) (hV : MVes S A) (x pl gr wt : Int32) : GC l (d + 2) yX11_buy cX11_buy 6 (some FieldType.int) [.ref 0, .int x, .int pl, .int gr, .int wt] S (fun r S2 => (pBuy A x pl gr wt ∧ r = some (.int (nI (vwt A (tn x) + tn gr))) ∧ S2 = mBuy S A (tn x) (tn pl) (tn gr) (tn gr * tn wt / 1000)) ∨ (¬ pBuy A x pl gr wt ∧ r = some (.int (-1)) ∧ S2 = S)) (0) (0) := by
  refine GC.ofV (by decide) (Nat.le_of_ble_eq_true rfl) (fun X hl E R hnm => ?_)
  subst hl
  have E : En X RX11 cX11_buy 6 (d + 2) (0) (0) := E
  have R : Rt X (some FieldType.int) (fun r S2 => (pBuy A x pl gr wt ∧ r = some (.int (nI (vwt A (tn x) + tn gr))) ∧ S2 = mBuy S A (tn x) (tn pl) (tn gr) (tn gr * tn wt / 1000)) ∨ (¬ pBuy A x pl gr wt ∧ r = some (.int (-1)) ∧ S2 = S)) := R
  have hn := hO.1
  refine V_aload_n E dX11_buy_0 rfl ?_
  refine V_iload_n E dX11_buy_1 rfl ?_
  refine V_iconst (v := 0) E dX11_buy_2 (by decide) ?_
  refine V_callV E (cm_is (x_l X) d S A t hO hM hV x 0 (by omega)) ml_X11_128 mv_X11_is hM.o dX11_buy_3 rfl (by simp [Value.category]) (by omega) (by omega) (by omega) (fun r S2 hp => ?_)
  obtain ⟨rfl, hS2⟩ := hp
  obtain rfl := hS2.symm
  refine V_ifeq_b (tgt := 53) E dX11_buy_6 (by decide) (fun hc6 => ?_) (fun hc6 => ?_)
  · refine V_iconst (v := -1) E dX11_buy_53 (by decide) ?_
    exact V_iret E R dX11_buy_54 rfl (Nat.le_refl _) (Nat.le_refl _) (Or.inr ⟨fun q => hc6 q.1, rfl, rfl⟩)
  · obtain ⟨v, rfl, tv, lv, uv, -⟩ := wi_nat hc6.1 (by omega)
    have hk : vK A v = 0 := by rw [← tv]; exact hc6.2
    have h3 := hO.2.2.1 v (by omega)
    refine V_iload_n E dX11_buy_9 rfl ?_
    refine V_iconst (v := 0) E dX11_buy_10 (by decide) ?_
    refine V_bipush (v := 59) E dX11_buy_11 (by decide) ?_
    refine V_callS E (cm_in (x_l X) 0 S _ _ _) ml_X11_115 ms_X11_in dX11_buy_13 rfl (by simp [Value.category]) (by omega) (by omega) (by omega) (fun r S2 hp => ?_)
    obtain ⟨rfl, hS2⟩ := hp
    obtain rfl := hS2.symm
    refine V_ifeq_b (tgt := 53) E dX11_buy_16 (by decide) (fun hc16 => ?_) (fun hc16 => ?_)
    · have w16 : ¬ wi_ pl 0 59 := fun q => hc16 ((wi_iff (by decide) (by decide)).mpr q)
      refine V_iconst (v := -1) E dX11_buy_53 (by decide) ?_
      exact V_iret E R dX11_buy_54 rfl (Nat.le_refl _) (Nat.le_refl _) (Or.inr ⟨fun q => w16 q.2.1, rfl, rfl⟩)
    · have w16 : wi_ pl 0 59 := (wi_iff (by decide) (by decide)).mp hc16
      obtain ⟨p, rfl, tp, lp, up, -⟩ := wi_nat w16 (by omega)
      refine V_iload_n E dX11_buy_19 rfl ?_
      refine V_iconst (v := 1) E dX11_buy_20 (by decide) ?_
      refine V_ldc E dX11_buy_21 kc_X11_132 ?_
      refine V_callS E (cm_in (x_l X) 0 S _ _ _) ml_X11_115 ms_X11_in dX11_buy_23 rfl (by simp [Value.category]) (by omega) (by omega) (by omega) (fun r S2 hp => ?_)
      obtain ⟨rfl, hS2⟩ := hp
      obtain rfl := hS2.symm
      refine V_ifeq_b (tgt := 53) E dX11_buy_26 (by decide) (fun hc26 => ?_) (fun hc26 => ?_)
      · have w26 : ¬ wi_ gr 1 100000 := fun q => hc26 ((wi_iff (by decide) (by decide)).mpr q)
        refine V_iconst (v := -1) E dX11_buy_53 (by decide) ?_
        exact V_iret E R dX11_buy_54 rfl (Nat.le_refl _) (Nat.le_refl _) (Or.inr ⟨fun q => w26 q.2.2.1, rfl, rfl⟩)
      · have w26 : wi_ gr 1 100000 := (wi_iff (by decide) (by decide)).mp hc26
        obtain ⟨g, rfl, tg, lg, ug, -⟩ := wi_nat w26 (by omega)
        refine V_iload E dX11_buy_29 rfl ?_
        refine V_iconst (v := 0) E dX11_buy_31 (by decide) ?_
        refine V_sipush (v := 900) E dX11_buy_32 (by decide) ?_
        refine V_callS E (cm_in (x_l X) 0 S _ _ _) ml_X11_115 ms_X11_in dX11_buy_35 rfl (by simp [Value.category]) (by omega) (by omega) (by omega) (fun r S2 hp => ?_)
        obtain ⟨rfl, hS2⟩ := hp
        obtain rfl := hS2.symm
        refine V_ifeq_b (tgt := 53) E dX11_buy_38 (by decide) (fun hc38 => ?_) (fun hc38 => ?_)
        · have w38 : ¬ wi_ wt 0 900 := fun q => hc38 ((wi_iff (by decide) (by decide)).mpr q)
          refine V_iconst (v := -1) E dX11_buy_53 (by decide) ?_
          exact V_iret E R dX11_buy_54 rfl (Nat.le_refl _) (Nat.le_refl _) (Or.inr ⟨fun q => w38 q.2.2.2.1, rfl, rfl⟩)
        · have w38 : wi_ wt 0 900 := (wi_iff (by decide) (by decide)).mp hc38
          obtain ⟨w, rfl, tw, lw, uw, -⟩ := wi_nat w38 (by omega)
          have hgw : g * w ≤ 90000000 := Nat.mul_le_mul (show g ≤ 100000 by omega) (show w ≤ 900 by omega)
          have hb1 : g * w / 1000 ≤ g := Nat.div_le_of_le_mul (by rw [Nat.mul_comm 1000 g]; exact Nat.mul_le_mul_left g (by omega))
          refine V_aload_n E dX11_buy_41 rfl ?_
          refine V_iload_n E dX11_buy_42 rfl ?_
          refine V_callV E (cm_weight (x_l X) d S A t hO hM hV v (by omega)) ml_X11_123 mv_X11_weight hM.o dX11_buy_43 rfl (by simp [Value.category]) (by omega) (by omega) (by omega) (fun r S2 hp => ?_)
          obtain ⟨rfl, hS2⟩ := hp
          obtain rfl := hS2.symm
          refine V_iload_n E dX11_buy_46 rfl ?_
          refine V_iadd E dX11_buy_47 ?_
          refine V_ldc E dX11_buy_48 kc_X11_133 ?_
          refine V_icmp_le (tgt := 55) E dX11_buy_50 (by decide) (fun h50 => ?_) (fun h50 => ?_)
          · have h51 : vwt A v + g ≤ 1000000 := (nI_leI (a := vwt A v + g) (b := 1000000) (by omega) (by omega)).mp (by rw [← nI_add]; exact h50)
            refine V_iload_n E dX11_buy_55 rfl ?_
            refine V_i2l E dX11_buy_56 rfl ?_
            refine V_iload E dX11_buy_57 rfl ?_
            refine V_i2l E dX11_buy_59 rfl ?_
            refine V_lmul E dX11_buy_60 ?_
            refine V_ldc2 E dX11_buy_61 kl_X11_126 ?_
            refine V_ldiv E dX11_buy_64 (by decide) ?_
            refine V_l2i E dX11_buy_65 rfl ?_
            refine V_cvi (y := nI (((g * w) / 1000))) (il_of (ll_div (a := (g * w)) (b := 1000) (ll_mul (a := g) (b := w) (li_of (@rfl _ (nI (g))) (by omega)) (li_of (@rfl _ (nI (w))) (by omega))) (rfl : (1000 : Int64) = lN 1000) (by omega) (by omega) (by omega))) ?_
            refine V_istore E dX11_buy_66 (by decide) rfl ?_
            refine V_aload_n E dX11_buy_68 rfl ?_
            refine V_getR E fl_X11_16 dX11_buy_69 rfl hM.o (hM.r 8 (by decide)) ?_
            refine V_iload_n E dX11_buy_72 rfl ?_
            refine V_dup2 E dX11_buy_73 rfl rfl ?_
            refine V_ia (j := v) E dX11_buy_74 (hM.k 8 21 rfl (by decide)) (@rfl _ (nI (v))) (hM.l 8 100 rfl (by decide)) (by omega) (by decide) ?_
            refine V_iload E dX11_buy_75 rfl ?_
            refine V_iadd E dX11_buy_77 ?_
            refine V_cvi (y := nI (((vW A (v)) + ((g * w) / 1000)))) (ni_add (a := (vW A (v))) (b := ((g * w) / 1000)) (hV.W (v) (by omega)) (@rfl _ (nI (((g * w) / 1000))))) ?_
            refine V_ias (j := v) E dX11_buy_78 (hM.k 8 21 rfl (by decide)) (@rfl _ (nI (v))) (hM.l 8 100 rfl (by decide)) (by omega) (by decide) ?_
            refine V_aload_n E dX11_buy_79 rfl ?_
            refine V_getR E fl_X11_13 dX11_buy_80 rfl hM.o (hM.r 7 (by decide)) ?_
            refine V_bipush (v := 60) E dX11_buy_83 (by decide) ?_
            refine V_iload_n E dX11_buy_85 rfl ?_
            refine V_imul E dX11_buy_86 ?_
            refine V_iload_n E dX11_buy_87 rfl ?_
            refine V_iadd E dX11_buy_88 ?_
            refine V_dup2 E dX11_buy_89 rfl rfl ?_
            refine V_ia (j := ((60 * v) + p)) E dX11_buy_90 (hM.k 7 21 rfl (by decide)) (ni_add (a := (60 * v)) (b := p) (ni_mul (a := 60) (b := v) (rfl : (60 : Int32) = nI 60) (@rfl _ (nI (v)))) (@rfl _ (nI (p)))) (hM.l 7 6000 rfl (by decide)) (by omega) (by decide) ?_
            refine V_iload_n E dX11_buy_91 rfl ?_
            refine V_iload E dX11_buy_92 rfl ?_
            refine V_isub E dX11_buy_94 ?_
            refine V_iadd E dX11_buy_95 ?_
            refine V_cvi (y := nI (((vD A v p) + (g - ((g * w) / 1000))))) (ni_add (a := (vD A v p)) (b := (g - ((g * w) / 1000))) (hV.D v (by omega) p (by omega)) (ni_sub (a := g) (b := ((g * w) / 1000)) (@rfl _ (nI (g))) (@rfl _ (nI (((g * w) / 1000)))) (by omega))) ?_
            refine V_ias (j := ((60 * v) + p)) E dX11_buy_96 (hM.k 7 21 rfl (by decide)) (ni_add (a := (60 * v)) (b := p) (ni_mul (a := 60) (b := v) (rfl : (60 : Int32) = nI 60) (@rfl _ (nI (v)))) (@rfl _ (nI (p)))) (hM.l 7 6000 rfl (by decide)) (by omega) (by decide) ?_
            refine V_aload_n E dX11_buy_97 rfl ?_
            refine V_dup E dX11_buy_98 rfl ?_
            refine V_getJ E fl_X11_134 dX11_buy_99 rfl hM.o ?_
            refine V_iload_n E dX11_buy_102 rfl ?_
            refine V_iload E dX11_buy_103 rfl ?_
            refine V_isub E dX11_buy_105 ?_
            refine V_i2l E dX11_buy_106 rfl ?_
            refine V_cvl (y := lN ((g - ((g * w) / 1000)))) (li_of (ni_sub (a := g) (b := ((g * w) / 1000)) (@rfl _ (nI (g))) (@rfl _ (nI (((g * w) / 1000)))) (by omega)) (by omega)) ?_
            refine V_ladd E dX11_buy_107 ?_
            refine V_putJ E fl_X11_134 dX11_buy_108 rfl hM.o rfl ?_
            refine V_aload_n E dX11_buy_111 rfl ?_
            refine V_iload_n E dX11_buy_112 rfl ?_
            refine V_callV E (cm_weight (x_l X) d (mBuy S A v p g (g * w / 1000)) (aBuy A v p g (g * w / 1000)) t (hO.buy (by omega) hk (by omega) hb1 h51) hM (hV.buy (by omega)) v (by omega)) ml_X11_123 mv_X11_weight hM.o dX11_buy_113 rfl (by simp [Value.category]) (by omega) (by omega) (by omega) (fun r S2 hp => ?_)
            obtain ⟨rfl, hS2⟩ := hp
            obtain rfl := hS2.symm
            exact V_iret E R dX11_buy_116 rfl (Nat.le_refl _) (Nat.le_refl _) (Or.inl ⟨⟨⟨hc6.1, hc6.2⟩, w16, w26, w38, by rw [tv, tg]; exact h51⟩, by rw [aBuy_wt (by omega) hb1, if_pos rfl, tv, tg], by rw [tv, tp, tg, tw]⟩)
          · have h51 : ¬ vwt A v + g ≤ 1000000 := fun q => h50 (by rw [nI_add]; exact nI_le (a := vwt A v + g) (b := 1000000) q (by omega))
            refine V_iconst (v := -1) E dX11_buy_53 (by decide) ?_
            exact V_iret E R dX11_buy_54 rfl (Nat.le_refl _) (Nat.le_refl _) (Or.inr ⟨fun q => h51 (by have := q.2.2.2.2; rw [tv, tg] at this; exact this), rfl, rfl⟩)
