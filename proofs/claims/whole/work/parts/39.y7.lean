theorem cy_mayGoTo (l : Launch) (d : Nat) (S : GS) (A : AV) (t : Nat) (hO : VOK A t) (hQ : YOK S) (hY : YVes S A) (v u : Nat) (hv : v < vn A) (hu : u < vn A) (hvu : v ≠ u) : GC l (d + 2) yX7_mayGoTo cX7_mayGoTo 2 (some FieldType.boolean) [.ref (1000 + v), .ref (1000 + u)] S (fun r S2 => r = some (.int (bi (mayGo A v u))) ∧ S2 = S) (0) (0) := by
  refine GC.ofV (by decide) (Nat.le_of_ble_eq_true rfl) (fun X hl E R hnm => ?_)
  subst hl
  have E : En X RX7 cX7_mayGoTo 2 (d + 2) (0) (0) := E
  have R : Rt X (some FieldType.boolean) (fun r S2 => r = some (.int (bi (mayGo A v u))) ∧ S2 = S) := R
  have h1 := hO.1
  have h2 := hO.2.1
  have h3 := hO.2.2.1 v hv
  have h4 := hO.2.2.1 u hu
  have ewv : vwt A v = vdry A v + vW A v := rfl
  have ewu : vwt A u = vdry A u + vW A u := rfl
  refine V_aload_n E dX7_mayGoTo_0 rfl ?_
  refine V_getI E fl_X7_9 dX7_mayGoTo_1 rfl (hY.ok v hv) ?_
  refine V_iconst (v := 3) E dX7_mayGoTo_4 (by decide) ?_
  refine V_icmp_eq (tgt := 32) E dX7_mayGoTo_5 (by decide) (fun h5 => ?_) (fun h5 => ?_)
  · have g5 : vK A v = 3 := (nI_eq (a := vK A v) (b := 3) (by omega) (by omega)).mp ((hY.K v hv).symm.trans h5)
    refine V_iconst (v := 0) E dX7_mayGoTo_32 (by decide) ?_
    exact V_iret E R dX7_mayGoTo_33 rfl (Nat.le_refl _) (Nat.le_refl _) ⟨by rw [bi_f (by unfold mayGo; omega)], rfl⟩
  · have g5 : vK A v ≠ 3 := fun e => h5 ((hY.K v hv).trans (by rw [e]; rfl))
    refine V_aload_n E dX7_mayGoTo_8 rfl ?_
    refine V_getI E fl_X7_9 dX7_mayGoTo_9 rfl (hY.ok u hu) ?_
    refine V_aload_n E dX7_mayGoTo_12 rfl ?_
    refine V_getI E fl_X7_9 dX7_mayGoTo_13 rfl (hY.ok v hv) ?_
    refine V_icmp_lt (tgt := 32) E dX7_mayGoTo_16 (by decide) (fun h16 => ?_) (fun h16 => ?_)
    · have g16 : vK A u < vK A v := (nI_ltI (by omega) (by omega)).mp (by rw [← (hY.K u hu), ← (hY.K v hv)]; exact h16)
      refine V_iconst (v := 0) E dX7_mayGoTo_32 (by decide) ?_
      exact V_iret E R dX7_mayGoTo_33 rfl (Nat.le_refl _) (Nat.le_refl _) ⟨by rw [bi_f (by unfold mayGo; omega)], rfl⟩
    · have g16 : ¬ vK A u < vK A v := fun q => h16 (by rw [(hY.K u hu), (hY.K v hv)]; exact nI_lt q (by omega))
      refine V_aload_n E dX7_mayGoTo_19 rfl ?_
      refine V_getI E fl_X7_9 dX7_mayGoTo_20 rfl (hY.ok u hu) ?_
      refine V_aload_n E dX7_mayGoTo_23 rfl ?_
      refine V_getI E fl_X7_9 dX7_mayGoTo_24 rfl (hY.ok v hv) ?_
      refine V_iconst (v := 1) E dX7_mayGoTo_27 (by decide) ?_
      refine V_iadd E dX7_mayGoTo_28 ?_
      refine V_icmp_le (tgt := 34) E dX7_mayGoTo_29 (by decide) (fun h29 => ?_) (fun h29 => ?_)
      · have g29 : vK A u ≤ vK A v + 1 := (nI_leI (by omega) (by omega)).mp (by rw [← nI_1, ← (hY.K u hu), ← (hY.K v hv)]; exact h29)
        refine V_aload_n E dX7_mayGoTo_34 rfl ?_
        refine V_getI E fl_X7_9 dX7_mayGoTo_35 rfl (hY.ok u hu) ?_
        refine V_iconst (v := 3) E dX7_mayGoTo_38 (by decide) ?_
        refine V_icmp_ne (tgt := 58) E dX7_mayGoTo_39 (by decide) (fun h39 => ?_) (fun h39 => ?_)
        · have g39 : vK A u ≠ 3 := fun e => h39 ((hY.K u hu).trans (by rw [e]; rfl))
          refine V_iconst (v := 1) E dX7_mayGoTo_58 (by decide) ?_
          refine V_goto (tgt := 63) E dX7_mayGoTo_59 (by decide) ?_
          exact V_iret E R dX7_mayGoTo_63 rfl (Nat.le_refl _) (Nat.le_refl _) ⟨by rw [bi_t (by unfold mayGo; omega)], rfl⟩
        · have g39 : vK A u = 3 := (nI_eq (a := vK A u) (b := 3) (by omega) (by omega)).mp ((hY.K u hu).symm.trans h39)
          refine V_aload_n E dX7_mayGoTo_42 rfl ?_
          refine V_callV E (cy_wetness (x_l X) d S A t hO hQ hY v hv) ml_X7_31 mv_X7_wetness (hY.ok v hv) dX7_mayGoTo_43 rfl (by simp [Value.category]) (by omega) (by omega) (by omega) (fun r S2 hp => ?_)
          obtain ⟨rfl, hS2⟩ := hp
          obtain rfl := hS2.symm
          have hwt : vwet A v ≤ 1000 := by unfold vwet; split; omega; exact Nat.div_le_of_le_mul (by rw [Nat.mul_comm (vwt A v)]; exact Nat.mul_le_mul_left _ (by unfold vwt; omega))
          refine V_bipush (v := 75) E dX7_mayGoTo_46 (by decide) ?_
          refine V_icmp_gt (tgt := 62) E dX7_mayGoTo_48 (by decide) (fun h48 => ?_) (fun h48 => ?_)
          · have g48 : ¬ vwet A v ≤ 75 := fun q => absurd (nI_le (a := vwet A v) (b := 75) q (by omega)) (Int32.not_le.mpr h48)
            refine V_iconst (v := 0) E dX7_mayGoTo_62 (by decide) ?_
            exact V_iret E R dX7_mayGoTo_63 rfl (Nat.le_refl _) (Nat.le_refl _) ⟨by rw [bi_f (by unfold mayGo; omega)], rfl⟩
          · have g48 : vwet A v ≤ 75 := (nI_leI (a := vwet A v) (b := 75) (by omega) (by omega)).mp (Int32.not_lt.mp h48)
            refine V_aload_n E dX7_mayGoTo_51 rfl ?_
            refine V_getI E fl_X7_34 dX7_mayGoTo_52 rfl (hY.ok u hu) ?_
            refine V_if_ne (tgt := 62) E dX7_mayGoTo_55 (by decide) (fun h55 => ?_) (fun h55 => ?_)
            · have g55 : vC A u ≠ 0 := fun e => h55 ((hY.C u hu).trans (by rw [e]; rfl))
              refine V_iconst (v := 0) E dX7_mayGoTo_62 (by decide) ?_
              exact V_iret E R dX7_mayGoTo_63 rfl (Nat.le_refl _) (Nat.le_refl _) ⟨by rw [bi_f (by unfold mayGo; omega)], rfl⟩
            · have g55 : vC A u = 0 := (nI_eq (a := vC A u) (b := 0) (by omega) (by omega)).mp ((hY.C u hu).symm.trans h55)
              refine V_iconst (v := 1) E dX7_mayGoTo_58 (by decide) ?_
              refine V_goto (tgt := 63) E dX7_mayGoTo_59 (by decide) ?_
              exact V_iret E R dX7_mayGoTo_63 rfl (Nat.le_refl _) (Nat.le_refl _) ⟨by rw [bi_t (by unfold mayGo; omega)], rfl⟩
      · have g29 : ¬ vK A u ≤ vK A v + 1 := fun q => h29 (by rw [(hY.K u hu), (hY.K v hv), nI_1]; exact nI_le q (by omega))
        refine V_iconst (v := 0) E dX7_mayGoTo_32 (by decide) ?_
        exact V_iret E R dX7_mayGoTo_33 rfl (Nat.le_refl _) (Nat.le_refl _) ⟨by rw [bi_f (by unfold mayGo; omega)], rfl⟩

theorem cy_pourOver (l : Launch) (d : Nat) (S : GS) (A : AV) (t : Nat) (hO : VOK A t) (hQ : YOK S) (hY : YVes S A) (v u : Nat) (hv : v < vn A) (hu : u < vn A) (hvu : v ≠ u) (g : Nat) (hg1 : 0 < g) (hg : g ≤ vwt A v) (hw6 : vwt A u + g ≤ 1000000) : GC l (d + 2) yX7_pourOver cX7_pourOver 11 none [.ref (1000 + v), .ref (1000 + u), .int (nI g), .ref 202] S (fun r S2 => r = none ∧ YFr2 S S2 v u ∧ YVes S2 (aMove A v u g)) (0) (0) := by
  refine GC.ofV (by decide) (Nat.le_of_ble_eq_true rfl) (fun X hl E R hnm => ?_)
  subst hl
  have E : En X RX7 cX7_pourOver 11 (d + 2) (0) (0) := E
  have R : Rt X none (fun r S2 => r = none ∧ YFr2 S S2 v u ∧ YVes S2 (aMove A v u g)) := R
  have h1 := hO.1
  have h2 := hO.2.1
  have h3 := hO.2.2.1 v hv
  have h4 := hO.2.2.1 u hu
  have ewv : vwt A v = vdry A v + vW A v := rfl
  have ewu : vwt A u = vdry A u + vW A u := rfl
  have h0 : 0 < vwt A v := by omega
  have hgw : g * vW A v ≤ 100000000 * 100000000 := Nat.mul_le_mul (by omega) (by omega)
  have hmw := mvW_le (g := g) h0
  have hmw2 := mvW_leW h0 hg
  have hmn := mvN_le h0 hg
  have ht1 : vwt A u * vT A u ≤ 100000000 * 100 := Nat.mul_le_mul (by omega) h4.2.1
  have ht2 : g * vT A v ≤ 100000000 * 100 := Nat.mul_le_mul (by omega) h3.2.1
  have hmt := mvT_le (A := A) (v := v) (u := u) hg1 h4.2.1 h3.2.1
  have hss := mvS_sum h0 hg
  refine V_aload_n E dX7_pourOver_0 rfl ?_
  refine V_callV E (cy_weight (x_l X) d S A t hO hQ hY v hv) ml_X7_25 mv_X7_weight (hY.ok v hv) dX7_pourOver_1 rfl (by simp [Value.category]) (by omega) (by omega) (by omega) (fun r S2 hp => ?_)
  obtain ⟨rfl, hS2⟩ := hp
  obtain rfl := hS2.symm
  refine V_istore E dX7_pourOver_4 (by decide) rfl ?_
  refine V_aload_n E dX7_pourOver_6 rfl ?_
  refine V_callV E (cy_weight (x_l X) d S A t hO hQ hY u hu) ml_X7_25 mv_X7_weight (hY.ok u hu) dX7_pourOver_7 rfl (by simp [Value.category]) (by omega) (by omega) (by omega) (fun r S2 hp => ?_)
  obtain ⟨rfl, hS2⟩ := hp
  obtain rfl := hS2.symm
  refine V_iload_n E dX7_pourOver_10 rfl ?_
  refine V_iadd E dX7_pourOver_11 ?_
  refine V_istore E dX7_pourOver_12 (by decide) rfl ?_
  refine V_iload E dX7_pourOver_14 rfl ?_
  refine V_if_le (tgt := 24) E dX7_pourOver_16 (by decide) (fun hx => absurd hx (fun q => absurd ((nI_leI (a := vwt A v) (b := 0) (by omega) (by omega)).mp q) (by omega))) (fun _ => ?_)
  refine V_iload E dX7_pourOver_19 rfl ?_
  refine V_if_gt (tgt := 25) E dX7_pourOver_21 (by decide) (fun _ => ?_) (fun hx => absurd hx (fun q => q (by rw [nI_add]; exact nI_lt (a := 0) (b := vwt A u + g) (by omega) (by omega))))
  refine V_aload_n E dX7_pourOver_25 rfl ?_
  refine V_callV E (cy_weight (x_l X) d S A t hO hQ hY u hu) ml_X7_25 mv_X7_weight (hY.ok u hu) dX7_pourOver_26 rfl (by simp [Value.category]) (by omega) (by omega) (by omega) (fun r S2 hp => ?_)
  obtain ⟨rfl, hS2⟩ := hp
  obtain rfl := hS2.symm
  refine V_i2l E dX7_pourOver_29 rfl ?_
  refine V_aload_n E dX7_pourOver_30 rfl ?_
  refine V_getI E fl_X7_37 dX7_pourOver_31 rfl (hY.ok u hu) ?_
  refine V_i2l E dX7_pourOver_34 rfl ?_
  refine V_lmul E dX7_pourOver_35 ?_
  refine V_iload_n E dX7_pourOver_36 rfl ?_
  refine V_i2l E dX7_pourOver_37 rfl ?_
  refine V_aload_n E dX7_pourOver_38 rfl ?_
  refine V_getI E fl_X7_37 dX7_pourOver_39 rfl (hY.ok v hv) ?_
  refine V_i2l E dX7_pourOver_42 rfl ?_
  refine V_lmul E dX7_pourOver_43 ?_
  refine V_ladd E dX7_pourOver_44 ?_
  refine V_lstore E dX7_pourOver_45 (by decide) rfl ?_
  refine V_aload_n E dX7_pourOver_47 rfl ?_
  refine V_lload E dX7_pourOver_48 rfl ?_
  refine V_iload E dX7_pourOver_50 rfl ?_
  refine V_i2l E dX7_pourOver_52 rfl ?_
  refine V_ldiv E dX7_pourOver_53 (ll_ne (b := vwt A u + g) (li_of (ni_add (a := vwt A u) (b := g) rfl rfl) (by omega)) (by omega) (by omega)) ?_
  refine V_l2i E dX7_pourOver_54 rfl ?_
  refine V_cvi (y := nI (mvT A v u g)) (il_of (ll_div (a := ((vwt A u * (vT A u)) + (g * (vT A v)))) (b := (vwt A u + g)) (ll_add (a := (vwt A u * (vT A u))) (b := (g * (vT A v))) (ll_mul (a := vwt A u) (b := (vT A u)) (li_of (@rfl _ (nI (vwt A u))) (by omega)) (li_of (hY.T u hu) (by omega))) (ll_mul (a := g) (b := (vT A v)) (li_of (@rfl _ (nI (g))) (by omega)) (li_of (hY.T v hv) (by omega)))) (li_of (ni_add (a := vwt A u) (b := g) (@rfl _ (nI (vwt A u))) (@rfl _ (nI (g)))) (by omega)) (by omega) (by omega) (by omega))) ?_
  refine V_putI E fl_X7_37 dX7_pourOver_55 rfl (hY.ok u hu) ⟨rfl, rfl⟩ rfl ?_
  refine V_iload_n E dX7_pourOver_58 rfl ?_
  refine V_i2l E dX7_pourOver_59 rfl ?_
  refine V_aload_n E dX7_pourOver_60 rfl ?_
  refine V_getI E fl_X7_22 dX7_pourOver_61 rfl (hY.ok v hv) ?_
  refine V_i2l E dX7_pourOver_64 rfl ?_
  refine V_lmul E dX7_pourOver_65 ?_
  refine V_iload E dX7_pourOver_66 rfl ?_
  refine V_i2l E dX7_pourOver_68 rfl ?_
  refine V_ldiv E dX7_pourOver_69 (ll_ne (b := vwt A v) (li_of rfl (by omega)) h0 (by omega)) ?_
  refine V_l2i E dX7_pourOver_70 rfl ?_
  refine V_cvi (y := nI (mvW A v g)) (il_of (ll_div (a := (g * vW A v)) (b := vwt A v) (ll_mul (a := g) (b := vW A v) (li_of (@rfl _ (nI (g))) (by omega)) (li_of ((show up2 (fI S) (1000 + u) 4 (nI (mvT A v u g)) (1000 + v) 3 = nI (vW A v) from (up2_nk (by decide)).trans (hY.W v hv))) (by omega))) (li_of (@rfl _ (nI (vwt A v))) (by omega)) (by omega) h0 (by omega))) ?_
  refine V_istore E dX7_pourOver_71 (by decide) rfl ?_
  refine V_aload_n E dX7_pourOver_73 rfl ?_
  refine V_dup E dX7_pourOver_74 rfl ?_
  refine V_getI E fl_X7_22 dX7_pourOver_75 rfl (hY.ok v hv) ?_
  refine V_iload E dX7_pourOver_78 rfl ?_
  refine V_isub E dX7_pourOver_80 ?_
  refine V_cvi (y := nI ((vW A v - mvW A v g))) (ni_sub (a := vW A v) (b := mvW A v g) ((show up2 (fI S) (1000 + u) 4 (nI (mvT A v u g)) (1000 + v) 3 = nI (vW A v) from (up2_nk (by decide)).trans (hY.W v hv))) (@rfl _ (nI (mvW A v g))) hmw2) ?_
  refine V_putI E fl_X7_22 dX7_pourOver_81 rfl (hY.ok v hv) ⟨rfl, rfl⟩ rfl ?_
  refine V_aload_n E dX7_pourOver_84 rfl ?_
  refine V_dup E dX7_pourOver_85 rfl ?_
  refine V_getI E fl_X7_22 dX7_pourOver_86 rfl (hY.ok u hu) ?_
  refine V_iload E dX7_pourOver_89 rfl ?_
  refine V_iadd E dX7_pourOver_91 ?_
  refine V_cvi (y := nI ((vW A u + mvW A v g))) (ni_add (a := vW A u) (b := mvW A v g) ((show up2 (up2 (fI S) (1000 + u) 4 (nI (mvT A v u g))) (1000 + v) 3 (nI (vW A v - mvW A v g)) (1000 + u) 3 = nI (vW A u) from (up2_ne (by omega)).trans ((up2_nk (by decide)).trans (hY.W u hu)))) (@rfl _ (nI (mvW A v g)))) ?_
  refine V_putI E fl_X7_22 dX7_pourOver_92 rfl (hY.ok u hu) ⟨rfl, rfl⟩ rfl ?_
  refine V_aload_n E dX7_pourOver_95 rfl ?_
  refine V_iload_n E dX7_pourOver_96 rfl ?_
  refine V_iload E dX7_pourOver_97 rfl ?_
  refine V_isub E dX7_pourOver_99 ?_
  refine V_cvi (y := nI ((g - mvW A v g))) (ni_sub (a := g) (b := mvW A v g) (@rfl _ (nI (g))) (@rfl _ (nI (mvW A v g))) hmw) ?_
  refine V_aload_n E dX7_pourOver_100 rfl ?_
  refine V_getR E fl_X7_15 dX7_pourOver_101 rfl (hY.ok v hv) (hY.dr v hv) ?_
  refine V_callV E (cy_divide (x_l X) d (sI (sI (sI S (1000 + u) 4 (nI (mvT A v u g))) (1000 + v) 3 (nI (vW A v - mvW A v g))) (1000 + u) 3 (nI (vW A u + mvW A v g))) 202 203 204 (2000 + v) ⟨hQ.k 202 2 rfl (by decide), hQ.r 202 0 203 rfl, hQ.r 202 1 204 rfl, hQ.k 203 21 rfl (by decide), hQ.l 203 60 rfl (by decide), hQ.k 204 22 rfl (by decide), hQ.l 204 60 rfl (by decide)⟩ (hY.dk v hv) 60 (hY.dl v hv) (by omega) (by omega) (g - mvW A v g) (vD A v) (fun k hk => hY.D v hv k hk) (fun k hk => by have := sumN_one (f := vD A v) hk; have : vdry A v = sumN (vD A v) 60 := rfl; omega) (by omega)) ml_X7_40 mv_X1_divide (hQ.k 202 2 rfl (by decide)) dX7_pourOver_104 rfl (by simp [Value.category]) (by omega) (by omega) (by omega) (fun r S2 hp => ?_)
  obtain ⟨rfl, f, h, rfl, hf1, hf2⟩ := hp
  have hsh : ∀ k, k < 60 → f k = nI (mvS A v g k) := by
    intro k hk
    rcases Nat.eq_zero_or_pos (sumN (vD A v) 60) with e | e
    · rw [hf2 e k hk, mvS, mvN_0 h0 hg e, pSh_0]; rfl
    · rw [hf1 e k hk, if_pos hk]; rfl
  refine V_astore E dX7_pourOver_107 (by decide) rfl ?_
  refine V_iconst (v := 0) E dX7_pourOver_109 (by decide) ?_
  refine V_istore E dX7_pourOver_110 (by decide) rfl ?_
  have loop : ∀ m p S9, p + m = 60 → YFr2 S S9 v u → mvMid S9 A v u g p → aI S9 203 = f → V X 112 [some (.ref (1000 + v)), some (.ref (1000 + u)), some (.int (nI (g))), some (.ref (202)), none, none, none, none, none, some (.ref (203)), some (.int (nI (p)))] [] S9 0 0 := by
    intro m
    induction m with
    | zero =>
      intro p S9 hp hF9 h9 hr9
      have hp6 : p = 60 := by omega
      subst hp6
      refine V_iload E dX7_pourOver_112 rfl ?_
      refine V_bipush (v := 60) E dX7_pourOver_114 (by decide) ?_
      refine V_ge_yes (a := 60) (b := 60) (tgt := 150) E dX7_pourOver_116 (by decide) rfl rfl (by omega) (by omega) ?_
      exact V_vret E R dX7_pourOver_150 (Nat.le_refl _) (Nat.le_refl _) ⟨rfl, hF9, hY.move hF9 h9 hvu hv hu h1 h0 hg⟩
    | succ m ih =>
      intro p S9 hp hF9 h9 hr9
      have hsp := mvS_le h0 hg (show p < 60 by omega)
      have hs2 := sumN_part (f := mvS A v g) (show p + 1 ≤ 60 by omega)
      have hQ9 := hF9.ok hQ
      have k1v : kd S9 (1000 + v) = 7 + 1 := by rw [hF9.1]; exact hY.ok v hv
      have k2v : rf S9 (1000 + v) 1 = some (2000 + v) := by rw [hF9.2.2.1]; exact hY.dr v hv
      have k3v : kd S9 (2000 + v) = 21 := by rw [hF9.1]; exact hY.dk v hv
      have k4v : ln S9 (2000 + v) = 60 := by rw [hF9.2.1]; exact hY.dl v hv
      have k1u : kd S9 (1000 + u) = 7 + 1 := by rw [hF9.1]; exact hY.ok u hu
      have k2u : rf S9 (1000 + u) 1 = some (2000 + u) := by rw [hF9.2.2.1]; exact hY.dr u hu
      have k3u : kd S9 (2000 + u) = 21 := by rw [hF9.1]; exact hY.dk u hu
      have k4u : ln S9 (2000 + u) = 60 := by rw [hF9.2.1]; exact hY.dl u hu
      have ex : aI S9 203 p = nI (mvS A v g p) := by rw [hr9]; exact hsh p (by omega)
      have ex2 : aI (yPour S9 v p (-(nI (mvS A v g p))) 0) 203 p = nI (mvS A v g p) := (congrFun (yPour_fr.2.2.2.2.2.2 203 (by omega)) p).trans ex
      refine V_iload E dX7_pourOver_112 rfl ?_
      refine V_bipush (v := 60) E dX7_pourOver_114 (by decide) ?_
      refine V_ge_no (a := p) (b := 60) (tgt := 150) E dX7_pourOver_116 (by decide) rfl rfl (by omega) (by omega) ?_
      refine V_aload_n E dX7_pourOver_119 rfl ?_
      refine V_iload E dX7_pourOver_120 rfl ?_
      refine V_aload E dX7_pourOver_122 rfl ?_
      refine V_iload E dX7_pourOver_124 rfl ?_
      refine V_ia (j := p) E dX7_pourOver_126 (hQ9.k 203 21 rfl (by decide)) (@rfl _ (nI (p))) (hQ9.l 203 60 rfl (by decide)) (by omega) (by decide) ?_
      refine V_cvi (y := nI ((mvS A v g p))) ex ?_
      refine V_ineg E dX7_pourOver_127 ?_
      refine V_iconst (v := 0) E dX7_pourOver_128 (by decide) ?_
      refine V_callV E (cy_pourIn (x_l X) d S9 v k1v k2v k3v k4v p (by omega) (-(nI (mvS A v g p))) 0) ml_X7_46 mv_X7_pourIn k1v dX7_pourOver_129 rfl (by simp [Value.category]) (by omega) (by omega) (by omega) (fun r S2 hp => ?_)
      obtain ⟨rfl, rfl⟩ := hp
      refine V_aload_n E dX7_pourOver_132 rfl ?_
      refine V_iload E dX7_pourOver_133 rfl ?_
      refine V_aload E dX7_pourOver_135 rfl ?_
      refine V_iload E dX7_pourOver_137 rfl ?_
      refine V_ia (j := p) E dX7_pourOver_139 (hQ9.k 203 21 rfl (by decide)) (@rfl _ (nI (p))) (hQ9.l 203 60 rfl (by decide)) (by omega) (by decide) ?_
      refine V_cvi (y := nI ((mvS A v g p))) ex2 ?_
      refine V_iconst (v := 0) E dX7_pourOver_140 (by decide) ?_
      refine V_callV E (cy_pourIn (x_l X) d (yPour S9 v p (-(nI (mvS A v g p))) 0) u k1u k2u k3u k4u p (by omega) (nI (mvS A v g p)) 0) ml_X7_46 mv_X7_pourIn k1u dX7_pourOver_141 rfl (by simp [Value.category]) (by omega) (by omega) (by omega) (fun r S2 hp => ?_)
      obtain ⟨rfl, rfl⟩ := hp
      refine V_iinc (v := nI (p + 1)) E dX7_pourOver_144 rfl (ni_inc (a := p) (z := 1) (@rfl _ (nI (p)))) (by decide) rfl ?_
      refine V_goto (tgt := 112) E dX7_pourOver_147 (by decide) ?_
      refine ih (p + 1) _ (by omega) ((hF9.addv yPour_fr).addu yPour_fr) (h9.step hvu (by omega) (by omega) (by omega) rfl hsp (by omega)) ?_
      rw [yPour_fr.2.2.2.2.2.2 203 (by omega), yPour_fr.2.2.2.2.2.2 203 (by omega)]; exact hr9
  refine V_lo (lo' := [some (.ref (1000 + v)), some (.ref (1000 + u)), some (.int (nI (g))), some (.ref (202)), none, none, none, none, none, some (.ref (203)), some (.int (nI (0)))]) (And.intro rfl (And.intro rfl (And.intro rfl (And.intro rfl (And.intro rfl (And.intro rfl True.intro)))))) ?_
  refine loop 60 0 _ (by omega) (YFr2.D (((YFr2.rfl' S v u).addu YFr.I).addv YFr.I |>.addu YFr.I)) ?_ D2_f
  have E1 : ∀ k, fI (D2 (sI (sI (sI S (1000 + u) 4 (nI (mvT A v u g))) (1000 + v) 3 (nI (vW A v - mvW A v g))) (1000 + u) 3 (nI (vW A u + mvW A v g))) 203 204 f h) (1000 + v) k = up2 (fI S) (1000 + v) 3 (nI (vW A v - mvW A v g)) (1000 + v) k := fun k => (show up2 (up2 (up2 (fI S) (1000 + u) 4 (nI (mvT A v u g))) (1000 + v) 3 (nI (vW A v - mvW A v g))) (1000 + u) 3 (nI (vW A u + mvW A v g)) (1000 + v) k = _ from by rw [up2_ne (by omega), up2_self, up2_self, up2_ne (by omega)])
  have E2 : ∀ k, fI (D2 (sI (sI (sI S (1000 + u) 4 (nI (mvT A v u g))) (1000 + v) 3 (nI (vW A v - mvW A v g))) (1000 + u) 3 (nI (vW A u + mvW A v g))) 203 204 f h) (1000 + u) k = up2 (up2 (fI S) (1000 + u) 4 (nI (mvT A v u g))) (1000 + u) 3 (nI (vW A u + mvW A v g)) (1000 + u) k := fun k => (show up2 (up2 (up2 (fI S) (1000 + u) 4 (nI (mvT A v u g))) (1000 + v) 3 (nI (vW A v - mvW A v g))) (1000 + u) 3 (nI (vW A u + mvW A v g)) (1000 + u) k = _ from by rw [up2_self, up2_self, up2_ne (by omega)])
  have E3 : ∀ q, q ≠ 203 → aI (D2 (sI (sI (sI S (1000 + u) 4 (nI (mvT A v u g))) (1000 + v) 3 (nI (vW A v - mvW A v g))) (1000 + u) 3 (nI (vW A u + mvW A v g))) 203 204 f h) q = aI S q := fun q hq => (show va_up (aI S) 203 f q = aI S q from va_up_ne _ _ hq)
  refine ⟨⟨?_, ?_⟩, fun k hk => ⟨?_, ?_⟩, ⟨?_, ?_, ?_, ?_, ?_, ?_⟩, ?_, ?_, ?_, ?_, ?_, ?_⟩
  · rw [E1, up2_nk (by decide)]; exact hY.Y v hv
  · rw [E2, up2_nk (by decide), up2_nk (by decide)]; exact hY.Y u hu
  · rw [E3 _ (by omega), if_neg (by omega)]; exact hY.D v hv k hk
  · rw [E3 _ (by omega), if_neg (by omega)]; exact hY.D u hu k hk
  · rw [E1, up2_nk (by decide)]; exact hY.K v hv
  · rw [E1, up2_at]
  · rw [E1, up2_nk (by decide)]; exact hY.T v hv
  · rw [E1, up2_nk (by decide)]; exact hY.M v hv
  · rw [E1, up2_nk (by decide)]; exact hY.G v hv
  · rw [E1, up2_nk (by decide)]; exact hY.C v hv
  · rw [E2, up2_nk (by decide), up2_nk (by decide)]; exact hY.K u hu
  · rw [E2, up2_at]
  · rw [E2, up2_nk (by decide), up2_at]
  · rw [E2, up2_nk (by decide), up2_nk (by decide)]; exact hY.M u hu
  · rw [E2, up2_nk (by decide), up2_nk (by decide)]; exact hY.G u hu
  · rw [E2, up2_nk (by decide), up2_nk (by decide)]; exact hY.C u hu

theorem cy_move (l : Launch) (d : Nat) (S : GS) (A : AV) (t : Nat) (hO : VOK A t) (hQ : YOK S) (hY : YVes S A) (x z gr : Int32) : GC l (d + 3) yX10_move cX10_move 6 (some FieldType.int) [.ref 200, .int x, .int z, .int gr] S (fun r S2 => (pMove A x z gr ∧ r = some (.int (nI (vwt A (tn z) + tn gr))) ∧ YFr2 S S2 (tn x) (tn z) ∧ YVes S2 (aMove A (tn x) (tn z) (tn gr))) ∨ (¬ pMove A x z gr ∧ r = some (.int (-1)) ∧ S2 = S)) (0) (0) := by
  refine GC.ofV (by decide) (Nat.le_of_ble_eq_true rfl) (fun X hl E R hnm => ?_)
  subst hl
  have E : En X RX10 cX10_move 6 (d + 3) (0) (0) := E
  have R : Rt X (some FieldType.int) (fun r S2 => (pMove A x z gr ∧ r = some (.int (nI (vwt A (tn z) + tn gr))) ∧ YFr2 S S2 (tn x) (tn z) ∧ YVes S2 (aMove A (tn x) (tn z) (tn gr))) ∨ (¬ pMove A x z gr ∧ r = some (.int (-1)) ∧ S2 = S)) := R
  have hn := hO.1
  have h2 := hO.2.1
  refine V_aload_n E dX10_move_0 rfl ?_
  refine V_iload_n E dX10_move_1 rfl ?_
  refine V_callV E (cy_vesselAt (x_l X) d S A t hO hQ hY x) ml_X10_79 mv_X10_vesselAt (hQ.k 200 11 rfl (by decide)) dX10_move_2 rfl (by simp [Value.category]) (by omega) (by omega) (by omega) (fun r S2 hp => ?_)
  rcases hp with ⟨hxv, rfl, hS2⟩ | ⟨hxv, rfl, hS2⟩
  · obtain rfl := hS2.symm
    obtain ⟨v, rfl, tv, lv, uv, -⟩ := wi_nat hxv (by omega)
    rw [tv]
    have h3v := hO.2.2.1 v (by omega)
    have ewv : vwt A v = vdry A v + vW A v := rfl
    refine V_astore E dX10_move_5 (by decide) rfl ?_
    refine V_aload_n E dX10_move_7 rfl ?_
    refine V_iload_n E dX10_move_8 rfl ?_
    refine V_callV E (cy_vesselAt (x_l X) d S A t hO hQ hY z) ml_X10_79 mv_X10_vesselAt (hQ.k 200 11 rfl (by decide)) dX10_move_9 rfl (by simp [Value.category]) (by omega) (by omega) (by omega) (fun r S2 hp => ?_)
    rcases hp with ⟨hxu, rfl, hS2⟩ | ⟨hxu, rfl, hS2⟩
    · obtain rfl := hS2.symm
      obtain ⟨u, rfl, tu, lu, uu, -⟩ := wi_nat hxu (by omega)
      rw [tu]
      have h3u := hO.2.2.1 u (by omega)
      have ewu : vwt A u = vdry A u + vW A u := rfl
      refine V_astore E dX10_move_12 (by decide) rfl ?_
      refine V_aload E dX10_move_14 rfl ?_
      refine V_ifnull E dX10_move_16 ?_
      refine V_aload E dX10_move_19 rfl ?_
      refine V_ifnull E dX10_move_21 ?_
      refine V_iload_n E dX10_move_24 rfl ?_
      refine V_iload_n E dX10_move_25 rfl ?_
      refine V_icmp_eq (tgt := 39) E dX10_move_26 (by decide) (fun h26 => ?_) (fun h26 => ?_)
      · have g26 : v = u := (nI_eq (by omega) (by omega)).mp h26
        refine V_iconst (v := -1) E dX10_move_39 (by decide) ?_
        exact V_iret E R dX10_move_40 rfl (Nat.le_refl _) (Nat.le_refl _) (Or.inr ⟨fun q => q.1.1.2.2 (by rw [g26]), rfl, rfl⟩)
      · have g26 : v ≠ u := fun e => h26 (by rw [e])
        refine V_aload E dX10_move_29 rfl ?_
        refine V_aload E dX10_move_31 rfl ?_
        refine V_callV E (cy_mayGoTo (x_l X) d S A t hO hQ hY v u (by omega) (by omega) g26) ml_X10_83 mv_X7_mayGoTo (hY.ok v (by omega)) dX10_move_33 rfl (by simp [Value.category]) (by omega) (by omega) (by omega) (fun r S2 hp => ?_)
        obtain ⟨rfl, hS2⟩ := hp
        obtain rfl := hS2.symm
        refine V_ifne_b (tgt := 41) E dX10_move_36 (by decide) (fun hc36 => ?_) (fun hc36 => ?_)
        · refine V_iload_n E dX10_move_41 rfl ?_
          refine V_iconst (v := 1) E dX10_move_42 (by decide) ?_
          refine V_aload E dX10_move_43 rfl ?_
          refine V_callV E (cy_weight (x_l X) d S A t hO hQ hY v (by omega)) ml_X10_67 mv_X7_weight (hY.ok v (by omega)) dX10_move_45 rfl (by simp [Value.category]) (by omega) (by omega) (by omega) (fun r S2 hp => ?_)
          obtain ⟨rfl, hS2⟩ := hp
          obtain rfl := hS2.symm
          refine V_callS E (cy_isWithin (x_l X) d S _ _ _) ml_X10_61 ms_X10_isWithin dX10_move_48 rfl (by simp [Value.category]) (by omega) (by omega) (by omega) (fun r S2 hp => ?_)
          obtain ⟨rfl, hS2⟩ := hp
          obtain rfl := hS2.symm
          refine V_ifeq_b (tgt := 66) E dX10_move_51 (by decide) (fun hc51 => ?_) (fun hc51 => ?_)
          · have w51 : ¬ wi_ gr 1 (vwt A v) := fun q => hc51 ((wi_iff (by decide) (nI_toInt (by omega))).mpr q)
            refine V_iconst (v := -1) E dX10_move_66 (by decide) ?_
            exact V_iret E R dX10_move_67 rfl (Nat.le_refl _) (Nat.le_refl _) (Or.inr ⟨fun q => w51 (by have := q.2.1; rw [tv] at this; exact this), rfl, rfl⟩)
          · have w51 : wi_ gr 1 (vwt A v) := (wi_iff (by decide) (nI_toInt (by omega))).mp hc51
            obtain ⟨g, rfl, tg, lg, ug, -⟩ := wi_nat w51 (by omega)
            refine V_iload_n E dX10_move_54 rfl ?_
            refine V_ldc E dX10_move_55 kc_X10_66 ?_
            refine V_aload E dX10_move_57 rfl ?_
            refine V_callV E (cy_weight (x_l X) d S A t hO hQ hY u (by omega)) ml_X10_67 mv_X7_weight (hY.ok u (by omega)) dX10_move_59 rfl (by simp [Value.category]) (by omega) (by omega) (by omega) (fun r S2 hp => ?_)
            obtain ⟨rfl, hS2⟩ := hp
            obtain rfl := hS2.symm
            refine V_isub E dX10_move_62 ?_
            refine V_icmp_le (tgt := 68) E dX10_move_63 (by decide) (fun h63 => ?_) (fun h63 => ?_)
            · have g63 : vwt A u + g ≤ 1000000 := (le_subM (M := 1000000) (by omega) (by omega) (by omega)).mp h63
              refine V_aload E dX10_move_68 rfl ?_
              refine V_aload E dX10_move_70 rfl ?_
              refine V_iload_n E dX10_move_72 rfl ?_
              refine V_aload_n E dX10_move_73 rfl ?_
              refine V_getR E fl_X10_18 dX10_move_74 rfl (hQ.k 200 11 rfl (by decide)) (hQ.r 200 4 202 rfl) ?_
              refine V_callV E (cy_pourOver (x_l X) d S A t hO hQ hY v u (by omega) (by omega) g26 g (by omega) (by omega) g63) ml_X10_87 mv_X7_pourOver (hY.ok v (by omega)) dX10_move_77 rfl (by simp [Value.category]) (by omega) (by omega) (by omega) (fun r S2 hp => ?_)
              obtain ⟨rfl, hF2, hY2⟩ := hp
              have hO2 := hO.move (v := v) (u := u) (g := g) (by omega) (by omega) g26 (by omega) (by omega) g63 hc36.1.1 hc36.2
              refine V_aload E dX10_move_80 rfl ?_
              refine V_callV E (cy_weight (x_l X) d S2 (aMove A v u g) t hO2 (hF2.ok hQ) hY2 u (show u < vn A by omega)) ml_X10_67 mv_X7_weight (hY2.ok u (show u < vn A by omega)) dX10_move_82 rfl (by simp [Value.category]) (by omega) (by omega) (by omega) (fun r S2 hp => ?_)
              obtain ⟨rfl, hS3⟩ := hp
              obtain rfl := hS3.symm
              exact V_iret E R dX10_move_85 rfl (Nat.le_refl _) (Nat.le_refl _) (Or.inl ⟨⟨⟨⟨hxv, hxu, by rw [tv, tu]; exact g26⟩, by rw [tv, tu]; exact hc36.1, by rw [tv, tu]; exact hc36.2⟩, by rw [tv]; exact w51, by rw [tu, tg]; exact g63⟩, by rw [(aMove_wt g26 (by omega) (by omega)).2, tu, tg], by rw [tv, tu]; exact hF2, by rw [tv, tu, tg]; exact hY2⟩)
            · have g63 : ¬ vwt A u + g ≤ 1000000 := fun q => h63 ((le_subM (M := 1000000) (by omega) (by omega) (by omega)).mpr q)
              refine V_iconst (v := -1) E dX10_move_66 (by decide) ?_
              exact V_iret E R dX10_move_67 rfl (Nat.le_refl _) (Nat.le_refl _) (Or.inr ⟨fun q => g63 (by have := q.2.2; rw [tu, tg] at this; exact this), rfl, rfl⟩)
        · refine V_iconst (v := -1) E dX10_move_39 (by decide) ?_
          exact V_iret E R dX10_move_40 rfl (Nat.le_refl _) (Nat.le_refl _) (Or.inr ⟨fun q => hc36 (by have h8 := q.1.2.1; have h9 := q.1.2.2; rw [tv, tu] at h8 h9; exact ⟨h8, h9⟩), rfl, rfl⟩)
    · obtain rfl := hS2.symm
      refine V_astoreN E dX10_move_12 (by decide) rfl ?_
      refine V_aload E dX10_move_14 rfl ?_
      refine V_ifnull E dX10_move_16 ?_
      refine V_aloadN E dX10_move_19 rfl ?_
      refine V_ifnullN (tgt := 39) E dX10_move_21 (by decide) ?_
      refine V_iconst (v := -1) E dX10_move_39 (by decide) ?_
      exact V_iret E R dX10_move_40 rfl (Nat.le_refl _) (Nat.le_refl _) (Or.inr ⟨fun q => hxu q.1.1.2.1, rfl, rfl⟩)
  · obtain rfl := hS2.symm
    refine V_astoreN E dX10_move_5 (by decide) rfl ?_
    refine V_aload_n E dX10_move_7 rfl ?_
    refine V_iload_n E dX10_move_8 rfl ?_
    refine V_callV E (cy_vesselAt (x_l X) d S A t hO hQ hY z) ml_X10_79 mv_X10_vesselAt (hQ.k 200 11 rfl (by decide)) dX10_move_9 rfl (by simp [Value.category]) (by omega) (by omega) (by omega) (fun r S2 hp => ?_)
    rcases hp with ⟨hxu, rfl, hS2⟩ | ⟨hxu, rfl, hS2⟩
    · obtain rfl := hS2.symm
      obtain ⟨u, rfl, tu, lu, uu, -⟩ := wi_nat hxu (by omega)
      rw [tu]
      have h3u := hO.2.2.1 u (by omega)
      have ewu : vwt A u = vdry A u + vW A u := rfl
      refine V_astore E dX10_move_12 (by decide) rfl ?_
      refine V_aloadN E dX10_move_14 rfl ?_
      refine V_ifnullN (tgt := 39) E dX10_move_16 (by decide) ?_
      refine V_iconst (v := -1) E dX10_move_39 (by decide) ?_
      exact V_iret E R dX10_move_40 rfl (Nat.le_refl _) (Nat.le_refl _) (Or.inr ⟨fun q => hxv q.1.1.1, rfl, rfl⟩)
    · obtain rfl := hS2.symm
      refine V_astoreN E dX10_move_12 (by decide) rfl ?_
      refine V_aloadN E dX10_move_14 rfl ?_
      refine V_ifnullN (tgt := 39) E dX10_move_16 (by decide) ?_
      refine V_iconst (v := -1) E dX10_move_39 (by decide) ?_
      exact V_iret E R dX10_move_40 rfl (Nat.le_refl _) (Nat.le_refl _) (Or.inr ⟨fun q => hxv q.1.1.1, rfl, rfl⟩)
