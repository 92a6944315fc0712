theorem cy_Premium_init (l : Launch) (d : Nat) (S : GS) (A : AV) (hY : YVes S A) (x s c td : Nat) (hs : s < vn A) (hn : vn A ≤ 100) (hk : kd S (6000 + x) = 3 + 1) (hf : kd S (7000 + x) = 0) : GC l (d + 1) yX3_init cX3_init 4 none [.ref (6000 + x), .ref (1000 + s), .int (nI c), .int (nI td)] S (fun r S2 => r = none ∧ S2 = yPi S x s (vG A s) c td) (1) (20) := by
  refine GC.ofV (by decide) (Nat.le_of_ble_eq_true rfl) (fun X hl E R hnm => ?_)
  subst hl
  have E : En X RX3 cX3_init 4 (d + 1) (1) (20) := E
  have R : Rt X none (fun r S2 => r = none ∧ S2 = yPi S x s (vG A s) c td) := R
  refine V_aload_n E dX3_init_0 rfl ?_
  refine V_objInit E ml_X3_3 dX3_init_1 (by decide) (by omega) ?_
  refine V_aload_n E dX3_init_4 rfl ?_
  refine V_aload_n E dX3_init_5 rfl ?_
  refine V_putRF E fl_X3_9 hnm dX3_init_6 rfl hk rfl rfl ?_
  refine V_aload_n E dX3_init_9 rfl ?_
  refine V_aload_n E dX3_init_10 rfl ?_
  refine V_getIN E fn_X3_15 dX3_init_11 rfl (hY.ok s hs) ?_
  refine V_cvi (y := nI (vG A s)) (hY.G s hs) ?_
  refine V_putIF E fl_X3_21 hnm dX3_init_14 rfl hk ⟨rfl, rfl⟩ rfl rfl ?_
  refine V_aload_n E dX3_init_17 rfl ?_
  refine V_iload_n E dX3_init_18 rfl ?_
  refine V_putIF E fl_X3_22 hnm dX3_init_19 rfl hk ⟨rfl, rfl⟩ rfl rfl ?_
  refine V_aload_n E dX3_init_22 rfl ?_
  refine V_iload_n E dX3_init_23 rfl ?_
  refine V_putIF E fl_X3_25 hnm dX3_init_24 rfl hk ⟨rfl, rfl⟩ rfl rfl ?_
  refine V_aload_n E dX3_init_27 rfl ?_
  refine V_bipush (v := 20) E dX3_init_28 (by decide) ?_
  refine V_newa (at_ := .int) (N := 20) (7000 + x) E rfl (by decide) ac_int dX3_init_30 (rfl : (20 : Int32) = nI 20) (by omega) hf (by omega) (by omega) ?_
  refine V_putRF E fl_X3_28 hnm dX3_init_32 rfl ((sN_kd (c := 21) (n := 20) (by omega)).trans hk) rfl rfl ?_
  refine V_aload_n E dX3_init_35 rfl ?_
  refine V_iconst (v := -1) E dX3_init_36 (by decide) ?_
  refine V_putI E fl_X3_32 dX3_init_37 rfl ((sN_kd (c := 21) (n := 20) (by omega)).trans hk) ⟨rfl, rfl⟩ rfl ?_
  exact V_vret E R dX3_init_40 (by omega) (by omega) ⟨rfl, rfl⟩

theorem cy_addP (l : Launch) (d : Nat) (S : GS) (A : AV) (t : Nat) (hO : VOK A t) (hY : YVes S A) (B : AB) (hB : BOK B) (hQ : YOK S) (hV : YVo S B) (L : AL) (hL : YLd S L) (hn : en L + 20 < 102400) (Q : AR) (hR : YPr S Q) (hRn : rn Q ≤ 100) (td : Nat) (htd : td ≤ 600) (pd : Nat) (hp : fJ S 212 5 = lN pd) (s c : Nat) (hs : s < vn A) (hdr : 0 < vdry A s) (hc : c ≤ 1000000) : GC l (d + 6) yX4_add cX4_add 5 (some FieldType.int) [.ref 212, .ref (1000 + s), .int (nI c), .ref 207, .int (nI td)] S (fun r S2 => (rn Q < 100 ∧ r = some (.int (nI (rn Q))) ∧ YLd S2 (lfd (gmN A s) (shr A B s (vG A s) (inF B td) c) (fun _ => 0) 1 td (rn Q) L 20) ∧ YPr S2 (aPrm Q s td c (vG A s) (inF B td) (shr A B s (vG A s) (inF B td) c)) ∧ fJ S2 212 5 = lN (pd + c) ∧ YQf S S2) ∨ (¬ rn Q < 100 ∧ r = some (.int (-1)) ∧ S2 = S)) (2 + (yK (en (lfd (gmN A s) (shr A B s (vG A s) (inF B td) c) (fun _ => 0) 1 td (rn Q) L 20)) - yK (en L))) (26 + (yN (en (lfd (gmN A s) (shr A B s (vG A s) (inF B td) c) (fun _ => 0) 1 td (rn Q) L 20)) - yN (en L))) := by
  refine GC.ofV (by decide) (Nat.le_of_ble_eq_true rfl) (fun X hl E R hnm => ?_)
  subst hl
  have E : En X RX4 cX4_add 5 (d + 6) (2 + (yK (en (lfd (gmN A s) (shr A B s (vG A s) (inF B td) c) (fun _ => 0) 1 td (rn Q) L 20)) - yK (en L))) (26 + (yN (en (lfd (gmN A s) (shr A B s (vG A s) (inF B td) c) (fun _ => 0) 1 td (rn Q) L 20)) - yN (en L))) := E
  have R : Rt X (some FieldType.int) (fun r S2 => (rn Q < 100 ∧ r = some (.int (nI (rn Q))) ∧ YLd S2 (lfd (gmN A s) (shr A B s (vG A s) (inF B td) c) (fun _ => 0) 1 td (rn Q) L 20) ∧ YPr S2 (aPrm Q s td c (vG A s) (inF B td) (shr A B s (vG A s) (inF B td) c)) ∧ fJ S2 212 5 = lN (pd + c) ∧ YQf S S2) ∨ (¬ rn Q < 100 ∧ r = some (.int (-1)) ∧ S2 = S)) := R
  have hvn := hO.1
  have hbn := hB.1
  have hq3 : vG A s ≤ 3 := (hO.2.2.1 s hs).2.2.2.1
  refine V_aload_n E dX4_add_0 rfl ?_
  refine V_getI E fl_X4_35 dX4_add_1 rfl (hQ.k 212 5 rfl (by decide)) ?_
  refine V_aload_n E dX4_add_4 rfl ?_
  refine V_getR E fl_X4_11 dX4_add_5 rfl (hQ.k 212 5 rfl (by decide)) (hQ.r 212 0 213 rfl) ?_
  refine V_al E dX4_add_8 (hQ.k 213 27 rfl (by decide)) (by decide) (hQ.l 213 100 rfl (by decide)) ?_
  refine V_icmp_lt (tgt := 14) E dX4_add_9 (by decide) (fun h9 => ?_) (fun h9 => ?_)
  · have g9 : rn Q < 100 := (nI_ltI (a := rn Q) (b := 100) (by omega) (by omega)).mp (by rw [← hR.1]; exact h9)
    obtain ⟨f6, f7⟩ := hR.2.2 (rn Q) (Nat.le_refl _) g9
    refine V_aload_n E dX4_add_14 rfl ?_
    refine V_getR E fl_X4_11 dX4_add_15 rfl (hQ.k 212 5 rfl (by decide)) (hQ.r 212 0 213 rfl) ?_
    refine V_aload_n E dX4_add_18 rfl ?_
    refine V_getI E fl_X4_35 dX4_add_19 rfl (hQ.k 212 5 rfl (by decide)) ?_
    refine V_newN (N := 6) (6000 + rn Q) E (by decide) cl_X4_9 dX4_add_22 f6 rfl (by omega) (by omega) ?_
    refine V_dup E dX4_add_25 rfl ?_
    refine V_aload_n E dX4_add_26 rfl ?_
    refine V_iload_n E dX4_add_27 rfl ?_
    refine V_iload E dX4_add_28 rfl ?_
    refine V_callI E (cy_Premium_init (x_l X) d (sN S (6000 + rn Q) 4 0) A (hY.fr (D := fun g => g = 6000 + rn Q) (YSm.N rfl) (fun g hg => by unfold dVes at hg; omega) hvn) (rn Q) s c td hs hvn (va_up_self _ _ _) ((sN_kd (by omega)).trans f7)) ml_X4_39 mi_X3_init dX4_add_30 rfl (by simp [Value.category]) (by omega) (by omega) (by omega) (fun r S2 hp => ?_)
    obtain ⟨rfl, rfl⟩ := hp
    have sp := (YSm.N (D := fun g => g = 6000 + rn Q ∨ g = 7000 + rn Q) (S := S) (g := 6000 + rn Q) (c := 4) (n := 0) (Or.inl rfl)).trans (yPi_sm (sN S (6000 + rn Q) 4 0) (rn Q) s (vG A s) c td)
    refine V_aas (j := (rn Q)) E dX4_add_33 ((sp.kd (by omega)).trans (hQ.k 213 27 rfl (by decide))) (by decide) (yA1_k6 S (rn Q) s (vG A s) c td pd) hR.1 ((sp.ln (by omega)).trans (hQ.l 213 100 rfl (by decide))) (by omega) (by decide) ?_
    refine V_aload_n E dX4_add_34 rfl ?_
    refine V_dup E dX4_add_35 rfl ?_
    refine V_getJ E fl_X4_42 dX4_add_36 rfl ((sp.kd (by omega)).trans (hQ.k 212 5 rfl (by decide))) ?_
    refine V_iload_n E dX4_add_39 rfl ?_
    refine V_i2l E dX4_add_40 rfl ?_
    refine V_ladd E dX4_add_41 ?_
    refine V_cvl (y := lN ((pd + c))) (ll_add (a := pd) (b := c) ((congrFun (sp.fJ (by omega)) 5).trans hp) (li_of (@rfl _ (nI (c))) (by omega))) ?_
    refine V_putJ E fl_X4_42 dX4_add_42 rfl ((sp.kd (by omega)).trans (hQ.k 212 5 rfl (by decide))) rfl ?_
    refine V_cvS (S' := (yA1 S (rn Q) s (vG A s) c td pd)) rfl ?_
    have sa := yA1_sm S (rn Q) s (vG A s) c td pd
    have hQa : YOK (yA1 S (rn Q) s (vG A s) c td pd) := yA1_ok hQ
    have hYa := hY.fr sa (fun g hg => by unfold dVes at hg; unfold dA1; omega) hvn
    have hVa := hV.fr sa (fun g hg => by unfold dVot at hg; unfold dA1; omega) hbn
    have hLa := hL.fr sa (fun g hg => by unfold dLed at hg; unfold dA1; omega)
    refine V_aload_n E dX4_add_45 rfl ?_
    refine V_aload_n E dX4_add_46 rfl ?_
    refine V_getI E fl_X4_35 dX4_add_47 rfl (hQa.k 212 5 rfl (by decide)) ?_
    refine V_cvi (y := nI ((rn Q))) ((congrFun (yA1_s S (rn Q) s (vG A s) c td pd) 4).trans hR.1) ?_
    refine V_aload_n E dX4_add_50 rfl ?_
    refine V_iload E dX4_add_51 rfl ?_
    refine V_iconst (v := 1) E dX4_add_53 (by decide) ?_
    refine V_callV E (cy_settle (x_l X) d (yA1 S (rn Q) s (vG A s) c td pd) A t hO hYa B hB hQa hVa L hLa hn (rn Q) s (vG A s) c td td 1 (fun _ => 0) g9 hs hdr hq3 hc htd (by omega) (fun _ _ => ⟨Nat.zero_le _, fun _ => rfl⟩) (yA1_r13 ..) (yA1_k6 ..) (yA1_r0 ..) (yA1_r4 ..) (yA1_k7 ..) (yA1_l7 ..) ((yA1_f ..).trans rfl) ((yA1_f ..).trans rfl) ((yA1_f ..).trans rfl) (fun m _ => yA1_a ..)) ml_X4_46 mv_X4_settle (hQa.k 212 5 rfl (by decide)) dX4_add_54 rfl (by simp [Value.category]) (by omega) (by omega) (by omega) (fun r S5 hp => ?_)
    obtain ⟨rfl, j1, j2, j3, j4⟩ := hp
    have k212 := j4.1.fI (g := 212) (by unfold dSet dLed; omega)
    refine V_aload_n E dX4_add_57 rfl ?_
    refine V_dup E dX4_add_58 rfl ?_
    refine V_getI E fl_X4_35 dX4_add_59 rfl ((j4.2.1 hQa).k 212 5 rfl (by decide)) ?_
    refine V_cvi (y := nI ((rn Q))) ((congrFun k212 4).trans ((congrFun (yA1_s S (rn Q) s (vG A s) c td pd) 4).trans hR.1)) ?_
    refine V_dup_x1 E dX4_add_62 rfl rfl ?_
    refine V_iconst (v := 1) E dX4_add_63 (by decide) ?_
    refine V_iadd E dX4_add_64 ?_
    refine V_cvi (y := nI (((rn Q) + 1))) (ni_add (a := (rn Q)) (b := 1) (@rfl _ (nI ((rn Q)))) (rfl : (1 : Int32) = nI 1)) ?_
    refine V_putI E fl_X4_35 dX4_add_65 rfl ((j4.2.1 hQa).k 212 5 rfl (by decide)) ⟨rfl, rfl⟩ rfl ?_
    exact V_iret E R dX4_add_68 rfl (by omega) (by omega) (Or.inl ⟨g9, rfl, YLd.fr (D := fun g => g = 212) (YSm.I rfl) (fun g hg => by unfold dLed at hg; omega) j1, yPr_new hR g9 j4 j2 j3, ((congrFun (j4.1.fJ (g := 212) (by unfold dSet dLed; omega)) 5).trans (yA1_j ..)), ((yA1_q g9).trans (j4.q g9)).trans ⟨YSm.I (by unfold dYQ; omega), fun h => h⟩⟩)
  · have g9 : ¬ rn Q < 100 := fun z => h9 (by rw [hR.1]; exact nI_lt (a := rn Q) (b := 100) z (by omega))
    refine V_iconst (v := -1) E dX4_add_12 (by decide) ?_
    exact V_iret E R dX4_add_13 rfl (by omega) (by omega) (Or.inr ⟨g9, rfl, rfl⟩)

theorem cy_premium (l : Launch) (d : Nat) (S : GS) (A : AV) (t : Nat) (hO : VOK A t) (hY : YVes S A) (B : AB) (hB : BOK B) (hQ : YOK S) (hV : YVo S B) (L : AL) (hL : YLd S L) (hn : en L + 20 < 102400) (Q : AR) (hR : YPr S Q) (hRn : rn Q ≤ 100) (td : Nat) (htd : td ≤ 600) (pd : Nat) (hp : fJ S 212 5 = lN pd) (ht : fI S 200 2 = nI td) (x y : Int32) : GC l (d + 7) yX10_premium cX10_premium 4 (some FieldType.int) [.ref 200, .int x, .int y] S (fun r S2 => (pPrm A Q x y ∧ r = some (.int (nI (rn Q))) ∧ YLd S2 (lfd (gmN A (tn x)) (shr A B (tn x) (vG A (tn x)) (inF B td) (tn y)) (fun _ => 0) 1 td (rn Q) L 20) ∧ YPr S2 (aPrm Q (tn x) td (tn y) (vG A (tn x)) (inF B td) (shr A B (tn x) (vG A (tn x)) (inF B td) (tn y))) ∧ fJ S2 212 5 = lN (pd + (tn y)) ∧ YQf S S2) ∨ (¬ pPrm A Q x y ∧ r = some (.int (-1)) ∧ S2 = S)) (2 + (yK (en (lfd (gmN A (tn x)) (shr A B (tn x) (vG A (tn x)) (inF B td) (tn y)) (fun _ => 0) 1 td (rn Q) L 20)) - yK (en L))) (26 + (yN (en (lfd (gmN A (tn x)) (shr A B (tn x) (vG A (tn x)) (inF B td) (tn y)) (fun _ => 0) 1 td (rn Q) L 20)) - yN (en L))) := by
  refine GC.ofV (by decide) (Nat.le_of_ble_eq_true rfl) (fun X hl E R hnm => ?_)
  subst hl
  have E : En X RX10 cX10_premium 4 (d + 7) (2 + (yK (en (lfd (gmN A (tn x)) (shr A B (tn x) (vG A (tn x)) (inF B td) (tn y)) (fun _ => 0) 1 td (rn Q) L 20)) - yK (en L))) (26 + (yN (en (lfd (gmN A (tn x)) (shr A B (tn x) (vG A (tn x)) (inF B td) (tn y)) (fun _ => 0) 1 td (rn Q) L 20)) - yN (en L))) := E
  have R : Rt X (some FieldType.int) (fun r S2 => (pPrm A Q x y ∧ r = some (.int (nI (rn Q))) ∧ YLd S2 (lfd (gmN A (tn x)) (shr A B (tn x) (vG A (tn x)) (inF B td) (tn y)) (fun _ => 0) 1 td (rn Q) L 20) ∧ YPr S2 (aPrm Q (tn x) td (tn y) (vG A (tn x)) (inF B td) (shr A B (tn x) (vG A (tn x)) (inF B td) (tn y))) ∧ fJ S2 212 5 = lN (pd + (tn y)) ∧ YQf S S2) ∨ (¬ pPrm A Q x y ∧ r = some (.int (-1)) ∧ S2 = S)) := R
  have hvn := hO.1
  refine V_aload_n E dX10_premium_0 rfl ?_
  refine V_iconst (v := 3) E dX10_premium_1 (by decide) ?_
  refine V_iload_n E dX10_premium_2 rfl ?_
  refine V_callV E (cy_vesselOf (x_l X) d S A t hO hQ hY 3 (by omega) x) ml_X10_57 mv_X10_vesselOf (hQ.k 200 11 rfl (by decide)) dX10_premium_3 rfl (by simp [Value.category]) (by omega) (by omega) (by omega) (fun r S2 hp => ?_)
  rcases hp with ⟨hx, rfl, hS2⟩ | ⟨hx, rfl, hS2⟩
  · obtain rfl := hS2.symm
    obtain ⟨s, rfl, ts, ls, us, -⟩ := wi_nat hx.1 (by omega)
    have k3 := hx.2
    rw [ts] at k3 ⊢
    have hs : s < vn A := by omega
    have h3 := hO.2.2.1 s hs
    refine V_astore_n E dX10_premium_6 (by decide) rfl ?_
    refine V_aload_n E dX10_premium_7 rfl ?_
    refine V_ifnull E dX10_premium_8 ?_
    refine V_aload_n E dX10_premium_11 rfl ?_
    refine V_getIN E fn_X10_112 dX10_premium_12 rfl (hY.ok s hs) ?_
    refine V_if_eq (tgt := 28) E dX10_premium_15 (by decide) (fun h15 => ?_) (fun h15 => ?_)
    · have g : ¬ pPrm A Q (nI s) y := fun z => z.1.2 (by rw [ts]; exact (nI_eq (a := vG A s) (b := 0) (by omega) (by omega)).mp ((hY.G s hs).symm.trans h15))
      refine V_iconst (v := -1) E dX10_premium_28 (by decide) ?_
      exact V_iret E R dX10_premium_29 rfl (by omega) (by omega) (Or.inr ⟨g, rfl, rfl⟩)
    · have g15 : vG A s ≠ 0 := fun e => h15 ((hY.G s hs).trans (by rw [e]; rfl))
      have hdr : 0 < vdry A s := by have z1 := h3.2.2.2.2.2.2.2.2.2.1 g15; have z2 := (h3.2.2.2.2.2.2.2.2.2.2 z1).2.1; omega
      refine V_iload_n E dX10_premium_18 rfl ?_
      refine V_iconst (v := 1) E dX10_premium_19 (by decide) ?_
      refine V_ldc E dX10_premium_20 kc_X10_66 ?_
      refine V_callS E (cy_isWithin (x_l X) d S _ _ _) ml_X10_61 ms_X10_isWithin dX10_premium_22 rfl (by simp [Value.category]) (by omega) (by omega) (by omega) (fun r S2 hp => ?_)
      obtain ⟨rfl, hS2⟩ := hp
      obtain rfl := hS2.symm
      refine V_ifne_b (tgt := 30) E dX10_premium_25 (by decide) (fun hc25 => ?_) (fun hc25 => ?_)
      · have w25 : wi_ y 1 1000000 := (wi_iff (by decide) (by decide)).mp hc25
        obtain ⟨c, rfl, tc, lc, uc, -⟩ := wi_nat w25 (by omega)
        refine V_aload_n E dX10_premium_30 rfl ?_
        refine V_getR E fl_X10_41 dX10_premium_31 rfl (hQ.k 200 11 rfl (by decide)) (hQ.r 200 7 212 rfl) ?_
        refine V_aload_n E dX10_premium_34 rfl ?_
        refine V_iload_n E dX10_premium_35 rfl ?_
        refine V_aload_n E dX10_premium_36 rfl ?_
        refine V_getR E fl_X10_34 dX10_premium_37 rfl (hQ.k 200 11 rfl (by decide)) (hQ.r 200 6 207 rfl) ?_
        refine V_aload_n E dX10_premium_40 rfl ?_
        refine V_getI E fl_X10_99 dX10_premium_41 rfl (hQ.k 200 11 rfl (by decide)) ?_
        refine V_cvi ht ?_
        rw [ts, tc] at E R
        refine V_callV E (cy_addP (x_l X) d S A t hO hY B hB hQ hV L hL hn Q hR hRn td htd pd hp s c hs hdr (by omega)) ml_X10_149 mv_X4_add (hQ.k 212 5 rfl (by decide)) dX10_premium_44 rfl (by simp [Value.category]) (by omega) (by omega) (by omega) (fun r S2 hp => ?_)
        rcases hp with ⟨g9, rfl, hrest⟩ | ⟨g9, rfl, hS2⟩
        · exact V_iret E R dX10_premium_47 rfl (by omega) (by omega) (Or.inl ⟨⟨⟨hx, by rw [ts]; exact g15⟩, w25, g9⟩, rfl, hrest⟩)
        · obtain rfl := hS2.symm
          have g : ¬ pPrm A Q (nI s) (nI c) := fun z => g9 z.2.2
          exact V_iret E R dX10_premium_47 rfl (by omega) (by omega) (Or.inr ⟨g, rfl, rfl⟩)
      · have g : ¬ pPrm A Q (nI s) y := fun z => hc25 ((wi_iff (by decide) (by decide)).mpr z.2.1)
        refine V_iconst (v := -1) E dX10_premium_28 (by decide) ?_
        exact V_iret E R dX10_premium_29 rfl (by omega) (by omega) (Or.inr ⟨g, rfl, rfl⟩)
  · obtain rfl := hS2.symm
    have g : ¬ pPrm A Q x y := fun z => hx z.1.1
    refine V_astore_nN E dX10_premium_6 (by decide) rfl ?_
    refine V_aload_nN E dX10_premium_7 rfl ?_
    refine V_ifnullN (tgt := 28) E dX10_premium_8 (by decide) ?_
    refine V_iconst (v := -1) E dX10_premium_28 (by decide) ?_
    exact V_iret E R dX10_premium_29 rfl (by omega) (by omega) (Or.inr ⟨g, rfl, rfl⟩)
