theorem cy_pourIn (l : Launch) (d : Nat) (S : GS) (v : Nat) (hk : kd S (1000 + v) = 7 + 1) (hr : rf S (1000 + v) 1 = some (2000 + v)) (hk2 : kd S (2000 + v) = 21) (hl2 : ln S (2000 + v) = 60) (p : Nat) (hp : p < 60) (a b : Int32) : GC l (d) yX7_pourIn cX7_pourIn 4 none [.ref (1000 + v), .int (nI p), .int a, .int b] S (fun r S2 => r = none ∧ S2 = yPour S v p a b) (0) (0) := by
  refine GC.ofV (by decide) (Nat.le_of_ble_eq_true rfl) (fun X hl E R hnm => ?_)
  subst hl
  have E : En X RX7 cX7_pourIn 4 (d) (0) (0) := E
  have R : Rt X none (fun r S2 => r = none ∧ S2 = yPour S v p a b) := R
  refine V_aload_n E dX7_pourIn_0 rfl ?_
  refine V_getR E fl_X7_15 dX7_pourIn_1 rfl hk hr ?_
  refine V_iload_n E dX7_pourIn_4 rfl ?_
  refine V_dup2 E dX7_pourIn_5 rfl rfl ?_
  refine V_ia (j := p) E dX7_pourIn_6 hk2 (@rfl _ (nI (p))) hl2 (by omega) (by decide) ?_
  refine V_iload_n E dX7_pourIn_7 rfl ?_
  refine V_iadd E dX7_pourIn_8 ?_
  refine V_ias (j := p) E dX7_pourIn_9 hk2 (@rfl _ (nI (p))) hl2 (by omega) (by decide) ?_
  refine V_aload_n E dX7_pourIn_10 rfl ?_
  refine V_dup E dX7_pourIn_11 rfl ?_
  refine V_getI E fl_X7_19 dX7_pourIn_12 rfl hk ?_
  refine V_iload_n E dX7_pourIn_15 rfl ?_
  refine V_iadd E dX7_pourIn_16 ?_
  refine V_putI E fl_X7_19 dX7_pourIn_17 rfl hk ⟨rfl, rfl⟩ rfl ?_
  refine V_aload_n E dX7_pourIn_20 rfl ?_
  refine V_dup E dX7_pourIn_21 rfl ?_
  refine V_getI E fl_X7_22 dX7_pourIn_22 rfl hk ?_
  refine V_iload_n E dX7_pourIn_25 rfl ?_
  refine V_iadd E dX7_pourIn_26 ?_
  refine V_cvi (y := fI S (1000 + v) 3 + b) (by rw [fI_sI, up2_nk (by decide)]; rfl) ?_
  refine V_putI E fl_X7_22 dX7_pourIn_27 rfl hk ⟨rfl, rfl⟩ rfl ?_
  exact V_vret E R dX7_pourIn_30 (Nat.le_refl _) (Nat.le_refl _) ⟨rfl, rfl⟩

theorem cy_setMark (l : Launch) (d : Nat) (S : GS) (A : AV) (t : Nat) (hO : VOK A t) (hQ : YOK S) (hY : YVes S A) (v : Nat) (hv : v < vn A) (c : Nat) (hc : c ≤ 1) : GC l (d) yX10_setMark cX10_setMark 2 (some FieldType.boolean) [.ref (1000 + v), .int (nI c)] S (fun r S2 => (vM A v ≠ c ∧ r = some (.int 1) ∧ S2 = sI S (1000 + v) 5 (nI c)) ∨ (vM A v = c ∧ r = some (.int 0) ∧ S2 = S)) (0) (0) := by
  refine GC.ofV (by decide) (Nat.le_of_ble_eq_true rfl) (fun X hl E R hnm => ?_)
  subst hl
  have E : En X RX10 cX10_setMark 2 (d) (0) (0) := E
  have R : Rt X (some FieldType.boolean) (fun r S2 => (vM A v ≠ c ∧ r = some (.int 1) ∧ S2 = sI S (1000 + v) 5 (nI c)) ∨ (vM A v = c ∧ r = some (.int 0) ∧ S2 = S)) := R
  have h3 := hO.2.2.1 v hv
  refine V_aload_n E dX10_setMark_0 rfl ?_
  refine V_ifnull E dX10_setMark_1 ?_
  refine V_aload_n E dX10_setMark_4 rfl ?_
  refine V_getIN E fn_X10_223 dX10_setMark_5 rfl (hY.ok v hv) ?_
  refine V_iload_n E dX10_setMark_8 rfl ?_
  refine V_icmp_ne (tgt := 14) E dX10_setMark_9 (by decide) (fun h9 => ?_) (fun h9 => ?_)
  · have g9 : vM A v ≠ c := fun e => h9 (by rw [hY.M v hv, e])
    refine V_aload_n E dX10_setMark_14 rfl ?_
    refine V_iload_n E dX10_setMark_15 rfl ?_
    refine V_putIN E fn_X10_223 dX10_setMark_16 rfl (hY.ok v hv) (nf_b hc) rfl ?_
    refine V_iconst (v := 1) E dX10_setMark_19 (by decide) ?_
    exact V_iret E R dX10_setMark_20 rfl (Nat.le_refl _) (Nat.le_refl _) (Or.inl ⟨g9, rfl, rfl⟩)
  · have g9 : vM A v = c := (nI_eq (by omega) (by omega)).mp (by rw [← hY.M v hv]; exact h9)
    refine V_iconst (v := 0) E dX10_setMark_12 (by decide) ?_
    exact V_iret E R dX10_setMark_13 rfl (Nat.le_refl _) (Nat.le_refl _) (Or.inr ⟨g9, rfl, rfl⟩)

theorem cy_setMarkN (l : Launch) (d : Nat) (S : GS) (c : Int32) : GC l (d) yX10_setMark cX10_setMark 2 (some FieldType.boolean) [.null, .int c] S (fun r S2 => r = some (.int 0) ∧ S2 = S) (0) (0) := by
  refine GC.ofV (by decide) (Nat.le_of_ble_eq_true rfl) (fun X hl E R hnm => ?_)
  subst hl
  have E : En X RX10 cX10_setMark 2 (d) (0) (0) := E
  have R : Rt X (some FieldType.boolean) (fun r S2 => r = some (.int 0) ∧ S2 = S) := R
  refine V_aload_nN E dX10_setMark_0 rfl ?_
  refine V_ifnullN (tgt := 12) E dX10_setMark_1 (by decide) ?_
  refine V_iconst (v := 0) E dX10_setMark_12 (by decide) ?_
  exact V_iret E R dX10_setMark_13 rfl (Nat.le_refl _) (Nat.le_refl _) ⟨rfl, rfl⟩

theorem cy_turn (l : Launch) (d : Nat) (S : GS) (A : AV) (t : Nat) (hO : VOK A t) (hQ : YOK S) (hY : YVes S A) (x : Int32) : GC l (d + 2) yX10_turn cX10_turn 2 (some FieldType.boolean) [.ref 200, .int x] S (fun r S2 => (pTurn A x ∧ r = some (.int 1) ∧ S2 = sI S (1000 + tn x) 5 (nI 1)) ∨ (¬ pTurn A x ∧ r = some (.int 0) ∧ S2 = S)) (0) (0) := by
  refine GC.ofV (by decide) (Nat.le_of_ble_eq_true rfl) (fun X hl E R hnm => ?_)
  subst hl
  have E : En X RX10 cX10_turn 2 (d + 2) (0) (0) := E
  have R : Rt X (some FieldType.boolean) (fun r S2 => (pTurn A x ∧ r = some (.int 1) ∧ S2 = sI S (1000 + tn x) 5 (nI 1)) ∨ (¬ pTurn A x ∧ r = some (.int 0) ∧ S2 = S)) := R
  have hn := hO.1
  refine V_aload_n E dX10_turn_0 rfl ?_
  refine V_iconst (v := 1) E dX10_turn_1 (by decide) ?_
  refine V_iload_n E dX10_turn_2 rfl ?_
  refine V_callV E (cy_vesselOf (x_l X) d S A t hO hQ hY 1 (by omega) x) ml_X10_57 mv_X10_vesselOf (hQ.k 200 11 rfl (by decide)) dX10_turn_3 rfl (by simp [Value.category]) (by omega) (by omega) (by omega) (fun r S2 hp => ?_)
  rcases hp with ⟨hx, rfl, hS2⟩ | ⟨hx, rfl, hS2⟩
  · obtain rfl := hS2.symm
    obtain ⟨v, rfl, tv, lv, uv, -⟩ := wi_nat hx.1 (by omega)
    have hk : vK A v = 1 := by rw [← tv]; exact hx.2
    rw [tv]
    have h3 := hO.2.2.1 v (by omega)
    have ewv : vwt A v = vdry A v + vW A v := rfl
    refine V_iconst (v := 1) E dX10_turn_6 (by decide) ?_
    refine V_callS E (cy_setMark (x_l X) d S A t hO hQ hY v (by omega) 1 (by omega)) ml_X10_91 ms_X10_setMark dX10_turn_7 rfl (by simp [Value.category]) (by omega) (by omega) (by omega) (fun r S2 hp => ?_)
    rcases hp with ⟨hm, rfl, rfl⟩ | ⟨hm, rfl, hS2⟩
    · exact V_iret E R dX10_turn_10 rfl (Nat.le_refl _) (Nat.le_refl _) (Or.inl ⟨⟨⟨hx.1, hx.2⟩, by rw [tv]; omega⟩, rfl, by rw [tv]⟩)
    · obtain rfl := hS2.symm
      exact V_iret E R dX10_turn_10 rfl (Nat.le_refl _) (Nat.le_refl _) (Or.inr ⟨fun q => by have := q.2; rw [tv] at this; omega, rfl, rfl⟩)
  · obtain rfl := hS2.symm
    refine V_iconst (v := 1) E dX10_turn_6 (by decide) ?_
    refine V_callS E (cy_setMarkN (x_l X) d S _) ml_X10_91 ms_X10_setMark dX10_turn_7 rfl (by simp [Value.category]) (by omega) (by omega) (by omega) (fun r S2 hp => ?_)
    obtain ⟨rfl, hS2⟩ := hp
    obtain rfl := hS2.symm
    exact V_iret E R dX10_turn_10 rfl (Nat.le_refl _) (Nat.le_refl _) (Or.inr ⟨fun q => hx q.1, rfl, rfl⟩)

theorem cy_cover (l : Launch) (d : Nat) (S : GS) (A : AV) (t : Nat) (hO : VOK A t) (hQ : YOK S) (hY : YVes S A) (x : Int32) (c : Nat) (hc : c ≤ 1) : GC l (d + 2) yX10_cover cX10_cover 3 (some FieldType.boolean) [.ref 200, .int x, .int (nI c)] S (fun r S2 => (pCover A x c ∧ r = some (.int 1) ∧ S2 = sI S (1000 + tn x) 5 (nI c)) ∨ (¬ pCover A x c ∧ r = some (.int 0) ∧ S2 = S)) (0) (0) := by
  refine GC.ofV (by decide) (Nat.le_of_ble_eq_true rfl) (fun X hl E R hnm => ?_)
  subst hl
  have E : En X RX10 cX10_cover 3 (d + 2) (0) (0) := E
  have R : Rt X (some FieldType.boolean) (fun r S2 => (pCover A x c ∧ r = some (.int 1) ∧ S2 = sI S (1000 + tn x) 5 (nI c)) ∨ (¬ pCover A x c ∧ r = some (.int 0) ∧ S2 = S)) := R
  have hn := hO.1
  refine V_aload_n E dX10_cover_0 rfl ?_
  refine V_iconst (v := 2) E dX10_cover_1 (by decide) ?_
  refine V_iload_n E dX10_cover_2 rfl ?_
  refine V_callV E (cy_vesselOf (x_l X) d S A t hO hQ hY 2 (by omega) x) ml_X10_57 mv_X10_vesselOf (hQ.k 200 11 rfl (by decide)) dX10_cover_3 rfl (by simp [Value.category]) (by omega) (by omega) (by omega) (fun r S2 hp => ?_)
  rcases hp with ⟨hx, rfl, hS2⟩ | ⟨hx, rfl, hS2⟩
  · obtain rfl := hS2.symm
    obtain ⟨v, rfl, tv, lv, uv, -⟩ := wi_nat hx.1 (by omega)
    have hk : vK A v = 2 := by rw [← tv]; exact hx.2
    rw [tv]
    have h3 := hO.2.2.1 v (by omega)
    have ewv : vwt A v = vdry A v + vW A v := rfl
    refine V_iload_n E dX10_cover_6 rfl ?_
    refine V_callS E (cy_setMark (x_l X) d S A t hO hQ hY v (by omega) c hc) ml_X10_91 ms_X10_setMark dX10_cover_7 rfl (by simp [Value.category]) (by omega) (by omega) (by omega) (fun r S2 hp => ?_)
    rcases hp with ⟨hm, rfl, rfl⟩ | ⟨hm, rfl, hS2⟩
    · exact V_iret E R dX10_cover_10 rfl (Nat.le_refl _) (Nat.le_refl _) (Or.inl ⟨⟨⟨hx.1, hx.2⟩, by rw [tv]; exact hm⟩, rfl, by rw [tv]⟩)
    · obtain rfl := hS2.symm
      exact V_iret E R dX10_cover_10 rfl (Nat.le_refl _) (Nat.le_refl _) (Or.inr ⟨fun q => by have := q.2; rw [tv] at this; omega, rfl, rfl⟩)
  · obtain rfl := hS2.symm
    refine V_iload_n E dX10_cover_6 rfl ?_
    refine V_callS E (cy_setMarkN (x_l X) d S _) ml_X10_91 ms_X10_setMark dX10_cover_7 rfl (by simp [Value.category]) (by omega) (by omega) (by omega) (fun r S2 hp => ?_)
    obtain ⟨rfl, hS2⟩ := hp
    obtain rfl := hS2.symm
    exact V_iret E R dX10_cover_10 rfl (Nat.le_refl _) (Nat.le_refl _) (Or.inr ⟨fun q => hx q.1, rfl, rfl⟩)

theorem cy_buy (l : Launch) (d : Nat) (S : GS) (A : AV) (t : Nat) (hO : VOK A t) (hQ : YOK S) (hY : YVes S A) (x pl gr wt : Int32) : GC l (d + 2) yX10_buy cX10_buy 7 (some FieldType.int) [.ref 200, .int x, .int pl, .int gr, .int wt] S (fun r S2 => (pBuy A x pl gr wt ∧ r = some (.int (nI (vwt A (tn x) + tn gr))) ∧ S2 = yBuy S (tn x) (tn pl) (tn gr) (tn gr * tn wt / 1000)) ∨ (¬ pBuy A x pl gr wt ∧ r = some (.int (-1)) ∧ S2 = S)) (0) (0) := by
  refine GC.ofV (by decide) (Nat.le_of_ble_eq_true rfl) (fun X hl E R hnm => ?_)
  subst hl
  have E : En X RX10 cX10_buy 7 (d + 2) (0) (0) := E
  have R : Rt X (some FieldType.int) (fun r S2 => (pBuy A x pl gr wt ∧ r = some (.int (nI (vwt A (tn x) + tn gr))) ∧ S2 = yBuy S (tn x) (tn pl) (tn gr) (tn gr * tn wt / 1000)) ∨ (¬ pBuy A x pl gr wt ∧ r = some (.int (-1)) ∧ S2 = S)) := R
  have hn := hO.1
  refine V_aload_n E dX10_buy_0 rfl ?_
  refine V_iconst (v := 0) E dX10_buy_1 (by decide) ?_
  refine V_iload_n E dX10_buy_2 rfl ?_
  refine V_callV E (cy_vesselOf (x_l X) d S A t hO hQ hY 0 (by omega) x) ml_X10_57 mv_X10_vesselOf (hQ.k 200 11 rfl (by decide)) dX10_buy_3 rfl (by simp [Value.category]) (by omega) (by omega) (by omega) (fun r S2 hp => ?_)
  rcases hp with ⟨hx, rfl, hS2⟩ | ⟨hx, rfl, hS2⟩
  · obtain rfl := hS2.symm
    obtain ⟨v, rfl, tv, lv, uv, -⟩ := wi_nat hx.1 (by omega)
    have hk : vK A v = 0 := by rw [← tv]; exact hx.2
    rw [tv]
    have h3 := hO.2.2.1 v (by omega)
    have ewv : vwt A v = vdry A v + vW A v := rfl
    refine V_astore E dX10_buy_6 (by decide) rfl ?_
    refine V_aload E dX10_buy_8 rfl ?_
    refine V_ifnull E dX10_buy_10 ?_
    refine V_iload_n E dX10_buy_13 rfl ?_
    refine V_iconst (v := 0) E dX10_buy_14 (by decide) ?_
    refine V_bipush (v := 59) E dX10_buy_15 (by decide) ?_
    refine V_callS E (cy_isWithin (x_l X) d S _ _ _) ml_X10_61 ms_X10_isWithin dX10_buy_17 rfl (by simp [Value.category]) (by omega) (by omega) (by omega) (fun r S2 hp => ?_)
    obtain ⟨rfl, hS2⟩ := hp
    obtain rfl := hS2.symm
    refine V_ifne_b (tgt := 25) E dX10_buy_20 (by decide) (fun hc20 => ?_) (fun hc20 => ?_)
    · have w20 : wi_ pl 0 59 := (wi_iff (by decide) (by decide)).mp hc20
      obtain ⟨p, rfl, tp, lp, up, -⟩ := wi_nat w20 (by omega)
      refine V_iload_n E dX10_buy_25 rfl ?_
      refine V_iconst (v := 1) E dX10_buy_26 (by decide) ?_
      refine V_ldc E dX10_buy_27 kc_X10_65 ?_
      refine V_callS E (cy_isWithin (x_l X) d S _ _ _) ml_X10_61 ms_X10_isWithin dX10_buy_29 rfl (by simp [Value.category]) (by omega) (by omega) (by omega) (fun r S2 hp => ?_)
      obtain ⟨rfl, hS2⟩ := hp
      obtain rfl := hS2.symm
      refine V_ifeq_b (tgt := 47) E dX10_buy_32 (by decide) (fun hc32 => ?_) (fun hc32 => ?_)
      · have w32 : ¬ wi_ gr 1 100000 := fun q => hc32 ((wi_iff (by decide) (by decide)).mpr q)
        refine V_iconst (v := -1) E dX10_buy_47 (by decide) ?_
        exact V_iret E R dX10_buy_48 rfl (Nat.le_refl _) (Nat.le_refl _) (Or.inr ⟨fun q => w32 q.2.2.1, rfl, rfl⟩)
      · have w32 : wi_ gr 1 100000 := (wi_iff (by decide) (by decide)).mp hc32
        obtain ⟨g, rfl, tg, lg, ug, -⟩ := wi_nat w32 (by omega)
        refine V_iload E dX10_buy_35 rfl ?_
        refine V_iconst (v := 0) E dX10_buy_37 (by decide) ?_
        refine V_sipush (v := 900) E dX10_buy_38 (by decide) ?_
        refine V_callS E (cy_isWithin (x_l X) d S _ _ _) ml_X10_61 ms_X10_isWithin dX10_buy_41 rfl (by simp [Value.category]) (by omega) (by omega) (by omega) (fun r S2 hp => ?_)
        obtain ⟨rfl, hS2⟩ := hp
        obtain rfl := hS2.symm
        refine V_ifne_b (tgt := 49) E dX10_buy_44 (by decide) (fun hc44 => ?_) (fun hc44 => ?_)
        · have w44 : wi_ wt 0 900 := (wi_iff (by decide) (by decide)).mp hc44
          obtain ⟨w, rfl, tw, lw, uw, -⟩ := wi_nat w44 (by omega)
          have hgw : g * w ≤ 90000000 := Nat.mul_le_mul (show g ≤ 100000 by omega) (show w ≤ 900 by omega)
          have hb1 : g * w / 1000 ≤ g := Nat.div_le_of_le_mul (by rw [Nat.mul_comm 1000 g]; exact Nat.mul_le_mul_left g (by omega))
          refine V_iload_n E dX10_buy_49 rfl ?_
          refine V_ldc E dX10_buy_50 kc_X10_66 ?_
          refine V_aload E dX10_buy_52 rfl ?_
          refine V_callV E (cy_weight (x_l X) d S A t hO hQ hY v (by omega)) ml_X10_67 mv_X7_weight (hY.ok v (by omega)) dX10_buy_54 rfl (by simp [Value.category]) (by omega) (by omega) (by omega) (fun r S2 hp => ?_)
          obtain ⟨rfl, hS2⟩ := hp
          obtain rfl := hS2.symm
          refine V_isub E dX10_buy_57 ?_
          refine V_cvi (y := nI ((1000000 - vwt A v))) (ni_sub (a := 1000000) (b := vwt A v) (rfl : (1000000 : Int32) = nI 1000000) (@rfl _ (nI (vwt A v))) (by omega)) ?_
          refine V_icmp_le (tgt := 63) E dX10_buy_58 (by decide) (fun h58 => ?_) (fun h58 => ?_)
          · have g58 : vwt A v + g ≤ 1000000 := by have := (nI_leI (a := g) (b := 1000000 - vwt A v) (by omega) (by omega)).mp h58; omega
            refine V_iload_n E dX10_buy_63 rfl ?_
            refine V_iload E dX10_buy_64 rfl ?_
            refine V_imul E dX10_buy_66 ?_
            refine V_sipush (v := 1000) E dX10_buy_67 (by decide) ?_
            refine V_idiv E dX10_buy_70 (by decide) ?_
            refine V_cvi (y := nI (((g * w) / 1000))) (ii_div (a := (g * w)) (b := 1000) (ni_mul (a := g) (b := w) (@rfl _ (nI (g))) (@rfl _ (nI (w)))) (rfl : (1000 : Int32) = nI 1000) (by omega) (by omega) (by omega)) ?_
            refine V_istore E dX10_buy_71 (by decide) rfl ?_
            refine V_aload E dX10_buy_73 rfl ?_
            refine V_iload_n E dX10_buy_75 rfl ?_
            refine V_iload_n E dX10_buy_76 rfl ?_
            refine V_iload E dX10_buy_77 rfl ?_
            refine V_isub E dX10_buy_79 ?_
            refine V_cvi (y := nI ((g - ((g * w) / 1000)))) (ni_sub (a := g) (b := ((g * w) / 1000)) (@rfl _ (nI (g))) (@rfl _ (nI (((g * w) / 1000)))) (by omega)) ?_
            refine V_iload E dX10_buy_80 rfl ?_
            refine V_callV E (cy_pourIn (x_l X) d S v (hY.ok v (by omega)) (hY.dr v (by omega)) (hY.dk v (by omega)) (hY.dl v (by omega)) p (by omega) (nI (g - g * w / 1000)) (nI (g * w / 1000))) ml_X10_71 mv_X7_pourIn (hY.ok v (by omega)) dX10_buy_82 rfl (by simp [Value.category]) (by omega) (by omega) (by omega) (fun r S2 hp => ?_)
            obtain ⟨rfl, rfl⟩ := hp
            refine V_aload_n E dX10_buy_85 rfl ?_
            refine V_dup E dX10_buy_86 rfl ?_
            refine V_getJ E fl_X10_75 dX10_buy_87 rfl (hQ.k 200 11 rfl (by decide)) ?_
            refine V_iload_n E dX10_buy_90 rfl ?_
            refine V_iload E dX10_buy_91 rfl ?_
            refine V_isub E dX10_buy_93 ?_
            refine V_i2l E dX10_buy_94 rfl ?_
            refine V_cvl (y := lN ((g - ((g * w) / 1000)))) (li_of (ni_sub (a := g) (b := ((g * w) / 1000)) (@rfl _ (nI (g))) (@rfl _ (nI (((g * w) / 1000)))) (by omega)) (by omega)) ?_
            refine V_ladd E dX10_buy_95 ?_
            refine V_putJ E fl_X10_75 dX10_buy_96 rfl (hQ.k 200 11 rfl (by decide)) rfl ?_
            refine V_aload E dX10_buy_99 rfl ?_
            refine V_callV E (cy_weight (x_l X) d (yBuy S v p g (g * w / 1000)) (aBuy A v p g (g * w / 1000)) t (hO.buy (by omega) hk (by omega) hb1 g58) hQ (hY.buy (by omega) hn (by omega)) v (show v < vn A by omega)) ml_X10_67 mv_X7_weight (hY.ok v (by omega)) dX10_buy_101 rfl (by simp [Value.category]) (by omega) (by omega) (by omega) (fun r S2 hp => ?_)
            obtain ⟨rfl, hS2⟩ := hp
            obtain rfl := hS2.symm
            exact V_iret E R dX10_buy_104 rfl (Nat.le_refl _) (Nat.le_refl _) (Or.inl ⟨⟨⟨hx.1, hx.2⟩, w20, w32, w44, by rw [tv, tg]; exact g58⟩, by rw [aBuy_wt (by omega) hb1, if_pos rfl, tv, tg], by rw [tv, tp, tg, tw]⟩)
          · have g58 : ¬ vwt A v + g ≤ 1000000 := fun q => h58 (nI_le (a := g) (b := 1000000 - vwt A v) (by omega) (by omega))
            refine V_iconst (v := -1) E dX10_buy_61 (by decide) ?_
            exact V_iret E R dX10_buy_62 rfl (Nat.le_refl _) (Nat.le_refl _) (Or.inr ⟨fun q => g58 (by have := q.2.2.2.2; rw [tv, tg] at this; exact this), rfl, rfl⟩)
        · have w44 : ¬ wi_ wt 0 900 := fun q => hc44 ((wi_iff (by decide) (by decide)).mpr q)
          refine V_iconst (v := -1) E dX10_buy_47 (by decide) ?_
          exact V_iret E R dX10_buy_48 rfl (Nat.le_refl _) (Nat.le_refl _) (Or.inr ⟨fun q => w44 q.2.2.2.1, rfl, rfl⟩)
    · have w20 : ¬ wi_ pl 0 59 := fun q => hc20 ((wi_iff (by decide) (by decide)).mpr q)
      refine V_iconst (v := -1) E dX10_buy_23 (by decide) ?_
      exact V_iret E R dX10_buy_24 rfl (Nat.le_refl _) (Nat.le_refl _) (Or.inr ⟨fun q => w20 q.2.1, rfl, rfl⟩)
  · obtain rfl := hS2.symm
    refine V_astoreN E dX10_buy_6 (by decide) rfl ?_
    refine V_aloadN E dX10_buy_8 rfl ?_
    refine V_ifnullN (tgt := 23) E dX10_buy_10 (by decide) ?_
    refine V_iconst (v := -1) E dX10_buy_23 (by decide) ?_
    exact V_iret E R dX10_buy_24 rfl (Nat.le_refl _) (Nat.le_refl _) (Or.inr ⟨fun q => hx q.1, rfl, rfl⟩)

theorem cy_part (l : Launch) (d : Nat) (S : GS) (A : AV) (t : Nat) (hO : VOK A t) (hQ : YOK S) (hY : YVes S A) (x pl : Int32) : GC l (d + 1) yX10_part cX10_part 4 (some FieldType.int) [.ref 200, .int x, .int pl] S (fun r S2 => ((wi_ x 0 ((vn A : Int) - 1) ∧ wi_ pl 0 59) ∧ r = some (.int (nI (vD A (tn x) (tn pl)))) ∧ S2 = S) ∨ (¬ (wi_ x 0 ((vn A : Int) - 1) ∧ wi_ pl 0 59) ∧ r = some (.int 0) ∧ S2 = S)) (0) (0) := by
  refine GC.ofV (by decide) (Nat.le_of_ble_eq_true rfl) (fun X hl E R hnm => ?_)
  subst hl
  have E : En X RX10 cX10_part 4 (d + 1) (0) (0) := E
  have R : Rt X (some FieldType.int) (fun r S2 => ((wi_ x 0 ((vn A : Int) - 1) ∧ wi_ pl 0 59) ∧ r = some (.int (nI (vD A (tn x) (tn pl)))) ∧ S2 = S) ∨ (¬ (wi_ x 0 ((vn A : Int) - 1) ∧ wi_ pl 0 59) ∧ r = some (.int 0) ∧ S2 = S)) := R
  have hn := hO.1
  refine V_aload_n E dX10_part_0 rfl ?_
  refine V_iload_n E dX10_part_1 rfl ?_
  refine V_callV E (cy_vesselAt (x_l X) d S A t hO hQ hY x) ml_X10_79 mv_X10_vesselAt (hQ.k 200 11 rfl (by decide)) dX10_part_2 rfl (by simp [Value.category]) (by omega) (by omega) (by omega) (fun r S2 hp => ?_)
  rcases hp with ⟨hx, rfl, hS2⟩ | ⟨hx, rfl, hS2⟩
  · obtain rfl := hS2.symm
    obtain ⟨v, rfl, tv, lv, uv, -⟩ := wi_nat hx (by omega)
    rw [tv]
    have h3 := hO.2.2.1 v (by omega)
    refine V_astore_n E dX10_part_5 (by decide) rfl ?_
    refine V_aload_n E dX10_part_6 rfl ?_
    refine V_ifnull E dX10_part_7 ?_
    refine V_iload_n E dX10_part_10 rfl ?_
    refine V_iconst (v := 0) E dX10_part_11 (by decide) ?_
    refine V_bipush (v := 59) E dX10_part_12 (by decide) ?_
    refine V_callS E (cy_isWithin (x_l X) d S _ _ _) ml_X10_61 ms_X10_isWithin dX10_part_14 rfl (by simp [Value.category]) (by omega) (by omega) (by omega) (fun r S2 hp => ?_)
    obtain ⟨rfl, hS2⟩ := hp
    obtain rfl := hS2.symm
    refine V_ifne_b (tgt := 24) E dX10_part_17 (by decide) (fun hc17 => ?_) (fun hc17 => ?_)
    · have w17 : wi_ pl 0 59 := (wi_iff (by decide) (by decide)).mp hc17
      obtain ⟨p, rfl, tp, lp, up, -⟩ := wi_nat w17 (by omega)
      refine V_aload_n E dX10_part_24 rfl ?_
      refine V_getRN E fn_X10_152 dX10_part_25 rfl (hY.ok v (by omega)) (hY.dr v (by omega)) ?_
      refine V_iload_n E dX10_part_28 rfl ?_
      refine V_ia (j := p) E dX10_part_29 (hY.dk v (by omega)) (@rfl _ (nI (p))) (hY.dl v (by omega)) (by omega) (by decide) ?_
      exact V_iret E R dX10_part_30 rfl (Nat.le_refl _) (Nat.le_refl _) (Or.inl ⟨⟨hx, w17⟩, by rw [(hY.D v (by omega) (p) (by omega)), tv, tp], rfl⟩)
    · have w17 : ¬ wi_ pl 0 59 := fun q => hc17 ((wi_iff (by decide) (by decide)).mpr q)
      refine V_iconst (v := 0) E dX10_part_20 (by decide) ?_
      refine V_goto (tgt := 30) E dX10_part_21 (by decide) ?_
      exact V_iret E R dX10_part_30 rfl (Nat.le_refl _) (Nat.le_refl _) (Or.inr ⟨fun q => w17 q.2, rfl, rfl⟩)
  · obtain rfl := hS2.symm
    refine V_astore_nN E dX10_part_5 (by decide) rfl ?_
    refine V_aload_nN E dX10_part_6 rfl ?_
    refine V_ifnullN (tgt := 20) E dX10_part_7 (by decide) ?_
    refine V_iconst (v := 0) E dX10_part_20 (by decide) ?_
    refine V_goto (tgt := 30) E dX10_part_21 (by decide) ?_
    exact V_iret E R dX10_part_30 rfl (Nat.le_refl _) (Nat.le_refl _) (Or.inr ⟨fun q => hx q.1, rfl, rfl⟩)

theorem cy_plotsInAll (l : Launch) (d : Nat) (S : GS) (A : AV) (t : Nat) (hO : VOK A t) (hQ : YOK S) (hY : YVes S A) (v : Nat) (hv : v < vn A) : GC l (d) yX7_plotsInAll cX7_plotsInAll 3 (some FieldType.int) [.ref (1000 + v)] S (fun r S2 => r = some (.int (nI (vplots A v))) ∧ S2 = S) (0) (0) := by
  refine GC.ofV (by decide) (Nat.le_of_ble_eq_true rfl) (fun X hl E R hnm => ?_)
  subst hl
  have E : En X RX7 cX7_plotsInAll 3 (d) (0) (0) := E
  have R : Rt X (some FieldType.int) (fun r S2 => r = some (.int (nI (vplots A v))) ∧ S2 = S) := R
  have h1 := hO.1
  have h2 := hO.2.1
  have h3 := hO.2.2.1 v hv
  have ewv : vwt A v = vdry A v + vW A v := rfl
  refine V_iconst (v := 0) E dX7_plotsInAll_0 (by decide) ?_
  refine V_istore_n E dX7_plotsInAll_1 (by decide) rfl ?_
  refine V_iconst (v := 0) E dX7_plotsInAll_2 (by decide) ?_
  refine V_istore_n E dX7_plotsInAll_3 (by decide) rfl ?_
  have loop : ∀ m p, p + m = 60 → V X 4 [some (.ref (1000 + v)), some (.int (nI (sumN (fun p => if 0 < vD A v p then 1 else 0) p))), some (.int (nI p))] [] S 0 0 := by
    intro m
    induction m with
    | zero =>
      intro p  hp
      refine V_iload_n E dX7_plotsInAll_4 rfl ?_
      refine V_bipush (v := 60) E dX7_plotsInAll_5 (by decide) ?_
      refine V_ge_yes (a := p) (b := 60) (tgt := 33) E dX7_plotsInAll_7 (by decide) (@rfl _ (nI (p))) (rfl : (60 : Int32) = nI 60) (by omega) (by omega) ?_
      refine V_iload_n E dX7_plotsInAll_33 rfl ?_
      exact V_iret E R dX7_plotsInAll_34 rfl (Nat.le_refl _) (Nat.le_refl _) ⟨by rw [show p = 60 by omega]; rfl, rfl⟩
    | succ m ih =>
      intro p  hp
      refine V_iload_n E dX7_plotsInAll_4 rfl ?_
      refine V_bipush (v := 60) E dX7_plotsInAll_5 (by decide) ?_
      refine V_ge_no (a := p) (b := 60) (tgt := 33) E dX7_plotsInAll_7 (by decide) (@rfl _ (nI (p))) (rfl : (60 : Int32) = nI 60) (by omega) (by omega) ?_
      refine V_iload_n E dX7_plotsInAll_10 rfl ?_
      refine V_aload_n E dX7_plotsInAll_11 rfl ?_
      refine V_getR E fl_X7_15 dX7_plotsInAll_12 rfl (hY.ok v (by omega)) (hY.dr v (by omega)) ?_
      refine V_iload_n E dX7_plotsInAll_15 rfl ?_
      refine V_ia (j := p) E dX7_plotsInAll_16 (hY.dk v (by omega)) (@rfl _ (nI (p))) (hY.dl v (by omega)) (by omega) (by decide) ?_
      refine V_if_le (tgt := 24) E dX7_plotsInAll_17 (by decide) (fun h41 => ?_) (fun h41 => ?_)
      · have h42 : ¬ 0 < vD A v p := by rw [hY.D v hv p (by omega)] at h41; have := (nI_leI (a := vD A v p) (b := 0) (by have := sumN_one (f := vD A v) (n := 60) (i := p) (by omega); have : vdry A v = sumN (vD A v) 60 := rfl; omega) (by omega)).mp h41; omega
        refine V_iconst (v := 0) E dX7_plotsInAll_24 (by decide) ?_
        refine V_iadd E dX7_plotsInAll_25 ?_
        refine V_cvi (y := nI (sumN (fun p => if 0 < vD A v p then 1 else 0) (p + 1))) (by simp only [sumN, if_neg h42]; exact Int32.add_zero _) ?_
        refine V_istore_n E dX7_plotsInAll_26 (by decide) rfl ?_
        refine V_iinc (v := nI (p + 1)) E dX7_plotsInAll_27 rfl (ni_inc (a := p) (z := 1) (@rfl _ (nI (p)))) (by decide) rfl ?_
        refine V_goto (tgt := 4) E dX7_plotsInAll_30 (by decide) ?_
        exact ih (p + 1) (by omega)
      · have h42 : 0 < vD A v p := by rcases Nat.eq_zero_or_pos (vD A v p) with e | e; exact absurd (by rw [hY.D v hv p (by omega), e]; decide) h41; exact e
        refine V_iconst (v := 1) E dX7_plotsInAll_20 (by decide) ?_
        refine V_goto (tgt := 25) E dX7_plotsInAll_21 (by decide) ?_
        refine V_iadd E dX7_plotsInAll_25 ?_
        refine V_cvi (y := nI (sumN (fun p => if 0 < vD A v p then 1 else 0) (p + 1))) (by simp only [sumN, if_pos h42]; exact nI_1 _) ?_
        refine V_istore_n E dX7_plotsInAll_26 (by decide) rfl ?_
        refine V_iinc (v := nI (p + 1)) E dX7_plotsInAll_27 rfl (ni_inc (a := p) (z := 1) (@rfl _ (nI (p)))) (by decide) rfl ?_
        refine V_goto (tgt := 4) E dX7_plotsInAll_30 (by decide) ?_
        exact ih (p + 1) (by omega)
  exact loop (60 - 0) 0 (by omega)

theorem cy_tell (l : Launch) (d : Nat) (S : GS) (A : AV) (t : Nat) (hO : VOK A t) (hQ : YOK S) (hY : YVes S A) (v : Nat) (hv : v < vn A) (wh : Int32) : GC l (d + 2) yX7_tell cX7_tell 2 (some FieldType.int) [.ref (1000 + v), .int wh] S (fun r S2 => (wi_ wh 0 8 ∧ r = some (.int (nI (vTold A v (tn wh)))) ∧ S2 = S) ∨ (¬ wi_ wh 0 8 ∧ r = some (.int (-1)) ∧ S2 = S)) (0) (0) := by
  refine GC.ofV (by decide) (Nat.le_of_ble_eq_true rfl) (fun X hl E R hnm => ?_)
  subst hl
  have E : En X RX7 cX7_tell 2 (d + 2) (0) (0) := E
  have R : Rt X (some FieldType.int) (fun r S2 => (wi_ wh 0 8 ∧ r = some (.int (nI (vTold A v (tn wh)))) ∧ S2 = S) ∨ (¬ wi_ wh 0 8 ∧ r = some (.int (-1)) ∧ S2 = S)) := R
  have h1 := hO.1
  have h2 := hO.2.1
  have h3 := hO.2.2.1 v hv
  have ewv : vwt A v = vdry A v + vW A v := rfl
  refine V_iload_n E dX7_tell_0 rfl ?_
  by_cases hwh : wi_ wh 0 8
  · obtain ⟨j, rfl, tj, lj, uj, -⟩ := wi_nat hwh (by omega)
    rcases (show j = 0 ∨ j = 1 ∨ j = 2 ∨ j = 3 ∨ j = 4 ∨ j = 5 ∨ j = 6 ∨ j = 7 ∨ j = 8 by omega) with rfl | rfl | rfl | rfl | rfl | rfl | rfl | rfl | rfl
    · refine V_tableIn (off := 51) (tgt := 52) E dX7_tell_1 (by decide) (by decide) (by decide) (by decide) ?_
      refine V_aload_n E dX7_tell_52 rfl ?_
      refine V_getI E fl_X7_9 dX7_tell_53 rfl (hY.ok v (by omega)) ?_
      exact V_iret E R dX7_tell_56 rfl (Nat.le_refl _) (Nat.le_refl _) (Or.inl ⟨hwh, by rw [tj, (hY.K v (by omega))]; rfl, rfl⟩)
    · refine V_tableIn (off := 56) (tgt := 57) E dX7_tell_1 (by decide) (by decide) (by decide) (by decide) ?_
      refine V_aload_n E dX7_tell_57 rfl ?_
      refine V_callV E (cy_weight (x_l X) d S A t hO hQ hY v hv) ml_X7_25 mv_X7_weight (hY.ok v (by omega)) dX7_tell_58 rfl (by simp [Value.category]) (by omega) (by omega) (by omega) (fun r S2 hp => ?_)
      obtain ⟨rfl, hS2⟩ := hp
      obtain rfl := hS2.symm
      exact V_iret E R dX7_tell_61 rfl (Nat.le_refl _) (Nat.le_refl _) (Or.inl ⟨hwh, by rw [tj, (@rfl _ (nI (vwt A v)))]; rfl, rfl⟩)
    · refine V_tableIn (off := 61) (tgt := 62) E dX7_tell_1 (by decide) (by decide) (by decide) (by decide) ?_
      refine V_aload_n E dX7_tell_62 rfl ?_
      refine V_getI E fl_X7_19 dX7_tell_63 rfl (hY.ok v (by omega)) ?_
      exact V_iret E R dX7_tell_66 rfl (Nat.le_refl _) (Nat.le_refl _) (Or.inl ⟨hwh, by rw [tj, (hY.Y v (by omega))]; rfl, rfl⟩)
    · refine V_tableIn (off := 66) (tgt := 67) E dX7_tell_1 (by decide) (by decide) (by decide) (by decide) ?_
      refine V_aload_n E dX7_tell_67 rfl ?_
      refine V_getI E fl_X7_22 dX7_tell_68 rfl (hY.ok v (by omega)) ?_
      exact V_iret E R dX7_tell_71 rfl (Nat.le_refl _) (Nat.le_refl _) (Or.inl ⟨hwh, by rw [tj, (hY.W v (by omega))]; rfl, rfl⟩)
    · refine V_tableIn (off := 71) (tgt := 72) E dX7_tell_1 (by decide) (by decide) (by decide) (by decide) ?_
      refine V_aload_n E dX7_tell_72 rfl ?_
      refine V_callV E (cy_wetness (x_l X) d S A t hO hQ hY v hv) ml_X7_31 mv_X7_wetness (hY.ok v (by omega)) dX7_tell_73 rfl (by simp [Value.category]) (by omega) (by omega) (by omega) (fun r S2 hp => ?_)
      obtain ⟨rfl, hS2⟩ := hp
      obtain rfl := hS2.symm
      exact V_iret E R dX7_tell_76 rfl (Nat.le_refl _) (Nat.le_refl _) (Or.inl ⟨hwh, by rw [tj, (@rfl _ (nI (vwet A v)))]; rfl, rfl⟩)
    · refine V_tableIn (off := 76) (tgt := 77) E dX7_tell_1 (by decide) (by decide) (by decide) (by decide) ?_
      refine V_aload_n E dX7_tell_77 rfl ?_
      refine V_getI E fl_X7_37 dX7_tell_78 rfl (hY.ok v (by omega)) ?_
      exact V_iret E R dX7_tell_81 rfl (Nat.le_refl _) (Nat.le_refl _) (Or.inl ⟨hwh, by rw [tj, (hY.T v (by omega))]; rfl, rfl⟩)
    · refine V_tableIn (off := 81) (tgt := 82) E dX7_tell_1 (by decide) (by decide) (by decide) (by decide) ?_
      refine V_aload_n E dX7_tell_82 rfl ?_
      refine V_getI E fl_X7_50 dX7_tell_83 rfl (hY.ok v (by omega)) ?_
      refine V_if_eq (tgt := 93) E dX7_tell_86 (by decide) (fun h15 => ?_) (fun h15 => ?_)
      · have h16 : vM A v = 0 := (nI_eq (a := vM A v) (b := 0) (by omega) (by omega)).mp (by rw [← hY.M v hv]; exact h15)
        refine V_iconst (v := 0) E dX7_tell_93 (by decide) ?_
        exact V_iret E R dX7_tell_94 rfl (Nat.le_refl _) (Nat.le_refl _) (Or.inl ⟨hwh, by rw [tj]; show _ = some (Value.int (nI (vM A v))); rw [h16]; rfl, rfl⟩)
      · have h16 : vM A v = 1 := by rcases Nat.eq_zero_or_pos (vM A v) with e | e; exact absurd (by rw [hY.M v hv, e]; rfl) h15; omega
        refine V_iconst (v := 1) E dX7_tell_89 (by decide) ?_
        refine V_goto (tgt := 94) E dX7_tell_90 (by decide) ?_
        exact V_iret E R dX7_tell_94 rfl (Nat.le_refl _) (Nat.le_refl _) (Or.inl ⟨hwh, by rw [tj]; show _ = some (Value.int (nI (vM A v))); rw [h16]; rfl, rfl⟩)
    · refine V_tableIn (off := 94) (tgt := 95) E dX7_tell_1 (by decide) (by decide) (by decide) (by decide) ?_
      refine V_aload_n E dX7_tell_95 rfl ?_
      refine V_getI E fl_X7_71 dX7_tell_96 rfl (hY.ok v (by omega)) ?_
      exact V_iret E R dX7_tell_99 rfl (Nat.le_refl _) (Nat.le_refl _) (Or.inl ⟨hwh, by rw [tj, (hY.G v (by omega))]; rfl, rfl⟩)
    · refine V_tableIn (off := 99) (tgt := 100) E dX7_tell_1 (by decide) (by decide) (by decide) (by decide) ?_
      refine V_aload_n E dX7_tell_100 rfl ?_
      refine V_callV E (cy_plotsInAll (x_l X) d S A t hO hQ hY v hv) ml_X7_74 mv_X7_plotsInAll (hY.ok v (by omega)) dX7_tell_101 rfl (by simp [Value.category]) (by omega) (by omega) (by omega) (fun r S2 hp => ?_)
      obtain ⟨rfl, hS2⟩ := hp
      obtain rfl := hS2.symm
      exact V_iret E R dX7_tell_104 rfl (Nat.le_refl _) (Nat.le_refl _) (Or.inl ⟨hwh, by rw [tj, (@rfl _ (nI (vplots A v)))]; rfl, rfl⟩)
  · refine V_tableOut (tgt := 105) E dX7_tell_1 (by rcases Int.lt_or_le wh.toInt 0 with q | q; exact Or.inl q; rcases Int.lt_or_le 8 wh.toInt with q2 | q2; exact Or.inr q2; exact absurd ⟨q, q2⟩ hwh) (by decide) ?_
    refine V_iconst (v := -1) E dX7_tell_105 (by decide) ?_
    exact V_iret E R dX7_tell_106 rfl (Nat.le_refl _) (Nat.le_refl _) (Or.inr ⟨hwh, rfl, rfl⟩)

theorem cy_told (l : Launch) (d : Nat) (S : GS) (A : AV) (t : Nat) (hO : VOK A t) (hQ : YOK S) (hY : YVes S A) (x wh : Int32) : GC l (d + 3) yX10_told cX10_told 4 (some FieldType.int) [.ref 200, .int x, .int wh] S (fun r S2 => (wi_ x 0 ((vn A : Int) - 1) ∧ wi_ wh 0 8 ∧ r = some (.int (nI (vTold A (tn x) (tn wh)))) ∧ S2 = S) ∨ (¬ (wi_ x 0 ((vn A : Int) - 1) ∧ wi_ wh 0 8) ∧ r = some (.int (-1)) ∧ S2 = S)) (0) (0) := by
  refine GC.ofV (by decide) (Nat.le_of_ble_eq_true rfl) (fun X hl E R hnm => ?_)
  subst hl
  have E : En X RX10 cX10_told 4 (d + 3) (0) (0) := E
  have R : Rt X (some FieldType.int) (fun r S2 => (wi_ x 0 ((vn A : Int) - 1) ∧ wi_ wh 0 8 ∧ r = some (.int (nI (vTold A (tn x) (tn wh)))) ∧ S2 = S) ∨ (¬ (wi_ x 0 ((vn A : Int) - 1) ∧ wi_ wh 0 8) ∧ r = some (.int (-1)) ∧ S2 = S)) := R
  have hn := hO.1
  refine V_aload_n E dX10_told_0 rfl ?_
  refine V_iload_n E dX10_told_1 rfl ?_
  refine V_callV E (cy_vesselAt (x_l X) d S A t hO hQ hY x) ml_X10_79 mv_X10_vesselAt (hQ.k 200 11 rfl (by decide)) dX10_told_2 rfl (by simp [Value.category]) (by omega) (by omega) (by omega) (fun r S2 hp => ?_)
  rcases hp with ⟨hx, rfl, hS2⟩ | ⟨hx, rfl, hS2⟩
  · obtain rfl := hS2.symm
    obtain ⟨v, rfl, tv, lv, uv, -⟩ := wi_nat hx (by omega)
    rw [tv]
    have h3 := hO.2.2.1 v (by omega)
    refine V_astore_n E dX10_told_5 (by decide) rfl ?_
    refine V_aload_n E dX10_told_6 rfl ?_
    refine V_ifnonnull (tgt := 14) E dX10_told_7 (by decide) ?_
    refine V_aload_n E dX10_told_14 rfl ?_
    refine V_iload_n E dX10_told_15 rfl ?_
    refine V_callV E (cy_tell (x_l X) d S A t hO hQ hY v (by omega) wh) ml_X10_156 mv_X7_tell (hY.ok v (by omega)) dX10_told_16 rfl (by simp [Value.category]) (by omega) (by omega) (by omega) (fun r S2 hp => ?_)
    rcases hp with ⟨hw1, rfl, hS2⟩ | ⟨hw1, rfl, hS2⟩
    · obtain rfl := hS2.symm
      exact V_iret E R dX10_told_19 rfl (Nat.le_refl _) (Nat.le_refl _) (Or.inl ⟨hx, hw1, by rw [tv], rfl⟩)
    · obtain rfl := hS2.symm
      exact V_iret E R dX10_told_19 rfl (Nat.le_refl _) (Nat.le_refl _) (Or.inr ⟨fun q => hw1 q.2, rfl, rfl⟩)
  · obtain rfl := hS2.symm
    refine V_astore_nN E dX10_told_5 (by decide) rfl ?_
    refine V_aload_nN E dX10_told_6 rfl ?_
    refine V_ifnonnullN E dX10_told_7 ?_
    refine V_iconst (v := -1) E dX10_told_10 (by decide) ?_
    refine V_goto (tgt := 19) E dX10_told_11 (by decide) ?_
    exact V_iret E R dX10_told_19 rfl (Nat.le_refl _) (Nat.le_refl _) (Or.inr ⟨fun q => hx q.1, rfl, rfl⟩)
