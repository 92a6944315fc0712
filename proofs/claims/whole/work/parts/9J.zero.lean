/-! ===== refused: no room is taken ===== -/
set_option maxHeartbeats 4000000 in
theorem cm_premium0 (l : Launch) (d : Nat) (S : GS) (A : AV) (t : Nat) (hO : VOK A t) (hM : MOK S) (hA : MVes S A) (B : AB) (hB : BOK B) (hV : MVo S B) (Q : AR) (hR : MPr S A Q) (hRn : rn Q ≤ 100) (td : Nat) (htd : td ≤ 600) (ht : fI S 0 0 = nI td) (pd : Nat) (hp : fJ S 0 5 = lN pd) (x y : Int32) (hng : ¬ pPrm A Q x y) : GC l (d + 2) yX11_premium cX11_premium 6 (some FieldType.int) [.ref 0, .int x, .int y] S (fun r S2 => r = some (.int (-1)) ∧ S2 = S) 0 0 := by
  refine GC.ofV (by decide) (Nat.le_of_ble_eq_true rfl) (fun X hl E R hnm => ?_)
  subst hl
  have E : En X RX11 cX11_premium 6 (d + 2) 0 0 := E
  have R : Rt X (some FieldType.int) (fun r S2 => r = some (.int (-1)) ∧ S2 = S) := R
  have hvn := hO.1
  refine V_aload_n E dX11_premium_0 rfl ?_
  refine V_iload_n E dX11_premium_1 rfl ?_
  refine V_iconst (v := 3) E dX11_premium_2 (by decide) ?_
  refine V_callV E (cm_is (x_l X) d S A t hO hM hA x 3 (by omega)) ml_X11_128 mv_X11_is hM.o dX11_premium_3 rfl (by simp [Value.category]) (by omega) (by omega) (by omega) (fun r S2 hp => ?_)
  obtain ⟨rfl, hS2⟩ := hp
  obtain rfl := hS2.symm
  refine V_ifeq_b (tgt := 45) E dX11_premium_6 (by decide) (fun hc6 => ?_) (fun hc6 => ?_)
  · refine V_iconst (v := -1) E dX11_premium_45 (by decide) ?_
    exact V_iret E R dX11_premium_46 rfl (Nat.le_refl _) (Nat.le_refl _) ⟨rfl, rfl⟩
  · obtain ⟨s, rfl, ts, ls, us, -⟩ := wi_nat hc6.1 (by omega)
    have hs : s < vn A := by omega
    have h3 := hO.2.2.1 s hs
    have k3 := hc6.2
    rw [ts] at k3
    refine V_aload_n E dX11_premium_9 rfl ?_
    refine V_getR E fl_X11_26 dX11_premium_10 rfl hM.o (hM.r 11 (by decide)) ?_
    refine V_iload_n E dX11_premium_13 rfl ?_
    refine V_ia (j := s) E dX11_premium_14 (hM.k 11 21 rfl (by decide)) (@rfl _ (nI (s))) (hM.l 11 100 rfl (by decide)) (by omega) (by decide) ?_
    refine V_if_eq (tgt := 45) E dX11_premium_15 (by decide) (fun h15 => ?_) (fun h15 => ?_)
    · refine V_iconst (v := -1) E dX11_premium_45 (by decide) ?_
      exact V_iret E R dX11_premium_46 rfl (Nat.le_refl _) (Nat.le_refl _) ⟨rfl, rfl⟩
    · have g15 : vG A s ≠ 0 := fun e => h15 ((hA.G s (by omega)).trans (by rw [e]; rfl))
      refine V_iload_n E dX11_premium_18 rfl ?_
      refine V_iconst (v := 1) E dX11_premium_19 (by decide) ?_
      refine V_ldc E dX11_premium_20 kc_X11_133 ?_
      refine V_callS E (cm_in (x_l X) d S _ _ _) ml_X11_115 ms_X11_in dX11_premium_22 rfl (by simp [Value.category]) (by omega) (by omega) (by omega) (fun r S2 hp => ?_)
      obtain ⟨rfl, hS2⟩ := hp
      obtain rfl := hS2.symm
      refine V_ifeq_b (tgt := 45) E dX11_premium_25 (by decide) (fun hc25 => ?_) (fun hc25 => ?_)
      · refine V_iconst (v := -1) E dX11_premium_45 (by decide) ?_
        exact V_iret E R dX11_premium_46 rfl (Nat.le_refl _) (Nat.le_refl _) ⟨rfl, rfl⟩
      · have w25 : wi_ y 1 1000000 := (wi_iff (by decide) (by decide)).mp hc25
        obtain ⟨c, rfl, tc, lc, uc, -⟩ := wi_nat w25 (by omega)
        refine V_aload_n E dX11_premium_28 rfl ?_
        refine V_getI E fl_X11_223 dX11_premium_29 rfl hM.o ?_
        refine V_bipush (v := 100) E dX11_premium_32 (by decide) ?_
        refine V_icmp_eq (tgt := 45) E dX11_premium_34 (by decide) (fun h34 => ?_) (fun h34 => ?_)
        · refine V_iconst (v := -1) E dX11_premium_45 (by decide) ?_
          exact V_iret E R dX11_premium_46 rfl (Nat.le_refl _) (Nat.le_refl _) ⟨rfl, rfl⟩
        · have g34 : rn Q < 100 := by rcases Nat.lt_or_ge (rn Q) 100 with z | z; exact z; exact absurd (hR.1.trans (congrArg nI (by omega : rn Q = 100))) h34
          exact absurd ⟨⟨hc6, by rw [ts]; exact g15⟩, w25, g34⟩ hng
theorem cy_addP0 (l : Launch) (d : Nat) (S : GS) (A : AV) (t : Nat) (hO : VOK A t) (hY : YVes S A) (B : AB) (hB : BOK B) (hQ : YOK S) (hV : YVo S B) (Q : AR) (hR : YPr S Q) (hRn : rn Q ≤ 100) (td : Nat) (htd : td ≤ 600) (pd : Nat) (hp : fJ S 212 5 = lN pd) (s c : Nat) (hs : s < vn A) (hdr : 0 < vdry A s) (hc : c ≤ 1000000) (h100 : ¬ rn Q < 100) : GC l (d) yX4_add cX4_add 5 (some FieldType.int) [.ref 212, .ref (1000 + s), .int (nI c), .ref 207, .int (nI td)] S (fun r S2 => r = some (.int (-1)) ∧ S2 = S) 0 0 := by
  refine GC.ofV (by decide) (Nat.le_of_ble_eq_true rfl) (fun X hl E R hnm => ?_)
  subst hl
  have E : En X RX4 cX4_add 5 (d) 0 0 := E
  have R : Rt X (some FieldType.int) (fun r S2 => r = some (.int (-1)) ∧ S2 = S) := R
  have hvn := hO.1
  have hbn := hB.1
  have hq3 : vG A s ≤ 3 := (hO.2.2.1 s hs).2.2.2.1
  refine V_aload_n E dX4_add_0 rfl ?_
  refine V_getI E fl_X4_35 dX4_add_1 rfl (hQ.k 212 5 rfl (by decide)) ?_
  refine V_aload_n E dX4_add_4 rfl ?_
  refine V_getR E fl_X4_11 dX4_add_5 rfl (hQ.k 212 5 rfl (by decide)) (hQ.r 212 0 213 rfl) ?_
  refine V_al E dX4_add_8 (hQ.k 213 27 rfl (by decide)) (by decide) (hQ.l 213 100 rfl (by decide)) ?_
  refine V_icmp_lt (tgt := 14) E dX4_add_9 (by decide) (fun h9 => ?_) (fun h9 => ?_)
  · exact absurd ((nI_ltI (a := rn Q) (b := 100) (by omega) (by omega)).mp (by rw [← hR.1]; exact h9)) h100
  · refine V_iconst (v := -1) E dX4_add_12 (by decide) ?_
    exact V_iret E R dX4_add_13 rfl (Nat.le_refl _) (Nat.le_refl _) ⟨rfl, rfl⟩
set_option maxHeartbeats 4000000 in
theorem cy_premium0 (l : Launch) (d : Nat) (S : GS) (A : AV) (t : Nat) (hO : VOK A t) (hY : YVes S A) (B : AB) (hB : BOK B) (hQ : YOK S) (hV : YVo S B) (Q : AR) (hR : YPr S Q) (hRn : rn Q ≤ 100) (td : Nat) (htd : td ≤ 600) (pd : Nat) (hp : fJ S 212 5 = lN pd) (ht : fI S 200 2 = nI td) (x y : Int32) (hng : ¬ pPrm A Q x y) : GC l (d + 7) yX10_premium cX10_premium 4 (some FieldType.int) [.ref 200, .int x, .int y] S (fun r S2 => r = some (.int (-1)) ∧ S2 = S) 0 0 := by
  refine GC.ofV (by decide) (Nat.le_of_ble_eq_true rfl) (fun X hl E R hnm => ?_)
  subst hl
  have E : En X RX10 cX10_premium 4 (d + 7) 0 0 := E
  have R : Rt X (some FieldType.int) (fun r S2 => r = some (.int (-1)) ∧ S2 = S) := R
  have hvn := hO.1
  refine V_aload_n E dX10_premium_0 rfl ?_
  refine V_iconst (v := 3) E dX10_premium_1 (by decide) ?_
  refine V_iload_n E dX10_premium_2 rfl ?_
  refine V_callV E (cy_vesselOf (x_l X) d S A t hO hQ hY 3 (by omega) x) ml_X10_57 mv_X10_vesselOf (hQ.k 200 11 rfl (by decide)) dX10_premium_3 rfl (by simp [Value.category]) (by omega) (by omega) (by omega) (fun r S2 hp => ?_)
  rcases hp with ⟨hx, rfl, hS2⟩ | ⟨hx, rfl, hS2⟩
  · obtain rfl := hS2.symm
    obtain ⟨s, rfl, ts, ls, us, -⟩ := wi_nat hx.1 (by omega)
    have k3 := hx.2
    rw [ts] at k3 ⊢
    have hs : s < vn A := by omega
    have h3 := hO.2.2.1 s hs
    refine V_astore_n E dX10_premium_6 (by decide) rfl ?_
    refine V_aload_n E dX10_premium_7 rfl ?_
    refine V_ifnull E dX10_premium_8 ?_
    refine V_aload_n E dX10_premium_11 rfl ?_
    refine V_getIN E fn_X10_112 dX10_premium_12 rfl (hY.ok s hs) ?_
    refine V_if_eq (tgt := 28) E dX10_premium_15 (by decide) (fun h15 => ?_) (fun h15 => ?_)
    · refine V_iconst (v := -1) E dX10_premium_28 (by decide) ?_
      exact V_iret E R dX10_premium_29 rfl (Nat.le_refl _) (Nat.le_refl _) ⟨rfl, rfl⟩
    · have g15 : vG A s ≠ 0 := fun e => h15 ((hY.G s hs).trans (by rw [e]; rfl))
      have hdr : 0 < vdry A s := by have z1 := h3.2.2.2.2.2.2.2.2.2.1 g15; have z2 := (h3.2.2.2.2.2.2.2.2.2.2 z1).2.1; omega
      refine V_iload_n E dX10_premium_18 rfl ?_
      refine V_iconst (v := 1) E dX10_premium_19 (by decide) ?_
      refine V_ldc E dX10_premium_20 kc_X10_66 ?_
      refine V_callS E (cy_isWithin (x_l X) d S _ _ _) ml_X10_61 ms_X10_isWithin dX10_premium_22 rfl (by simp [Value.category]) (by omega) (by omega) (by omega) (fun r S2 hp => ?_)
      obtain ⟨rfl, hS2⟩ := hp
      obtain rfl := hS2.symm
      refine V_ifne_b (tgt := 30) E dX10_premium_25 (by decide) (fun hc25 => ?_) (fun hc25 => ?_)
      · have w25 : wi_ y 1 1000000 := (wi_iff (by decide) (by decide)).mp hc25
        obtain ⟨c, rfl, tc, lc, uc, -⟩ := wi_nat w25 (by omega)
        refine V_aload_n E dX10_premium_30 rfl ?_
        refine V_getR E fl_X10_41 dX10_premium_31 rfl (hQ.k 200 11 rfl (by decide)) (hQ.r 200 7 212 rfl) ?_
        refine V_aload_n E dX10_premium_34 rfl ?_
        refine V_iload_n E dX10_premium_35 rfl ?_
        refine V_aload_n E dX10_premium_36 rfl ?_
        refine V_getR E fl_X10_34 dX10_premium_37 rfl (hQ.k 200 11 rfl (by decide)) (hQ.r 200 6 207 rfl) ?_
        refine V_aload_n E dX10_premium_40 rfl ?_
        refine V_getI E fl_X10_99 dX10_premium_41 rfl (hQ.k 200 11 rfl (by decide)) ?_
        refine V_cvi ht ?_
        refine V_callV E (cy_addP0 (x_l X) d S A t hO hY B hB hQ hV Q hR hRn td htd pd hp s c hs hdr (by omega) (fun z => hng ⟨⟨hx, by rw [ts]; exact g15⟩, w25, z⟩)) ml_X10_149 mv_X4_add (hQ.k 212 5 rfl (by decide)) dX10_premium_44 rfl (by simp [Value.category]) (by omega) (by omega) (by omega) (fun r S2 hp => ?_)
        obtain ⟨rfl, hS2⟩ := hp
        obtain rfl := hS2.symm
        exact V_iret E R dX10_premium_47 rfl (Nat.le_refl _) (Nat.le_refl _) ⟨rfl, rfl⟩
      · refine V_iconst (v := -1) E dX10_premium_28 (by decide) ?_
        exact V_iret E R dX10_premium_29 rfl (Nat.le_refl _) (Nat.le_refl _) ⟨rfl, rfl⟩
  · obtain rfl := hS2.symm
    refine V_astore_nN E dX10_premium_6 (by decide) rfl ?_
    refine V_aload_nN E dX10_premium_7 rfl ?_
    refine V_ifnullN (tgt := 28) E dX10_premium_8 (by decide) ?_
    refine V_iconst (v := -1) E dX10_premium_28 (by decide) ?_
    exact V_iret E R dX10_premium_29 rfl (Nat.le_refl _) (Nat.le_refl _) ⟨rfl, rfl⟩
set_option maxHeartbeats 4000000 in
theorem cy_unvote0 (l : Launch) (d : Nat) (S : GS) (A : AV) (t : Nat) (hO : VOK A t) (hY : YVes S A) (B : AB) (hB : BOK B) (hQ : YOK S) (hV : YVo S B) (Q : AR) (hR : YPr S Q) (hRO : ROK Q A B t) (td : Nat) (ht : fI S 200 2 = nI td) (x : Int32) (hng : ¬ (wi_ x 0 ((bn B : Int) - 1) ∧ bG B (tn x) = 0)) : GC l (d + 7) yX10_unvote cX10_unvote 3 (some FieldType.int) [.ref 200, .int x] S (fun r S2 => r = some (.int (-1)) ∧ S2 = S) 0 0 := by
  refine GC.ofV (by decide) (Nat.le_of_ble_eq_true rfl) (fun X hl E R hnm => ?_)
  subst hl
  have E : En X RX10 cX10_unvote 3 (d + 7) 0 0 := E
  have R : Rt X (some FieldType.int) (fun r S2 => r = some (.int (-1)) ∧ S2 = S) := R
  have hbn := hB.1
  have hvn := hO.1
  refine V_aload_n E dX10_unvote_0 rfl ?_
  refine V_getR E fl_X10_34 dX10_unvote_1 rfl (hQ.k 200 11 rfl (by decide)) (hQ.r 200 6 207 rfl) ?_
  refine V_iload_n E dX10_unvote_4 rfl ?_
  refine V_callV E (cy_at (x_l X) d S B hB hQ hV x) ml_X10_135 mv_X9_at (hQ.k 207 10 rfl (by decide)) dX10_unvote_5 rfl (by simp [Value.category]) (by omega) (by omega) (by omega) (fun r S2 hp => ?_)
  rcases hp with ⟨hx, rfl, hS2⟩ | ⟨hx, rfl, hS2⟩
  · obtain rfl := hS2.symm
    obtain ⟨v, rfl, tv, lv, uv, -⟩ := wi_nat hx (by omega)
    rw [tv]
    have hv : v < bn B := by omega
    have hb := hB.2 v hv
    refine V_astore_n E dX10_unvote_8 (by decide) rfl ?_
    refine V_aload_n E dX10_unvote_9 rfl ?_
    refine V_ifnull E dX10_unvote_10 ?_
    refine V_aload_n E dX10_unvote_13 rfl ?_
    refine V_getIN E fn_X10_139 dX10_unvote_14 rfl (hV.ok v hv) ?_
    refine V_if_eq (tgt := 22) E dX10_unvote_17 (by decide) (fun h17 => ?_) (fun h17 => ?_)
    · have g17 : bG B v = 0 := (nI_eq (a := bG B v) (b := 0) (by omega) (by omega)).mp ((hV.G v hv).symm.trans h17)
      exact absurd ⟨hx, by rw [tv]; exact g17⟩ hng
    · refine V_iconst (v := -1) E dX10_unvote_20 (by decide) ?_
      exact V_iret E R dX10_unvote_21 rfl (Nat.le_refl _) (Nat.le_refl _) ⟨rfl, rfl⟩
  · obtain rfl := hS2.symm
    refine V_astore_nN E dX10_unvote_8 (by decide) rfl ?_
    refine V_aload_nN E dX10_unvote_9 rfl ?_
    refine V_ifnullN (tgt := 20) E dX10_unvote_10 (by decide) ?_
    refine V_iconst (v := -1) E dX10_unvote_20 (by decide) ?_
    exact V_iret E R dX10_unvote_21 rfl (Nat.le_refl _) (Nat.le_refl _) ⟨rfl, rfl⟩
set_option maxHeartbeats 4000000 in
theorem cm_unvote0 (l : Launch) (d : Nat) (S : GS) (A : AV) (t : Nat) (hO : VOK A t) (hM : MOK S) (B : AB) (hB : BOK B) (hV : MVo S B) (Q : AR) (hR : MPr S A Q) (hRO : ROK Q A B t) (td : Nat) (ht : fI S 0 0 = nI td) (x : Int32) (hng : ¬ (wi_ x 0 ((bn B : Int) - 1) ∧ bG B (tn x) = 0)) : GC l (d + 2) yX11_unvote cX11_unvote 8 (some FieldType.int) [.ref 0, .int x] S (fun r S2 => r = some (.int (-1)) ∧ S2 = S) 0 0 := by
  refine GC.ofV (by decide) (Nat.le_of_ble_eq_true rfl) (fun X hl E R hnm => ?_)
  subst hl
  have E : En X RX11 cX11_unvote 8 (d + 2) 0 0 := E
  have R : Rt X (some FieldType.int) (fun r S2 => r = some (.int (-1)) ∧ S2 = S) := R
  have hbn := hB.1
  have hvn := hO.1
  have ht6 := hO.2.1
  have hRn := hRO.1
  refine V_iload_n E dX11_unvote_0 rfl ?_
  refine V_iconst (v := 0) E dX11_unvote_1 (by decide) ?_
  refine V_aload_n E dX11_unvote_2 rfl ?_
  refine V_getI E fl_X11_204 dX11_unvote_3 rfl hM.o ?_
  refine V_iconst (v := 1) E dX11_unvote_6 (by decide) ?_
  refine V_isub E dX11_unvote_7 ?_
  refine V_callS E (cm_in (x_l X) d S _ _ _) ml_X11_115 ms_X11_in dX11_unvote_8 rfl (by simp [Value.category]) (by omega) (by omega) (by omega) (fun r S2 hp => ?_)
  obtain ⟨rfl, hS2⟩ := hp
  obtain rfl := hS2.symm
  refine V_ifeq_b (tgt := 23) E dX11_unvote_11 (by decide) (fun hc11 => ?_) (fun hc11 => ?_)
  · refine V_iconst (v := -1) E dX11_unvote_23 (by decide) ?_
    exact V_iret E R dX11_unvote_24 rfl (Nat.le_refl _) (Nat.le_refl _) ⟨rfl, rfl⟩
  · have hx : wi_ x 0 ((bn B : Int) - 1) := (wi_iff rfl (by rw [hV.n]; exact nI_m1 (by omega))).mp hc11
    obtain ⟨v, rfl, tv, lv, uv, -⟩ := wi_nat hx (by omega)
    have hv : v < bn B := by omega
    have hb := hB.2 v hv
    refine V_aload_n E dX11_unvote_14 rfl ?_
    refine V_getR E fl_X11_51 dX11_unvote_15 rfl hM.o (hM.r 23 (by decide)) ?_
    refine V_iload_n E dX11_unvote_18 rfl ?_
    refine V_za (j := v) E dX11_unvote_19 (hM.k 23 24 rfl (by decide)) (@rfl _ (nI (v))) (hM.l 23 50 rfl (by decide)) (by omega) (by decide) ?_
    refine V_if_eq (tgt := 25) E dX11_unvote_20 (by decide) (fun h20 => ?_) (fun h20 => ?_)
    · have g20 : bG B v = 0 := (nI_eq (a := bG B v) (b := 0) (by omega) (by omega)).mp ((hV.G v hv).symm.trans h20)
      exact absurd ⟨hx, by rw [tv]; exact g20⟩ hng
    · refine V_iconst (v := -1) E dX11_unvote_23 (by decide) ?_
      exact V_iret E R dX11_unvote_24 rfl (Nat.le_refl _) (Nat.le_refl _) ⟨rfl, rfl⟩
