theorem cy_cutTo0 (l : Launch) (d : Nat) (S : GS) (hk : kd S 205 = 6 + 1) (x : Int32) : GC l (d) yX6_cutTo cX6_cutTo 2 none [.ref 205, .int x] S (fun r S2 => r = none ∧ S2 = sI S 205 1 x) (0) (0) := by
  refine GC.ofV (by decide) (Nat.le_of_ble_eq_true rfl) (fun X hl E R hnm => ?_)
  subst hl
  have E : En X RX6 cX6_cutTo 2 (d) (0) (0) := E
  have R : Rt X none (fun r S2 => r = none ∧ S2 = sI S 205 1 x) := R
  refine V_aload_n E dX6_cutTo_0 rfl ?_
  refine V_iload_n E dX6_cutTo_1 rfl ?_
  refine V_putI E fl_X6_21 dX6_cutTo_2 rfl hk ⟨rfl, rfl⟩ rfl ?_
  exact V_vret E R dX6_cutTo_5 (Nat.le_refl _) (Nat.le_refl _) ⟨rfl, rfl⟩

theorem cy_Text_init (l : Launch) (d : Nat) (S : GS) (o b n : Nat) (hn : n ≤ 200) (hk : kd S o = 6 + 1) (hf : kd S b = 0) : GC l (d + 1) yX6_init cX6_init 2 none [.ref o, .int (nI n)] S (fun r S2 => r = none ∧ S2 = yTi S o b n) (1) (n) := by
  refine GC.ofV (by decide) (Nat.le_of_ble_eq_true rfl) (fun X hl E R hnm => ?_)
  subst hl
  have E : En X RX6 cX6_init 2 (d + 1) (1) (n) := E
  have R : Rt X none (fun r S2 => r = none ∧ S2 = yTi S o b n) := R
  have hob : o ≠ b := fun q => by rw [q, hf] at hk; omega
  refine V_aload_n E dX6_init_0 rfl ?_
  refine V_objInit E ml_X6_3 dX6_init_1 (by decide) (by omega) ?_
  refine V_aload_n E dX6_init_4 rfl ?_
  refine V_iconst (v := 0) E dX6_init_5 (by decide) ?_
  refine V_iload_n E dX6_init_6 rfl ?_
  refine V_imax E ml_X6_9 dX6_init_7 (by simp [Value.category]) (by omega) (by omega) (by omega) ?_
  refine V_newa (at_ := .byte) (N := n) (b) E rfl (by decide) ac_byte dX6_init_10 (imax_n0 hn) (by omega) hf (by omega) (by omega) ?_
  refine V_putRF E fl_X6_15 hnm dX6_init_12 rfl ((sN_kd hob).trans hk) rfl rfl ?_
  exact V_vret E R dX6_init_15 (by omega) (by omega) ⟨rfl, rfl⟩

theorem cy_copy (l : Launch) (d : Nat) (S : GS) (T : AT) (hT : TOK T) (hQ : YOK S) (hX : YTx S T) (u : Nat) (f4 : kd S (4000 + u) = 0) (f5 : kd S (5000 + u) = 0) : GC l (d + 2) yX6_copy cX6_copy 2 (some (FieldType.object "CocoaYard$Text")) [.ref 205] S (fun r S2 => r = some (.ref (4000 + u)) ∧ S2 = yCp S u T.1) (2) (2 + T.1) := by
  refine GC.ofV (by decide) (Nat.le_of_ble_eq_true rfl) (fun X hl E R hnm => ?_)
  subst hl
  have E : En X RX6 cX6_copy 2 (d + 2) (2) (2 + T.1) := E
  have R : Rt X (some (FieldType.object "CocoaYard$Text")) (fun r S2 => r = some (.ref (4000 + u)) ∧ S2 = yCp S u T.1) := R
  have hn := hT.1
  refine V_newN (N := 2) (4000 + u) E (by decide) cl_X6_16 dX6_copy_0 f4 rfl (by omega) (by omega) ?_
  refine V_dup E dX6_copy_3 rfl ?_
  refine V_aload_n E dX6_copy_4 rfl ?_
  refine V_getI E fl_X6_21 dX6_copy_5 rfl ((sN_kd (by omega)).trans (hQ.k 205 7 rfl (by decide))) ?_
  refine V_cvi (y := nI (T.1)) ((congrFun (sN_fI (by omega)) 1).trans hX.1) ?_
  refine V_callI E (cy_Text_init (x_l X) d (sN S (4000 + u) 7 0) (4000 + u) (5000 + u) T.1 hn (va_up_self _ _ _) ((sN_kd (by omega)).trans f5)) ml_X6_25 mi_X6_init dX6_copy_8 rfl (by simp [Value.category]) (by omega) (by omega) (by omega) (fun r S2 hp => ?_)
  obtain ⟨rfl, rfl⟩ := hp
  have sm := yTi_sm S u T.1
  refine V_astore_n E dX6_copy_11 (by decide) rfl ?_
  refine V_aload_n E dX6_copy_12 rfl ?_
  refine V_getR E fl_X6_15 dX6_copy_13 rfl ((sm.kd (by omega)).trans (hQ.k 205 7 rfl (by decide))) ((congrFun (sm.rf (by omega)) 0).trans (hQ.r 205 0 206 rfl)) ?_
  refine V_iconst (v := 0) E dX6_copy_16 (by decide) ?_
  refine V_aload_n E dX6_copy_17 rfl ?_
  refine V_getR E fl_X6_15 dX6_copy_18 rfl (show va_up (va_up (kd S) (4000 + u) 7) (5000 + u) 23 (4000 + u) = 6 + 1 from by rw [va_up_ne _ _ (by omega), va_up_self]) (show up2 (rf (sN (sN S (4000 + u) 7 0) (5000 + u) 23 T.1)) (4000 + u) 0 (some (5000 + u)) (4000 + u) 0 = some (5000 + u) from up2_at) ?_
  refine V_iconst (v := 0) E dX6_copy_21 (by decide) ?_
  refine V_aload_n E dX6_copy_22 rfl ?_
  refine V_getI E fl_X6_21 dX6_copy_23 rfl ((sm.kd (by omega)).trans (hQ.k 205 7 rfl (by decide))) ?_
  refine V_acopy (c := 23) (m := T.1) E ml_X6_28 dX6_copy_26 ((sm.kd (by omega)).trans (hQ.k 206 23 rfl (by decide))) (show va_up (va_up (kd S) (4000 + u) 7) (5000 + u) 23 (5000 + u) = 23 from va_up_self _ _ _) (by decide) ((congrFun (sm.fI (by omega)) 1).trans hX.1) (by omega) (by rw [sm.ln (by omega), hQ.l 206 200 rfl (by decide)]; omega) (show T.1 ≤ va_up (va_up (ln S) (4000 + u) 0) (5000 + u) T.1 (5000 + u) from by rw [va_up_self]; exact Nat.le_refl _) (fun _ i hi => by rw [sm.aI (by omega), hX.b hi]; exact fits_bv (by have := (hT.2 i hi).2; omega)) (by simp [Value.category]) (by omega) ?_
  refine V_aload_n E dX6_copy_29 rfl ?_
  refine V_aload_n E dX6_copy_30 rfl ?_
  refine V_getI E fl_X6_21 dX6_copy_31 rfl ((sm.kd (by omega)).trans (hQ.k 205 7 rfl (by decide))) ?_
  refine V_cvi (y := nI (T.1)) ((congrFun (sm.fI (by omega)) 1).trans hX.1) ?_
  refine V_putI E fl_X6_21 dX6_copy_34 rfl (show va_up (va_up (kd S) (4000 + u) 7) (5000 + u) 23 (4000 + u) = 6 + 1 from by rw [va_up_ne _ _ (by omega), va_up_self]) ⟨rfl, rfl⟩ rfl ?_
  refine V_aload_n E dX6_copy_37 rfl ?_
  exact V_aret (r := (some (4000 + u))) E R (by first | exact Or.inl ⟨_, rfl⟩ | exact Or.inr ⟨_, rfl⟩) dX6_copy_38 (by omega) (by omega) ⟨rfl, rfl⟩

theorem cy_Vote_init (l : Launch) (d : Nat) (S : GS) (o t : Nat) (x : Int32) (hk : kd S o = 8 + 1) : GC l (d + 1) yX8_init cX8_init 3 none [.ref o, .int x, .ref t] S (fun r S2 => r = none ∧ S2 = yVi S o t x) (0) (0) := by
  refine GC.ofV (by decide) (Nat.le_of_ble_eq_true rfl) (fun X hl E R hnm => ?_)
  subst hl
  have E : En X RX8 cX8_init 3 (d + 1) (0) (0) := E
  have R : Rt X none (fun r S2 => r = none ∧ S2 = yVi S o t x) := R
  refine V_aload_n E dX8_init_0 rfl ?_
  refine V_objInit E ml_X8_1 dX8_init_1 (by decide) (by omega) ?_
  refine V_aload_n E dX8_init_4 rfl ?_
  refine V_iload_n E dX8_init_5 rfl ?_
  refine V_putIF E fl_X8_7 hnm dX8_init_6 rfl hk ⟨rfl, rfl⟩ rfl rfl ?_
  refine V_aload_n E dX8_init_9 rfl ?_
  refine V_aload_n E dX8_init_10 rfl ?_
  refine V_putRF E fl_X8_13 hnm dX8_init_11 rfl hk rfl rfl ?_
  exact V_vret E R dX8_init_14 (Nat.le_refl _) (Nat.le_refl _) ⟨rfl, rfl⟩

theorem cy_add (l : Launch) (d : Nat) (S : GS) (T : AT) (hT : TOK T) (hQ : YOK S) (hX : YTx S T) (B : AB) (hB : BOK B) (hV : YVo S B) (x : Int32) : GC l (d + 3) yX9_add cX9_add 3 (some FieldType.int) [.ref 207, .int x, .ref 205] S (fun r S2 => (bn B < 50 ∧ r = some (.int (nI (bn B))) ∧ S2 = yAdd S (bn B) T.1 x) ∨ (¬ bn B < 50 ∧ r = some (.int (-1)) ∧ S2 = S)) (3) (5 + T.1) := by
  refine GC.ofV (by decide) (Nat.le_of_ble_eq_true rfl) (fun X hl E R hnm => ?_)
  subst hl
  have E : En X RX9 cX9_add 3 (d + 3) (3) (5 + T.1) := E
  have R : Rt X (some FieldType.int) (fun r S2 => (bn B < 50 ∧ r = some (.int (nI (bn B))) ∧ S2 = yAdd S (bn B) T.1 x) ∨ (¬ bn B < 50 ∧ r = some (.int (-1)) ∧ S2 = S)) := R
  have hn := hT.1
  have h50 := hB.1
  refine V_aload_n E dX9_add_0 rfl ?_
  refine V_getI E fl_X9_24 dX9_add_1 rfl (hQ.k 207 10 rfl (by decide)) ?_
  refine V_aload_n E dX9_add_4 rfl ?_
  refine V_getR E fl_X9_11 dX9_add_5 rfl (hQ.k 207 10 rfl (by decide)) (hQ.r 207 0 208 rfl) ?_
  refine V_al E dX9_add_8 (hQ.k 208 26 rfl (by decide)) (by decide) (hQ.l 208 50 rfl (by decide)) ?_
  refine V_icmp_lt (tgt := 14) E dX9_add_9 (by decide) (fun h9 => ?_) (fun h9 => ?_)
  · have g9 : bn B < 50 := (nI_ltI (a := bn B) (b := 50) (by omega) (by omega)).mp (by rw [← hV.n]; exact h9)
    obtain ⟨f3, f4, f5⟩ := hV.2.2 (bn B) (Nat.le_refl _) g9
    refine V_aload_n E dX9_add_14 rfl ?_
    refine V_getR E fl_X9_11 dX9_add_15 rfl (hQ.k 207 10 rfl (by decide)) (hQ.r 207 0 208 rfl) ?_
    refine V_aload_n E dX9_add_18 rfl ?_
    refine V_getI E fl_X9_24 dX9_add_19 rfl (hQ.k 207 10 rfl (by decide)) ?_
    refine V_newN (N := 3) (3000 + bn B) E (by decide) cl_X9_9 dX9_add_22 f3 rfl (by omega) (by omega) ?_
    refine V_dup E dX9_add_25 rfl ?_
    refine V_iload_n E dX9_add_26 rfl ?_
    refine V_aload_n E dX9_add_27 rfl ?_
    refine V_callV E (cy_copy (x_l X) d (sN S (3000 + bn B) 9 0) T hT (hQ.sN (by omega)) (hX.fr (D := fun g => g = 3000 + bn B) (YSm.N rfl) (fun g hg => by unfold dTxt at hg; omega)) (bn B) ((sN_kd (by omega)).trans f4) ((sN_kd (by omega)).trans f5)) ml_X9_28 mv_X6_copy ((sN_kd (by omega)).trans (hQ.k 205 7 rfl (by decide))) dX9_add_28 rfl (by simp [Value.category]) (by omega) (by omega) (by omega) (fun r S2 hp => ?_)
    obtain ⟨rfl, rfl⟩ := hp
    have sm := yCp_sm (sN S (3000 + bn B) 9 0) (bn B) T.1
    have sm2 := (YSm.N (D := fun g => g = 3000 + bn B ∨ g = 4000 + bn B ∨ g = 5000 + bn B) (S := S) (c := 9) (n := 0) (Or.inl rfl)).trans (sm.mono (fun g hg => by omega))
    refine V_callI E (cy_Vote_init (x_l X) d _ (3000 + bn B) (4000 + bn B) x ((sm.kd (by omega)).trans (va_up_self _ _ _))) ml_X9_34 mi_X8_init dX9_add_31 rfl (by simp [Value.category]) (by omega) (by omega) (by omega) (fun r S2 hp => ?_)
    obtain ⟨rfl, rfl⟩ := hp
    refine V_aas (j := (bn B)) E dX9_add_34 ((sm2.kd (by omega)).trans (hQ.k 208 26 rfl (by decide))) (by decide) ((sm.kd (by omega)).trans (va_up_self _ _ _)) hV.n ((sm2.ln (by omega)).trans (hQ.l 208 50 rfl (by decide))) (by omega) (by decide) ?_
    refine V_aload_n E dX9_add_35 rfl ?_
    refine V_dup E dX9_add_36 rfl ?_
    refine V_getI E fl_X9_24 dX9_add_37 rfl ((sm2.kd (by omega)).trans (hQ.k 207 10 rfl (by decide))) ?_
    refine V_cvi (y := nI ((bn B))) ((show up2 (fI (yCp (sN S (3000 + bn B) 9 0) (bn B) T.1)) (3000 + bn B) 0 x 207 2 = nI (bn B) from by rw [up2_ne (by omega), sm2.fI (by omega)]; exact hV.n)) ?_
    refine V_dup_x1 E dX9_add_40 rfl rfl ?_
    refine V_iconst (v := 1) E dX9_add_41 (by decide) ?_
    refine V_iadd E dX9_add_42 ?_
    refine V_cvi (y := nI (((bn B) + 1))) (ni_add (a := (bn B)) (b := 1) (@rfl _ (nI ((bn B)))) (rfl : (1 : Int32) = nI 1)) ?_
    refine V_putI E fl_X9_24 dX9_add_43 rfl ((sm2.kd (by omega)).trans (hQ.k 207 10 rfl (by decide))) ⟨rfl, rfl⟩ rfl ?_
    exact V_iret E R dX9_add_46 rfl (by omega) (by omega) (Or.inl ⟨g9, rfl, rfl⟩)
  · have g9 : ¬ bn B < 50 := fun q => h9 (by rw [hV.n]; exact nI_lt (a := bn B) (b := 50) q (by omega))
    refine V_iconst (v := -1) E dX9_add_12 (by decide) ?_
    exact V_iret E R dX9_add_13 rfl (by omega) (by omega) (Or.inr ⟨g9, rfl, rfl⟩)

theorem cy_vote (l : Launch) (d : Nat) (S : GS) (T : AT) (hT : TOK T) (hQ : YOK S) (hX : YTx S T) (B : AB) (hB : BOK B) (hV : YVo S B) (x : Int32) : GC l (d + 4) yX10_vote cX10_vote 3 (some FieldType.int) [.ref 200, .int x] S (fun r S2 => (((wi_ x 0 10000 ∧ FR T 0 1 0 0 = none) ∧ bn B < 50) ∧ r = some (.int (nI (bn B))) ∧ S2 = sI (yAdd S (bn B) T.1 x) 205 1 0) ∨ (¬ ((wi_ x 0 10000 ∧ FR T 0 1 0 0 = none) ∧ bn B < 50) ∧ r = some (.int (-1)) ∧ S2 = S)) (3) (5 + T.1) := by
  refine GC.ofV (by decide) (Nat.le_of_ble_eq_true rfl) (fun X hl E R hnm => ?_)
  subst hl
  have E : En X RX10 cX10_vote 3 (d + 4) (3) (5 + T.1) := E
  have R : Rt X (some FieldType.int) (fun r S2 => (((wi_ x 0 10000 ∧ FR T 0 1 0 0 = none) ∧ bn B < 50) ∧ r = some (.int (nI (bn B))) ∧ S2 = sI (yAdd S (bn B) T.1 x) 205 1 0) ∨ (¬ ((wi_ x 0 10000 ∧ FR T 0 1 0 0 = none) ∧ bn B < 50) ∧ r = some (.int (-1)) ∧ S2 = S)) := R
  have hn := hT.1
  have h50 := hB.1
  refine V_iload_n E dX10_vote_0 rfl ?_
  refine V_iconst (v := 0) E dX10_vote_1 (by decide) ?_
  refine V_sipush (v := 10000) E dX10_vote_2 (by decide) ?_
  refine V_callS E (cy_isWithin (x_l X) d S _ _ _) ml_X10_61 ms_X10_isWithin dX10_vote_5 rfl (by simp [Value.category]) (by omega) (by omega) (by omega) (fun r S2 hp => ?_)
  obtain ⟨rfl, hS2⟩ := hp
  obtain rfl := hS2.symm
  refine V_ifeq_b (tgt := 22) E dX10_vote_8 (by decide) (fun hc8 => ?_) (fun hc8 => ?_)
  · have g : ¬ ((wi_ x 0 10000 ∧ FR T 0 1 0 0 = none) ∧ bn B < 50) := fun q => hc8 ((wi_iff (by decide) (by decide)).mpr q.1.1)
    refine V_iconst (v := -1) E dX10_vote_22 (by decide) ?_
    exact V_iret E R dX10_vote_23 rfl (by omega) (by omega) (Or.inr ⟨g, rfl, rfl⟩)
  · have w8 : wi_ x 0 10000 := (wi_iff (by decide) (by decide)).mp hc8
    refine V_aload_n E dX10_vote_11 rfl ?_
    refine V_getR E fl_X10_27 dX10_vote_12 rfl (hQ.k 200 11 rfl (by decide)) (hQ.r 200 5 205 rfl) ?_
    refine V_callV E (cy_firstFault (x_l X) d S T hT hQ hX) ml_X10_125 mv_X6_firstFault (hQ.k 205 7 rfl (by decide)) dX10_vote_15 rfl (by simp [Value.category]) (by omega) (by omega) (by omega) (fun r S2 hp => ?_)
    obtain ⟨rfl, hS2⟩ := hp
    obtain rfl := hS2.symm
    refine V_iconst (v := -1) E dX10_vote_18 (by decide) ?_
    refine V_icmp_eq (tgt := 24) E dX10_vote_19 (by decide) (fun h19 => ?_) (fun h19 => ?_)
    · have g19 : FR T 0 1 0 0 = none := an_none hT h19
      refine V_aload_n E dX10_vote_24 rfl ?_
      refine V_getR E fl_X10_34 dX10_vote_25 rfl (hQ.k 200 11 rfl (by decide)) (hQ.r 200 6 207 rfl) ?_
      refine V_iload_n E dX10_vote_28 rfl ?_
      refine V_aload_n E dX10_vote_29 rfl ?_
      refine V_getR E fl_X10_27 dX10_vote_30 rfl (hQ.k 200 11 rfl (by decide)) (hQ.r 200 5 205 rfl) ?_
      refine V_callV E (cy_add (x_l X) d S T hT hQ hX B hB hV x) ml_X10_128 mv_X9_add (hQ.k 207 10 rfl (by decide)) dX10_vote_33 rfl (by simp [Value.category]) (by omega) (by omega) (by omega) (fun r S2 hp => ?_)
      rcases hp with ⟨g9, rfl, rfl⟩ | ⟨g9, rfl, hS2⟩
      · have sm := yAdd_sm S (bn B) T.1 x
        refine V_istore_n E dX10_vote_36 (by decide) rfl ?_
        refine V_iload_n E dX10_vote_37 rfl ?_
        refine V_iconst (v := -1) E dX10_vote_38 (by decide) ?_
        refine V_icmp_eq (tgt := 50) E dX10_vote_39 (by decide) (fun hx => absurd hx (nIm1 (by omega))) (fun _ => ?_)
        refine V_aload_n E dX10_vote_42 rfl ?_
        refine V_getR E fl_X10_27 dX10_vote_43 rfl ((sm.kd (by omega)).trans (hQ.k 200 11 rfl (by decide))) ((congrFun (sm.rf (by omega)) 5).trans (hQ.r 200 5 205 rfl)) ?_
        refine V_iconst (v := 0) E dX10_vote_46 (by decide) ?_
        refine V_callV E (cy_cutTo0 (x_l X) d _ ((sm.kd (by omega)).trans (hQ.k 205 7 rfl (by decide))) 0) ml_X10_132 mv_X6_cutTo ((sm.kd (by omega)).trans (hQ.k 205 7 rfl (by decide))) dX10_vote_47 rfl (by simp [Value.category]) (by omega) (by omega) (by omega) (fun r S2 hp => ?_)
        obtain ⟨rfl, rfl⟩ := hp
        refine V_iload_n E dX10_vote_50 rfl ?_
        exact V_iret E R dX10_vote_51 rfl (by omega) (by omega) (Or.inl ⟨⟨⟨w8, g19⟩, g9⟩, rfl, rfl⟩)
      · obtain rfl := hS2.symm
        have g : ¬ ((wi_ x 0 10000 ∧ FR T 0 1 0 0 = none) ∧ bn B < 50) := fun q => g9 q.2
        refine V_istore_n E dX10_vote_36 (by decide) rfl ?_
        refine V_iload_n E dX10_vote_37 rfl ?_
        refine V_iconst (v := -1) E dX10_vote_38 (by decide) ?_
        refine V_icmp_eq (tgt := 50) E dX10_vote_39 (by decide) (fun _ => ?_) (fun hx => absurd hx (fun z => z rfl))
        refine V_iload_n E dX10_vote_50 rfl ?_
        exact V_iret E R dX10_vote_51 rfl (by omega) (by omega) (Or.inr ⟨g, rfl, rfl⟩)
    · have g : ¬ ((wi_ x 0 10000 ∧ FR T 0 1 0 0 = none) ∧ bn B < 50) := fun q => h19 (by rw [q.1.2]; rfl)
      refine V_iconst (v := -1) E dX10_vote_22 (by decide) ?_
      exact V_iret E R dX10_vote_23 rfl (by omega) (by omega) (Or.inr ⟨g, rfl, rfl⟩)
