theorem cj_copyOf (l : Launch) (d : Nat) (S : GS) (o b N : Nat) (hk : kd S o = 21) (hl : ln S o = N) (h1 : 1 ≤ N) (hN : N ≤ 600000) (hf : kd S b = 0) : GC l (d + 1) yJ7_copyOf_59c91 cJ7_copyOf_59c91 3 (some (FieldType.array FieldType.int)) [.ref o, .int (nI (2 * N))] S (fun r S2 => r = some (.ref b) ∧ S2 = mGr S o b N) (1) (2 * N) := by
  refine GC.ofV (by decide) (Nat.le_of_ble_eq_true rfl) (fun X hl E R hnm => ?_)
  subst hl
  have E : En X RJ7 cJ7_copyOf_59c91 3 (d + 1) (1) (2 * N) := E
  have R : Rt X (some (FieldType.array FieldType.int)) (fun r S2 => r = some (.ref b) ∧ S2 = mGr S o b N) := R
  have hob : o ≠ b := fun q => by rw [q, hf] at hk; omega
  refine V_iload_n E dJ7_copyOf_59c91_0 rfl ?_
  refine V_aload_n E dJ7_copyOf_59c91_1 rfl ?_
  refine V_al E dJ7_copyOf_59c91_2 hk (by decide) hl ?_
  refine V_icmp_ne (tgt := 14) E dJ7_copyOf_59c91_3 (by decide) (fun _ => ?_) (fun hx => absurd hx (fun z => by have := (nI_eq (a := 2 * N) (b := N) (by omega) (by omega)).mp z; omega))
  refine V_iload_n E dJ7_copyOf_59c91_14 rfl ?_
  refine V_newa (at_ := .int) (N := 2 * N) (b) E rfl (by decide) ac_int dJ7_copyOf_59c91_15 (@rfl _ (nI (2 * N))) (by omega) hf (by omega) (by omega) ?_
  refine V_astore_n E dJ7_copyOf_59c91_17 (by decide) rfl ?_
  refine V_aload_n E dJ7_copyOf_59c91_18 rfl ?_
  refine V_iconst (v := 0) E dJ7_copyOf_59c91_19 (by decide) ?_
  refine V_aload_n E dJ7_copyOf_59c91_20 rfl ?_
  refine V_iconst (v := 0) E dJ7_copyOf_59c91_21 (by decide) ?_
  refine V_aload_n E dJ7_copyOf_59c91_22 rfl ?_
  refine V_al E dJ7_copyOf_59c91_23 ((sN_kd (c := 21) (n := 2 * N) hob).trans hk) (by decide) ((sN_ln (c := 21) (n := 2 * N) hob).trans hl) ?_
  refine V_iload_n E dJ7_copyOf_59c91_24 rfl ?_
  refine V_imin E ml_J7_304 dJ7_copyOf_59c91_25 (by simp [Value.category]) (by omega) (by omega) (by omega) ?_
  refine V_acopy (c := 21) (m := N) E ml_J7_150 dJ7_copyOf_59c91_28 ((sN_kd (c := 21) (n := 2 * N) hob).trans hk) (va_up_self _ _ _) (by decide) ((imin_n (a := N) (b := 2 * N) (@rfl _ (nI (N))) (@rfl _ (nI (2 * N))) (by omega) (by omega)).trans (congrArg nI (Nat.min_eq_left (by omega)))) (by omega) (Nat.le_of_eq ((sN_ln (c := 21) (n := 2 * N) hob).trans hl).symm) (show N ≤ va_up (ln S) b (2 * N) b from by rw [va_up_self]; omega) (fun q => absurd q (by decide)) (by simp [Value.category]) (by omega) ?_
  refine V_cvS (mGr_cpy hob) ?_
  refine V_aload_n E dJ7_copyOf_59c91_31 rfl ?_
  exact V_aret (r := (some (b))) E R (by first | exact Or.inl ⟨_, rfl⟩ | exact Or.inr ⟨_, rfl⟩) dJ7_copyOf_59c91_32 (by omega) (by omega) ⟨rfl, rfl⟩

theorem cy_write (l : Launch) (d : Nat) (S : GS) (hQ : YOK S) (L : AL) (hL : YLd S L) (hn : en L < 102400) (td p m : Nat) (hm : m < 20) (c : Int32) : GC l (d + 2) yX0_write cX0_write 6 none [.ref 218, .int (nI td), .int (nI p), .int (nI m), .int c] S (fun r S2 => r = none ∧ YLd S2 (aEnt L td p m c) ∧ YEf S S2) (gnB 32 (en L + 1) - gnB 32 (en L)) (256 * 2 ^ gnB 32 (en L + 1) - 256 * 2 ^ gnB 32 (en L)) := by
  refine GC.ofV (by decide) (Nat.le_of_ble_eq_true rfl) (fun X hl E R hnm => ?_)
  subst hl
  have E : En X RX0 cX0_write 6 (d + 2) (gnB 32 (en L + 1) - gnB 32 (en L)) (256 * 2 ^ gnB 32 (en L + 1) - 256 * 2 ^ gnB 32 (en L)) := E
  have R : Rt X none (fun r S2 => r = none ∧ YLd S2 (aEnt L td p m c) ∧ YEf S S2) := R
  have hg9 : gnB 32 (en L + 1) ≤ 12 := gn_bound (k := 12) (by omega)
  have hle := gn_le (b := 32) (by decide) (en L)
  have p1 := pow_pos2 (gnB 32 (en L))
  have p2 : 2 ^ gnB 32 (en L) ≤ 2 ^ 12 := Nat.pow_le_pow_right (by decide) (Nat.le_trans (gn_mono (Nat.le_succ _)) hg9)
  have J38 : ∀ S1 g k1 n1, YLx S1 L g → YEf S S1 → g = gnB 32 (en L + 1) → k1 ≤ gnB 32 (en L + 1) - gnB 32 (en L) → n1 ≤ 256 * 2 ^ gnB 32 (en L + 1) - 256 * 2 ^ gnB 32 (en L) → V X 38 [some (.ref (218)), some (.int (nI (td))), some (.int (nI (p))), some (.int (nI (m))), some (.int (c)), some (.int (nI (4 * en L)))] [] S1 k1 n1 := by
    intro S1 g k1 n1 hx ef hgf hk1 hn1
    have hQ := ef.2 hQ
    have hgl := gn_le (b := 32) (by decide) (en L + 1)
    have p3 : 2 ^ gnB 32 (en L + 1) ≤ 2 ^ 12 := Nat.pow_le_pow_right (by decide) hg9
    rw [← hgf] at hgl p3
    refine V_aload_n E dX0_write_38 rfl ?_
    refine V_getR E fl_X0_15 dX0_write_39 rfl (hQ.k 218 1 rfl (by decide)) hx.2.1.2.1 ?_
    refine V_iload E dX0_write_42 rfl ?_
    refine V_iload_n E dX0_write_44 rfl ?_
    refine V_ias (j := 4 * en L) E dX0_write_45 hx.2.1.2.2.1 (@rfl _ (nI (4 * en L))) hx.2.1.2.2.2.1 (by omega) (by omega) ?_
    refine V_aload_n E dX0_write_46 rfl ?_
    refine V_getR E fl_X0_15 dX0_write_47 rfl (hQ.k 218 1 rfl (by decide)) hx.2.1.2.1 ?_
    refine V_iload E dX0_write_50 rfl ?_
    refine V_iconst (v := 1) E dX0_write_52 (by decide) ?_
    refine V_iadd E dX0_write_53 ?_
    refine V_iload_n E dX0_write_54 rfl ?_
    refine V_ias (j := (4 * en L + 1)) E dX0_write_55 hx.2.1.2.2.1 (ni_add (a := 4 * en L) (b := 1) (@rfl _ (nI (4 * en L))) (rfl : (1 : Int32) = nI 1)) hx.2.1.2.2.2.1 (by omega) (by omega) ?_
    refine V_aload_n E dX0_write_56 rfl ?_
    refine V_getR E fl_X0_15 dX0_write_57 rfl (hQ.k 218 1 rfl (by decide)) hx.2.1.2.1 ?_
    refine V_iload E dX0_write_60 rfl ?_
    refine V_iconst (v := 2) E dX0_write_62 (by decide) ?_
    refine V_iadd E dX0_write_63 ?_
    refine V_iload_n E dX0_write_64 rfl ?_
    refine V_ias (j := (4 * en L + 2)) E dX0_write_65 hx.2.1.2.2.1 (ni_add (a := 4 * en L) (b := 2) (@rfl _ (nI (4 * en L))) (rfl : (2 : Int32) = nI 2)) hx.2.1.2.2.2.1 (by omega) (by omega) ?_
    refine V_aload_n E dX0_write_66 rfl ?_
    refine V_getR E fl_X0_15 dX0_write_67 rfl (hQ.k 218 1 rfl (by decide)) hx.2.1.2.1 ?_
    refine V_iload E dX0_write_70 rfl ?_
    refine V_iconst (v := 3) E dX0_write_72 (by decide) ?_
    refine V_iadd E dX0_write_73 ?_
    refine V_iload E dX0_write_74 rfl ?_
    refine V_ias (j := (4 * en L + 3)) E dX0_write_76 hx.2.1.2.2.1 (ni_add (a := 4 * en L) (b := 3) (@rfl _ (nI (4 * en L))) (rfl : (3 : Int32) = nI 3)) hx.2.1.2.2.2.1 (by omega) (by omega) ?_
    refine V_aload_n E dX0_write_77 rfl ?_
    refine V_getR E fl_X0_9 dX0_write_78 rfl (hQ.k 218 1 rfl (by decide)) (hQ.r 218 0 219 rfl) ?_
    refine V_iload_n E dX0_write_81 rfl ?_
    refine V_dup2 E dX0_write_82 rfl rfl ?_
    refine V_ia (j := m) E dX0_write_83 (hQ.k 219 21 rfl (by decide)) (@rfl _ (nI (m))) (hQ.l 219 20 rfl (by decide)) (by omega) (by decide) ?_
    refine V_iload E dX0_write_84 rfl ?_
    refine V_iadd E dX0_write_86 ?_
    refine V_cvi (y := eC L m + c) (congrArg (fun z => z + c) ?_) ?_
    · show up2 (up2 (up2 (up2 (aI S1) (300 + g) (4 * en L) (nI td)) (300 + g) (4 * en L + 1) (nI p)) (300 + g) (4 * en L + 2) (nI m)) (300 + g) (4 * en L + 3) c 219 m = _
      rw [up2_ne (by omega), up2_ne (by omega), up2_ne (by omega), up2_ne (by omega)]
      exact hx.2.2 m hm
    refine V_ias (j := m) E dX0_write_87 (hQ.k 219 21 rfl (by decide)) (@rfl _ (nI (m))) (hQ.l 219 20 rfl (by decide)) (by omega) (by decide) ?_
    refine V_aload_n E dX0_write_88 rfl ?_
    refine V_dup E dX0_write_89 rfl ?_
    refine V_getI E fl_X0_18 dX0_write_90 rfl (hQ.k 218 1 rfl (by decide)) ?_
    refine V_iconst (v := 1) E dX0_write_93 (by decide) ?_
    refine V_iadd E dX0_write_94 ?_
    refine V_cvi (y := nI (((en L) + 1))) (ni_add (a := (en L)) (b := 1) hx.1 (rfl : (1 : Int32) = nI 1)) ?_
    refine V_putI E fl_X0_18 dX0_write_95 rfl (hQ.k 218 1 rfl (by decide)) ⟨rfl, rfl⟩ rfl ?_
    exact V_vret E R dX0_write_98 hk1 hn1 ⟨rfl, YLx.cg (hx.ent hm) hgf, ef.trans (yE4_ef (by omega))⟩
  refine V_aload_n E dX0_write_0 rfl ?_
  refine V_getI E fl_X0_18 dX0_write_1 rfl (hQ.k 218 1 rfl (by decide)) ?_
  refine V_iconst (v := 4) E dX0_write_4 (by decide) ?_
  refine V_imul E dX0_write_5 ?_
  refine V_cvi (y := nI (4 * en L)) ((ni_mul (a := (en L)) (b := 4) hL.1 (rfl : (4 : Int32) = nI 4)).trans (congrArg nI (Nat.mul_comm _ _))) ?_
  refine V_istore E dX0_write_6 (by decide) rfl ?_
  refine V_iload E dX0_write_8 rfl ?_
  refine V_iconst (v := 4) E dX0_write_10 (by decide) ?_
  refine V_iadd E dX0_write_11 ?_
  refine V_aload_n E dX0_write_12 rfl ?_
  refine V_getR E fl_X0_15 dX0_write_13 rfl (hQ.k 218 1 rfl (by decide)) hL.2.1.2.1 ?_
  refine V_al E dX0_write_16 hL.2.1.2.2.1 (by decide) hL.2.1.2.2.2.1 ?_
  refine V_icmp_le (tgt := 38) E dX0_write_17 (by decide) (fun h17 => ?_) (fun h17 => ?_)
  · have eg : ¬ en L = 32 * 2 ^ gnB 32 (en L) := fun z => by have := (nI_leI (a := 4 * en L + 4) (b := 128 * 2 ^ gnB 32 (en L)) (by omega) (by omega)).mp (by have h := h17; rw [(ni_add (a := 4 * en L) (b := 4) (@rfl _ (nI (4 * en L))) (rfl : (4 : Int32) = nI 4))] at h; exact h); omega
    exact J38 S _ 0 0 hL (YEf.rfl' S) (gn_eq eg).symm (Nat.zero_le _) (Nat.zero_le _)
  · have h8 : ¬ (4 * en L + 4 ≤ 128 * 2 ^ gnB 32 (en L)) := fun z => h17 (by rw [(ni_add (a := 4 * en L) (b := 4) (@rfl _ (nI (4 * en L))) (rfl : (4 : Int32) = nI 4))]; exact (nI_leI (a := 4 * en L + 4) (b := 128 * 2 ^ gnB 32 (en L)) (by omega) (by omega)).mpr z)
    have eg : en L = 32 * 2 ^ gnB 32 (en L) := by omega
    have e1 := gn_up eg
    have e3 : 2 ^ gnB 32 (en L + 1) = 2 * 2 ^ gnB 32 (en L) := by rw [e1, pow_succ2]
    refine V_aload_n E dX0_write_20 rfl ?_
    refine V_aload_n E dX0_write_21 rfl ?_
    refine V_getR E fl_X0_15 dX0_write_22 rfl (hQ.k 218 1 rfl (by decide)) hL.2.1.2.1 ?_
    refine V_aload_n E dX0_write_25 rfl ?_
    refine V_getR E fl_X0_15 dX0_write_26 rfl (hQ.k 218 1 rfl (by decide)) hL.2.1.2.1 ?_
    refine V_al E dX0_write_29 hL.2.1.2.2.1 (by decide) hL.2.1.2.2.2.1 ?_
    refine V_iconst (v := 2) E dX0_write_30 (by decide) ?_
    refine V_imul E dX0_write_31 ?_
    refine V_cvi (y := nI (2 * (128 * 2 ^ gnB 32 (en L)))) ((ni_mul (a := 128 * 2 ^ gnB 32 (en L)) (b := 2) (@rfl _ (nI (128 * 2 ^ gnB 32 (en L)))) (rfl : (2 : Int32) = nI 2)).trans (congrArg nI (Nat.mul_comm _ _))) ?_
    refine V_callS E (cj_copyOf (x_l X) d S (300 + gnB 32 (en L)) (300 + (gnB 32 (en L) + 1)) (128 * 2 ^ gnB 32 (en L)) hL.2.1.2.2.1 hL.2.1.2.2.2.1 (by omega) (by omega) (hL.2.1.2.2.2.2.2 (gnB 32 (en L) + 1) (Nat.lt_succ_self _) (by omega))) ml_X0_22 ms_J7_copyOf_59c91 dX0_write_32 rfl (by simp [Value.category]) (by omega) (by omega) (by omega) (fun r S2 hp => ?_)
    obtain ⟨rfl, rfl⟩ := hp
    refine V_putR E fl_X0_15 dX0_write_35 rfl ((sN_kd (S := S) (g := 300 + (gnB 32 (en L) + 1)) (c := 21) (n := 2 * (128 * 2 ^ gnB 32 (en L))) (by omega)).trans (hQ.k 218 1 rfl (by decide))) rfl ?_
    exact J38 _ _ _ _ (YLx.grow hL (by omega) (by omega)) (yG1_ef (by omega)) e1.symm (by omega) (by omega)

theorem cy_cell (l : Launch) (d : Nat) (S : GS) (hQ : YOK S) (L : AL) (hL : YLd S L) (hn : en L ≤ 102400) (x z : Int32) : GC l (d) yX0_cell cX0_cell 4 (some FieldType.int) [.ref 218, .int x, .int z] S (fun r S2 => ((wi_ x 0 ((en L : Int) - 1) ∧ wi_ z 0 3) ∧ r = some (.int (eE L (tn x) (tn z))) ∧ S2 = S) ∨ (¬ (wi_ x 0 ((en L : Int) - 1) ∧ wi_ z 0 3) ∧ r = some (.int 0) ∧ S2 = S)) (0) (0) := by
  refine GC.ofV (by decide) (Nat.le_of_ble_eq_true rfl) (fun X hl E R hnm => ?_)
  subst hl
  have E : En X RX0 cX0_cell 4 (d) (0) (0) := E
  have R : Rt X (some FieldType.int) (fun r S2 => ((wi_ x 0 ((en L : Int) - 1) ∧ wi_ z 0 3) ∧ r = some (.int (eE L (tn x) (tn z))) ∧ S2 = S) ∨ (¬ (wi_ x 0 ((en L : Int) - 1) ∧ wi_ z 0 3) ∧ r = some (.int 0) ∧ S2 = S)) := R
  have hle := gn_le (b := 32) (by decide) (en L)
  have p2 : 2 ^ gnB 32 (en L) ≤ 2 ^ 12 := Nat.pow_le_pow_right (by decide) (gn_bound (k := 12) (by omega))
  have z0 : ((0 : Int32)).toInt = 0 := rfl
  have z4 : ((4 : Int32)).toInt = 4 := rfl
  have zn : (fI S 218 2).toInt = (en L : Int) := by rw [hL.1]; exact nI_toInt (by omega)
  have J0 : ¬ (wi_ x 0 ((en L : Int) - 1) ∧ wi_ z 0 3) → V X 25 [some (.ref (218)), some (.int (x)), some (.int (z)), none] [] S 0 0 := by
    intro g
    refine V_iconst (v := 0) E dX0_cell_25 (by decide) ?_
    refine V_istore_n E dX0_cell_26 (by decide) rfl ?_
    refine V_iload_n E dX0_cell_27 rfl ?_
    refine V_if_eq (tgt := 44) E dX0_cell_28 (by decide) (fun _ => ?_) (fun hx => absurd hx (by decide))
    refine V_iconst (v := 0) E dX0_cell_44 (by decide) ?_
    exact V_iret E R dX0_cell_45 rfl (Nat.le_refl _) (Nat.le_refl _) (Or.inr ⟨g, rfl, rfl⟩)
  refine V_iload_n E dX0_cell_0 rfl ?_
  refine V_if_lt (tgt := 25) E dX0_cell_1 (by decide) (fun h1 => ?_) (fun h1 => ?_)
  · rw [fa_lt, z0] at h1
    have g : ¬ (wi_ x 0 ((en L : Int) - 1) ∧ wi_ z 0 3) := fun q => by have q1 := q.1.1; have q2 := q.1.2; have q3 := q.2.1; have q4 := q.2.2; omega
    exact J0 g
  · rw [fa_lt, z0] at h1
    refine V_iload_n E dX0_cell_4 rfl ?_
    refine V_aload_n E dX0_cell_5 rfl ?_
    refine V_getI E fl_X0_18 dX0_cell_6 rfl (hQ.k 218 1 rfl (by decide)) ?_
    refine V_icmp_ge (tgt := 25) E dX0_cell_9 (by decide) (fun h9 => ?_) (fun h9 => ?_)
    · rw [fa_le, zn] at h9
      have g : ¬ (wi_ x 0 ((en L : Int) - 1) ∧ wi_ z 0 3) := fun q => by have q1 := q.1.1; have q2 := q.1.2; have q3 := q.2.1; have q4 := q.2.2; omega
      exact J0 g
    · rw [fa_le, zn] at h9
      refine V_iload_n E dX0_cell_12 rfl ?_
      refine V_if_lt (tgt := 25) E dX0_cell_13 (by decide) (fun h13 => ?_) (fun h13 => ?_)
      · rw [fa_lt, z0] at h13
        have g : ¬ (wi_ x 0 ((en L : Int) - 1) ∧ wi_ z 0 3) := fun q => by have q1 := q.1.1; have q2 := q.1.2; have q3 := q.2.1; have q4 := q.2.2; omega
        exact J0 g
      · rw [fa_lt, z0] at h13
        refine V_iload_n E dX0_cell_16 rfl ?_
        refine V_iconst (v := 4) E dX0_cell_17 (by decide) ?_
        refine V_icmp_ge (tgt := 25) E dX0_cell_18 (by decide) (fun h18 => ?_) (fun h18 => ?_)
        · rw [fa_le, z4] at h18
          have g : ¬ (wi_ x 0 ((en L : Int) - 1) ∧ wi_ z 0 3) := fun q => by have q1 := q.1.1; have q2 := q.1.2; have q3 := q.2.1; have q4 := q.2.2; omega
          exact J0 g
        · rw [fa_le, z4] at h18
          have wx : wi_ x 0 ((en L : Int) - 1) := ⟨by omega, by omega⟩
          have wz : wi_ z 0 3 := ⟨by omega, by omega⟩
          obtain ⟨i, rfl, ti, li, ui, -⟩ := wi_nat wx (by omega)
          obtain ⟨q, rfl, tq, lq, uq, -⟩ := wi_nat wz (by omega)
          refine V_iconst (v := 1) E dX0_cell_21 (by decide) ?_
          refine V_goto (tgt := 26) E dX0_cell_22 (by decide) ?_
          refine V_istore_n E dX0_cell_26 (by decide) rfl ?_
          refine V_iload_n E dX0_cell_27 rfl ?_
          refine V_if_eq (tgt := 44) E dX0_cell_28 (by decide) (fun hx => absurd hx (by decide)) (fun _ => ?_)
          refine V_aload_n E dX0_cell_31 rfl ?_
          refine V_getR E fl_X0_15 dX0_cell_32 rfl (hQ.k 218 1 rfl (by decide)) hL.2.1.2.1 ?_
          refine V_iload_n E dX0_cell_35 rfl ?_
          refine V_iconst (v := 4) E dX0_cell_36 (by decide) ?_
          refine V_imul E dX0_cell_37 ?_
          refine V_iload_n E dX0_cell_38 rfl ?_
          refine V_iadd E dX0_cell_39 ?_
          refine V_ia (j := ((i * 4) + q)) E dX0_cell_40 hL.2.1.2.2.1 (ni_add (a := (i * 4)) (b := q) (ni_mul (a := i) (b := 4) (@rfl _ (nI (i))) (rfl : (4 : Int32) = nI 4)) (@rfl _ (nI (q)))) hL.2.1.2.2.2.1 (by omega) (by omega) ?_
          refine V_goto (tgt := 45) E dX0_cell_41 (by decide) ?_
          exact V_iret E R dX0_cell_45 rfl (Nat.le_refl _) (Nat.le_refl _) (Or.inl ⟨⟨wx, wz⟩, congrArg (fun z => some (Value.int z)) (by rw [ti, tq, Nat.mul_comm]; exact hL.2.1.2.2.2.2.1 i (by omega) q (by omega)), rfl⟩)

theorem cy_entry (l : Launch) (d : Nat) (S : GS) (hQ : YOK S) (L : AL) (hL : YLd S L) (hn : en L ≤ 102400) (x z : Int32) : GC l (d + 1) yX10_entry cX10_entry 3 (some FieldType.int) [.ref 200, .int x, .int z] S (fun r S2 => ((wi_ x 0 ((en L : Int) - 1) ∧ wi_ z 0 3) ∧ r = some (.int (eE L (tn x) (tn z))) ∧ S2 = S) ∨ (¬ (wi_ x 0 ((en L : Int) - 1) ∧ wi_ z 0 3) ∧ r = some (.int 0) ∧ S2 = S)) (0) (0) := by
  refine GC.ofV (by decide) (Nat.le_of_ble_eq_true rfl) (fun X hl E R hnm => ?_)
  subst hl
  have E : En X RX10 cX10_entry 3 (d + 1) (0) (0) := E
  have R : Rt X (some FieldType.int) (fun r S2 => ((wi_ x 0 ((en L : Int) - 1) ∧ wi_ z 0 3) ∧ r = some (.int (eE L (tn x) (tn z))) ∧ S2 = S) ∨ (¬ (wi_ x 0 ((en L : Int) - 1) ∧ wi_ z 0 3) ∧ r = some (.int 0) ∧ S2 = S)) := R
  refine V_aload_n E dX10_entry_0 rfl ?_
  refine V_getR E fl_X10_41 dX10_entry_1 rfl (hQ.k 200 11 rfl (by decide)) (hQ.r 200 7 212 rfl) ?_
  refine V_getRN E fn_X10_159 dX10_entry_4 rfl (hQ.k 212 5 rfl (by decide)) (hQ.r 212 3 218 rfl) ?_
  refine V_iload_n E dX10_entry_7 rfl ?_
  refine V_iload_n E dX10_entry_8 rfl ?_
  refine V_callV E (cy_cell (x_l X) d S hQ L hL hn x z) ml_X10_168 mv_X0_cell (hQ.k 218 1 rfl (by decide)) dX10_entry_9 rfl (by simp [Value.category]) (by omega) (by omega) (by omega) (fun r S2 hp => ?_)
  rcases hp with ⟨g, rfl, hS2⟩ | ⟨g, rfl, hS2⟩
  · obtain rfl := hS2.symm
    exact V_iret E R dX10_entry_12 rfl (Nat.le_refl _) (Nat.le_refl _) (Or.inl ⟨g, rfl, rfl⟩)
  · obtain rfl := hS2.symm
    exact V_iret E R dX10_entry_12 rfl (Nat.le_refl _) (Nat.le_refl _) (Or.inr ⟨g, rfl, rfl⟩)

theorem cy_coins (l : Launch) (d : Nat) (S : GS) (hQ : YOK S) (L : AL) (hL : YLd S L) (x : Int32) : GC l (d + 1) yX10_coins cX10_coins 2 (some FieldType.int) [.ref 200, .int x] S (fun r S2 => (wi_ x 0 19 ∧ r = some (.int (eC L (tn x))) ∧ S2 = S) ∨ (¬ wi_ x 0 19 ∧ r = some (.int 0) ∧ S2 = S)) (0) (0) := by
  refine GC.ofV (by decide) (Nat.le_of_ble_eq_true rfl) (fun X hl E R hnm => ?_)
  subst hl
  have E : En X RX10 cX10_coins 2 (d + 1) (0) (0) := E
  have R : Rt X (some FieldType.int) (fun r S2 => (wi_ x 0 19 ∧ r = some (.int (eC L (tn x))) ∧ S2 = S) ∨ (¬ wi_ x 0 19 ∧ r = some (.int 0) ∧ S2 = S)) := R
  refine V_iload_n E dX10_coins_0 rfl ?_
  refine V_iconst (v := 0) E dX10_coins_1 (by decide) ?_
  refine V_bipush (v := 19) E dX10_coins_2 (by decide) ?_
  refine V_callS E (cy_isWithin (x_l X) d S _ _ _) ml_X10_61 ms_X10_isWithin dX10_coins_4 rfl (by simp [Value.category]) (by omega) (by omega) (by omega) (fun r S2 hp => ?_)
  obtain ⟨rfl, hS2⟩ := hp
  obtain rfl := hS2.symm
  refine V_ifeq_b (tgt := 25) E dX10_coins_7 (by decide) (fun hc7 => ?_) (fun hc7 => ?_)
  · have w7 : ¬ wi_ x 0 19 := fun q => hc7 ((wi_iff (by decide) (by decide)).mpr q)
    refine V_iconst (v := 0) E dX10_coins_25 (by decide) ?_
    exact V_iret E R dX10_coins_26 rfl (Nat.le_refl _) (Nat.le_refl _) (Or.inr ⟨w7, rfl, rfl⟩)
  · have w7 : wi_ x 0 19 := (wi_iff (by decide) (by decide)).mp hc7
    obtain ⟨m, rfl, tm, lm, um, -⟩ := wi_nat w7 (by omega)
    refine V_aload_n E dX10_coins_10 rfl ?_
    refine V_getR E fl_X10_41 dX10_coins_11 rfl (hQ.k 200 11 rfl (by decide)) (hQ.r 200 7 212 rfl) ?_
    refine V_getRN E fn_X10_159 dX10_coins_14 rfl (hQ.k 212 5 rfl (by decide)) (hQ.r 212 3 218 rfl) ?_
    refine V_getRN E fn_X10_163 dX10_coins_17 rfl (hQ.k 218 1 rfl (by decide)) (hQ.r 218 0 219 rfl) ?_
    refine V_iload_n E dX10_coins_20 rfl ?_
    refine V_ia (j := m) E dX10_coins_21 (hQ.k 219 21 rfl (by decide)) (@rfl _ (nI (m))) (hQ.l 219 20 rfl (by decide)) (by omega) (by decide) ?_
    refine V_goto (tgt := 26) E dX10_coins_22 (by decide) ?_
    exact V_iret E R dX10_coins_26 rfl (Nat.le_refl _) (Nat.le_refl _) (Or.inl ⟨w7, congrArg (fun q => some (Value.int q)) (by rw [tm]; exact hL.2.2 m (by omega)), rfl⟩)
