theorem cm_longer (l : Launch) (d : Nat) (S : GS) (o b N : Nat) (hk : kd S o = 21) (hl : ln S o = N) (hN : N ≤ 200000) (hf : kd S b = 0) : GC l (d) yX11_longer cX11_longer 3 (some (FieldType.array FieldType.int)) [.ref o] S (fun r S2 => r = some (.ref b) ∧ S2 = mGr S o b N) (1) (2 * N) := by
  refine GC.ofV (by decide) (Nat.le_of_ble_eq_true rfl) (fun X hl E R hnm => ?_)
  subst hl
  have E : En X RX11 cX11_longer 3 (d) (1) (2 * N) := E
  have R : Rt X (some (FieldType.array FieldType.int)) (fun r S2 => r = some (.ref b) ∧ S2 = mGr S o b N) := R
  have hob : o ≠ b := fun q => by rw [q, hf] at hk; omega
  refine V_iconst (v := 2) E dX11_longer_0 (by decide) ?_
  refine V_aload_n E dX11_longer_1 rfl ?_
  refine V_al E dX11_longer_2 hk (by decide) hl ?_
  refine V_imul E dX11_longer_3 ?_
  refine V_cvi (y := nI ((2 * N))) (ni_mul (a := 2) (b := N) (rfl : (2 : Int32) = nI 2) (@rfl _ (nI (N)))) ?_
  refine V_newa (at_ := .int) (N := (2 * N)) (b) E rfl (by decide) ac_int dX11_longer_4 (@rfl _ (nI ((2 * N)))) (by omega) hf (by omega) (by omega) ?_
  refine V_astore_n E dX11_longer_6 (by decide) rfl ?_
  refine V_iconst (v := 0) E dX11_longer_7 (by decide) ?_
  refine V_istore_n E dX11_longer_8 (by decide) rfl ?_
  have loop : ∀ m p f, p + m = N → (∀ i, f i = if i < p then aI S o i else 0) → V X 9 [some (.ref (o)), some (.ref (b)), some (.int (nI (p)))] [] (rA (sN S b 21 (2 * N)) b f) (0 + 1) (0 + 2 * N) := by
    intro m
    induction m with
    | zero =>
      intro p f hp hh
      refine V_iload_n E dX11_longer_9 rfl ?_
      refine V_aload_n E dX11_longer_10 rfl ?_
      refine V_al E dX11_longer_11 ((sN_kd (c := 21) (n := 2 * N) hob).trans hk) (by decide) ((sN_ln (c := 21) (n := 2 * N) hob).trans hl) ?_
      refine V_ge_yes (a := p) (b := N) (tgt := 27) E dX11_longer_12 (by decide) (@rfl _ (nI (p))) (@rfl _ (nI (N))) (by omega) (by omega) ?_
      refine V_aload_n E dX11_longer_27 rfl ?_
      exact V_aret (r := (some (b))) E R (by first | exact Or.inl ⟨_, rfl⟩ | exact Or.inr ⟨_, rfl⟩) dX11_longer_28 (by omega) (by omega) ⟨rfl, congrArg (rA (sN S b 21 (2 * N)) b) (funext fun i => by rw [hh i, show p = N by omega])⟩
    | succ m ih =>
      intro p f hp hh
      refine V_iload_n E dX11_longer_9 rfl ?_
      refine V_aload_n E dX11_longer_10 rfl ?_
      refine V_al E dX11_longer_11 ((sN_kd (c := 21) (n := 2 * N) hob).trans hk) (by decide) ((sN_ln (c := 21) (n := 2 * N) hob).trans hl) ?_
      refine V_ge_no (a := p) (b := N) (tgt := 27) E dX11_longer_12 (by decide) (@rfl _ (nI (p))) (@rfl _ (nI (N))) (by omega) (by omega) ?_
      refine V_aload_n E dX11_longer_15 rfl ?_
      refine V_iload_n E dX11_longer_16 rfl ?_
      refine V_aload_n E dX11_longer_17 rfl ?_
      refine V_iload_n E dX11_longer_18 rfl ?_
      refine V_ia (j := p) E dX11_longer_19 ((sN_kd (c := 21) (n := 2 * N) hob).trans hk) (@rfl _ (nI (p))) ((sN_ln (c := 21) (n := 2 * N) hob).trans hl) (by omega) (by omega) ?_
      refine V_cvi (y := aI S o p) (show va_up (aI (sN S b 21 (2 * N))) b f o p = aI S o p from by rw [va_up_ne _ _ hob, sN_aI hob]) ?_
      refine V_ias (j := p) E dX11_longer_20 (va_up_self _ _ _) (@rfl _ (nI (p))) (va_up_self _ _ _) (by omega) (by omega) ?_
      refine V_cvS (sA_rA (sN S b 21 (2 * N)) b f p (aI S o p)) ?_
      refine V_iinc (v := nI (p + 1)) E dX11_longer_21 rfl (ni_inc (a := p) (z := 1) (@rfl _ (nI (p)))) (by decide) rfl ?_
      refine V_goto (tgt := 9) E dX11_longer_24 (by decide) ?_
      exact ih (p + 1) _ (by omega) (fun i => by by_cases e : i = p; rw [e, va_up_self, if_pos (by omega)]; rw [va_up_ne _ _ e, hh i]; by_cases e2 : i < p; rw [if_pos e2, if_pos (by omega)]; rw [if_neg e2, if_neg (by omega)])
  exact V_cvS (rA_self (sN S b 21 (2 * N)) b).symm (loop N 0 _ (by omega) (fun i => by rw [if_neg (Nat.not_lt_zero _)]; exact congrFun (va_up_self (aI S) b (fun _ => 0)) i))

theorem cm_enter (l : Launch) (d : Nat) (S : GS) (hM : MOK S) (L : AL) (hL : MLd S L) (hn : en L < 102400) (td : Nat) (ht : fI S 0 0 = nI td) (p m : Nat) (hm : m < 20) (c : Int32) : GC l (d + 1) yX11_enter cX11_enter 4 none [.ref 0, .int (nI p), .int (nI m), .int c] S (fun r S2 => r = none ∧ MLd S2 (aEnt L td p m c) ∧ MEf S S2) (4 * (gnB 256 (en L + 1) - gnB 256 (en L))) (4 * (512 * 2 ^ gnB 256 (en L + 1) - 512 * 2 ^ gnB 256 (en L))) := by
  refine GC.ofV (by decide) (Nat.le_of_ble_eq_true rfl) (fun X hl E R hnm => ?_)
  subst hl
  have E : En X RX11 cX11_enter 4 (d + 1) (4 * (gnB 256 (en L + 1) - gnB 256 (en L))) (4 * (512 * 2 ^ gnB 256 (en L + 1) - 512 * 2 ^ gnB 256 (en L))) := E
  have R : Rt X none (fun r S2 => r = none ∧ MLd S2 (aEnt L td p m c) ∧ MEf S S2) := R
  have hg9 : gnB 256 (en L + 1) ≤ 9 := gn_bound (k := 9) (by omega)
  have hle := gn_le (b := 256) (by decide) (en L)
  have p1 := pow_pos2 (gnB 256 (en L))
  have p2 : 2 ^ gnB 256 (en L) ≤ 2 ^ 9 := Nat.pow_le_pow_right (by decide) (Nat.le_trans (gn_mono (Nat.le_succ _)) hg9)
  have J56 : ∀ S1 gf k1 n1, MLx S1 L gf → MEf S S1 → (∀ i, i < 4 → gf i = gnB 256 (en L + 1)) → k1 ≤ 4 * (gnB 256 (en L + 1) - gnB 256 (en L)) → n1 ≤ 4 * (512 * 2 ^ gnB 256 (en L + 1) - 512 * 2 ^ gnB 256 (en L)) → V X 56 [some (.ref (0)), some (.int (nI (p))), some (.int (nI (m))), some (.int (c))] [] S1 k1 n1 := by
    intro S1 gf k1 n1 hx ef hgf hk1 hn1
    have hgl := gn_le (b := 256) (by decide) (en L + 1)
    have q0 := hgf 0 (by decide)
    have r0 : en L < 256 * 2 ^ gf 0 := by rw [q0]; omega
    have q1 := hgf 1 (by decide)
    have r1 : en L < 256 * 2 ^ gf 1 := by rw [q1]; omega
    have q2 := hgf 2 (by decide)
    have r2 : en L < 256 * 2 ^ gf 2 := by rw [q2]; omega
    have q3 := hgf 3 (by decide)
    have r3 : en L < 256 * 2 ^ gf 3 := by rw [q3]; omega
    have p3 : 2 ^ gnB 256 (en L + 1) ≤ 2 ^ 9 := Nat.pow_le_pow_right (by decide) hg9
    have s0 : 2 ^ gf 0 ≤ 2 ^ 9 := by rw [q0]; exact p3
    have s1 : 2 ^ gf 1 ≤ 2 ^ 9 := by rw [q1]; exact p3
    have s2 : 2 ^ gf 2 ≤ 2 ^ 9 := by rw [q2]; exact p3
    have s3 : 2 ^ gf 3 ≤ 2 ^ 9 := by rw [q3]; exact p3
    refine V_aload_n E dX11_enter_56 rfl ?_
    refine V_getR E fl_X11_81 dX11_enter_57 rfl ((ef).ok hM).o (hx.2.1 0 (by decide)).2.1 ?_
    refine V_aload_n E dX11_enter_60 rfl ?_
    refine V_getI E fl_X11_212 dX11_enter_61 rfl ((ef).ok hM).o ?_
    refine V_aload_n E dX11_enter_64 rfl ?_
    refine V_getI E fl_X11_159 dX11_enter_65 rfl ((ef).ok hM).o ?_
    refine V_cvi (y := nI td) ((ef.1 0 (by decide)).trans ht) ?_
    refine V_ias (j := (en L)) E dX11_enter_68 (hx.2.1 0 (by decide)).2.2.1 hx.1 (hx.2.1 0 (by decide)).2.2.2.1 (by omega) (by omega) ?_
    refine V_aload_n E dX11_enter_69 rfl ?_
    refine V_getR E fl_X11_84 dX11_enter_70 rfl ((ef).ok hM).o (hx.2.1 1 (by decide)).2.1 ?_
    refine V_aload_n E dX11_enter_73 rfl ?_
    refine V_getI E fl_X11_212 dX11_enter_74 rfl ((ef).ok hM).o ?_
    refine V_iload_n E dX11_enter_77 rfl ?_
    refine V_ias (j := (en L)) E dX11_enter_78 (hx.2.1 1 (by decide)).2.2.1 hx.1 (hx.2.1 1 (by decide)).2.2.2.1 (by omega) (by omega) ?_
    refine V_aload_n E dX11_enter_79 rfl ?_
    refine V_getR E fl_X11_87 dX11_enter_80 rfl ((ef).ok hM).o (hx.2.1 2 (by decide)).2.1 ?_
    refine V_aload_n E dX11_enter_83 rfl ?_
    refine V_getI E fl_X11_212 dX11_enter_84 rfl ((ef).ok hM).o ?_
    refine V_iload_n E dX11_enter_87 rfl ?_
    refine V_ias (j := (en L)) E dX11_enter_88 (hx.2.1 2 (by decide)).2.2.1 hx.1 (hx.2.1 2 (by decide)).2.2.2.1 (by omega) (by omega) ?_
    refine V_aload_n E dX11_enter_89 rfl ?_
    refine V_getR E fl_X11_90 dX11_enter_90 rfl ((ef).ok hM).o (hx.2.1 3 (by decide)).2.1 ?_
    refine V_aload_n E dX11_enter_93 rfl ?_
    refine V_getI E fl_X11_212 dX11_enter_94 rfl ((ef).ok hM).o ?_
    refine V_iload_n E dX11_enter_97 rfl ?_
    refine V_ias (j := (en L)) E dX11_enter_98 (hx.2.1 3 (by decide)).2.2.1 hx.1 (hx.2.1 3 (by decide)).2.2.2.1 (by omega) (by omega) ?_
    refine V_aload_n E dX11_enter_99 rfl ?_
    refine V_dup E dX11_enter_100 rfl ?_
    refine V_getI E fl_X11_212 dX11_enter_101 rfl ((ef).ok hM).o ?_
    refine V_iconst (v := 1) E dX11_enter_104 (by decide) ?_
    refine V_iadd E dX11_enter_105 ?_
    refine V_cvi (y := nI (((en L) + 1))) (ni_add (a := (en L)) (b := 1) hx.1 (rfl : (1 : Int32) = nI 1)) ?_
    refine V_putI E fl_X11_212 dX11_enter_106 rfl ((ef).ok hM).o ⟨rfl, rfl⟩ rfl ?_
    refine V_aload_n E dX11_enter_109 rfl ?_
    refine V_getR E fl_X11_93 dX11_enter_110 rfl ((ef).ok hM).o (((ef).ok hM).r 39 (by decide)) ?_
    refine V_iload_n E dX11_enter_113 rfl ?_
    refine V_dup2 E dX11_enter_114 rfl rfl ?_
    refine V_ia (j := m) E dX11_enter_115 (((ef).ok hM).k 39 21 rfl (by decide)) (@rfl _ (nI (m))) (((ef).ok hM).l 39 20 rfl (by decide)) (by omega) (by decide) ?_
    refine V_iload_n E dX11_enter_116 rfl ?_
    refine V_iadd E dX11_enter_117 ?_
    refine V_cvi (y := eC L m + c) (congrArg (fun z => z + c) ?_) ?_
    · show up2 (up2 (up2 (up2 (aI S1) (100 + 4 * gf 0) (en L) (nI td)) (100 + 4 * gf 1 + 1) (en L) (nI p)) (100 + 4 * gf 2 + 2) (en L) (nI m)) (100 + 4 * gf 3 + 3) (en L) c 39 m = _
      have t0 := (hx.2.1 0 (by decide)).1
      rw [up2_ne (by omega), up2_ne (by omega), up2_ne (by omega), up2_ne (by omega)]
      exact hx.2.2 m hm
    refine V_ias (j := m) E dX11_enter_118 (((ef).ok hM).k 39 21 rfl (by decide)) (@rfl _ (nI (m))) (((ef).ok hM).l 39 20 rfl (by decide)) (by omega) (by decide) ?_
    exact V_vret E R dX11_enter_119 hk1 hn1 ⟨rfl, MLx.cg (hx.ent hm) hgf, ef.trans (mE4_ef (fun i hi => by rw [hgf i hi]; exact hg9))⟩
  refine V_aload_n E dX11_enter_0 rfl ?_
  refine V_getI E fl_X11_212 dX11_enter_1 rfl ((MEf.rfl' S).ok hM).o ?_
  refine V_aload_n E dX11_enter_4 rfl ?_
  refine V_getR E fl_X11_81 dX11_enter_5 rfl ((MEf.rfl' S).ok hM).o (hL.2.1 0 (by decide)).2.1 ?_
  refine V_al E dX11_enter_8 (hL.2.1 0 (by decide)).2.2.1 (by decide) (hL.2.1 0 (by decide)).2.2.2.1 ?_
  refine V_icmp_ne (tgt := 56) E dX11_enter_9 (by decide) (fun h9 => ?_) (fun h9 => ?_)
  · have eg : ¬ en L = 256 * 2 ^ gnB 256 (en L) := fun z => h9 (hL.1.trans (congrArg nI z))
    exact J56 S _ 0 0 hL (MEf.rfl' S) (fun i _ => (gn_eq eg).symm) (Nat.zero_le _) (Nat.zero_le _)
  · have eg : en L = 256 * 2 ^ gnB 256 (en L) := (nI_eq (a := en L) (b := 256 * 2 ^ gnB 256 (en L)) (by omega) (by omega)).mp (hL.1.symm.trans h9)
    have e1 := gn_up eg
    have e3 : 2 ^ gnB 256 (en L + 1) = 2 * 2 ^ gnB 256 (en L) := by rw [e1, pow_succ2]
    have g8 : gnB 256 (en L) ≤ 8 := by omega
    refine V_aload_n E dX11_enter_12 rfl ?_
    refine V_aload_n E dX11_enter_13 rfl ?_
    refine V_getR E fl_X11_81 dX11_enter_14 rfl ((MEf.rfl' S).ok hM).o (hL.2.1 0 (by decide)).2.1 ?_
    refine V_callS E (cm_longer (x_l X) d S (100 + 4 * gnB 256 (en L) + 0) (100 + 4 * (gnB 256 (en L) + 1) + 0) (256 * 2 ^ gnB 256 (en L)) (hL.2.1 0 (by decide)).2.2.1 (hL.2.1 0 (by decide)).2.2.2.1 (by omega) ((hL.2.1 0 (by decide)).2.2.2.2.2 (gnB 256 (en L) + 1) (Nat.lt_succ_self _) (by omega))) ml_X11_215 ms_X11_longer dX11_enter_17 rfl (by simp [Value.category]) (by omega) (by omega) (by omega) (fun r S2 hp => ?_)
    obtain ⟨rfl, rfl⟩ := hp
    refine V_putR E fl_X11_81 dX11_enter_20 rfl ((sN_kd (S := S) (g := 100 + 4 * (gnB 256 (en L) + 1) + 0) (c := 21) (n := 2 * (256 * 2 ^ gnB 256 (en L))) (by omega)).trans (((MEf.rfl' S)).ok hM).o) rfl ?_
    have ef1 := MEf.trans (MEf.rfl' S) (mG1_ef (S := S) (gf := (fun _ => gnB 256 (en L))) (i := 0) (by decide) (show gnB 256 (en L) ≤ 8 from g8))
    have hx1 : MLx (mG1 S (fun _ => gnB 256 (en L)) 0) L (va_up (fun _ => gnB 256 (en L)) 0 (gnB 256 (en L) + 1)) := MLx.grow (S := S) hL (by decide) (show gnB 256 (en L) ≤ 8 from g8) (show en L ≤ 256 * 2 ^ gnB 256 (en L) from hle)
    refine V_cvS (S' := (mG1 S (fun _ => gnB 256 (en L)) 0)) rfl ?_
    refine V_aload_n E dX11_enter_23 rfl ?_
    refine V_aload_n E dX11_enter_24 rfl ?_
    refine V_getR E fl_X11_84 dX11_enter_25 rfl (ef1.ok hM).o (hx1.2.1 1 (by decide)).2.1 ?_
    refine V_callS E (cm_longer (x_l X) d (mG1 S (fun _ => gnB 256 (en L)) 0) (100 + 4 * gnB 256 (en L) + 1) (100 + 4 * (gnB 256 (en L) + 1) + 1) (256 * 2 ^ gnB 256 (en L)) (hx1.2.1 1 (by decide)).2.2.1 (hx1.2.1 1 (by decide)).2.2.2.1 (by omega) ((hx1.2.1 1 (by decide)).2.2.2.2.2 (gnB 256 (en L) + 1) (Nat.lt_succ_self _) (by omega))) ml_X11_215 ms_X11_longer dX11_enter_28 rfl (by simp [Value.category]) (by omega) (by omega) (by omega) (fun r S2 hp => ?_)
    obtain ⟨rfl, rfl⟩ := hp
    refine V_putR E fl_X11_84 dX11_enter_31 rfl ((sN_kd (S := (mG1 S (fun _ => gnB 256 (en L)) 0)) (g := 100 + 4 * (gnB 256 (en L) + 1) + 1) (c := 21) (n := 2 * (256 * 2 ^ gnB 256 (en L))) (by omega)).trans ((ef1).ok hM).o) rfl ?_
    have ef2 := MEf.trans ef1 (mG1_ef (S := (mG1 S (fun _ => gnB 256 (en L)) 0)) (gf := (va_up (fun _ => gnB 256 (en L)) 0 (gnB 256 (en L) + 1))) (i := 1) (by decide) (show gnB 256 (en L) ≤ 8 from g8))
    have hx2 : MLx (mG1 (mG1 S (fun _ => gnB 256 (en L)) 0) (va_up (fun _ => gnB 256 (en L)) 0 (gnB 256 (en L) + 1)) 1) L (va_up (va_up (fun _ => gnB 256 (en L)) 0 (gnB 256 (en L) + 1)) 1 (gnB 256 (en L) + 1)) := MLx.grow (S := (mG1 S (fun _ => gnB 256 (en L)) 0)) hx1 (by decide) (show gnB 256 (en L) ≤ 8 from g8) (show en L ≤ 256 * 2 ^ gnB 256 (en L) from hle)
    refine V_cvS (S' := (mG1 (mG1 S (fun _ => gnB 256 (en L)) 0) (va_up (fun _ => gnB 256 (en L)) 0 (gnB 256 (en L) + 1)) 1)) rfl ?_
    refine V_aload_n E dX11_enter_34 rfl ?_
    refine V_aload_n E dX11_enter_35 rfl ?_
    refine V_getR E fl_X11_87 dX11_enter_36 rfl (ef2.ok hM).o (hx2.2.1 2 (by decide)).2.1 ?_
    refine V_callS E (cm_longer (x_l X) d (mG1 (mG1 S (fun _ => gnB 256 (en L)) 0) (va_up (fun _ => gnB 256 (en L)) 0 (gnB 256 (en L) + 1)) 1) (100 + 4 * gnB 256 (en L) + 2) (100 + 4 * (gnB 256 (en L) + 1) + 2) (256 * 2 ^ gnB 256 (en L)) (hx2.2.1 2 (by decide)).2.2.1 (hx2.2.1 2 (by decide)).2.2.2.1 (by omega) ((hx2.2.1 2 (by decide)).2.2.2.2.2 (gnB 256 (en L) + 1) (Nat.lt_succ_self _) (by omega))) ml_X11_215 ms_X11_longer dX11_enter_39 rfl (by simp [Value.category]) (by omega) (by omega) (by omega) (fun r S2 hp => ?_)
    obtain ⟨rfl, rfl⟩ := hp
    refine V_putR E fl_X11_87 dX11_enter_42 rfl ((sN_kd (S := (mG1 (mG1 S (fun _ => gnB 256 (en L)) 0) (va_up (fun _ => gnB 256 (en L)) 0 (gnB 256 (en L) + 1)) 1)) (g := 100 + 4 * (gnB 256 (en L) + 1) + 2) (c := 21) (n := 2 * (256 * 2 ^ gnB 256 (en L))) (by omega)).trans ((ef2).ok hM).o) rfl ?_
    have ef3 := MEf.trans ef2 (mG1_ef (S := (mG1 (mG1 S (fun _ => gnB 256 (en L)) 0) (va_up (fun _ => gnB 256 (en L)) 0 (gnB 256 (en L) + 1)) 1)) (gf := (va_up (va_up (fun _ => gnB 256 (en L)) 0 (gnB 256 (en L) + 1)) 1 (gnB 256 (en L) + 1))) (i := 2) (by decide) (show gnB 256 (en L) ≤ 8 from g8))
    have hx3 : MLx (mG1 (mG1 (mG1 S (fun _ => gnB 256 (en L)) 0) (va_up (fun _ => gnB 256 (en L)) 0 (gnB 256 (en L) + 1)) 1) (va_up (va_up (fun _ => gnB 256 (en L)) 0 (gnB 256 (en L) + 1)) 1 (gnB 256 (en L) + 1)) 2) L (va_up (va_up (va_up (fun _ => gnB 256 (en L)) 0 (gnB 256 (en L) + 1)) 1 (gnB 256 (en L) + 1)) 2 (gnB 256 (en L) + 1)) := MLx.grow (S := (mG1 (mG1 S (fun _ => gnB 256 (en L)) 0) (va_up (fun _ => gnB 256 (en L)) 0 (gnB 256 (en L) + 1)) 1)) hx2 (by decide) (show gnB 256 (en L) ≤ 8 from g8) (show en L ≤ 256 * 2 ^ gnB 256 (en L) from hle)
    refine V_cvS (S' := (mG1 (mG1 (mG1 S (fun _ => gnB 256 (en L)) 0) (va_up (fun _ => gnB 256 (en L)) 0 (gnB 256 (en L) + 1)) 1) (va_up (va_up (fun _ => gnB 256 (en L)) 0 (gnB 256 (en L) + 1)) 1 (gnB 256 (en L) + 1)) 2)) rfl ?_
    refine V_aload_n E dX11_enter_45 rfl ?_
    refine V_aload_n E dX11_enter_46 rfl ?_
    refine V_getR E fl_X11_90 dX11_enter_47 rfl (ef3.ok hM).o (hx3.2.1 3 (by decide)).2.1 ?_
    refine V_callS E (cm_longer (x_l X) d (mG1 (mG1 (mG1 S (fun _ => gnB 256 (en L)) 0) (va_up (fun _ => gnB 256 (en L)) 0 (gnB 256 (en L) + 1)) 1) (va_up (va_up (fun _ => gnB 256 (en L)) 0 (gnB 256 (en L) + 1)) 1 (gnB 256 (en L) + 1)) 2) (100 + 4 * gnB 256 (en L) + 3) (100 + 4 * (gnB 256 (en L) + 1) + 3) (256 * 2 ^ gnB 256 (en L)) (hx3.2.1 3 (by decide)).2.2.1 (hx3.2.1 3 (by decide)).2.2.2.1 (by omega) ((hx3.2.1 3 (by decide)).2.2.2.2.2 (gnB 256 (en L) + 1) (Nat.lt_succ_self _) (by omega))) ml_X11_215 ms_X11_longer dX11_enter_50 rfl (by simp [Value.category]) (by omega) (by omega) (by omega) (fun r S2 hp => ?_)
    obtain ⟨rfl, rfl⟩ := hp
    refine V_putR E fl_X11_90 dX11_enter_53 rfl ((sN_kd (S := (mG1 (mG1 (mG1 S (fun _ => gnB 256 (en L)) 0) (va_up (fun _ => gnB 256 (en L)) 0 (gnB 256 (en L) + 1)) 1) (va_up (va_up (fun _ => gnB 256 (en L)) 0 (gnB 256 (en L) + 1)) 1 (gnB 256 (en L) + 1)) 2)) (g := 100 + 4 * (gnB 256 (en L) + 1) + 3) (c := 21) (n := 2 * (256 * 2 ^ gnB 256 (en L))) (by omega)).trans ((ef3).ok hM).o) rfl ?_
    have ef4 := MEf.trans ef3 (mG1_ef (S := (mG1 (mG1 (mG1 S (fun _ => gnB 256 (en L)) 0) (va_up (fun _ => gnB 256 (en L)) 0 (gnB 256 (en L) + 1)) 1) (va_up (va_up (fun _ => gnB 256 (en L)) 0 (gnB 256 (en L) + 1)) 1 (gnB 256 (en L) + 1)) 2)) (gf := (va_up (va_up (va_up (fun _ => gnB 256 (en L)) 0 (gnB 256 (en L) + 1)) 1 (gnB 256 (en L) + 1)) 2 (gnB 256 (en L) + 1))) (i := 3) (by decide) (show gnB 256 (en L) ≤ 8 from g8))
    have hx4 : MLx (mG1 (mG1 (mG1 (mG1 S (fun _ => gnB 256 (en L)) 0) (va_up (fun _ => gnB 256 (en L)) 0 (gnB 256 (en L) + 1)) 1) (va_up (va_up (fun _ => gnB 256 (en L)) 0 (gnB 256 (en L) + 1)) 1 (gnB 256 (en L) + 1)) 2) (va_up (va_up (va_up (fun _ => gnB 256 (en L)) 0 (gnB 256 (en L) + 1)) 1 (gnB 256 (en L) + 1)) 2 (gnB 256 (en L) + 1)) 3) L (va_up (va_up (va_up (va_up (fun _ => gnB 256 (en L)) 0 (gnB 256 (en L) + 1)) 1 (gnB 256 (en L) + 1)) 2 (gnB 256 (en L) + 1)) 3 (gnB 256 (en L) + 1)) := MLx.grow (S := (mG1 (mG1 (mG1 S (fun _ => gnB 256 (en L)) 0) (va_up (fun _ => gnB 256 (en L)) 0 (gnB 256 (en L) + 1)) 1) (va_up (va_up (fun _ => gnB 256 (en L)) 0 (gnB 256 (en L) + 1)) 1 (gnB 256 (en L) + 1)) 2)) hx3 (by decide) (show gnB 256 (en L) ≤ 8 from g8) (show en L ≤ 256 * 2 ^ gnB 256 (en L) from hle)
    refine V_cvS (S' := (mG1 (mG1 (mG1 (mG1 S (fun _ => gnB 256 (en L)) 0) (va_up (fun _ => gnB 256 (en L)) 0 (gnB 256 (en L) + 1)) 1) (va_up (va_up (fun _ => gnB 256 (en L)) 0 (gnB 256 (en L) + 1)) 1 (gnB 256 (en L) + 1)) 2) (va_up (va_up (va_up (fun _ => gnB 256 (en L)) 0 (gnB 256 (en L) + 1)) 1 (gnB 256 (en L) + 1)) 2 (gnB 256 (en L) + 1)) 3)) rfl ?_
    exact J56 _ _ _ _ hx4 ef4 (fun i hi => by rw [e1]; have hc : i = 0 ∨ i = 1 ∨ i = 2 ∨ i = 3 := (by omega); rcases hc with rfl | rfl | rfl | rfl <;> rfl) (by omega) (by omega)

theorem cm_entry (l : Launch) (d : Nat) (S : GS) (hM : MOK S) (L : AL) (hL : MLd S L) (hn : en L ≤ 102400) (x z : Int32) : GC l (d + 1) yX11_entry cX11_entry 3 (some FieldType.int) [.ref 0, .int x, .int z] S (fun r S2 => ((wi_ x 0 ((en L : Int) - 1) ∧ wi_ z 0 3) ∧ r = some (.int (eE L (tn x) (tn z))) ∧ S2 = S) ∨ (¬ (wi_ x 0 ((en L : Int) - 1) ∧ wi_ z 0 3) ∧ r = some (.int 0) ∧ S2 = S)) (0) (0) := by
  refine GC.ofV (by decide) (Nat.le_of_ble_eq_true rfl) (fun X hl E R hnm => ?_)
  subst hl
  have E : En X RX11 cX11_entry 3 (d + 1) (0) (0) := E
  have R : Rt X (some FieldType.int) (fun r S2 => ((wi_ x 0 ((en L : Int) - 1) ∧ wi_ z 0 3) ∧ r = some (.int (eE L (tn x) (tn z))) ∧ S2 = S) ∨ (¬ (wi_ x 0 ((en L : Int) - 1) ∧ wi_ z 0 3) ∧ r = some (.int 0) ∧ S2 = S)) := R
  have hle := gn_le (b := 256) (by decide) (en L)
  have p2 : 2 ^ gnB 256 (en L) ≤ 2 ^ 9 := Nat.pow_le_pow_right (by decide) (gn_bound (k := 9) (by omega))
  have z0 : ((0 : Int32)).toInt = 0 := rfl
  have z1 : ((1 : Int32)).toInt = 1 := rfl
  have z2 : ((2 : Int32)).toInt = 2 := rfl
  have z3 : ((3 : Int32)).toInt = 3 := rfl
  refine V_iload_n E dX11_entry_0 rfl ?_
  refine V_iconst (v := 0) E dX11_entry_1 (by decide) ?_
  refine V_aload_n E dX11_entry_2 rfl ?_
  refine V_getI E fl_X11_212 dX11_entry_3 rfl hM.o ?_
  refine V_iconst (v := 1) E dX11_entry_6 (by decide) ?_
  refine V_isub E dX11_entry_7 ?_
  refine V_callS E (cm_in (x_l X) d S _ _ _) ml_X11_115 ms_X11_in dX11_entry_8 rfl (by simp [Value.category]) (by omega) (by omega) (by omega) (fun r S2 hp => ?_)
  obtain ⟨rfl, hS2⟩ := hp
  obtain rfl := hS2.symm
  refine V_ifne_b (tgt := 16) E dX11_entry_11 (by decide) (fun hc11 => ?_) (fun hc11 => ?_)
  · have w11 : wi_ x 0 ((en L : Int) - 1) := (wi_iff rfl (by rw [hL.1]; exact nI_m1 (by omega))).mp hc11
    obtain ⟨i, rfl, ti, li, ui, -⟩ := wi_nat w11 (by omega)
    refine V_iload_n E dX11_entry_16 rfl ?_
    refine V_if_ne (tgt := 29) E dX11_entry_17 (by decide) (fun h17 => ?_) (fun h17 => ?_)
    · rw [fa_eq, z0] at h17
      refine V_iload_n E dX11_entry_29 rfl ?_
      refine V_iconst (v := 1) E dX11_entry_30 (by decide) ?_
      refine V_icmp_ne (tgt := 43) E dX11_entry_31 (by decide) (fun h31 => ?_) (fun h31 => ?_)
      · rw [fa_eq, z1] at h31
        refine V_iload_n E dX11_entry_43 rfl ?_
        refine V_iconst (v := 2) E dX11_entry_44 (by decide) ?_
        refine V_icmp_ne (tgt := 57) E dX11_entry_45 (by decide) (fun h45 => ?_) (fun h45 => ?_)
        · rw [fa_eq, z2] at h45
          refine V_iload_n E dX11_entry_57 rfl ?_
          refine V_iconst (v := 3) E dX11_entry_58 (by decide) ?_
          refine V_icmp_ne (tgt := 71) E dX11_entry_59 (by decide) (fun h59 => ?_) (fun h59 => ?_)
          · rw [fa_eq, z3] at h59
            refine V_iconst (v := 0) E dX11_entry_71 (by decide) ?_
            exact V_iret E R dX11_entry_72 rfl (Nat.le_refl _) (Nat.le_refl _) (Or.inr ⟨fun q => by have q1 := q.2.1; have q2 := q.2.2; omega, rfl, rfl⟩)
          · have wz : wi_ z 0 3 := by rw [fa_eq, z3] at h59; exact ⟨by omega, by omega⟩
            have tz : tn z = 3 := by rw [h59]; rfl
            refine V_aload_n E dX11_entry_62 rfl ?_
            refine V_getR E fl_X11_90 dX11_entry_63 rfl hM.o (hL.2.1 3 (by decide)).2.1 ?_
            refine V_iload_n E dX11_entry_66 rfl ?_
            refine V_ia (j := i) E dX11_entry_67 (hL.2.1 3 (by decide)).2.2.1 (@rfl _ (nI (i))) (show ln S (100 + 4 * gnB 256 (en L) + 3) = 256 * 2 ^ gnB 256 (en L) from (hL.2.1 3 (by decide)).2.2.2.1) (by omega) (by omega) ?_
            refine V_goto (tgt := 72) E dX11_entry_68 (by decide) ?_
            exact V_iret E R dX11_entry_72 rfl (Nat.le_refl _) (Nat.le_refl _) (Or.inl ⟨⟨w11, wz⟩, congrArg (fun q => some (Value.int q)) (by rw [ti, tz]; exact (hL.2.1 3 (by decide)).2.2.2.2.1 i (by omega)), rfl⟩)
        · have wz : wi_ z 0 3 := by rw [fa_eq, z2] at h45; exact ⟨by omega, by omega⟩
          have tz : tn z = 2 := by rw [h45]; rfl
          refine V_aload_n E dX11_entry_48 rfl ?_
          refine V_getR E fl_X11_87 dX11_entry_49 rfl hM.o (hL.2.1 2 (by decide)).2.1 ?_
          refine V_iload_n E dX11_entry_52 rfl ?_
          refine V_ia (j := i) E dX11_entry_53 (hL.2.1 2 (by decide)).2.2.1 (@rfl _ (nI (i))) (show ln S (100 + 4 * gnB 256 (en L) + 2) = 256 * 2 ^ gnB 256 (en L) from (hL.2.1 2 (by decide)).2.2.2.1) (by omega) (by omega) ?_
          refine V_goto (tgt := 72) E dX11_entry_54 (by decide) ?_
          exact V_iret E R dX11_entry_72 rfl (Nat.le_refl _) (Nat.le_refl _) (Or.inl ⟨⟨w11, wz⟩, congrArg (fun q => some (Value.int q)) (by rw [ti, tz]; exact (hL.2.1 2 (by decide)).2.2.2.2.1 i (by omega)), rfl⟩)
      · have wz : wi_ z 0 3 := by rw [fa_eq, z1] at h31; exact ⟨by omega, by omega⟩
        have tz : tn z = 1 := by rw [h31]; rfl
        refine V_aload_n E dX11_entry_34 rfl ?_
        refine V_getR E fl_X11_84 dX11_entry_35 rfl hM.o (hL.2.1 1 (by decide)).2.1 ?_
        refine V_iload_n E dX11_entry_38 rfl ?_
        refine V_ia (j := i) E dX11_entry_39 (hL.2.1 1 (by decide)).2.2.1 (@rfl _ (nI (i))) (show ln S (100 + 4 * gnB 256 (en L) + 1) = 256 * 2 ^ gnB 256 (en L) from (hL.2.1 1 (by decide)).2.2.2.1) (by omega) (by omega) ?_
        refine V_goto (tgt := 72) E dX11_entry_40 (by decide) ?_
        exact V_iret E R dX11_entry_72 rfl (Nat.le_refl _) (Nat.le_refl _) (Or.inl ⟨⟨w11, wz⟩, congrArg (fun q => some (Value.int q)) (by rw [ti, tz]; exact (hL.2.1 1 (by decide)).2.2.2.2.1 i (by omega)), rfl⟩)
    · have wz : wi_ z 0 3 := by rw [fa_eq, z0] at h17; exact ⟨by omega, by omega⟩
      have tz : tn z = 0 := by rw [h17]; rfl
      refine V_aload_n E dX11_entry_20 rfl ?_
      refine V_getR E fl_X11_81 dX11_entry_21 rfl hM.o (hL.2.1 0 (by decide)).2.1 ?_
      refine V_iload_n E dX11_entry_24 rfl ?_
      refine V_ia (j := i) E dX11_entry_25 (hL.2.1 0 (by decide)).2.2.1 (@rfl _ (nI (i))) (show ln S (100 + 4 * gnB 256 (en L) + 0) = 256 * 2 ^ gnB 256 (en L) from (hL.2.1 0 (by decide)).2.2.2.1) (by omega) (by omega) ?_
      refine V_goto (tgt := 72) E dX11_entry_26 (by decide) ?_
      exact V_iret E R dX11_entry_72 rfl (Nat.le_refl _) (Nat.le_refl _) (Or.inl ⟨⟨w11, wz⟩, congrArg (fun q => some (Value.int q)) (by rw [ti, tz]; exact (hL.2.1 0 (by decide)).2.2.2.2.1 i (by omega)), rfl⟩)
  · have g : ¬ (wi_ x 0 ((en L : Int) - 1) ∧ wi_ z 0 3) := fun q => hc11 ((wi_iff rfl (by rw [hL.1]; exact nI_m1 (by omega))).mpr q.1)
    refine V_iconst (v := 0) E dX11_entry_14 (by decide) ?_
    exact V_iret E R dX11_entry_15 rfl (Nat.le_refl _) (Nat.le_refl _) (Or.inr ⟨g, rfl, rfl⟩)

theorem cm_coins (l : Launch) (d : Nat) (S : GS) (hM : MOK S) (L : AL) (hL : MLd S L) (x : Int32) : GC l (d + 1) yX11_coins cX11_coins 2 (some FieldType.int) [.ref 0, .int x] S (fun r S2 => (wi_ x 0 19 ∧ r = some (.int (eC L (tn x))) ∧ S2 = S) ∨ (¬ wi_ x 0 19 ∧ r = some (.int 0) ∧ S2 = S)) (0) (0) := by
  refine GC.ofV (by decide) (Nat.le_of_ble_eq_true rfl) (fun X hl E R hnm => ?_)
  subst hl
  have E : En X RX11 cX11_coins 2 (d + 1) (0) (0) := E
  have R : Rt X (some FieldType.int) (fun r S2 => (wi_ x 0 19 ∧ r = some (.int (eC L (tn x))) ∧ S2 = S) ∨ (¬ wi_ x 0 19 ∧ r = some (.int 0) ∧ S2 = S)) := R
  refine V_iload_n E dX11_coins_0 rfl ?_
  refine V_iconst (v := 0) E dX11_coins_1 (by decide) ?_
  refine V_bipush (v := 19) E dX11_coins_2 (by decide) ?_
  refine V_callS E (cm_in (x_l X) d S _ _ _) ml_X11_115 ms_X11_in dX11_coins_4 rfl (by simp [Value.category]) (by omega) (by omega) (by omega) (fun r S2 hp => ?_)
  obtain ⟨rfl, hS2⟩ := hp
  obtain rfl := hS2.symm
  refine V_ifeq_b (tgt := 19) E dX11_coins_7 (by decide) (fun hc7 => ?_) (fun hc7 => ?_)
  · have w7 : ¬ wi_ x 0 19 := fun q => hc7 ((wi_iff (by decide) (by decide)).mpr q)
    refine V_iconst (v := 0) E dX11_coins_19 (by decide) ?_
    exact V_iret E R dX11_coins_20 rfl (Nat.le_refl _) (Nat.le_refl _) (Or.inr ⟨w7, rfl, rfl⟩)
  · have w7 : wi_ x 0 19 := (wi_iff (by decide) (by decide)).mp hc7
    obtain ⟨m, rfl, tm, lm, um, -⟩ := wi_nat w7 (by omega)
    refine V_aload_n E dX11_coins_10 rfl ?_
    refine V_getR E fl_X11_93 dX11_coins_11 rfl hM.o (hM.r 39 (by decide)) ?_
    refine V_iload_n E dX11_coins_14 rfl ?_
    refine V_ia (j := m) E dX11_coins_15 (hM.k 39 21 rfl (by decide)) (@rfl _ (nI (m))) (hM.l 39 20 rfl (by decide)) (by omega) (by decide) ?_
    refine V_goto (tgt := 20) E dX11_coins_16 (by decide) ?_
    exact V_iret E R dX11_coins_20 rfl (Nat.le_refl _) (Nat.le_refl _) (Or.inl ⟨w7, congrArg (fun q => some (Value.int q)) (by rw [tm]; exact hL.2.2 m (by omega)), rfl⟩)
