theorem cm_partPremium (l : Launch) (d : Nat) (S : GS) (A : AV) (t : Nat) (hO : VOK A t) (B : AB) (hB : BOK B) (hM : MOK S) (hV : MVo S B) (s q c x : Nat) (hs : s < vn A) (hd : 0 < vdry A s) (hq : q ≤ 3) (hc : c ≤ 1000000) (hx : x < 100) (o : Option Nat) (ho : ∀ v, o = some v → v < bn B) (h29 : aI S 29 x = nI c) (h30 : aI S 30 x = nI q) (h32 : ∀ m, m < 20 → aI S 32 (20 * x + m) = nI (gmN A s m)) (h33 : ∀ m, m < 20 → aI S 33 (20 * x + m) = nI (plN A s m)) : GC l (d + 1) yX11_partPremium cX11_partPremium 8 (some FieldType.int) [.ref 0, .int (nI x), .int (an o)] S (fun r S2 => r = some (.int (nI (cn (gmN A s) 20))) ∧ MPf S S2 x o ∧ (∀ m, m < 20 → ¬ gmN A s m = 0 → aJ S2 14 (cn (gmN A s) m) = lN (shr A B s q o c m)) ∧ ∀ m, m < 20 → ¬ gmN A s m = 0 → aI S2 40 (cn (gmN A s) m) = nI m) (0) (0) := by
  refine GC.ofV (by decide) (Nat.le_of_ble_eq_true rfl) (fun X hl E R hnm => ?_)
  subst hl
  have E : En X RX11 cX11_partPremium 8 (d + 1) (0) (0) := E
  have R : Rt X (some FieldType.int) (fun r S2 => r = some (.int (nI (cn (gmN A s) 20))) ∧ MPf S S2 x o ∧ (∀ m, m < 20 → ¬ gmN A s m = 0 → aJ S2 14 (cn (gmN A s) m) = lN (shr A B s q o c m)) ∧ ∀ m, m < 20 → ¬ gmN A s m = 0 → aI S2 40 (cn (gmN A s) m) = nI m) := R
  have c20 := cn_le (gmN A s) 20
  refine V_iconst (v := 0) E dX11_partPremium_0 (by decide) ?_
  refine V_istore_n E dX11_partPremium_1 (by decide) rfl ?_
  refine V_lconst (v := 0) E dX11_partPremium_2 (by decide) ?_
  refine V_lstore E dX11_partPremium_3 (by decide) rfl ?_
  refine V_iconst (v := 0) E dX11_partPremium_5 (by decide) ?_
  refine V_istore E dX11_partPremium_6 (by decide) rfl ?_
  have loop : ∀ k p ww f h, p + k = 20 → (∀ m, m < p → ¬ gmN A s m = 0 → ww (cn (gmN A s) m) = nI m ∧ f (cn (gmN A s) m) = lN (mz A B s q o m)) → V X 8 [some (.ref (0)), some (.int (nI (x))), some (.int ((an o))), some (.int (nI (cn (gmN A s) p))), some (.long (lN (sumN (mz A B s q o) p))), none, some (.int (nI (p))), none] [] (U3 S ww f h) 0 0 := by
    intro k
    induction k with
    | zero =>
      intro p ww f h hp hh
      have ep : p = 20 := by omega
      subst ep
      have J143 : ∀ f3 lo6, (∀ m, m < 20 → ¬ gmN A s m = 0 → f3 (cn (gmN A s) m) = lN (mz1 A B s q o m)) → V X 143 [some (.ref (0)), some (.int (nI (x))), some (.int (an o)), some (.int (nI (cn (gmN A s) 20))), none, none, lo6, none] [] (U3 S ww f3 h) 0 0 := by
        intro f3 lo6 h3
        have hw : ∀ m, m < 20 → ¬ gmN A s m = 0 → wq (gmN A s) 20 (cn (gmN A s) m) = m := fun m hm hg => wq_cn hm hg
        have hz : ∀ m, m < 20 → gmN A s m = 0 → mz1 A B s q o m = 0 := fun m _ h0 => mz1_0 h0
        refine V_aload_n E dX11_partPremium_143 rfl ?_
        refine V_aload_n E dX11_partPremium_144 rfl ?_
        refine V_getR E fl_X11_63 dX11_partPremium_145 rfl hM.o (hM.r 29 (by decide)) ?_
        refine V_iload_n E dX11_partPremium_148 rfl ?_
        refine V_ia (j := x) E dX11_partPremium_149 (hM.k 29 21 rfl (by decide)) (@rfl _ (nI (x))) (hM.l 29 100 rfl (by decide)) (by omega) (by decide) ?_
        refine V_i2l E dX11_partPremium_150 rfl ?_
        refine V_cvl (y := lN (c)) (li_of ((congrFun (U3_r S ww f3 h (by decide)) _).trans h29) (by omega)) ?_
        refine V_iload_n E dX11_partPremium_151 rfl ?_
        refine V_callV E (cm_partAmong (x_l X) d (U3 S ww f3 h) hM c (cn (gmN A s) 20) (fun j => mz1 A B s q o (wq (gmN A s) 20 j)) (by omega) (fun k hk => by obtain ⟨m, m1, m2, m3⟩ := cn_ex hk; subst m3; rw [U3_13, h3 m m1 m2, hw m m1 m2]) (by rw [mu_cmp hw hz]; exact mz1_pos hd) (fun k hk => by obtain ⟨m, m1, m2, m3⟩ := cn_ex hk; subst m3; rw [hw m m1 m2]; exact mz1_le hO hs m1) hc) ml_X11_144 mv_X11_partAmong hM.o dX11_partPremium_152 rfl (by simp [Value.category]) (by omega) (by omega) (by omega) (fun r S2 hp => ?_)
        obtain ⟨rfl, f4, h4, rfl, hsh⟩ := hp
        refine V_aload_n E dX11_partPremium_155 rfl ?_
        refine V_getR E fl_X11_69 dX11_partPremium_156 rfl hM.o (hM.r 31 (by decide)) ?_
        refine V_iload_n E dX11_partPremium_159 rfl ?_
        refine V_iload_n E dX11_partPremium_160 rfl ?_
        refine V_ias (j := x) E dX11_partPremium_161 (hM.k 31 21 rfl (by decide)) (@rfl _ (nI (x))) (hM.l 31 100 rfl (by decide)) (by omega) (by decide) ?_
        refine V_iload_n E dX11_partPremium_162 rfl ?_
        exact V_iret E R dX11_partPremium_163 rfl (Nat.le_refl _) (Nat.le_refl _) ⟨rfl, MPf.of S ww h4 f3 h f4 x o, fun m hm hg => by rw [MPf_14, hsh _ (cn_lt hm hg), pSh_cmp hw hz (mz1_pos hd) hm hg]; rfl, fun m hm hg => by rw [MPf_40]; exact (hh m hm hg).1⟩
      refine V_iload E dX11_partPremium_8 rfl ?_
      refine V_bipush (v := 20) E dX11_partPremium_10 (by decide) ?_
      refine V_ge_yes (a := 20) (b := 20) (tgt := 96) E dX11_partPremium_12 (by decide) (@rfl _ (nI (20))) (rfl : (20 : Int32) = nI 20) (by omega) (by omega) ?_
      refine V_iconst (v := 0) E dX11_partPremium_96 (by decide) ?_
      refine V_istore E dX11_partPremium_97 (by decide) rfl ?_
      by_cases hz0 : sumN (mz A B s q o) 20 = 0
      · have lp : ∀ k e f3, e + k = cn (gmN A s) 20 → (∀ m, m < 20 → ¬ gmN A s m = 0 → f3 (cn (gmN A s) m) = lN (if cn (gmN A s) m < e then gmN A s m else mz A B s q o m)) → V X 99 [some (.ref (0)), some (.int (nI (x))), some (.int ((an o))), some (.int (nI (cn (gmN A s) 20))), some (.long (lN (sumN (mz A B s q o) 20))), none, some (.int (nI (e))), none] [] (U3 S ww f3 h) 0 0 := by
          intro k
          induction k with
          | zero =>
            intro e f3 he h3
            refine V_iload E dX11_partPremium_99 rfl ?_
            refine V_iload_n E dX11_partPremium_101 rfl ?_
            refine V_ge_yes (a := e) (b := cn (gmN A s) 20) (tgt := 143) E dX11_partPremium_102 (by decide) (@rfl _ (nI (e))) (@rfl _ (nI (cn (gmN A s) 20))) (by omega) (by omega) ?_
            refine V_lo (lo' := [some (.ref (0)), some (.int (nI (x))), some (.int (an o)), some (.int (nI (cn (gmN A s) 20))), none, none, some (.int (nI (e))), none]) (And.intro rfl (And.intro rfl (And.intro rfl (And.intro rfl (And.intro rfl True.intro))))) ?_
            exact J143 f3 _ (fun m hm hg => by rw [h3 m hm hg, if_pos (by have := cn_lt hm hg; omega)]; exact congrArg lN (if_pos hz0).symm)
          | succ k ih =>
            intro e f3 he h3
            obtain ⟨m, m1, m2, m3⟩ := cn_ex (g := (gmN A s)) (N := 20) (j := e) (by omega)
            have hgm := gm_le hO hs m1
            refine V_iload E dX11_partPremium_99 rfl ?_
            refine V_iload_n E dX11_partPremium_101 rfl ?_
            refine V_ge_no (a := e) (b := cn (gmN A s) 20) (tgt := 143) E dX11_partPremium_102 (by decide) (@rfl _ (nI (e))) (@rfl _ (nI (cn (gmN A s) 20))) (by omega) (by omega) ?_
            refine V_lload E dX11_partPremium_105 rfl ?_
            refine V_lconst (v := 0) E dX11_partPremium_107 (by decide) ?_
            refine V_lcmp E dX11_partPremium_108 ?_
            refine V_if_ne (tgt := 143) E dX11_partPremium_109 (by decide) (fun hx => absurd hx (fun z => z ((lg_cmp_eq _ _).mpr (congrArg lN hz0)))) (fun _ => ?_)
            refine V_aload_n E dX11_partPremium_112 rfl ?_
            refine V_getR E fl_X11_32 dX11_partPremium_113 rfl hM.o (hM.r 13 (by decide)) ?_
            refine V_iload E dX11_partPremium_116 rfl ?_
            refine V_aload_n E dX11_partPremium_118 rfl ?_
            refine V_getR E fl_X11_72 dX11_partPremium_119 rfl hM.o (hM.r 32 (by decide)) ?_
            refine V_bipush (v := 20) E dX11_partPremium_122 (by decide) ?_
            refine V_iload_n E dX11_partPremium_124 rfl ?_
            refine V_imul E dX11_partPremium_125 ?_
            refine V_aload_n E dX11_partPremium_126 rfl ?_
            refine V_getR E fl_X11_96 dX11_partPremium_127 rfl hM.o (hM.r 40 (by decide)) ?_
            refine V_iload E dX11_partPremium_130 rfl ?_
            refine V_ia (j := e) E dX11_partPremium_132 (hM.k 40 21 rfl (by decide)) (@rfl _ (nI (e))) (hM.l 40 20 rfl (by decide)) (by omega) (by decide) ?_
            refine V_cvi (y := nI m) ((U3_40 S ww f3 h e).trans (by rw [← m3]; exact (hh m m1 m2).1)) ?_
            refine V_iadd E dX11_partPremium_133 ?_
            refine V_ia (j := ((20 * x) + m)) E dX11_partPremium_134 (hM.k 32 21 rfl (by decide)) (ni_add (a := (20 * x)) (b := m) (ni_mul (a := 20) (b := x) (rfl : (20 : Int32) = nI 20) (@rfl _ (nI (x)))) (@rfl _ (nI (m)))) (hM.l 32 2000 rfl (by decide)) (by omega) (by decide) ?_
            refine V_cvi (y := nI ((gmN A s m))) ((congrFun (U3_r S ww f3 h (by decide)) _).trans (h32 m (by omega))) ?_
            refine V_i2l E dX11_partPremium_135 rfl ?_
            refine V_cvl (y := lN ((gmN A s m))) (li_of (@rfl _ (nI ((gmN A s m)))) (by omega)) ?_
            refine V_las (j := e) E dX11_partPremium_136 (hM.k 13 22 rfl (by decide)) (@rfl _ (nI (e))) (hM.l 13 60 rfl (by decide)) (by omega) (by decide) ?_
            refine V_cvS (U3_f S ww f3 h e (lN (gmN A s m))) ?_
            refine V_iinc (v := nI (e + 1)) E dX11_partPremium_137 rfl (ni_inc (a := e) (z := 1) (@rfl _ (nI (e)))) (by decide) rfl ?_
            refine V_goto (tgt := 99) E dX11_partPremium_140 (by decide) ?_
            exact ih (e + 1) _ (by omega) (fun i hi hg => by by_cases ee : cn (gmN A s) i = e; have ei := cn_inj hg m2 (ee.trans m3.symm); subst ei; rw [ee, va_up_self, if_pos (by omega)]; rw [va_up_ne _ _ ee, h3 i hi hg]; congr 1; by_cases e5 : cn (gmN A s) i < e; rw [if_pos e5, if_pos (by omega)]; rw [if_neg e5, if_neg (by omega)])
        refine V_lo (lo' := [some (.ref (0)), some (.int (nI (x))), some (.int ((an o))), some (.int (nI (cn (gmN A s) 20))), some (.long (lN (sumN (mz A B s q o) 20))), none, some (.int (0)), none]) (And.intro rfl (And.intro rfl (And.intro rfl (And.intro rfl (And.intro rfl (And.intro rfl True.intro)))))) ?_
        exact lp (cn (gmN A s) 20) 0 f (by omega) (fun m hm hg => by rw [if_neg (Nat.not_lt_zero _)]; exact (hh m hm hg).2)
      · have cp := cn_pos hd
        have hb9 : sumN (mz A B s q o) 20 < 2 ^ 63 := by have : sumN (mz A B s q o) 20 ≤ sumN (fun _ => 1000000000) 20 := sumN_le (fun i hi => mz_le hO hs hi); rw [sumN_const] at this; omega
        refine V_iload E dX11_partPremium_99 rfl ?_
        refine V_iload_n E dX11_partPremium_101 rfl ?_
        refine V_ge_no (a := 0) (b := cn (gmN A s) 20) (tgt := 143) E dX11_partPremium_102 (by decide) (rfl : (0 : Int32) = nI 0) (@rfl _ (nI (cn (gmN A s) 20))) (by omega) (by omega) ?_
        refine V_lload E dX11_partPremium_105 rfl ?_
        refine V_lconst (v := 0) E dX11_partPremium_107 (by decide) ?_
        refine V_lcmp E dX11_partPremium_108 ?_
        refine V_if_ne (tgt := 143) E dX11_partPremium_109 (by decide) (fun _ => ?_) (fun hx => absurd hx (fun z => hz0 ((pk_lEQ (a := sumN (mz A B s q o) 20) (b := 0) hb9 (by omega)).mp ((lg_cmp_eq _ _).mp z))))
        refine V_lo (lo' := [some (.ref (0)), some (.int (nI (x))), some (.int (an o)), some (.int (nI (cn (gmN A s) 20))), none, none, some (.int (0)), none]) (And.intro rfl (And.intro rfl (And.intro rfl (And.intro rfl (And.intro rfl True.intro))))) ?_
        exact J143 f _ (fun m hm hg => by rw [(hh m hm hg).2]; exact congrArg lN (if_neg hz0).symm)
    | succ k ih =>
      intro p ww f h hp hh
      have hgm := gm_le hO hs (show p < 20 by omega)
      have cpp := cn_le (gmN A s) p
      have hpl := pl_le A s p
      have hlm := mz_le (B := B) (q := q) (o := o) hO hs (show p < 20 by omega)
      have hsm : sumN (mz A B s q o) (p + 1) = sumN (mz A B s q o) p + mz A B s q o p := rfl
      refine V_iload E dX11_partPremium_8 rfl ?_
      refine V_bipush (v := 20) E dX11_partPremium_10 (by decide) ?_
      refine V_ge_no (a := p) (b := 20) (tgt := 96) E dX11_partPremium_12 (by decide) (@rfl _ (nI (p))) (rfl : (20 : Int32) = nI 20) (by omega) (by omega) ?_
      refine V_aload_n E dX11_partPremium_15 rfl ?_
      refine V_getR E fl_X11_72 dX11_partPremium_16 rfl hM.o (hM.r 32 (by decide)) ?_
      refine V_bipush (v := 20) E dX11_partPremium_19 (by decide) ?_
      refine V_iload_n E dX11_partPremium_21 rfl ?_
      refine V_imul E dX11_partPremium_22 ?_
      refine V_iload E dX11_partPremium_23 rfl ?_
      refine V_iadd E dX11_partPremium_25 ?_
      refine V_ia (j := ((20 * x) + p)) E dX11_partPremium_26 (hM.k 32 21 rfl (by decide)) (ni_add (a := (20 * x)) (b := p) (ni_mul (a := 20) (b := x) (rfl : (20 : Int32) = nI 20) (@rfl _ (nI (x)))) (@rfl _ (nI (p)))) (hM.l 32 2000 rfl (by decide)) (by omega) (by decide) ?_
      refine V_cvi (y := nI ((gmN A s p))) ((congrFun (U3_r S ww f h (by decide)) _).trans (h32 p (by omega))) ?_
      refine V_istore E dX11_partPremium_27 (by decide) rfl ?_
      refine V_iload E dX11_partPremium_29 rfl ?_
      refine V_if_le (tgt := 90) E dX11_partPremium_31 (by decide) (fun hz => ?_) (fun hz => ?_)
      · have gz : gmN A s p = 0 := by have := (nI_leI (a := gmN A s p) (b := 0) (by omega) (by omega)).mp hz; omega
        refine V_iinc (v := nI (p + 1)) E dX11_partPremium_90 rfl (ni_inc (a := p) (z := 1) (@rfl _ (nI (p)))) (by decide) rfl ?_
        refine V_goto (tgt := 8) E dX11_partPremium_93 (by decide) ?_
        refine V_lo (lo' := [some (.ref (0)), some (.int (nI (x))), some (.int ((an o))), some (.int (nI (cn (gmN A s) p))), some (.long (lN (sumN (mz A B s q o) p))), none, some (.int (nI (p + 1))), none]) (And.intro rfl (And.intro rfl (And.intro rfl (And.intro rfl (And.intro rfl (And.intro rfl True.intro)))))) ?_
        have ec : cn (gmN A s) (p + 1) = cn (gmN A s) p := cn_0 gz
        have hI := ih (p + 1) ww f h (by omega) (fun m hm hg => hh m (by rcases Nat.lt_or_ge m p with z | z; exact z; exact absurd gz (by rw [show p = m by omega]; exact hg)) hg)
        rw [ec, hsm, mz_0 gz, Nat.add_zero] at hI
        exact hI
      · have gz : ¬ gmN A s p = 0 := fun e => hz (by rw [e]; decide)
        refine V_aload_n E dX11_partPremium_34 rfl ?_
        refine V_getR E fl_X11_96 dX11_partPremium_35 rfl hM.o (hM.r 40 (by decide)) ?_
        refine V_iload_n E dX11_partPremium_38 rfl ?_
        refine V_iload E dX11_partPremium_39 rfl ?_
        refine V_ias (j := cn (gmN A s) p) E dX11_partPremium_41 (hM.k 40 21 rfl (by decide)) (@rfl _ (nI (cn (gmN A s) p))) (hM.l 40 20 rfl (by decide)) (by omega) (by decide) ?_
        refine V_cvS (U3_w S ww f h (cn (gmN A s) p) (nI p)) ?_
        refine V_aload_n E dX11_partPremium_42 rfl ?_
        refine V_getR E fl_X11_32 dX11_partPremium_43 rfl hM.o (hM.r 13 (by decide)) ?_
        refine V_iload_n E dX11_partPremium_46 rfl ?_
        refine V_aload_n E dX11_partPremium_47 rfl ?_
        refine V_iload_n E dX11_partPremium_48 rfl ?_
        refine V_iload E dX11_partPremium_49 rfl ?_
        refine V_i2l E dX11_partPremium_51 rfl ?_
        refine V_cvl (y := lN ((gmN A s p))) (li_of (@rfl _ (nI ((gmN A s p)))) (by omega)) ?_
        refine V_aload_n E dX11_partPremium_52 rfl ?_
        refine V_getR E fl_X11_66 dX11_partPremium_53 rfl hM.o (hM.r 30 (by decide)) ?_
        refine V_iload_n E dX11_partPremium_56 rfl ?_
        refine V_ia (j := x) E dX11_partPremium_57 (hM.k 30 21 rfl (by decide)) (@rfl _ (nI (x))) (hM.l 30 100 rfl (by decide)) (by omega) (by decide) ?_
        refine V_i2l E dX11_partPremium_58 rfl ?_
        refine V_cvl (y := lN (q)) (li_of ((congrFun (U3_r S (va_up ww (cn (gmN A s) p) (nI p)) f h (by decide)) _).trans h30) (by omega)) ?_
        refine V_aload_n E dX11_partPremium_59 rfl ?_
        refine V_getR E fl_X11_75 dX11_partPremium_60 rfl hM.o (hM.r 33 (by decide)) ?_
        refine V_bipush (v := 20) E dX11_partPremium_63 (by decide) ?_
        refine V_iload_n E dX11_partPremium_65 rfl ?_
        refine V_imul E dX11_partPremium_66 ?_
        refine V_iload E dX11_partPremium_67 rfl ?_
        refine V_iadd E dX11_partPremium_69 ?_
        refine V_ia (j := ((20 * x) + p)) E dX11_partPremium_70 (hM.k 33 21 rfl (by decide)) (ni_add (a := (20 * x)) (b := p) (ni_mul (a := 20) (b := x) (rfl : (20 : Int32) = nI 20) (@rfl _ (nI (x)))) (@rfl _ (nI (p)))) (hM.l 33 2000 rfl (by decide)) (by omega) (by decide) ?_
        refine V_i2l E dX11_partPremium_71 rfl ?_
        refine V_cvl (y := lN ((plN A s p))) (li_of ((congrFun (U3_r S (va_up ww (cn (gmN A s) p) (nI p)) f h (by decide)) _).trans (h33 p (by omega))) (by omega)) ?_
        refine V_callV E (cm_workedO (x_l X) d (U3 S (va_up ww (cn (gmN A s) p) (nI p)) f h) B hB hM hV.U3 (gmN A s p) q (plN A s p) o ho) ml_X11_219 mv_X11_worked hM.o dX11_partPremium_72 rfl (by simp [Value.category]) (by omega) (by omega) (by omega) (fun r S2 hp => ?_)
        obtain ⟨rfl, h5, rfl⟩ := hp
        refine V_cvS (U3_h S _ f h h5) ?_
        refine V_cvl (y := lN (mz A B s q o p)) ((tlJ_n hgm).1.trans (congrArg lN (mz_1 gz).symm)) ?_
        refine V_las (j := cn (gmN A s) p) E dX11_partPremium_75 (hM.k 13 22 rfl (by decide)) (@rfl _ (nI (cn (gmN A s) p))) (hM.l 13 60 rfl (by decide)) (by omega) (by decide) ?_
        refine V_cvS (U3_f S (va_up ww (cn (gmN A s) p) (nI p)) f h5 (cn (gmN A s) p) (lN (mz A B s q o p))) ?_
        refine V_lload E dX11_partPremium_76 rfl ?_
        refine V_aload_n E dX11_partPremium_78 rfl ?_
        refine V_getR E fl_X11_32 dX11_partPremium_79 rfl hM.o (hM.r 13 (by decide)) ?_
        refine V_iload_n E dX11_partPremium_82 rfl ?_
        refine V_la (j := cn (gmN A s) p) E dX11_partPremium_83 (hM.k 13 22 rfl (by decide)) (@rfl _ (nI (cn (gmN A s) p))) (hM.l 13 60 rfl (by decide)) (by omega) (by decide) ?_
        refine V_ladd E dX11_partPremium_84 ?_
        refine V_cvl (y := lN ((sumN (mz A B s q o) p + (mz A B s q o p)))) (ll_add (a := sumN (mz A B s q o) p) (b := (mz A B s q o p)) (@rfl _ (lN (sumN (mz A B s q o) p))) ((U3_13 S (va_up ww (cn (gmN A s) p) (nI p)) (va_up f (cn (gmN A s) p) (lN (mz A B s q o p))) h5 (cn (gmN A s) p)).trans (va_up_self _ _ _))) ?_
        refine V_lstore E dX11_partPremium_85 (by decide) rfl ?_
        refine V_iinc (v := nI (cn (gmN A s) p + 1)) E dX11_partPremium_87 rfl (ni_inc (a := cn (gmN A s) p) (z := 1) (@rfl _ (nI (cn (gmN A s) p)))) (by decide) rfl ?_
        refine V_iinc (v := nI (p + 1)) E dX11_partPremium_90 rfl (ni_inc (a := p) (z := 1) (@rfl _ (nI (p)))) (by decide) rfl ?_
        refine V_goto (tgt := 8) E dX11_partPremium_93 (by decide) ?_
        refine V_lo (lo' := [some (.ref (0)), some (.int (nI (x))), some (.int ((an o))), some (.int (nI (cn (gmN A s) p + 1))), some (.long (lN ((sumN (mz A B s q o) p + (mz A B s q o p))))), none, some (.int (nI (p + 1))), none]) (And.intro rfl (And.intro rfl (And.intro rfl (And.intro rfl (And.intro rfl (And.intro rfl True.intro)))))) ?_
        have ec : cn (gmN A s) (p + 1) = cn (gmN A s) p + 1 := cn_1 gz
        have hI := ih (p + 1) (va_up ww (cn (gmN A s) p) (nI p)) (va_up f (cn (gmN A s) p) (lN (mz A B s q o p))) h5 (by omega) (fun m hm hg => by by_cases em : m = p; subst em; rw [va_up_self, va_up_self]; exact ⟨rfl, rfl⟩; rw [va_up_ne _ _ (fun z => em (cn_inj hg gz z)), va_up_ne _ _ (fun z => em (cn_inj hg gz z))]; exact hh m (by omega) hg)
        rw [ec, hsm] at hI
        exact hI
  refine V_lo (lo' := [some (.ref (0)), some (.int (nI (x))), some (.int ((an o))), some (.int (0)), some (.long (0)), none, some (.int (0)), none]) (And.intro rfl (And.intro rfl (And.intro rfl (And.intro rfl (And.intro rfl (And.intro rfl True.intro)))))) ?_
  exact V_cvS (U3_self S) (loop 20 0 _ _ _ (by omega) (fun m hm _ => absurd hm (Nat.not_lt_zero _)))
