set_option maxHeartbeats 8000000 in
theorem cm_premium (l : Launch) (d : Nat) (S : GS) (A : AV) (t : Nat) (hO : VOK A t) (hM : MOK S) (hA : MVes S A) (B : AB) (hB : BOK B) (hV : MVo S B) (L : AL) (hL : MLd S L) (hn : en L + 20 < 102400) (Q : AR) (hR : MPr S A Q) (hRn : rn Q ≤ 100) (td : Nat) (htd : td ≤ 600) (ht : fI S 0 0 = nI td) (pd : Nat) (hp : fJ S 0 5 = lN pd) (x y : Int32) : GC l (d + 2) yX11_premium cX11_premium 6 (some FieldType.int) [.ref 0, .int x, .int y] S (fun r S2 => (pPrm A Q x y ∧ r = some (.int (nI (rn Q))) ∧ MLd S2 (lfd (gmN A (tn x)) (shr A B (tn x) (vG A (tn x)) (inF B td) (tn y)) (fun _ => 0) 1 td (rn Q) L 20) ∧ MPr S2 A (aPrm Q (tn x) td (tn y) (vG A (tn x)) (inF B td) (shr A B (tn x) (vG A (tn x)) (inF B td) (tn y))) ∧ fJ S2 0 5 = lN (pd + tn y) ∧ MQf S S2) ∨ (¬ pPrm A Q x y ∧ r = some (.int (-1)) ∧ S2 = S)) (mK (en (lfd (gmN A (tn x)) (shr A B (tn x) (vG A (tn x)) (inF B td) (tn y)) (fun _ => 0) 1 td (rn Q) L 20)) - mK (en L)) (mN (en (lfd (gmN A (tn x)) (shr A B (tn x) (vG A (tn x)) (inF B td) (tn y)) (fun _ => 0) 1 td (rn Q) L 20)) - mN (en L)) := by
  refine GC.ofV (by decide) (Nat.le_of_ble_eq_true rfl) (fun X hl E R hnm => ?_)
  subst hl
  have E : En X RX11 cX11_premium 6 (d + 2) (mK (en (lfd (gmN A (tn x)) (shr A B (tn x) (vG A (tn x)) (inF B td) (tn y)) (fun _ => 0) 1 td (rn Q) L 20)) - mK (en L)) (mN (en (lfd (gmN A (tn x)) (shr A B (tn x) (vG A (tn x)) (inF B td) (tn y)) (fun _ => 0) 1 td (rn Q) L 20)) - mN (en L)) := E
  have R : Rt X (some FieldType.int) (fun r S2 => (pPrm A Q x y ∧ r = some (.int (nI (rn Q))) ∧ MLd S2 (lfd (gmN A (tn x)) (shr A B (tn x) (vG A (tn x)) (inF B td) (tn y)) (fun _ => 0) 1 td (rn Q) L 20) ∧ MPr S2 A (aPrm Q (tn x) td (tn y) (vG A (tn x)) (inF B td) (shr A B (tn x) (vG A (tn x)) (inF B td) (tn y))) ∧ fJ S2 0 5 = lN (pd + tn y) ∧ MQf S S2) ∨ (¬ pPrm A Q x y ∧ r = some (.int (-1)) ∧ S2 = S)) := R
  have hvn := hO.1
  refine V_aload_n E dX11_premium_0 rfl ?_
  refine V_iload_n E dX11_premium_1 rfl ?_
  refine V_iconst (v := 3) E dX11_premium_2 (by decide) ?_
  refine V_callV E (cm_is (x_l X) d S A t hO hM hA x 3 (by omega)) ml_X11_128 mv_X11_is hM.o dX11_premium_3 rfl (by simp [Value.category]) (by omega) (by omega) (by omega) (fun r S2 hp => ?_)
  obtain ⟨rfl, hS2⟩ := hp
  obtain rfl := hS2.symm
  refine V_ifeq_b (tgt := 45) E dX11_premium_6 (by decide) (fun hc6 => ?_) (fun hc6 => ?_)
  · have g : ¬ pPrm A Q x y := fun z => hc6 z.1.1
    refine V_iconst (v := -1) E dX11_premium_45 (by decide) ?_
    exact V_iret E R dX11_premium_46 rfl (Nat.zero_le _) (Nat.zero_le _) (Or.inr ⟨g, rfl, rfl⟩)
  · obtain ⟨s, rfl, ts, ls, us, -⟩ := wi_nat hc6.1 (by omega)
    have hs : s < vn A := by omega
    have h3 := hO.2.2.1 s hs
    have k3 := hc6.2
    rw [ts] at k3
    refine V_aload_n E dX11_premium_9 rfl ?_
    refine V_getR E fl_X11_26 dX11_premium_10 rfl hM.o (hM.r 11 (by decide)) ?_
    refine V_iload_n E dX11_premium_13 rfl ?_
    refine V_ia (j := s) E dX11_premium_14 (hM.k 11 21 rfl (by decide)) (@rfl _ (nI (s))) (hM.l 11 100 rfl (by decide)) (by omega) (by decide) ?_
    refine V_if_eq (tgt := 45) E dX11_premium_15 (by decide) (fun h15 => ?_) (fun h15 => ?_)
    · have g : ¬ pPrm A Q (nI s) y := fun z => z.1.2 (by rw [ts]; exact (nI_eq (a := vG A s) (b := 0) (by omega) (by omega)).mp ((hA.G s (by omega)).symm.trans h15))
      refine V_iconst (v := -1) E dX11_premium_45 (by decide) ?_
      exact V_iret E R dX11_premium_46 rfl (Nat.zero_le _) (Nat.zero_le _) (Or.inr ⟨g, rfl, rfl⟩)
    · have g15 : vG A s ≠ 0 := fun e => h15 ((hA.G s (by omega)).trans (by rw [e]; rfl))
      refine V_iload_n E dX11_premium_18 rfl ?_
      refine V_iconst (v := 1) E dX11_premium_19 (by decide) ?_
      refine V_ldc E dX11_premium_20 kc_X11_133 ?_
      refine V_callS E (cm_in (x_l X) d S _ _ _) ml_X11_115 ms_X11_in dX11_premium_22 rfl (by simp [Value.category]) (by omega) (by omega) (by omega) (fun r S2 hp => ?_)
      obtain ⟨rfl, hS2⟩ := hp
      obtain rfl := hS2.symm
      refine V_ifeq_b (tgt := 45) E dX11_premium_25 (by decide) (fun hc25 => ?_) (fun hc25 => ?_)
      · have g : ¬ pPrm A Q (nI s) y := fun z => hc25 ((wi_iff (by decide) (by decide)).mpr z.2.1)
        refine V_iconst (v := -1) E dX11_premium_45 (by decide) ?_
        exact V_iret E R dX11_premium_46 rfl (Nat.zero_le _) (Nat.zero_le _) (Or.inr ⟨g, rfl, rfl⟩)
      · have w25 : wi_ y 1 1000000 := (wi_iff (by decide) (by decide)).mp hc25
        obtain ⟨c, rfl, tc, lc, uc, -⟩ := wi_nat w25 (by omega)
        refine V_aload_n E dX11_premium_28 rfl ?_
        refine V_getI E fl_X11_223 dX11_premium_29 rfl hM.o ?_
        refine V_bipush (v := 100) E dX11_premium_32 (by decide) ?_
        refine V_icmp_eq (tgt := 45) E dX11_premium_34 (by decide) (fun h34 => ?_) (fun h34 => ?_)
        · have g : ¬ pPrm A Q (nI s) (nI c) := fun z => by have z1 := z.2.2; have z2 := (nI_eq (a := rn Q) (b := 100) (by omega) (by omega)).mp (hR.1.symm.trans h34); omega
          refine V_iconst (v := -1) E dX11_premium_45 (by decide) ?_
          exact V_iret E R dX11_premium_46 rfl (Nat.zero_le _) (Nat.zero_le _) (Or.inr ⟨g, rfl, rfl⟩)
        · have g34 : rn Q < 100 := by rcases Nat.lt_or_ge (rn Q) 100 with z | z; exact z; exact absurd (hR.1.trans (congrArg nI (by omega : rn Q = 100))) h34
          have hdr : 0 < vdry A s := by have z1 := h3.2.2.2.2.2.2.2.2.2.1 g15; have z2 := (h3.2.2.2.2.2.2.2.2.2.2 z1).2.1; omega
          refine V_aload_n E dX11_premium_37 rfl ?_
          refine V_iload_n E dX11_premium_38 rfl ?_
          refine V_callV E (cm_dryOf (x_l X) d S hM s (by omega)) ml_X11_119 mv_X11_dryOf hM.o dX11_premium_39 rfl (by simp [Value.category]) (by omega) (by omega) (by omega) (fun r S2 hp => ?_)
          obtain ⟨rfl, hS2⟩ := hp
          obtain rfl := hS2.symm
          refine V_if_ne (tgt := 47) E dX11_premium_42 (by decide) (fun _ => ?_) (fun hx => absurd hx (fun z => by rw [hA.sum s (by omega)] at z; have := (nI_eq (a := vdry A s) (b := 0) (by omega) (by omega)).mp z; omega))
          refine V_aload_n E dX11_premium_47 rfl ?_
          refine V_getI E fl_X11_223 dX11_premium_48 rfl hM.o ?_
          refine V_cvi (y := nI ((rn Q))) hR.1 ?_
          refine V_istore_n E dX11_premium_51 (by decide) rfl ?_
          refine V_aload_n E dX11_premium_52 rfl ?_
          refine V_dup E dX11_premium_53 rfl ?_
          refine V_getI E fl_X11_223 dX11_premium_54 rfl hM.o ?_
          refine V_iconst (v := 1) E dX11_premium_57 (by decide) ?_
          refine V_iadd E dX11_premium_58 ?_
          refine V_cvi (y := nI (((rn Q) + 1))) (ni_add (a := (rn Q)) (b := 1) hR.1 (rfl : (1 : Int32) = nI 1)) ?_
          refine V_putI E fl_X11_223 dX11_premium_59 rfl hM.o ⟨rfl, rfl⟩ rfl ?_
          refine V_aload_n E dX11_premium_62 rfl ?_
          refine V_getR E fl_X11_60 dX11_premium_63 rfl hM.o (hM.r 28 (by decide)) ?_
          refine V_iload_n E dX11_premium_66 rfl ?_
          refine V_aload_n E dX11_premium_67 rfl ?_
          refine V_getI E fl_X11_159 dX11_premium_68 rfl hM.o ?_
          refine V_cvi (y := nI td) (show up2 (fI S) 0 2 (nI (rn Q + 1)) 0 0 = nI td from (up2_nk (by decide)).trans ht) ?_
          refine V_ias (j := (rn Q)) E dX11_premium_71 (hM.k 28 21 rfl (by decide)) (@rfl _ (nI ((rn Q)))) (hM.l 28 100 rfl (by decide)) (by omega) (by decide) ?_
          refine V_aload_n E dX11_premium_72 rfl ?_
          refine V_getR E fl_X11_63 dX11_premium_73 rfl hM.o (hM.r 29 (by decide)) ?_
          refine V_iload_n E dX11_premium_76 rfl ?_
          refine V_iload_n E dX11_premium_77 rfl ?_
          refine V_ias (j := (rn Q)) E dX11_premium_78 (hM.k 29 21 rfl (by decide)) (@rfl _ (nI ((rn Q)))) (hM.l 29 100 rfl (by decide)) (by omega) (by decide) ?_
          refine V_aload_n E dX11_premium_79 rfl ?_
          refine V_getR E fl_X11_66 dX11_premium_80 rfl hM.o (hM.r 30 (by decide)) ?_
          refine V_iload_n E dX11_premium_83 rfl ?_
          refine V_aload_n E dX11_premium_84 rfl ?_
          refine V_getR E fl_X11_26 dX11_premium_85 rfl hM.o (hM.r 11 (by decide)) ?_
          refine V_iload_n E dX11_premium_88 rfl ?_
          refine V_ia (j := s) E dX11_premium_89 (hM.k 11 21 rfl (by decide)) (@rfl _ (nI (s))) (hM.l 11 100 rfl (by decide)) (by omega) (by decide) ?_
          refine V_cvi (y := nI (vG A s)) (show up2 (up2 (aI S) 28 (rn Q) (nI td)) 29 (rn Q) (nI c) 11 s = nI (vG A s) from by rw [up2_ne (by decide), up2_ne (by decide)]; exact hA.G s (by omega)) ?_
          refine V_ias (j := (rn Q)) E dX11_premium_90 (hM.k 30 21 rfl (by decide)) (@rfl _ (nI ((rn Q)))) (hM.l 30 100 rfl (by decide)) (by omega) (by decide) ?_
          refine V_aload_n E dX11_premium_91 rfl ?_
          refine V_dup E dX11_premium_92 rfl ?_
          refine V_getJ E fl_X11_226 dX11_premium_93 rfl hM.o ?_
          refine V_iload_n E dX11_premium_96 rfl ?_
          refine V_i2l E dX11_premium_97 rfl ?_
          refine V_ladd E dX11_premium_98 ?_
          refine V_cvl (y := lN ((pd + c))) (ll_add (a := pd) (b := c) hp (li_of (@rfl _ (nI (c))) (by omega))) ?_
          refine V_putJ E fl_X11_226 dX11_premium_99 rfl hM.o rfl ?_
          refine V_iconst (v := 0) E dX11_premium_102 (by decide) ?_
          refine V_istore E dX11_premium_103 (by decide) rfl ?_
          rw [ts, tc] at E R
          have hg3 : vG A s ≤ 3 := h3.2.2.2.1
          have loop : ∀ k p f h, p + k = 20 → ((∀ m, m < p → f (20 * rn Q + m) = nI (gmN A s m) ∧ h (20 * rn Q + m) = nI (plN A s m)) ∧ ∀ j, j < 20 * rn Q → f j = aI S 32 j ∧ h j = aI S 33 j) → V X 105 [some (.ref (0)), some (.int (nI (s))), some (.int (nI (c))), some (.int (nI (rn Q))), some (.int (nI (p))), none] [] (mP2 S (rn Q) td c (vG A s) pd f h) 0 0 := by
            intro k
            induction k with
            | zero =>
              intro p f h hp hh
              have ep : p = 20 := by omega
              subst ep
              have ef := mP2_q S (rn Q) td c (vG A s) pd f h
              refine V_iload E dX11_premium_105 rfl ?_
              refine V_bipush (v := 20) E dX11_premium_107 (by decide) ?_
              refine V_ge_yes (a := 20) (b := 20) (tgt := 156) E dX11_premium_109 (by decide) (@rfl _ (nI (20))) (rfl : (20 : Int32) = nI 20) (by omega) (by omega) ?_
              refine V_aload_n E dX11_premium_156 rfl ?_
              refine V_iload_n E dX11_premium_157 rfl ?_
              refine V_aload_n E dX11_premium_158 rfl ?_
              refine V_aload_n E dX11_premium_159 rfl ?_
              refine V_getI E fl_X11_159 dX11_premium_160 rfl hM.o ?_
              refine V_cvi ((ef.1 0 (by decide) (by decide)).trans ht) ?_
              refine V_callV E (cm_inForce (x_l X) (d + 1) (mP2 S (rn Q) td c (vG A s) pd f h) B hB hM (hV.fq ef) td (by omega)) ml_X11_235 mv_X11_inForce hM.o dX11_premium_163 rfl (by simp [Value.category]) (by omega) (by omega) (by omega) (fun r S2 hp => ?_)
              obtain ⟨rfl, hS2⟩ := hp
              obtain rfl := hS2.symm
              refine V_callV E (cm_partPremium (x_l X) d (mP2 S (rn Q) td c (vG A s) pd f h) A t hO B hB hM (hV.fq ef) s (vG A s) c (rn Q) hs hdr hg3 (by omega) g34 (inF B td) cy_inF (by rw [mP2_r29, va_up_self]) (by rw [mP2_r30, va_up_self]) (fun m hm => by rw [mP2_r32]; exact (hh.1 m hm).1) (fun m hm => by rw [mP2_r33]; exact (hh.1 m hm).2)) ml_X11_238 mv_X11_partPremium hM.o dX11_premium_166 rfl (by simp [Value.category]) (by omega) (by omega) (by omega) (fun r S5 hp => ?_)
              obtain ⟨rfl, hpf, hsh, hwh⟩ := hp
              refine V_istore E dX11_premium_169 (by decide) rfl ?_
              refine V_iconst (v := 0) E dX11_premium_171 (by decide) ?_
              refine V_istore E dX11_premium_172 (by decide) rfl ?_
              have hl20 := lfd_le (g := gmN A s) (sh := (shr A B s (vG A s) (inF B td) c)) (h := fun _ => 0) (fi := 1) (td := td) (x := rn Q) (L := L)
              have lp : ∀ k e S6 M k1 n1, e + k = cn (gmN A s) 20 → (M ≤ 20 ∧ cn (gmN A s) M = e ∧ MLd S6 (lfd (gmN A s) (shr A B s (vG A s) (inF B td) c) (fun _ => 0) 1 td (rn Q) L M) ∧ MQf S5 S6 ∧ (∀ g, 28 ≤ g → g ≤ 33 → aI S6 g = aI S5 g) ∧ aJ S6 14 = aJ S5 14 ∧ aI S6 40 = aI S5 40 ∧ (∀ m, m < 20 → ¬ gmN A s m = 0 → cn (gmN A s) m < e → aI S6 34 (20 * rn Q + m) = nI ((shr A B s (vG A s) (inF B td) c) m)) ∧ (∀ j, j < 20 * rn Q → aI S6 34 j = aI S 34 j) ∧ fI S6 0 2 = nI (rn Q + 1) ∧ fJ S6 0 5 = lN (pd + c)) → k1 = mK (en (lfd (gmN A s) (shr A B s (vG A s) (inF B td) c) (fun _ => 0) 1 td (rn Q) L M)) - mK (en L) → n1 = mN (en (lfd (gmN A s) (shr A B s (vG A s) (inF B td) c) (fun _ => 0) 1 td (rn Q) L M)) - mN (en L) → V X 174 [some (.ref (0)), some (.int (nI (s))), some (.int (nI (c))), some (.int (nI (rn Q))), some (.int (nI (cn (gmN A s) 20))), some (.int (nI (e)))] [] S6 k1 n1 := by
                intro k
                induction k with
                | zero =>
                  intro e S6 M k1 n1 he hh2 hk1 hn1
                  have c20 := cn_le (gmN A s) 20
                  obtain ⟨i1, i2, i3, i4, i5, i6, i7, i8, i9, i10, i11⟩ := hh2
                  have hM := i4.2.2.1 (hpf.q.2.2.1 (ef.2.2.1 hM))
                  have e20 : (lfd (gmN A s) (shr A B s (vG A s) (inF B td) c) (fun _ => 0) 1 td (rn Q) L 20) = (lfd (gmN A s) (shr A B s (vG A s) (inF B td) c) (fun _ => 0) 1 td (rn Q) L M) := lfd_cn i1 (by omega)
                  rw [← e20] at i3 hk1 hn1
                  refine V_iload E dX11_premium_174 rfl ?_
                  refine V_iload E dX11_premium_176 rfl ?_
                  refine V_ge_yes (a := e) (b := cn (gmN A s) 20) (tgt := 232) E dX11_premium_178 (by decide) (@rfl _ (nI (e))) (@rfl _ (nI (cn (gmN A s) 20))) (by omega) (by omega) ?_
                  refine V_iload_n E dX11_premium_232 rfl ?_
                  exact V_iret E R dX11_premium_233 rfl (Nat.le_of_eq hk1) (Nat.le_of_eq hn1) (Or.inl ⟨⟨⟨hc6, by rw [ts]; exact g15⟩, w25, g34⟩, rfl, i3, hR.new i10 (fun j hj => by rw [i5 28 (by decide) (by decide), hpf.2.2.2.2.2.1 28 (by decide) (by decide) (by decide), mP2_r28, va_up_ne _ _ hj]) (by rw [i5 28 (by decide) (by decide), hpf.2.2.2.2.2.1 28 (by decide) (by decide) (by decide), mP2_r28, va_up_self]) (fun j hj => by rw [i5 29 (by decide) (by decide), hpf.2.2.2.2.2.1 29 (by decide) (by decide) (by decide), mP2_r29, va_up_ne _ _ hj]) (by rw [i5 29 (by decide) (by decide), hpf.2.2.2.2.2.1 29 (by decide) (by decide) (by decide), mP2_r29, va_up_self]) (fun j hj => by rw [i5 30 (by decide) (by decide), hpf.2.2.2.2.2.1 30 (by decide) (by decide) (by decide), mP2_r30, va_up_ne _ _ hj]) (by rw [i5 30 (by decide) (by decide), hpf.2.2.2.2.2.1 30 (by decide) (by decide) (by decide), mP2_r30, va_up_self]) (fun j hj => by rw [i5 31 (by decide) (by decide), hpf.2.2.2.2.2.2.1, va_up_ne _ _ hj, mP2_o _ _ _ _ _ _ _ _ (Or.inl rfl)]) (by rw [i5 31 (by decide) (by decide), hpf.2.2.2.2.2.2.1, va_up_self]) (fun j hj => by rw [i5 32 (by decide) (by decide), hpf.2.2.2.2.2.1 32 (by decide) (by decide) (by decide), mP2_r32]; exact (hh.2 j hj).1) (fun m hm => by rw [i5 32 (by decide) (by decide), hpf.2.2.2.2.2.1 32 (by decide) (by decide) (by decide), mP2_r32]; exact (hh.1 m hm).1) (fun j hj => by rw [i5 33 (by decide) (by decide), hpf.2.2.2.2.2.1 33 (by decide) (by decide) (by decide), mP2_r33]; exact (hh.2 j hj).2) (fun m hm => by rw [i5 33 (by decide) (by decide), hpf.2.2.2.2.2.1 33 (by decide) (by decide) (by decide), mP2_r33]; exact (hh.1 m hm).2) i9 (fun m hm hg => i8 m hm hg (by have := cn_lt hm hg; omega)), i11, (ef.trans hpf.q).trans i4⟩)
                | succ k ih =>
                  intro e S6 M k1 n1 he hh2 hk1 hn1
                  obtain ⟨i1, i2, i3, i4, i5, i6, i7, i8, i9, i10, i11⟩ := hh2
                  have hM := i4.2.2.1 (hpf.q.2.2.1 (ef.2.2.1 hM))
                  obtain ⟨m, m1, m2, m3⟩ := cn_ex (g := gmN A s) (N := 20) (j := e) (by omega)
                  have eM : (lfd (gmN A s) (shr A B s (vG A s) (inF B td) c) (fun _ => 0) 1 td (rn Q) L M) = (lfd (gmN A s) (shr A B s (vG A s) (inF B td) c) (fun _ => 0) 1 td (rn Q) L m) := lfd_at (by omega) m2
                  rw [eM] at i3 hk1 hn1
                  have c20 := cn_le (gmN A s) 20
                  have hshm := shr_le (B := B) (q := vG A s) (o := (inF B td)) (c := c) hdr m1
                  refine V_iload E dX11_premium_174 rfl ?_
                  refine V_iload E dX11_premium_176 rfl ?_
                  refine V_ge_no (a := e) (b := cn (gmN A s) 20) (tgt := 232) E dX11_premium_178 (by decide) (@rfl _ (nI (e))) (@rfl _ (nI (cn (gmN A s) 20))) (by omega) (by omega) ?_
                  refine V_aload_n E dX11_premium_181 rfl ?_
                  refine V_getR E fl_X11_78 dX11_premium_182 rfl hM.o (hM.r 34 (by decide)) ?_
                  refine V_bipush (v := 20) E dX11_premium_185 (by decide) ?_
                  refine V_iload_n E dX11_premium_187 rfl ?_
                  refine V_imul E dX11_premium_188 ?_
                  refine V_aload_n E dX11_premium_189 rfl ?_
                  refine V_getR E fl_X11_96 dX11_premium_190 rfl hM.o (hM.r 40 (by decide)) ?_
                  refine V_iload E dX11_premium_193 rfl ?_
                  refine V_ia (j := e) E dX11_premium_195 (hM.k 40 21 rfl (by decide)) (@rfl _ (nI (e))) (hM.l 40 20 rfl (by decide)) (by omega) (by decide) ?_
                  refine V_cvi (y := nI m) ((congrFun i7 e).trans (by rw [← m3]; exact hwh m m1 m2)) ?_
                  refine V_iadd E dX11_premium_196 ?_
                  refine V_aload_n E dX11_premium_197 rfl ?_
                  refine V_getR E fl_X11_36 dX11_premium_198 rfl hM.o (hM.r 14 (by decide)) ?_
                  refine V_iload E dX11_premium_201 rfl ?_
                  refine V_la (j := e) E dX11_premium_203 (hM.k 14 22 rfl (by decide)) (@rfl _ (nI (e))) (hM.l 14 60 rfl (by decide)) (by omega) (by decide) ?_
                  refine V_cvl (y := lN ((shr A B s (vG A s) (inF B td) c) m)) ((congrFun i6 e).trans (by rw [← m3]; exact hsh m m1 m2)) ?_
                  refine V_l2i E dX11_premium_204 rfl ?_
                  refine V_cvi (y := nI ((shr A B s (vG A s) (inF B td) c) m)) (il_of (@rfl _ (lN ((shr A B s (vG A s) (inF B td) c) m)))) ?_
                  refine V_ias (j := ((20 * rn Q) + m)) E dX11_premium_205 (hM.k 34 21 rfl (by decide)) (ni_add (a := (20 * rn Q)) (b := m) (ni_mul (a := 20) (b := rn Q) (rfl : (20 : Int32) = nI 20) (@rfl _ (nI (rn Q)))) (@rfl _ (nI (m)))) (hM.l 34 2000 rfl (by decide)) (by omega) (by decide) ?_
                  have el : (lfd (gmN A s) (shr A B s (vG A s) (inF B td) c) (fun _ => 0) 1 td (rn Q) L (m + 1)) = aEnt (lfd (gmN A s) (shr A B s (vG A s) (inF B td) c) (fun _ => 0) 1 td (rn Q) L m) td (rn Q) m (nI ((shr A B s (vG A s) (inF B td) c) m) - nI 0) := lfd_1 m2 (Or.inl rfl)
                  have een : en (lfd (gmN A s) (shr A B s (vG A s) (inF B td) c) (fun _ => 0) 1 td (rn Q) L (m + 1)) = en (lfd (gmN A s) (shr A B s (vG A s) (inF B td) c) (fun _ => 0) 1 td (rn Q) L m) + 1 := by rw [el]; rfl
                  have o1 := mK_mono (hl20 m).1
                  have o2 := mN_mono (hl20 m).1
                  have o3 := mK_mono (m := en (lfd (gmN A s) (shr A B s (vG A s) (inF B td) c) (fun _ => 0) 1 td (rn Q) L (m + 1))) (n := en (lfd (gmN A s) (shr A B s (vG A s) (inF B td) c) (fun _ => 0) 1 td (rn Q) L 20)) (en_lfd_mono (by omega))
                  have o4 := mN_mono (m := en (lfd (gmN A s) (shr A B s (vG A s) (inF B td) c) (fun _ => 0) 1 td (rn Q) L (m + 1))) (n := en (lfd (gmN A s) (shr A B s (vG A s) (inF B td) c) (fun _ => 0) 1 td (rn Q) L 20)) (en_lfd_mono (by omega))
                  have o5 := mK_mono (m := en (lfd (gmN A s) (shr A B s (vG A s) (inF B td) c) (fun _ => 0) 1 td (rn Q) L m)) (n := en (lfd (gmN A s) (shr A B s (vG A s) (inF B td) c) (fun _ => 0) 1 td (rn Q) L (m + 1))) (by omega)
                  have o6 := mN_mono (m := en (lfd (gmN A s) (shr A B s (vG A s) (inF B td) c) (fun _ => 0) 1 td (rn Q) L m)) (n := en (lfd (gmN A s) (shr A B s (vG A s) (inF B td) c) (fun _ => 0) 1 td (rn Q) L (m + 1))) (by omega)
                  rw [een] at o3 o4 o5 o6
                  have q1 : mK (en (lfd (gmN A s) (shr A B s (vG A s) (inF B td) c) (fun _ => 0) 1 td (rn Q) L m) + 1) - mK (en (lfd (gmN A s) (shr A B s (vG A s) (inF B td) c) (fun _ => 0) 1 td (rn Q) L m)) = 4 * (gnB 256 (en (lfd (gmN A s) (shr A B s (vG A s) (inF B td) c) (fun _ => 0) 1 td (rn Q) L m) + 1) - gnB 256 (en (lfd (gmN A s) (shr A B s (vG A s) (inF B td) c) (fun _ => 0) 1 td (rn Q) L m))) := by unfold mK; omega
                  have q2 : mN (en (lfd (gmN A s) (shr A B s (vG A s) (inF B td) c) (fun _ => 0) 1 td (rn Q) L m) + 1) - mN (en (lfd (gmN A s) (shr A B s (vG A s) (inF B td) c) (fun _ => 0) 1 td (rn Q) L m)) = 4 * (512 * 2 ^ gnB 256 (en (lfd (gmN A s) (shr A B s (vG A s) (inF B td) c) (fun _ => 0) 1 td (rn Q) L m) + 1) - 512 * 2 ^ gnB 256 (en (lfd (gmN A s) (shr A B s (vG A s) (inF B td) c) (fun _ => 0) 1 td (rn Q) L m))) := by unfold mN; omega
                  have hroomk : k1 + 4 * (gnB 256 (en (lfd (gmN A s) (shr A B s (vG A s) (inF B td) c) (fun _ => 0) 1 td (rn Q) L m) + 1) - gnB 256 (en (lfd (gmN A s) (shr A B s (vG A s) (inF B td) c) (fun _ => 0) 1 td (rn Q) L m))) ≤ mK (en (lfd (gmN A s) (shr A B s (vG A s) (inF B td) c) (fun _ => 0) 1 td (rn Q) L 20)) - mK (en L) := by omega
                  have hroomn : n1 + 4 * (512 * 2 ^ gnB 256 (en (lfd (gmN A s) (shr A B s (vG A s) (inF B td) c) (fun _ => 0) 1 td (rn Q) L m) + 1) - 512 * 2 ^ gnB 256 (en (lfd (gmN A s) (shr A B s (vG A s) (inF B td) c) (fun _ => 0) 1 td (rn Q) L m))) ≤ mN (en (lfd (gmN A s) (shr A B s (vG A s) (inF B td) c) (fun _ => 0) 1 td (rn Q) L 20)) - mN (en L) := by omega
                  refine V_aload_n E dX11_premium_206 rfl ?_
                  refine V_iload_n E dX11_premium_207 rfl ?_
                  refine V_aload_n E dX11_premium_208 rfl ?_
                  refine V_getR E fl_X11_96 dX11_premium_209 rfl hM.o (hM.r 40 (by decide)) ?_
                  refine V_iload E dX11_premium_212 rfl ?_
                  refine V_ia (j := e) E dX11_premium_214 (hM.k 40 21 rfl (by decide)) (@rfl _ (nI (e))) (hM.l 40 20 rfl (by decide)) (by omega) (by decide) ?_
                  refine V_cvi (y := nI m) (show up2 (aI S6) 34 (20 * rn Q + m) (nI ((shr A B s (vG A s) (inF B td) c) m)) 40 e = nI m from by rw [up2_ne (by decide)]; exact ((congrFun i7 e).trans (by rw [← m3]; exact hwh m m1 m2))) ?_
                  refine V_aload_n E dX11_premium_215 rfl ?_
                  refine V_getR E fl_X11_36 dX11_premium_216 rfl hM.o (hM.r 14 (by decide)) ?_
                  refine V_iload E dX11_premium_219 rfl ?_
                  refine V_la (j := e) E dX11_premium_221 (hM.k 14 22 rfl (by decide)) (@rfl _ (nI (e))) (hM.l 14 60 rfl (by decide)) (by omega) (by decide) ?_
                  refine V_cvl (y := lN ((shr A B s (vG A s) (inF B td) c) m)) ((congrFun i6 e).trans (by rw [← m3]; exact hsh m m1 m2)) ?_
                  refine V_l2i E dX11_premium_222 rfl ?_
                  refine V_cvi (y := nI ((shr A B s (vG A s) (inF B td) c) m)) (il_of (@rfl _ (lN ((shr A B s (vG A s) (inF B td) c) m)))) ?_
                  refine V_callV E (cm_enter (x_l X) d (sA S6 34 (20 * rn Q + m) (nI ((shr A B s (vG A s) (inF B td) c) m))) hM (lfd (gmN A s) (shr A B s (vG A s) (inF B td) c) (fun _ => 0) 1 td (rn Q) L m) (MLd.A (by decide) i3) (by have := (hl20 m).2; omega) td (((i4.1 0 (by decide) (by decide)).trans ((hpf.q.1 0 (by decide) (by decide)).trans (ef.1 0 (by decide) (by decide)))).trans ht) (rn Q) m m1 (nI ((shr A B s (vG A s) (inF B td) c) m))) ml_X11_241 mv_X11_enter hM.o dX11_premium_223 rfl (by simp [Value.category]) (by omega) hroomk hroomn (fun r S8 hp => ?_)
                  obtain ⟨rfl, j1, j2⟩ := hp
                  refine V_iinc (v := nI (e + 1)) E dX11_premium_226 rfl (ni_inc (a := e) (z := 1) (@rfl _ (nI (e)))) (by decide) rfl ?_
                  refine V_goto (tgt := 174) E dX11_premium_229 (by decide) ?_
                  have j3 := j2.2.2.2.2.2
                  refine ih (e + 1) S8 (m + 1) _ _ (by omega) ⟨by omega, by rw [cn_1 m2]; omega, (by rw [el, nI_s0]; exact j1), (i4.trans (MQf.A (by decide))).trans j2.q, (fun g ga gb => (j3.aI (by omega)).trans ((show up2 (aI S6) 34 (20 * rn Q + m) (nI ((shr A B s (vG A s) (inF B td) c) m)) g = aI S6 g from up2_row (by omega)).trans (i5 g ga gb))), (j3.aJ (by omega)).trans i6, (j3.aI (by omega)).trans ((show up2 (aI S6) 34 (20 * rn Q + m) (nI ((shr A B s (vG A s) (inF B td) c) m)) 40 = aI S6 40 from up2_row (by decide)).trans i7), ?_, ?_, (j2.1 2 (by decide)).trans i10, (congrFun j2.2.1 5).trans i11⟩ (by rw [een]; omega) (by rw [een]; omega)
                  · intro z hz hgz hlt
                    rw [j3.aI (by omega)]
                    show up2 (aI S6) 34 (20 * rn Q + m) (nI ((shr A B s (vG A s) (inF B td) c) m)) 34 (20 * rn Q + z) = _
                    by_cases ez : z = m
                    · subst ez; rw [up2_at]
                    · rw [up2_nk (by omega)]; exact i8 z hz hgz (by rcases Nat.lt_or_ge (cn (gmN A s) z) e with a | a; exact a; exact absurd (cn_inj hgz m2 (by omega)) ez)
                  · intro j hj
                    rw [j3.aI (by omega)]
                    show up2 (aI S6) 34 (20 * rn Q + m) (nI ((shr A B s (vG A s) (inF B td) c) m)) 34 j = _
                    rw [up2_nk (by omega)]; exact i9 j hj
              refine V_lo (lo' := [some (.ref (0)), some (.int (nI (s))), some (.int (nI (c))), some (.int (nI (rn Q))), some (.int (nI (cn (gmN A s) 20))), some (.int (0))]) (And.intro rfl (And.intro rfl (And.intro rfl (And.intro rfl (And.intro rfl (And.intro rfl True.intro)))))) ?_
              exact lp (cn (gmN A s) 20) 0 S5 0 _ _ (by omega) ⟨by omega, rfl, MLd.p hpf (mP2_L S (rn Q) td c (vG A s) pd f h hL), MQf.rfl' S5, fun _ _ _ => rfl, rfl, rfl, fun m _ _ hlt => absurd hlt (Nat.not_lt_zero _), fun j hj => by rw [hpf.2.2.2.2.2.1 34 (by decide) (by decide) (by decide), mP2_o _ _ _ _ _ _ _ _ (Or.inr rfl)], by rw [hpf.2.2.2.1]; exact mP2_n S (rn Q) td c (vG A s) pd f h, by rw [hpf.2.2.2.2.1]; exact mP2_p S (rn Q) td c (vG A s) pd f h⟩ (Nat.sub_self _).symm (Nat.sub_self _).symm
            | succ k ih =>
              intro p f h hp hh
              have ef := mP2_q S (rn Q) td c (vG A s) pd f h
              refine V_iload E dX11_premium_105 rfl ?_
              refine V_bipush (v := 20) E dX11_premium_107 (by decide) ?_
              refine V_ge_no (a := p) (b := 20) (tgt := 156) E dX11_premium_109 (by decide) (@rfl _ (nI (p))) (rfl : (20 : Int32) = nI 20) (by omega) (by omega) ?_
              refine V_aload_n E dX11_premium_112 rfl ?_
              refine V_getR E fl_X11_72 dX11_premium_113 rfl hM.o (hM.r 32 (by decide)) ?_
              refine V_bipush (v := 20) E dX11_premium_116 (by decide) ?_
              refine V_iload_n E dX11_premium_118 rfl ?_
              refine V_imul E dX11_premium_119 ?_
              refine V_iload E dX11_premium_120 rfl ?_
              refine V_iadd E dX11_premium_122 ?_
              refine V_aload_n E dX11_premium_123 rfl ?_
              refine V_iload_n E dX11_premium_124 rfl ?_
              refine V_iload E dX11_premium_125 rfl ?_
              refine V_callV E (cm_gramsOf (x_l X) (d + 1) (mP2 S (rn Q) td c (vG A s) pd f h) A t hO hM (hA.fq ef) s hs p (by omega)) ml_X11_229 mv_X11_gramsOf hM.o dX11_premium_127 rfl (by simp [Value.category]) (by omega) (by omega) (by omega) (fun r S2 hp => ?_)
              obtain ⟨rfl, hS2⟩ := hp
              obtain rfl := hS2.symm
              refine V_ias (j := ((20 * rn Q) + p)) E dX11_premium_130 (hM.k 32 21 rfl (by decide)) (ni_add (a := (20 * rn Q)) (b := p) (ni_mul (a := 20) (b := rn Q) (rfl : (20 : Int32) = nI 20) (@rfl _ (nI (rn Q)))) (@rfl _ (nI (p)))) (hM.l 32 2000 rfl (by decide)) (by omega) (by decide) ?_
              refine V_cvS (mP2_32 S (rn Q) td c (vG A s) pd f h (20 * rn Q + p) (nI (gmN A s p))) ?_
              refine V_aload_n E dX11_premium_131 rfl ?_
              refine V_getR E fl_X11_75 dX11_premium_132 rfl hM.o (hM.r 33 (by decide)) ?_
              refine V_bipush (v := 20) E dX11_premium_135 (by decide) ?_
              refine V_iload_n E dX11_premium_137 rfl ?_
              refine V_imul E dX11_premium_138 ?_
              refine V_iload E dX11_premium_139 rfl ?_
              refine V_iadd E dX11_premium_141 ?_
              refine V_aload_n E dX11_premium_142 rfl ?_
              refine V_iload_n E dX11_premium_143 rfl ?_
              refine V_iload E dX11_premium_144 rfl ?_
              refine V_callV E (cm_plotsOf (x_l X) (d + 1) (mP2 S (rn Q) td c (vG A s) pd (va_up f (20 * rn Q + p) (nI (gmN A s p))) h) A t hO hM (hA.fq (mP2_q S (rn Q) td c (vG A s) pd _ h)) s hs p (by omega)) ml_X11_232 mv_X11_plotsOf hM.o dX11_premium_146 rfl (by simp [Value.category]) (by omega) (by omega) (by omega) (fun r S2 hp => ?_)
              obtain ⟨rfl, hS2⟩ := hp
              obtain rfl := hS2.symm
              refine V_ias (j := ((20 * rn Q) + p)) E dX11_premium_149 (hM.k 33 21 rfl (by decide)) (ni_add (a := (20 * rn Q)) (b := p) (ni_mul (a := 20) (b := rn Q) (rfl : (20 : Int32) = nI 20) (@rfl _ (nI (rn Q)))) (@rfl _ (nI (p)))) (hM.l 33 2000 rfl (by decide)) (by omega) (by decide) ?_
              refine V_cvS (mP2_33 S (rn Q) td c (vG A s) pd _ h (20 * rn Q + p) (nI (plN A s p))) ?_
              refine V_iinc (v := nI (p + 1)) E dX11_premium_150 rfl (ni_inc (a := p) (z := 1) (@rfl _ (nI (p)))) (by decide) rfl ?_
              refine V_goto (tgt := 105) E dX11_premium_153 (by decide) ?_
              exact ih (p + 1) _ _ (by omega) ⟨fun m hm => by by_cases em : m = p; subst em; rw [va_up_self, va_up_self]; exact ⟨rfl, rfl⟩; rw [va_up_ne _ _ (by omega), va_up_ne _ _ (by omega)]; exact hh.1 m (by omega), fun j hj => by rw [va_up_ne _ _ (by omega), va_up_ne _ _ (by omega)]; exact hh.2 j hj⟩
          refine V_lo (lo' := [some (.ref (0)), some (.int (nI (s))), some (.int (nI (c))), some (.int (nI (rn Q))), some (.int (0)), none]) (And.intro rfl (And.intro rfl (And.intro rfl (And.intro rfl (And.intro rfl True.intro))))) ?_
          refine V_cvS (S' := mP2 S (rn Q) td c (vG A s) pd (aI S 32) (aI S 33)) ?_ (loop 20 0 _ _ (by omega) ⟨fun m hm => absurd hm (Nat.not_lt_zero _), fun j hj => ⟨rfl, rfl⟩⟩)
          show mP1 S (rn Q) td c (vG A s) pd = rA (rA (mP1 S (rn Q) td c (vG A s) pd) 32 (aI S 32)) 33 (aI S 33)
          have r32 : aI S 32 = aI (mP1 S (rn Q) td c (vG A s) pd) 32 := by show _ = up2 (up2 (up2 (aI S) 28 (rn Q) (nI td)) 29 (rn Q) (nI c)) 30 (rn Q) (nI (vG A s)) 32; rw [up2_row (by decide), up2_row (by decide), up2_row (by decide)]
          have r33 : aI S 33 = aI (mP1 S (rn Q) td c (vG A s) pd) 33 := by show _ = up2 (up2 (up2 (aI S) 28 (rn Q) (nI td)) 29 (rn Q) (nI c)) 30 (rn Q) (nI (vG A s)) 33; rw [up2_row (by decide), up2_row (by decide), up2_row (by decide)]
          rw [r32, r33, rA_self, rA_self]
