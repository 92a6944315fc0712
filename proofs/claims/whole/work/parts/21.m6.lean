theorem cm_day (l : Launch) (d : Nat) (S : GS) (A : AV) (t : Nat) (hO : VOK A t) (hM : MOK S) (hV : MVes S A) (ht : t + 1 ≤ 600) (td : Nat) (hT : fI S 0 0 = nI td) (x : Int32) (ra : Nat) (hra : ra ≤ 1) : GC l (d + 2) yX11_day cX11_day 7 (some FieldType.int) [.ref 0, .int x, .int (nI ra)] S (fun r S2 => (wi_ x 0 12 ∧ r = some (.int (nI (td + 1))) ∧ ∃ f g h, S2 = sI (R3 S f g h) 0 0 (nI (td + 1)) ∧ MVes S2 (aDayN A (tn x) ra (vn A))) ∨ (¬ wi_ x 0 12 ∧ r = some (.int (-1)) ∧ S2 = S)) (0) (0) := by
  refine GC.ofV (by decide) (Nat.le_of_ble_eq_true rfl) (fun X hl E R hnm => ?_)
  subst hl
  have E : En X RX11 cX11_day 7 (d + 2) (0) (0) := E
  have R : Rt X (some FieldType.int) (fun r S2 => (wi_ x 0 12 ∧ r = some (.int (nI (td + 1))) ∧ ∃ f g h, S2 = sI (R3 S f g h) 0 0 (nI (td + 1)) ∧ MVes S2 (aDayN A (tn x) ra (vn A))) ∨ (¬ wi_ x 0 12 ∧ r = some (.int (-1)) ∧ S2 = S)) := R
  have hn := hO.1
  refine V_iload_n E dX11_day_0 rfl ?_
  refine V_iconst (v := 0) E dX11_day_1 (by decide) ?_
  refine V_bipush (v := 12) E dX11_day_2 (by decide) ?_
  refine V_callS E (cm_in (x_l X) 0 S _ _ _) ml_X11_115 ms_X11_in dX11_day_4 rfl (by simp [Value.category]) (by omega) (by omega) (by omega) (fun r S2 hp => ?_)
  obtain ⟨rfl, hS2⟩ := hp
  obtain rfl := hS2.symm
  refine V_ifne_b (tgt := 12) E dX11_day_7 (by decide) (fun hc7 => ?_) (fun hc7 => ?_)
  · have w7 : wi_ x 0 12 := (wi_iff (by decide) (by decide)).mp hc7
    obtain ⟨su, rfl, tsu, lsu, usu, -⟩ := wi_nat w7 (by omega)
    refine V_iconst (v := 0) E dX11_day_12 (by decide) ?_
    refine V_istore_n E dX11_day_13 (by decide) rfl ?_
    refine V_cvS (R3_self S) ?_
    have loop : ∀ m p f g h, p + m = vn A → MVes (R3 S f g h) (aDayN A su ra p) → V X 14 [some (.ref (0)), some (.int (nI (su))), some (.int (nI (ra))), some (.int (nI (p))), none, none, none] [] (R3 S f g h) 0 0 := by
      intro m
      induction m with
      | zero =>
        intro p f g h hp hh
        refine V_iload_n E dX11_day_14 rfl ?_
        refine V_aload_n E dX11_day_15 rfl ?_
        refine V_getI E fl_X11_111 dX11_day_16 rfl hM.o ?_
        refine V_ge_yes (a := p) (b := (vn A)) (tgt := 218) E dX11_day_19 (by decide) (@rfl _ (nI (p))) hV.n (by omega) (by omega) ?_
        refine V_aload_n E dX11_day_218 rfl ?_
        refine V_dup E dX11_day_219 rfl ?_
        refine V_getI E fl_X11_159 dX11_day_220 rfl hM.o ?_
        refine V_iconst (v := 1) E dX11_day_223 (by decide) ?_
        refine V_iadd E dX11_day_224 ?_
        refine V_cvi (y := nI ((td + 1))) (ni_add (a := td) (b := 1) hT (rfl : (1 : Int32) = nI 1)) ?_
        refine V_putI E fl_X11_159 dX11_day_225 rfl hM.o ⟨rfl, rfl⟩ rfl ?_
        refine V_aload_n E dX11_day_228 rfl ?_
        refine V_getI E fl_X11_159 dX11_day_229 rfl hM.o ?_
        exact V_iret E R dX11_day_232 rfl (Nat.le_refl _) (Nat.le_refl _) (Or.inl ⟨w7, by rw [fI_sI, up2_at], f, g, h, rfl, by rw [tsu, ← show p = vn A by omega]; exact hh⟩)
      | succ m ih =>
        intro p f g h hp hh
        have hOp : VOK (aDayN A su ra p) (t + 1) := hO.dayN ht (by omega)
        have h3 := hO.2.2.1 p (by omega)
        have h2 := hO.2.1
        have hwv : vwt A p = vdry A p + vW A p := rfl
        have k6 := hh.pK (by omega)
        have f8 := hh.row8 (by omega)
        have f9 := hh.row9 (by omega)
        have f10 := hh.row10 (by omega)
        have hsu : su * vdry A p ≤ 12000000 := Nat.mul_le_mul (show su ≤ 12 by omega) h3.2.2.2.2.2.1
        rcases (show vK A p = 0 ∨ vK A p = 1 ∨ vK A p = 2 ∨ vK A p = 3 by omega) with hK | hK | hK | hK
        · refine V_iload_n E dX11_day_14 rfl ?_
          refine V_aload_n E dX11_day_15 rfl ?_
          refine V_getI E fl_X11_111 dX11_day_16 rfl hM.o ?_
          refine V_ge_no (a := p) (b := (vn A)) (tgt := 218) E dX11_day_19 (by decide) (@rfl _ (nI (p))) hV.n (by omega) (by omega) ?_
          refine V_aload_n E dX11_day_22 rfl ?_
          refine V_iload_n E dX11_day_23 rfl ?_
          refine V_callV E (cm_weight (x_l X) d (R3 S f g h) (aDayN A su ra p) (t + 1) hOp hM hh p (by omega)) ml_X11_123 mv_X11_weight hM.o dX11_day_24 rfl (by simp [Value.category]) (by omega) (by omega) (by omega) (fun r S2 hp => ?_)
          obtain ⟨rfl, hS2⟩ := hp
          obtain rfl := hS2.symm
          refine V_if_le (tgt := 34) E dX11_day_27 (by decide) (fun h27 => ?_) (fun h27 => ?_)
          · have hz : vwt A p = 0 := by rw [aDayN_wt] at h27; have := (nI_leI (a := vwt A p) (b := 0) (by omega) (by omega)).mp h27; omega
            refine V_iconst (v := 0) E dX11_day_34 (by decide) ?_
            refine V_istore E dX11_day_35 (by decide) rfl ?_
            refine V_aload_n E dX11_day_37 rfl ?_
            refine V_getR E fl_X11_9 dX11_day_38 rfl hM.o (hM.r 6 (by decide)) ?_
            refine V_iload_n E dX11_day_41 rfl ?_
            refine V_ia (j := p) E dX11_day_42 (hM.k 6 21 rfl (by decide)) (@rfl _ (nI (p))) (hM.l 6 100 rfl (by decide)) (by omega) (by decide) ?_
            refine V_iconst (v := 1) E dX11_day_43 (by decide) ?_
            refine V_icmp_ne (tgt := 102) E dX11_day_44 (by decide) (fun _ => ?_) (fun hx => absurd hx (fun e => absurd (k6.symm.trans e) (by rw [hK]; decide)))
            refine V_aload_n E dX11_day_102 rfl ?_
            refine V_getR E fl_X11_9 dX11_day_103 rfl hM.o (hM.r 6 (by decide)) ?_
            refine V_iload_n E dX11_day_106 rfl ?_
            refine V_ia (j := p) E dX11_day_107 (hM.k 6 21 rfl (by decide)) (@rfl _ (nI (p))) (hM.l 6 100 rfl (by decide)) (by omega) (by decide) ?_
            refine V_if_ne (tgt := 135) E dX11_day_108 (by decide) (fun hx => absurd hx (fun q => q (k6.trans (by rw [hK]; rfl)))) (fun _ => ?_)
            refine V_iload E dX11_day_111 rfl ?_
            refine V_if_eq (tgt := 135) E dX11_day_113 (by decide) (fun _ => ?_) (fun hx => absurd hx (by decide))
            refine V_aload_n E dX11_day_135 rfl ?_
            refine V_getR E fl_X11_9 dX11_day_136 rfl hM.o (hM.r 6 (by decide)) ?_
            refine V_iload_n E dX11_day_139 rfl ?_
            refine V_ia (j := p) E dX11_day_140 (hM.k 6 21 rfl (by decide)) (@rfl _ (nI (p))) (hM.l 6 100 rfl (by decide)) (by omega) (by decide) ?_
            refine V_iconst (v := 2) E dX11_day_141 (by decide) ?_
            refine V_icmp_ne (tgt := 212) E dX11_day_142 (by decide) (fun _ => ?_) (fun hx => absurd hx (fun e => absurd (k6.symm.trans e) (by rw [hK]; decide)))
            refine V_iinc (v := nI (p + 1)) E dX11_day_212 rfl (ni_inc (a := p) (z := 1) (@rfl _ (nI (p)))) (by decide) rfl ?_
            refine V_goto (tgt := 14) E dX11_day_215 (by decide) ?_
            refine V_lo (lo' := [some (.ref (0)), some (.int (nI (su))), some (.int (nI (ra))), some (.int (nI (p + 1))), none, none, none]) (And.intro rfl (And.intro rfl (And.intro rfl (And.intro rfl True.intro)))) ?_
            refine ih (p + 1) _ _ _ (by omega) (hh.dayStep ?_ ?_ ?_)
            · exact (up_0 (by rw [f8, dW, if_neg (by omega)]))
            · exact (up_0 (by rw [f9, dT]; first | rw [if_pos hz] | rw [if_neg hz, if_neg (by omega), if_neg (by omega)]))
            · exact (up_0 (by rw [f10, dM, if_neg (by omega)]))
          · have hz : vwt A p ≠ 0 := fun e => h27 (by rw [aDayN_wt, e]; decide)
            refine V_iconst (v := 1) E dX11_day_30 (by decide) ?_
            refine V_goto (tgt := 35) E dX11_day_31 (by decide) ?_
            refine V_istore E dX11_day_35 (by decide) rfl ?_
            refine V_aload_n E dX11_day_37 rfl ?_
            refine V_getR E fl_X11_9 dX11_day_38 rfl hM.o (hM.r 6 (by decide)) ?_
            refine V_iload_n E dX11_day_41 rfl ?_
            refine V_ia (j := p) E dX11_day_42 (hM.k 6 21 rfl (by decide)) (@rfl _ (nI (p))) (hM.l 6 100 rfl (by decide)) (by omega) (by decide) ?_
            refine V_iconst (v := 1) E dX11_day_43 (by decide) ?_
            refine V_icmp_ne (tgt := 102) E dX11_day_44 (by decide) (fun _ => ?_) (fun hx => absurd hx (fun e => absurd (k6.symm.trans e) (by rw [hK]; decide)))
            refine V_aload_n E dX11_day_102 rfl ?_
            refine V_getR E fl_X11_9 dX11_day_103 rfl hM.o (hM.r 6 (by decide)) ?_
            refine V_iload_n E dX11_day_106 rfl ?_
            refine V_ia (j := p) E dX11_day_107 (hM.k 6 21 rfl (by decide)) (@rfl _ (nI (p))) (hM.l 6 100 rfl (by decide)) (by omega) (by decide) ?_
            refine V_if_ne (tgt := 135) E dX11_day_108 (by decide) (fun hx => absurd hx (fun q => q (k6.trans (by rw [hK]; rfl)))) (fun _ => ?_)
            refine V_iload E dX11_day_111 rfl ?_
            refine V_if_eq (tgt := 135) E dX11_day_113 (by decide) (fun hx => absurd hx (by decide)) (fun _ => ?_)
            refine V_aload_n E dX11_day_116 rfl ?_
            refine V_getR E fl_X11_19 dX11_day_117 rfl hM.o (hM.r 9 (by decide)) ?_
            refine V_iload_n E dX11_day_120 rfl ?_
            refine V_bipush (v := 100) E dX11_day_121 (by decide) ?_
            refine V_aload_n E dX11_day_123 rfl ?_
            refine V_getR E fl_X11_19 dX11_day_124 rfl hM.o (hM.r 9 (by decide)) ?_
            refine V_iload_n E dX11_day_127 rfl ?_
            refine V_ia (j := p) E dX11_day_128 (hM.k 9 21 rfl (by decide)) (@rfl _ (nI (p))) (hM.l 9 100 rfl (by decide)) (by omega) (by decide) ?_
            refine V_iconst (v := 1) E dX11_day_129 (by decide) ?_
            refine V_iadd E dX11_day_130 ?_
            refine V_imin E ml_X11_148 dX11_day_131 (by simp [Value.category]) (by omega) (Nat.le_refl _) (Nat.le_refl _) ?_
            refine V_cvi (y := nI ((min (100) ((vT A p + 1))))) (imin_n (a := 100) (b := (vT A p + 1)) (rfl : (100 : Int32) = nI 100) (ni_add (a := vT A p) (b := 1) (hh.pT (by omega)) (rfl : (1 : Int32) = nI 1)) (by omega) (by omega)) ?_
            refine V_ias (j := p) E dX11_day_134 (hM.k 9 21 rfl (by decide)) (@rfl _ (nI (p))) (hM.l 9 100 rfl (by decide)) (by omega) (by decide) ?_
            refine V_cvS (R3_9 _ _ _ _ _ _) ?_
            refine V_aload_n E dX11_day_135 rfl ?_
            refine V_getR E fl_X11_9 dX11_day_136 rfl hM.o (hM.r 6 (by decide)) ?_
            refine V_iload_n E dX11_day_139 rfl ?_
            refine V_ia (j := p) E dX11_day_140 (hM.k 6 21 rfl (by decide)) (@rfl _ (nI (p))) (hM.l 6 100 rfl (by decide)) (by omega) (by decide) ?_
            refine V_iconst (v := 2) E dX11_day_141 (by decide) ?_
            refine V_icmp_ne (tgt := 212) E dX11_day_142 (by decide) (fun _ => ?_) (fun hx => absurd hx (fun e => absurd (k6.symm.trans e) (by rw [hK]; decide)))
            refine V_iinc (v := nI (p + 1)) E dX11_day_212 rfl (ni_inc (a := p) (z := 1) (@rfl _ (nI (p)))) (by decide) rfl ?_
            refine V_goto (tgt := 14) E dX11_day_215 (by decide) ?_
            refine V_lo (lo' := [some (.ref (0)), some (.int (nI (su))), some (.int (nI (ra))), some (.int (nI (p + 1))), none, none, none]) (And.intro rfl (And.intro rfl (And.intro rfl (And.intro rfl True.intro)))) ?_
            refine ih (p + 1) _ _ _ (by omega) (hh.dayStep ?_ ?_ ?_)
            · exact (up_0 (by rw [f8, dW, if_neg (by omega)]))
            · exact (up_p (by rw [dT, if_neg hz, if_neg (by omega), if_pos hK]))
            · exact (up_0 (by rw [f10, dM, if_neg (by omega)]))
        · refine V_iload_n E dX11_day_14 rfl ?_
          refine V_aload_n E dX11_day_15 rfl ?_
          refine V_getI E fl_X11_111 dX11_day_16 rfl hM.o ?_
          refine V_ge_no (a := p) (b := (vn A)) (tgt := 218) E dX11_day_19 (by decide) (@rfl _ (nI (p))) hV.n (by omega) (by omega) ?_
          refine V_aload_n E dX11_day_22 rfl ?_
          refine V_iload_n E dX11_day_23 rfl ?_
          refine V_callV E (cm_weight (x_l X) d (R3 S f g h) (aDayN A su ra p) (t + 1) hOp hM hh p (by omega)) ml_X11_123 mv_X11_weight hM.o dX11_day_24 rfl (by simp [Value.category]) (by omega) (by omega) (by omega) (fun r S2 hp => ?_)
          obtain ⟨rfl, hS2⟩ := hp
          obtain rfl := hS2.symm
          refine V_if_le (tgt := 34) E dX11_day_27 (by decide) (fun h27 => ?_) (fun h27 => ?_)
          · have hz : vwt A p = 0 := by rw [aDayN_wt] at h27; have := (nI_leI (a := vwt A p) (b := 0) (by omega) (by omega)).mp h27; omega
            refine V_iconst (v := 0) E dX11_day_34 (by decide) ?_
            refine V_istore E dX11_day_35 (by decide) rfl ?_
            refine V_aload_n E dX11_day_37 rfl ?_
            refine V_getR E fl_X11_9 dX11_day_38 rfl hM.o (hM.r 6 (by decide)) ?_
            refine V_iload_n E dX11_day_41 rfl ?_
            refine V_ia (j := p) E dX11_day_42 (hM.k 6 21 rfl (by decide)) (@rfl _ (nI (p))) (hM.l 6 100 rfl (by decide)) (by omega) (by decide) ?_
            refine V_iconst (v := 1) E dX11_day_43 (by decide) ?_
            refine V_icmp_ne (tgt := 102) E dX11_day_44 (by decide) (fun hx => absurd hx (fun q => q (k6.trans (by rw [hK]; rfl)))) (fun _ => ?_)
            refine V_aload_n E dX11_day_47 rfl ?_
            refine V_getR E fl_X11_19 dX11_day_48 rfl hM.o (hM.r 9 (by decide)) ?_
            refine V_iload_n E dX11_day_51 rfl ?_
            refine V_iload E dX11_day_52 rfl ?_
            refine V_if_eq (tgt := 88) E dX11_day_54 (by decide) (fun _ => ?_) (fun hx => absurd hx (by decide))
            refine V_aload_n E dX11_day_88 rfl ?_
            refine V_getR E fl_X11_19 dX11_day_89 rfl hM.o (hM.r 9 (by decide)) ?_
            refine V_iload_n E dX11_day_92 rfl ?_
            refine V_ia (j := p) E dX11_day_93 (hM.k 9 21 rfl (by decide)) (@rfl _ (nI (p))) (hM.l 9 100 rfl (by decide)) (by omega) (by decide) ?_
            refine V_cvi (y := nI (vT A p)) (hh.pT (by omega)) ?_
            refine V_ias (j := p) E dX11_day_94 (hM.k 9 21 rfl (by decide)) (@rfl _ (nI (p))) (hM.l 9 100 rfl (by decide)) (by omega) (by decide) ?_
            refine V_cvS (R3_9 _ _ _ _ _ _) ?_
            refine V_aload_n E dX11_day_95 rfl ?_
            refine V_getR E fl_X11_22 dX11_day_96 rfl hM.o (hM.r 10 (by decide)) ?_
            refine V_iload_n E dX11_day_99 rfl ?_
            refine V_iconst (v := 0) E dX11_day_100 (by decide) ?_
            refine V_zas (j := p) E dX11_day_101 (hM.k 10 24 rfl (by decide)) (@rfl _ (nI (p))) (hM.l 10 100 rfl (by decide)) (by omega) (by decide) ?_
            refine V_cvS (R3_10 _ _ _ _ _ _) ?_
            refine V_aload_n E dX11_day_102 rfl ?_
            refine V_getR E fl_X11_9 dX11_day_103 rfl hM.o (hM.r 6 (by decide)) ?_
            refine V_iload_n E dX11_day_106 rfl ?_
            refine V_ia (j := p) E dX11_day_107 (hM.k 6 21 rfl (by decide)) (@rfl _ (nI (p))) (hM.l 6 100 rfl (by decide)) (by omega) (by decide) ?_
            refine V_if_ne (tgt := 135) E dX11_day_108 (by decide) (fun _ => ?_) (fun hx => absurd hx (fun e => absurd (k6.symm.trans e) (by rw [hK]; decide)))
            refine V_aload_n E dX11_day_135 rfl ?_
            refine V_getR E fl_X11_9 dX11_day_136 rfl hM.o (hM.r 6 (by decide)) ?_
            refine V_iload_n E dX11_day_139 rfl ?_
            refine V_ia (j := p) E dX11_day_140 (hM.k 6 21 rfl (by decide)) (@rfl _ (nI (p))) (hM.l 6 100 rfl (by decide)) (by omega) (by decide) ?_
            refine V_iconst (v := 2) E dX11_day_141 (by decide) ?_
            refine V_icmp_ne (tgt := 212) E dX11_day_142 (by decide) (fun _ => ?_) (fun hx => absurd hx (fun e => absurd (k6.symm.trans e) (by rw [hK]; decide)))
            refine V_iinc (v := nI (p + 1)) E dX11_day_212 rfl (ni_inc (a := p) (z := 1) (@rfl _ (nI (p)))) (by decide) rfl ?_
            refine V_goto (tgt := 14) E dX11_day_215 (by decide) ?_
            refine V_lo (lo' := [some (.ref (0)), some (.int (nI (su))), some (.int (nI (ra))), some (.int (nI (p + 1))), none, none, none]) (And.intro rfl (And.intro rfl (And.intro rfl (And.intro rfl True.intro)))) ?_
            refine ih (p + 1) _ _ _ (by omega) (hh.dayStep ?_ ?_ ?_)
            · exact (up_0 (by rw [f8, dW, if_neg (by omega)]))
            · exact (up_p (by rw [dT]; first | rw [if_pos hz] | rw [if_neg hz, if_pos hK, if_pos hm] | rw [if_neg hz, if_pos hK, if_neg hm]))
            · exact (up_p (by rw [dM, if_pos hK]; rfl))
          · have hz : vwt A p ≠ 0 := fun e => h27 (by rw [aDayN_wt, e]; decide)
            refine V_iconst (v := 1) E dX11_day_30 (by decide) ?_
            refine V_goto (tgt := 35) E dX11_day_31 (by decide) ?_
            refine V_istore E dX11_day_35 (by decide) rfl ?_
            refine V_aload_n E dX11_day_37 rfl ?_
            refine V_getR E fl_X11_9 dX11_day_38 rfl hM.o (hM.r 6 (by decide)) ?_
            refine V_iload_n E dX11_day_41 rfl ?_
            refine V_ia (j := p) E dX11_day_42 (hM.k 6 21 rfl (by decide)) (@rfl _ (nI (p))) (hM.l 6 100 rfl (by decide)) (by omega) (by decide) ?_
            refine V_iconst (v := 1) E dX11_day_43 (by decide) ?_
            refine V_icmp_ne (tgt := 102) E dX11_day_44 (by decide) (fun hx => absurd hx (fun q => q (k6.trans (by rw [hK]; rfl)))) (fun _ => ?_)
            refine V_aload_n E dX11_day_47 rfl ?_
            refine V_getR E fl_X11_19 dX11_day_48 rfl hM.o (hM.r 9 (by decide)) ?_
            refine V_iload_n E dX11_day_51 rfl ?_
            refine V_iload E dX11_day_52 rfl ?_
            refine V_if_eq (tgt := 88) E dX11_day_54 (by decide) (fun hx => absurd hx (by decide)) (fun _ => ?_)
            refine V_bipush (v := 100) E dX11_day_57 (by decide) ?_
            refine V_aload_n E dX11_day_59 rfl ?_
            refine V_getR E fl_X11_19 dX11_day_60 rfl hM.o (hM.r 9 (by decide)) ?_
            refine V_iload_n E dX11_day_63 rfl ?_
            refine V_ia (j := p) E dX11_day_64 (hM.k 9 21 rfl (by decide)) (@rfl _ (nI (p))) (hM.l 9 100 rfl (by decide)) (by omega) (by decide) ?_
            refine V_aload_n E dX11_day_65 rfl ?_
            refine V_getR E fl_X11_22 dX11_day_66 rfl hM.o (hM.r 10 (by decide)) ?_
            refine V_iload_n E dX11_day_69 rfl ?_
            refine V_za (j := p) E dX11_day_70 (hM.k 10 24 rfl (by decide)) (@rfl _ (nI (p))) (hM.l 10 100 rfl (by decide)) (by omega) (by decide) ?_
            refine V_if_eq (tgt := 79) E dX11_day_71 (by decide) (fun h71 => ?_) (fun h71 => ?_)
            · have hm : vM A p = 0 := by rw [hh.pM (by omega)] at h71; exact (nI_eq (a := vM A p) (b := 0) (by omega) (by omega)).mp h71
              refine V_bipush (v := 7) E dX11_day_79 (by decide) ?_
              refine V_iadd E dX11_day_81 ?_
              refine V_imin E ml_X11_148 dX11_day_82 (by simp [Value.category]) (by omega) (Nat.le_refl _) (Nat.le_refl _) ?_
              refine V_goto (tgt := 94) E dX11_day_85 (by decide) ?_
              refine V_cvi (y := nI ((min (100) ((vT A p + 7))))) (imin_n (a := 100) (b := (vT A p + 7)) (rfl : (100 : Int32) = nI 100) (ni_add (a := vT A p) (b := 7) (hh.pT (by omega)) (rfl : (7 : Int32) = nI 7)) (by omega) (by omega)) ?_
              refine V_ias (j := p) E dX11_day_94 (hM.k 9 21 rfl (by decide)) (@rfl _ (nI (p))) (hM.l 9 100 rfl (by decide)) (by omega) (by decide) ?_
              refine V_cvS (R3_9 _ _ _ _ _ _) ?_
              refine V_aload_n E dX11_day_95 rfl ?_
              refine V_getR E fl_X11_22 dX11_day_96 rfl hM.o (hM.r 10 (by decide)) ?_
              refine V_iload_n E dX11_day_99 rfl ?_
              refine V_iconst (v := 0) E dX11_day_100 (by decide) ?_
              refine V_zas (j := p) E dX11_day_101 (hM.k 10 24 rfl (by decide)) (@rfl _ (nI (p))) (hM.l 10 100 rfl (by decide)) (by omega) (by decide) ?_
              refine V_cvS (R3_10 _ _ _ _ _ _) ?_
              refine V_aload_n E dX11_day_102 rfl ?_
              refine V_getR E fl_X11_9 dX11_day_103 rfl hM.o (hM.r 6 (by decide)) ?_
              refine V_iload_n E dX11_day_106 rfl ?_
              refine V_ia (j := p) E dX11_day_107 (hM.k 6 21 rfl (by decide)) (@rfl _ (nI (p))) (hM.l 6 100 rfl (by decide)) (by omega) (by decide) ?_
              refine V_if_ne (tgt := 135) E dX11_day_108 (by decide) (fun _ => ?_) (fun hx => absurd hx (fun e => absurd (k6.symm.trans e) (by rw [hK]; decide)))
              refine V_aload_n E dX11_day_135 rfl ?_
              refine V_getR E fl_X11_9 dX11_day_136 rfl hM.o (hM.r 6 (by decide)) ?_
              refine V_iload_n E dX11_day_139 rfl ?_
              refine V_ia (j := p) E dX11_day_140 (hM.k 6 21 rfl (by decide)) (@rfl _ (nI (p))) (hM.l 6 100 rfl (by decide)) (by omega) (by decide) ?_
              refine V_iconst (v := 2) E dX11_day_141 (by decide) ?_
              refine V_icmp_ne (tgt := 212) E dX11_day_142 (by decide) (fun _ => ?_) (fun hx => absurd hx (fun e => absurd (k6.symm.trans e) (by rw [hK]; decide)))
              refine V_iinc (v := nI (p + 1)) E dX11_day_212 rfl (ni_inc (a := p) (z := 1) (@rfl _ (nI (p)))) (by decide) rfl ?_
              refine V_goto (tgt := 14) E dX11_day_215 (by decide) ?_
              refine V_lo (lo' := [some (.ref (0)), some (.int (nI (su))), some (.int (nI (ra))), some (.int (nI (p + 1))), none, none, none]) (And.intro rfl (And.intro rfl (And.intro rfl (And.intro rfl True.intro)))) ?_
              refine ih (p + 1) _ _ _ (by omega) (hh.dayStep ?_ ?_ ?_)
              · exact (up_0 (by rw [f8, dW, if_neg (by omega)]))
              · exact (up_p (by rw [dT]; first | rw [if_pos hz] | rw [if_neg hz, if_pos hK, if_pos hm] | rw [if_neg hz, if_pos hK, if_neg hm]))
              · exact (up_p (by rw [dM, if_pos hK]; rfl))
            · have hm : vM A p ≠ 0 := fun e => h71 (by rw [hh.pM (by omega), e]; rfl)
              refine V_bipush (v := 12) E dX11_day_74 (by decide) ?_
              refine V_goto (tgt := 81) E dX11_day_76 (by decide) ?_
              refine V_iadd E dX11_day_81 ?_
              refine V_imin E ml_X11_148 dX11_day_82 (by simp [Value.category]) (by omega) (Nat.le_refl _) (Nat.le_refl _) ?_
              refine V_goto (tgt := 94) E dX11_day_85 (by decide) ?_
              refine V_cvi (y := nI ((min (100) ((vT A p + 12))))) (imin_n (a := 100) (b := (vT A p + 12)) (rfl : (100 : Int32) = nI 100) (ni_add (a := vT A p) (b := 12) (hh.pT (by omega)) (rfl : (12 : Int32) = nI 12)) (by omega) (by omega)) ?_
              refine V_ias (j := p) E dX11_day_94 (hM.k 9 21 rfl (by decide)) (@rfl _ (nI (p))) (hM.l 9 100 rfl (by decide)) (by omega) (by decide) ?_
              refine V_cvS (R3_9 _ _ _ _ _ _) ?_
              refine V_aload_n E dX11_day_95 rfl ?_
              refine V_getR E fl_X11_22 dX11_day_96 rfl hM.o (hM.r 10 (by decide)) ?_
              refine V_iload_n E dX11_day_99 rfl ?_
              refine V_iconst (v := 0) E dX11_day_100 (by decide) ?_
              refine V_zas (j := p) E dX11_day_101 (hM.k 10 24 rfl (by decide)) (@rfl _ (nI (p))) (hM.l 10 100 rfl (by decide)) (by omega) (by decide) ?_
              refine V_cvS (R3_10 _ _ _ _ _ _) ?_
              refine V_aload_n E dX11_day_102 rfl ?_
              refine V_getR E fl_X11_9 dX11_day_103 rfl hM.o (hM.r 6 (by decide)) ?_
              refine V_iload_n E dX11_day_106 rfl ?_
              refine V_ia (j := p) E dX11_day_107 (hM.k 6 21 rfl (by decide)) (@rfl _ (nI (p))) (hM.l 6 100 rfl (by decide)) (by omega) (by decide) ?_
              refine V_if_ne (tgt := 135) E dX11_day_108 (by decide) (fun _ => ?_) (fun hx => absurd hx (fun e => absurd (k6.symm.trans e) (by rw [hK]; decide)))
              refine V_aload_n E dX11_day_135 rfl ?_
              refine V_getR E fl_X11_9 dX11_day_136 rfl hM.o (hM.r 6 (by decide)) ?_
              refine V_iload_n E dX11_day_139 rfl ?_
              refine V_ia (j := p) E dX11_day_140 (hM.k 6 21 rfl (by decide)) (@rfl _ (nI (p))) (hM.l 6 100 rfl (by decide)) (by omega) (by decide) ?_
              refine V_iconst (v := 2) E dX11_day_141 (by decide) ?_
              refine V_icmp_ne (tgt := 212) E dX11_day_142 (by decide) (fun _ => ?_) (fun hx => absurd hx (fun e => absurd (k6.symm.trans e) (by rw [hK]; decide)))
              refine V_iinc (v := nI (p + 1)) E dX11_day_212 rfl (ni_inc (a := p) (z := 1) (@rfl _ (nI (p)))) (by decide) rfl ?_
              refine V_goto (tgt := 14) E dX11_day_215 (by decide) ?_
              refine V_lo (lo' := [some (.ref (0)), some (.int (nI (su))), some (.int (nI (ra))), some (.int (nI (p + 1))), none, none, none]) (And.intro rfl (And.intro rfl (And.intro rfl (And.intro rfl True.intro)))) ?_
              refine ih (p + 1) _ _ _ (by omega) (hh.dayStep ?_ ?_ ?_)
              · exact (up_0 (by rw [f8, dW, if_neg (by omega)]))
              · exact (up_p (by rw [dT]; first | rw [if_pos hz] | rw [if_neg hz, if_pos hK, if_pos hm] | rw [if_neg hz, if_pos hK, if_neg hm]))
              · exact (up_p (by rw [dM, if_pos hK]; rfl))
        · refine V_iload_n E dX11_day_14 rfl ?_
          refine V_aload_n E dX11_day_15 rfl ?_
          refine V_getI E fl_X11_111 dX11_day_16 rfl hM.o ?_
          refine V_ge_no (a := p) (b := (vn A)) (tgt := 218) E dX11_day_19 (by decide) (@rfl _ (nI (p))) hV.n (by omega) (by omega) ?_
          refine V_aload_n E dX11_day_22 rfl ?_
          refine V_iload_n E dX11_day_23 rfl ?_
          refine V_callV E (cm_weight (x_l X) d (R3 S f g h) (aDayN A su ra p) (t + 1) hOp hM hh p (by omega)) ml_X11_123 mv_X11_weight hM.o dX11_day_24 rfl (by simp [Value.category]) (by omega) (by omega) (by omega) (fun r S2 hp => ?_)
          obtain ⟨rfl, hS2⟩ := hp
          obtain rfl := hS2.symm
          refine V_if_le (tgt := 34) E dX11_day_27 (by decide) (fun h27 => ?_) (fun h27 => ?_)
          · have hz : vwt A p = 0 := by rw [aDayN_wt] at h27; have := (nI_leI (a := vwt A p) (b := 0) (by omega) (by omega)).mp h27; omega
            refine V_iconst (v := 0) E dX11_day_34 (by decide) ?_
            refine V_istore E dX11_day_35 (by decide) rfl ?_
            refine V_aload_n E dX11_day_37 rfl ?_
            refine V_getR E fl_X11_9 dX11_day_38 rfl hM.o (hM.r 6 (by decide)) ?_
            refine V_iload_n E dX11_day_41 rfl ?_
            refine V_ia (j := p) E dX11_day_42 (hM.k 6 21 rfl (by decide)) (@rfl _ (nI (p))) (hM.l 6 100 rfl (by decide)) (by omega) (by decide) ?_
            refine V_iconst (v := 1) E dX11_day_43 (by decide) ?_
            refine V_icmp_ne (tgt := 102) E dX11_day_44 (by decide) (fun _ => ?_) (fun hx => absurd hx (fun e => absurd (k6.symm.trans e) (by rw [hK]; decide)))
            refine V_aload_n E dX11_day_102 rfl ?_
            refine V_getR E fl_X11_9 dX11_day_103 rfl hM.o (hM.r 6 (by decide)) ?_
            refine V_iload_n E dX11_day_106 rfl ?_
            refine V_ia (j := p) E dX11_day_107 (hM.k 6 21 rfl (by decide)) (@rfl _ (nI (p))) (hM.l 6 100 rfl (by decide)) (by omega) (by decide) ?_
            refine V_if_ne (tgt := 135) E dX11_day_108 (by decide) (fun _ => ?_) (fun hx => absurd hx (fun e => absurd (k6.symm.trans e) (by rw [hK]; decide)))
            refine V_aload_n E dX11_day_135 rfl ?_
            refine V_getR E fl_X11_9 dX11_day_136 rfl hM.o (hM.r 6 (by decide)) ?_
            refine V_iload_n E dX11_day_139 rfl ?_
            refine V_ia (j := p) E dX11_day_140 (hM.k 6 21 rfl (by decide)) (@rfl _ (nI (p))) (hM.l 6 100 rfl (by decide)) (by omega) (by decide) ?_
            refine V_iconst (v := 2) E dX11_day_141 (by decide) ?_
            refine V_icmp_ne (tgt := 212) E dX11_day_142 (by decide) (fun hx => absurd hx (fun q => q (k6.trans (by rw [hK]; rfl)))) (fun _ => ?_)
            refine V_aload_n E dX11_day_145 rfl ?_
            refine V_getR E fl_X11_22 dX11_day_146 rfl hM.o (hM.r 10 (by decide)) ?_
            refine V_iload_n E dX11_day_149 rfl ?_
            refine V_za (j := p) E dX11_day_150 (hM.k 10 24 rfl (by decide)) (@rfl _ (nI (p))) (hM.l 10 100 rfl (by decide)) (by omega) (by decide) ?_
            refine V_if_ne (tgt := 212) E dX11_day_151 (by decide) (fun h71 => ?_) (fun h71 => ?_)
            · have hm : vM A p ≠ 0 := fun e => h71 (by rw [hh.pM (by omega), e]; rfl)
              refine V_iinc (v := nI (p + 1)) E dX11_day_212 rfl (ni_inc (a := p) (z := 1) (@rfl _ (nI (p)))) (by decide) rfl ?_
              refine V_goto (tgt := 14) E dX11_day_215 (by decide) ?_
              refine V_lo (lo' := [some (.ref (0)), some (.int (nI (su))), some (.int (nI (ra))), some (.int (nI (p + 1))), none, none, none]) (And.intro rfl (And.intro rfl (And.intro rfl (And.intro rfl True.intro)))) ?_
              refine ih (p + 1) _ _ _ (by omega) (hh.dayStep ?_ ?_ ?_)
              · exact (up_0 (by rw [f8, dW, if_neg (by omega)]))
              · exact (up_0 (by rw [f9, dT]; first | rw [if_pos hz] | rw [if_neg hz, if_neg (by omega), if_neg (by omega)]))
              · exact (up_0 (by rw [f10, dM, if_neg (by omega)]))
            · have hm : vM A p = 0 := by rw [hh.pM (by omega)] at h71; exact (nI_eq (a := vM A p) (b := 0) (by omega) (by omega)).mp h71
              refine V_aload_n E dX11_day_154 rfl ?_
              refine V_iload_n E dX11_day_155 rfl ?_
              refine V_callV E (cm_dryOfA (x_l X) d (R3 S f g h) (aDayN A su ra p) hM hh p (by omega)) ml_X11_119 mv_X11_dryOf hM.o dX11_day_156 rfl (by simp [Value.category]) (by omega) (by omega) (by omega) (fun r S2 hp => ?_)
              obtain ⟨rfl, hS2⟩ := hp
              obtain rfl := hS2.symm
              refine V_istore E dX11_day_159 (by decide) rfl ?_
              refine V_iload_n E dX11_day_161 rfl ?_
              refine V_i2l E dX11_day_162 rfl ?_
              refine V_iload E dX11_day_163 rfl ?_
              refine V_i2l E dX11_day_165 rfl ?_
              refine V_lmul E dX11_day_166 ?_
              refine V_ldc2 E dX11_day_167 kl_X11_154 ?_
              refine V_ldiv E dX11_day_170 (by decide) ?_
              refine V_l2i E dX11_day_171 rfl ?_
              refine V_cvi (y := nI (((su * vdry A p) / 40))) (il_of (ll_div (a := (su * vdry A p)) (b := 40) (ll_mul (a := su) (b := vdry A p) (li_of (@rfl _ (nI (su))) (by omega)) (li_of (@rfl _ (nI (vdry A p))) (by omega))) (rfl : (40 : Int64) = lN 40) (by omega) (by omega) (by omega))) ?_
              refine V_istore E dX11_day_172 (by decide) rfl ?_
              refine V_aload_n E dX11_day_174 rfl ?_
              refine V_getR E fl_X11_16 dX11_day_175 rfl hM.o (hM.r 8 (by decide)) ?_
              refine V_iload_n E dX11_day_178 rfl ?_
              refine V_iload_n E dX11_day_179 rfl ?_
              refine V_if_eq (tgt := 198) E dX11_day_180 (by decide) (fun h180 => ?_) (fun h180 => ?_)
              · have hr : ra = 0 := (nI_eq (a := ra) (b := 0) (by omega) (by omega)).mp h180
                refine V_iconst (v := 0) E dX11_day_198 (by decide) ?_
                refine V_aload_n E dX11_day_199 rfl ?_
                refine V_getR E fl_X11_16 dX11_day_200 rfl hM.o (hM.r 8 (by decide)) ?_
                refine V_iload_n E dX11_day_203 rfl ?_
                refine V_ia (j := p) E dX11_day_204 (hM.k 8 21 rfl (by decide)) (@rfl _ (nI (p))) (hM.l 8 100 rfl (by decide)) (by omega) (by decide) ?_
                refine V_iload E dX11_day_205 rfl ?_
                refine V_isub E dX11_day_207 ?_
                refine V_imax E ml_X11_156 dX11_day_208 (by simp [Value.category]) (by omega) (Nat.le_refl _) (Nat.le_refl _) ?_
                refine V_cvi (y := nI (vW A p - su * vdry A p / 40)) (imax_sub (a := vW A p) (b := su * vdry A p / 40) (hh.pW (by omega)) rfl (by omega) (by omega)) ?_
                refine V_ias (j := p) E dX11_day_211 (hM.k 8 21 rfl (by decide)) (@rfl _ (nI (p))) (hM.l 8 100 rfl (by decide)) (by omega) (by decide) ?_
                refine V_cvS (R3_8 _ _ _ _ _ _) ?_
                refine V_iinc (v := nI (p + 1)) E dX11_day_212 rfl (ni_inc (a := p) (z := 1) (@rfl _ (nI (p)))) (by decide) rfl ?_
                refine V_goto (tgt := 14) E dX11_day_215 (by decide) ?_
                refine V_lo (lo' := [some (.ref (0)), some (.int (nI (su))), some (.int (nI (ra))), some (.int (nI (p + 1))), none, none, none]) (And.intro rfl (And.intro rfl (And.intro rfl (And.intro rfl True.intro)))) ?_
                refine ih (p + 1) _ _ _ (by omega) (hh.dayStep ?_ ?_ ?_)
                · exact (up_p (by rw [dW, if_pos ⟨hK, hm⟩]; first | rw [if_pos hr] | rw [if_neg hr]))
                · exact (up_0 (by rw [f9, dT]; first | rw [if_pos hz] | rw [if_neg hz, if_neg (by omega), if_neg (by omega)]))
                · exact (up_0 (by rw [f10, dM, if_neg (by omega)]))
              · have hr : ra ≠ 0 := fun e => h180 (by rw [e]; rfl)
                refine V_aload_n E dX11_day_183 rfl ?_
                refine V_getR E fl_X11_16 dX11_day_184 rfl hM.o (hM.r 8 (by decide)) ?_
                refine V_iload_n E dX11_day_187 rfl ?_
                refine V_ia (j := p) E dX11_day_188 (hM.k 8 21 rfl (by decide)) (@rfl _ (nI (p))) (hM.l 8 100 rfl (by decide)) (by omega) (by decide) ?_
                refine V_iload E dX11_day_189 rfl ?_
                refine V_bipush (v := 10) E dX11_day_191 (by decide) ?_
                refine V_idiv E dX11_day_193 (by decide) ?_
                refine V_iadd E dX11_day_194 ?_
                refine V_goto (tgt := 211) E dX11_day_195 (by decide) ?_
                refine V_cvi (y := nI ((vW A p + (vdry A p / 10)))) (ni_add (a := vW A p) (b := (vdry A p / 10)) (hh.pW (by omega)) (ii_div (a := vdry A p) (b := 10) (@rfl _ (nI (vdry A p))) (rfl : (10 : Int32) = nI 10) (by omega) (by omega) (by omega))) ?_
                refine V_ias (j := p) E dX11_day_211 (hM.k 8 21 rfl (by decide)) (@rfl _ (nI (p))) (hM.l 8 100 rfl (by decide)) (by omega) (by decide) ?_
                refine V_cvS (R3_8 _ _ _ _ _ _) ?_
                refine V_iinc (v := nI (p + 1)) E dX11_day_212 rfl (ni_inc (a := p) (z := 1) (@rfl _ (nI (p)))) (by decide) rfl ?_
                refine V_goto (tgt := 14) E dX11_day_215 (by decide) ?_
                refine V_lo (lo' := [some (.ref (0)), some (.int (nI (su))), some (.int (nI (ra))), some (.int (nI (p + 1))), none, none, none]) (And.intro rfl (And.intro rfl (And.intro rfl (And.intro rfl True.intro)))) ?_
                refine ih (p + 1) _ _ _ (by omega) (hh.dayStep ?_ ?_ ?_)
                · exact (up_p (by rw [dW, if_pos ⟨hK, hm⟩]; first | rw [if_pos hr] | rw [if_neg hr]))
                · exact (up_0 (by rw [f9, dT]; first | rw [if_pos hz] | rw [if_neg hz, if_neg (by omega), if_neg (by omega)]))
                · exact (up_0 (by rw [f10, dM, if_neg (by omega)]))
          · have hz : vwt A p ≠ 0 := fun e => h27 (by rw [aDayN_wt, e]; decide)
            refine V_iconst (v := 1) E dX11_day_30 (by decide) ?_
            refine V_goto (tgt := 35) E dX11_day_31 (by decide) ?_
            refine V_istore E dX11_day_35 (by decide) rfl ?_
            refine V_aload_n E dX11_day_37 rfl ?_
            refine V_getR E fl_X11_9 dX11_day_38 rfl hM.o (hM.r 6 (by decide)) ?_
            refine V_iload_n E dX11_day_41 rfl ?_
            refine V_ia (j := p) E dX11_day_42 (hM.k 6 21 rfl (by decide)) (@rfl _ (nI (p))) (hM.l 6 100 rfl (by decide)) (by omega) (by decide) ?_
            refine V_iconst (v := 1) E dX11_day_43 (by decide) ?_
            refine V_icmp_ne (tgt := 102) E dX11_day_44 (by decide) (fun _ => ?_) (fun hx => absurd hx (fun e => absurd (k6.symm.trans e) (by rw [hK]; decide)))
            refine V_aload_n E dX11_day_102 rfl ?_
            refine V_getR E fl_X11_9 dX11_day_103 rfl hM.o (hM.r 6 (by decide)) ?_
            refine V_iload_n E dX11_day_106 rfl ?_
            refine V_ia (j := p) E dX11_day_107 (hM.k 6 21 rfl (by decide)) (@rfl _ (nI (p))) (hM.l 6 100 rfl (by decide)) (by omega) (by decide) ?_
            refine V_if_ne (tgt := 135) E dX11_day_108 (by decide) (fun _ => ?_) (fun hx => absurd hx (fun e => absurd (k6.symm.trans e) (by rw [hK]; decide)))
            refine V_aload_n E dX11_day_135 rfl ?_
            refine V_getR E fl_X11_9 dX11_day_136 rfl hM.o (hM.r 6 (by decide)) ?_
            refine V_iload_n E dX11_day_139 rfl ?_
            refine V_ia (j := p) E dX11_day_140 (hM.k 6 21 rfl (by decide)) (@rfl _ (nI (p))) (hM.l 6 100 rfl (by decide)) (by omega) (by decide) ?_
            refine V_iconst (v := 2) E dX11_day_141 (by decide) ?_
            refine V_icmp_ne (tgt := 212) E dX11_day_142 (by decide) (fun hx => absurd hx (fun q => q (k6.trans (by rw [hK]; rfl)))) (fun _ => ?_)
            refine V_aload_n E dX11_day_145 rfl ?_
            refine V_getR E fl_X11_22 dX11_day_146 rfl hM.o (hM.r 10 (by decide)) ?_
            refine V_iload_n E dX11_day_149 rfl ?_
            refine V_za (j := p) E dX11_day_150 (hM.k 10 24 rfl (by decide)) (@rfl _ (nI (p))) (hM.l 10 100 rfl (by decide)) (by omega) (by decide) ?_
            refine V_if_ne (tgt := 212) E dX11_day_151 (by decide) (fun h71 => ?_) (fun h71 => ?_)
            · have hm : vM A p ≠ 0 := fun e => h71 (by rw [hh.pM (by omega), e]; rfl)
              refine V_iinc (v := nI (p + 1)) E dX11_day_212 rfl (ni_inc (a := p) (z := 1) (@rfl _ (nI (p)))) (by decide) rfl ?_
              refine V_goto (tgt := 14) E dX11_day_215 (by decide) ?_
              refine V_lo (lo' := [some (.ref (0)), some (.int (nI (su))), some (.int (nI (ra))), some (.int (nI (p + 1))), none, none, none]) (And.intro rfl (And.intro rfl (And.intro rfl (And.intro rfl True.intro)))) ?_
              refine ih (p + 1) _ _ _ (by omega) (hh.dayStep ?_ ?_ ?_)
              · exact (up_0 (by rw [f8, dW, if_neg (by omega)]))
              · exact (up_0 (by rw [f9, dT]; first | rw [if_pos hz] | rw [if_neg hz, if_neg (by omega), if_neg (by omega)]))
              · exact (up_0 (by rw [f10, dM, if_neg (by omega)]))
            · have hm : vM A p = 0 := by rw [hh.pM (by omega)] at h71; exact (nI_eq (a := vM A p) (b := 0) (by omega) (by omega)).mp h71
              refine V_aload_n E dX11_day_154 rfl ?_
              refine V_iload_n E dX11_day_155 rfl ?_
              refine V_callV E (cm_dryOfA (x_l X) d (R3 S f g h) (aDayN A su ra p) hM hh p (by omega)) ml_X11_119 mv_X11_dryOf hM.o dX11_day_156 rfl (by simp [Value.category]) (by omega) (by omega) (by omega) (fun r S2 hp => ?_)
              obtain ⟨rfl, hS2⟩ := hp
              obtain rfl := hS2.symm
              refine V_istore E dX11_day_159 (by decide) rfl ?_
              refine V_iload_n E dX11_day_161 rfl ?_
              refine V_i2l E dX11_day_162 rfl ?_
              refine V_iload E dX11_day_163 rfl ?_
              refine V_i2l E dX11_day_165 rfl ?_
              refine V_lmul E dX11_day_166 ?_
              refine V_ldc2 E dX11_day_167 kl_X11_154 ?_
              refine V_ldiv E dX11_day_170 (by decide) ?_
              refine V_l2i E dX11_day_171 rfl ?_
              refine V_cvi (y := nI (((su * vdry A p) / 40))) (il_of (ll_div (a := (su * vdry A p)) (b := 40) (ll_mul (a := su) (b := vdry A p) (li_of (@rfl _ (nI (su))) (by omega)) (li_of (@rfl _ (nI (vdry A p))) (by omega))) (rfl : (40 : Int64) = lN 40) (by omega) (by omega) (by omega))) ?_
              refine V_istore E dX11_day_172 (by decide) rfl ?_
              refine V_aload_n E dX11_day_174 rfl ?_
              refine V_getR E fl_X11_16 dX11_day_175 rfl hM.o (hM.r 8 (by decide)) ?_
              refine V_iload_n E dX11_day_178 rfl ?_
              refine V_iload_n E dX11_day_179 rfl ?_
              refine V_if_eq (tgt := 198) E dX11_day_180 (by decide) (fun h180 => ?_) (fun h180 => ?_)
              · have hr : ra = 0 := (nI_eq (a := ra) (b := 0) (by omega) (by omega)).mp h180
                refine V_iconst (v := 0) E dX11_day_198 (by decide) ?_
                refine V_aload_n E dX11_day_199 rfl ?_
                refine V_getR E fl_X11_16 dX11_day_200 rfl hM.o (hM.r 8 (by decide)) ?_
                refine V_iload_n E dX11_day_203 rfl ?_
                refine V_ia (j := p) E dX11_day_204 (hM.k 8 21 rfl (by decide)) (@rfl _ (nI (p))) (hM.l 8 100 rfl (by decide)) (by omega) (by decide) ?_
                refine V_iload E dX11_day_205 rfl ?_
                refine V_isub E dX11_day_207 ?_
                refine V_imax E ml_X11_156 dX11_day_208 (by simp [Value.category]) (by omega) (Nat.le_refl _) (Nat.le_refl _) ?_
                refine V_cvi (y := nI (vW A p - su * vdry A p / 40)) (imax_sub (a := vW A p) (b := su * vdry A p / 40) (hh.pW (by omega)) rfl (by omega) (by omega)) ?_
                refine V_ias (j := p) E dX11_day_211 (hM.k 8 21 rfl (by decide)) (@rfl _ (nI (p))) (hM.l 8 100 rfl (by decide)) (by omega) (by decide) ?_
                refine V_cvS (R3_8 _ _ _ _ _ _) ?_
                refine V_iinc (v := nI (p + 1)) E dX11_day_212 rfl (ni_inc (a := p) (z := 1) (@rfl _ (nI (p)))) (by decide) rfl ?_
                refine V_goto (tgt := 14) E dX11_day_215 (by decide) ?_
                refine V_lo (lo' := [some (.ref (0)), some (.int (nI (su))), some (.int (nI (ra))), some (.int (nI (p + 1))), none, none, none]) (And.intro rfl (And.intro rfl (And.intro rfl (And.intro rfl True.intro)))) ?_
                refine ih (p + 1) _ _ _ (by omega) (hh.dayStep ?_ ?_ ?_)
                · exact (up_p (by rw [dW, if_pos ⟨hK, hm⟩]; first | rw [if_pos hr] | rw [if_neg hr]))
                · exact (up_0 (by rw [f9, dT]; first | rw [if_pos hz] | rw [if_neg hz, if_neg (by omega), if_neg (by omega)]))
                · exact (up_0 (by rw [f10, dM, if_neg (by omega)]))
              · have hr : ra ≠ 0 := fun e => h180 (by rw [e]; rfl)
                refine V_aload_n E dX11_day_183 rfl ?_
                refine V_getR E fl_X11_16 dX11_day_184 rfl hM.o (hM.r 8 (by decide)) ?_
                refine V_iload_n E dX11_day_187 rfl ?_
                refine V_ia (j := p) E dX11_day_188 (hM.k 8 21 rfl (by decide)) (@rfl _ (nI (p))) (hM.l 8 100 rfl (by decide)) (by omega) (by decide) ?_
                refine V_iload E dX11_day_189 rfl ?_
                refine V_bipush (v := 10) E dX11_day_191 (by decide) ?_
                refine V_idiv E dX11_day_193 (by decide) ?_
                refine V_iadd E dX11_day_194 ?_
                refine V_goto (tgt := 211) E dX11_day_195 (by decide) ?_
                refine V_cvi (y := nI ((vW A p + (vdry A p / 10)))) (ni_add (a := vW A p) (b := (vdry A p / 10)) (hh.pW (by omega)) (ii_div (a := vdry A p) (b := 10) (@rfl _ (nI (vdry A p))) (rfl : (10 : Int32) = nI 10) (by omega) (by omega) (by omega))) ?_
                refine V_ias (j := p) E dX11_day_211 (hM.k 8 21 rfl (by decide)) (@rfl _ (nI (p))) (hM.l 8 100 rfl (by decide)) (by omega) (by decide) ?_
                refine V_cvS (R3_8 _ _ _ _ _ _) ?_
                refine V_iinc (v := nI (p + 1)) E dX11_day_212 rfl (ni_inc (a := p) (z := 1) (@rfl _ (nI (p)))) (by decide) rfl ?_
                refine V_goto (tgt := 14) E dX11_day_215 (by decide) ?_
                refine V_lo (lo' := [some (.ref (0)), some (.int (nI (su))), some (.int (nI (ra))), some (.int (nI (p + 1))), none, none, none]) (And.intro rfl (And.intro rfl (And.intro rfl (And.intro rfl True.intro)))) ?_
                refine ih (p + 1) _ _ _ (by omega) (hh.dayStep ?_ ?_ ?_)
                · exact (up_p (by rw [dW, if_pos ⟨hK, hm⟩]; first | rw [if_pos hr] | rw [if_neg hr]))
                · exact (up_0 (by rw [f9, dT]; first | rw [if_pos hz] | rw [if_neg hz, if_neg (by omega), if_neg (by omega)]))
                · exact (up_0 (by rw [f10, dM, if_neg (by omega)]))
        · refine V_iload_n E dX11_day_14 rfl ?_
          refine V_aload_n E dX11_day_15 rfl ?_
          refine V_getI E fl_X11_111 dX11_day_16 rfl hM.o ?_
          refine V_ge_no (a := p) (b := (vn A)) (tgt := 218) E dX11_day_19 (by decide) (@rfl _ (nI (p))) hV.n (by omega) (by omega) ?_
          refine V_aload_n E dX11_day_22 rfl ?_
          refine V_iload_n E dX11_day_23 rfl ?_
          refine V_callV E (cm_weight (x_l X) d (R3 S f g h) (aDayN A su ra p) (t + 1) hOp hM hh p (by omega)) ml_X11_123 mv_X11_weight hM.o dX11_day_24 rfl (by simp [Value.category]) (by omega) (by omega) (by omega) (fun r S2 hp => ?_)
          obtain ⟨rfl, hS2⟩ := hp
          obtain rfl := hS2.symm
          refine V_if_le (tgt := 34) E dX11_day_27 (by decide) (fun h27 => ?_) (fun h27 => ?_)
          · have hz : vwt A p = 0 := by rw [aDayN_wt] at h27; have := (nI_leI (a := vwt A p) (b := 0) (by omega) (by omega)).mp h27; omega
            refine V_iconst (v := 0) E dX11_day_34 (by decide) ?_
            refine V_istore E dX11_day_35 (by decide) rfl ?_
            refine V_aload_n E dX11_day_37 rfl ?_
            refine V_getR E fl_X11_9 dX11_day_38 rfl hM.o (hM.r 6 (by decide)) ?_
            refine V_iload_n E dX11_day_41 rfl ?_
            refine V_ia (j := p) E dX11_day_42 (hM.k 6 21 rfl (by decide)) (@rfl _ (nI (p))) (hM.l 6 100 rfl (by decide)) (by omega) (by decide) ?_
            refine V_iconst (v := 1) E dX11_day_43 (by decide) ?_
            refine V_icmp_ne (tgt := 102) E dX11_day_44 (by decide) (fun _ => ?_) (fun hx => absurd hx (fun e => absurd (k6.symm.trans e) (by rw [hK]; decide)))
            refine V_aload_n E dX11_day_102 rfl ?_
            refine V_getR E fl_X11_9 dX11_day_103 rfl hM.o (hM.r 6 (by decide)) ?_
            refine V_iload_n E dX11_day_106 rfl ?_
            refine V_ia (j := p) E dX11_day_107 (hM.k 6 21 rfl (by decide)) (@rfl _ (nI (p))) (hM.l 6 100 rfl (by decide)) (by omega) (by decide) ?_
            refine V_if_ne (tgt := 135) E dX11_day_108 (by decide) (fun _ => ?_) (fun hx => absurd hx (fun e => absurd (k6.symm.trans e) (by rw [hK]; decide)))
            refine V_aload_n E dX11_day_135 rfl ?_
            refine V_getR E fl_X11_9 dX11_day_136 rfl hM.o (hM.r 6 (by decide)) ?_
            refine V_iload_n E dX11_day_139 rfl ?_
            refine V_ia (j := p) E dX11_day_140 (hM.k 6 21 rfl (by decide)) (@rfl _ (nI (p))) (hM.l 6 100 rfl (by decide)) (by omega) (by decide) ?_
            refine V_iconst (v := 2) E dX11_day_141 (by decide) ?_
            refine V_icmp_ne (tgt := 212) E dX11_day_142 (by decide) (fun _ => ?_) (fun hx => absurd hx (fun e => absurd (k6.symm.trans e) (by rw [hK]; decide)))
            refine V_iinc (v := nI (p + 1)) E dX11_day_212 rfl (ni_inc (a := p) (z := 1) (@rfl _ (nI (p)))) (by decide) rfl ?_
            refine V_goto (tgt := 14) E dX11_day_215 (by decide) ?_
            refine V_lo (lo' := [some (.ref (0)), some (.int (nI (su))), some (.int (nI (ra))), some (.int (nI (p + 1))), none, none, none]) (And.intro rfl (And.intro rfl (And.intro rfl (And.intro rfl True.intro)))) ?_
            refine ih (p + 1) _ _ _ (by omega) (hh.dayStep ?_ ?_ ?_)
            · exact (up_0 (by rw [f8, dW, if_neg (by omega)]))
            · exact (up_0 (by rw [f9, dT]; first | rw [if_pos hz] | rw [if_neg hz, if_neg (by omega), if_neg (by omega)]))
            · exact (up_0 (by rw [f10, dM, if_neg (by omega)]))
          · have hz : vwt A p ≠ 0 := fun e => h27 (by rw [aDayN_wt, e]; decide)
            refine V_iconst (v := 1) E dX11_day_30 (by decide) ?_
            refine V_goto (tgt := 35) E dX11_day_31 (by decide) ?_
            refine V_istore E dX11_day_35 (by decide) rfl ?_
            refine V_aload_n E dX11_day_37 rfl ?_
            refine V_getR E fl_X11_9 dX11_day_38 rfl hM.o (hM.r 6 (by decide)) ?_
            refine V_iload_n E dX11_day_41 rfl ?_
            refine V_ia (j := p) E dX11_day_42 (hM.k 6 21 rfl (by decide)) (@rfl _ (nI (p))) (hM.l 6 100 rfl (by decide)) (by omega) (by decide) ?_
            refine V_iconst (v := 1) E dX11_day_43 (by decide) ?_
            refine V_icmp_ne (tgt := 102) E dX11_day_44 (by decide) (fun _ => ?_) (fun hx => absurd hx (fun e => absurd (k6.symm.trans e) (by rw [hK]; decide)))
            refine V_aload_n E dX11_day_102 rfl ?_
            refine V_getR E fl_X11_9 dX11_day_103 rfl hM.o (hM.r 6 (by decide)) ?_
            refine V_iload_n E dX11_day_106 rfl ?_
            refine V_ia (j := p) E dX11_day_107 (hM.k 6 21 rfl (by decide)) (@rfl _ (nI (p))) (hM.l 6 100 rfl (by decide)) (by omega) (by decide) ?_
            refine V_if_ne (tgt := 135) E dX11_day_108 (by decide) (fun _ => ?_) (fun hx => absurd hx (fun e => absurd (k6.symm.trans e) (by rw [hK]; decide)))
            refine V_aload_n E dX11_day_135 rfl ?_
            refine V_getR E fl_X11_9 dX11_day_136 rfl hM.o (hM.r 6 (by decide)) ?_
            refine V_iload_n E dX11_day_139 rfl ?_
            refine V_ia (j := p) E dX11_day_140 (hM.k 6 21 rfl (by decide)) (@rfl _ (nI (p))) (hM.l 6 100 rfl (by decide)) (by omega) (by decide) ?_
            refine V_iconst (v := 2) E dX11_day_141 (by decide) ?_
            refine V_icmp_ne (tgt := 212) E dX11_day_142 (by decide) (fun _ => ?_) (fun hx => absurd hx (fun e => absurd (k6.symm.trans e) (by rw [hK]; decide)))
            refine V_iinc (v := nI (p + 1)) E dX11_day_212 rfl (ni_inc (a := p) (z := 1) (@rfl _ (nI (p)))) (by decide) rfl ?_
            refine V_goto (tgt := 14) E dX11_day_215 (by decide) ?_
            refine V_lo (lo' := [some (.ref (0)), some (.int (nI (su))), some (.int (nI (ra))), some (.int (nI (p + 1))), none, none, none]) (And.intro rfl (And.intro rfl (And.intro rfl (And.intro rfl True.intro)))) ?_
            refine ih (p + 1) _ _ _ (by omega) (hh.dayStep ?_ ?_ ?_)
            · exact (up_0 (by rw [f8, dW, if_neg (by omega)]))
            · exact (up_0 (by rw [f9, dT]; first | rw [if_pos hz] | rw [if_neg hz, if_neg (by omega), if_neg (by omega)]))
            · exact (up_0 (by rw [f10, dM, if_neg (by omega)]))
    exact loop (vn A) 0 _ _ _ (by omega) (by rw [aDayN_0, ← R3_self]; exact hV)
  · have w7 : ¬ wi_ x 0 12 := fun q => hc7 ((wi_iff (by decide) (by decide)).mpr q)
    refine V_iconst (v := -1) E dX11_day_10 (by decide) ?_
    exact V_iret E R dX11_day_11 rfl (Nat.le_refl _) (Nat.le_refl _) (Or.inr ⟨w7, rfl, rfl⟩)
