theorem cm_cut (l : Launch) (d : Nat) (S : GS) (A : AV) (t : Nat) (hO : VOK A t) (hM : MOK S) (hV : MVes S A) (x m s f : Int32) : GC l (d + 2) yX11_cut cX11_cut 8 (some FieldType.int) [.ref 0, .int x, .int m, .int s, .int f] S (fun r S2 => (pCut A x m s f ∧ r = some (.int (nI (gCut A (tn x) (tn m) (tn s) (tn f)))) ∧ S2 = mCut S A (tn x) (gCut A (tn x) (tn m) (tn s) (tn f))) ∨ (¬ pCut A x m s f ∧ r = some (.int (-1)) ∧ S2 = S)) (0) (0) := by
  refine GC.ofV (by decide) (Nat.le_of_ble_eq_true rfl) (fun X hl E R hnm => ?_)
  subst hl
  have E : En X RX11 cX11_cut 8 (d + 2) (0) (0) := E
  have R : Rt X (some FieldType.int) (fun r S2 => (pCut A x m s f ∧ r = some (.int (nI (gCut A (tn x) (tn m) (tn s) (tn f)))) ∧ S2 = mCut S A (tn x) (gCut A (tn x) (tn m) (tn s) (tn f))) ∨ (¬ pCut A x m s f ∧ r = some (.int (-1)) ∧ S2 = S)) := R
  have hn := hO.1
  have J47 : V X 47 [some (.ref (0)), some (.int (x)), some (.int (m)), some (.int (s)), some (.int (f)), none, none, none] [(.int (bi (cCut m s f)))] (S) 0 0 := by
    refine V_istore E dX11_cut_47 (by decide) rfl ?_
    refine V_aload_n E dX11_cut_49 rfl ?_
    refine V_iload_n E dX11_cut_50 rfl ?_
    refine V_iconst (v := 3) E dX11_cut_51 (by decide) ?_
    refine V_callV E (cm_is (x_l X) d S A t hO hM hV x 3 (by omega)) ml_X11_128 mv_X11_is hM.o dX11_cut_52 rfl (by simp [Value.category]) (by omega) (by omega) (by omega) (fun r S2 hp => ?_)
    obtain ⟨rfl, hS2⟩ := hp
    obtain rfl := hS2.symm
    refine V_ifeq_b (tgt := 71) E dX11_cut_55 (by decide) (fun hc55 => ?_) (fun hc55 => ?_)
    · refine V_iconst (v := -1) E dX11_cut_71 (by decide) ?_
      exact V_iret E R dX11_cut_72 rfl (Nat.le_refl _) (Nat.le_refl _) (Or.inr ⟨fun q => hc55 q.1, rfl, rfl⟩)
    · obtain ⟨v, rfl, tv, lv, uv, -⟩ := wi_nat hc55.1 (by omega)
      have hk : vK A v = 3 := by rw [← tv]; exact hc55.2
      have h3 := hO.2.2.1 v (by omega)
      have hwv : vwt A v = vdry A v + vW A v := rfl
      refine V_aload_n E dX11_cut_58 rfl ?_
      refine V_iload_n E dX11_cut_59 rfl ?_
      refine V_callV E (cm_weight (x_l X) d S A t hO hM hV v (by omega)) ml_X11_123 mv_X11_weight hM.o dX11_cut_60 rfl (by simp [Value.category]) (by omega) (by omega) (by omega) (fun r S2 hp => ?_)
      obtain ⟨rfl, hS2⟩ := hp
      obtain rfl := hS2.symm
      refine V_if_eq (tgt := 71) E dX11_cut_63 (by decide) (fun h63 => ?_) (fun h63 => ?_)
      · have h64 : vwt A v = 0 := (nI_eq (a := vwt A v) (b := 0) (by omega) (by omega)).mp h63
        refine V_iconst (v := -1) E dX11_cut_71 (by decide) ?_
        exact V_iret E R dX11_cut_72 rfl (Nat.le_refl _) (Nat.le_refl _) (Or.inr ⟨fun q => q.2.1 (by rw [tv]; exact h64), rfl, rfl⟩)
      · have h64 : vwt A v ≠ 0 := fun e => h63 (by rw [e]; rfl)
        refine V_iload E dX11_cut_66 rfl ?_
        refine V_ifne_b (tgt := 73) E dX11_cut_68 (by decide) (fun hc68 => ?_) (fun hc68 => ?_)
        · obtain ⟨⟨q1, q2, q3⟩, q4⟩ := id hc68
          obtain ⟨a, rfl, ta, la, ua, -⟩ := wi_nat q1 (by omega)
          obtain ⟨b, rfl, tb, lb, ub, -⟩ := wi_nat q2 (by omega)
          obtain ⟨e, rfl, te, le, ue, -⟩ := wi_nat q3 (by omega)
          rw [ta, tb, te] at q4
          have K105 : (vC A v = 0 ∨ (vC A v = 1 ∧ vG A v = 3)) → V X 105 [some (.ref (0)), some (.int (nI (v))), some (.int (nI (a))), some (.int (nI (b))), some (.int (nI (e))), some (.int (bi (cCut (nI a) (nI b) (nI e)))), none, none] [] S 0 0 := by
            intro hcv
            have J142 : V X 142 [some (.ref (0)), some (.int (nI (v))), some (.int (nI (a))), some (.int (nI (b))), some (.int (nI (e))), some (.int (bi (cCut (nI a) (nI b) (nI e)))), none, none] [(.int (bi (c1Cut A v a b e)))] (S) 0 0 := by
              refine V_istore E dX11_cut_142 (by decide) rfl ?_
              have J167 : V X 167 [some (.ref (0)), some (.int (nI (v))), some (.int (nI (a))), some (.int (nI (b))), some (.int (nI (e))), some (.int (bi (cCut (nI a) (nI b) (nI e)))), some (.int (bi (c1Cut A v a b e))), none] [(.int (bi (c2Cut a b e)))] (S) 0 0 := by
                refine V_istore E dX11_cut_167 (by decide) rfl ?_
                refine V_aload_n E dX11_cut_169 rfl ?_
                refine V_getR E fl_X11_26 dX11_cut_170 rfl hM.o (hM.r 11 (by decide)) ?_
                refine V_iload_n E dX11_cut_173 rfl ?_
                have J193 : V X 193 [some (.ref (0)), some (.int (nI (v))), some (.int (nI (a))), some (.int (nI (b))), some (.int (nI (e))), some (.int (bi (cCut (nI a) (nI b) (nI e)))), some (.int (bi (c1Cut A v a b e))), some (.int (bi (c2Cut a b e)))] [(.int (nI (gCut A v a b e))), (.int (nI (v))), (.ref (11))] (S) 0 0 := by
                  refine V_ias (j := v) E dX11_cut_193 (hM.k 11 21 rfl (by decide)) (@rfl _ (nI (v))) (hM.l 11 100 rfl (by decide)) (by omega) (by decide) ?_
                  refine V_aload_n E dX11_cut_194 rfl ?_
                  refine V_getR E fl_X11_29 dX11_cut_195 rfl hM.o (hM.r 12 (by decide)) ?_
                  refine V_iload_n E dX11_cut_198 rfl ?_
                  refine V_dup2 E dX11_cut_199 rfl rfl ?_
                  refine V_ia (j := v) E dX11_cut_200 (hM.k 12 21 rfl (by decide)) (@rfl _ (nI (v))) (hM.l 12 100 rfl (by decide)) (by omega) (by decide) ?_
                  refine V_iconst (v := 1) E dX11_cut_201 (by decide) ?_
                  refine V_iadd E dX11_cut_202 ?_
                  refine V_cvi (y := nI (((vC A (v)) + 1))) (ni_add (a := (vC A (v))) (b := 1) (hV.C (v) (by omega)) (rfl : (1 : Int32) = nI 1)) ?_
                  refine V_ias (j := v) E dX11_cut_203 (hM.k 12 21 rfl (by decide)) (@rfl _ (nI (v))) (hM.l 12 100 rfl (by decide)) (by omega) (by decide) ?_
                  refine V_aload_n E dX11_cut_204 rfl ?_
                  refine V_getR E fl_X11_26 dX11_cut_205 rfl hM.o (hM.r 11 (by decide)) ?_
                  refine V_iload_n E dX11_cut_208 rfl ?_
                  refine V_ia (j := v) E dX11_cut_209 (hM.k 11 21 rfl (by decide)) (@rfl _ (nI (v))) (hM.l 11 100 rfl (by decide)) (by omega) (by decide) ?_
                  exact V_iret E R dX11_cut_210 rfl (Nat.le_refl _) (Nat.le_refl _) (Or.inl ⟨⟨hc55, by rw [tv]; exact h64, hc68, by rw [tv]; exact hcv⟩, by rw [tv, ta, tb, te, aI_sA, up2_ne (by decide), aI_sA, up2_at], by rw [tv, ta, tb, te]; rfl⟩)
                refine V_iload E dX11_cut_174 rfl ?_
                refine V_ifeq_b (tgt := 183) E dX11_cut_176 (by decide) (fun hc176 => ?_) (fun hc176 => ?_)
                · refine V_iload E dX11_cut_183 rfl ?_
                  refine V_ifeq_b (tgt := 192) E dX11_cut_185 (by decide) (fun hc185 => ?_) (fun hc185 => ?_)
                  · refine V_iconst (v := 3) E dX11_cut_192 (by decide) ?_
                    exact V_cvi (y := nI (gCut A v a b e)) (by rw [gCut_3 hc176 hc185]; rfl) J193
                  · refine V_iconst (v := 2) E dX11_cut_188 (by decide) ?_
                    refine V_goto (tgt := 193) E dX11_cut_189 (by decide) ?_
                    exact V_cvi (y := nI (gCut A v a b e)) (by rw [gCut_2 hc176 hc185]; rfl) J193
                · refine V_iconst (v := 1) E dX11_cut_179 (by decide) ?_
                  refine V_goto (tgt := 193) E dX11_cut_180 (by decide) ?_
                  exact V_cvi (y := nI (gCut A v a b e)) (by rw [gCut_1 hc176]; rfl) J193
              refine V_iload_n E dX11_cut_144 rfl ?_
              refine V_iconst (v := 4) E dX11_cut_145 (by decide) ?_
              refine V_icmp_gt (tgt := 166) E dX11_cut_146 (by decide) (fun h146 => ?_) (fun h146 => ?_)
              · have g146 : ¬ a ≤ 4 := fun q => absurd (nI_le (a := a) (b := 4) q (by omega)) (Int32.not_le.mpr h146)
                refine V_iconst (v := 0) E dX11_cut_166 (by decide) ?_
                exact V_cvi (y := bi (c2Cut a b e)) (bi_f (by first | exact fun q => g146 q.1 | exact fun q => g152 q.2.1 | exact fun q => g159 q.2.2)).symm J167
              · have g146 : a ≤ 4 := (nI_leI (a := a) (b := 4) (by omega) (by omega)).mp (Int32.not_lt.mp h146)
                refine V_iload_n E dX11_cut_149 rfl ?_
                refine V_bipush (v := 8) E dX11_cut_150 (by decide) ?_
                refine V_icmp_gt (tgt := 166) E dX11_cut_152 (by decide) (fun h152 => ?_) (fun h152 => ?_)
                · have g152 : ¬ b ≤ 8 := fun q => absurd (nI_le (a := b) (b := 8) q (by omega)) (Int32.not_le.mpr h152)
                  refine V_iconst (v := 0) E dX11_cut_166 (by decide) ?_
                  exact V_cvi (y := bi (c2Cut a b e)) (bi_f (by first | exact fun q => g146 q.1 | exact fun q => g152 q.2.1 | exact fun q => g159 q.2.2)).symm J167
                · have g152 : b ≤ 8 := (nI_leI (a := b) (b := 8) (by omega) (by omega)).mp (Int32.not_lt.mp h152)
                  refine V_iload E dX11_cut_155 rfl ?_
                  refine V_bipush (v := 6) E dX11_cut_157 (by decide) ?_
                  refine V_icmp_gt (tgt := 166) E dX11_cut_159 (by decide) (fun h159 => ?_) (fun h159 => ?_)
                  · have g159 : ¬ e ≤ 6 := fun q => absurd (nI_le (a := e) (b := 6) q (by omega)) (Int32.not_le.mpr h159)
                    refine V_iconst (v := 0) E dX11_cut_166 (by decide) ?_
                    exact V_cvi (y := bi (c2Cut a b e)) (bi_f (by first | exact fun q => g146 q.1 | exact fun q => g152 q.2.1 | exact fun q => g159 q.2.2)).symm J167
                  · have g159 : e ≤ 6 := (nI_leI (a := e) (b := 6) (by omega) (by omega)).mp (Int32.not_lt.mp h159)
                    refine V_iconst (v := 1) E dX11_cut_162 (by decide) ?_
                    refine V_goto (tgt := 167) E dX11_cut_163 (by decide) ?_
                    exact V_cvi (y := bi (c2Cut a b e)) (bi_t ⟨g146, g152, g159⟩).symm J167
            refine V_iload_n E dX11_cut_105 rfl ?_
            refine V_iconst (v := 3) E dX11_cut_106 (by decide) ?_
            refine V_icmp_gt (tgt := 141) E dX11_cut_107 (by decide) (fun h107 => ?_) (fun h107 => ?_)
            · have g107 : ¬ a ≤ 3 := fun q => absurd (nI_le (a := a) (b := 3) q (by omega)) (Int32.not_le.mpr h107)
              refine V_iconst (v := 0) E dX11_cut_141 (by decide) ?_
              exact V_cvi (y := bi (c1Cut A v a b e)) (bi_f (by first | exact fun q => g107 q.1 | exact fun q => g112 q.2.1 | exact fun q => g118 q.2.2.1 | exact fun q => hc134 ⟨by rw [hV.T v (by omega)]; exact nI_le (a := 50) (b := vT A v) q.2.2.2.1 (by omega), by rw [hV.T v (by omega)]; exact nI_le (a := vT A v) (b := 90) q.2.2.2.2 (by omega)⟩)).symm J142
            · have g107 : a ≤ 3 := (nI_leI (a := a) (b := 3) (by omega) (by omega)).mp (Int32.not_lt.mp h107)
              refine V_iload_n E dX11_cut_110 rfl ?_
              refine V_iconst (v := 3) E dX11_cut_111 (by decide) ?_
              refine V_icmp_gt (tgt := 141) E dX11_cut_112 (by decide) (fun h112 => ?_) (fun h112 => ?_)
              · have g112 : ¬ b ≤ 3 := fun q => absurd (nI_le (a := b) (b := 3) q (by omega)) (Int32.not_le.mpr h112)
                refine V_iconst (v := 0) E dX11_cut_141 (by decide) ?_
                exact V_cvi (y := bi (c1Cut A v a b e)) (bi_f (by first | exact fun q => g107 q.1 | exact fun q => g112 q.2.1 | exact fun q => g118 q.2.2.1 | exact fun q => hc134 ⟨by rw [hV.T v (by omega)]; exact nI_le (a := 50) (b := vT A v) q.2.2.2.1 (by omega), by rw [hV.T v (by omega)]; exact nI_le (a := vT A v) (b := 90) q.2.2.2.2 (by omega)⟩)).symm J142
              · have g112 : b ≤ 3 := (nI_leI (a := b) (b := 3) (by omega) (by omega)).mp (Int32.not_lt.mp h112)
                refine V_iload E dX11_cut_115 rfl ?_
                refine V_iconst (v := 3) E dX11_cut_117 (by decide) ?_
                refine V_icmp_gt (tgt := 141) E dX11_cut_118 (by decide) (fun h118 => ?_) (fun h118 => ?_)
                · have g118 : ¬ e ≤ 3 := fun q => absurd (nI_le (a := e) (b := 3) q (by omega)) (Int32.not_le.mpr h118)
                  refine V_iconst (v := 0) E dX11_cut_141 (by decide) ?_
                  exact V_cvi (y := bi (c1Cut A v a b e)) (bi_f (by first | exact fun q => g107 q.1 | exact fun q => g112 q.2.1 | exact fun q => g118 q.2.2.1 | exact fun q => hc134 ⟨by rw [hV.T v (by omega)]; exact nI_le (a := 50) (b := vT A v) q.2.2.2.1 (by omega), by rw [hV.T v (by omega)]; exact nI_le (a := vT A v) (b := 90) q.2.2.2.2 (by omega)⟩)).symm J142
                · have g118 : e ≤ 3 := (nI_leI (a := e) (b := 3) (by omega) (by omega)).mp (Int32.not_lt.mp h118)
                  refine V_aload_n E dX11_cut_121 rfl ?_
                  refine V_getR E fl_X11_19 dX11_cut_122 rfl hM.o (hM.r 9 (by decide)) ?_
                  refine V_iload_n E dX11_cut_125 rfl ?_
                  refine V_ia (j := v) E dX11_cut_126 (hM.k 9 21 rfl (by decide)) (@rfl _ (nI (v))) (hM.l 9 100 rfl (by decide)) (by omega) (by decide) ?_
                  refine V_bipush (v := 50) E dX11_cut_127 (by decide) ?_
                  refine V_bipush (v := 90) E dX11_cut_129 (by decide) ?_
                  refine V_callS E (cm_in (x_l X) 0 S _ _ _) ml_X11_115 ms_X11_in dX11_cut_131 rfl (by simp [Value.category]) (by omega) (by omega) (by omega) (fun r S2 hp => ?_)
                  obtain ⟨rfl, hS2⟩ := hp
                  obtain rfl := hS2.symm
                  refine V_ifeq_b (tgt := 141) E dX11_cut_134 (by decide) (fun hc134 => ?_) (fun hc134 => ?_)
                  · refine V_iconst (v := 0) E dX11_cut_141 (by decide) ?_
                    exact V_cvi (y := bi (c1Cut A v a b e)) (bi_f (by first | exact fun q => g107 q.1 | exact fun q => g112 q.2.1 | exact fun q => g118 q.2.2.1 | exact fun q => hc134 ⟨by rw [hV.T v (by omega)]; exact nI_le (a := 50) (b := vT A v) q.2.2.2.1 (by omega), by rw [hV.T v (by omega)]; exact nI_le (a := vT A v) (b := 90) q.2.2.2.2 (by omega)⟩)).symm J142
                  · refine V_iconst (v := 1) E dX11_cut_137 (by decide) ?_
                    refine V_goto (tgt := 142) E dX11_cut_138 (by decide) ?_
                    exact V_cvi (y := bi (c1Cut A v a b e)) (bi_t ⟨g107, g112, g118, by have := (nI_leI (a := 50) (b := vT A v) (by omega) (by omega)).mp (by have := hc134.1; rw [hV.T v (by omega)] at this; exact this); have := (nI_leI (a := vT A v) (b := 90) (by omega) (by omega)).mp (by have := hc134.2; rw [hV.T v (by omega)] at this; exact this); omega⟩).symm J142
          refine V_aload_n E dX11_cut_73 rfl ?_
          refine V_getR E fl_X11_29 dX11_cut_74 rfl hM.o (hM.r 12 (by decide)) ?_
          refine V_iload_n E dX11_cut_77 rfl ?_
          refine V_ia (j := v) E dX11_cut_78 (hM.k 12 21 rfl (by decide)) (@rfl _ (nI (v))) (hM.l 12 100 rfl (by decide)) (by omega) (by decide) ?_
          refine V_iconst (v := 1) E dX11_cut_79 (by decide) ?_
          refine V_icmp_gt (tgt := 103) E dX11_cut_80 (by decide) (fun h80 => ?_) (fun h80 => ?_)
          · have g80 : 1 < vC A v := by rw [hV.C v (by omega)] at h80; exact (nI_ltI (a := 1) (b := vC A v) (by omega) (by omega)).mp h80
            refine V_iconst (v := -1) E dX11_cut_103 (by decide) ?_
            exact V_iret E R dX11_cut_104 rfl (Nat.le_refl _) (Nat.le_refl _) (Or.inr ⟨fun q => by have := q.2.2.2; rw [tv] at this; omega, rfl, rfl⟩)
          · have g80 : vC A v ≤ 1 := by rw [hV.C v (by omega)] at h80; rcases Nat.lt_or_ge 1 (vC A v) with q | q; exact absurd (nI_lt (a := 1) q (by omega)) h80; exact q
            refine V_aload_n E dX11_cut_83 rfl ?_
            refine V_getR E fl_X11_29 dX11_cut_84 rfl hM.o (hM.r 12 (by decide)) ?_
            refine V_iload_n E dX11_cut_87 rfl ?_
            refine V_ia (j := v) E dX11_cut_88 (hM.k 12 21 rfl (by decide)) (@rfl _ (nI (v))) (hM.l 12 100 rfl (by decide)) (by omega) (by decide) ?_
            refine V_iconst (v := 1) E dX11_cut_89 (by decide) ?_
            refine V_icmp_ne (tgt := 105) E dX11_cut_90 (by decide) (fun h90 => ?_) (fun h90 => ?_)
            · have g90 : vC A v ≠ 1 := fun e => h90 (by rw [hV.C v (by omega), e]; rfl)
              exact K105 (by omega)
            · have g90 : vC A v = 1 := by rw [hV.C v (by omega)] at h90; exact (nI_eq (a := vC A v) (b := 1) (by omega) (by omega)).mp h90
              refine V_aload_n E dX11_cut_93 rfl ?_
              refine V_getR E fl_X11_26 dX11_cut_94 rfl hM.o (hM.r 11 (by decide)) ?_
              refine V_iload_n E dX11_cut_97 rfl ?_
              refine V_ia (j := v) E dX11_cut_98 (hM.k 11 21 rfl (by decide)) (@rfl _ (nI (v))) (hM.l 11 100 rfl (by decide)) (by omega) (by decide) ?_
              refine V_iconst (v := 3) E dX11_cut_99 (by decide) ?_
              refine V_icmp_eq (tgt := 105) E dX11_cut_100 (by decide) (fun h100 => ?_) (fun h100 => ?_)
              · have g100 : vG A v = 3 := by rw [hV.G v (by omega)] at h100; exact (nI_eq (a := vG A v) (b := 3) (by omega) (by omega)).mp h100
                exact K105 (by omega)
              · have g100 : vG A v ≠ 3 := fun e => h100 (by rw [hV.G v (by omega), e]; rfl)
                refine V_iconst (v := -1) E dX11_cut_103 (by decide) ?_
                exact V_iret E R dX11_cut_104 rfl (Nat.le_refl _) (Nat.le_refl _) (Or.inr ⟨fun q => by have := q.2.2.2; rw [tv] at this; omega, rfl, rfl⟩)
        · refine V_iconst (v := -1) E dX11_cut_71 (by decide) ?_
          exact V_iret E R dX11_cut_72 rfl (Nat.le_refl _) (Nat.le_refl _) (Or.inr ⟨fun q => hc68 q.2.2.1, rfl, rfl⟩)
  refine V_iload_n E dX11_cut_0 rfl ?_
  refine V_iconst (v := 0) E dX11_cut_1 (by decide) ?_
  refine V_bipush (v := 100) E dX11_cut_2 (by decide) ?_
  refine V_callS E (cm_in (x_l X) 0 S _ _ _) ml_X11_115 ms_X11_in dX11_cut_4 rfl (by simp [Value.category]) (by omega) (by omega) (by omega) (fun r S2 hp => ?_)
  obtain ⟨rfl, hS2⟩ := hp
  obtain rfl := hS2.symm
  refine V_ifeq_b (tgt := 46) E dX11_cut_7 (by decide) (fun hc7 => ?_) (fun hc7 => ?_)
  · have w7 : ¬ wi_ m 0 100 := fun q => hc7 ((wi_iff (by decide) (by decide)).mpr q)
    refine V_iconst (v := 0) E dX11_cut_46 (by decide) ?_
    exact V_cvi (y := bi (cCut m s f)) (bi_f (by first | exact fun q => w7 q.1.1 | exact fun q => w17 q.1.2.1 | exact fun q => w28 q.1.2.2)).symm J47
  · have w7 : wi_ m 0 100 := (wi_iff (by decide) (by decide)).mp hc7
    refine V_iload_n E dX11_cut_10 rfl ?_
    refine V_iconst (v := 0) E dX11_cut_11 (by decide) ?_
    refine V_bipush (v := 100) E dX11_cut_12 (by decide) ?_
    refine V_callS E (cm_in (x_l X) 0 S _ _ _) ml_X11_115 ms_X11_in dX11_cut_14 rfl (by simp [Value.category]) (by omega) (by omega) (by omega) (fun r S2 hp => ?_)
    obtain ⟨rfl, hS2⟩ := hp
    obtain rfl := hS2.symm
    refine V_ifeq_b (tgt := 46) E dX11_cut_17 (by decide) (fun hc17 => ?_) (fun hc17 => ?_)
    · have w17 : ¬ wi_ s 0 100 := fun q => hc17 ((wi_iff (by decide) (by decide)).mpr q)
      refine V_iconst (v := 0) E dX11_cut_46 (by decide) ?_
      exact V_cvi (y := bi (cCut m s f)) (bi_f (by first | exact fun q => w7 q.1.1 | exact fun q => w17 q.1.2.1 | exact fun q => w28 q.1.2.2)).symm J47
    · have w17 : wi_ s 0 100 := (wi_iff (by decide) (by decide)).mp hc17
      refine V_iload E dX11_cut_20 rfl ?_
      refine V_iconst (v := 0) E dX11_cut_22 (by decide) ?_
      refine V_bipush (v := 100) E dX11_cut_23 (by decide) ?_
      refine V_callS E (cm_in (x_l X) 0 S _ _ _) ml_X11_115 ms_X11_in dX11_cut_25 rfl (by simp [Value.category]) (by omega) (by omega) (by omega) (fun r S2 hp => ?_)
      obtain ⟨rfl, hS2⟩ := hp
      obtain rfl := hS2.symm
      refine V_ifeq_b (tgt := 46) E dX11_cut_28 (by decide) (fun hc28 => ?_) (fun hc28 => ?_)
      · have w28 : ¬ wi_ f 0 100 := fun q => hc28 ((wi_iff (by decide) (by decide)).mpr q)
        refine V_iconst (v := 0) E dX11_cut_46 (by decide) ?_
        exact V_cvi (y := bi (cCut m s f)) (bi_f (by first | exact fun q => w7 q.1.1 | exact fun q => w17 q.1.2.1 | exact fun q => w28 q.1.2.2)).symm J47
      · have w28 : wi_ f 0 100 := (wi_iff (by decide) (by decide)).mp hc28
        refine V_iload_n E dX11_cut_31 rfl ?_
        refine V_iload_n E dX11_cut_32 rfl ?_
        refine V_iadd E dX11_cut_33 ?_
        refine V_iload E dX11_cut_34 rfl ?_
        refine V_iadd E dX11_cut_36 ?_
        refine V_bipush (v := 100) E dX11_cut_37 (by decide) ?_
        refine V_icmp_gt (tgt := 46) E dX11_cut_39 (by decide) (fun h39 => ?_) (fun h39 => ?_)
        · obtain ⟨a, rfl, ta, la, ua, -⟩ := wi_nat w7 (by omega); obtain ⟨b, rfl, tb, lb, ub, -⟩ := wi_nat w17 (by omega); obtain ⟨e, rfl, te, le_, ue, -⟩ := wi_nat w28 (by omega)
          have g39 : ¬ a + b + e ≤ 100 := fun q => absurd (nI_le (a := a + b + e) (b := 100) q (by omega)) (Int32.not_le.mpr (by rw [nI_add, nI_add] at h39; exact h39))
          refine V_iconst (v := 0) E dX11_cut_46 (by decide) ?_
          exact V_cvi (y := bi (cCut (nI a) (nI b) (nI e))) (bi_f (fun q => g39 (by have := q.2; rw [ta, tb, te] at this; exact this))).symm J47
        · obtain ⟨a, rfl, ta, la, ua, -⟩ := wi_nat w7 (by omega); obtain ⟨b, rfl, tb, lb, ub, -⟩ := wi_nat w17 (by omega); obtain ⟨e, rfl, te, le_, ue, -⟩ := wi_nat w28 (by omega)
          have g39 : a + b + e ≤ 100 := (nI_leI (a := a + b + e) (b := 100) (by omega) (by omega)).mp (by rw [nI_add, nI_add] at h39; exact Int32.not_lt.mp h39)
          refine V_iconst (v := 1) E dX11_cut_42 (by decide) ?_
          refine V_goto (tgt := 47) E dX11_cut_43 (by decide) ?_
          exact V_cvi (y := bi (cCut (nI a) (nI b) (nI e))) (bi_t ⟨⟨w7, w17, w28⟩, by rw [ta, tb, te]; exact g39⟩).symm J47
