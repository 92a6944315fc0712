theorem cm_worked0 (l : Launch) (d : Nat) (S : GS) (g q p : Int64) : GC l (d) yX11_worked cX11_worked 15 (some FieldType.long) [.ref 0, .int (-1), .long g, .long q, .long p] S (fun r S2 => r = some (.long g) ∧ S2 = S) (0) (0) := by
  refine GC.ofV (by decide) (Nat.le_of_ble_eq_true rfl) (fun X hl E R hnm => ?_)
  subst hl
  have E : En X RX11 cX11_worked 15 (d) (0) (0) := E
  have R : Rt X (some FieldType.long) (fun r S2 => r = some (.long g) ∧ S2 = S) := R
  refine V_iload_n E dX11_worked_0 rfl ?_
  refine V_iconst (v := -1) E dX11_worked_1 (by decide) ?_
  refine V_icmp_ne (tgt := 7) E dX11_worked_2 (by decide) (fun hx => absurd hx (fun z => z rfl)) (fun _ => ?_)
  refine V_lload_n E dX11_worked_5 rfl ?_
  exact V_lret E R dX11_worked_6 (Nat.le_refl _) (Nat.le_refl _) ⟨rfl, rfl⟩

theorem cm_worked (l : Launch) (d : Nat) (S : GS) (B : AB) (hB : BOK B) (hM : MOK S) (hV : MVo S B) (v : Nat) (hv : v < bn B) (g q p : Int64) : GC l (d) yX11_worked cX11_worked 15 (some FieldType.long) [.ref 0, .int (nI v), .long g, .long q, .long p] S (fun r S2 => r = some (.long (tcl (WK (bT B v) g q p 0 [(0, 1)] 0))) ∧ ∃ f, S2 = rL S 27 f) (0) (0) := by
  refine GC.ofV (by decide) (Nat.le_of_ble_eq_true rfl) (fun X hl E R hnm => ?_)
  subst hl
  have E : En X RX11 cX11_worked 15 (d) (0) (0) := E
  have R : Rt X (some FieldType.long) (fun r S2 => r = some (.long (tcl (WK (bT B v) g q p 0 [(0, 1)] 0))) ∧ ∃ f, S2 = rL S 27 f) := R
  have hn := hB.1
  obtain ⟨mm, hmm⟩ := (hV.2 v hv).2.2 g q p
  refine V_iload_n E dX11_worked_0 rfl ?_
  refine V_iconst (v := -1) E dX11_worked_1 (by decide) ?_
  refine V_icmp_ne (tgt := 7) E dX11_worked_2 (by decide) (fun _ => ?_) (fun hx => absurd hx (nIm1 (by omega)))
  refine V_iconst (v := 0) E dX11_worked_7 (by decide) ?_
  refine V_istore E dX11_worked_8 (by decide) rfl ?_
  refine V_sipush (v := 420) E dX11_worked_10 (by decide) ?_
  refine V_iload_n E dX11_worked_13 rfl ?_
  refine V_imul E dX11_worked_14 ?_
  refine V_cvi (y := nI ((420 * v))) (ni_mul (a := 420) (b := v) (rfl : (420 : Int32) = nI 420) (@rfl _ (nI (v)))) ?_
  refine V_istore E dX11_worked_15 (by decide) rfl ?_
  have loop : ∀ m k s f, pmR (fun k => aI S 21 (420 * v + k)) 420 g q p m k s = some (WK (bT B v) g q p 0 [(0, 1)] 0) → Pst s f → s.length ≤ k → V X 17 [some (.ref (0)), some (.int (nI (v))), some (.long (g)), none, some (.long (q)), none, some (.long (p)), none, some (.int (nI (s.length))), some (.int (nI (420 * v + k))), none, none, none, none, none] [] (rL S 27 f) 0 0 := by
    intro m
    induction m with
    | zero => intro k s f hp; exact absurd hp (by simp [pmR])
    | succ m ih =>
      intro k s f hp hs hk
      have h420 := pm_lt hp
      refine V_aload_n E dX11_worked_17 rfl ?_
      refine V_getR E fl_X11_45 dX11_worked_18 rfl hM.o (hM.r 21 (by decide)) ?_
      refine V_iload E dX11_worked_21 rfl ?_
      refine V_ia (j := 420 * v + k) E dX11_worked_23 (hM.k 21 21 rfl (by decide)) (@rfl _ (nI (420 * v + k))) (hM.l 21 21000 rfl (by decide)) (by omega) (by decide) ?_
      refine V_bipush (v := 7) E dX11_worked_24 (by decide) ?_
      refine V_icmp_eq (tgt := 182) E dX11_worked_26 (by decide) (fun h7 => ?_) (fun h7 => ?_)
      · have e7 := pm_7 hp h7
        subst e7
        refine V_aload_n E dX11_worked_182 rfl ?_
        refine V_getR E fl_X11_57 dX11_worked_183 rfl hM.o (hM.r 27 (by decide)) ?_
        refine V_iconst (v := 0) E dX11_worked_186 (by decide) ?_
        refine V_la (j := 0) E dX11_worked_187 (hM.k 27 22 rfl (by decide)) (rfl : (0 : Int32) = nI 0) (hM.l 27 420 rfl (by decide)) (by omega) (by decide) ?_
        refine V_cvl (y := WK (bT B v) g q p 0 [(0, 1)] 0) ((rL_r S 27 f 0).trans hs.1) ?_
        refine V_lstore E dX11_worked_188 (by decide) rfl ?_
        refine V_lload E dX11_worked_190 rfl ?_
        refine V_lconst (v := 0) E dX11_worked_192 (by decide) ?_
        refine V_lcmp E dX11_worked_193 ?_
        refine V_if_ge (tgt := 201) E dX11_worked_194 (by decide) (fun h194 => ?_) (fun h194 => ?_)
        · have g194 : ¬ WK (bT B v) g q p 0 [(0, 1)] 0 < 0 := lcm_ge h194
          refine V_lload E dX11_worked_201 rfl ?_
          refine V_ldc2 E dX11_worked_203 kl_X11_210 ?_
          refine V_lcmp E dX11_worked_206 ?_
          refine V_if_le (tgt := 216) E dX11_worked_207 (by decide) (fun h207 => ?_) (fun h207 => ?_)
          · have g207 : ¬ 1000000000 < WK (bT B v) g q p 0 [(0, 1)] 0 := lcm_le h207
            refine V_lload E dX11_worked_216 rfl ?_
            exact V_lret E R dX11_worked_218 (Nat.le_refl _) (Nat.le_refl _) ⟨congrArg (fun z => some (Value.long z)) (((if_neg g194).trans (if_neg g207)).symm), f, rfl⟩
          · have g207 : 1000000000 < WK (bT B v) g q p 0 [(0, 1)] 0 := lcm_gt h207
            refine V_ldc2 E dX11_worked_210 kl_X11_210 ?_
            refine V_goto (tgt := 218) E dX11_worked_213 (by decide) ?_
            exact V_lret E R dX11_worked_218 (Nat.le_refl _) (Nat.le_refl _) ⟨congrArg (fun z => some (Value.long z)) (((if_neg g194).trans (if_pos g207)).symm), f, rfl⟩
        · have g194 : WK (bT B v) g q p 0 [(0, 1)] 0 < 0 := lcm_lt h194
          refine V_lconst (v := 0) E dX11_worked_197 (by decide) ?_
          refine V_goto (tgt := 218) E dX11_worked_198 (by decide) ?_
          exact V_lret E R dX11_worked_218 (Nat.le_refl _) (Nat.le_refl _) ⟨congrArg (fun z => some (Value.long z)) ((if_pos g194).symm), f, rfl⟩
      · refine V_aload_n E dX11_worked_29 rfl ?_
        refine V_getR E fl_X11_45 dX11_worked_30 rfl hM.o (hM.r 21 (by decide)) ?_
        refine V_iload E dX11_worked_33 rfl ?_
        refine V_ia (j := 420 * v + k) E dX11_worked_35 (hM.k 21 21 rfl (by decide)) (@rfl _ (nI (420 * v + k))) (hM.l 21 21000 rfl (by decide)) (by omega) (by decide) ?_
        refine V_istore E dX11_worked_36 (by decide) rfl ?_
        refine V_iinc (v := nI (420 * v + k + 1)) E dX11_worked_38 rfl (ni_inc (a := 420 * v + k) (z := 1) (@rfl _ (nI (420 * v + k)))) (by decide) rfl ?_
        refine V_iload E dX11_worked_41 rfl ?_
        refine V_iconst (v := 4) E dX11_worked_43 (by decide) ?_
        refine V_icmp_ge (tgt := 114) E dX11_worked_44 (by decide) (fun h44 => ?_) (fun h44 => ?_)
        · have h4 : ¬ aI S 21 (420 * v + k) < 4 := Int32.not_lt.mpr h44
          obtain ⟨b, a, r, rfl, hp2⟩ := pm_op hp h7 h4
          have hk2 : r.length + 1 + 1 ≤ k := by simp only [List.length_cons] at hk; exact hk
          refine V_iinc (v := nI (r.length + 1)) E dX11_worked_114 rfl (dec2 (r.length + 1)) (by decide) rfl ?_
          refine V_aload_n E dX11_worked_117 rfl ?_
          refine V_getR E fl_X11_57 dX11_worked_118 rfl hM.o (hM.r 27 (by decide)) ?_
          refine V_iload E dX11_worked_121 rfl ?_
          refine V_iconst (v := 1) E dX11_worked_123 (by decide) ?_
          refine V_isub E dX11_worked_124 ?_
          refine V_cvi (y := nI (r.length)) (ni_sub (a := r.length + 1) (b := 1) (@rfl _ (nI (r.length + 1))) (rfl : (1 : Int32) = nI 1) (by omega)) ?_
          refine V_la (j := r.length) E dX11_worked_125 (hM.k 27 22 rfl (by decide)) (@rfl _ (nI (r.length))) (hM.l 27 420 rfl (by decide)) (by omega) (by decide) ?_
          refine V_cvl (y := a) ((rL_r S 27 f r.length).trans hs.2.1) ?_
          refine V_lstore E dX11_worked_126 (by decide) rfl ?_
          refine V_aload_n E dX11_worked_128 rfl ?_
          refine V_getR E fl_X11_57 dX11_worked_129 rfl hM.o (hM.r 27 (by decide)) ?_
          refine V_iload E dX11_worked_132 rfl ?_
          refine V_la (j := r.length + 1) E dX11_worked_134 (hM.k 27 22 rfl (by decide)) (@rfl _ (nI (r.length + 1))) (hM.l 27 420 rfl (by decide)) (by omega) (by decide) ?_
          refine V_cvl (y := b) ((rL_r S 27 f (r.length + 1)).trans hs.1) ?_
          refine V_lstore E dX11_worked_135 (by decide) rfl ?_
          refine V_aload_n E dX11_worked_137 rfl ?_
          refine V_getR E fl_X11_57 dX11_worked_138 rfl hM.o (hM.r 27 (by decide)) ?_
          refine V_iload E dX11_worked_141 rfl ?_
          refine V_iconst (v := 1) E dX11_worked_143 (by decide) ?_
          refine V_isub E dX11_worked_144 ?_
          refine V_cvi (y := nI r.length) (ni_sub (a := r.length + 1) (b := 1) (@rfl _ (nI (r.length + 1))) (rfl : (1 : Int32) = nI 1) (by omega)) ?_
          have J178 : V X 178 [some (.ref (0)), some (.int (nI (v))), some (.long (g)), none, some (.long (q)), none, some (.long (p)), none, some (.int (nI (r.length + 1))), some (.int (nI (420 * v + k + 1))), some (.int ((aI S 21 (420 * v + k)))), some (.long (a)), none, some (.long (b)), none] [.long ((if aI S 21 (420 * v + k) = 4 then a + b else if aI S 21 (420 * v + k) = 5 then a - b else a * b)), .int (nI r.length), .ref 27] (rL S 27 f) 0 0 := by
            refine V_las (j := r.length) E dX11_worked_178 (hM.k 27 22 rfl (by decide)) (@rfl _ (nI (r.length))) (hM.l 27 420 rfl (by decide)) (by omega) (by decide) ?_
            refine V_cvS (sL_rL S 27 f r.length (if aI S 21 (420 * v + k) = 4 then a + b else if aI S 21 (420 * v + k) = 5 then a - b else a * b)) ?_
            refine V_goto (tgt := 17) E dX11_worked_179 (by decide) ?_
            refine V_lo (lo' := [some (.ref (0)), some (.int (nI (v))), some (.long (g)), none, some (.long (q)), none, some (.long (p)), none, some (.int (nI (r.length + 1))), some (.int (nI (420 * v + k + 1))), none, none, none, none, none]) (And.intro rfl (And.intro rfl (And.intro rfl (And.intro rfl (And.intro rfl (And.intro rfl (And.intro rfl True.intro))))))) ?_
            exact ih (k + 1) (_ :: r) _ hp2 (Pst.op hs _) (by simp only [List.length_cons] at hk ⊢; omega)
          refine V_iload E dX11_worked_145 rfl ?_
          refine V_iconst (v := 4) E dX11_worked_147 (by decide) ?_
          refine V_icmp_ne (tgt := 159) E dX11_worked_148 (by decide) (fun g4 => ?_) (fun g4 => ?_)
          · refine V_iload E dX11_worked_159 rfl ?_
            refine V_iconst (v := 5) E dX11_worked_161 (by decide) ?_
            refine V_icmp_ne (tgt := 173) E dX11_worked_162 (by decide) (fun g5 => ?_) (fun g5 => ?_)
            · refine V_lload E dX11_worked_173 rfl ?_
              refine V_lload E dX11_worked_175 rfl ?_
              refine V_lmul E dX11_worked_177 ?_
              exact V_cvl (y := (if aI S 21 (420 * v + k) = 4 then a + b else if aI S 21 (420 * v + k) = 5 then a - b else a * b)) (((if_neg g4).trans (if_neg g5)).symm) J178
            · refine V_lload E dX11_worked_165 rfl ?_
              refine V_lload E dX11_worked_167 rfl ?_
              refine V_lsub E dX11_worked_169 ?_
              refine V_goto (tgt := 178) E dX11_worked_170 (by decide) ?_
              exact V_cvl (y := (if aI S 21 (420 * v + k) = 4 then a + b else if aI S 21 (420 * v + k) = 5 then a - b else a * b)) (((if_neg g4).trans (if_pos g5)).symm) J178
          · refine V_lload E dX11_worked_151 rfl ?_
            refine V_lload E dX11_worked_153 rfl ?_
            refine V_ladd E dX11_worked_155 ?_
            refine V_goto (tgt := 178) E dX11_worked_156 (by decide) ?_
            exact V_cvl (y := (if aI S 21 (420 * v + k) = 4 then a + b else if aI S 21 (420 * v + k) = 5 then a - b else a * b)) ((if_pos g4).symm) J178
        · have h4 : aI S 21 (420 * v + k) < 4 := Int32.not_le.mp h44
          have hp2 : pmR (fun k => aI S 21 (420 * v + k)) 420 g q p m (if aI S 21 (420 * v + k) = 0 then k + 2 else k + 1) ((if aI S 21 (420 * v + k) = 0 then (aI S 21 (420 * v + (k + 1))).toInt64 else if aI S 21 (420 * v + k) = 1 then g else if aI S 21 (420 * v + k) = 2 then q else p) :: s) = some (WK (bT B v) g q p 0 [(0, 1)] 0) := pm_push hp h7 h4
          have h422 := pm_lt hp2
          refine V_aload_n E dX11_worked_47 rfl ?_
          refine V_getR E fl_X11_57 dX11_worked_48 rfl hM.o (hM.r 27 (by decide)) ?_
          refine V_iload E dX11_worked_51 rfl ?_
          have J92 : V X 92 [some (.ref (0)), some (.int (nI (v))), some (.long (g)), none, some (.long (q)), none, some (.long (p)), none, some (.int (nI (s.length))), some (.int (nI (420 * v + k + 1))), some (.int ((aI S 21 (420 * v + k)))), none, none, none, none] [.long ((if aI S 21 (420 * v + k) = 0 then (aI S 21 (420 * v + (k + 1))).toInt64 else if aI S 21 (420 * v + k) = 1 then g else if aI S 21 (420 * v + k) = 2 then q else p)), .int (nI s.length), .ref 27] (rL S 27 f) 0 0 := by
            refine V_las (j := s.length) E dX11_worked_92 (hM.k 27 22 rfl (by decide)) (@rfl _ (nI (s.length))) (hM.l 27 420 rfl (by decide)) (by omega) (by decide) ?_
            refine V_cvS (sL_rL S 27 f s.length (if aI S 21 (420 * v + k) = 0 then (aI S 21 (420 * v + (k + 1))).toInt64 else if aI S 21 (420 * v + k) = 1 then g else if aI S 21 (420 * v + k) = 2 then q else p)) ?_
            refine V_iload E dX11_worked_93 rfl ?_
            refine V_iload E dX11_worked_95 rfl ?_
            refine V_if_ne (tgt := 104) E dX11_worked_97 (by decide) (fun h0 => ?_) (fun h0 => ?_)
            · rw [if_neg h0] at hp2
              refine V_iconst (v := 0) E dX11_worked_104 (by decide) ?_
              refine V_iadd E dX11_worked_105 ?_
              refine V_cvi (y := nI ((420 * v + k + 1 + 0))) (ni_add (a := 420 * v + k + 1) (b := 0) (@rfl _ (nI (420 * v + k + 1))) (rfl : (0 : Int32) = nI 0)) ?_
              refine V_istore E dX11_worked_106 (by decide) rfl ?_
              refine V_iinc (v := nI (s.length + 1)) E dX11_worked_108 rfl (ni_inc (a := s.length) (z := 1) (@rfl _ (nI (s.length)))) (by decide) rfl ?_
              refine V_goto (tgt := 179) E dX11_worked_111 (by decide) ?_
              refine V_goto (tgt := 17) E dX11_worked_179 (by decide) ?_
              refine V_lo (lo' := [some (.ref (0)), some (.int (nI (v))), some (.long (g)), none, some (.long (q)), none, some (.long (p)), none, some (.int (nI (s.length + 1))), some (.int (nI ((420 * v + k + 1 + 0)))), none, none, none, none, none]) (And.intro rfl (And.intro rfl (And.intro rfl (And.intro rfl (And.intro rfl (And.intro rfl (And.intro rfl True.intro))))))) ?_
              exact ih (k + 1) (_ :: s) _ hp2 (Pst.push hs _) (by simp only [List.length_cons]; omega)
            · rw [if_pos h0] at hp2
              refine V_iconst (v := 1) E dX11_worked_100 (by decide) ?_
              refine V_goto (tgt := 105) E dX11_worked_101 (by decide) ?_
              refine V_iadd E dX11_worked_105 ?_
              refine V_cvi (y := nI ((420 * v + k + 1 + 1))) (ni_add (a := 420 * v + k + 1) (b := 1) (@rfl _ (nI (420 * v + k + 1))) (rfl : (1 : Int32) = nI 1)) ?_
              refine V_istore E dX11_worked_106 (by decide) rfl ?_
              refine V_iinc (v := nI (s.length + 1)) E dX11_worked_108 rfl (ni_inc (a := s.length) (z := 1) (@rfl _ (nI (s.length)))) (by decide) rfl ?_
              refine V_goto (tgt := 179) E dX11_worked_111 (by decide) ?_
              refine V_goto (tgt := 17) E dX11_worked_179 (by decide) ?_
              refine V_lo (lo' := [some (.ref (0)), some (.int (nI (v))), some (.long (g)), none, some (.long (q)), none, some (.long (p)), none, some (.int (nI (s.length + 1))), some (.int (nI ((420 * v + k + 1 + 1)))), none, none, none, none, none]) (And.intro rfl (And.intro rfl (And.intro rfl (And.intro rfl (And.intro rfl (And.intro rfl (And.intro rfl True.intro))))))) ?_
              exact ih (k + 2) (_ :: s) _ hp2 (Pst.push hs _) (by simp only [List.length_cons]; omega)
          refine V_iload E dX11_worked_53 rfl ?_
          refine V_if_ne (tgt := 69) E dX11_worked_55 (by decide) (fun h0 => ?_) (fun h0 => ?_)
          · refine V_iload E dX11_worked_69 rfl ?_
            refine V_iconst (v := 1) E dX11_worked_71 (by decide) ?_
            refine V_icmp_ne (tgt := 79) E dX11_worked_72 (by decide) (fun h1 => ?_) (fun h1 => ?_)
            · refine V_iload E dX11_worked_79 rfl ?_
              refine V_iconst (v := 2) E dX11_worked_81 (by decide) ?_
              refine V_icmp_ne (tgt := 90) E dX11_worked_82 (by decide) (fun h2 => ?_) (fun h2 => ?_)
              · refine V_lload E dX11_worked_90 rfl ?_
                exact V_cvl (y := (if aI S 21 (420 * v + k) = 0 then (aI S 21 (420 * v + (k + 1))).toInt64 else if aI S 21 (420 * v + k) = 1 then g else if aI S 21 (420 * v + k) = 2 then q else p)) (((if_neg h0).trans ((if_neg h1).trans (if_neg h2))).symm) J92
              · refine V_lload E dX11_worked_85 rfl ?_
                refine V_goto (tgt := 92) E dX11_worked_87 (by decide) ?_
                exact V_cvl (y := (if aI S 21 (420 * v + k) = 0 then (aI S 21 (420 * v + (k + 1))).toInt64 else if aI S 21 (420 * v + k) = 1 then g else if aI S 21 (420 * v + k) = 2 then q else p)) (((if_neg h0).trans ((if_neg h1).trans (if_pos h2))).symm) J92
            · refine V_lload_n E dX11_worked_75 rfl ?_
              refine V_goto (tgt := 92) E dX11_worked_76 (by decide) ?_
              exact V_cvl (y := (if aI S 21 (420 * v + k) = 0 then (aI S 21 (420 * v + (k + 1))).toInt64 else if aI S 21 (420 * v + k) = 1 then g else if aI S 21 (420 * v + k) = 2 then q else p)) (((if_neg h0).trans (if_pos h1)).symm) J92
          · have h00 : aI S 21 (420 * v + k) = 0 := h0
            rw [if_pos h00] at h422
            refine V_aload_n E dX11_worked_58 rfl ?_
            refine V_getR E fl_X11_45 dX11_worked_59 rfl hM.o (hM.r 21 (by decide)) ?_
            refine V_iload E dX11_worked_62 rfl ?_
            refine V_ia (j := 420 * v + k + 1) E dX11_worked_64 (hM.k 21 21 rfl (by decide)) (@rfl _ (nI (420 * v + k + 1))) (hM.l 21 21000 rfl (by decide)) (by omega) (by decide) ?_
            refine V_i2l E dX11_worked_65 rfl ?_
            refine V_goto (tgt := 92) E dX11_worked_66 (by decide) ?_
            exact V_cvl (y := (if aI S 21 (420 * v + k) = 0 then (aI S 21 (420 * v + (k + 1))).toInt64 else if aI S 21 (420 * v + k) = 1 then g else if aI S 21 (420 * v + k) = 2 then q else p)) ((if_pos h0).symm) J92
  refine V_lo (lo' := [some (.ref (0)), some (.int (nI (v))), some (.long (g)), none, some (.long (q)), none, some (.long (p)), none, some (.int (0)), some (.int (nI ((420 * v)))), none, none, none, none, none]) (And.intro rfl (And.intro rfl (And.intro rfl (And.intro rfl (And.intro rfl (And.intro rfl (And.intro rfl True.intro))))))) ?_
  exact V_cvS (rL_self S 27).symm (loop mm 0 [] (aJ S 27) hmm trivial (Nat.le_refl _))
