theorem cm_plans (l : Launch) (d : Nat) (S : GS) (B : AP) (hB : POKa B) (hM : MOK S) (hJ : MPl S B) : GC l (d) yX11_plans cX11_plans 5 (some FieldType.boolean) [.ref 0] S (fun r S2 => r = some (.int (bi (jall B))) ∧ ∃ f, S2 = rA S 43 f ∧ ∀ j, j < jn B → f j = bI (jpl B 60 j)) (0) (0) := by
  refine GC.ofV (by decide) (Nat.le_of_ble_eq_true rfl) (fun X hl E R hnm => ?_)
  subst hl
  have E : En X RX11 cX11_plans 5 (d) (0) (0) := E
  have R : Rt X (some FieldType.boolean) (fun r S2 => r = some (.int (bi (jall B))) ∧ ∃ f, S2 = rA S 43 f ∧ ∀ j, j < jn B → f j = bI (jpl B 60 j)) := R
  have hn := hB.1
  refine V_iconst (v := 0) E dX11_plans_0 (by decide) ?_
  refine V_istore_n E dX11_plans_1 (by decide) rfl ?_
  refine V_cvS (rA_self S 43).symm ?_
  have loop0 : ∀ m p f, p + m = jn B → (∀ j, j < p → f j = -1) → V X 2 [some (.ref (0)), some (.int (nI (p))), none, none, none] [] (rA S 43 f) 0 0 := by
    intro m
    induction m with
    | zero =>
      intro p f hp hf0
      refine V_iload_n E dX11_plans_2 rfl ?_
      refine V_aload_n E dX11_plans_3 rfl ?_
      refine V_getI E fl_X11_245 dX11_plans_4 rfl hM.o ?_
      refine V_ge_yes (a := p) (b := jn B) (tgt := 23) E dX11_plans_7 (by decide) rfl hJ.1 (by omega) (by omega) ?_
      refine V_iconst (v := 0) E dX11_plans_23 (by decide) ?_
      refine V_istore_n E dX11_plans_24 (by decide) rfl ?_
      have outer : ∀ m k f, k + m = 60 → (∀ j, j < jn B → f j = bI (jpl B k j)) → V X 25 [some (.ref (0)), some (.int (nI (k))), none, none, none] [] (rA S 43 f) 0 0 := by
        intro m
        induction m with
        | zero =>
          intro k f hk hf
          have hk6 : k = 60 := by omega
          subst hk6
          refine V_iload_n E dX11_plans_25 rfl ?_
          refine V_bipush (v := 60) E dX11_plans_26 (by decide) ?_
          refine V_ge_yes (a := 60) (b := 60) (tgt := 144) E dX11_plans_28 (by decide) rfl rfl (by omega) (by omega) ?_
          refine V_iconst (v := 0) E dX11_plans_144 (by decide) ?_
          refine V_istore_n E dX11_plans_145 (by decide) rfl ?_
          have hdy := jpl_day (B := B) 60 (by omega)
          have last : ∀ m p, p + m = jn B → (∀ j, j < p → jpl B 60 j ≠ none) → V X 146 [some (.ref (0)), some (.int (nI (p))), none, none, none] [] (rA S 43 f) 0 0 := by
            intro m
            induction m with
            | zero =>
              intro p hp hh
              refine V_iload_n E dX11_plans_146 rfl ?_
              refine V_aload_n E dX11_plans_147 rfl ?_
              refine V_getI E fl_X11_245 dX11_plans_148 rfl hM.o ?_
              refine V_ge_yes (a := p) (b := jn B) (tgt := 172) E dX11_plans_151 (by decide) rfl hJ.1 (by omega) (by omega) ?_
              refine V_iconst (v := 1) E dX11_plans_172 (by decide) ?_
              exact V_iret E R dX11_plans_173 rfl (Nat.le_refl _) (Nat.le_refl _) ⟨by rw [bi_t (c := jall B) (fun j hj => hh j (by omega))], f, rfl, hf⟩
            | succ m ih =>
              intro p hp hh
              have ef : aI (rA S 43 f) 43 p = bI (jpl B 60 p) := (congrFun (va_up_self (aI S) 43 f) p).trans (hf p (by omega))
              refine V_iload_n E dX11_plans_146 rfl ?_
              refine V_aload_n E dX11_plans_147 rfl ?_
              refine V_getI E fl_X11_245 dX11_plans_148 rfl hM.o ?_
              refine V_ge_no (a := p) (b := jn B) (tgt := 172) E dX11_plans_151 (by decide) rfl hJ.1 (by omega) (by omega) ?_
              refine V_aload_n E dX11_plans_154 rfl ?_
              refine V_getR E fl_X11_105 dX11_plans_155 rfl hM.o (hM.r 43 (by decide)) ?_
              refine V_iload_n E dX11_plans_158 rfl ?_
              refine V_ia (j := p) E dX11_plans_159 (hM.k 43 21 rfl (by decide)) (@rfl _ (nI (p))) (hM.l 43 60 rfl (by decide)) (by omega) (by decide) ?_
              refine V_iconst (v := -1) E dX11_plans_160 (by decide) ?_
              refine V_icmp_ne (tgt := 166) E dX11_plans_161 (by decide) (fun h161 => ?_) (fun h161 => ?_)
              · have g161 : jpl B 60 p ≠ none := fun e => h161 (ef.trans (by rw [e]; rfl))
                refine V_iinc (v := nI (p + 1)) E dX11_plans_166 rfl (ni_inc (a := p) (z := 1) (@rfl _ (nI (p)))) (by decide) rfl ?_
                refine V_goto (tgt := 146) E dX11_plans_169 (by decide) ?_
                exact ih (p + 1) (by omega) (fun j hj => by by_cases e : j = p; subst e; exact g161; exact hh j (by omega))
              · have g161 : jpl B 60 p = none := (bI_eq (fun b hb => by have := hdy p b hb; omega)).mp (ef.symm.trans h161)
                refine V_iconst (v := 0) E dX11_plans_164 (by decide) ?_
                exact V_iret E R dX11_plans_165 rfl (Nat.le_refl _) (Nat.le_refl _) ⟨by rw [bi_f (c := jall B) (fun q => q p (by omega) g161)], f, rfl, hf⟩
          exact last (jn B) 0 (by omega) (fun j hj => absurd hj (Nat.not_lt_zero j))
        | succ m ih =>
          intro k f hk hf
          have k5 := hJ.2.2 k (by omega)
          have b5 := hB.2.2 k (by omega)
          refine V_iload_n E dX11_plans_25 rfl ?_
          refine V_bipush (v := 60) E dX11_plans_26 (by decide) ?_
          refine V_ge_no (a := k) (b := 60) (tgt := 144) E dX11_plans_28 (by decide) rfl rfl (by omega) (by omega) ?_
          refine V_iconst (v := 0) E dX11_plans_31 (by decide) ?_
          refine V_istore_n E dX11_plans_32 (by decide) rfl ?_
          have inner : ∀ m i f, i + m = jP B k → (∀ j, j < jn B → f j = bI (jit B k i (jpl B k) j)) → V X 33 [some (.ref (0)), some (.int (nI (k))), some (.int (nI (i))), none, none] [] (rA S 43 f) 0 0 := by
            intro m
            induction m with
            | zero =>
              intro i f hi hf
              have hi6 : i = jP B k := by omega
              subst hi6
              refine V_iload_n E dX11_plans_33 rfl ?_
              refine V_aload_n E dX11_plans_34 rfl ?_
              refine V_getR E fl_X11_108 dX11_plans_35 rfl hM.o (hM.r 44 (by decide)) ?_
              refine V_iload_n E dX11_plans_38 rfl ?_
              refine V_ia (j := k) E dX11_plans_39 (hM.k 44 21 rfl (by decide)) (@rfl _ (nI (k))) (hM.l 44 60 rfl (by decide)) (by omega) (by decide) ?_
              refine V_ge_yes (a := jP B k) (b := jP B k) (tgt := 138) E dX11_plans_40 (by decide) rfl k5 (by omega) (by omega) ?_
              refine V_iinc (v := nI (k + 1)) E dX11_plans_138 rfl (ni_inc (a := k) (z := 1) (@rfl _ (nI (k)))) (by decide) rfl ?_
              refine V_goto (tgt := 25) E dX11_plans_141 (by decide) ?_
              refine V_lo (lo' := [some (.ref (0)), some (.int (nI (k + 1))), none, none, none]) (And.intro rfl (And.intro rfl True.intro)) ?_
              exact ih (k + 1) f (by omega) hf
            | succ m ih2 =>
              intro i f hi hf
              have hdy : jday (jit B k i (jpl B k)) := jit_day (by omega) i _ (jpl_day k (by omega))
              generalize hD : jit B k i (jpl B k) = D at hf hdy
              have e10 : jit B k (i + 1) (jpl B k) = jst B k D := by rw [← hD]; rfl
              refine V_iload_n E dX11_plans_33 rfl ?_
              refine V_aload_n E dX11_plans_34 rfl ?_
              refine V_getR E fl_X11_108 dX11_plans_35 rfl hM.o (hM.r 44 (by decide)) ?_
              refine V_iload_n E dX11_plans_38 rfl ?_
              refine V_ia (j := k) E dX11_plans_39 (hM.k 44 21 rfl (by decide)) (@rfl _ (nI (k))) (hM.l 44 60 rfl (by decide)) (by omega) (by decide) ?_
              refine V_ge_no (a := i) (b := jP B k) (tgt := 138) E dX11_plans_40 (by decide) rfl k5 (by omega) (by omega) ?_
              refine V_iconst (v := -1) E dX11_plans_43 (by decide) ?_
              refine V_istore_n E dX11_plans_44 (by decide) rfl ?_
              refine V_iconst (v := 0) E dX11_plans_45 (by decide) ?_
              refine V_istore E dX11_plans_46 (by decide) rfl ?_
              have search : ∀ m q, q + m = jn B → V X 48 [some (.ref (0)), some (.int (nI (k))), some (.int (nI (i))), some (.int (bI (jb B D k q))), some (.int (nI (q)))] [] (rA S 43 f) 0 0 := by
                intro m
                induction m with
                | zero =>
                  intro q hq
                  have hqn : q = jn B := by omega
                  rw [hqn]
                  refine V_iload E dX11_plans_48 rfl ?_
                  refine V_aload_n E dX11_plans_50 rfl ?_
                  refine V_getI E fl_X11_245 dX11_plans_51 rfl hM.o ?_
                  refine V_ge_yes (a := jn B) (b := jn B) (tgt := 120) E dX11_plans_54 (by decide) rfl hJ.1 (by omega) (by omega) ?_
                  refine V_iload_n E dX11_plans_120 rfl ?_
                  refine V_iconst (v := -1) E dX11_plans_121 (by decide) ?_
                  cases hjb : jb B D k (jn B) with
                  | none =>
                    refine V_icmp_eq (tgt := 132) E dX11_plans_122 (by decide) (fun _ => ?_) (fun hx => absurd rfl hx)
                    refine V_iinc (v := nI (i + 1)) E dX11_plans_132 rfl (ni_inc (a := i) (z := 1) (@rfl _ (nI (i)))) (by decide) rfl ?_
                    refine V_goto (tgt := 33) E dX11_plans_135 (by decide) ?_
                    refine V_lo (lo' := [some (.ref (0)), some (.int (nI (k))), some (.int (nI (i + 1))), none, none]) (And.intro rfl (And.intro rfl (And.intro rfl True.intro))) ?_
                    exact ih2 (i + 1) f (by omega) (fun j hj => by rw [e10, jst_none hjb]; exact hf j hj)
                  | some c =>
                    obtain ⟨c1, c2⟩ := jb_lt (jn B) c hjb
                    refine V_icmp_eq (tgt := 132) E dX11_plans_122 (by decide) (fun hx => absurd hx (bI_ne (by omega))) (fun _ => ?_)
                    refine V_aload_n E dX11_plans_125 rfl ?_
                    refine V_getR E fl_X11_105 dX11_plans_126 rfl hM.o (hM.r 43 (by decide)) ?_
                    refine V_iload_n E dX11_plans_129 rfl ?_
                    refine V_iload_n E dX11_plans_130 rfl ?_
                    refine V_ias (j := c) E dX11_plans_131 (hM.k 43 21 rfl (by decide)) (rfl : bI (some c) = nI c) (hM.l 43 60 rfl (by decide)) (by omega) (by decide) ?_
                    refine V_cvS (sA_rA _ _ _ _ _) ?_
                    refine V_iinc (v := nI (i + 1)) E dX11_plans_132 rfl (ni_inc (a := i) (z := 1) (@rfl _ (nI (i)))) (by decide) rfl ?_
                    refine V_goto (tgt := 33) E dX11_plans_135 (by decide) ?_
                    refine V_lo (lo' := [some (.ref (0)), some (.int (nI (k))), some (.int (nI (i + 1))), none, none]) (And.intro rfl (And.intro rfl (And.intro rfl True.intro))) ?_
                    exact ih2 (i + 1) _ (by omega) (fun j hj => by rw [e10, jst_some hjb]; by_cases e : j = c; subst e; rw [va_up_self, va_up_self]; rfl; rw [va_up_ne _ _ e, va_up_ne _ _ e]; exact hf j hj)
                | succ m ih3 =>
                  intro q hq
                  obtain ⟨k1, k2⟩ := hJ.2.1 q (by omega)
                  obtain ⟨b1, b2⟩ := hB.2.1 q (by omega)
                  have k3 : aI (rA S 43 f) 43 q = bI (D q) := (congrFun (va_up_self (aI S) 43 f) q).trans (hf q (by omega))
                  refine V_iload E dX11_plans_48 rfl ?_
                  refine V_aload_n E dX11_plans_50 rfl ?_
                  refine V_getI E fl_X11_245 dX11_plans_51 rfl hM.o ?_
                  refine V_ge_no (a := q) (b := jn B) (tgt := 120) E dX11_plans_54 (by decide) rfl hJ.1 (by omega) (by omega) ?_
                  refine V_aload_n E dX11_plans_57 rfl ?_
                  refine V_getR E fl_X11_105 dX11_plans_58 rfl hM.o (hM.r 43 (by decide)) ?_
                  refine V_iload E dX11_plans_61 rfl ?_
                  refine V_ia (j := q) E dX11_plans_63 (hM.k 43 21 rfl (by decide)) (@rfl _ (nI (q))) (hM.l 43 60 rfl (by decide)) (by omega) (by decide) ?_
                  refine V_iconst (v := -1) E dX11_plans_64 (by decide) ?_
                  refine V_icmp_ne (tgt := 114) E dX11_plans_65 (by decide) (fun h65 => ?_) (fun h65 => ?_)
                  · have ga : ¬ jav B D k q := fun z => h65 (k3.trans (by rw [z.1]; rfl))
                    refine V_iinc (v := nI (q + 1)) E dX11_plans_114 rfl (ni_inc (a := q) (z := 1) (@rfl _ (nI (q)))) (by decide) rfl ?_
                    refine V_goto (tgt := 48) E dX11_plans_117 (by decide) ?_
                    have h9 := ih3 (q + 1) (by omega)
                    rw [jb_not ga] at h9
                    refine V_lo (lo' := [some (.ref (0)), some (.int (nI (k))), some (.int (nI (i))), some (.int (bI (jb B D k q))), some (.int (nI (q + 1)))]) (And.intro rfl (And.intro rfl (And.intro rfl (And.intro rfl (And.intro rfl True.intro))))) ?_
                    exact h9
                  · have g65 : D q = none := (bI_eq (fun b hb => by have := hdy q b hb; omega)).mp (k3.symm.trans h65)
                    refine V_aload_n E dX11_plans_68 rfl ?_
                    refine V_getR E fl_X11_99 dX11_plans_69 rfl hM.o (hM.r 41 (by decide)) ?_
                    refine V_iload E dX11_plans_72 rfl ?_
                    refine V_ia (j := q) E dX11_plans_74 (hM.k 41 21 rfl (by decide)) (@rfl _ (nI (q))) (hM.l 41 60 rfl (by decide)) (by omega) (by decide) ?_
                    refine V_iload_n E dX11_plans_75 rfl ?_
                    refine V_icmp_gt (tgt := 114) E dX11_plans_76 (by decide) (fun h76 => ?_) (fun h76 => ?_)
                    · have ga : ¬ jav B D k q := fun z => absurd (nI_le z.2.1 (by omega)) (by rw [← k1]; exact Int32.not_le.mpr h76)
                      refine V_iinc (v := nI (q + 1)) E dX11_plans_114 rfl (ni_inc (a := q) (z := 1) (@rfl _ (nI (q)))) (by decide) rfl ?_
                      refine V_goto (tgt := 48) E dX11_plans_117 (by decide) ?_
                      have h9 := ih3 (q + 1) (by omega)
                      rw [jb_not ga] at h9
                      refine V_lo (lo' := [some (.ref (0)), some (.int (nI (k))), some (.int (nI (i))), some (.int (bI (jb B D k q))), some (.int (nI (q + 1)))]) (And.intro rfl (And.intro rfl (And.intro rfl (And.intro rfl (And.intro rfl True.intro))))) ?_
                      exact h9
                    · have g76 : jF B q ≤ k := (nI_leI (by omega) (by omega)).mp (by rw [← k1]; exact Int32.not_lt.mp h76)
                      refine V_aload_n E dX11_plans_79 rfl ?_
                      refine V_getR E fl_X11_102 dX11_plans_80 rfl hM.o (hM.r 42 (by decide)) ?_
                      refine V_iload E dX11_plans_83 rfl ?_
                      refine V_ia (j := q) E dX11_plans_85 (hM.k 42 21 rfl (by decide)) (@rfl _ (nI (q))) (hM.l 42 60 rfl (by decide)) (by omega) (by decide) ?_
                      refine V_iload_n E dX11_plans_86 rfl ?_
                      refine V_icmp_lt (tgt := 114) E dX11_plans_87 (by decide) (fun h87 => ?_) (fun h87 => ?_)
                      · have ga : ¬ jav B D k q := fun z => absurd (nI_le z.2.2 (by omega)) (by rw [← k2]; exact Int32.not_le.mpr h87)
                        refine V_iinc (v := nI (q + 1)) E dX11_plans_114 rfl (ni_inc (a := q) (z := 1) (@rfl _ (nI (q)))) (by decide) rfl ?_
                        refine V_goto (tgt := 48) E dX11_plans_117 (by decide) ?_
                        have h9 := ih3 (q + 1) (by omega)
                        rw [jb_not ga] at h9
                        refine V_lo (lo' := [some (.ref (0)), some (.int (nI (k))), some (.int (nI (i))), some (.int (bI (jb B D k q))), some (.int (nI (q + 1)))]) (And.intro rfl (And.intro rfl (And.intro rfl (And.intro rfl (And.intro rfl True.intro))))) ?_
                        exact h9
                      · have ga : jav B D k q := ⟨g65, g76, (nI_leI (by omega) (by omega)).mp (by rw [← k2]; exact Int32.not_lt.mp h87)⟩
                        refine V_iload_n E dX11_plans_90 rfl ?_
                        refine V_iconst (v := -1) E dX11_plans_91 (by decide) ?_
                        cases hpb : jb B D k q with
                        | none =>
                          refine V_icmp_eq (tgt := 111) E dX11_plans_92 (by decide) (fun _ => ?_) (fun hx => absurd rfl hx)
                          refine V_iload E dX11_plans_111 rfl ?_
                          refine V_istore_n E dX11_plans_113 (by decide) rfl ?_
                          refine V_iinc (v := nI (q + 1)) E dX11_plans_114 rfl (ni_inc (a := q) (z := 1) (@rfl _ (nI (q)))) (by decide) rfl ?_
                          refine V_goto (tgt := 48) E dX11_plans_117 (by decide) ?_
                          have h9 := ih3 (q + 1) (by omega)
                          rw [jb_none hpb ga] at h9
                          refine V_lo (lo' := [some (.ref (0)), some (.int (nI (k))), some (.int (nI (i))), some (.int (bI (some q))), some (.int (nI (q + 1)))]) (And.intro rfl (And.intro rfl (And.intro rfl (And.intro rfl (And.intro rfl True.intro))))) ?_
                          exact h9
                        | some c =>
                          obtain ⟨c1, -⟩ := jb_lt q c hpb
                          obtain ⟨-, k4⟩ := hJ.2.1 c (by omega)
                          obtain ⟨-, b4⟩ := hB.2.1 c (by omega)
                          refine V_icmp_eq (tgt := 111) E dX11_plans_92 (by decide) (fun hx => absurd hx (bI_ne (by omega))) (fun _ => ?_)
                          refine V_aload_n E dX11_plans_95 rfl ?_
                          refine V_getR E fl_X11_102 dX11_plans_96 rfl hM.o (hM.r 42 (by decide)) ?_
                          refine V_iload E dX11_plans_99 rfl ?_
                          refine V_ia (j := q) E dX11_plans_101 (hM.k 42 21 rfl (by decide)) (@rfl _ (nI (q))) (hM.l 42 60 rfl (by decide)) (by omega) (by decide) ?_
                          refine V_aload_n E dX11_plans_102 rfl ?_
                          refine V_getR E fl_X11_102 dX11_plans_103 rfl hM.o (hM.r 42 (by decide)) ?_
                          refine V_iload_n E dX11_plans_106 rfl ?_
                          refine V_ia (j := c) E dX11_plans_107 (hM.k 42 21 rfl (by decide)) (rfl : bI (some c) = nI c) (hM.l 42 60 rfl (by decide)) (by omega) (by decide) ?_
                          refine V_icmp_ge (tgt := 114) E dX11_plans_108 (by decide) (fun h108 => ?_) (fun h108 => ?_)
                          · have g108 : ¬ jL B q < jL B c := fun z => absurd (nI_lt z (by omega)) (by rw [← k2, ← k4]; exact Int32.not_lt.mpr h108)
                            refine V_iinc (v := nI (q + 1)) E dX11_plans_114 rfl (ni_inc (a := q) (z := 1) (@rfl _ (nI (q)))) (by decide) rfl ?_
                            refine V_goto (tgt := 48) E dX11_plans_117 (by decide) ?_
                            have h9 := ih3 (q + 1) (by omega)
                            rw [jb_less hpb g108] at h9
                            refine V_lo (lo' := [some (.ref (0)), some (.int (nI (k))), some (.int (nI (i))), some (.int (bI (some c))), some (.int (nI (q + 1)))]) (And.intro rfl (And.intro rfl (And.intro rfl (And.intro rfl (And.intro rfl True.intro))))) ?_
                            exact h9
                          · have g108 : jL B q < jL B c := (nI_ltI (by omega) (by omega)).mp (by rw [← k2, ← k4]; exact Int32.not_le.mp h108)
                            refine V_iload E dX11_plans_111 rfl ?_
                            refine V_istore_n E dX11_plans_113 (by decide) rfl ?_
                            refine V_iinc (v := nI (q + 1)) E dX11_plans_114 rfl (ni_inc (a := q) (z := 1) (@rfl _ (nI (q)))) (by decide) rfl ?_
                            refine V_goto (tgt := 48) E dX11_plans_117 (by decide) ?_
                            have h9 := ih3 (q + 1) (by omega)
                            rw [jb_more hpb ga g108] at h9
                            refine V_lo (lo' := [some (.ref (0)), some (.int (nI (k))), some (.int (nI (i))), some (.int (bI (some q))), some (.int (nI (q + 1)))]) (And.intro rfl (And.intro rfl (And.intro rfl (And.intro rfl (And.intro rfl True.intro))))) ?_
                            exact h9
              exact search (jn B) 0 (by omega)
          exact inner (jP B k) 0 f (by omega) hf
      exact outer 60 0 f (by omega) (fun j hj => (hf0 j (by omega)).trans rfl)
    | succ m ih =>
      intro p f hp hf
      refine V_iload_n E dX11_plans_2 rfl ?_
      refine V_aload_n E dX11_plans_3 rfl ?_
      refine V_getI E fl_X11_245 dX11_plans_4 rfl hM.o ?_
      refine V_ge_no (a := p) (b := jn B) (tgt := 23) E dX11_plans_7 (by decide) rfl hJ.1 (by omega) (by omega) ?_
      refine V_aload_n E dX11_plans_10 rfl ?_
      refine V_getR E fl_X11_105 dX11_plans_11 rfl hM.o (hM.r 43 (by decide)) ?_
      refine V_iload_n E dX11_plans_14 rfl ?_
      refine V_iconst (v := -1) E dX11_plans_15 (by decide) ?_
      refine V_ias (j := p) E dX11_plans_16 (hM.k 43 21 rfl (by decide)) (@rfl _ (nI (p))) (hM.l 43 60 rfl (by decide)) (by omega) (by decide) ?_
      refine V_cvS (sA_rA _ _ _ _ _) ?_
      refine V_iinc (v := nI (p + 1)) E dX11_plans_17 rfl (ni_inc (a := p) (z := 1) (@rfl _ (nI (p)))) (by decide) rfl ?_
      refine V_goto (tgt := 2) E dX11_plans_20 (by decide) ?_
      refine ih (p + 1) _ (by omega) (fun j hj => ?_)
      by_cases e : j = p
      · subst e; exact va_up_self _ _ _
      · rw [va_up_ne _ _ e]; exact hf j (by omega)
  exact loop0 (jn B) 0 _ (by omega) (fun j hj => absurd hj (Nat.not_lt_zero j))
