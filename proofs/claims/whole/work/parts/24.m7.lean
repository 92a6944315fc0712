theorem cm_partAmong (l : Launch) (d : Nat) (S : GS) (hM : MOK S) (n N : Nat) (mm : Nat → Nat) (hN : N ≤ 60) (hmm : ∀ k, k < N → aJ S 13 k = lN (mm k)) (hpos : 0 < sumN mm N) (hb : ∀ k, k < N → mm k ≤ 1000000000) (hn : n ≤ 1000000) : GC l (d) yX11_partAmong cX11_partAmong 14 none [.ref 0, .long (lN n), .int (nI N)] S (fun r S2 => r = none ∧ ∃ f h, S2 = R2 S f h ∧ ∀ k, k < N → f k = lN (pSh n mm N k)) (0) (0) := by
  refine GC.ofV (by decide) (Nat.le_of_ble_eq_true rfl) (fun X hl E R hnm => ?_)
  subst hl
  have E : En X RX11 cX11_partAmong 14 (d) (0) (0) := E
  have R : Rt X none (fun r S2 => r = none ∧ ∃ f h, S2 = R2 S f h ∧ ∀ k, k < N → f k = lN (pSh n mm N k)) := R
  have hs : sumN mm N ≤ 60000000000 := by
    have h1 := sumN_le (f := mm) (g := fun _ => 1000000000) (n := N) hb
    rw [sumN_const] at h1
    omega
  have hnm : ∀ k, k < N → n * mm k ≤ 1000000000000000 := fun k hk => Nat.mul_le_mul hn (hb k hk)
  have hB : ∀ k, k < N → pB n mm N k ≤ n := fun k hk => pB_bound hpos hk
  have hBs := pB_le (n := n) hpos
  have hBi : ∀ p, p ≤ N → sumN (pB n mm N) p ≤ n := by
    intro p hp
    have : ∀ m p, p + m = N → sumN (pB n mm N) p ≤ n := by
      intro m
      induction m with
      | zero => intro p hp; rw [show p = N by omega]; exact hBs
      | succ m ih => intro p hp; have := ih (p + 1) (by omega); simp only [sumN] at this; omega
    exact this (N - p) p (by omega)
  refine V_lconst (v := 0) E dX11_partAmong_0 (by decide) ?_
  refine V_lstore E dX11_partAmong_1 (by decide) rfl ?_
  refine V_iconst (v := 0) E dX11_partAmong_3 (by decide) ?_
  refine V_istore E dX11_partAmong_4 (by decide) rfl ?_
  have loop1 : ∀ m p, p + m = N → V X 6 [some (.ref (0)), some (.long (lN (n))), none, some (.int (nI (N))), some (.long (lN (sumN mm p))), none, some (.int (nI (p))), none, none, none, none, none, none, none] [] S 0 0 := by
    intro m
    induction m with
    | zero =>
      intro p  hp
      have hpN : p = N := by omega
      have e0 : sumN mm p = sumN mm N := by rw [hpN]
      rw [e0]
      refine V_iload E dX11_partAmong_6 rfl ?_
      refine V_iload_n E dX11_partAmong_8 rfl ?_
      refine V_ge_yes (a := p) (b := N) (tgt := 30) E dX11_partAmong_9 (by decide) (@rfl _ (nI (p))) (@rfl _ (nI (N))) (by omega) (by omega) ?_
      refine V_lload_n E dX11_partAmong_30 rfl ?_
      refine V_lstore E dX11_partAmong_31 (by decide) rfl ?_
      refine V_iconst (v := 0) E dX11_partAmong_33 (by decide) ?_
      refine V_istore E dX11_partAmong_34 (by decide) rfl ?_
      refine V_cvS (R2_self S) ?_
      have loop2 : ∀ m p f h, p + m = N → (∀ k, k < p → f k = lN (pB n mm N k) ∧ h k = 0) → V X 36 [some (.ref (0)), some (.long (lN (n))), none, some (.int (nI (N))), some (.long (lN (sumN mm N))), none, some (.long (lN (n - sumN (pB n mm N) p))), none, some (.int (nI (p))), none, none, none, none, none] [] (R2 S f h) 0 0 := by
        intro m
        induction m with
        | zero =>
          intro p f h hp hh
          have hpN : p = N := by omega
          subst hpN
          refine V_iload E dX11_partAmong_36 rfl ?_
          refine V_iload_n E dX11_partAmong_38 rfl ?_
          refine V_ge_yes (a := p) (b := p) (tgt := 87) E dX11_partAmong_39 (by decide) (@rfl _ (nI (p))) (@rfl _ (nI (p))) (by omega) (by omega) ?_
          have hsp := pG_spec (n := n) hpos
          have hlf := pLeft_le (n := n) (mm := mm) (N := p)
          have loop3 : ∀ m j f h, j + m = pLeft n mm p → (∀ k, k < p → f k = lN (pB n mm p k + pG (pR n mm p) p j k) ∧ h k = nI (pG (pR n mm p) p j k)) → V X 87 [some (.ref (0)), some (.long (lN (n))), none, some (.int (nI (p))), some (.long (lN (sumN mm p))), none, some (.long (lN (pLeft n mm p - j))), none, none, none, none, none, none, none] [] (R2 S f h) 0 0 := by
            intro m
            induction m with
            | zero =>
              intro j f h hj hh
              refine V_lload E dX11_partAmong_87 rfl ?_
              refine V_lconst (v := 0) E dX11_partAmong_89 (by decide) ?_
              refine V_lcmp E dX11_partAmong_90 ?_
              refine V_if_le (tgt := 189) E dX11_partAmong_91 (by decide) (fun _ => ?_) (fun hx => absurd hx (fun q => q ((lg_cmp_le _ _).mpr ((pk_lLE (a := pLeft n mm p - j) (b := 0) (by omega) (by omega)).mpr (by omega)))))
              exact V_vret E R dX11_partAmong_189 (Nat.le_refl _) (Nat.le_refl _) ⟨rfl, f, h, rfl, fun k hk => by rw [(hh k hk).1, show j = pLeft n mm p by omega]; rfl⟩
            | succ m ih =>
              intro j f h hj hh
              obtain ⟨b, hb1, hb2, hb3, hb4⟩ := pb_left (n := n) (j := j) hpos (by omega)
              obtain ⟨-, hg1, -⟩ := hsp j (by omega)
              refine V_lload E dX11_partAmong_87 rfl ?_
              refine V_lconst (v := 0) E dX11_partAmong_89 (by decide) ?_
              refine V_lcmp E dX11_partAmong_90 ?_
              refine V_if_le (tgt := 189) E dX11_partAmong_91 (by decide) (fun hx => absurd hx (fun q => absurd ((pk_lLE (a := pLeft n mm p - j) (b := 0) (by omega) (by omega)).mp ((lg_cmp_le _ _).mp q)) (by omega))) (fun _ => ?_)
              refine V_iconst (v := -1) E dX11_partAmong_94 (by decide) ?_
              refine V_istore E dX11_partAmong_95 (by decide) rfl ?_
              refine V_lconst (v := 0) E dX11_partAmong_97 (by decide) ?_
              refine V_lstore E dX11_partAmong_98 (by decide) rfl ?_
              refine V_iconst (v := 0) E dX11_partAmong_100 (by decide) ?_
              refine V_istore E dX11_partAmong_101 (by decide) rfl ?_
              have loop4 : ∀ m q, q + m = p → V X 103 [some (.ref (0)), some (.long (lN (n))), none, some (.int (nI (p))), some (.long (lN (sumN mm p))), none, some (.long (lN (pLeft n mm p - j))), none, some (.int (bI (pb (pR n mm p) (pG (pR n mm p) p j) q))), some (.long (bR (pR n mm p) (pb (pR n mm p) (pG (pR n mm p) p j) q))), none, some (.int (nI (q))), none, none] [] (R2 S f h) 0 0 := by
                intro m
                induction m with
                | zero =>
                  intro q hq
                  have hqp : q = p := by omega
                  subst hqp
                  rw [hb1]
                  refine V_iload E dX11_partAmong_103 rfl ?_
                  refine V_iload_n E dX11_partAmong_105 rfl ?_
                  refine V_ge_yes (a := q) (b := q) (tgt := 161) E dX11_partAmong_106 (by decide) rfl rfl (by omega) (by omega) ?_
                  refine V_aload_n E dX11_partAmong_161 rfl ?_
                  refine V_getR E fl_X11_39 dX11_partAmong_162 rfl hM.o (hM.r 15 (by decide)) ?_
                  refine V_iload E dX11_partAmong_165 rfl ?_
                  refine V_iconst (v := 1) E dX11_partAmong_167 (by decide) ?_
                  refine V_zas (j := b) E dX11_partAmong_168 (hM.k 15 24 rfl (by decide)) (@rfl _ (nI (b))) (hM.l 15 60 rfl (by decide)) (by omega) (by decide) ?_
                  refine V_cvS (R2_15 _ _ _ _ _) ?_
                  refine V_aload_n E dX11_partAmong_169 rfl ?_
                  refine V_getR E fl_X11_36 dX11_partAmong_170 rfl hM.o (hM.r 14 (by decide)) ?_
                  refine V_iload E dX11_partAmong_173 rfl ?_
                  refine V_dup2 E dX11_partAmong_175 rfl rfl ?_
                  refine V_la (j := b) E dX11_partAmong_176 (hM.k 14 22 rfl (by decide)) (@rfl _ (nI (b))) (hM.l 14 60 rfl (by decide)) (by omega) (by decide) ?_
                  refine V_lconst (v := 1) E dX11_partAmong_177 (by decide) ?_
                  refine V_ladd E dX11_partAmong_178 ?_
                  refine V_cvl (y := lN (pB n mm q b + pG (pR n mm q) q j b + 1)) (ll_add (a := (pB n mm q b + pG (pR n mm q) q j b)) (b := 1) ((hh b hb2).1) (rfl : (1 : Int64) = lN 1)) ?_
                  refine V_las (j := b) E dX11_partAmong_179 (hM.k 14 22 rfl (by decide)) (@rfl _ (nI (b))) (hM.l 14 60 rfl (by decide)) (by omega) (by decide) ?_
                  refine V_cvS (R2_14 _ _ _ _ _) ?_
                  refine V_lload E dX11_partAmong_180 rfl ?_
                  refine V_lconst (v := 1) E dX11_partAmong_182 (by decide) ?_
                  refine V_lsub E dX11_partAmong_183 ?_
                  refine V_cvl (y := lN (pLeft n mm q - (j + 1))) ((ll_sub (a := pLeft n mm q - j) (b := 1) rfl (rfl : (1 : Int64) = lN 1) (by omega)).trans (congrArg lN (by omega))) ?_
                  refine V_lstore E dX11_partAmong_184 (by decide) rfl ?_
                  refine V_goto (tgt := 87) E dX11_partAmong_186 (by decide) ?_
                  refine V_lo (lo' := [some (.ref (0)), some (.long (lN (n))), none, some (.int (nI (q))), some (.long (lN (sumN mm q))), none, some (.long (lN (pLeft n mm q - (j + 1)))), none, none, none, none, none, none, none]) (And.intro rfl (And.intro rfl (And.intro rfl (And.intro rfl (And.intro rfl True.intro))))) ?_
                  refine ih (j + 1) _ _ (by omega) (fun k hk => ?_)
                  rw [hb4]
                  by_cases e : k = b
                  · subst e; rw [va_up_self, va_up_self, va_up_self, hb3]; exact ⟨rfl, rfl⟩
                  · rw [va_up_ne _ _ e, va_up_ne _ _ e, va_up_ne _ _ e]; exact hh k hk
                | succ m ih4 =>
                  intro q hq
                  have hk1 := hnm q (by omega)
                  have hrq := pR_lt (n := n) (k := q) hpos
                  refine V_iload E dX11_partAmong_103 rfl ?_
                  refine V_iload_n E dX11_partAmong_105 rfl ?_
                  refine V_ge_no (a := q) (b := p) (tgt := 161) E dX11_partAmong_106 (by decide) rfl rfl (by omega) (by omega) ?_
                  refine V_lload_n E dX11_partAmong_109 rfl ?_
                  refine V_aload_n E dX11_partAmong_110 rfl ?_
                  refine V_getR E fl_X11_32 dX11_partAmong_111 rfl hM.o (hM.r 13 (by decide)) ?_
                  refine V_iload E dX11_partAmong_114 rfl ?_
                  refine V_la (j := q) E dX11_partAmong_116 (hM.k 13 22 rfl (by decide)) (@rfl _ (nI (q))) (hM.l 13 60 rfl (by decide)) (by omega) (by decide) ?_
                  refine V_lmul E dX11_partAmong_117 ?_
                  refine V_lload E dX11_partAmong_118 rfl ?_
                  refine V_lrem E dX11_partAmong_120 (ll_ne (b := sumN mm p) rfl hpos (by omega)) ?_
                  refine V_cvl (y := lN (pR n mm p q)) (ll_rem (a := (n * (mm q))) (b := (sumN mm p)) (ll_mul (a := n) (b := (mm q)) (@rfl _ (lN (n))) (hmm q (by omega))) (@rfl _ (lN (sumN mm p))) (by omega) hpos (by omega)) ?_
                  refine V_lstore E dX11_partAmong_121 (by decide) rfl ?_
                  refine V_aload_n E dX11_partAmong_123 rfl ?_
                  refine V_getR E fl_X11_39 dX11_partAmong_124 rfl hM.o (hM.r 15 (by decide)) ?_
                  refine V_iload E dX11_partAmong_127 rfl ?_
                  refine V_za (j := q) E dX11_partAmong_129 (hM.k 15 24 rfl (by decide)) (@rfl _ (nI (q))) (hM.l 15 60 rfl (by decide)) (by omega) (by decide) ?_
                  refine V_if_ne (tgt := 155) E dX11_partAmong_130 (by decide) (fun h130 => ?_) (fun h130 => ?_)
                  · have hg : ¬ (pG (pR n mm p) p j) q = 0 := fun e => h130 (by show h q = 0; rw [(hh q (by omega)).2, e]; rfl)
                    refine V_iinc (v := nI (q + 1)) E dX11_partAmong_155 rfl (ni_inc (a := q) (z := 1) (@rfl _ (nI (q)))) (by decide) rfl ?_
                    refine V_goto (tgt := 103) E dX11_partAmong_158 (by decide) ?_
                    have h9 := ih4 (q + 1) (by omega)
                    rw [pb_given hg] at h9
                    refine V_lo (lo' := [some (.ref (0)), some (.long (lN (n))), none, some (.int (nI (p))), some (.long (lN (sumN mm p))), none, some (.long (lN (pLeft n mm p - j))), none, some (.int (bI (pb (pR n mm p) (pG (pR n mm p) p j) q))), some (.long (bR (pR n mm p) (pb (pR n mm p) (pG (pR n mm p) p j) q))), none, some (.int (nI (q + 1))), none, none]) (And.intro rfl (And.intro rfl (And.intro rfl (And.intro rfl (And.intro rfl (And.intro rfl (And.intro rfl (And.intro rfl True.intro)))))))) ?_
                    exact h9
                  · have hg : (pG (pR n mm p) p j) q = 0 := (nI_eq (a := (pG (pR n mm p) p j) q) (b := 0) (by have := hg1 q; omega) (by omega)).mp (by rw [← (hh q (by omega)).2]; exact h130)
                    refine V_iload E dX11_partAmong_133 rfl ?_
                    refine V_iconst (v := -1) E dX11_partAmong_135 (by decide) ?_
                    cases hpb : pb (pR n mm p) (pG (pR n mm p) p j) q with
                    | none =>
                      refine V_icmp_eq (tgt := 147) E dX11_partAmong_136 (by decide) (fun _ => ?_) (fun hx => absurd rfl hx)
                      refine V_iload E dX11_partAmong_147 rfl ?_
                      refine V_istore E dX11_partAmong_149 (by decide) rfl ?_
                      refine V_lload E dX11_partAmong_151 rfl ?_
                      refine V_lstore E dX11_partAmong_153 (by decide) rfl ?_
                      refine V_iinc (v := nI (q + 1)) E dX11_partAmong_155 rfl (ni_inc (a := q) (z := 1) (@rfl _ (nI (q)))) (by decide) rfl ?_
                      refine V_goto (tgt := 103) E dX11_partAmong_158 (by decide) ?_
                      have h9 := ih4 (q + 1) (by omega)
                      rw [pb_none hpb hg] at h9
                      refine V_lo (lo' := [some (.ref (0)), some (.long (lN (n))), none, some (.int (nI (p))), some (.long (lN (sumN mm p))), none, some (.long (lN (pLeft n mm p - j))), none, some (.int (bI (some q))), some (.long (bR (pR n mm p) (some q))), none, some (.int (nI (q + 1))), none, none]) (And.intro rfl (And.intro rfl (And.intro rfl (And.intro rfl (And.intro rfl (And.intro rfl (And.intro rfl (And.intro rfl True.intro)))))))) ?_
                      exact h9
                    | some c =>
                      obtain ⟨c1, -, -⟩ := (pb_spec (pR n mm p) (pG (pR n mm p) p j) q).2 c hpb
                      refine V_icmp_eq (tgt := 147) E dX11_partAmong_136 (by decide) (fun hx => absurd hx (bI_ne (by omega))) (fun _ => ?_)
                      refine V_lload E dX11_partAmong_139 rfl ?_
                      refine V_lload E dX11_partAmong_141 rfl ?_
                      refine V_lcmp E dX11_partAmong_143 ?_
                      refine V_if_le (tgt := 155) E dX11_partAmong_144 (by decide) (fun h144 => ?_) (fun h144 => ?_)
                      · have hr2 : ¬ pR n mm p c < pR n mm p q := by have := (pk_lLE (a := pR n mm p q) (b := pR n mm p c) (by omega) (by have := pR_lt (n := n) (k := c) hpos; omega)).mp ((lg_cmp_le _ _).mp h144); omega
                        refine V_iinc (v := nI (q + 1)) E dX11_partAmong_155 rfl (ni_inc (a := q) (z := 1) (@rfl _ (nI (q)))) (by decide) rfl ?_
                        refine V_goto (tgt := 103) E dX11_partAmong_158 (by decide) ?_
                        have h9 := ih4 (q + 1) (by omega)
                        rw [pb_less hpb hr2] at h9
                        refine V_lo (lo' := [some (.ref (0)), some (.long (lN (n))), none, some (.int (nI (p))), some (.long (lN (sumN mm p))), none, some (.long (lN (pLeft n mm p - j))), none, some (.int (bI (some c))), some (.long (bR (pR n mm p) (some c))), none, some (.int (nI (q + 1))), none, none]) (And.intro rfl (And.intro rfl (And.intro rfl (And.intro rfl (And.intro rfl (And.intro rfl (And.intro rfl (And.intro rfl True.intro)))))))) ?_
                        exact h9
                      · have hr2 : pR n mm p c < pR n mm p q := by rcases Nat.lt_or_ge (pR n mm p c) (pR n mm p q) with z | z; exact z; exact absurd ((lg_cmp_le _ _).mpr ((pk_lLE (a := pR n mm p q) (b := pR n mm p c) (by omega) (by have := pR_lt (n := n) (k := c) hpos; omega)).mpr z)) h144
                        refine V_iload E dX11_partAmong_147 rfl ?_
                        refine V_istore E dX11_partAmong_149 (by decide) rfl ?_
                        refine V_lload E dX11_partAmong_151 rfl ?_
                        refine V_lstore E dX11_partAmong_153 (by decide) rfl ?_
                        refine V_iinc (v := nI (q + 1)) E dX11_partAmong_155 rfl (ni_inc (a := q) (z := 1) (@rfl _ (nI (q)))) (by decide) rfl ?_
                        refine V_goto (tgt := 103) E dX11_partAmong_158 (by decide) ?_
                        have h9 := ih4 (q + 1) (by omega)
                        rw [pb_more hpb hg hr2] at h9
                        refine V_lo (lo' := [some (.ref (0)), some (.long (lN (n))), none, some (.int (nI (p))), some (.long (lN (sumN mm p))), none, some (.long (lN (pLeft n mm p - j))), none, some (.int (bI (some q))), some (.long (bR (pR n mm p) (some q))), none, some (.int (nI (q + 1))), none, none]) (And.intro rfl (And.intro rfl (And.intro rfl (And.intro rfl (And.intro rfl (And.intro rfl (And.intro rfl (And.intro rfl True.intro)))))))) ?_
                        exact h9
              exact loop4 p 0 (by omega)
          refine V_lo (lo' := [some (.ref (0)), some (.long (lN (n))), none, some (.int (nI (p))), some (.long (lN (sumN mm p))), none, some (.long (lN (pLeft n mm p - 0))), none, none, none, none, none, none, none]) (And.intro rfl (And.intro rfl (And.intro rfl (And.intro rfl (And.intro rfl True.intro))))) ?_
          exact loop3 (pLeft n mm p) 0 f h (by omega) (fun k hk => ⟨(hh k hk).1, (hh k hk).2⟩)
        | succ m ih =>
          intro p f h hp hh
          have hk1 := hnm p (by omega)
          have hk2 := hB p (by omega)
          have hk3 := hBi (p + 1) (by omega)
          simp only [sumN] at hk3
          refine V_iload E dX11_partAmong_36 rfl ?_
          refine V_iload_n E dX11_partAmong_38 rfl ?_
          refine V_ge_no (a := p) (b := N) (tgt := 87) E dX11_partAmong_39 (by decide) (@rfl _ (nI (p))) (@rfl _ (nI (N))) (by omega) (by omega) ?_
          refine V_aload_n E dX11_partAmong_42 rfl ?_
          refine V_getR E fl_X11_36 dX11_partAmong_43 rfl hM.o (hM.r 14 (by decide)) ?_
          refine V_iload E dX11_partAmong_46 rfl ?_
          refine V_lload_n E dX11_partAmong_48 rfl ?_
          refine V_aload_n E dX11_partAmong_49 rfl ?_
          refine V_getR E fl_X11_32 dX11_partAmong_50 rfl hM.o (hM.r 13 (by decide)) ?_
          refine V_iload E dX11_partAmong_53 rfl ?_
          refine V_la (j := p) E dX11_partAmong_55 (hM.k 13 22 rfl (by decide)) (@rfl _ (nI (p))) (hM.l 13 60 rfl (by decide)) (by omega) (by decide) ?_
          refine V_lmul E dX11_partAmong_56 ?_
          refine V_lload E dX11_partAmong_57 rfl ?_
          refine V_ldiv E dX11_partAmong_59 (ll_ne (b := sumN mm N) rfl hpos (by omega)) ?_
          refine V_cvl (y := lN (pB n mm N p)) (ll_div (a := (n * (mm p))) (b := (sumN mm N)) (ll_mul (a := n) (b := (mm p)) (@rfl _ (lN (n))) (hmm p (by omega))) (@rfl _ (lN (sumN mm N))) (by omega) hpos (by omega)) ?_
          refine V_las (j := p) E dX11_partAmong_60 (hM.k 14 22 rfl (by decide)) (@rfl _ (nI (p))) (hM.l 14 60 rfl (by decide)) (by omega) (by decide) ?_
          refine V_cvS (R2_14 _ _ _ _ _) ?_
          refine V_lload E dX11_partAmong_61 rfl ?_
          refine V_aload_n E dX11_partAmong_63 rfl ?_
          refine V_getR E fl_X11_36 dX11_partAmong_64 rfl hM.o (hM.r 14 (by decide)) ?_
          refine V_iload E dX11_partAmong_67 rfl ?_
          refine V_la (j := p) E dX11_partAmong_69 (hM.k 14 22 rfl (by decide)) (@rfl _ (nI (p))) (hM.l 14 60 rfl (by decide)) (by omega) (by decide) ?_
          refine V_lsub E dX11_partAmong_70 ?_
          refine V_cvl (y := lN (n - sumN (pB n mm N) (p + 1))) ((ll_sub (a := n - sumN (pB n mm N) p) (b := pB n mm N p) rfl (show va_up f p (lN (pB n mm N p)) p = _ from va_up_self _ _ _) (by omega)).trans (congrArg lN (by simp only [sumN]; omega))) ?_
          refine V_lstore E dX11_partAmong_71 (by decide) rfl ?_
          refine V_aload_n E dX11_partAmong_73 rfl ?_
          refine V_getR E fl_X11_39 dX11_partAmong_74 rfl hM.o (hM.r 15 (by decide)) ?_
          refine V_iload E dX11_partAmong_77 rfl ?_
          refine V_iconst (v := 0) E dX11_partAmong_79 (by decide) ?_
          refine V_zas (j := p) E dX11_partAmong_80 (hM.k 15 24 rfl (by decide)) (@rfl _ (nI (p))) (hM.l 15 60 rfl (by decide)) (by omega) (by decide) ?_
          refine V_cvS (R2_15 _ _ _ _ _) ?_
          refine V_iinc (v := nI (p + 1)) E dX11_partAmong_81 rfl (ni_inc (a := p) (z := 1) (@rfl _ (nI (p)))) (by decide) rfl ?_
          refine V_goto (tgt := 36) E dX11_partAmong_84 (by decide) ?_
          refine ih (p + 1) _ _ (by omega) (fun k hk => ?_)
          by_cases e : k = p
          · subst e; exact ⟨va_up_self _ _ _, (va_up_self _ _ _).trans rfl⟩
          · rw [va_up_ne _ _ e, va_up_ne _ _ e]; exact hh k (by omega)
      exact loop2 N 0 _ _ (by omega) (fun k hk => absurd hk (Nat.not_lt_zero k))
    | succ m ih =>
      intro p  hp
      refine V_iload E dX11_partAmong_6 rfl ?_
      refine V_iload_n E dX11_partAmong_8 rfl ?_
      refine V_ge_no (a := p) (b := N) (tgt := 30) E dX11_partAmong_9 (by decide) (@rfl _ (nI (p))) (@rfl _ (nI (N))) (by omega) (by omega) ?_
      refine V_lload E dX11_partAmong_12 rfl ?_
      refine V_aload_n E dX11_partAmong_14 rfl ?_
      refine V_getR E fl_X11_32 dX11_partAmong_15 rfl hM.o (hM.r 13 (by decide)) ?_
      refine V_iload E dX11_partAmong_18 rfl ?_
      refine V_la (j := p) E dX11_partAmong_20 (hM.k 13 22 rfl (by decide)) (@rfl _ (nI (p))) (hM.l 13 60 rfl (by decide)) (by omega) (by decide) ?_
      refine V_ladd E dX11_partAmong_21 ?_
      refine V_cvl (y := lN (sumN mm (p + 1))) (ll_add (a := (sumN mm p)) (b := (mm p)) (@rfl _ (lN (sumN mm p))) (hmm p (by omega))) ?_
      refine V_lstore E dX11_partAmong_22 (by decide) rfl ?_
      refine V_iinc (v := nI (p + 1)) E dX11_partAmong_24 rfl (ni_inc (a := p) (z := 1) (@rfl _ (nI (p)))) (by decide) rfl ?_
      refine V_goto (tgt := 6) E dX11_partAmong_27 (by decide) ?_
      exact ih (p + 1) (by omega)
  exact loop1 (N - 0) 0 (by omega)
