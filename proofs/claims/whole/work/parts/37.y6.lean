theorem cj_fill (l : Launch) (d : Nat) (S : GS) (g N : Nat) (hk : kd S g = 21) (hl2 : ln S g = N) (hN : N < 1000000) (x : Int32) : GC l (d) yJ7_fill_53178 cJ7_fill_53178 4 none [.ref g, .int x] S (fun r S2 => r = none ∧ ∃ f, S2 = rA S g f ∧ ∀ k, k < N → f k = x) (0) (0) := by
  refine GC.ofV (by decide) (Nat.le_of_ble_eq_true rfl) (fun X hl E R hnm => ?_)
  subst hl
  have E : En X RJ7 cJ7_fill_53178 4 (d) (0) (0) := E
  have R : Rt X none (fun r S2 => r = none ∧ ∃ f, S2 = rA S g f ∧ ∀ k, k < N → f k = x) := R
  refine V_iconst (v := 0) E dJ7_fill_53178_0 (by decide) ?_
  refine V_istore_n E dJ7_fill_53178_1 (by decide) rfl ?_
  refine V_aload_n E dJ7_fill_53178_2 rfl ?_
  refine V_al E dJ7_fill_53178_3 hk (by decide) hl2 ?_
  refine V_istore_n E dJ7_fill_53178_4 (by decide) rfl ?_
  refine V_cvS (rA_self S g).symm ?_
  have loop : ∀ m p f, p + m = N → (∀ k, k < p → f k = x) → V X 5 [some (.ref (g)), some (.int (x)), some (.int (nI (p))), some (.int (nI (N)))] [] (rA S g f) 0 0 := by
    intro m
    induction m with
    | zero =>
      intro p f hp hf
      refine V_iload_n E dJ7_fill_53178_5 rfl ?_
      refine V_iload_n E dJ7_fill_53178_6 rfl ?_
      refine V_ge_yes (a := p) (b := N) (tgt := 20) E dJ7_fill_53178_7 (by decide) (@rfl _ (nI (p))) (@rfl _ (nI (N))) (by omega) (by omega) ?_
      exact V_vret E R dJ7_fill_53178_20 (Nat.le_refl _) (Nat.le_refl _) ⟨rfl, f, rfl, fun k hk => hf k (by omega)⟩
    | succ m ih =>
      intro p f hp hf
      refine V_iload_n E dJ7_fill_53178_5 rfl ?_
      refine V_iload_n E dJ7_fill_53178_6 rfl ?_
      refine V_ge_no (a := p) (b := N) (tgt := 20) E dJ7_fill_53178_7 (by decide) (@rfl _ (nI (p))) (@rfl _ (nI (N))) (by omega) (by omega) ?_
      refine V_aload_n E dJ7_fill_53178_10 rfl ?_
      refine V_iload_n E dJ7_fill_53178_11 rfl ?_
      refine V_iload_n E dJ7_fill_53178_12 rfl ?_
      refine V_ias (j := p) (N := N) E dJ7_fill_53178_13 hk (@rfl _ (nI p)) hl2 (by omega) (by omega) ?_
      refine V_cvS (sA_rA _ _ _ _ _) ?_
      refine V_iinc (v := nI (p + 1)) E dJ7_fill_53178_14 rfl (ni_inc (a := p) (z := 1) (@rfl _ (nI (p)))) (by decide) rfl ?_
      refine V_goto (tgt := 5) E dJ7_fill_53178_17 (by decide) ?_
      refine ih (p + 1) _ (by omega) (fun k hk => ?_)
      by_cases e : k = p
      · subst e; exact va_up_self _ _ _
      · rw [va_up_ne _ _ e]; exact hf k (by omega)
  exact loop N 0 _ (by omega) (fun k hk => absurd hk (Nat.not_lt_zero k))

theorem cy_giveOne (l : Launch) (d : Nat) (S : GS) (g gs gr : Nat) (hP : POK S g gs gr) (f : Nat → Int32) (h : Nat → Int64) (N : Nat) (r G : Nat → Nat) (hN : 1 ≤ N ∧ N ≤ 60) (hr : ∀ k, k < N → r k < 2 ^ 63) (hh : ∀ k, k < N → h k = restOf r G k) (b : Nat) (hb : pb r G N = some b) : GC l (d) yX1_giveOne cX1_giveOne 4 none [.ref g, .int (nI N)] (D2 S gs gr f h) (fun r S2 => r = none ∧ S2 = D2 S gs gr (va_up f b (f b + 1)) (va_up h b (-1))) (0) (0) := by
  refine GC.ofV (by decide) (Nat.le_of_ble_eq_true rfl) (fun X hl E R hnm => ?_)
  subst hl
  have E : En X RX1 cX1_giveOne 4 (d) (0) (0) := E
  have R : Rt X none (fun r S2 => r = none ∧ S2 = D2 S gs gr (va_up f b (f b + 1)) (va_up h b (-1))) := R
  refine V_iconst (v := 0) E dX1_giveOne_0 (by decide) ?_
  refine V_istore_n E dX1_giveOne_1 (by decide) rfl ?_
  refine V_iconst (v := 1) E dX1_giveOne_2 (by decide) ?_
  refine V_istore_n E dX1_giveOne_3 (by decide) rfl ?_
  have loop : ∀ m p, p + m = N → 1 ≤ p → V X 4 [some (.ref (g)), some (.int (nI (N))), some (.int (nI ((pb r G p).getD 0))), some (.int (nI (p)))] [] (D2 S gs gr f h) 0 0 := by
    intro m
    induction m with
    | zero =>
      intro p hp hp1
      have hpN : p = N := by omega
      subst hpN
      rw [hb]
      obtain ⟨b1, -, -⟩ := (pb_spec r G p).2 b hb
      refine V_iload_n E dX1_giveOne_4 rfl ?_
      refine V_iload_n E dX1_giveOne_5 rfl ?_
      refine V_ge_yes (a := p) (b := p) (tgt := 33) E dX1_giveOne_6 (by decide) rfl rfl (by omega) (by omega) ?_
      refine V_aload_n E dX1_giveOne_33 rfl ?_
      refine V_getR E fl_X1_9 dX1_giveOne_34 rfl hP.1 hP.2.1 ?_
      refine V_iload_n E dX1_giveOne_37 rfl ?_
      refine V_dup2 E dX1_giveOne_38 rfl rfl ?_
      refine V_ia (j := b) E dX1_giveOne_39 hP.2.2.2.1 (@rfl _ (nI (b))) hP.2.2.2.2.1 (by omega) (by decide) ?_
      refine V_iconst (v := 1) E dX1_giveOne_40 (by decide) ?_
      refine V_iadd E dX1_giveOne_41 ?_
      refine V_ias (j := b) E dX1_giveOne_42 hP.2.2.2.1 (@rfl _ (nI (b))) hP.2.2.2.2.1 (by omega) (by decide) ?_
      refine V_cvS (D2_s _ _ _ _ _ _ _) ?_
      refine V_cvS (S' := D2 S gs gr (va_up f b (f b + 1)) h) (by rw [D2_f]) ?_
      refine V_aload_n E dX1_giveOne_43 rfl ?_
      refine V_getR E fl_X1_15 dX1_giveOne_44 rfl hP.1 hP.2.2.1 ?_
      refine V_iload_n E dX1_giveOne_47 rfl ?_
      refine V_ldc2 E dX1_giveOne_48 kl_X1_35 ?_
      refine V_las (j := b) E dX1_giveOne_51 hP.2.2.2.2.2.1 (@rfl _ (nI (b))) hP.2.2.2.2.2.2 (by omega) (by decide) ?_
      refine V_cvS (D2_r _ _ _ _ _ _ _) ?_
      exact V_vret E R dX1_giveOne_52 (Nat.le_refl _) (Nat.le_refl _) ⟨rfl, rfl⟩
    | succ m ih =>
      intro p hp hp1
      have hc := pb_lt (r := r) (G := G) hp1
      obtain ⟨c1, c2⟩ := cb_step (r := r) (G := G) hp1 (fun k hk => hr k (by omega))
      have e1 : aJ (D2 S gs gr f h) gr p = restOf r G p := by rw [D2_h]; exact hh p (by omega)
      have e2 : aJ (D2 S gs gr f h) gr ((pb r G p).getD 0) = restOf r G ((pb r G p).getD 0) := by rw [D2_h]; exact hh _ (by omega)
      refine V_iload_n E dX1_giveOne_4 rfl ?_
      refine V_iload_n E dX1_giveOne_5 rfl ?_
      refine V_ge_no (a := p) (b := N) (tgt := 33) E dX1_giveOne_6 (by decide) rfl rfl (by omega) (by omega) ?_
      refine V_aload_n E dX1_giveOne_9 rfl ?_
      refine V_getR E fl_X1_15 dX1_giveOne_10 rfl hP.1 hP.2.2.1 ?_
      refine V_iload_n E dX1_giveOne_13 rfl ?_
      refine V_la (j := p) E dX1_giveOne_14 hP.2.2.2.2.2.1 (@rfl _ (nI (p))) hP.2.2.2.2.2.2 (by omega) (by decide) ?_
      refine V_aload_n E dX1_giveOne_15 rfl ?_
      refine V_getR E fl_X1_15 dX1_giveOne_16 rfl hP.1 hP.2.2.1 ?_
      refine V_iload_n E dX1_giveOne_19 rfl ?_
      refine V_la (j := (pb r G p).getD 0) E dX1_giveOne_20 hP.2.2.2.2.2.1 (@rfl _ (nI ((pb r G p).getD 0))) hP.2.2.2.2.2.2 (by omega) (by decide) ?_
      refine V_lcmp E dX1_giveOne_21 ?_
      refine V_if_le (tgt := 27) E dX1_giveOne_22 (by decide) (fun h22 => ?_) (fun h22 => ?_)
      · have g22 := c1 (by rw [← e1, ← e2]; exact (lg_cmp_le _ _).mp h22)
        refine V_iinc (v := nI (p + 1)) E dX1_giveOne_27 rfl (ni_inc (a := p) (z := 1) (@rfl _ (nI (p)))) (by decide) rfl ?_
        refine V_goto (tgt := 4) E dX1_giveOne_30 (by decide) ?_
        have h9 := ih (p + 1) (by omega) (by omega)
        rw [g22] at h9
        exact h9
      · have g22 := c2 (fun q => h22 ((lg_cmp_le _ _).mpr (by rw [e1, e2]; exact q)))
        refine V_iload_n E dX1_giveOne_25 rfl ?_
        refine V_istore_n E dX1_giveOne_26 (by decide) rfl ?_
        refine V_iinc (v := nI (p + 1)) E dX1_giveOne_27 rfl (ni_inc (a := p) (z := 1) (@rfl _ (nI (p)))) (by decide) rfl ?_
        refine V_goto (tgt := 4) E dX1_giveOne_30 (by decide) ?_
        have h9 := ih (p + 1) (by omega) (by omega)
        rw [g22] at h9
        exact h9
  have h9 := loop (N - 1) 1 (by omega) (by omega)
  rw [pb_1] at h9
  exact h9

theorem cy_divide (l : Launch) (d : Nat) (S : GS) (g gs gr ga : Nat) (hP : POK S g gs gr) (hka : kd S ga = 21) (N : Nat) (hla : ln S ga = N) (hN : 1 ≤ N ∧ N ≤ 60) (hne : ga ≠ gs) (n : Nat) (mm : Nat → Nat) (hmm : ∀ k, k < N → aI S ga k = nI (mm k)) (hb : ∀ k, k < N → mm k ≤ 1000000000) (hn : n ≤ 1000000) : GC l (d + 1) yX1_divide cX1_divide 10 (some (FieldType.array FieldType.int)) [.ref g, .int (nI n), .ref ga] S (fun r S2 => r = some (.ref gs) ∧ ∃ f h, S2 = D2 S gs gr f h ∧ (0 < sumN mm N → ∀ k, k < 60 → f k = nI (if k < N then pSh n mm N k else 0)) ∧ (sumN mm N = 0 → ∀ k, k < 60 → f k = 0)) (0) (0) := by
  refine GC.ofV (by decide) (Nat.le_of_ble_eq_true rfl) (fun X hl E R hnm => ?_)
  subst hl
  have E : En X RX1 cX1_divide 10 (d + 1) (0) (0) := E
  have R : Rt X (some (FieldType.array FieldType.int)) (fun r S2 => r = some (.ref gs) ∧ ∃ f h, S2 = D2 S gs gr f h ∧ (0 < sumN mm N → ∀ k, k < 60 → f k = nI (if k < N then pSh n mm N k else 0)) ∧ (sumN mm N = 0 → ∀ k, k < 60 → f k = 0)) := R
  have hs : sumN mm N ≤ 60000000000 := by
    have h1 := sumN_le (f := mm) (g := fun _ => 1000000000) (n := N) hb
    rw [sumN_const] at h1
    omega
  have hsp : ∀ p, p ≤ N → sumN mm p ≤ sumN mm N := by
    intro p hp
    have : ∀ m p, p + m = N → sumN mm p ≤ sumN mm N := by
      intro m
      induction m with
      | zero => intro p hp; rw [show p = N by omega]; exact Nat.le_refl _
      | succ m ih => intro p hp; have := ih (p + 1) (by omega); simp only [sumN] at this; omega
    exact this (N - p) p (by omega)
  have hnm : ∀ k, k < N → n * mm k ≤ 1000000000000000 := fun k hk => Nat.mul_le_mul hn (hb k hk)
  refine V_aload_n E dX1_divide_0 rfl ?_
  refine V_al E dX1_divide_1 hka (by decide) hla ?_
  refine V_bipush (v := 60) E dX1_divide_2 (by decide) ?_
  refine V_imin E ml_X1_19 dX1_divide_4 (by simp [Value.category]) (by omega) (Nat.le_refl _) (Nat.le_refl _) ?_
  refine V_cvi (y := nI (N)) ((imin_n (a := N) (b := 60) rfl rfl (by omega) (by omega)).trans (congrArg nI (Nat.min_eq_left (by omega)))) ?_
  refine V_istore_n E dX1_divide_7 (by decide) rfl ?_
  refine V_lconst (v := 0) E dX1_divide_8 (by decide) ?_
  refine V_lstore E dX1_divide_9 (by decide) rfl ?_
  refine V_iconst (v := 0) E dX1_divide_11 (by decide) ?_
  refine V_istore E dX1_divide_12 (by decide) rfl ?_
  have loop1 : ∀ m p, p + m = N → V X 14 [some (.ref (g)), some (.int (nI (n))), some (.ref (ga)), some (.int (nI (N))), some (.long (lN (sumN mm p))), none, some (.int (nI (p))), none, none, none] [] S 0 0 := by
    intro m
    induction m with
    | zero =>
      intro p hp
      rw [show p = N by omega]
      refine V_iload E dX1_divide_14 rfl ?_
      refine V_iload_n E dX1_divide_16 rfl ?_
      refine V_ge_yes (a := N) (b := N) (tgt := 36) E dX1_divide_17 (by decide) rfl rfl (by omega) (by omega) ?_
      refine V_aload_n E dX1_divide_36 rfl ?_
      refine V_getR E fl_X1_9 dX1_divide_37 rfl hP.1 hP.2.1 ?_
      refine V_iconst (v := 0) E dX1_divide_40 (by decide) ?_
      refine V_callS E (cj_fill (x_l X) d S gs 60 hP.2.2.2.1 hP.2.2.2.2.1 (by omega) 0) ml_X1_25 ms_J7_fill_53178 dX1_divide_41 rfl (by simp [Value.category]) (by omega) (by omega) (by omega) (fun r S2 hp => ?_)
      obtain ⟨rfl, f0, rfl, hf0⟩ := hp
      refine V_lload E dX1_divide_44 rfl ?_
      refine V_lconst (v := 0) E dX1_divide_46 (by decide) ?_
      refine V_lcmp E dX1_divide_47 ?_
      refine V_if_gt (tgt := 56) E dX1_divide_48 (by decide) (fun h48 => ?_) (fun h48 => ?_)
      · have hpos : 0 < sumN mm N := by rcases Nat.eq_zero_or_pos (sumN mm N) with e | e; rw [e] at h48; exact absurd ((lg_cmp_gt _ _).mp h48) (by decide); exact e
        refine V_iload_n E dX1_divide_56 rfl ?_
        refine V_istore E dX1_divide_57 (by decide) rfl ?_
        refine V_iconst (v := 0) E dX1_divide_59 (by decide) ?_
        refine V_istore E dX1_divide_60 (by decide) rfl ?_
        have hB : ∀ k, k < N → pB n mm N k ≤ n := fun k hk => pB_bound hpos hk
        have hBs := pB_le (n := n) hpos
        have hBi : ∀ m p, p + m = N → sumN (pB n mm N) p ≤ n := by
          intro m
          induction m with
          | zero => intro p hp; rw [show p = N by omega]; exact hBs
          | succ m ih => intro p hp; have := ih (p + 1) (by omega); simp only [sumN] at this; omega
        refine V_cvS (S' := D2 S gs gr f0 (aJ S gr)) ((rL_self (rA S gs f0) gr).symm) ?_
        have loop2 : ∀ m p f h, p + m = N → (∀ k, k < 60 → f k = if k < p then nI (pB n mm N k) else 0) → (∀ k, k < p → h k = lN (pR n mm N k)) → V X 62 [some (.ref (g)), some (.int (nI (n))), some (.ref (ga)), some (.int (nI (N))), some (.long (lN (sumN mm N))), none, some (.int (nI (n - sumN (pB n mm N) p))), some (.int (nI (p))), none, none] [] (D2 S gs gr f h) 0 0 := by
          intro m
          induction m with
          | zero =>
            intro p f h hp hf hh
            have hpN : p = N := by omega
            rw [hpN]
            rw [hpN] at hf hh
            refine V_iload E dX1_divide_62 rfl ?_
            refine V_iload_n E dX1_divide_64 rfl ?_
            refine V_ge_yes (a := N) (b := N) (tgt := 121) E dX1_divide_65 (by decide) rfl rfl (by omega) (by omega) ?_
            refine V_iconst (v := 0) E dX1_divide_121 (by decide) ?_
            refine V_istore E dX1_divide_122 (by decide) rfl ?_
            have hlf := pLeft_le (n := n) (mm := mm) (N := N)
            have loop3 : ∀ m j f h, j + m = pLeft n mm N → (∀ k, k < 60 → f k = if k < N then nI (pB n mm N k + (pG (pR n mm N) N j) k) else 0) → (∀ k, k < N → h k = restOf (pR n mm N) (pG (pR n mm N) N j) k) → V X 124 [some (.ref (g)), some (.int (nI (n))), some (.ref (ga)), some (.int (nI (N))), some (.long (lN (sumN mm N))), none, some (.int (nI (pLeft n mm N))), some (.int (nI (j))), none, none] [] (D2 S gs gr f h) 0 0 := by
              intro m
              induction m with
              | zero =>
                intro j f h hj hf hh
                refine V_iload E dX1_divide_124 rfl ?_
                refine V_iload E dX1_divide_126 rfl ?_
                refine V_ge_yes (a := j) (b := pLeft n mm N) (tgt := 142) E dX1_divide_128 (by decide) rfl rfl (by omega) (by omega) ?_
                refine V_aload_n E dX1_divide_142 rfl ?_
                refine V_getR E fl_X1_9 dX1_divide_143 rfl hP.1 hP.2.1 ?_
                exact V_aret (r := (some (gs))) E R (by first | exact Or.inl ⟨_, rfl⟩ | exact Or.inr ⟨_, rfl⟩) dX1_divide_146 (Nat.le_refl _) (Nat.le_refl _) ⟨rfl, f, h, rfl, fun _ k hk => by rw [hf k hk, show j = pLeft n mm N by omega]; split; rfl; rfl, fun q => absurd q (by omega)⟩
              | succ m ih =>
                intro j f h hj hf hh
                obtain ⟨b, hb1, hb2, hb3, hb4⟩ := pb_left (n := n) (j := j) hpos (by omega)
                refine V_iload E dX1_divide_124 rfl ?_
                refine V_iload E dX1_divide_126 rfl ?_
                refine V_ge_no (a := j) (b := pLeft n mm N) (tgt := 142) E dX1_divide_128 (by decide) rfl rfl (by omega) (by omega) ?_
                refine V_aload_n E dX1_divide_131 rfl ?_
                refine V_iload_n E dX1_divide_132 rfl ?_
                refine V_callV E (cy_giveOne (x_l X) d S g gs gr hP f h N (pR n mm N) (pG (pR n mm N) N j) hN (fun k _ => by have := pR_lt (n := n) (k := k) hpos; omega) hh b hb1) ml_X1_31 mv_X1_giveOne hP.1 dX1_divide_133 rfl (by simp [Value.category]) (by omega) (by omega) (by omega) (fun r S2 hp => ?_)
                obtain ⟨rfl, rfl⟩ := hp
                refine V_iinc (v := nI (j + 1)) E dX1_divide_136 rfl (ni_inc (a := j) (z := 1) (@rfl _ (nI (j)))) (by decide) rfl ?_
                refine V_goto (tgt := 124) E dX1_divide_139 (by decide) ?_
                refine ih (j + 1) _ _ (by omega) (fun k hk => ?_) (fun k hk => ?_)
                · rw [hb4]; by_cases e : k = b
                  · subst e; rw [va_up_self, va_up_self, hf k hk, if_pos hb2, if_pos hb2, hb3]; exact nI_1 _
                  · rw [va_up_ne _ _ e, va_up_ne _ _ e]; exact hf k hk
                · rw [hb4]; by_cases e : k = b
                  · subst e; rw [va_up_self, restOf_1 (by rw [va_up_self]; decide)]
                  · rw [va_up_ne _ _ e, hh k hk]; unfold restOf; rw [va_up_ne _ _ e]
            exact loop3 (pLeft n mm N) 0 f h (by omega) hf (fun k hk => hh k hk)
          | succ m ih =>
            intro p f h hp hf hh
            have hk1 := hnm p (by omega)
            have hk2 := hB p (by omega)
            have hk3 := hBi m (p + 1) (by omega)
            simp only [sumN] at hk3
            refine V_iload E dX1_divide_62 rfl ?_
            refine V_iload_n E dX1_divide_64 rfl ?_
            refine V_ge_no (a := p) (b := N) (tgt := 121) E dX1_divide_65 (by decide) rfl rfl (by omega) (by omega) ?_
            refine V_iload_n E dX1_divide_68 rfl ?_
            refine V_i2l E dX1_divide_69 rfl ?_
            refine V_aload_n E dX1_divide_70 rfl ?_
            refine V_iload E dX1_divide_71 rfl ?_
            refine V_ia (j := p) (N := N) E dX1_divide_73 hka (@rfl _ (nI p)) hla (by omega) (by omega) ?_
            refine V_i2l E dX1_divide_74 rfl ?_
            refine V_lmul E dX1_divide_75 ?_
            refine V_cvl (y := lN ((n * (mm p)))) (ll_mul (a := n) (b := (mm p)) (li_of (@rfl _ (nI (n))) (by omega)) (li_of ((congrFun (D2_m hne) p).trans (hmm p (by omega))) (by have := hb p (by omega); omega))) ?_
            refine V_lstore E dX1_divide_76 (by decide) rfl ?_
            refine V_aload_n E dX1_divide_78 rfl ?_
            refine V_getR E fl_X1_9 dX1_divide_79 rfl hP.1 hP.2.1 ?_
            refine V_iload E dX1_divide_82 rfl ?_
            refine V_lload E dX1_divide_84 rfl ?_
            refine V_lload E dX1_divide_86 rfl ?_
            refine V_ldiv E dX1_divide_88 (ll_ne (b := sumN mm N) rfl hpos (by omega)) ?_
            refine V_l2i E dX1_divide_89 rfl ?_
            refine V_cvi (y := nI (pB n mm N p)) (il_of (ll_div (a := (n * (mm p))) (b := (sumN mm N)) (@rfl _ (lN ((n * (mm p))))) (@rfl _ (lN (sumN mm N))) (by omega) hpos (by omega))) ?_
            refine V_ias (j := p) E dX1_divide_90 hP.2.2.2.1 (@rfl _ (nI (p))) hP.2.2.2.2.1 (by omega) (by decide) ?_
            refine V_cvS (D2_s _ _ _ _ _ _ _) ?_
            refine V_aload_n E dX1_divide_91 rfl ?_
            refine V_getR E fl_X1_15 dX1_divide_92 rfl hP.1 hP.2.2.1 ?_
            refine V_iload E dX1_divide_95 rfl ?_
            refine V_lload E dX1_divide_97 rfl ?_
            refine V_lload E dX1_divide_99 rfl ?_
            refine V_lrem E dX1_divide_101 (ll_ne (b := sumN mm N) rfl hpos (by omega)) ?_
            refine V_cvl (y := lN (pR n mm N p)) (ll_rem (a := (n * (mm p))) (b := (sumN mm N)) (@rfl _ (lN ((n * (mm p))))) (@rfl _ (lN (sumN mm N))) (by omega) hpos (by omega)) ?_
            refine V_las (j := p) E dX1_divide_102 hP.2.2.2.2.2.1 (@rfl _ (nI (p))) hP.2.2.2.2.2.2 (by omega) (by decide) ?_
            refine V_cvS (D2_r _ _ _ _ _ _ _) ?_
            refine V_iload E dX1_divide_103 rfl ?_
            refine V_aload_n E dX1_divide_105 rfl ?_
            refine V_getR E fl_X1_9 dX1_divide_106 rfl hP.1 hP.2.1 ?_
            refine V_iload E dX1_divide_109 rfl ?_
            refine V_ia (j := p) E dX1_divide_111 hP.2.2.2.1 (@rfl _ (nI (p))) hP.2.2.2.2.1 (by omega) (by decide) ?_
            refine V_isub E dX1_divide_112 ?_
            refine V_cvi (y := nI (n - sumN (pB n mm N) (p + 1))) ((ni_sub (a := n - sumN (pB n mm N) p) (b := (pB n mm N p)) (@rfl _ (nI (n - sumN (pB n mm N) p))) ((congrFun D2_f p).trans (va_up_self _ _ _)) (by omega)).trans (congrArg nI (by simp only [sumN]; omega))) ?_
            refine V_istore E dX1_divide_113 (by decide) rfl ?_
            refine V_iinc (v := nI (p + 1)) E dX1_divide_115 rfl (ni_inc (a := p) (z := 1) (@rfl _ (nI (p)))) (by decide) rfl ?_
            refine V_goto (tgt := 62) E dX1_divide_118 (by decide) ?_
            refine V_lo (lo' := [some (.ref (g)), some (.int (nI (n))), some (.ref (ga)), some (.int (nI (N))), some (.long (lN (sumN mm N))), none, some (.int (nI (n - sumN (pB n mm N) (p + 1)))), some (.int (nI (p + 1))), none, none]) (And.intro rfl (And.intro rfl (And.intro rfl (And.intro rfl (And.intro rfl (And.intro rfl (And.intro rfl True.intro))))))) ?_
            refine ih (p + 1) _ _ (by omega) (fun k hk => ?_) (fun k hk => ?_)
            · by_cases e : k = p
              · subst e; rw [va_up_self, if_pos (by omega)]
              · rw [va_up_ne _ _ e, hf k hk]; by_cases c : k < p
                · rw [if_pos c, if_pos (by omega)]
                · rw [if_neg c, if_neg (by omega)]
            · by_cases e : k = p
              · subst e; exact va_up_self _ _ _
              · rw [va_up_ne _ _ e]; exact hh k (by omega)
        exact loop2 N 0 _ _ (by omega) (fun k hk => by rw [hf0 k hk, if_neg (by omega)]) (fun k hk => absurd hk (Nat.not_lt_zero k))
      · have hz : sumN mm N = 0 := by rcases Nat.eq_zero_or_pos (sumN mm N) with e | e; exact e; exact absurd ((lg_cmp_gt _ _).mpr ((pk_lLT (a := 0) (b := sumN mm N) (by omega) (by omega)).mpr e)) h48
        refine V_aload_n E dX1_divide_51 rfl ?_
        refine V_getR E fl_X1_9 dX1_divide_52 rfl hP.1 hP.2.1 ?_
        exact V_aret (r := (some (gs))) E R (by first | exact Or.inl ⟨_, rfl⟩ | exact Or.inr ⟨_, rfl⟩) dX1_divide_55 (Nat.le_refl _) (Nat.le_refl _) ⟨rfl, f0, aJ S gr, (show rA S gs f0 = D2 S gs gr f0 (aJ S gr) from (rL_self (rA S gs f0) gr).symm), fun q => absurd q (by omega), fun _ k hk => hf0 k hk⟩
    | succ m ih =>
      intro p hp
      refine V_iload E dX1_divide_14 rfl ?_
      refine V_iload_n E dX1_divide_16 rfl ?_
      refine V_ge_no (a := p) (b := N) (tgt := 36) E dX1_divide_17 (by decide) rfl rfl (by omega) (by omega) ?_
      refine V_lload E dX1_divide_20 rfl ?_
      refine V_aload_n E dX1_divide_22 rfl ?_
      refine V_iload E dX1_divide_23 rfl ?_
      refine V_ia (j := p) (N := N) E dX1_divide_25 hka (@rfl _ (nI p)) hla (by omega) (by omega) ?_
      refine V_i2l E dX1_divide_26 rfl ?_
      refine V_ladd E dX1_divide_27 ?_
      refine V_cvl (y := lN (sumN mm (p + 1))) (ll_add (a := (sumN mm p)) (b := (mm p)) (@rfl _ (lN (sumN mm p))) (li_of (hmm p (by omega)) (by have := hb p (by omega); omega))) ?_
      refine V_lstore E dX1_divide_28 (by decide) rfl ?_
      refine V_iinc (v := nI (p + 1)) E dX1_divide_30 rfl (ni_inc (a := p) (z := 1) (@rfl _ (nI (p)))) (by decide) rfl ?_
      refine V_goto (tgt := 14) E dX1_divide_33 (by decide) ?_
      exact ih (p + 1) (by omega)
  exact loop1 N 0 (by omega)
