theorem cm_vote (l : Launch) (d : Nat) (S : GS) (T : AT) (hT : TOK T) (hM : MOK S) (hX : MTx S T) (B : AB) (hB : BOK B) (hV : MVo S B) (x : Int32) : GC l (d + 30) yX11_vote cX11_vote 3 (some FieldType.int) [.ref 0, .int x] S (fun r S2 => (((wi_ x 0 10000 ∧ FR T 0 1 0 0 = none) ∧ bn B < 50) ∧ r = some (.int (nI (bn B))) ∧ ∃ a w o q f c, S2 = mVot S a w o q f c (bn B) x ∧ cOld S (bn B) q f c ∧ ∀ f3, (∀ k, k < q → f3 k = f k) → PMv T f3) ∨ (¬ ((wi_ x 0 10000 ∧ FR T 0 1 0 0 = none) ∧ bn B < 50) ∧ r = some (.int (-1)) ∧ (S2 = S ∨ ∃ a w o q f, S2 = pst S a w o q f))) (0) (0) := by
  refine GC.ofV (by decide) (Nat.le_of_ble_eq_true rfl) (fun X hl E R hnm => ?_)
  subst hl
  have E : En X RX11 cX11_vote 3 (d + 30) (0) (0) := E
  have R : Rt X (some FieldType.int) (fun r S2 => (((wi_ x 0 10000 ∧ FR T 0 1 0 0 = none) ∧ bn B < 50) ∧ r = some (.int (nI (bn B))) ∧ ∃ a w o q f c, S2 = mVot S a w o q f c (bn B) x ∧ cOld S (bn B) q f c ∧ ∀ f3, (∀ k, k < q → f3 k = f k) → PMv T f3) ∨ (¬ ((wi_ x 0 10000 ∧ FR T 0 1 0 0 = none) ∧ bn B < 50) ∧ r = some (.int (-1)) ∧ (S2 = S ∨ ∃ a w o q f, S2 = pst S a w o q f))) := R
  have hn := hT.1
  have h50 := hB.1
  refine V_iload_n E dX11_vote_0 rfl ?_
  refine V_iconst (v := 0) E dX11_vote_1 (by decide) ?_
  refine V_sipush (v := 10000) E dX11_vote_2 (by decide) ?_
  refine V_callS E (cm_in (x_l X) d S _ _ _) ml_X11_115 ms_X11_in dX11_vote_5 rfl (by simp [Value.category]) (by omega) (by omega) (by omega) (fun r S2 hp => ?_)
  obtain ⟨rfl, hS2⟩ := hp
  obtain rfl := hS2.symm
  refine V_ifeq_b (tgt := 28) E dX11_vote_8 (by decide) (fun hc8 => ?_) (fun hc8 => ?_)
  · have g : ¬ ((wi_ x 0 10000 ∧ FR T 0 1 0 0 = none) ∧ bn B < 50) := fun z => hc8 ((wi_iff (by decide) (by decide)).mpr z.1.1)
    refine V_iconst (v := -1) E dX11_vote_28 (by decide) ?_
    exact V_iret E R dX11_vote_29 rfl (Nat.le_refl _) (Nat.le_refl _) (Or.inr ⟨g, rfl, Or.inl rfl⟩)
  · have w8 : wi_ x 0 10000 := (wi_iff (by decide) (by decide)).mp hc8
    refine V_aload_n E dX11_vote_11 rfl ?_
    refine V_getI E fl_X11_204 dX11_vote_12 rfl hM.o ?_
    refine V_bipush (v := 50) E dX11_vote_15 (by decide) ?_
    refine V_icmp_eq (tgt := 28) E dX11_vote_17 (by decide) (fun h17 => ?_) (fun h17 => ?_)
    · have e17 : bn B = 50 := (nI_eq (a := bn B) (b := 50) (by omega) (by omega)).mp (hV.n.symm.trans h17)
      have g : ¬ ((wi_ x 0 10000 ∧ FR T 0 1 0 0 = none) ∧ bn B < 50) := fun z => by have := z.2; omega
      refine V_iconst (v := -1) E dX11_vote_28 (by decide) ?_
      exact V_iret E R dX11_vote_29 rfl (Nat.le_refl _) (Nat.le_refl _) (Or.inr ⟨g, rfl, Or.inl rfl⟩)
    · have g17 : bn B < 50 := by rcases Nat.lt_or_ge (bn B) 50 with z | z; exact z; exact absurd (hV.n.trans (congrArg nI (by omega : bn B = 50))) h17
      refine V_aload_n E dX11_vote_20 rfl ?_
      refine V_callV E (cm_fault (x_l X) d S T hT hM hX) ml_X11_207 mv_X11_fault hM.o dX11_vote_21 rfl (by simp [Value.category]) (by omega) (by omega) (by omega) (fun r S2 hp => ?_)
      obtain ⟨rfl, a, w, o, q, f, rfl, hfl⟩ := hp
      refine V_iconst (v := -1) E dX11_vote_24 (by decide) ?_
      refine V_icmp_eq (tgt := 30) E dX11_vote_25 (by decide) (fun h25 => ?_) (fun h25 => ?_)
      · have g25 := an_none hT h25
        obtain ⟨hq4, hpm⟩ := hfl g25
        refine V_iconst (v := 0) E dX11_vote_30 (by decide) ?_
        refine V_istore_n E dX11_vote_31 (by decide) rfl ?_
        have loop : ∀ m p c, p + m = q → ((∀ k, k < p → c (420 * bn B + k) = f k) ∧ ∀ j, j < 420 * bn B → c j = aI S 21 j) → V X 32 [some (.ref (0)), some (.int (x)), some (.int (nI (p)))] [] (rA (pst S a w o q f) 21 c) 0 0 := by
          intro m
          induction m with
          | zero =>
            intro p c hp hh
            refine V_iload_n E dX11_vote_32 rfl ?_
            refine V_aload_n E dX11_vote_33 rfl ?_
            refine V_getI E fl_X11_175 dX11_vote_34 rfl hM.o ?_
            refine V_ge_yes (a := p) (b := q) (tgt := 67) E dX11_vote_37 (by decide) (@rfl _ (nI (p))) (pst_q S a w o q f) (by omega) (by omega) ?_
            refine V_aload_n E dX11_vote_67 rfl ?_
            refine V_getR E fl_X11_48 dX11_vote_68 rfl hM.o (hM.r 22 (by decide)) ?_
            refine V_aload_n E dX11_vote_71 rfl ?_
            refine V_getI E fl_X11_204 dX11_vote_72 rfl hM.o ?_
            refine V_iload_n E dX11_vote_75 rfl ?_
            refine V_ias (j := (bn B)) E dX11_vote_76 (hM.k 22 21 rfl (by decide)) ((pst_k S a w o q f (by decide)).trans hV.n) (hM.l 22 50 rfl (by decide)) (by omega) (by decide) ?_
            refine V_aload_n E dX11_vote_77 rfl ?_
            refine V_getR E fl_X11_51 dX11_vote_78 rfl hM.o (hM.r 23 (by decide)) ?_
            refine V_aload_n E dX11_vote_81 rfl ?_
            refine V_getI E fl_X11_204 dX11_vote_82 rfl hM.o ?_
            refine V_iconst (v := 0) E dX11_vote_85 (by decide) ?_
            refine V_zas (j := (bn B)) E dX11_vote_86 (hM.k 23 24 rfl (by decide)) ((pst_k S a w o q f (by decide)).trans hV.n) (hM.l 23 50 rfl (by decide)) (by omega) (by decide) ?_
            refine V_aload_n E dX11_vote_87 rfl ?_
            refine V_dup E dX11_vote_88 rfl ?_
            refine V_getI E fl_X11_204 dX11_vote_89 rfl hM.o ?_
            refine V_iconst (v := 1) E dX11_vote_92 (by decide) ?_
            refine V_iadd E dX11_vote_93 ?_
            refine V_cvi (y := nI (((bn B) + 1))) (ni_add (a := (bn B)) (b := 1) ((pst_k S a w o q f (by decide)).trans hV.n) (rfl : (1 : Int32) = nI 1)) ?_
            refine V_putI E fl_X11_204 dX11_vote_94 rfl hM.o ⟨rfl, rfl⟩ rfl ?_
            refine V_aload_n E dX11_vote_97 rfl ?_
            refine V_iconst (v := 0) E dX11_vote_98 (by decide) ?_
            refine V_putI E fl_X11_166 dX11_vote_99 rfl hM.o ⟨rfl, rfl⟩ rfl ?_
            refine V_aload_n E dX11_vote_102 rfl ?_
            refine V_getI E fl_X11_204 dX11_vote_103 rfl hM.o ?_
            refine V_iconst (v := 1) E dX11_vote_106 (by decide) ?_
            refine V_isub E dX11_vote_107 ?_
            exact V_iret E R dX11_vote_108 rfl (Nat.le_refl _) (Nat.le_refl _) (Or.inl ⟨⟨⟨w8, g25⟩, g17⟩, congrArg (fun z => some (Value.int z)) ((ni_sub (a := (bn B + 1)) (b := 1) (show fI (mVot S a w o q f c (bn B) x) 0 24 = nI (bn B + 1) from by rw [mVot, fI_sI, up2_nk (by decide), fI_sI, up2_at]) (rfl : (1 : Int32) = nI 1) (by omega))), a, w, o, q, f, c, rfl, ⟨fun k hk => hh.1 k (by omega), hh.2⟩, hpm⟩)
          | succ m ih =>
            intro p c hp hh
            refine V_iload_n E dX11_vote_32 rfl ?_
            refine V_aload_n E dX11_vote_33 rfl ?_
            refine V_getI E fl_X11_175 dX11_vote_34 rfl hM.o ?_
            refine V_ge_no (a := p) (b := q) (tgt := 67) E dX11_vote_37 (by decide) (@rfl _ (nI (p))) (pst_q S a w o q f) (by omega) (by omega) ?_
            refine V_aload_n E dX11_vote_40 rfl ?_
            refine V_getR E fl_X11_45 dX11_vote_41 rfl hM.o (hM.r 21 (by decide)) ?_
            refine V_sipush (v := 420) E dX11_vote_44 (by decide) ?_
            refine V_aload_n E dX11_vote_47 rfl ?_
            refine V_getI E fl_X11_204 dX11_vote_48 rfl hM.o ?_
            refine V_imul E dX11_vote_51 ?_
            refine V_iload_n E dX11_vote_52 rfl ?_
            refine V_iadd E dX11_vote_53 ?_
            refine V_aload_n E dX11_vote_54 rfl ?_
            refine V_getR E fl_X11_54 dX11_vote_55 rfl hM.o (hM.r 26 (by decide)) ?_
            refine V_iload_n E dX11_vote_58 rfl ?_
            refine V_ia (j := p) E dX11_vote_59 (hM.k 26 21 rfl (by decide)) (@rfl _ (nI (p))) (hM.l 26 420 rfl (by decide)) (by omega) (by decide) ?_
            refine V_cvi (y := f p) (show va_up (va_up (aI S) 26 f) 21 c 26 p = f p from by rw [va_up_ne _ _ (by decide), va_up_self]) ?_
            refine V_ias (j := ((420 * (bn B)) + p)) E dX11_vote_60 (hM.k 21 21 rfl (by decide)) (ni_add (a := (420 * (bn B))) (b := p) (ni_mul (a := 420) (b := (bn B)) (rfl : (420 : Int32) = nI 420) ((pst_k S a w o q f (by decide)).trans hV.n)) (@rfl _ (nI (p)))) (hM.l 21 21000 rfl (by decide)) (by omega) (by decide) ?_
            refine V_cvS (sA_rA (pst S a w o q f) 21 c (420 * bn B + p) (f p)) ?_
            refine V_iinc (v := nI (p + 1)) E dX11_vote_61 rfl (ni_inc (a := p) (z := 1) (@rfl _ (nI (p)))) (by decide) rfl ?_
            refine V_goto (tgt := 32) E dX11_vote_64 (by decide) ?_
            exact ih (p + 1) _ (by omega) ⟨fun k hk => by by_cases e : k = p; rw [e, va_up_self]; rw [va_up_ne _ _ (by omega)]; exact hh.1 k (by omega), fun j hj => by rw [va_up_ne _ _ (by omega)]; exact hh.2 j hj⟩
        exact V_cvS (show pst S a w o q f = rA (pst S a w o q f) 21 (aI S 21) from (rA_self (pst S a w o q f) 21).symm) (loop q 0 (aI S 21) (by omega) ⟨fun k hk => absurd hk (Nat.not_lt_zero _), fun j _ => rfl⟩)
      · have g : ¬ ((wi_ x 0 10000 ∧ FR T 0 1 0 0 = none) ∧ bn B < 50) := fun z => h25 (by rw [z.1.2]; rfl)
        refine V_iconst (v := -1) E dX11_vote_28 (by decide) ?_
        exact V_iret E R dX11_vote_29 rfl (Nat.le_refl _) (Nat.le_refl _) (Or.inr ⟨g, rfl, Or.inr ⟨a, w, o, q, f, rfl⟩⟩)
