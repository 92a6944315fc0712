theorem cm_look (l : Launch) (d : Nat) (S : GS) (T : AT) (hT : TOK T) (hM : MOK S) (hX : MTx S T) (i : Nat) (hi : i ≤ T.1) (w : Int32) (o q : Nat) (f : Nat → Int32) : GC l (d) yX11_look cX11_look 1 (some FieldType.int) [.ref 0] (pst S i w o q f) (fun r S2 => ∃ j, Spn T i j ∧ r = some (.int (lkv T j)) ∧ S2 = pst S j w o q f) (0) (0) := by
  refine GC.ofV (by decide) (Nat.le_of_ble_eq_true rfl) (fun X hl E R hnm => ?_)
  subst hl
  have E : En X RX11 cX11_look 1 (d) (0) (0) := E
  have R : Rt X (some FieldType.int) (fun r S2 => ∃ j, Spn T i j ∧ r = some (.int (lkv T j)) ∧ S2 = pst S j w o q f) := R
  have hn := hT.1
  have loop : ∀ m p, p + m = T.1 → (i ≤ p ∧ ∀ x, i ≤ x → x < p → T.2 x = 32) → V X 0 [some (.ref 0)] [] (pst S p w o q f) 0 0 := by
    intro m
    induction m with
    | zero =>
      intro p  hp hh
      refine V_aload_n E dX11_look_0 rfl ?_
      refine V_getI E fl_X11_169 dX11_look_1 rfl hM.o ?_
      refine V_aload_n E dX11_look_4 rfl ?_
      refine V_getI E fl_X11_166 dX11_look_5 rfl hM.o ?_
      refine V_ge_yes (a := p) (b := T.1) (tgt := 38) E dX11_look_8 (by decide) (pst_a S p w o q f) (pst_n S p w o q f hX) (by omega) (by omega) ?_
      refine V_aload_n E dX11_look_38 rfl ?_
      refine V_getI E fl_X11_169 dX11_look_39 rfl hM.o ?_
      refine V_aload_n E dX11_look_42 rfl ?_
      refine V_getI E fl_X11_166 dX11_look_43 rfl hM.o ?_
      refine V_ge_yes (a := p) (b := T.1) (tgt := 61) E dX11_look_46 (by decide) (pst_a S p w o q f) (pst_n S p w o q f hX) (by omega) (by omega) ?_
      refine V_iconst (v := -1) E dX11_look_61 (by decide) ?_
      exact V_iret E R dX11_look_62 rfl (Nat.le_refl _) (Nat.le_refl _) ⟨p, ⟨hh.1, by omega, hh.2, fun z => by omega⟩, congrArg (fun z => some (Value.int z)) (lk_0 (by omega)).symm, rfl⟩
    | succ m ih =>
      intro p  hp hh
      have hb := hT.2 p (by omega)
      refine V_aload_n E dX11_look_0 rfl ?_
      refine V_getI E fl_X11_169 dX11_look_1 rfl hM.o ?_
      refine V_aload_n E dX11_look_4 rfl ?_
      refine V_getI E fl_X11_166 dX11_look_5 rfl hM.o ?_
      refine V_ge_no (a := p) (b := T.1) (tgt := 38) E dX11_look_8 (by decide) (pst_a S p w o q f) (pst_n S p w o q f hX) (by omega) (by omega) ?_
      refine V_aload_n E dX11_look_11 rfl ?_
      refine V_getR E fl_X11_42 dX11_look_12 rfl hM.o (hM.r 16 (by decide)) ?_
      refine V_aload_n E dX11_look_15 rfl ?_
      refine V_getI E fl_X11_169 dX11_look_16 rfl hM.o ?_
      refine V_ia (j := p) E dX11_look_19 (hM.k 16 21 rfl (by decide)) (pst_a S p w o q f) (hM.l 16 220 rfl (by decide)) (by omega) (by decide) ?_
      refine V_bipush (v := 32) E dX11_look_20 (by decide) ?_
      refine V_icmp_ne (tgt := 38) E dX11_look_22 (by decide) (fun h22 => ?_) (fun h22 => ?_)
      · have g22 : T.2 p ≠ 32 := fun e => h22 ((pst_t S p w o q f hX (by omega)).trans (by rw [e]; rfl))
        refine V_aload_n E dX11_look_38 rfl ?_
        refine V_getI E fl_X11_169 dX11_look_39 rfl hM.o ?_
        refine V_aload_n E dX11_look_42 rfl ?_
        refine V_getI E fl_X11_166 dX11_look_43 rfl hM.o ?_
        refine V_ge_no (a := p) (b := T.1) (tgt := 61) E dX11_look_46 (by decide) (pst_a S p w o q f) (pst_n S p w o q f hX) (by omega) (by omega) ?_
        refine V_aload_n E dX11_look_49 rfl ?_
        refine V_getR E fl_X11_42 dX11_look_50 rfl hM.o (hM.r 16 (by decide)) ?_
        refine V_aload_n E dX11_look_53 rfl ?_
        refine V_getI E fl_X11_169 dX11_look_54 rfl hM.o ?_
        refine V_ia (j := p) E dX11_look_57 (hM.k 16 21 rfl (by decide)) (pst_a S p w o q f) (hM.l 16 220 rfl (by decide)) (by omega) (by decide) ?_
        refine V_goto (tgt := 62) E dX11_look_58 (by decide) ?_
        exact V_iret E R dX11_look_62 rfl (Nat.le_refl _) (Nat.le_refl _) ⟨p, ⟨hh.1, by omega, hh.2, fun _ => g22⟩, congrArg (fun z => some (Value.int z)) ((pst_t S p w o q f hX (by omega)).trans (lk_1 (by omega)).symm), rfl⟩
      · have g22 : T.2 p = 32 := (nI_eq (a := T.2 p) (b := 32) (by omega) (by omega)).mp ((pst_t S p w o q f hX (by omega)).symm.trans h22)
        refine V_aload_n E dX11_look_25 rfl ?_
        refine V_dup E dX11_look_26 rfl ?_
        refine V_getI E fl_X11_169 dX11_look_27 rfl hM.o ?_
        refine V_iconst (v := 1) E dX11_look_30 (by decide) ?_
        refine V_iadd E dX11_look_31 ?_
        refine V_cvi (y := nI ((p + 1))) (ni_add (a := p) (b := 1) (pst_a S p w o q f) (rfl : (1 : Int32) = nI 1)) ?_
        refine V_putI E fl_X11_169 dX11_look_32 rfl hM.o ⟨rfl, rfl⟩ rfl ?_
        refine V_cvS (pst_sa S p w o q f ((p + 1))) ?_
        refine V_goto (tgt := 0) E dX11_look_35 (by decide) ?_
        exact ih (p + 1) (by omega) ⟨by omega, fun x h1 h2 => by by_cases e : x = p; exact e ▸ g22; exact hh.2 x h1 (by omega)⟩
  exact loop (T.1 - i) i (by omega) ⟨Nat.le_refl _, fun x _ _ => by omega⟩

theorem cm_fail (l : Launch) (d : Nat) (S : GS) (hM : MOK S) (i o q : Nat) (f : Nat → Int32) : GC l (d) yX11_fail cX11_fail 1 none [.ref 0] (pst S i (-1) o q f) (fun r S2 => r = none ∧ S2 = pst S i (nI i) o q f) (0) (0) := by
  refine GC.ofV (by decide) (Nat.le_of_ble_eq_true rfl) (fun X hl E R hnm => ?_)
  subst hl
  have E : En X RX11 cX11_fail 1 (d) (0) (0) := E
  have R : Rt X none (fun r S2 => r = none ∧ S2 = pst S i (nI i) o q f) := R
  refine V_aload_n E dX11_fail_0 rfl ?_
  refine V_aload_n E dX11_fail_1 rfl ?_
  refine V_getI E fl_X11_172 dX11_fail_2 rfl hM.o ?_
  refine V_iconst (v := -1) E dX11_fail_5 (by decide) ?_
  refine V_icmp_ne (tgt := 16) E dX11_fail_6 (by decide) (fun hx => absurd hx (fun z => z (pst_w S i (-1) o q f))) (fun _ => ?_)
  refine V_aload_n E dX11_fail_9 rfl ?_
  refine V_getI E fl_X11_169 dX11_fail_10 rfl hM.o ?_
  refine V_goto (tgt := 20) E dX11_fail_13 (by decide) ?_
  refine V_cvi (y := nI (i)) (pst_a S i (-1) o q f) ?_
  refine V_putI E fl_X11_172 dX11_fail_20 rfl hM.o ⟨rfl, rfl⟩ rfl ?_
  refine V_cvS (pst_sw S i (-1) o q f (nI (i))) ?_
  exact V_vret E R dX11_fail_23 (Nat.le_refl _) (Nat.le_refl _) ⟨rfl, rfl⟩

theorem cm_say (l : Launch) (d : Nat) (S : GS) (hM : MOK S) (i : Nat) (w : Int32) (o q : Nat) (f : Nat → Int32) (c : Int32) (hq : q < 420) : GC l (d) yX11_say cX11_say 2 none [.ref 0, .int c] (pst S i w o q f) (fun r S2 => r = none ∧ S2 = pst S i w o (q + 1) (va_up f q c)) (0) (0) := by
  refine GC.ofV (by decide) (Nat.le_of_ble_eq_true rfl) (fun X hl E R hnm => ?_)
  subst hl
  have E : En X RX11 cX11_say 2 (d) (0) (0) := E
  have R : Rt X none (fun r S2 => r = none ∧ S2 = pst S i w o (q + 1) (va_up f q c)) := R
  refine V_aload_n E dX11_say_0 rfl ?_
  refine V_getR E fl_X11_54 dX11_say_1 rfl hM.o (hM.r 26 (by decide)) ?_
  refine V_aload_n E dX11_say_4 rfl ?_
  refine V_getI E fl_X11_175 dX11_say_5 rfl hM.o ?_
  refine V_iload_n E dX11_say_8 rfl ?_
  refine V_ias (j := q) E dX11_say_9 (hM.k 26 21 rfl (by decide)) (pst_q S i w o q f) (hM.l 26 420 rfl (by decide)) (by omega) (by decide) ?_
  refine V_aload_n E dX11_say_10 rfl ?_
  refine V_dup E dX11_say_11 rfl ?_
  refine V_getI E fl_X11_175 dX11_say_12 rfl hM.o ?_
  refine V_iconst (v := 1) E dX11_say_15 (by decide) ?_
  refine V_iadd E dX11_say_16 ?_
  refine V_cvi (y := nI ((q + 1))) (ni_add (a := q) (b := 1) (pst_q S i w o q f) (rfl : (1 : Int32) = nI 1)) ?_
  refine V_putI E fl_X11_175 dX11_say_17 rfl hM.o ⟨rfl, rfl⟩ rfl ?_
  refine V_cvS (pst_say S i w o q f c (q + 1)) ?_
  exact V_vret E R dX11_say_20 (Nat.le_refl _) (Nat.le_refl _) ⟨rfl, rfl⟩

theorem cm_number (l : Launch) (d : Nat) (S : GS) (T : AT) (hT : TOK T) (hM : MOK S) (hX : MTx S T) (i o q : Nat) (f : Nat → Int32) (hi : i < T.1) (hd : dg (T.2 i)) (hq : q + 2 ≤ 420) (ho : o ≤ 8) : GC l (d + 1) yX11_number cX11_number 3 none [.ref 0] (pst S i (-1) o q f) (PF1 S T i o q f) (0) (0) := by
  refine GC.ofV (by decide) (Nat.le_of_ble_eq_true rfl) (fun X hl E R hnm => ?_)
  subst hl
  have E : En X RX11 cX11_number 3 (d + 1) (0) (0) := E
  have R : Rt X none (PF1 S T i o q f) := R
  have hn := hT.1
  refine V_iconst (v := 0) E dX11_number_0 (by decide) ?_
  refine V_istore_n E dX11_number_1 (by decide) rfl ?_
  refine V_iconst (v := 0) E dX11_number_2 (by decide) ?_
  refine V_istore_n E dX11_number_3 (by decide) rfl ?_
  have loop : ∀ m c v, i + c + m = T.1 → Nm T i o c v → V X 4 [some (.ref 0), some (.int (nI v)), some (.int (nI c))] [] (pst S (i + c) (-1) o q f) 0 0 := by
    intro m
    induction m with
    | zero =>
      intro c v hp hh
      have gn : ¬ (i + c < T.1 ∧ dg (T.2 (i + c))) := fun z => by omega
      refine V_aload_n E dX11_number_4 rfl ?_
      refine V_getI E fl_X11_169 dX11_number_5 rfl hM.o ?_
      refine V_aload_n E dX11_number_8 rfl ?_
      refine V_getI E fl_X11_166 dX11_number_9 rfl hM.o ?_
      refine V_ge_yes (a := (i + c)) (b := T.1) (tgt := 87) E dX11_number_12 (by decide) (pst_a S (i + c) (-1) o q f) (pst_n S (i + c) (-1) o q f hX) (by omega) (by omega) ?_
      refine V_aload_n E dX11_number_87 rfl ?_
      refine V_iconst (v := 0) E dX11_number_88 (by decide) ?_
      refine V_callV E (cm_say (x_l X) d S hM (i + c) (-1) o q f (0) (by omega)) ml_X11_185 mv_X11_say hM.o dX11_number_89 rfl (by simp [Value.category]) (by omega) (by omega) (by omega) (fun r S2 hp => ?_)
      obtain ⟨rfl, rfl⟩ := hp
      refine V_aload_n E dX11_number_92 rfl ?_
      refine V_iload_n E dX11_number_93 rfl ?_
      refine V_callV E (cm_say (x_l X) d S hM (i + c) (-1) o (q + 1) (va_up f q (0)) (nI (v)) (by omega)) ml_X11_185 mv_X11_say hM.o dX11_number_94 rfl (by simp [Value.category]) (by omega) (by omega) (by omega) (fun r S2 hp => ?_)
      obtain ⟨rfl, rfl⟩ := hp
      exact V_vret E R dX11_number_97 (Nat.le_refl _) (Nat.le_refl _) ⟨rfl, Or.inl ⟨i + c, q + 2, _, rfl, POk.num hh gn q f⟩⟩
    | succ m ih =>
      intro c v hp hh
      have hb := hT.2 (i + c) (by omega)
      have h4 := hh.1
      refine V_aload_n E dX11_number_4 rfl ?_
      refine V_getI E fl_X11_169 dX11_number_5 rfl hM.o ?_
      refine V_aload_n E dX11_number_8 rfl ?_
      refine V_getI E fl_X11_166 dX11_number_9 rfl hM.o ?_
      refine V_ge_no (a := (i + c)) (b := T.1) (tgt := 87) E dX11_number_12 (by decide) (pst_a S (i + c) (-1) o q f) (pst_n S (i + c) (-1) o q f hX) (by omega) (by omega) ?_
      refine V_aload_n E dX11_number_15 rfl ?_
      refine V_getR E fl_X11_42 dX11_number_16 rfl hM.o (hM.r 16 (by decide)) ?_
      refine V_aload_n E dX11_number_19 rfl ?_
      refine V_getI E fl_X11_169 dX11_number_20 rfl hM.o ?_
      refine V_ia (j := (i + c)) E dX11_number_23 (hM.k 16 21 rfl (by decide)) (pst_a S (i + c) (-1) o q f) (hM.l 16 220 rfl (by decide)) (by omega) (by decide) ?_
      refine V_bipush (v := 48) E dX11_number_24 (by decide) ?_
      refine V_icmp_lt (tgt := 87) E dX11_number_26 (by decide) (fun h26 => ?_) (fun h26 => ?_)
      · rw [(pst_t S (i + c) (-1) o q f hX (i := i + c) (by omega))] at h26
        have g26 := (nI_ltI (a := T.2 (i + c)) (b := 48) (by omega) (by omega)).mp h26
        have gn : ¬ (i + c < T.1 ∧ dg (T.2 (i + c))) := fun z => by have := z.2.1; omega
        refine V_aload_n E dX11_number_87 rfl ?_
        refine V_iconst (v := 0) E dX11_number_88 (by decide) ?_
        refine V_callV E (cm_say (x_l X) d S hM (i + c) (-1) o q f (0) (by omega)) ml_X11_185 mv_X11_say hM.o dX11_number_89 rfl (by simp [Value.category]) (by omega) (by omega) (by omega) (fun r S2 hp => ?_)
        obtain ⟨rfl, rfl⟩ := hp
        refine V_aload_n E dX11_number_92 rfl ?_
        refine V_iload_n E dX11_number_93 rfl ?_
        refine V_callV E (cm_say (x_l X) d S hM (i + c) (-1) o (q + 1) (va_up f q (0)) (nI (v)) (by omega)) ml_X11_185 mv_X11_say hM.o dX11_number_94 rfl (by simp [Value.category]) (by omega) (by omega) (by omega) (fun r S2 hp => ?_)
        obtain ⟨rfl, rfl⟩ := hp
        exact V_vret E R dX11_number_97 (Nat.le_refl _) (Nat.le_refl _) ⟨rfl, Or.inl ⟨i + c, q + 2, _, rfl, POk.num hh gn q f⟩⟩
      · rw [(pst_t S (i + c) (-1) o q f hX (i := i + c) (by omega))] at h26
        have g26 : 48 ≤ T.2 (i + c) := Nat.le_of_not_lt (fun z => h26 ((nI_ltI (a := T.2 (i + c)) (b := 48) (by omega) (by omega)).mpr z))
        refine V_aload_n E dX11_number_29 rfl ?_
        refine V_getR E fl_X11_42 dX11_number_30 rfl hM.o (hM.r 16 (by decide)) ?_
        refine V_aload_n E dX11_number_33 rfl ?_
        refine V_getI E fl_X11_169 dX11_number_34 rfl hM.o ?_
        refine V_ia (j := (i + c)) E dX11_number_37 (hM.k 16 21 rfl (by decide)) (pst_a S (i + c) (-1) o q f) (hM.l 16 220 rfl (by decide)) (by omega) (by decide) ?_
        refine V_bipush (v := 57) E dX11_number_38 (by decide) ?_
        refine V_icmp_gt (tgt := 87) E dX11_number_40 (by decide) (fun h40 => ?_) (fun h40 => ?_)
        · rw [(pst_t S (i + c) (-1) o q f hX (i := i + c) (by omega))] at h40
          have g40 := (nI_ltI (a := 57) (b := T.2 (i + c)) (by omega) (by omega)).mp h40
          have gn : ¬ (i + c < T.1 ∧ dg (T.2 (i + c))) := fun z => by have := z.2.2; omega
          refine V_aload_n E dX11_number_87 rfl ?_
          refine V_iconst (v := 0) E dX11_number_88 (by decide) ?_
          refine V_callV E (cm_say (x_l X) d S hM (i + c) (-1) o q f (0) (by omega)) ml_X11_185 mv_X11_say hM.o dX11_number_89 rfl (by simp [Value.category]) (by omega) (by omega) (by omega) (fun r S2 hp => ?_)
          obtain ⟨rfl, rfl⟩ := hp
          refine V_aload_n E dX11_number_92 rfl ?_
          refine V_iload_n E dX11_number_93 rfl ?_
          refine V_callV E (cm_say (x_l X) d S hM (i + c) (-1) o (q + 1) (va_up f q (0)) (nI (v)) (by omega)) ml_X11_185 mv_X11_say hM.o dX11_number_94 rfl (by simp [Value.category]) (by omega) (by omega) (by omega) (fun r S2 hp => ?_)
          obtain ⟨rfl, rfl⟩ := hp
          exact V_vret E R dX11_number_97 (Nat.le_refl _) (Nat.le_refl _) ⟨rfl, Or.inl ⟨i + c, q + 2, _, rfl, POk.num hh gn q f⟩⟩
        · rw [(pst_t S (i + c) (-1) o q f hX (i := i + c) (by omega))] at h40
          have g40 : T.2 (i + c) ≤ 57 := Nat.le_of_not_lt (fun z => h40 ((nI_ltI (a := 57) (b := T.2 (i + c)) (by omega) (by omega)).mpr z))
          refine V_iload_n E dX11_number_43 rfl ?_
          refine V_iconst (v := 4) E dX11_number_44 (by decide) ?_
          refine V_icmp_ne (tgt := 53) E dX11_number_45 (by decide) (fun h45 => ?_) (fun h45 => ?_)
          · have g45 : c ≠ 4 := fun e => h45 (by rw [e]; rfl)
            refine V_bipush (v := 10) E dX11_number_53 (by decide) ?_
            refine V_iload_n E dX11_number_55 rfl ?_
            refine V_imul E dX11_number_56 ?_
            refine V_aload_n E dX11_number_57 rfl ?_
            refine V_getR E fl_X11_42 dX11_number_58 rfl hM.o (hM.r 16 (by decide)) ?_
            refine V_aload_n E dX11_number_61 rfl ?_
            refine V_getI E fl_X11_169 dX11_number_62 rfl hM.o ?_
            refine V_ia (j := (i + c)) E dX11_number_65 (hM.k 16 21 rfl (by decide)) (pst_a S (i + c) (-1) o q f) (hM.l 16 220 rfl (by decide)) (by omega) (by decide) ?_
            refine V_iadd E dX11_number_66 ?_
            refine V_bipush (v := 48) E dX11_number_67 (by decide) ?_
            refine V_isub E dX11_number_69 ?_
            refine V_cvi (y := nI ((((10 * v) + (T.2 ((i + c)))) - 48))) (ni_sub (a := ((10 * v) + (T.2 ((i + c))))) (b := 48) (ni_add (a := (10 * v)) (b := (T.2 ((i + c)))) (ni_mul (a := 10) (b := v) (rfl : (10 : Int32) = nI 10) (@rfl _ (nI (v)))) (pst_t S (i + c) (-1) o q f hX (i := (i + c)) (by omega))) (rfl : (48 : Int32) = nI 48) (by omega)) ?_
            refine V_istore_n E dX11_number_70 (by decide) rfl ?_
            refine V_iinc (v := nI (c + 1)) E dX11_number_71 rfl (ni_inc (a := c) (z := 1) (@rfl _ (nI (c)))) (by decide) rfl ?_
            refine V_aload_n E dX11_number_74 rfl ?_
            refine V_dup E dX11_number_75 rfl ?_
            refine V_getI E fl_X11_169 dX11_number_76 rfl hM.o ?_
            refine V_iconst (v := 1) E dX11_number_79 (by decide) ?_
            refine V_iadd E dX11_number_80 ?_
            refine V_cvi (y := nI (((i + c) + 1))) (ni_add (a := (i + c)) (b := 1) (pst_a S (i + c) (-1) o q f) (rfl : (1 : Int32) = nI 1)) ?_
            refine V_putI E fl_X11_169 dX11_number_81 rfl hM.o ⟨rfl, rfl⟩ rfl ?_
            refine V_cvS (pst_sa S (i + c) (-1) o q f (((i + c) + 1))) ?_
            refine V_goto (tgt := 4) E dX11_number_84 (by decide) ?_
            exact ih (c + 1) _ (by omega) (hh.next (by omega) ⟨g26, g40⟩ g45)
          · have g45 : c = 4 := (nI_eq (a := c) (b := 4) (by omega) (by omega)).mp h45
            subst g45
            refine V_aload_n E dX11_number_48 rfl ?_
            refine V_callV E (cm_fail (x_l X) d S hM (i + 4) o q f) ml_X11_195 mv_X11_fail hM.o dX11_number_49 rfl (by simp [Value.category]) (by omega) (by omega) (by omega) (fun r S2 hp => ?_)
            obtain ⟨rfl, rfl⟩ := hp
            exact V_vret E R dX11_number_52 (Nat.le_refl _) (Nat.le_refl _) ⟨rfl, Or.inr ⟨i + 4, i + 4, q, f, rfl, hh.fail (by omega) ⟨g26, g40⟩, by omega, by omega, by omega, by omega⟩⟩
  exact loop (T.1 - i) 0 0 (by omega) (Nm.start o hi hd)
