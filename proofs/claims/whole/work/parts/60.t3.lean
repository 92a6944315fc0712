theorem cm_byteOf (l : Launch) (d : Nat) (S : GS) (a b c e g : Int32) (k : Nat) (hk : k < 20) : GC l (d) yX11_byteOf cX11_byteOf 7 (some FieldType.int) [.int a, .int b, .int c, .int e, .int g, .int (nI k)] S (fun r S2 => r = some (.int (nI (fby a b c e g k))) ∧ S2 = S) (0) (0) := by
  refine GC.ofV (by decide) (Nat.le_of_ble_eq_true rfl) (fun X hl E R hnm => ?_)
  subst hl
  have E : En X RX11 cX11_byteOf 7 (d) (0) (0) := E
  have R : Rt X (some FieldType.int) (fun r S2 => r = some (.int (nI (fby a b c e g k))) ∧ S2 = S) := R
  have J45 : V X 45 [some (.int (a)), some (.int (b)), some (.int (c)), some (.int (e)), some (.int (g)), some (.int (nI (k))), none] [(.int ((fsel a b c e g k)))] (S) 0 0 := by
    refine V_istore E dX11_byteOf_45 (by decide) rfl ?_
    refine V_iload E dX11_byteOf_47 rfl ?_
    refine V_bipush (v := 24) E dX11_byteOf_49 (by decide) ?_
    refine V_bipush (v := 8) E dX11_byteOf_51 (by decide) ?_
    refine V_iload E dX11_byteOf_53 rfl ?_
    refine V_iconst (v := 4) E dX11_byteOf_55 (by decide) ?_
    refine V_irem E dX11_byteOf_56 (by decide) ?_
    refine V_cvi (y := nI ((k % 4))) (ii_rem (a := k) (b := 4) (@rfl _ (nI k)) (rfl : (4 : Int32) = nI 4) (by omega) (by omega) (by omega)) ?_
    refine V_imul E dX11_byteOf_57 ?_
    refine V_isub E dX11_byteOf_58 ?_
    refine V_cvi (y := nI ((24 - (8 * (k % 4))))) (ni_sub (a := 24) (b := (8 * (k % 4))) (rfl : (24 : Int32) = nI 24) (ni_mul (a := 8) (b := (k % 4)) (rfl : (8 : Int32) = nI 8) (@rfl _ (nI ((k % 4))))) (by omega)) ?_
    refine V_ishr E dX11_byteOf_59 ?_
    refine V_sipush (v := 255) E dX11_byteOf_60 (by decide) ?_
    refine V_iand E dX11_byteOf_63 ?_
    exact V_iret E R dX11_byteOf_64 rfl (Nat.le_refl _) (Nat.le_refl _) ⟨congrArg (fun z => some (Value.int z)) (byt_s (fsel a b c e g k) (s := 24 - 8 * (k % 4)) (by unfold bsh; omega)), rfl⟩
  refine V_iload E dX11_byteOf_0 rfl ?_
  refine V_iconst (v := 4) E dX11_byteOf_2 (by decide) ?_
  by_cases k4 : k < 4
  · refine V_ge_no (a := k) (b := 4) (tgt := 10) E dX11_byteOf_3 (by decide) (@rfl _ (nI (k))) (rfl : (4 : Int32) = nI 4) (by omega) (by omega) ?_
    refine V_iload_n E dX11_byteOf_6 rfl ?_
    refine V_goto (tgt := 45) E dX11_byteOf_7 (by decide) ?_
    exact V_cvi (y := fsel a b c e g k) (by simp [fsel, *]) J45
  · refine V_ge_yes (a := k) (b := 4) (tgt := 10) E dX11_byteOf_3 (by decide) (@rfl _ (nI (k))) (rfl : (4 : Int32) = nI 4) (by omega) (by omega) ?_
    refine V_iload E dX11_byteOf_10 rfl ?_
    refine V_bipush (v := 8) E dX11_byteOf_12 (by decide) ?_
    by_cases k8 : k < 8
    · refine V_ge_no (a := k) (b := 8) (tgt := 21) E dX11_byteOf_14 (by decide) (@rfl _ (nI (k))) (rfl : (8 : Int32) = nI 8) (by omega) (by omega) ?_
      refine V_iload_n E dX11_byteOf_17 rfl ?_
      refine V_goto (tgt := 45) E dX11_byteOf_18 (by decide) ?_
      exact V_cvi (y := fsel a b c e g k) (by simp [fsel, *]) J45
    · refine V_ge_yes (a := k) (b := 8) (tgt := 21) E dX11_byteOf_14 (by decide) (@rfl _ (nI (k))) (rfl : (8 : Int32) = nI 8) (by omega) (by omega) ?_
      refine V_iload E dX11_byteOf_21 rfl ?_
      refine V_bipush (v := 12) E dX11_byteOf_23 (by decide) ?_
      by_cases k12 : k < 12
      · refine V_ge_no (a := k) (b := 12) (tgt := 32) E dX11_byteOf_25 (by decide) (@rfl _ (nI (k))) (rfl : (12 : Int32) = nI 12) (by omega) (by omega) ?_
        refine V_iload_n E dX11_byteOf_28 rfl ?_
        refine V_goto (tgt := 45) E dX11_byteOf_29 (by decide) ?_
        exact V_cvi (y := fsel a b c e g k) (by simp [fsel, *]) J45
      · refine V_ge_yes (a := k) (b := 12) (tgt := 32) E dX11_byteOf_25 (by decide) (@rfl _ (nI (k))) (rfl : (12 : Int32) = nI 12) (by omega) (by omega) ?_
        refine V_iload E dX11_byteOf_32 rfl ?_
        refine V_bipush (v := 16) E dX11_byteOf_34 (by decide) ?_
        by_cases k16 : k < 16
        · refine V_ge_no (a := k) (b := 16) (tgt := 43) E dX11_byteOf_36 (by decide) (@rfl _ (nI (k))) (rfl : (16 : Int32) = nI 16) (by omega) (by omega) ?_
          refine V_iload_n E dX11_byteOf_39 rfl ?_
          refine V_goto (tgt := 45) E dX11_byteOf_40 (by decide) ?_
          exact V_cvi (y := fsel a b c e g k) (by simp [fsel, *]) J45
        · refine V_ge_yes (a := k) (b := 16) (tgt := 43) E dX11_byteOf_36 (by decide) (@rfl _ (nI (k))) (rfl : (16 : Int32) = nI 16) (by omega) (by omega) ?_
          refine V_iload E dX11_byteOf_43 rfl ?_
          exact V_cvi (y := fsel a b c e g k) (by simp [fsel, *]) J45

theorem cm_feed (l : Launch) (d : Nat) (S : GS) (T : AT) (hT : TOK T) (hM : MOK S) (hX : MTx S T) (a b c e g : Int32) : GC l (d + 1) yX11_feed cX11_feed 9 (some FieldType.int) [.ref 0, .int a, .int b, .int c, .int e, .int g] S (fun r S2 => (T.1 + sumN (fun i => bz ((fby a b c e g) i)) 20 ≤ 200 ∧ r = some (.int (nI (aF T (fby a b c e g) 20).1)) ∧ ∃ f : Nat → Int32, S2 = tsm S (aF T (fby a b c e g) 20).1 f ∧ ∀ i, i < ((aF T (fby a b c e g) 20)).1 → f i = nI (((aF T (fby a b c e g) 20)).2 i)) ∨ (¬ T.1 + sumN (fun i => bz ((fby a b c e g) i)) 20 ≤ 200 ∧ r = some (.int (-1)) ∧ S2 = S)) (0) (0) := by
  refine GC.ofV (by decide) (Nat.le_of_ble_eq_true rfl) (fun X hl E R hnm => ?_)
  subst hl
  have E : En X RX11 cX11_feed 9 (d + 1) (0) (0) := E
  have R : Rt X (some FieldType.int) (fun r S2 => (T.1 + sumN (fun i => bz ((fby a b c e g) i)) 20 ≤ 200 ∧ r = some (.int (nI (aF T (fby a b c e g) 20).1)) ∧ ∃ f : Nat → Int32, S2 = tsm S (aF T (fby a b c e g) 20).1 f ∧ ∀ i, i < ((aF T (fby a b c e g) 20)).1 → f i = nI (((aF T (fby a b c e g) 20)).2 i)) ∨ (¬ T.1 + sumN (fun i => bz ((fby a b c e g) i)) 20 ≤ 200 ∧ r = some (.int (-1)) ∧ S2 = S)) := R
  have hn := hT.1
  have h20 := bsum_b (fby a b c e g) 20
  refine V_iconst (v := 0) E dX11_feed_0 (by decide) ?_
  refine V_istore E dX11_feed_1 (by decide) rfl ?_
  refine V_iconst (v := 0) E dX11_feed_3 (by decide) ?_
  refine V_istore E dX11_feed_4 (by decide) rfl ?_
  have loop1 : ∀ m p, p + m = 20 → V X 6 [some (.ref (0)), some (.int (a)), some (.int (b)), some (.int (c)), some (.int (e)), some (.int (g)), some (.int (nI (sumN (fun i => bz ((fby a b c e g) i)) p))), some (.int (nI (p))), none] [] S 0 0 := by
    intro m
    induction m with
    | zero =>
      intro p  hp
      have e20 : p = 20 := by omega
      have e21 : sumN (fun i => bz ((fby a b c e g) i)) p = sumN (fun i => bz ((fby a b c e g) i)) 20 := by rw [e20]
      refine V_iload E dX11_feed_6 rfl ?_
      refine V_bipush (v := 20) E dX11_feed_8 (by decide) ?_
      refine V_ge_yes (a := p) (b := 20) (tgt := 44) E dX11_feed_10 (by decide) (@rfl _ (nI (p))) (rfl : (20 : Int32) = nI 20) (by omega) (by omega) ?_
      refine V_aload_n E dX11_feed_44 rfl ?_
      refine V_getI E fl_X11_166 dX11_feed_45 rfl hM.o ?_
      refine V_iload E dX11_feed_48 rfl ?_
      refine V_iadd E dX11_feed_50 ?_
      refine V_sipush (v := 200) E dX11_feed_51 (by decide) ?_
      by_cases hP : T.1 + sumN (fun i => bz ((fby a b c e g) i)) 20 ≤ 200
      · refine V_icmp_le (tgt := 59) E dX11_feed_54 (by decide) (fun _ => ?_) (fun q => absurd (by rw [(ni_add (a := T.1) (b := sumN (fun i => bz ((fby a b c e g) i)) p) hX.1 (@rfl _ (nI (sumN (fun i => bz ((fby a b c e g) i)) p))))]; exact nI_le (b := 200) (by omega) (by omega)) q)
        refine V_iconst (v := 0) E dX11_feed_59 (by decide) ?_
        refine V_istore E dX11_feed_60 (by decide) rfl ?_
        refine V_lo (lo' := [some (.ref (0)), some (.int (a)), some (.int (b)), some (.int (c)), some (.int (e)), some (.int (g)), none, some (.int (0)), none]) (And.intro rfl (And.intro rfl (And.intro rfl (And.intro rfl (And.intro rfl (And.intro rfl (And.intro rfl True.intro))))))) ?_
        refine V_cvS (tsm_self hX).symm ?_
        have loop : ∀ m p (f : Nat → Int32), p + m = 20 → (∀ i, i < ((aF T (fby a b c e g) p)).1 → f i = nI (((aF T (fby a b c e g) p)).2 i)) → V X 62 [some (.ref (0)), some (.int (a)), some (.int (b)), some (.int (c)), some (.int (e)), some (.int (g)), none, some (.int (nI (p))), none] [] (tsm S (aF T (fby a b c e g) p).1 f) 0 0 := by
          intro m
          induction m with
          | zero =>
            intro p f hp hh
            refine V_iload E dX11_feed_62 rfl ?_
            refine V_bipush (v := 20) E dX11_feed_64 (by decide) ?_
            refine V_ge_yes (a := p) (b := 20) (tgt := 115) E dX11_feed_66 (by decide) (@rfl _ (nI (p))) (rfl : (20 : Int32) = nI 20) (by omega) (by omega) ?_
            refine V_aload_n E dX11_feed_115 rfl ?_
            refine V_getI E fl_X11_166 dX11_feed_116 rfl hM.o ?_
            exact V_iret E R dX11_feed_119 rfl (Nat.le_refl _) (Nat.le_refl _) (by have e20 : p = 20 := (by omega); subst e20; exact Or.inl ⟨hP, congrArg (fun z => some (Value.int z)) (tsm_n S (aF T (fby a b c e g) 20).1 f), f, rfl, hh⟩)
          | succ m ih =>
            intro p f hp hh
            have hl := aF_n T (fby a b c e g) p
            have hs := bsum_le (fby a b c e g) (k := p + 1) (n := 20) (by omega)
            have hs1 : sumN (fun i => bz ((fby a b c e g) i)) (p + 1) = sumN (fun i => bz ((fby a b c e g) i)) p + bz ((fby a b c e g) p) := rfl
            have hs0 := bsum_le (fby a b c e g) (k := p) (n := 20) (by omega)
            refine V_iload E dX11_feed_62 rfl ?_
            refine V_bipush (v := 20) E dX11_feed_64 (by decide) ?_
            refine V_ge_no (a := p) (b := 20) (tgt := 115) E dX11_feed_66 (by decide) (@rfl _ (nI (p))) (rfl : (20 : Int32) = nI 20) (by omega) (by omega) ?_
            refine V_iload_n E dX11_feed_69 rfl ?_
            refine V_iload_n E dX11_feed_70 rfl ?_
            refine V_iload_n E dX11_feed_71 rfl ?_
            refine V_iload E dX11_feed_72 rfl ?_
            refine V_iload E dX11_feed_74 rfl ?_
            refine V_iload E dX11_feed_76 rfl ?_
            refine V_callS E (cm_byteOf (x_l X) d (tsm S (aF T (fby a b c e g) p).1 f) a b c e g p (by omega)) ml_X11_162 ms_X11_byteOf dX11_feed_78 rfl (by simp [Value.category]) (by omega) (by omega) (by omega) (fun r S2 hp => ?_)
            obtain ⟨rfl, hS2⟩ := hp
            obtain rfl := hS2.symm
            have fp := fby_lt a b c e g p
            refine V_istore E dX11_feed_81 (by decide) rfl ?_
            refine V_iload E dX11_feed_83 rfl ?_
            refine V_if_eq (tgt := 109) E dX11_feed_85 (by decide) (fun hz => ?_) (fun hz => ?_)
            · have gz : (fby a b c e g) p = 0 := (nI_eq (a := (fby a b c e g) p) (b := 0) (by omega) (by omega)).mp hz
              refine V_lo (lo' := [some (.ref (0)), some (.int (a)), some (.int (b)), some (.int (c)), some (.int (e)), some (.int (g)), none, some (.int (nI (p))), none]) (And.intro rfl (And.intro rfl (And.intro rfl (And.intro rfl (And.intro rfl (And.intro rfl (And.intro rfl True.intro))))))) ?_
              refine V_cvS (S' := tsm S (aF T (fby a b c e g) (p + 1)).1 f) (congrArg (fun z => tsm S z f) (by simp only [aF]; rw [aPut_0 gz])) ?_
              refine V_iinc (v := nI (p + 1)) E dX11_feed_109 rfl (ni_inc (a := p) (z := 1) (@rfl _ (nI (p)))) (by decide) rfl ?_
              refine V_goto (tgt := 62) E dX11_feed_112 (by decide) ?_
              exact ih (p + 1) f (by omega) (by simp only [aF]; rw [aPut_0 gz]; exact hh)
            · have gz : ¬ (fby a b c e g) p = 0 := fun q => hz (by rw [q]; rfl)
              refine V_aload_n E dX11_feed_88 rfl ?_
              refine V_getR E fl_X11_42 dX11_feed_89 rfl hM.o (hM.r 16 (by decide)) ?_
              refine V_aload_n E dX11_feed_92 rfl ?_
              refine V_getI E fl_X11_166 dX11_feed_93 rfl hM.o ?_
              refine V_iload E dX11_feed_96 rfl ?_
              refine V_ias (j := (aF T (fby a b c e g) p).1) E dX11_feed_98 (hM.k 16 21 rfl (by decide)) (tsm_n S (aF T (fby a b c e g) p).1 f) (hM.l 16 220 rfl (by decide)) (by omega) (by decide) ?_
              refine V_aload_n E dX11_feed_99 rfl ?_
              refine V_dup E dX11_feed_100 rfl ?_
              refine V_getI E fl_X11_166 dX11_feed_101 rfl hM.o ?_
              refine V_iconst (v := 1) E dX11_feed_104 (by decide) ?_
              refine V_iadd E dX11_feed_105 ?_
              refine V_cvi (y := nI (((aF T (fby a b c e g) p).1 + 1))) (ni_add (a := (aF T (fby a b c e g) p).1) (b := 1) (tsm_n S (aF T (fby a b c e g) p).1 f) (rfl : (1 : Int32) = nI 1)) ?_
              refine V_putI E fl_X11_166 dX11_feed_106 rfl hM.o ⟨rfl, rfl⟩ rfl ?_
              refine V_lo (lo' := [some (.ref (0)), some (.int (a)), some (.int (b)), some (.int (c)), some (.int (e)), some (.int (g)), none, some (.int (nI (p))), none]) (And.intro rfl (And.intro rfl (And.intro rfl (And.intro rfl (And.intro rfl (And.intro rfl (And.intro rfl True.intro))))))) ?_
              refine V_cvS (S' := tsm S (aF T (fby a b c e g) (p + 1)).1 (va_up f (aF T (fby a b c e g) p).1 (nI ((fby a b c e g) p)))) ((tsm_put S _ _ _ _).trans (congrArg (fun z => tsm S z (va_up f (aF T (fby a b c e g) p).1 (nI ((fby a b c e g) p)))) (by simp only [aF]; rw [aPut_1 gz]))) ?_
              refine V_iinc (v := nI (p + 1)) E dX11_feed_109 rfl (ni_inc (a := p) (z := 1) (@rfl _ (nI (p)))) (by decide) rfl ?_
              refine V_goto (tgt := 62) E dX11_feed_112 (by decide) ?_
              exact ih (p + 1) (va_up f (aF T (fby a b c e g) p).1 (nI ((fby a b c e g) p))) (by omega) (by simp only [aF]; rw [aPut_1 gz]; exact ni_put hh)
        exact loop 20 0 (aI S 16) (by omega) hX.2
      · refine V_icmp_le (tgt := 59) E dX11_feed_54 (by decide) (fun q => absurd q (by rw [(ni_add (a := T.1) (b := sumN (fun i => bz ((fby a b c e g) i)) p) hX.1 (@rfl _ (nI (sumN (fun i => bz ((fby a b c e g) i)) p))))]; exact nI_ge (a := 200) (by omega) (by omega))) (fun _ => ?_)
        refine V_iconst (v := -1) E dX11_feed_57 (by decide) ?_
        exact V_iret E R dX11_feed_58 rfl (Nat.le_refl _) (Nat.le_refl _) (Or.inr ⟨hP, rfl, rfl⟩)
    | succ m ih =>
      intro p  hp
      have hs0 := bsum_le (fby a b c e g) (k := p) (n := 20) (by omega)
      refine V_iload E dX11_feed_6 rfl ?_
      refine V_bipush (v := 20) E dX11_feed_8 (by decide) ?_
      refine V_ge_no (a := p) (b := 20) (tgt := 44) E dX11_feed_10 (by decide) (@rfl _ (nI (p))) (rfl : (20 : Int32) = nI 20) (by omega) (by omega) ?_
      refine V_iload E dX11_feed_13 rfl ?_
      refine V_iload_n E dX11_feed_15 rfl ?_
      refine V_iload_n E dX11_feed_16 rfl ?_
      refine V_iload_n E dX11_feed_17 rfl ?_
      refine V_iload E dX11_feed_18 rfl ?_
      refine V_iload E dX11_feed_20 rfl ?_
      refine V_iload E dX11_feed_22 rfl ?_
      refine V_callS E (cm_byteOf (x_l X) d S a b c e g p (by omega)) ml_X11_162 ms_X11_byteOf dX11_feed_24 rfl (by simp [Value.category]) (by omega) (by omega) (by omega) (fun r S2 hp => ?_)
      obtain ⟨rfl, hS2⟩ := hp
      obtain rfl := hS2.symm
      have fp := fby_lt a b c e g p
      refine V_if_eq (tgt := 34) E dX11_feed_27 (by decide) (fun hz => ?_) (fun hz => ?_)
      · have gz : (fby a b c e g) p = 0 := (nI_eq (a := (fby a b c e g) p) (b := 0) (by omega) (by omega)).mp hz
        refine V_iconst (v := 0) E dX11_feed_34 (by decide) ?_
        refine V_iadd E dX11_feed_35 ?_
        refine V_cvi (y := nI (sumN (fun i => bz ((fby a b c e g) i)) (p + 1))) ((ni_add (a := sumN (fun i => bz ((fby a b c e g) i)) p) (b := 0) (@rfl _ (nI (sumN (fun i => bz ((fby a b c e g) i)) p))) (rfl : (0 : Int32) = nI 0)).trans (congrArg nI (by have := bz_0 gz; simp only [sumN]; omega))) ?_
        refine V_istore E dX11_feed_36 (by decide) rfl ?_
        refine V_iinc (v := nI (p + 1)) E dX11_feed_38 rfl (ni_inc (a := p) (z := 1) (@rfl _ (nI (p)))) (by decide) rfl ?_
        refine V_goto (tgt := 6) E dX11_feed_41 (by decide) ?_
        exact ih (p + 1) (by omega)
      · have gz : ¬ (fby a b c e g) p = 0 := fun q => hz (by rw [q]; rfl)
        refine V_iconst (v := 1) E dX11_feed_30 (by decide) ?_
        refine V_goto (tgt := 35) E dX11_feed_31 (by decide) ?_
        refine V_iadd E dX11_feed_35 ?_
        refine V_cvi (y := nI (sumN (fun i => bz ((fby a b c e g) i)) (p + 1))) ((ni_add (a := sumN (fun i => bz ((fby a b c e g) i)) p) (b := 1) (@rfl _ (nI (sumN (fun i => bz ((fby a b c e g) i)) p))) (rfl : (1 : Int32) = nI 1)).trans (congrArg nI (by have := bz_1 gz; simp only [sumN]; omega))) ?_
        refine V_istore E dX11_feed_36 (by decide) rfl ?_
        refine V_iinc (v := nI (p + 1)) E dX11_feed_38 rfl (ni_inc (a := p) (z := 1) (@rfl _ (nI (p)))) (by decide) rfl ?_
        refine V_goto (tgt := 6) E dX11_feed_41 (by decide) ?_
        exact ih (p + 1) (by omega)
  exact loop1 20 0 (by omega)
