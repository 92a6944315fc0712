/-! ===== count, voted ===== -/
def cntN (td : Nat) (A : AV) (B : AB) (Q : AR) (L : AL) (bo : Nat) (J : AP) (T : AT) (pd : Nat) : Nat → Nat
  | 0 => td
  | 1 => vn A
  | 2 => bn B
  | 3 => rn Q
  | 4 => en L
  | 5 => bo
  | 6 => sumN (vdry A) (vn A)
  | 7 => jn J
  | 8 => T.1
  | _ => pd
def cvN (Q : AR) (v n : Nat) : Nat := sumN (fun x => if rV Q x = some v then 1 else 0) n
def vtd (B : AB) (Q : AR) (v : Nat) (z : Int32) : Int32 := if z = 0 then nI (bF B v) else if z = 1 then nI (bG B v) else if z = 2 then nI (cvN Q v (rn Q)) else -1
theorem cv_le (Q : AR) (v n : Nat) : cvN Q v n ≤ n := by
  induction n with
  | zero => exact Nat.le_refl _
  | succ n ih =>
    show cvN Q v n + (if rV Q n = some v then 1 else 0) ≤ n + 1
    split <;> omega
theorem cv_1 {Q : AR} {v n : Nat} (h : rV Q n = some v) : cvN Q v (n + 1) = cvN Q v n + 1 := by
  show cvN Q v n + (if rV Q n = some v then 1 else 0) = _
  rw [if_pos h]
theorem cv_0 {Q : AR} {v n : Nat} (h : ¬ rV Q n = some v) : cvN Q v (n + 1) = cvN Q v n := by
  show cvN Q v n + (if rV Q n = some v then 1 else 0) = _
  rw [if_neg h]
  rfl

theorem cm_count (l : Launch) (d : Nat) (S : GS) (td : Nat) (A : AV) (t : Nat) (hO : VOK A t) (B : AB) (hB : BOK B) (Q : AR) (hQn : rn Q ≤ 100) (L : AL) (hLn : en L ≤ 102400) (bo : Nat) (J : AP) (hJn : jn J ≤ 60) (T : AT) (hTn : T.1 ≤ 200) (pd : Nat) (htd : td ≤ 600) (hM : MOK S) (hA : MVes S A) (hV : MVo S B) (hR : MPr S A Q) (hL : MLd S L) (hJ : MPl S J) (hX : MTx S T) (ht : fI S 0 0 = nI td) (hbo : fJ S 0 4 = lN bo) (hpd : fJ S 0 5 = lN pd) (z : Int32) : GC l (d + 1) yX11_count cX11_count 5 (some FieldType.long) [.ref 0, .int z] S (fun r S2 => (wi_ z 0 9 ∧ r = some (.long (lN ((cntN td A B Q L bo J T pd) (tn z)))) ∧ S2 = S) ∨ (¬ wi_ z 0 9 ∧ r = some (.long (-1)) ∧ S2 = S)) (0) (0) := by
  refine GC.ofV (by decide) (Nat.le_of_ble_eq_true rfl) (fun X hl E R hnm => ?_)
  subst hl
  have E : En X RX11 cX11_count 5 (d + 1) (0) (0) := E
  have R : Rt X (some FieldType.long) (fun r S2 => (wi_ z 0 9 ∧ r = some (.long (lN ((cntN td A B Q L bo J T pd) (tn z)))) ∧ S2 = S) ∨ (¬ wi_ z 0 9 ∧ r = some (.long (-1)) ∧ S2 = S)) := R
  have hvn := hO.1
  have hbn := hB.1
  refine V_lconst (v := 0) E dX11_count_0 (by decide) ?_
  refine V_lstore_n E dX11_count_1 (by decide) rfl ?_
  refine V_iconst (v := 0) E dX11_count_2 (by decide) ?_
  refine V_istore E dX11_count_3 (by decide) rfl ?_
  have loop : ∀ m p, p + m = vn A → V X 5 [some (.ref (0)), some (.int (z)), some (.long (lN (sumN (vdry A) p))), none, some (.int (nI (p)))] [] S 0 0 := by
    intro m
    induction m with
    | zero =>
      intro p  hp
      refine V_iload E dX11_count_5 rfl ?_
      refine V_aload_n E dX11_count_7 rfl ?_
      refine V_getI E fl_X11_111 dX11_count_8 rfl hM.o ?_
      refine V_ge_yes (a := p) (b := (vn A)) (tgt := 30) E dX11_count_11 (by decide) (@rfl _ (nI (p))) hA.n (by omega) (by omega) ?_
      refine V_iload_n E dX11_count_30 rfl ?_
      by_cases hz : wi_ z 0 9
      · obtain ⟨j, rfl, tj, lj, uj, -⟩ := wi_nat hz (by omega)
        rcases (show j = 0 ∨ j = 1 ∨ j = 2 ∨ j = 3 ∨ j = 4 ∨ j = 5 ∨ j = 6 ∨ j = 7 ∨ j = 8 ∨ j = 9 by omega) with rfl | rfl | rfl | rfl | rfl | rfl | rfl | rfl | rfl | rfl
        · refine V_tableIn (off := 53) (tgt := 84) E dX11_count_31 (by decide) (by decide) (by decide) (by decide) ?_
          refine V_aload_n E dX11_count_84 rfl ?_
          refine V_getI E fl_X11_159 dX11_count_85 rfl hM.o ?_
          refine V_i2l E dX11_count_88 rfl ?_
          exact V_lret E R dX11_count_89 (Nat.le_refl _) (Nat.le_refl _) (Or.inl ⟨hz, congrArg (fun q => some (Value.long q)) (by rw [tj]; exact (show _ = lN (td) from (li_of ht (by omega)))), rfl⟩)
        · refine V_tableIn (off := 59) (tgt := 90) E dX11_count_31 (by decide) (by decide) (by decide) (by decide) ?_
          refine V_aload_n E dX11_count_90 rfl ?_
          refine V_getI E fl_X11_111 dX11_count_91 rfl hM.o ?_
          refine V_i2l E dX11_count_94 rfl ?_
          exact V_lret E R dX11_count_95 (Nat.le_refl _) (Nat.le_refl _) (Or.inl ⟨hz, congrArg (fun q => some (Value.long q)) (by rw [tj]; exact (show _ = lN ((vn A)) from (li_of hA.n (by omega)))), rfl⟩)
        · refine V_tableIn (off := 65) (tgt := 96) E dX11_count_31 (by decide) (by decide) (by decide) (by decide) ?_
          refine V_aload_n E dX11_count_96 rfl ?_
          refine V_getI E fl_X11_204 dX11_count_97 rfl hM.o ?_
          refine V_i2l E dX11_count_100 rfl ?_
          exact V_lret E R dX11_count_101 (Nat.le_refl _) (Nat.le_refl _) (Or.inl ⟨hz, congrArg (fun q => some (Value.long q)) (by rw [tj]; exact (show _ = lN ((bn B)) from (li_of hV.n (by omega)))), rfl⟩)
        · refine V_tableIn (off := 71) (tgt := 102) E dX11_count_31 (by decide) (by decide) (by decide) (by decide) ?_
          refine V_aload_n E dX11_count_102 rfl ?_
          refine V_getI E fl_X11_223 dX11_count_103 rfl hM.o ?_
          refine V_i2l E dX11_count_106 rfl ?_
          exact V_lret E R dX11_count_107 (Nat.le_refl _) (Nat.le_refl _) (Or.inl ⟨hz, congrArg (fun q => some (Value.long q)) (by rw [tj]; exact (show _ = lN ((rn Q)) from (li_of hR.1 (by omega)))), rfl⟩)
        · refine V_tableIn (off := 77) (tgt := 108) E dX11_count_31 (by decide) (by decide) (by decide) (by decide) ?_
          refine V_aload_n E dX11_count_108 rfl ?_
          refine V_getI E fl_X11_212 dX11_count_109 rfl hM.o ?_
          refine V_i2l E dX11_count_112 rfl ?_
          exact V_lret E R dX11_count_113 (Nat.le_refl _) (Nat.le_refl _) (Or.inl ⟨hz, congrArg (fun q => some (Value.long q)) (by rw [tj]; exact (show _ = lN ((en L)) from (li_of hL.1 (by omega)))), rfl⟩)
        · refine V_tableIn (off := 83) (tgt := 114) E dX11_count_31 (by decide) (by decide) (by decide) (by decide) ?_
          refine V_aload_n E dX11_count_114 rfl ?_
          refine V_getJ E fl_X11_134 dX11_count_115 rfl hM.o ?_
          exact V_lret E R dX11_count_118 (Nat.le_refl _) (Nat.le_refl _) (Or.inl ⟨hz, congrArg (fun q => some (Value.long q)) (by rw [tj]; exact (show _ = lN (bo) from hbo)), rfl⟩)
        · refine V_tableIn (off := 88) (tgt := 119) E dX11_count_31 (by decide) (by decide) (by decide) (by decide) ?_
          refine V_lload_n E dX11_count_119 rfl ?_
          exact V_lret E R dX11_count_120 (Nat.le_refl _) (Nat.le_refl _) (Or.inl ⟨hz, congrArg (fun q => some (Value.long q)) (by rw [tj, show p = vn A by omega]; rfl), rfl⟩)
        · refine V_tableIn (off := 90) (tgt := 121) E dX11_count_31 (by decide) (by decide) (by decide) (by decide) ?_
          refine V_aload_n E dX11_count_121 rfl ?_
          refine V_getI E fl_X11_245 dX11_count_122 rfl hM.o ?_
          refine V_i2l E dX11_count_125 rfl ?_
          exact V_lret E R dX11_count_126 (Nat.le_refl _) (Nat.le_refl _) (Or.inl ⟨hz, congrArg (fun q => some (Value.long q)) (by rw [tj]; exact (show _ = lN ((jn J)) from (li_of hJ.1 (by omega)))), rfl⟩)
        · refine V_tableIn (off := 96) (tgt := 127) E dX11_count_31 (by decide) (by decide) (by decide) (by decide) ?_
          refine V_aload_n E dX11_count_127 rfl ?_
          refine V_getI E fl_X11_166 dX11_count_128 rfl hM.o ?_
          refine V_i2l E dX11_count_131 rfl ?_
          exact V_lret E R dX11_count_132 (Nat.le_refl _) (Nat.le_refl _) (Or.inl ⟨hz, congrArg (fun q => some (Value.long q)) (by rw [tj]; exact (show _ = lN (T.1) from (li_of hX.1 (by omega)))), rfl⟩)
        · refine V_tableIn (off := 102) (tgt := 133) E dX11_count_31 (by decide) (by decide) (by decide) (by decide) ?_
          refine V_aload_n E dX11_count_133 rfl ?_
          refine V_getJ E fl_X11_226 dX11_count_134 rfl hM.o ?_
          exact V_lret E R dX11_count_137 (Nat.le_refl _) (Nat.le_refl _) (Or.inl ⟨hz, congrArg (fun q => some (Value.long q)) (by rw [tj]; exact (show _ = lN (pd) from hpd)), rfl⟩)
      · refine V_tableOut (tgt := 138) E dX11_count_31 (by rcases Int.lt_or_le z.toInt 0 with q | q; exact Or.inl q; rcases Int.lt_or_le 9 z.toInt with q2 | q2; exact Or.inr q2; exact absurd ⟨q, q2⟩ hz) (by decide) ?_
        refine V_ldc2 E dX11_count_138 kl_X11_255 ?_
        exact V_lret E R dX11_count_141 (Nat.le_refl _) (Nat.le_refl _) (Or.inr ⟨hz, rfl, rfl⟩)
    | succ m ih =>
      intro p  hp
      refine V_iload E dX11_count_5 rfl ?_
      refine V_aload_n E dX11_count_7 rfl ?_
      refine V_getI E fl_X11_111 dX11_count_8 rfl hM.o ?_
      refine V_ge_no (a := p) (b := (vn A)) (tgt := 30) E dX11_count_11 (by decide) (@rfl _ (nI (p))) hA.n (by omega) (by omega) ?_
      refine V_lload_n E dX11_count_14 rfl ?_
      refine V_aload_n E dX11_count_15 rfl ?_
      refine V_iload E dX11_count_16 rfl ?_
      refine V_callV E (cm_dryOf (x_l X) d S hM p (by omega)) ml_X11_119 mv_X11_dryOf hM.o dX11_count_18 rfl (by simp [Value.category]) (by omega) (by omega) (by omega) (fun r S2 hp => ?_)
      obtain ⟨rfl, hS2⟩ := hp
      obtain rfl := hS2.symm
      have h3 := hO.2.2.1 p (by omega)
      refine V_i2l E dX11_count_21 rfl ?_
      refine V_ladd E dX11_count_22 ?_
      refine V_cvl (y := lN (sumN (vdry A) (p + 1))) (ll_add (a := sumN (vdry A) p) (b := (vdry A p)) (@rfl _ (lN (sumN (vdry A) p))) (li_of (hA.sum p (by omega)) (by omega))) ?_
      refine V_lstore_n E dX11_count_23 (by decide) rfl ?_
      refine V_iinc (v := nI (p + 1)) E dX11_count_24 rfl (ni_inc (a := p) (z := 1) (@rfl _ (nI (p)))) (by decide) rfl ?_
      refine V_goto (tgt := 5) E dX11_count_27 (by decide) ?_
      exact ih (p + 1) (by omega)
  exact loop (vn A) 0 (by omega)

theorem cy_dryInAll (l : Launch) (d : Nat) (S : GS) (A : AV) (t : Nat) (hO : VOK A t) (hQ : YOK S) (hY : YVes S A) : GC l (d) yX10_dryInAll cX10_dryInAll 4 (some FieldType.long) [.ref 200] S (fun r S2 => r = some (.long (lN (sumN (vdry A) (vn A)))) ∧ S2 = S) (0) (0) := by
  refine GC.ofV (by decide) (Nat.le_of_ble_eq_true rfl) (fun X hl E R hnm => ?_)
  subst hl
  have E : En X RX10 cX10_dryInAll 4 (d) (0) (0) := E
  have R : Rt X (some FieldType.long) (fun r S2 => r = some (.long (lN (sumN (vdry A) (vn A)))) ∧ S2 = S) := R
  have hvn := hO.1
  refine V_lconst (v := 0) E dX10_dryInAll_0 (by decide) ?_
  refine V_lstore_n E dX10_dryInAll_1 (by decide) rfl ?_
  refine V_iconst (v := 0) E dX10_dryInAll_2 (by decide) ?_
  refine V_istore_n E dX10_dryInAll_3 (by decide) rfl ?_
  have loop : ∀ m p, p + m = vn A → V X 4 [some (.ref (200)), some (.long (lN (sumN (vdry A) p))), none, some (.int (nI (p)))] [] S 0 0 := by
    intro m
    induction m with
    | zero =>
      intro p  hp
      refine V_iload_n E dX10_dryInAll_4 rfl ?_
      refine V_aload_n E dX10_dryInAll_5 rfl ?_
      refine V_getI E fl_X10_52 dX10_dryInAll_6 rfl (hQ.k 200 11 rfl (by decide)) ?_
      refine V_ge_yes (a := p) (b := (vn A)) (tgt := 31) E dX10_dryInAll_9 (by decide) (@rfl _ (nI (p))) hY.n (by omega) (by omega) ?_
      refine V_lload_n E dX10_dryInAll_31 rfl ?_
      exact V_lret E R dX10_dryInAll_32 (Nat.le_refl _) (Nat.le_refl _) ⟨by rw [show p = vn A by omega], rfl⟩
    | succ m ih =>
      intro p  hp
      have h3 := hO.2.2.1 p (by omega)
      refine V_iload_n E dX10_dryInAll_4 rfl ?_
      refine V_aload_n E dX10_dryInAll_5 rfl ?_
      refine V_getI E fl_X10_52 dX10_dryInAll_6 rfl (hQ.k 200 11 rfl (by decide)) ?_
      refine V_ge_no (a := p) (b := (vn A)) (tgt := 31) E dX10_dryInAll_9 (by decide) (@rfl _ (nI (p))) hY.n (by omega) (by omega) ?_
      refine V_lload_n E dX10_dryInAll_12 rfl ?_
      refine V_aload_n E dX10_dryInAll_13 rfl ?_
      refine V_getR E fl_X10_11 dX10_dryInAll_14 rfl (hQ.k 200 11 rfl (by decide)) (hQ.r 200 0 201 rfl) ?_
      refine V_iload_n E dX10_dryInAll_17 rfl ?_
      refine V_aa (j := p) E dX10_dryInAll_18 (hQ.k 201 25 rfl (by decide)) (by decide) (@rfl _ (nI (p))) (hQ.l 201 100 rfl (by decide)) (by omega) (by decide) (hY.el p (by omega)) ?_
      refine V_getIN E fn_X10_220 dX10_dryInAll_19 rfl (hY.ok p (by omega)) ?_
      refine V_i2l E dX10_dryInAll_22 rfl ?_
      refine V_ladd E dX10_dryInAll_23 ?_
      refine V_cvl (y := lN (sumN (vdry A) (p + 1))) (ll_add (a := sumN (vdry A) p) (b := (vdry A p)) (@rfl _ (lN (sumN (vdry A) p))) (li_of (hY.Y p (by omega)) (by omega))) ?_
      refine V_lstore_n E dX10_dryInAll_24 (by decide) rfl ?_
      refine V_iinc (v := nI (p + 1)) E dX10_dryInAll_25 rfl (ni_inc (a := p) (z := 1) (@rfl _ (nI (p)))) (by decide) rfl ?_
      refine V_goto (tgt := 4) E dX10_dryInAll_28 (by decide) ?_
      exact ih (p + 1) (by omega)
  exact loop (vn A) 0 (by omega)

theorem cy_count (l : Launch) (d : Nat) (S : GS) (td : Nat) (A : AV) (t : Nat) (hO : VOK A t) (B : AB) (hB : BOK B) (Q : AR) (hQn : rn Q ≤ 100) (L : AL) (hLn : en L ≤ 102400) (bo : Nat) (J : AP) (hJn : jn J ≤ 60) (T : AT) (hTn : T.1 ≤ 200) (pd : Nat) (htd : td ≤ 600) (hQ : YOK S) (hY : YVes S A) (hV : YVo S B) (hR : YPr S Q) (hL : YLd S L) (hJ : YPl S J) (hX : YTx S T) (ht : fI S 200 2 = nI td) (hbo : fJ S 200 3 = lN bo) (hpd : fJ S 212 5 = lN pd) (z : Int32) : GC l (d + 1) yX10_count cX10_count 2 (some FieldType.long) [.ref 200, .int z] S (fun r S2 => (wi_ z 0 9 ∧ r = some (.long (lN ((cntN td A B Q L bo J T pd) (tn z)))) ∧ S2 = S) ∨ (¬ wi_ z 0 9 ∧ r = some (.long (-1)) ∧ S2 = S)) (0) (0) := by
  refine GC.ofV (by decide) (Nat.le_of_ble_eq_true rfl) (fun X hl E R hnm => ?_)
  subst hl
  have E : En X RX10 cX10_count 2 (d + 1) (0) (0) := E
  have R : Rt X (some FieldType.long) (fun r S2 => (wi_ z 0 9 ∧ r = some (.long (lN ((cntN td A B Q L bo J T pd) (tn z)))) ∧ S2 = S) ∨ (¬ wi_ z 0 9 ∧ r = some (.long (-1)) ∧ S2 = S)) := R
  have hvn := hO.1
  have hbn := hB.1
  refine V_iload_n E dX10_count_0 rfl ?_
  by_cases hz : wi_ z 0 9
  · obtain ⟨j, rfl, tj, lj, uj, -⟩ := wi_nat hz (by omega)
    rcases (show j = 0 ∨ j = 1 ∨ j = 2 ∨ j = 3 ∨ j = 4 ∨ j = 5 ∨ j = 6 ∨ j = 7 ∨ j = 8 ∨ j = 9 by omega) with rfl | rfl | rfl | rfl | rfl | rfl | rfl | rfl | rfl | rfl
    · refine V_tableIn (off := 55) (tgt := 56) E dX10_count_1 (by decide) (by decide) (by decide) (by decide) ?_
      refine V_aload_n E dX10_count_56 rfl ?_
      refine V_getI E fl_X10_99 dX10_count_57 rfl (hQ.k 200 11 rfl (by decide)) ?_
      refine V_i2l E dX10_count_60 rfl ?_
      exact V_lret E R dX10_count_61 (Nat.le_refl _) (Nat.le_refl _) (Or.inl ⟨hz, congrArg (fun q => some (Value.long q)) (by rw [tj]; exact (show _ = lN (td) from (li_of ht (by omega)))), rfl⟩)
    · refine V_tableIn (off := 61) (tgt := 62) E dX10_count_1 (by decide) (by decide) (by decide) (by decide) ?_
      refine V_aload_n E dX10_count_62 rfl ?_
      refine V_getI E fl_X10_52 dX10_count_63 rfl (hQ.k 200 11 rfl (by decide)) ?_
      refine V_i2l E dX10_count_66 rfl ?_
      exact V_lret E R dX10_count_67 (Nat.le_refl _) (Nat.le_refl _) (Or.inl ⟨hz, congrArg (fun q => some (Value.long q)) (by rw [tj]; exact (show _ = lN ((vn A)) from (li_of hY.n (by omega)))), rfl⟩)
    · refine V_tableIn (off := 67) (tgt := 68) E dX10_count_1 (by decide) (by decide) (by decide) (by decide) ?_
      refine V_aload_n E dX10_count_68 rfl ?_
      refine V_getR E fl_X10_34 dX10_count_69 rfl (hQ.k 200 11 rfl (by decide)) (hQ.r 200 6 207 rfl) ?_
      refine V_getIN E fn_X10_205 dX10_count_72 rfl (hQ.k 207 10 rfl (by decide)) ?_
      refine V_i2l E dX10_count_75 rfl ?_
      exact V_lret E R dX10_count_76 (Nat.le_refl _) (Nat.le_refl _) (Or.inl ⟨hz, congrArg (fun q => some (Value.long q)) (by rw [tj]; exact (show _ = lN ((bn B)) from (li_of hV.n (by omega)))), rfl⟩)
    · refine V_tableIn (off := 76) (tgt := 77) E dX10_count_1 (by decide) (by decide) (by decide) (by decide) ?_
      refine V_aload_n E dX10_count_77 rfl ?_
      refine V_getR E fl_X10_41 dX10_count_78 rfl (hQ.k 200 11 rfl (by decide)) (hQ.r 200 7 212 rfl) ?_
      refine V_getIN E fn_X10_208 dX10_count_81 rfl (hQ.k 212 5 rfl (by decide)) ?_
      refine V_i2l E dX10_count_84 rfl ?_
      exact V_lret E R dX10_count_85 (Nat.le_refl _) (Nat.le_refl _) (Or.inl ⟨hz, congrArg (fun q => some (Value.long q)) (by rw [tj]; exact (show _ = lN ((rn Q)) from (li_of hR.1 (by omega)))), rfl⟩)
    · refine V_tableIn (off := 85) (tgt := 86) E dX10_count_1 (by decide) (by decide) (by decide) (by decide) ?_
      refine V_aload_n E dX10_count_86 rfl ?_
      refine V_getR E fl_X10_41 dX10_count_87 rfl (hQ.k 200 11 rfl (by decide)) (hQ.r 200 7 212 rfl) ?_
      refine V_getRN E fn_X10_159 dX10_count_90 rfl (hQ.k 212 5 rfl (by decide)) (hQ.r 212 3 218 rfl) ?_
      refine V_getIN E fn_X10_209 dX10_count_93 rfl (hQ.k 218 1 rfl (by decide)) ?_
      refine V_i2l E dX10_count_96 rfl ?_
      exact V_lret E R dX10_count_97 (Nat.le_refl _) (Nat.le_refl _) (Or.inl ⟨hz, congrArg (fun q => some (Value.long q)) (by rw [tj]; exact (show _ = lN ((en L)) from (li_of hL.1 (by omega)))), rfl⟩)
    · refine V_tableIn (off := 97) (tgt := 98) E dX10_count_1 (by decide) (by decide) (by decide) (by decide) ?_
      refine V_aload_n E dX10_count_98 rfl ?_
      refine V_getJ E fl_X10_75 dX10_count_99 rfl (hQ.k 200 11 rfl (by decide)) ?_
      exact V_lret E R dX10_count_102 (Nat.le_refl _) (Nat.le_refl _) (Or.inl ⟨hz, congrArg (fun q => some (Value.long q)) (by rw [tj]; exact (show _ = lN (bo) from hbo)), rfl⟩)
    · refine V_tableIn (off := 102) (tgt := 103) E dX10_count_1 (by decide) (by decide) (by decide) (by decide) ?_
      refine V_aload_n E dX10_count_103 rfl ?_
      refine V_callV E (cy_dryInAll (x_l X) d S A t hO hQ hY) ml_X10_210 mv_X10_dryInAll (hQ.k 200 11 rfl (by decide)) dX10_count_104 rfl (by simp [Value.category]) (by omega) (by omega) (by omega) (fun r S2 hp => ?_)
      obtain ⟨rfl, hS2⟩ := hp
      obtain rfl := hS2.symm
      exact V_lret E R dX10_count_107 (Nat.le_refl _) (Nat.le_refl _) (Or.inl ⟨hz, congrArg (fun q => some (Value.long q)) (by rw [tj]; exact (show _ = lN (sumN (vdry A) (vn A)) from (@rfl _ (lN (sumN (vdry A) (vn A)))))), rfl⟩)
    · refine V_tableIn (off := 107) (tgt := 108) E dX10_count_1 (by decide) (by decide) (by decide) (by decide) ?_
      refine V_aload_n E dX10_count_108 rfl ?_
      refine V_getR E fl_X10_48 dX10_count_109 rfl (hQ.k 200 11 rfl (by decide)) (hQ.r 200 8 221 rfl) ?_
      refine V_getIN E fn_X10_192 dX10_count_112 rfl (hQ.k 221 3 rfl (by decide)) ?_
      refine V_i2l E dX10_count_115 rfl ?_
      exact V_lret E R dX10_count_116 (Nat.le_refl _) (Nat.le_refl _) (Or.inl ⟨hz, congrArg (fun q => some (Value.long q)) (by rw [tj]; exact (show _ = lN ((jn J)) from (li_of hJ.1 (by omega)))), rfl⟩)
    · refine V_tableIn (off := 116) (tgt := 117) E dX10_count_1 (by decide) (by decide) (by decide) (by decide) ?_
      refine V_aload_n E dX10_count_117 rfl ?_
      refine V_getR E fl_X10_27 dX10_count_118 rfl (hQ.k 200 11 rfl (by decide)) (hQ.r 200 5 205 rfl) ?_
      refine V_getIN E fn_X10_119 dX10_count_121 rfl (hQ.k 205 7 rfl (by decide)) ?_
      refine V_i2l E dX10_count_124 rfl ?_
      exact V_lret E R dX10_count_125 (Nat.le_refl _) (Nat.le_refl _) (Or.inl ⟨hz, congrArg (fun q => some (Value.long q)) (by rw [tj]; exact (show _ = lN (T.1) from (li_of hX.1 (by omega)))), rfl⟩)
    · refine V_tableIn (off := 125) (tgt := 126) E dX10_count_1 (by decide) (by decide) (by decide) (by decide) ?_
      refine V_aload_n E dX10_count_126 rfl ?_
      refine V_getR E fl_X10_41 dX10_count_127 rfl (hQ.k 200 11 rfl (by decide)) (hQ.r 200 7 212 rfl) ?_
      refine V_getJN E fn_X10_214 dX10_count_130 rfl (hQ.k 212 5 rfl (by decide)) ?_
      exact V_lret E R dX10_count_133 (Nat.le_refl _) (Nat.le_refl _) (Or.inl ⟨hz, congrArg (fun q => some (Value.long q)) (by rw [tj]; exact (show _ = lN (pd) from hpd)), rfl⟩)
  · refine V_tableOut (tgt := 134) E dX10_count_1 (by rcases Int.lt_or_le z.toInt 0 with q | q; exact Or.inl q; rcases Int.lt_or_le 9 z.toInt with q2 | q2; exact Or.inr q2; exact absurd ⟨q, q2⟩ hz) (by decide) ?_
    refine V_ldc2 E dX10_count_134 kl_X10_172 ?_
    exact V_lret E R dX10_count_137 (Nat.le_refl _) (Nat.le_refl _) (Or.inr ⟨hz, rfl, rfl⟩)

theorem cm_voted (l : Launch) (d : Nat) (S : GS) (A : AV) (t : Nat) (B : AB) (hB : BOK B) (Q : AR) (hRO : ROK Q A B t) (hM : MOK S) (hV : MVo S B) (hR : MPr S A Q) (x z : Int32) : GC l (d + 1) yX11_voted cX11_voted 5 (some FieldType.int) [.ref 0, .int x, .int z] S (fun r S2 => (wi_ x 0 ((bn B : Int) - 1) ∧ r = some (.int (vtd B Q (tn x) z)) ∧ S2 = S) ∨ (¬ wi_ x 0 ((bn B : Int) - 1) ∧ r = some (.int (-1)) ∧ S2 = S)) (0) (0) := by
  refine GC.ofV (by decide) (Nat.le_of_ble_eq_true rfl) (fun X hl E R hnm => ?_)
  subst hl
  have E : En X RX11 cX11_voted 5 (d + 1) (0) (0) := E
  have R : Rt X (some FieldType.int) (fun r S2 => (wi_ x 0 ((bn B : Int) - 1) ∧ r = some (.int (vtd B Q (tn x) z)) ∧ S2 = S) ∨ (¬ wi_ x 0 ((bn B : Int) - 1) ∧ r = some (.int (-1)) ∧ S2 = S)) := R
  have hbn := hB.1
  have hqn := hRO.1
  have z0 : ((0 : Int32)).toInt = 0 := rfl
  have z1 : ((1 : Int32)).toInt = 1 := rfl
  have z2 : ((2 : Int32)).toInt = 2 := rfl
  refine V_iload_n E dX11_voted_0 rfl ?_
  refine V_iconst (v := 0) E dX11_voted_1 (by decide) ?_
  refine V_aload_n E dX11_voted_2 rfl ?_
  refine V_getI E fl_X11_204 dX11_voted_3 rfl hM.o ?_
  refine V_iconst (v := 1) E dX11_voted_6 (by decide) ?_
  refine V_isub E dX11_voted_7 ?_
  refine V_callS E (cm_in (x_l X) d S _ _ _) ml_X11_115 ms_X11_in dX11_voted_8 rfl (by simp [Value.category]) (by omega) (by omega) (by omega) (fun r S2 hp => ?_)
  obtain ⟨rfl, hS2⟩ := hp
  obtain rfl := hS2.symm
  refine V_ifne_b (tgt := 16) E dX11_voted_11 (by decide) (fun hc11 => ?_) (fun hc11 => ?_)
  · have hx : wi_ x 0 ((bn B : Int) - 1) := (wi_iff rfl (by rw [hV.n]; exact nI_m1 (by omega))).mp hc11
    obtain ⟨v, rfl, tv, lv, uv, -⟩ := wi_nat hx (by omega)
    have hv : v < bn B := by omega
    have hb := hB.2 v hv
    refine V_iconst (v := 0) E dX11_voted_16 (by decide) ?_
    refine V_istore_n E dX11_voted_17 (by decide) rfl ?_
    refine V_iconst (v := 0) E dX11_voted_18 (by decide) ?_
    refine V_istore E dX11_voted_19 (by decide) rfl ?_
    have loop : ∀ m p, p + m = rn Q → V X 21 [some (.ref (0)), some (.int (nI (v))), some (.int (z)), some (.int (nI (cvN Q v p))), some (.int (nI (p)))] [] S 0 0 := by
      intro m
      induction m with
      | zero =>
        intro p  hp
        refine V_iload E dX11_voted_21 rfl ?_
        refine V_aload_n E dX11_voted_23 rfl ?_
        refine V_getI E fl_X11_223 dX11_voted_24 rfl hM.o ?_
        refine V_ge_yes (a := p) (b := (rn Q)) (tgt := 55) E dX11_voted_27 (by decide) (@rfl _ (nI (p))) hR.1 (by omega) (by omega) ?_
        refine V_iload_n E dX11_voted_55 rfl ?_
        refine V_if_ne (tgt := 68) E dX11_voted_56 (by decide) (fun h56 => ?_) (fun h56 => ?_)
        · refine V_iload_n E dX11_voted_68 rfl ?_
          refine V_iconst (v := 1) E dX11_voted_69 (by decide) ?_
          refine V_icmp_ne (tgt := 90) E dX11_voted_70 (by decide) (fun h70 => ?_) (fun h70 => ?_)
          · refine V_iload_n E dX11_voted_90 rfl ?_
            refine V_iconst (v := 2) E dX11_voted_91 (by decide) ?_
            refine V_icmp_ne (tgt := 99) E dX11_voted_92 (by decide) (fun h92 => ?_) (fun h92 => ?_)
            · refine V_iconst (v := -1) E dX11_voted_99 (by decide) ?_
              exact V_iret E R dX11_voted_100 rfl (Nat.le_refl _) (Nat.le_refl _) (Or.inl ⟨hx, congrArg (fun q => some (Value.int q)) (by rw [tv]; exact ((if_neg h56).trans ((if_neg h70).trans (if_neg h92))).symm), rfl⟩)
            · refine V_iload_n E dX11_voted_95 rfl ?_
              refine V_goto (tgt := 100) E dX11_voted_96 (by decide) ?_
              exact V_iret E R dX11_voted_100 rfl (Nat.le_refl _) (Nat.le_refl _) (Or.inl ⟨hx, congrArg (fun q => some (Value.int q)) (by rw [tv]; exact (show _ = nI (cvN Q v (rn Q)) by rw [show p = rn Q by omega]).trans ((if_neg h56).trans ((if_neg h70).trans (if_pos h92))).symm), rfl⟩)
          · refine V_aload_n E dX11_voted_73 rfl ?_
            refine V_getR E fl_X11_51 dX11_voted_74 rfl hM.o (hM.r 23 (by decide)) ?_
            refine V_iload_n E dX11_voted_77 rfl ?_
            refine V_za (j := v) E dX11_voted_78 (hM.k 23 24 rfl (by decide)) (@rfl _ (nI (v))) (hM.l 23 50 rfl (by decide)) (by omega) (by decide) ?_
            refine V_if_eq (tgt := 86) E dX11_voted_79 (by decide) (fun h79 => ?_) (fun h79 => ?_)
            · have g79 : bG B v = 0 := (nI_eq (a := bG B v) (b := 0) (by omega) (by omega)).mp ((hV.G v hv).symm.trans h79)
              refine V_iconst (v := 0) E dX11_voted_86 (by decide) ?_
              refine V_goto (tgt := 100) E dX11_voted_87 (by decide) ?_
              exact V_iret E R dX11_voted_100 rfl (Nat.le_refl _) (Nat.le_refl _) (Or.inl ⟨hx, congrArg (fun q => some (Value.int q)) (by rw [tv]; exact (show _ = nI (bG B v) by rw [g79]; rfl).trans ((if_neg h56).trans (if_pos h70)).symm), rfl⟩)
            · have g79 : bG B v = 1 := by rcases Nat.eq_zero_or_pos (bG B v) with q | q; exact absurd ((hV.G v hv).trans (by rw [q]; rfl)) h79; omega
              refine V_iconst (v := 1) E dX11_voted_82 (by decide) ?_
              refine V_goto (tgt := 100) E dX11_voted_83 (by decide) ?_
              exact V_iret E R dX11_voted_100 rfl (Nat.le_refl _) (Nat.le_refl _) (Or.inl ⟨hx, congrArg (fun q => some (Value.int q)) (by rw [tv]; exact (show _ = nI (bG B v) by rw [g79]; rfl).trans ((if_neg h56).trans (if_pos h70)).symm), rfl⟩)
        · refine V_aload_n E dX11_voted_59 rfl ?_
          refine V_getR E fl_X11_48 dX11_voted_60 rfl hM.o (hM.r 22 (by decide)) ?_
          refine V_iload_n E dX11_voted_63 rfl ?_
          refine V_ia (j := v) E dX11_voted_64 (hM.k 22 21 rfl (by decide)) (@rfl _ (nI (v))) (hM.l 22 50 rfl (by decide)) (by omega) (by decide) ?_
          refine V_goto (tgt := 100) E dX11_voted_65 (by decide) ?_
          exact V_iret E R dX11_voted_100 rfl (Nat.le_refl _) (Nat.le_refl _) (Or.inl ⟨hx, congrArg (fun q => some (Value.int q)) (by rw [tv]; exact (hV.F v hv).trans (if_pos h56).symm), rfl⟩)
      | succ m ih =>
        intro p  hp
        have hcv := cv_le Q v p
        refine V_iload E dX11_voted_21 rfl ?_
        refine V_aload_n E dX11_voted_23 rfl ?_
        refine V_getI E fl_X11_223 dX11_voted_24 rfl hM.o ?_
        refine V_ge_no (a := p) (b := (rn Q)) (tgt := 55) E dX11_voted_27 (by decide) (@rfl _ (nI (p))) hR.1 (by omega) (by omega) ?_
        refine V_iload_n E dX11_voted_30 rfl ?_
        refine V_aload_n E dX11_voted_31 rfl ?_
        refine V_getR E fl_X11_69 dX11_voted_32 rfl hM.o (hM.r 31 (by decide)) ?_
        refine V_iload E dX11_voted_35 rfl ?_
        refine V_ia (j := p) E dX11_voted_37 (hM.k 31 21 rfl (by decide)) (@rfl _ (nI (p))) (hM.l 31 100 rfl (by decide)) (by omega) (by decide) ?_
        refine V_cvi (y := an (rV Q p)) ((hR.2.1 p (by omega)).2.2.2.1) ?_
        refine V_iload_n E dX11_voted_38 rfl ?_
        refine V_icmp_ne (tgt := 46) E dX11_voted_39 (by decide) (fun h39 => ?_) (fun h39 => ?_)
        · have g39 : ¬ rV Q p = some v := fun q => h39 ((an_eq (by omega) (fun u hu => by have := (hRO.2 p (by omega)).2.2.2.2.2.2.1 u hu; omega)).mpr q)
          refine V_iconst (v := 0) E dX11_voted_46 (by decide) ?_
          refine V_iadd E dX11_voted_47 ?_
          refine V_cvi (y := nI (cvN Q v (p + 1))) ((ni_add (a := cvN Q v p) (b := 0) (@rfl _ (nI (cvN Q v p))) (rfl : (0 : Int32) = nI 0)).trans (congrArg nI (cv_0 g39).symm)) ?_
          refine V_istore_n E dX11_voted_48 (by decide) rfl ?_
          refine V_iinc (v := nI (p + 1)) E dX11_voted_49 rfl (ni_inc (a := p) (z := 1) (@rfl _ (nI (p)))) (by decide) rfl ?_
          refine V_goto (tgt := 21) E dX11_voted_52 (by decide) ?_
          exact ih (p + 1) (by omega)
        · have g39 : rV Q p = some v := (an_eq (by omega) (fun u hu => by have := (hRO.2 p (by omega)).2.2.2.2.2.2.1 u hu; omega)).mp h39
          refine V_iconst (v := 1) E dX11_voted_42 (by decide) ?_
          refine V_goto (tgt := 47) E dX11_voted_43 (by decide) ?_
          refine V_iadd E dX11_voted_47 ?_
          refine V_cvi (y := nI (cvN Q v (p + 1))) ((ni_add (a := cvN Q v p) (b := 1) (@rfl _ (nI (cvN Q v p))) (rfl : (1 : Int32) = nI 1)).trans (congrArg nI (cv_1 g39).symm)) ?_
          refine V_istore_n E dX11_voted_48 (by decide) rfl ?_
          refine V_iinc (v := nI (p + 1)) E dX11_voted_49 rfl (ni_inc (a := p) (z := 1) (@rfl _ (nI (p)))) (by decide) rfl ?_
          refine V_goto (tgt := 21) E dX11_voted_52 (by decide) ?_
          exact ih (p + 1) (by omega)
    exact loop (rn Q) 0 (by omega)
  · have g : ¬ wi_ x 0 ((bn B : Int) - 1) := fun q => hc11 ((wi_iff rfl (by rw [hV.n]; exact nI_m1 (by omega))).mpr q)
    refine V_iconst (v := -1) E dX11_voted_14 (by decide) ?_
    exact V_iret E R dX11_voted_15 rfl (Nat.le_refl _) (Nat.le_refl _) (Or.inr ⟨g, rfl, rfl⟩)

theorem cy_partedBy (l : Launch) (d : Nat) (S : GS) (A : AV) (t : Nat) (B : AB) (hB : BOK B) (Q : AR) (hRO : ROK Q A B t) (hQ : YOK S) (hR : YPr S Q) (v : Nat) (hv : v < bn B) : GC l (d) yX4_partedBy cX4_partedBy 4 (some FieldType.int) [.ref 212, .int (nI v)] S (fun r S2 => r = some (.int (nI (cvN Q v (rn Q)))) ∧ S2 = S) (0) (0) := by
  refine GC.ofV (by decide) (Nat.le_of_ble_eq_true rfl) (fun X hl E R hnm => ?_)
  subst hl
  have E : En X RX4 cX4_partedBy 4 (d) (0) (0) := E
  have R : Rt X (some FieldType.int) (fun r S2 => r = some (.int (nI (cvN Q v (rn Q)))) ∧ S2 = S) := R
  have hbn := hB.1
  have hqn := hRO.1
  refine V_iconst (v := 0) E dX4_partedBy_0 (by decide) ?_
  refine V_istore_n E dX4_partedBy_1 (by decide) rfl ?_
  refine V_iconst (v := 0) E dX4_partedBy_2 (by decide) ?_
  refine V_istore_n E dX4_partedBy_3 (by decide) rfl ?_
  have loop : ∀ m p, p + m = rn Q → V X 4 [some (.ref (212)), some (.int (nI (v))), some (.int (nI (cvN Q v p))), some (.int (nI (p)))] [] S 0 0 := by
    intro m
    induction m with
    | zero =>
      intro p  hp
      refine V_iload_n E dX4_partedBy_4 rfl ?_
      refine V_aload_n E dX4_partedBy_5 rfl ?_
      refine V_getI E fl_X4_35 dX4_partedBy_6 rfl (hQ.k 212 5 rfl (by decide)) ?_
      refine V_ge_yes (a := p) (b := (rn Q)) (tgt := 39) E dX4_partedBy_9 (by decide) (@rfl _ (nI (p))) hR.1 (by omega) (by omega) ?_
      refine V_iload_n E dX4_partedBy_39 rfl ?_
      exact V_iret E R dX4_partedBy_40 rfl (Nat.le_refl _) (Nat.le_refl _) ⟨by rw [show p = rn Q by omega], rfl⟩
    | succ m ih =>
      intro p  hp
      refine V_iload_n E dX4_partedBy_4 rfl ?_
      refine V_aload_n E dX4_partedBy_5 rfl ?_
      refine V_getI E fl_X4_35 dX4_partedBy_6 rfl (hQ.k 212 5 rfl (by decide)) ?_
      refine V_ge_no (a := p) (b := (rn Q)) (tgt := 39) E dX4_partedBy_9 (by decide) (@rfl _ (nI (p))) hR.1 (by omega) (by omega) ?_
      refine V_iload_n E dX4_partedBy_12 rfl ?_
      refine V_aload_n E dX4_partedBy_13 rfl ?_
      refine V_getR E fl_X4_11 dX4_partedBy_14 rfl (hQ.k 212 5 rfl (by decide)) (hQ.r 212 0 213 rfl) ?_
      refine V_iload_n E dX4_partedBy_17 rfl ?_
      refine V_aa (j := p) E dX4_partedBy_18 (hQ.k 213 27 rfl (by decide)) (by decide) (@rfl _ (nI (p))) (hQ.l 213 100 rfl (by decide)) (by omega) (by decide) (hR.2.1 p (by omega)).1.1.1 ?_
      refine V_getIN E fn_X4_51 dX4_partedBy_19 rfl (hR.2.1 p (by omega)).1.1.2.1 ?_
      refine V_cvi (y := an (rV Q p)) ((hR.2.1 p (by omega)).2.1) ?_
      refine V_iload_n E dX4_partedBy_22 rfl ?_
      refine V_icmp_ne (tgt := 30) E dX4_partedBy_23 (by decide) (fun h39 => ?_) (fun h39 => ?_)
      · have g39 : ¬ rV Q p = some v := fun q => h39 ((an_eq (by omega) (fun u hu => by have := (hRO.2 p (by omega)).2.2.2.2.2.2.1 u hu; omega)).mpr q)
        refine V_iconst (v := 0) E dX4_partedBy_30 (by decide) ?_
        refine V_iadd E dX4_partedBy_31 ?_
        refine V_cvi (y := nI (cvN Q v (p + 1))) ((ni_add (a := cvN Q v p) (b := 0) (@rfl _ (nI (cvN Q v p))) (rfl : (0 : Int32) = nI 0)).trans (congrArg nI (cv_0 g39).symm)) ?_
        refine V_istore_n E dX4_partedBy_32 (by decide) rfl ?_
        refine V_iinc (v := nI (p + 1)) E dX4_partedBy_33 rfl (ni_inc (a := p) (z := 1) (@rfl _ (nI (p)))) (by decide) rfl ?_
        refine V_goto (tgt := 4) E dX4_partedBy_36 (by decide) ?_
        exact ih (p + 1) (by omega)
      · have g39 : rV Q p = some v := (an_eq (by omega) (fun u hu => by have := (hRO.2 p (by omega)).2.2.2.2.2.2.1 u hu; omega)).mp h39
        refine V_iconst (v := 1) E dX4_partedBy_26 (by decide) ?_
        refine V_goto (tgt := 31) E dX4_partedBy_27 (by decide) ?_
        refine V_iadd E dX4_partedBy_31 ?_
        refine V_cvi (y := nI (cvN Q v (p + 1))) ((ni_add (a := cvN Q v p) (b := 1) (@rfl _ (nI (cvN Q v p))) (rfl : (1 : Int32) = nI 1)).trans (congrArg nI (cv_1 g39).symm)) ?_
        refine V_istore_n E dX4_partedBy_32 (by decide) rfl ?_
        refine V_iinc (v := nI (p + 1)) E dX4_partedBy_33 rfl (ni_inc (a := p) (z := 1) (@rfl _ (nI (p)))) (by decide) rfl ?_
        refine V_goto (tgt := 4) E dX4_partedBy_36 (by decide) ?_
        exact ih (p + 1) (by omega)
  exact loop (rn Q) 0 (by omega)

theorem cy_voted (l : Launch) (d : Nat) (S : GS) (A : AV) (t : Nat) (B : AB) (hB : BOK B) (Q : AR) (hRO : ROK Q A B t) (hQ : YOK S) (hV : YVo S B) (hR : YPr S Q) (x z : Int32) : GC l (d + 1) yX10_voted cX10_voted 4 (some FieldType.int) [.ref 200, .int x, .int z] S (fun r S2 => (wi_ x 0 ((bn B : Int) - 1) ∧ r = some (.int (vtd B Q (tn x) z)) ∧ S2 = S) ∨ (¬ wi_ x 0 ((bn B : Int) - 1) ∧ r = some (.int (-1)) ∧ S2 = S)) (0) (0) := by
  refine GC.ofV (by decide) (Nat.le_of_ble_eq_true rfl) (fun X hl E R hnm => ?_)
  subst hl
  have E : En X RX10 cX10_voted 4 (d + 1) (0) (0) := E
  have R : Rt X (some FieldType.int) (fun r S2 => (wi_ x 0 ((bn B : Int) - 1) ∧ r = some (.int (vtd B Q (tn x) z)) ∧ S2 = S) ∨ (¬ wi_ x 0 ((bn B : Int) - 1) ∧ r = some (.int (-1)) ∧ S2 = S)) := R
  have hbn := hB.1
  refine V_aload_n E dX10_voted_0 rfl ?_
  refine V_getR E fl_X10_34 dX10_voted_1 rfl (hQ.k 200 11 rfl (by decide)) (hQ.r 200 6 207 rfl) ?_
  refine V_iload_n E dX10_voted_4 rfl ?_
  refine V_callV E (cy_at (x_l X) d S B hB hQ hV x) ml_X10_135 mv_X9_at (hQ.k 207 10 rfl (by decide)) dX10_voted_5 rfl (by simp [Value.category]) (by omega) (by omega) (by omega) (fun r S2 hp => ?_)
  rcases hp with ⟨hx, rfl, hS2⟩ | ⟨hx, rfl, hS2⟩
  · obtain rfl := hS2.symm
    obtain ⟨v, rfl, tv, lv, uv, -⟩ := wi_nat hx (by omega)
    rw [tv]
    have hv : v < bn B := by omega
    have hb := hB.2 v hv
    refine V_astore_n E dX10_voted_8 (by decide) rfl ?_
    refine V_aload_n E dX10_voted_9 rfl ?_
    refine V_ifnonnull (tgt := 15) E dX10_voted_10 (by decide) ?_
    refine V_iload_n E dX10_voted_15 rfl ?_
    by_cases hz : wi_ z 0 2
    · obtain ⟨j, rfl, tj, lj, uj, -⟩ := wi_nat hz (by omega)
      rcases (show j = 0 ∨ j = 1 ∨ j = 2 by omega) with rfl | rfl | rfl
      · refine V_tableIn (off := 28) (tgt := 44) E dX10_voted_16 (by decide) (by decide) (by decide) (by decide) ?_
        refine V_aload_n E dX10_voted_44 rfl ?_
        refine V_getIN E fn_X10_181 dX10_voted_45 rfl (hV.ok v hv) ?_
        exact V_iret E R dX10_voted_48 rfl (Nat.le_refl _) (Nat.le_refl _) (Or.inl ⟨hx, congrArg (fun q => some (Value.int q)) (by rw [tv]; exact (hV.F v hv).trans rfl), rfl⟩)
      · refine V_tableIn (off := 33) (tgt := 49) E dX10_voted_16 (by decide) (by decide) (by decide) (by decide) ?_
        refine V_aload_n E dX10_voted_49 rfl ?_
        refine V_getIN E fn_X10_139 dX10_voted_50 rfl (hV.ok v hv) ?_
        refine V_if_eq (tgt := 60) E dX10_voted_53 (by decide) (fun h79 => ?_) (fun h79 => ?_)
        · have g79 : bG B v = 0 := (nI_eq (a := bG B v) (b := 0) (by omega) (by omega)).mp ((hV.G v hv).symm.trans h79)
          refine V_iconst (v := 0) E dX10_voted_60 (by decide) ?_
          exact V_iret E R dX10_voted_61 rfl (Nat.le_refl _) (Nat.le_refl _) (Or.inl ⟨hx, congrArg (fun q => some (Value.int q)) (by rw [tv]; exact (show _ = nI (bG B v) by rw [g79]; rfl).trans rfl), rfl⟩)
        · have g79 : bG B v = 1 := by rcases Nat.eq_zero_or_pos (bG B v) with q | q; exact absurd ((hV.G v hv).trans (by rw [q]; rfl)) h79; omega
          refine V_iconst (v := 1) E dX10_voted_56 (by decide) ?_
          refine V_goto (tgt := 61) E dX10_voted_57 (by decide) ?_
          exact V_iret E R dX10_voted_61 rfl (Nat.le_refl _) (Nat.le_refl _) (Or.inl ⟨hx, congrArg (fun q => some (Value.int q)) (by rw [tv]; exact (show _ = nI (bG B v) by rw [g79]; rfl).trans rfl), rfl⟩)
      · refine V_tableIn (off := 46) (tgt := 62) E dX10_voted_16 (by decide) (by decide) (by decide) (by decide) ?_
        refine V_aload_n E dX10_voted_62 rfl ?_
        refine V_getR E fl_X10_41 dX10_voted_63 rfl (hQ.k 200 11 rfl (by decide)) (hQ.r 200 7 212 rfl) ?_
        refine V_iload_n E dX10_voted_66 rfl ?_
        refine V_callV E (cy_partedBy (x_l X) d S A t B hB Q hRO hQ hR v hv) ml_X10_184 mv_X4_partedBy (hQ.k 212 5 rfl (by decide)) dX10_voted_67 rfl (by simp [Value.category]) (by omega) (by omega) (by omega) (fun r S2 hp => ?_)
        obtain ⟨rfl, hS2⟩ := hp
        obtain rfl := hS2.symm
        exact V_iret E R dX10_voted_70 rfl (Nat.le_refl _) (Nat.le_refl _) (Or.inl ⟨hx, congrArg (fun q => some (Value.int q)) (by rw [tv]; exact rfl), rfl⟩)
    · refine V_tableOut (tgt := 71) E dX10_voted_16 (by rcases Int.lt_or_le z.toInt 0 with q | q; exact Or.inl q; rcases Int.lt_or_le 2 z.toInt with q2 | q2; exact Or.inr q2; exact absurd ⟨q, q2⟩ hz) (by decide) ?_
      refine V_iconst (v := -1) E dX10_voted_71 (by decide) ?_
      exact V_iret E R dX10_voted_72 rfl (Nat.le_refl _) (Nat.le_refl _) (Or.inl ⟨hx, congrArg (fun q => some (Value.int q)) (by rw [tv]; exact ((if_neg (fun q => hz (by rw [q]; exact ⟨by decide, by decide⟩))).trans ((if_neg (fun q => hz (by rw [q]; exact ⟨by decide, by decide⟩))).trans (if_neg (fun q => hz (by rw [q]; exact ⟨by decide, by decide⟩))))).symm), rfl⟩)
  · obtain rfl := hS2.symm
    refine V_astore_nN E dX10_voted_8 (by decide) rfl ?_
    refine V_aload_nN E dX10_voted_9 rfl ?_
    refine V_ifnonnullN E dX10_voted_10 ?_
    refine V_iconst (v := -1) E dX10_voted_13 (by decide) ?_
    exact V_iret E R dX10_voted_14 rfl (Nat.le_refl _) (Nat.le_refl _) (Or.inr ⟨hx, rfl, rfl⟩)
