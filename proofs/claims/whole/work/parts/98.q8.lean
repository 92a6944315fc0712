set_option maxHeartbeats 4000000 in
theorem cy_partAnew (l : Launch) (d : Nat) (S : GS) (A : AV) (t : Nat) (hO : VOK A t) (hY : YVes S A) (B : AB) (hB : BOK B) (hQ : YOK S) (hV : YVo S B) (L : AL) (hL : YLd S L) (hn : en L + 2000 < 102400) (Q : AR) (hR : YPr S Q) (hRO : ROK Q A B t) (td : Nat) (v : Nat) (hv : v < bn B) : GC l (d + 6) yX4_partAnew cX4_partAnew 6 (some FieldType.int) [.ref 212, .int (nI v), .ref 207, .int (nI td)] S (fun r S2 => r = some (.int (nI (en (ufd A B v td L Q (rn Q)).1) - nI (en L))) ∧ YLd S2 (ufd A B v td L Q (rn Q)).1 ∧ YPr S2 (ufd A B v td L Q (rn Q)).2 ∧ YQf S S2 ∧ fJ S2 212 = fJ S 212) (yK (en (ufd A B v td L Q (rn Q)).1) - yK (en L)) (yN (en (ufd A B v td L Q (rn Q)).1) - yN (en L)) := by
  refine GC.ofV (by decide) (Nat.le_of_ble_eq_true rfl) (fun X hl E R hnm => ?_)
  subst hl
  have E : En X RX4 cX4_partAnew 6 (d + 6) (yK (en (ufd A B v td L Q (rn Q)).1) - yK (en L)) (yN (en (ufd A B v td L Q (rn Q)).1) - yN (en L)) := E
  have R : Rt X (some FieldType.int) (fun r S2 => r = some (.int (nI (en (ufd A B v td L Q (rn Q)).1) - nI (en L))) ∧ YLd S2 (ufd A B v td L Q (rn Q)).1 ∧ YPr S2 (ufd A B v td L Q (rn Q)).2 ∧ YQf S S2 ∧ fJ S2 212 = fJ S 212) := R
  have hvn := hO.1
  have hbn := hB.1
  have ht6 := hO.2.1
  have hRn := hRO.1
  refine V_aload_n E dX4_partAnew_0 rfl ?_
  refine V_getR E fl_X4_31 dX4_partAnew_1 rfl (hQ.k 212 5 rfl (by decide)) (hQ.r 212 3 218 rfl) ?_
  refine V_getIN E fn_X4_50 dX4_partAnew_4 rfl (hQ.k 218 1 rfl (by decide)) ?_
  refine V_cvi (y := nI ((en L))) hL.1 ?_
  refine V_istore E dX4_partAnew_7 (by decide) rfl ?_
  refine V_iconst (v := 0) E dX4_partAnew_9 (by decide) ?_
  refine V_istore E dX4_partAnew_10 (by decide) rfl ?_
  have loop : ∀ k x S6 k1 n1, x + k = rn Q → (YLd S6 (ufd A B v td L Q x).1 ∧ YPr S6 (ufd A B v td L Q x).2 ∧ YQf S S6 ∧ fJ S6 212 = fJ S 212) → k1 = yK (en (ufd A B v td L Q x).1) - yK (en L) → n1 = yN (en (ufd A B v td L Q x).1) - yN (en L) → V X 12 [some (.ref (212)), some (.int (nI (v))), some (.ref (207)), some (.int (nI (td))), some (.int (nI (en L))), some (.int (nI (x)))] [] S6 k1 n1 := by
    intro k
    induction k with
    | zero =>
      intro x S6 k1 n1 hp hi hk1 hn1
      obtain ⟨i1, i2, ef, eJ⟩ := hi
      have ex : x = rn Q := by omega
      subst ex
      have uR := ufd_R (A := A) (B := B) (v := v) (td := td) (L := L) (R := Q) (rn Q)
      refine V_iload E dX4_partAnew_12 rfl ?_
      refine V_aload_n E dX4_partAnew_14 rfl ?_
      refine V_getI E fl_X4_35 dX4_partAnew_15 rfl ((ef.2 hQ).k 212 5 rfl (by decide)) ?_
      refine V_ge_yes (a := rn Q) (b := (rn Q)) (tgt := 50) E dX4_partAnew_18 (by decide) (@rfl _ (nI (rn Q))) (i2.1.trans (congrArg nI uR.1)) (by omega) (by omega) ?_
      refine V_aload_n E dX4_partAnew_50 rfl ?_
      refine V_getR E fl_X4_31 dX4_partAnew_51 rfl ((ef.2 hQ).k 212 5 rfl (by decide)) ((ef.2 hQ).r 212 3 218 rfl) ?_
      refine V_getIN E fn_X4_50 dX4_partAnew_54 rfl ((ef.2 hQ).k 218 1 rfl (by decide)) ?_
      refine V_iload E dX4_partAnew_57 rfl ?_
      refine V_isub E dX4_partAnew_59 ?_
      exact V_iret E R dX4_partAnew_60 rfl (Nat.le_of_eq hk1) (Nat.le_of_eq hn1) ⟨congrArg (fun z => some (Value.int (z - nI (en L)))) i1.1, i1, i2, ef, eJ⟩
    | succ k ih =>
      intro x S6 k1 n1 hp hi hk1 hn1
      obtain ⟨i1, i2, ef, eJ⟩ := hi
      have uR := ufd_R (A := A) (B := B) (v := v) (td := td) (L := L) (R := Q) x
      have hxr : x < rn Q := by omega
      have hR6 := ROK.ufd (v := v) (td := td) (L := L) hRO hO x (by omega)
      obtain ⟨c1, c2, c3, c4, c5, c6, c7, c8⟩ := hRO.2 x hxr
      have ux := uR.2.2.2.2.2 x (Nat.le_refl _)
      obtain ⟨y1, y2⟩ := i2.2.1 x (by rw [uR.1]; exact hxr)
      have uen := ufd_en (A := A) (B := B) (v := v) (td := td) (L := L) (R := Q) x
      have m1 := yK_mono (m := en (ufd A B v td L Q x).1) (n := en (ufd A B v td L Q (x + 1)).1) (ufd_mono (by omega))
      have m2 := yN_mono (m := en (ufd A B v td L Q x).1) (n := en (ufd A B v td L Q (x + 1)).1) (ufd_mono (by omega))
      have m3 := yK_mono (m := en (ufd A B v td L Q (x + 1)).1) (n := en (ufd A B v td L Q (rn Q)).1) (ufd_mono (by omega))
      have m4 := yN_mono (m := en (ufd A B v td L Q (x + 1)).1) (n := en (ufd A B v td L Q (rn Q)).1) (ufd_mono (by omega))
      have m5 := yK_mono (m := en L) (n := en (ufd A B v td L Q x).1) uen.1
      have m6 := yN_mono (m := en L) (n := en (ufd A B v td L Q x).1) uen.1
      refine V_iload E dX4_partAnew_12 rfl ?_
      refine V_aload_n E dX4_partAnew_14 rfl ?_
      refine V_getI E fl_X4_35 dX4_partAnew_15 rfl ((ef.2 hQ).k 212 5 rfl (by decide)) ?_
      refine V_ge_no (a := x) (b := (rn Q)) (tgt := 50) E dX4_partAnew_18 (by decide) (@rfl _ (nI (x))) (i2.1.trans (congrArg nI uR.1)) (by omega) (by omega) ?_
      refine V_aload_n E dX4_partAnew_21 rfl ?_
      refine V_getR E fl_X4_11 dX4_partAnew_22 rfl ((ef.2 hQ).k 212 5 rfl (by decide)) ((ef.2 hQ).r 212 0 213 rfl) ?_
      refine V_iload E dX4_partAnew_25 rfl ?_
      refine V_aa (j := x) E dX4_partAnew_27 ((ef.2 hQ).k 213 27 rfl (by decide)) (by decide) (@rfl _ (nI (x))) ((ef.2 hQ).l 213 100 rfl (by decide)) (by omega) (by decide) y1.1.1 ?_
      refine V_getIN E fn_X4_51 dX4_partAnew_28 rfl y1.1.2.1 ?_
      refine V_cvi (y := an (rV Q x)) (y2.1.trans (congrArg an ux.1)) ?_
      refine V_iload_n E dX4_partAnew_31 rfl ?_
      refine V_icmp_ne (tgt := 44) E dX4_partAnew_32 (by decide) (fun h32 => ?_) (fun h32 => ?_)
      · have g32 : ¬ rV Q x = some v := fun z => h32 ((an_eq (by omega) (fun u hu => by have := c7 u hu; omega)).mpr z)
        refine V_iinc (v := nI (x + 1)) E dX4_partAnew_44 rfl (ni_inc (a := x) (z := 1) (@rfl _ (nI (x)))) (by decide) rfl ?_
        refine V_goto (tgt := 12) E dX4_partAnew_47 (by decide) ?_
        have eu : (ufd A B v td L Q (x + 1)) = (ufd A B v td L Q x) := ufd_0 g32
        exact ih (x + 1) S6 _ _ (by omega) ⟨(by rw [eu]; exact i1), (by rw [eu]; exact i2), ef, eJ⟩ (by rw [eu]; exact hk1) (by rw [eu]; exact hn1)
      · have g32 : rV Q x = some v := (an_eq (by omega) (fun u hu => by have := c7 u hu; omega)).mp h32
        have eu : (ufd A B v td L Q (x + 1)) = _ := ufd_1 g32
        have e1u : en (ufd A B v td L Q (x + 1)).1 = _ := congrArg (fun z => en z.1) eu
        rw [e1u] at m1 m2 m3 m4
        have hvd := hRO.vd hO hxr
        refine V_aload_n E dX4_partAnew_35 rfl ?_
        refine V_iload E dX4_partAnew_36 rfl ?_
        refine V_aload_n E dX4_partAnew_38 rfl ?_
        refine V_iload_n E dX4_partAnew_39 rfl ?_
        refine V_iconst (v := 0) E dX4_partAnew_40 (by decide) ?_
        refine V_callV E (cy_settle (x_l X) d S6 A t hO (hY.fr ef.1 (fun g hg => by unfold dVes at hg; unfold dYQ dLed; omega) hvn) B hB (ef.2 hQ) (hV.fr ef.1 (fun g hg => by unfold dVot at hg; unfold dYQ dLed; omega) hbn) (ufd A B v td L Q x).1 i1 (by omega) x (rS Q x) (rG Q x) (rC Q x) td (rD Q x) 0 (rH Q x) (by omega) c1 hvd c6 c5 (by omega) (by omega) c8 y1.1.1 y1.1.2.1 (by have := y1.1.2.2.1; rw [uR.2.1] at this; exact this) y1.1.2.2.2.1 y1.1.2.2.2.2.1 y1.1.2.2.2.2.2 (by have := y1.2.1; rw [uR.2.2.2.2.1] at this; exact this) (by have := y1.2.2.1; rw [uR.2.2.2.1] at this; exact this) (by have := y1.2.2.2; rw [uR.2.2.1] at this; exact this) (fun m hm => by rw [y2.2 m hm, ux.2])) ml_X4_46 mv_X4_settle ((ef.2 hQ).k 212 5 rfl (by decide)) dX4_partAnew_41 rfl (by simp [Value.category]) (by omega) (by simp only [shq] at *; omega) (by simp only [shq] at *; omega) (fun r S7 hp => ?_)
        obtain ⟨rfl, j1, j2, j3, j4⟩ := hp
        refine V_iinc (v := nI (x + 1)) E dX4_partAnew_44 rfl (ni_inc (a := x) (z := 1) (@rfl _ (nI (x)))) (by decide) rfl ?_
        refine V_goto (tgt := 12) E dX4_partAnew_47 (by decide) ?_
        exact ih (x + 1) S7 _ _ (by omega) ⟨(by rw [eu]; exact j1), (by rw [eu]; exact i2.set (by rw [uR.1]; exact hRn) (by rw [uR.1]; exact hxr) j4 j2 j3), ef.trans (j4.q (by omega)), (j4.1.fJ (by unfold dSet dLed; omega)).trans eJ⟩ (by rw [e1u]; simp only [shq] at *; omega) (by rw [e1u]; simp only [shq] at *; omega)
  refine V_lo (lo' := [some (.ref (212)), some (.int (nI (v))), some (.ref (207)), some (.int (nI (td))), some (.int (nI (en L))), some (.int (0))]) (And.intro rfl (And.intro rfl (And.intro rfl (And.intro rfl (And.intro rfl (And.intro rfl True.intro)))))) ?_
  exact loop (rn Q) 0 S _ _ (by omega) ⟨hL, hR, YQf.rfl' S, rfl⟩ (Nat.sub_self _).symm (Nat.sub_self _).symm

theorem cy_unvote (l : Launch) (d : Nat) (S : GS) (A : AV) (t : Nat) (hO : VOK A t) (hY : YVes S A) (B : AB) (hB : BOK B) (hQ : YOK S) (hV : YVo S B) (L : AL) (hL : YLd S L) (hn : en L + 2000 < 102400) (Q : AR) (hR : YPr S Q) (hRO : ROK Q A B t) (td : Nat) (ht : fI S 200 2 = nI td) (x : Int32) : GC l (d + 7) yX10_unvote cX10_unvote 3 (some FieldType.int) [.ref 200, .int x] S (fun r S2 => ((wi_ x 0 ((bn B : Int) - 1) ∧ bG B (tn x) = 0) ∧ r = some (.int (nI (en (ufd A (aUnv B (tn x)) (tn x) td L Q (rn Q)).1) - nI (en L))) ∧ YLd S2 (ufd A (aUnv B (tn x)) (tn x) td L Q (rn Q)).1 ∧ YPr S2 (ufd A (aUnv B (tn x)) (tn x) td L Q (rn Q)).2 ∧ YQf (sI S (3000 + tn x) 2 1) S2 ∧ fJ S2 212 = fJ S 212) ∨ (¬ (wi_ x 0 ((bn B : Int) - 1) ∧ bG B (tn x) = 0) ∧ r = some (.int (-1)) ∧ S2 = S)) (yK (en (ufd A (aUnv B (tn x)) (tn x) td L Q (rn Q)).1) - yK (en L)) (yN (en (ufd A (aUnv B (tn x)) (tn x) td L Q (rn Q)).1) - yN (en L)) := by
  refine GC.ofV (by decide) (Nat.le_of_ble_eq_true rfl) (fun X hl E R hnm => ?_)
  subst hl
  have E : En X RX10 cX10_unvote 3 (d + 7) (yK (en (ufd A (aUnv B (tn x)) (tn x) td L Q (rn Q)).1) - yK (en L)) (yN (en (ufd A (aUnv B (tn x)) (tn x) td L Q (rn Q)).1) - yN (en L)) := E
  have R : Rt X (some FieldType.int) (fun r S2 => ((wi_ x 0 ((bn B : Int) - 1) ∧ bG B (tn x) = 0) ∧ r = some (.int (nI (en (ufd A (aUnv B (tn x)) (tn x) td L Q (rn Q)).1) - nI (en L))) ∧ YLd S2 (ufd A (aUnv B (tn x)) (tn x) td L Q (rn Q)).1 ∧ YPr S2 (ufd A (aUnv B (tn x)) (tn x) td L Q (rn Q)).2 ∧ YQf (sI S (3000 + tn x) 2 1) S2 ∧ fJ S2 212 = fJ S 212) ∨ (¬ (wi_ x 0 ((bn B : Int) - 1) ∧ bG B (tn x) = 0) ∧ r = some (.int (-1)) ∧ S2 = S)) := R
  have hbn := hB.1
  have hvn := hO.1
  refine V_aload_n E dX10_unvote_0 rfl ?_
  refine V_getR E fl_X10_34 dX10_unvote_1 rfl (hQ.k 200 11 rfl (by decide)) (hQ.r 200 6 207 rfl) ?_
  refine V_iload_n E dX10_unvote_4 rfl ?_
  refine V_callV E (cy_at (x_l X) d S B hB hQ hV x) ml_X10_135 mv_X9_at (hQ.k 207 10 rfl (by decide)) dX10_unvote_5 rfl (by simp [Value.category]) (by omega) (by omega) (by omega) (fun r S2 hp => ?_)
  rcases hp with ⟨hx, rfl, hS2⟩ | ⟨hx, rfl, hS2⟩
  · obtain rfl := hS2.symm
    obtain ⟨v, rfl, tv, lv, uv, -⟩ := wi_nat hx (by omega)
    rw [tv] at E R ⊢
    have hv : v < bn B := by omega
    have hb := hB.2 v hv
    refine V_astore_n E dX10_unvote_8 (by decide) rfl ?_
    refine V_aload_n E dX10_unvote_9 rfl ?_
    refine V_ifnull E dX10_unvote_10 ?_
    refine V_aload_n E dX10_unvote_13 rfl ?_
    refine V_getIN E fn_X10_139 dX10_unvote_14 rfl (hV.ok v hv) ?_
    refine V_if_eq (tgt := 22) E dX10_unvote_17 (by decide) (fun h17 => ?_) (fun h17 => ?_)
    · have g17 : bG B v = 0 := (nI_eq (a := bG B v) (b := 0) (by omega) (by omega)).mp ((hV.G v hv).symm.trans h17)
      refine V_aload_n E dX10_unvote_22 rfl ?_
      refine V_iconst (v := 1) E dX10_unvote_23 (by decide) ?_
      refine V_putIN E fn_X10_139 dX10_unvote_24 rfl (hV.ok v hv) ⟨rfl, rfl⟩ rfl ?_
      refine V_aload_n E dX10_unvote_27 rfl ?_
      refine V_getR E fl_X10_41 dX10_unvote_28 rfl (hQ.k 200 11 rfl (by decide)) (hQ.r 200 7 212 rfl) ?_
      refine V_iload_n E dX10_unvote_31 rfl ?_
      refine V_aload_n E dX10_unvote_32 rfl ?_
      refine V_getR E fl_X10_34 dX10_unvote_33 rfl (hQ.k 200 11 rfl (by decide)) (hQ.r 200 6 207 rfl) ?_
      refine V_aload_n E dX10_unvote_36 rfl ?_
      refine V_getI E fl_X10_99 dX10_unvote_37 rfl (hQ.k 200 11 rfl (by decide)) ?_
      refine V_cvi (y := nI td) (show up2 (fI S) (3000 + v) 2 1 200 2 = nI td from (up2_ne (by omega)).trans ht) ?_
      refine V_callV E (cy_partAnew (x_l X) d (sI S (3000 + v) 2 1) A t hO (hY.fr (D := fun g => g = 3000 + v) (YSm.I rfl) (fun g hg => by unfold dVes at hg; omega) hvn) (aUnv B v) hB.unv hQ (hV.unv hv hbn) L (hL.fr (D := fun g => g = 3000 + v) (YSm.I rfl) (fun g hg => by unfold dLed at hg; omega)) hn Q (yPr_I (by omega) hR) hRO.unv td v hv) ml_X10_145 mv_X4_partAnew (hQ.k 212 5 rfl (by decide)) dX10_unvote_40 rfl (by simp [Value.category]) (by omega) (by omega) (by omega) (fun r S2 hp => ?_)
      obtain ⟨rfl, hrest⟩ := hp
      exact V_iret E R dX10_unvote_43 rfl (by omega) (by omega) (Or.inl ⟨⟨hx, g17⟩, rfl, hrest⟩)
    · have g : ¬ (wi_ (nI v) 0 ((bn B : Int) - 1) ∧ bG B v = 0) := fun z => h17 ((hV.G v hv).trans (by rw [z.2]; rfl))
      refine V_iconst (v := -1) E dX10_unvote_20 (by decide) ?_
      exact V_iret E R dX10_unvote_21 rfl (by omega) (by omega) (Or.inr ⟨g, rfl, rfl⟩)
  · obtain rfl := hS2.symm
    have g : ¬ (wi_ x 0 ((bn B : Int) - 1) ∧ bG B (tn x) = 0) := fun z => hx z.1
    refine V_astore_nN E dX10_unvote_8 (by decide) rfl ?_
    refine V_aload_nN E dX10_unvote_9 rfl ?_
    refine V_ifnullN (tgt := 20) E dX10_unvote_10 (by decide) ?_
    refine V_iconst (v := -1) E dX10_unvote_20 (by decide) ?_
    exact V_iret E R dX10_unvote_21 rfl (by omega) (by omega) (Or.inr ⟨g, rfl, rfl⟩)
