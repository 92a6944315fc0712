theorem MLd.g {S : GS} {L : AL} {j : Nat} {v : Int32} (h : MLd S L) : MLd (sA S 23 j v) L := MLx.sm (S := S) rfl (fun _ _ => rfl) (fun q _ _ => ⟨rfl, rfl, (show up2 (aI S) 23 j v q = aI S q from up2_row (by omega))⟩) (show up2 (aI S) 23 j v 39 = aI S 39 from up2_row (by decide)) h
theorem MPr.g {S : GS} {A : AV} {R : AR} {j : Nat} {v : Int32} (h : MPr S A R) : MPr (sA S 23 j v) A R := ⟨h.1, fun x hx => (h.2.1 x hx).sm (fun g a b => (show up2 (aI S) 23 j v g = aI S g from up2_row (by omega))), fun x hx => (h.2.2 x hx).sm (show up2 (aI S) 23 j v 34 = aI S 34 from up2_row (by decide))⟩
theorem MPr.anew {S6 S7 S8 : GS} {A : AV} {R : AR} {x : Nat} {o : Option Nat} {sh : Nat → Nat} (h : MPr S6 A R) (hp : MPf S6 S7 x o) (h5 : ∀ g, 28 ≤ g → g ≤ 33 → aI S8 g = aI S7 g) (h8 : ∀ m, m < 20 → ¬ gmN A (rS R x) m = 0 → aI S8 34 (20 * x + m) = nI (sh m)) (h9 : ∀ j, (j < 20 * x ∨ 20 * x + 20 ≤ j) → aI S8 34 j = aI S6 34 j) (h10 : fI S8 0 2 = fI S6 0 2) : MPr S8 A (rSet R x o sh) := by
  refine ⟨h10.trans h.1, fun y hy => MPx.sm h5 ((h.2.1 y hy).set hp), fun y hy => ?_⟩
  show ∀ m, m < 20 → ¬ gmN A (rS R y) m = 0 → aI S8 34 (20 * y + m) = nI (va_up (rH R) x sh y m)
  by_cases e : y = x
  · subst e; rw [va_up_self]; exact h8
  · rw [va_up_ne _ _ e]
    intro m hm hg
    rw [h9 _ (by omega)]
    exact h.2.2 y hy m hm hg

set_option maxHeartbeats 8000000 in
theorem cm_unvote (l : Launch) (d : Nat) (S : GS) (A : AV) (t : Nat) (hO : VOK A t) (hM : MOK S) (B : AB) (hB : BOK B) (hV : MVo S B) (L : AL) (hL : MLd S L) (hn : en L + 2000 < 102400) (Q : AR) (hR : MPr S A Q) (hRO : ROK Q A B t) (td : Nat) (ht : fI S 0 0 = nI td) (x : Int32) : GC l (d + 2) yX11_unvote cX11_unvote 8 (some FieldType.int) [.ref 0, .int x] S (fun r S2 => ((wi_ x 0 ((bn B : Int) - 1) ∧ bG B (tn x) = 0) ∧ r = some (.int (nI (en (ufd A (aUnv B (tn x)) (tn x) td L Q (rn Q)).1) - nI (en L))) ∧ MLd S2 (ufd A (aUnv B (tn x)) (tn x) td L Q (rn Q)).1 ∧ MPr S2 A (ufd A (aUnv B (tn x)) (tn x) td L Q (rn Q)).2 ∧ MQf (sA S 23 (tn x) 1) S2 ∧ fJ S2 0 5 = fJ S 0 5) ∨ (¬ (wi_ x 0 ((bn B : Int) - 1) ∧ bG B (tn x) = 0) ∧ r = some (.int (-1)) ∧ S2 = S)) (mK (en (ufd A (aUnv B (tn x)) (tn x) td L Q (rn Q)).1) - mK (en L)) (mN (en (ufd A (aUnv B (tn x)) (tn x) td L Q (rn Q)).1) - mN (en L)) := by
  refine GC.ofV (by decide) (Nat.le_of_ble_eq_true rfl) (fun X hl E R hnm => ?_)
  subst hl
  have E : En X RX11 cX11_unvote 8 (d + 2) (mK (en (ufd A (aUnv B (tn x)) (tn x) td L Q (rn Q)).1) - mK (en L)) (mN (en (ufd A (aUnv B (tn x)) (tn x) td L Q (rn Q)).1) - mN (en L)) := E
  have R : Rt X (some FieldType.int) (fun r S2 => ((wi_ x 0 ((bn B : Int) - 1) ∧ bG B (tn x) = 0) ∧ r = some (.int (nI (en (ufd A (aUnv B (tn x)) (tn x) td L Q (rn Q)).1) - nI (en L))) ∧ MLd S2 (ufd A (aUnv B (tn x)) (tn x) td L Q (rn Q)).1 ∧ MPr S2 A (ufd A (aUnv B (tn x)) (tn x) td L Q (rn Q)).2 ∧ MQf (sA S 23 (tn x) 1) S2 ∧ fJ S2 0 5 = fJ S 0 5) ∨ (¬ (wi_ x 0 ((bn B : Int) - 1) ∧ bG B (tn x) = 0) ∧ r = some (.int (-1)) ∧ S2 = S)) := R
  have hbn := hB.1
  have hvn := hO.1
  have ht6 := hO.2.1
  have hRn := hRO.1
  refine V_iload_n E dX11_unvote_0 rfl ?_
  refine V_iconst (v := 0) E dX11_unvote_1 (by decide) ?_
  refine V_aload_n E dX11_unvote_2 rfl ?_
  refine V_getI E fl_X11_204 dX11_unvote_3 rfl hM.o ?_
  refine V_iconst (v := 1) E dX11_unvote_6 (by decide) ?_
  refine V_isub E dX11_unvote_7 ?_
  refine V_callS E (cm_in (x_l X) d S _ _ _) ml_X11_115 ms_X11_in dX11_unvote_8 rfl (by simp [Value.category]) (by omega) (by omega) (by omega) (fun r S2 hp => ?_)
  obtain ⟨rfl, hS2⟩ := hp
  obtain rfl := hS2.symm
  refine V_ifeq_b (tgt := 23) E dX11_unvote_11 (by decide) (fun hc11 => ?_) (fun hc11 => ?_)
  · have g : ¬ (wi_ x 0 ((bn B : Int) - 1) ∧ bG B (tn x) = 0) := fun z => hc11 ((wi_iff rfl (by rw [hV.n]; exact nI_m1 (by omega))).mpr z.1)
    refine V_iconst (v := -1) E dX11_unvote_23 (by decide) ?_
    exact V_iret E R dX11_unvote_24 rfl (by omega) (by omega) (Or.inr ⟨g, rfl, rfl⟩)
  · have hx : wi_ x 0 ((bn B : Int) - 1) := (wi_iff rfl (by rw [hV.n]; exact nI_m1 (by omega))).mp hc11
    obtain ⟨v, rfl, tv, lv, uv, -⟩ := wi_nat hx (by omega)
    rw [tv] at E R
    have hv : v < bn B := by omega
    have hb := hB.2 v hv
    refine V_aload_n E dX11_unvote_14 rfl ?_
    refine V_getR E fl_X11_51 dX11_unvote_15 rfl hM.o (hM.r 23 (by decide)) ?_
    refine V_iload_n E dX11_unvote_18 rfl ?_
    refine V_za (j := v) E dX11_unvote_19 (hM.k 23 24 rfl (by decide)) (@rfl _ (nI (v))) (hM.l 23 50 rfl (by decide)) (by omega) (by decide) ?_
    refine V_if_eq (tgt := 25) E dX11_unvote_20 (by decide) (fun h20 => ?_) (fun h20 => ?_)
    · have g20 : bG B v = 0 := (nI_eq (a := bG B v) (b := 0) (by omega) (by omega)).mp ((hV.G v hv).symm.trans h20)
      refine V_aload_n E dX11_unvote_25 rfl ?_
      refine V_getR E fl_X11_51 dX11_unvote_26 rfl hM.o (hM.r 23 (by decide)) ?_
      refine V_iload_n E dX11_unvote_29 rfl ?_
      refine V_iconst (v := 1) E dX11_unvote_30 (by decide) ?_
      refine V_zas (j := v) E dX11_unvote_31 (hM.k 23 24 rfl (by decide)) (@rfl _ (nI (v))) (hM.l 23 50 rfl (by decide)) (by omega) (by decide) ?_
      refine V_cvS (S' := (sA S 23 v 1)) rfl ?_
      refine V_aload_n E dX11_unvote_32 rfl ?_
      refine V_getI E fl_X11_212 dX11_unvote_33 rfl hM.o ?_
      refine V_cvi (y := nI ((en L))) hL.1 ?_
      refine V_istore_n E dX11_unvote_36 (by decide) rfl ?_
      refine V_iconst (v := 0) E dX11_unvote_37 (by decide) ?_
      refine V_istore_n E dX11_unvote_38 (by decide) rfl ?_
      have hV1 := MVo.unv (v := v) hV
      have hB1 := BOK.unv (v := v) hB
      have hRO1 : ROK Q A (aUnv B v) t := hRO.unv
      have loop : ∀ k x S6 k1 n1, x + k = rn Q → (MLd S6 (ufd A (aUnv B v) v td L Q x).1 ∧ MPr S6 A (ufd A (aUnv B v) v td L Q x).2 ∧ MQf (sA S 23 v 1) S6 ∧ fJ S6 0 5 = fJ S 0 5) → k1 = mK (en (ufd A (aUnv B v) v td L Q x).1) - mK (en L) → n1 = mN (en (ufd A (aUnv B v) v td L Q x).1) - mN (en L) → V X 39 [some (.ref (0)), some (.int (nI (v))), some (.int (nI (en L))), some (.int (nI (x))), none, none, none, none] [] S6 k1 n1 := by
        intro k
        induction k with
        | zero =>
          intro x S6 k1 n1 hp hi hk1 hn1
          obtain ⟨i1, i2, ef, i4⟩ := hi
          have ex : x = rn Q := by omega
          subst ex
          have uR := ufd_R (A := A) (B := aUnv B v) (v := v) (td := td) (L := L) (R := Q) (rn Q)
          have hM6 := ef.2.2.1 hM
          refine V_iload_n E dX11_unvote_39 rfl ?_
          refine V_aload_n E dX11_unvote_40 rfl ?_
          refine V_getI E fl_X11_223 dX11_unvote_41 rfl hM6.o ?_
          refine V_ge_yes (a := rn Q) (b := (rn Q)) (tgt := 162) E dX11_unvote_44 (by decide) (@rfl _ (nI (rn Q))) (i2.1.trans (congrArg nI uR.1)) (by omega) (by omega) ?_
          refine V_aload_n E dX11_unvote_162 rfl ?_
          refine V_getI E fl_X11_212 dX11_unvote_163 rfl hM6.o ?_
          refine V_iload_n E dX11_unvote_166 rfl ?_
          refine V_isub E dX11_unvote_167 ?_
          exact V_iret E R dX11_unvote_168 rfl (Nat.le_of_eq hk1) (Nat.le_of_eq hn1) (Or.inl ⟨⟨hx, g20⟩, congrArg (fun z => some (Value.int (z - nI (en L)))) i1.1, i1, i2, ef, i4⟩)
        | succ k ih =>
          intro x S6 k1 n1 hp hi hk1 hn1
          obtain ⟨i1, i2, ef, i4⟩ := hi
          have uR := ufd_R (A := A) (B := aUnv B v) (v := v) (td := td) (L := L) (R := Q) x
          have hxr : x < rn Q := by omega
          have hM6 := ef.2.2.1 hM
          obtain ⟨c1, c2, c3, c4, c5, c6, c7, c8⟩ := hRO.2 x hxr
          have ux := uR.2.2.2.2.2 x (Nat.le_refl _)
          have hvd := hRO.vd hO hxr
          have y1 := i2.2.1 x (by rw [uR.1]; exact hxr)
          have y2 := i2.2.2 x (by rw [uR.1]; exact hxr)
          have q28 : aI S6 28 x = nI (rD Q x) := by have := y1.1; rw [uR.2.2.1] at this; exact this
          have q29 : aI S6 29 x = nI (rC Q x) := by have := y1.2.1; rw [uR.2.2.2.1] at this; exact this
          have q30 : aI S6 30 x = nI (rG Q x) := by have := y1.2.2.1; rw [uR.2.2.2.2.1] at this; exact this
          have q31 : aI S6 31 x = an (rV Q x) := y1.2.2.2.1.trans (congrArg an ux.1)
          have q3 : ∀ m, m < 20 → aI S6 32 (20 * x + m) = nI (gmN A (rS Q x) m) ∧ aI S6 33 (20 * x + m) = nI (plN A (rS Q x) m) := by have := y1.2.2.2.2; rw [uR.2.1] at this; exact this
          have q34 : ∀ m, m < 20 → ¬ gmN A (rS Q x) m = 0 → aI S6 34 (20 * x + m) = nI (rH Q x m) := fun m hm hg => by have := y2 m hm (by rw [uR.2.1]; exact hg); rw [ux.2] at this; exact this
          have uen := ufd_en (A := A) (B := aUnv B v) (v := v) (td := td) (L := L) (R := Q) x
          have m1 := mK_mono (m := en (ufd A (aUnv B v) v td L Q x).1) (n := en (ufd A (aUnv B v) v td L Q (x + 1)).1) (ufd_mono (by omega))
          have m2 := mN_mono (m := en (ufd A (aUnv B v) v td L Q x).1) (n := en (ufd A (aUnv B v) v td L Q (x + 1)).1) (ufd_mono (by omega))
          have m3 := mK_mono (m := en (ufd A (aUnv B v) v td L Q (x + 1)).1) (n := en (ufd A (aUnv B v) v td L Q (rn Q)).1) (ufd_mono (by omega))
          have m4 := mN_mono (m := en (ufd A (aUnv B v) v td L Q (x + 1)).1) (n := en (ufd A (aUnv B v) v td L Q (rn Q)).1) (ufd_mono (by omega))
          have m5 := mK_mono (m := en L) (n := en (ufd A (aUnv B v) v td L Q x).1) uen.1
          have m6 := mN_mono (m := en L) (n := en (ufd A (aUnv B v) v td L Q x).1) uen.1
          refine V_iload_n E dX11_unvote_39 rfl ?_
          refine V_aload_n E dX11_unvote_40 rfl ?_
          refine V_getI E fl_X11_223 dX11_unvote_41 rfl hM6.o ?_
          refine V_ge_no (a := x) (b := (rn Q)) (tgt := 162) E dX11_unvote_44 (by decide) (@rfl _ (nI (x))) (i2.1.trans (congrArg nI uR.1)) (by omega) (by omega) ?_
          refine V_aload_n E dX11_unvote_47 rfl ?_
          refine V_getR E fl_X11_69 dX11_unvote_48 rfl hM6.o (hM6.r 31 (by decide)) ?_
          refine V_iload_n E dX11_unvote_51 rfl ?_
          refine V_ia (j := x) E dX11_unvote_52 (hM6.k 31 21 rfl (by decide)) (@rfl _ (nI (x))) (hM6.l 31 100 rfl (by decide)) (by omega) (by decide) ?_
          refine V_cvi (y := an (rV Q x)) q31 ?_
          refine V_iload_n E dX11_unvote_53 rfl ?_
          refine V_icmp_eq (tgt := 60) E dX11_unvote_54 (by decide) (fun h54 => ?_) (fun h54 => ?_)
          · have g54 : rV Q x = some v := (an_eq (by omega) (fun u hu => by have := c7 u hu; omega)).mp h54
            have eu : (ufd A (aUnv B v) v td L Q (x + 1)) = _ := ufd_1 g54
            have e1u : en (ufd A (aUnv B v) v td L Q (x + 1)).1 = en (lfd (gmN A (rS Q x)) (shq A (aUnv B v) Q x) (rH Q x) 0 td x (ufd A (aUnv B v) v td L Q x).1 20) := congrArg (fun z => en z.1) eu
            rw [e1u] at m1 m2 m3 m4
            refine V_aload_n E dX11_unvote_60 rfl ?_
            refine V_iload_n E dX11_unvote_61 rfl ?_
            refine V_aload_n E dX11_unvote_62 rfl ?_
            refine V_aload_n E dX11_unvote_63 rfl ?_
            refine V_getR E fl_X11_60 dX11_unvote_64 rfl hM6.o (hM6.r 28 (by decide)) ?_
            refine V_iload_n E dX11_unvote_67 rfl ?_
            refine V_ia (j := x) E dX11_unvote_68 (hM6.k 28 21 rfl (by decide)) (@rfl _ (nI (x))) (hM6.l 28 100 rfl (by decide)) (by omega) (by decide) ?_
            refine V_cvi (y := nI (rD Q x)) q28 ?_
            refine V_callV E (cm_inForce (x_l X) d S6 (aUnv B v) hB1 hM6 (hV1.fq ef) (rD Q x) (by omega)) ml_X11_235 mv_X11_inForce hM6.o dX11_unvote_69 rfl (by simp [Value.category]) (by omega) (by omega) (by omega) (fun r S2 hp => ?_)
            obtain ⟨rfl, hS2⟩ := hp
            obtain rfl := hS2.symm
            refine V_callV E (cm_partPremium (x_l X) d S6 A t hO (aUnv B v) hB1 hM6 (hV1.fq ef) (rS Q x) (rG Q x) (rC Q x) x c1 hvd c6 c5 (by omega) (inF (aUnv B v) (rD Q x)) cy_inF q29 q30 (fun m hm => (q3 m hm).1) (fun m hm => (q3 m hm).2)) ml_X11_238 mv_X11_partPremium hM6.o dX11_unvote_72 rfl (by simp [Value.category]) (by omega) (by omega) (by omega) (fun r S7 hp => ?_)
            obtain ⟨rfl, hpf, hsh, hwh⟩ := hp
            refine V_istore E dX11_unvote_75 (by decide) rfl ?_
            refine V_iconst (v := 0) E dX11_unvote_77 (by decide) ?_
            refine V_istore E dX11_unvote_78 (by decide) rfl ?_
            have c20 := cn_le (gmN A (rS Q x)) 20
            have hl20 := lfd_le (g := (gmN A (rS Q x))) (sh := (shq A (aUnv B v) Q x)) (h := rH Q x) (fi := 0) (td := td) (x := x) (L := (ufd A (aUnv B v) v td L Q x).1)
            have lp : ∀ k e S8 M k2 n2, e + k = cn (gmN A (rS Q x)) 20 → (M ≤ 20 ∧ cn (gmN A (rS Q x)) M = e ∧ MLd S8 (lfd (gmN A (rS Q x)) (shq A (aUnv B v) Q x) (rH Q x) 0 td x (ufd A (aUnv B v) v td L Q x).1 M) ∧ MQf S7 S8 ∧ (∀ g, 28 ≤ g → g ≤ 33 → aI S8 g = aI S7 g) ∧ aJ S8 14 = aJ S7 14 ∧ aI S8 40 = aI S7 40 ∧ (∀ m, m < 20 → ¬ gmN A (rS Q x) m = 0 → aI S8 34 (20 * x + m) = nI (if cn (gmN A (rS Q x)) m < e then (shq A (aUnv B v) Q x) m else rH Q x m)) ∧ (∀ j, (j < 20 * x ∨ 20 * x + 20 ≤ j) → aI S8 34 j = aI S6 34 j) ∧ fI S8 0 2 = fI S6 0 2 ∧ fJ S8 0 5 = fJ S 0 5) → k2 = mK (en (lfd (gmN A (rS Q x)) (shq A (aUnv B v) Q x) (rH Q x) 0 td x (ufd A (aUnv B v) v td L Q x).1 M)) - mK (en L) → n2 = mN (en (lfd (gmN A (rS Q x)) (shq A (aUnv B v) Q x) (rH Q x) 0 td x (ufd A (aUnv B v) v td L Q x).1 M)) - mN (en L) → V X 80 [some (.ref (0)), some (.int (nI (v))), some (.int (nI (en L))), some (.int (nI (x))), some (.int (nI (cn (gmN A (rS Q x)) 20))), some (.int (nI (e))), none, none] [] S8 k2 n2 := by
              intro k
              induction k with
              | zero =>
                intro e S8 M k2 n2 he hh2 hk2 hn2
                obtain ⟨j1, j2, j3, j4, j5, j6, j7, j8, j9, j10, j11⟩ := hh2
                have e20 : (lfd (gmN A (rS Q x)) (shq A (aUnv B v) Q x) (rH Q x) 0 td x (ufd A (aUnv B v) v td L Q x).1 20) = (lfd (gmN A (rS Q x)) (shq A (aUnv B v) Q x) (rH Q x) 0 td x (ufd A (aUnv B v) v td L Q x).1 M) := lfd_cn j1 (by omega)
                rw [← e20] at j3 hk2 hn2
                refine V_iload E dX11_unvote_80 rfl ?_
                refine V_iload E dX11_unvote_82 rfl ?_
                refine V_ge_yes (a := e) (b := cn (gmN A (rS Q x)) 20) (tgt := 156) E dX11_unvote_84 (by decide) (@rfl _ (nI (e))) (@rfl _ (nI (cn (gmN A (rS Q x)) 20))) (by omega) (by omega) ?_
                refine V_iinc (v := nI (x + 1)) E dX11_unvote_156 rfl (ni_inc (a := x) (z := 1) (@rfl _ (nI (x)))) (by decide) rfl ?_
                refine V_goto (tgt := 39) E dX11_unvote_159 (by decide) ?_
                refine V_lo (lo' := [some (.ref (0)), some (.int (nI (v))), some (.int (nI (en L))), some (.int (nI (x + 1))), none, none, none, none]) (And.intro rfl (And.intro rfl (And.intro rfl (And.intro rfl True.intro)))) ?_
                exact ih (x + 1) S8 _ _ (by omega) ⟨(by rw [eu]; exact j3), (by rw [eu]; exact i2.anew hpf j5 (fun m hm hg => by rw [uR.2.1] at hg; rw [j8 m hm hg, if_pos (by have := cn_lt hm hg; omega)]) j9 j10), (ef.trans hpf.q).trans j4, j11⟩ (by rw [e1u]; exact hk2) (by rw [e1u]; exact hn2)
              | succ k ih2 =>
                intro e S8 M k2 n2 he hh2 hk2 hn2
                obtain ⟨j1, j2, j3, j4, j5, j6, j7, j8, j9, j10, j11⟩ := hh2
                have hM8 := j4.2.2.1 (hpf.q.2.2.1 hM6)
                obtain ⟨m, n1_, n2_, n3_⟩ := cn_ex (g := (gmN A (rS Q x))) (N := 20) (j := e) (by omega)
                have eM : (lfd (gmN A (rS Q x)) (shq A (aUnv B v) Q x) (rH Q x) 0 td x (ufd A (aUnv B v) v td L Q x).1 M) = (lfd (gmN A (rS Q x)) (shq A (aUnv B v) Q x) (rH Q x) 0 td x (ufd A (aUnv B v) v td L Q x).1 m) := lfd_at (by omega) n2_
                rw [eM] at j3 hk2 hn2
                have hshm : (shq A (aUnv B v) Q x) m ≤ 1000000 := Nat.le_trans (shr_le hvd n1_) c5
                have hhm := (c8 m n1_).1
                have hm34 := j8 m n1_ n2_
                rw [if_neg (show ¬ cn (gmN A (rS Q x)) m < e by omega)] at hm34
                have o1 := mK_mono (m := en (ufd A (aUnv B v) v td L Q x).1) (n := en (lfd (gmN A (rS Q x)) (shq A (aUnv B v) Q x) (rH Q x) 0 td x (ufd A (aUnv B v) v td L Q x).1 m)) (hl20 m).1
                have o2 := mN_mono (m := en (ufd A (aUnv B v) v td L Q x).1) (n := en (lfd (gmN A (rS Q x)) (shq A (aUnv B v) Q x) (rH Q x) 0 td x (ufd A (aUnv B v) v td L Q x).1 m)) (hl20 m).1
                have o3 := mK_mono (m := en (lfd (gmN A (rS Q x)) (shq A (aUnv B v) Q x) (rH Q x) 0 td x (ufd A (aUnv B v) v td L Q x).1 m)) (n := en (lfd (gmN A (rS Q x)) (shq A (aUnv B v) Q x) (rH Q x) 0 td x (ufd A (aUnv B v) v td L Q x).1 20)) (en_lfd_mono (by omega))
                have o4 := mN_mono (m := en (lfd (gmN A (rS Q x)) (shq A (aUnv B v) Q x) (rH Q x) 0 td x (ufd A (aUnv B v) v td L Q x).1 m)) (n := en (lfd (gmN A (rS Q x)) (shq A (aUnv B v) Q x) (rH Q x) 0 td x (ufd A (aUnv B v) v td L Q x).1 20)) (en_lfd_mono (by omega))
                refine V_iload E dX11_unvote_80 rfl ?_
                refine V_iload E dX11_unvote_82 rfl ?_
                refine V_ge_no (a := e) (b := cn (gmN A (rS Q x)) 20) (tgt := 156) E dX11_unvote_84 (by decide) (@rfl _ (nI (e))) (@rfl _ (nI (cn (gmN A (rS Q x)) 20))) (by omega) (by omega) ?_
                refine V_bipush (v := 20) E dX11_unvote_87 (by decide) ?_
                refine V_iload_n E dX11_unvote_89 rfl ?_
                refine V_imul E dX11_unvote_90 ?_
                refine V_aload_n E dX11_unvote_91 rfl ?_
                refine V_getR E fl_X11_96 dX11_unvote_92 rfl hM8.o (hM8.r 40 (by decide)) ?_
                refine V_iload E dX11_unvote_95 rfl ?_
                refine V_ia (j := e) E dX11_unvote_97 (hM8.k 40 21 rfl (by decide)) (@rfl _ (nI (e))) (hM8.l 40 20 rfl (by decide)) (by omega) (by decide) ?_
                refine V_cvi (y := nI m) ((congrFun j7 e).trans (by rw [← n3_]; exact hwh m n1_ n2_)) ?_
                refine V_iadd E dX11_unvote_98 ?_
                refine V_cvi (y := nI (((20 * x) + m))) (ni_add (a := (20 * x)) (b := m) (ni_mul (a := 20) (b := x) (rfl : (20 : Int32) = nI 20) (@rfl _ (nI (x)))) (@rfl _ (nI (m)))) ?_
                refine V_istore E dX11_unvote_99 (by decide) rfl ?_
                refine V_aload_n E dX11_unvote_101 rfl ?_
                refine V_getR E fl_X11_36 dX11_unvote_102 rfl hM8.o (hM8.r 14 (by decide)) ?_
                refine V_iload E dX11_unvote_105 rfl ?_
                refine V_la (j := e) E dX11_unvote_107 (hM8.k 14 22 rfl (by decide)) (@rfl _ (nI (e))) (hM8.l 14 60 rfl (by decide)) (by omega) (by decide) ?_
                refine V_cvl (y := lN ((shq A (aUnv B v) Q x) m)) ((congrFun j6 e).trans (by rw [← n3_]; exact hsh m n1_ n2_)) ?_
                refine V_l2i E dX11_unvote_108 rfl ?_
                refine V_cvi (y := nI ((shq A (aUnv B v) Q x) m)) (il_of (@rfl _ (lN ((shq A (aUnv B v) Q x) m)))) ?_
                refine V_aload_n E dX11_unvote_109 rfl ?_
                refine V_getR E fl_X11_78 dX11_unvote_110 rfl hM8.o (hM8.r 34 (by decide)) ?_
                refine V_iload E dX11_unvote_113 rfl ?_
                refine V_ia (j := ((20 * x) + m)) E dX11_unvote_115 (hM8.k 34 21 rfl (by decide)) (@rfl _ (nI (((20 * x) + m)))) (hM8.l 34 2000 rfl (by decide)) (by omega) (by decide) ?_
                refine V_cvi (y := nI (rH Q x m)) hm34 ?_
                refine V_isub E dX11_unvote_116 ?_
                refine V_istore E dX11_unvote_117 (by decide) rfl ?_
                refine V_iload E dX11_unvote_119 rfl ?_
                refine V_if_eq (tgt := 150) E dX11_unvote_121 (by decide) (fun h121 => ?_) (fun h121 => ?_)
                · have g121 : (shq A (aUnv B v) Q x) m = rH Q x m := (nI_d0 hshm hhm).mp h121
                  refine V_iinc (v := nI (e + 1)) E dX11_unvote_150 rfl (ni_inc (a := e) (z := 1) (@rfl _ (nI (e)))) (by decide) rfl ?_
                  refine V_goto (tgt := 80) E dX11_unvote_153 (by decide) ?_
                  refine V_lo (lo' := [some (.ref (0)), some (.int (nI (v))), some (.int (nI (en L))), some (.int (nI (x))), some (.int (nI (cn (gmN A (rS Q x)) 20))), some (.int (nI (e + 1))), none, none]) (And.intro rfl (And.intro rfl (And.intro rfl (And.intro rfl (And.intro rfl (And.intro rfl True.intro)))))) ?_
                  have el : (lfd (gmN A (rS Q x)) (shq A (aUnv B v) Q x) (rH Q x) 0 td x (ufd A (aUnv B v) v td L Q x).1 (m + 1)) = (lfd (gmN A (rS Q x)) (shq A (aUnv B v) Q x) (rH Q x) 0 td x (ufd A (aUnv B v) v td L Q x).1 m) := lfd_0 (Or.inr ⟨by decide, g121⟩)
                  refine ih2 (e + 1) S8 (m + 1) _ _ (by omega) ⟨by omega, by rw [cn_1 n2_]; omega, (by rw [el]; exact j3), j4, j5, j6, j7, ?_, j9, j10, j11⟩ (by rw [el]; exact hk2) (by rw [el]; exact hn2)
                  intro z hz hgz
                  rw [j8 z hz hgz]
                  congr 1
                  by_cases ez : z = m
                  · subst ez; rw [if_neg (by omega), if_pos (by omega), g121]
                  · by_cases e5 : cn (gmN A (rS Q x)) z < e; rw [if_pos e5, if_pos (by omega)]; rw [if_neg e5, if_neg (fun q => ez (cn_inj hgz n2_ (by omega)))]
                · have g121 : (shq A (aUnv B v) Q x) m ≠ rH Q x m := fun z => h121 ((nI_d0 hshm hhm).mpr z)
                  have el : (lfd (gmN A (rS Q x)) (shq A (aUnv B v) Q x) (rH Q x) 0 td x (ufd A (aUnv B v) v td L Q x).1 (m + 1)) = aEnt (lfd (gmN A (rS Q x)) (shq A (aUnv B v) Q x) (rH Q x) 0 td x (ufd A (aUnv B v) v td L Q x).1 m) td x m (nI ((shq A (aUnv B v) Q x) m) - nI (rH Q x m)) := lfd_1 n2_ (Or.inr g121)
                  have een : en (lfd (gmN A (rS Q x)) (shq A (aUnv B v) Q x) (rH Q x) 0 td x (ufd A (aUnv B v) v td L Q x).1 (m + 1)) = en (lfd (gmN A (rS Q x)) (shq A (aUnv B v) Q x) (rH Q x) 0 td x (ufd A (aUnv B v) v td L Q x).1 m) + 1 := by rw [el]; rfl
                  have o5 := mK_mono (m := en (lfd (gmN A (rS Q x)) (shq A (aUnv B v) Q x) (rH Q x) 0 td x (ufd A (aUnv B v) v td L Q x).1 (m + 1))) (n := en (lfd (gmN A (rS Q x)) (shq A (aUnv B v) Q x) (rH Q x) 0 td x (ufd A (aUnv B v) v td L Q x).1 20)) (en_lfd_mono (by omega))
                  have o6 := mN_mono (m := en (lfd (gmN A (rS Q x)) (shq A (aUnv B v) Q x) (rH Q x) 0 td x (ufd A (aUnv B v) v td L Q x).1 (m + 1))) (n := en (lfd (gmN A (rS Q x)) (shq A (aUnv B v) Q x) (rH Q x) 0 td x (ufd A (aUnv B v) v td L Q x).1 20)) (en_lfd_mono (by omega))
                  have o7 := mK_mono (m := en (lfd (gmN A (rS Q x)) (shq A (aUnv B v) Q x) (rH Q x) 0 td x (ufd A (aUnv B v) v td L Q x).1 m)) (n := en (lfd (gmN A (rS Q x)) (shq A (aUnv B v) Q x) (rH Q x) 0 td x (ufd A (aUnv B v) v td L Q x).1 (m + 1))) (by omega)
                  have o8 := mN_mono (m := en (lfd (gmN A (rS Q x)) (shq A (aUnv B v) Q x) (rH Q x) 0 td x (ufd A (aUnv B v) v td L Q x).1 m)) (n := en (lfd (gmN A (rS Q x)) (shq A (aUnv B v) Q x) (rH Q x) 0 td x (ufd A (aUnv B v) v td L Q x).1 (m + 1))) (by omega)
                  rw [een] at o5 o6 o7 o8
                  have q1 : mK (en (lfd (gmN A (rS Q x)) (shq A (aUnv B v) Q x) (rH Q x) 0 td x (ufd A (aUnv B v) v td L Q x).1 m) + 1) - mK (en (lfd (gmN A (rS Q x)) (shq A (aUnv B v) Q x) (rH Q x) 0 td x (ufd A (aUnv B v) v td L Q x).1 m)) = 4 * (gnB 256 (en (lfd (gmN A (rS Q x)) (shq A (aUnv B v) Q x) (rH Q x) 0 td x (ufd A (aUnv B v) v td L Q x).1 m) + 1) - gnB 256 (en (lfd (gmN A (rS Q x)) (shq A (aUnv B v) Q x) (rH Q x) 0 td x (ufd A (aUnv B v) v td L Q x).1 m))) := by unfold mK; omega
                  have q2 : mN (en (lfd (gmN A (rS Q x)) (shq A (aUnv B v) Q x) (rH Q x) 0 td x (ufd A (aUnv B v) v td L Q x).1 m) + 1) - mN (en (lfd (gmN A (rS Q x)) (shq A (aUnv B v) Q x) (rH Q x) 0 td x (ufd A (aUnv B v) v td L Q x).1 m)) = 4 * (512 * 2 ^ gnB 256 (en (lfd (gmN A (rS Q x)) (shq A (aUnv B v) Q x) (rH Q x) 0 td x (ufd A (aUnv B v) v td L Q x).1 m) + 1) - 512 * 2 ^ gnB 256 (en (lfd (gmN A (rS Q x)) (shq A (aUnv B v) Q x) (rH Q x) 0 td x (ufd A (aUnv B v) v td L Q x).1 m))) := by unfold mN; omega
                  have hroomk : k2 + 4 * (gnB 256 (en (lfd (gmN A (rS Q x)) (shq A (aUnv B v) Q x) (rH Q x) 0 td x (ufd A (aUnv B v) v td L Q x).1 m) + 1) - gnB 256 (en (lfd (gmN A (rS Q x)) (shq A (aUnv B v) Q x) (rH Q x) 0 td x (ufd A (aUnv B v) v td L Q x).1 m))) ≤ mK (en (ufd A (aUnv B v) v td L Q (rn Q)).1) - mK (en L) := by omega
                  have hroomn : n2 + 4 * (512 * 2 ^ gnB 256 (en (lfd (gmN A (rS Q x)) (shq A (aUnv B v) Q x) (rH Q x) 0 td x (ufd A (aUnv B v) v td L Q x).1 m) + 1) - 512 * 2 ^ gnB 256 (en (lfd (gmN A (rS Q x)) (shq A (aUnv B v) Q x) (rH Q x) 0 td x (ufd A (aUnv B v) v td L Q x).1 m))) ≤ mN (en (ufd A (aUnv B v) v td L Q (rn Q)).1) - mN (en L) := by omega
                  refine V_aload_n E dX11_unvote_124 rfl ?_
                  refine V_iload_n E dX11_unvote_125 rfl ?_
                  refine V_aload_n E dX11_unvote_126 rfl ?_
                  refine V_getR E fl_X11_96 dX11_unvote_127 rfl hM8.o (hM8.r 40 (by decide)) ?_
                  refine V_iload E dX11_unvote_130 rfl ?_
                  refine V_ia (j := e) E dX11_unvote_132 (hM8.k 40 21 rfl (by decide)) (@rfl _ (nI (e))) (hM8.l 40 20 rfl (by decide)) (by omega) (by decide) ?_
                  refine V_cvi (y := nI m) ((congrFun j7 e).trans (by rw [← n3_]; exact hwh m n1_ n2_)) ?_
                  refine V_iload E dX11_unvote_133 rfl ?_
                  refine V_callV E (cm_enter (x_l X) d S8 hM8 (lfd (gmN A (rS Q x)) (shq A (aUnv B v) Q x) (rH Q x) 0 td x (ufd A (aUnv B v) v td L Q x).1 m) j3 (by have := (hl20 m).2; omega) td (((j4.1 0 (by decide) (by decide)).trans ((hpf.q.1 0 (by decide) (by decide)).trans (ef.1 0 (by decide) (by decide)))).trans ht) x m n1_ (nI ((shq A (aUnv B v) Q x) m) - nI (rH Q x m))) ml_X11_241 mv_X11_enter hM8.o dX11_unvote_135 rfl (by simp [Value.category]) (by omega) hroomk hroomn (fun r S9 hp => ?_)
                  obtain ⟨rfl, l1, l2⟩ := hp
                  have l3 := l2.2.2.2.2.2
                  have hM9 := l2.ok hM8
                  refine V_aload_n E dX11_unvote_138 rfl ?_
                  refine V_getR E fl_X11_78 dX11_unvote_139 rfl hM9.o (hM9.r 34 (by decide)) ?_
                  refine V_iload E dX11_unvote_142 rfl ?_
                  refine V_dup2 E dX11_unvote_144 rfl rfl ?_
                  refine V_ia (j := ((20 * x) + m)) E dX11_unvote_145 (hM9.k 34 21 rfl (by decide)) (@rfl _ (nI (((20 * x) + m)))) (hM9.l 34 2000 rfl (by decide)) (by omega) (by decide) ?_
                  refine V_iload E dX11_unvote_146 rfl ?_
                  refine V_iadd E dX11_unvote_148 ?_
                  refine V_cvi (y := nI ((shq A (aUnv B v) Q x) m)) ((congrArg (fun z => z + (nI ((shq A (aUnv B v) Q x) m) - nI (rH Q x m))) ((congrFun (l3.aI (g := 34) (by omega)) _).trans hm34)).trans (nI_back _ _)) ?_
                  refine V_ias (j := ((20 * x) + m)) E dX11_unvote_149 (hM9.k 34 21 rfl (by decide)) (@rfl _ (nI (((20 * x) + m)))) (hM9.l 34 2000 rfl (by decide)) (by omega) (by decide) ?_
                  refine V_iinc (v := nI (e + 1)) E dX11_unvote_150 rfl (ni_inc (a := e) (z := 1) (@rfl _ (nI (e)))) (by decide) rfl ?_
                  refine V_goto (tgt := 80) E dX11_unvote_153 (by decide) ?_
                  refine V_lo (lo' := [some (.ref (0)), some (.int (nI (v))), some (.int (nI (en L))), some (.int (nI (x))), some (.int (nI (cn (gmN A (rS Q x)) 20))), some (.int (nI (e + 1))), none, none]) (And.intro rfl (And.intro rfl (And.intro rfl (And.intro rfl (And.intro rfl (And.intro rfl True.intro)))))) ?_
                  refine ih2 (e + 1) (sA S9 34 (20 * x + m) (nI ((shq A (aUnv B v) Q x) m))) (m + 1) _ _ (by omega) ⟨by omega, by rw [cn_1 n2_]; omega, (by rw [el]; exact MLd.A (by decide) l1), (j4.trans l2.q).trans (MQf.A (by decide)), (fun g ga gb => (show up2 (aI S9) 34 (20 * x + m) (nI ((shq A (aUnv B v) Q x) m)) g = aI S9 g from up2_row (by omega)).trans ((l3.aI (by omega)).trans (j5 g ga gb))), (l3.aJ (by omega)).trans j6, (show up2 (aI S9) 34 (20 * x + m) (nI ((shq A (aUnv B v) Q x) m)) 40 = aI S9 40 from up2_row (by decide)).trans ((l3.aI (by omega)).trans j7), ?_, ?_, (l2.1 2 (by decide)).trans j10, (congrFun l2.2.1 5).trans j11⟩ (by rw [een]; omega) (by rw [een]; omega)
                  · intro z hz hgz
                    show up2 (aI S9) 34 (20 * x + m) (nI ((shq A (aUnv B v) Q x) m)) 34 (20 * x + z) = _
                    by_cases ez : z = m
                    · subst ez; rw [up2_at, if_pos (by omega)]
                    · rw [up2_nk (by omega), l3.aI (by omega), j8 z hz hgz]; congr 1; by_cases e5 : cn (gmN A (rS Q x)) z < e; rw [if_pos e5, if_pos (by omega)]; rw [if_neg e5, if_neg (fun q => ez (cn_inj hgz n2_ (by omega)))]
                  · intro j hj
                    show up2 (aI S9) 34 (20 * x + m) (nI ((shq A (aUnv B v) Q x) m)) 34 j = _
                    rw [up2_nk (by omega), l3.aI (by omega)]; exact j9 j hj
            refine V_lo (lo' := [some (.ref (0)), some (.int (nI (v))), some (.int (nI (en L))), some (.int (nI (x))), some (.int (nI (cn (gmN A (rS Q x)) 20))), some (.int (0)), none, none]) (And.intro rfl (And.intro rfl (And.intro rfl (And.intro rfl (And.intro rfl (And.intro rfl True.intro)))))) ?_
            exact lp (cn (gmN A (rS Q x)) 20) 0 S7 0 _ _ (by omega) ⟨by omega, rfl, MLd.p hpf i1, MQf.rfl' S7, fun _ _ _ => rfl, rfl, rfl, fun m hm hg => by rw [if_neg (Nat.not_lt_zero _), hpf.2.2.2.2.2.1 34 (by decide) (by decide) (by decide)]; exact q34 m hm hg, fun j _ => by rw [hpf.2.2.2.2.2.1 34 (by decide) (by decide) (by decide)], by rw [hpf.2.2.2.1], by rw [hpf.2.2.2.2.1]; exact i4⟩ (by rw [hk1]; rfl) (by rw [hn1]; rfl)
          · have g54 : ¬ rV Q x = some v := fun z => h54 ((an_eq (by omega) (fun u hu => by have := c7 u hu; omega)).mpr z)
            refine V_goto (tgt := 156) E dX11_unvote_57 (by decide) ?_
            refine V_iinc (v := nI (x + 1)) E dX11_unvote_156 rfl (ni_inc (a := x) (z := 1) (@rfl _ (nI (x)))) (by decide) rfl ?_
            refine V_goto (tgt := 39) E dX11_unvote_159 (by decide) ?_
            refine V_lo (lo' := [some (.ref (0)), some (.int (nI (v))), some (.int (nI (en L))), some (.int (nI (x + 1))), none, none, none, none]) (And.intro rfl (And.intro rfl (And.intro rfl (And.intro rfl True.intro)))) ?_
            have eu : (ufd A (aUnv B v) v td L Q (x + 1)) = (ufd A (aUnv B v) v td L Q x) := ufd_0 g54
            exact ih (x + 1) S6 _ _ (by omega) ⟨(by rw [eu]; exact i1), (by rw [eu]; exact i2), ef, i4⟩ (by rw [eu]; exact hk1) (by rw [eu]; exact hn1)
      refine V_lo (lo' := [some (.ref (0)), some (.int (nI (v))), some (.int (nI (en L))), some (.int (0)), none, none, none, none]) (And.intro rfl (And.intro rfl (And.intro rfl (And.intro rfl True.intro)))) ?_
      exact loop (rn Q) 0 (sA S 23 v 1) _ _ (by omega) ⟨hL.g, hR.g, MQf.rfl' _, rfl⟩ (Nat.sub_self _).symm (Nat.sub_self _).symm
    · have g : ¬ (wi_ (nI v) 0 ((bn B : Int) - 1) ∧ bG B v = 0) := fun z => h20 ((hV.G v hv).trans (by rw [z.2]; rfl))
      refine V_iconst (v := -1) E dX11_unvote_23 (by decide) ?_
      exact V_iret E R dX11_unvote_24 rfl (by omega) (by omega) (Or.inr ⟨g, rfl, rfl⟩)
