theorem nI_d0 {a b : Nat} (ha : a ≤ 1000000) (hb : b ≤ 1000000) : nI a - nI b = 0 ↔ a = b := by
  rw [fa_eq, pk_sub_toInt (by omega) (by omega), show ((0 : Int32)).toInt = 0 from rfl]
  omega

set_option maxHeartbeats 8000000 in
theorem cy_settle (l : Launch) (d : Nat) (S : GS) (A : AV) (t : Nat) (hO : VOK A t) (hY : YVes S A) (B : AB) (hB : BOK B) (hQ : YOK S) (hV : YVo S B) (L : AL) (hL : YLd S L) (hn : en L + 20 < 102400) (x s q c td dd fi : Nat) (h : Nat → Nat) (hx : x < 100) (hs : s < vn A) (hdr : 0 < vdry A s) (hq : q ≤ 3) (hc : c ≤ 1000000) (hdd : dd ≤ 600) (hfi : fi ≤ 1) (hh : ∀ m, m < 20 → h m ≤ 1000000 ∧ (gmN A s m = 0 → h m = 0)) (p1 : rf S 213 x = some (6000 + x)) (p2 : kd S (6000 + x) = 3 + 1) (p3 : rf S (6000 + x) 0 = some (1000 + s)) (p4 : rf S (6000 + x) 4 = some (7000 + x)) (p5 : kd S (7000 + x) = 21) (p6 : ln S (7000 + x) = 20) (f1 : fI S (6000 + x) 1 = nI q) (f2 : fI S (6000 + x) 2 = nI c) (f3 : fI S (6000 + x) 3 = nI dd) (f7 : ∀ m, m < 20 → aI S (7000 + x) m = nI (h m)) : GC l (d + 5) yX4_settle cX4_settle 9 none [.ref 212, .int (nI x), .ref 207, .int (nI td), .int (nI fi)] S (fun r S2 => r = none ∧ YLd S2 (lfd (gmN A s) (shr A B s q (inF B dd) c) h fi td x L 20) ∧ fI S2 (6000 + x) 5 = an (inF B dd) ∧ (∀ m, m < 20 → aI S2 (7000 + x) m = nI ((shr A B s q (inF B dd) c) m)) ∧ YSf S S2 x) (yK (en (lfd (gmN A s) (shr A B s q (inF B dd) c) h fi td x L 20)) - yK (en L)) (yN (en (lfd (gmN A s) (shr A B s q (inF B dd) c) h fi td x L 20)) - yN (en L)) := by
  refine GC.ofV (by decide) (Nat.le_of_ble_eq_true rfl) (fun X hl E R hnm => ?_)
  subst hl
  have E : En X RX4 cX4_settle 9 (d + 5) (yK (en (lfd (gmN A s) (shr A B s q (inF B dd) c) h fi td x L 20)) - yK (en L)) (yN (en (lfd (gmN A s) (shr A B s q (inF B dd) c) h fi td x L 20)) - yN (en L)) := E
  have R : Rt X none (fun r S2 => r = none ∧ YLd S2 (lfd (gmN A s) (shr A B s q (inF B dd) c) h fi td x L 20) ∧ fI S2 (6000 + x) 5 = an (inF B dd) ∧ (∀ m, m < 20 → aI S2 (7000 + x) m = nI ((shr A B s q (inF B dd) c) m)) ∧ YSf S S2 x) := R
  have hvn := hO.1
  have hbn := hB.1
  have hl20 := lfd_le (g := gmN A s) (sh := (shr A B s q (inF B dd) c)) (h := h) (fi := fi) (td := td) (x := x) (L := L)
  refine V_aload_n E dX4_settle_0 rfl ?_
  refine V_getR E fl_X4_11 dX4_settle_1 rfl (hQ.k 212 5 rfl (by decide)) (hQ.r 212 0 213 rfl) ?_
  refine V_iload_n E dX4_settle_4 rfl ?_
  refine V_aa (j := x) E dX4_settle_5 (hQ.k 213 27 rfl (by decide)) (by decide) (@rfl _ (nI (x))) (hQ.l 213 100 rfl (by decide)) (by omega) (by decide) p1 ?_
  refine V_astore E dX4_settle_6 (by decide) rfl ?_
  refine V_aload E dX4_settle_8 rfl ?_
  refine V_aload_n E dX4_settle_10 rfl ?_
  refine V_aload E dX4_settle_11 rfl ?_
  refine V_getIN E fn_X4_54 dX4_settle_13 rfl p2 ?_
  refine V_cvi f3 ?_
  refine V_callV E (cy_inForce (x_l X) d S B hB hQ hV dd (by omega)) ml_X4_57 mv_X9_inForce (hQ.k 207 10 rfl (by decide)) dX4_settle_16 rfl (by simp [Value.category]) (by omega) (by omega) (by omega) (fun r S2 hp => ?_)
  obtain ⟨rfl, hS2⟩ := hp
  obtain rfl := hS2.symm
  refine V_putIN E fn_X4_51 dX4_settle_19 rfl p2 ⟨rfl, rfl⟩ rfl ?_
  have e1 := YSf.V S x (an (inF B dd))
  have d0 := hdr
  refine V_aload_n E dX4_settle_22 rfl ?_
  refine V_aload E dX4_settle_23 rfl ?_
  refine V_aload_n E dX4_settle_25 rfl ?_
  refine V_callV E (cy_measure (x_l X) d (sI S (6000 + x) 5 (an (inF B dd))) A t hO (e1.ves hvn hY) B hB (e1.2.1 hQ) (e1.vot hbn hV) x s q hs hq (inF B dd) cy_inF p2 p3 ((e1.2.2.1.2.2 1 (by decide)).trans f1) (show up2 (fI S) (6000 + x) 5 (an (inF B dd)) (6000 + x) 5 = _ from up2_at)) ml_X4_63 mv_X4_measure (hQ.k 212 5 rfl (by decide)) dX4_settle_26 rfl (by simp [Value.category]) (by omega) (by omega) (by omega) (fun r S3 hp => ?_)
  obtain ⟨rfl, mf, ms⟩ := hp
  have e2 := e1.trans (mf.s x)
  have b6 := mf.big (g := 6000 + x) (by omega)
  have b7 := mf.big (g := 7000 + x) (by omega)
  have hQ3 := e2.2.1 hQ
  refine V_aload_n E dX4_settle_29 rfl ?_
  refine V_getR E fl_X4_24 dX4_settle_30 rfl (hQ3.k 212 5 rfl (by decide)) (hQ3.r 212 2 215 rfl) ?_
  refine V_aload E dX4_settle_33 rfl ?_
  refine V_getIN E fn_X4_67 dX4_settle_35 rfl (e2.2.2.1.1.trans p2) ?_
  refine V_cvi (y := nI c) ((e2.2.2.1.2.2 2 (by decide)).trans f2) ?_
  refine V_aload_n E dX4_settle_38 rfl ?_
  refine V_getR E fl_X4_17 dX4_settle_39 rfl (hQ3.k 212 5 rfl (by decide)) (hQ3.r 212 1 214 rfl) ?_
  refine V_callV E (cy_divide (x_l X) d S3 215 216 217 214 ⟨hQ3.k 215 2 rfl (by decide), hQ3.r 215 0 216 rfl, hQ3.r 215 1 217 rfl, hQ3.k 216 21 rfl (by decide), hQ3.l 216 60 rfl (by decide), hQ3.k 217 22 rfl (by decide), hQ3.l 217 60 rfl (by decide)⟩ (hQ3.k 214 21 rfl (by decide)) 20 (hQ3.l 214 20 rfl (by decide)) (by decide) (by decide) c (mz1 A B s q (inF B dd)) ms (fun k hk => mz1_le hO hs hk) hc) ml_X4_70 mv_X1_divide (hQ3.k 215 2 rfl (by decide)) dX4_settle_42 rfl (by simp [Value.category]) (by omega) (by omega) (by omega) (fun r S2 hp => ?_)
  obtain ⟨rfl, f9, h9, rfl, hsh, -⟩ := hp
  have hsh := hsh (mz1_pos hdr)
  have e3 := e2.trans (YSf.D2 S3 x f9 h9)
  refine V_astore E dX4_settle_45 (by decide) rfl ?_
  refine V_iconst (v := 0) E dX4_settle_47 (by decide) ?_
  refine V_istore E dX4_settle_48 (by decide) rfl ?_
  have loop : ∀ k p S6 k1 n1, p + k = 20 → (YLd S6 (lfd (gmN A s) (shr A B s q (inF B dd) c) h fi td x L p) ∧ YSf S S6 x ∧ fI S6 (6000 + x) 5 = an (inF B dd) ∧ (∀ m, m < 20 → aI S6 216 m = nI ((shr A B s q (inF B dd) c) m)) ∧ ∀ m, m < 20 → aI S6 (7000 + x) m = nI (if m < p then (shr A B s q (inF B dd) c) m else h m)) → k1 = yK (en (lfd (gmN A s) (shr A B s q (inF B dd) c) h fi td x L p)) - yK (en L) → n1 = yN (en (lfd (gmN A s) (shr A B s q (inF B dd) c) h fi td x L p)) - yN (en L) → V X 50 [some (.ref (212)), some (.int (nI (x))), some (.ref (207)), some (.int (nI (td))), some (.int (nI (fi))), some (.ref (6000 + x)), some (.ref (216)), some (.int (nI (p))), none] [] S6 k1 n1 := by
    intro k
    induction k with
    | zero =>
      intro p S6 k1 n1 hp hi hk1 hn1
      have ep : p = 20 := by omega
      subst ep
      obtain ⟨i1, ef, i3, i4, i5⟩ := hi
      refine V_iload E dX4_settle_50 rfl ?_
      refine V_bipush (v := 20) E dX4_settle_52 (by decide) ?_
      refine V_ge_yes (a := 20) (b := 20) (tgt := 128) E dX4_settle_54 (by decide) (@rfl _ (nI (20))) (rfl : (20 : Int32) = nI 20) (by omega) (by omega) ?_
      exact V_vret E R dX4_settle_128 (Nat.le_of_eq hk1) (Nat.le_of_eq hn1) ⟨rfl, i1, i3, fun m hm => by rw [i5 m hm, if_pos hm], ef⟩
    | succ k ih =>
      intro p S6 k1 n1 hp hi hk1 hn1
      obtain ⟨i1, ef, i3, i4, i5⟩ := hi
      have hQ6 := ef.2.1 hQ
      have p20 : p < 20 := by omega
      have u1 := yK_mono (m := en (lfd (gmN A s) (shr A B s q (inF B dd) c) h fi td x L p)) (n := en (lfd (gmN A s) (shr A B s q (inF B dd) c) h fi td x L 20)) (en_lfd_mono (by omega))
      have u2 := yN_mono (m := en (lfd (gmN A s) (shr A B s q (inF B dd) c) h fi td x L p)) (n := en (lfd (gmN A s) (shr A B s q (inF B dd) c) h fi td x L 20)) (en_lfd_mono (by omega))
      have hsp := shr_le (B := B) (q := q) (o := (inF B dd)) (c := c) hdr p20
      have hhp := hh p p20
      have hgm := gm_le hO hs p20
      have J96 : ¬ gmN A s p = 0 → (fi = 1 ∨ (shr A B s q (inF B dd) c) p ≠ h p) → V X 96 [some (.ref (212)), some (.int (nI (x))), some (.ref (207)), some (.int (nI (td))), some (.int (nI (fi))), some (.ref (6000 + x)), some (.ref (216)), some (.int (nI (p))), some (.int ((nI ((shr A B s q (inF B dd) c) p) - nI (h p))))] [] S6 k1 n1 := by
        intro gz gw
        have el : (lfd (gmN A s) (shr A B s q (inF B dd) c) h fi td x L (p + 1)) = aEnt (lfd (gmN A s) (shr A B s q (inF B dd) c) h fi td x L p) td x p (nI ((shr A B s q (inF B dd) c) p) - nI (h p)) := lfd_1 gz gw
        have een : en (lfd (gmN A s) (shr A B s q (inF B dd) c) h fi td x L (p + 1)) = en (lfd (gmN A s) (shr A B s q (inF B dd) c) h fi td x L p) + 1 := by rw [el]; rfl
        have o1 := yK_mono (hl20 p).1
        have o2 := yN_mono (hl20 p).1
        have o3 := yK_mono (m := en (lfd (gmN A s) (shr A B s q (inF B dd) c) h fi td x L (p + 1))) (n := en (lfd (gmN A s) (shr A B s q (inF B dd) c) h fi td x L 20)) (en_lfd_mono (by omega))
        have o4 := yN_mono (m := en (lfd (gmN A s) (shr A B s q (inF B dd) c) h fi td x L (p + 1))) (n := en (lfd (gmN A s) (shr A B s q (inF B dd) c) h fi td x L 20)) (en_lfd_mono (by omega))
        have o5 := yK_mono (m := en (lfd (gmN A s) (shr A B s q (inF B dd) c) h fi td x L p)) (n := en (lfd (gmN A s) (shr A B s q (inF B dd) c) h fi td x L (p + 1))) (by omega)
        have o6 := yN_mono (m := en (lfd (gmN A s) (shr A B s q (inF B dd) c) h fi td x L p)) (n := en (lfd (gmN A s) (shr A B s q (inF B dd) c) h fi td x L (p + 1))) (by omega)
        rw [een] at o3 o4 o5 o6
        have q1 : yK (en (lfd (gmN A s) (shr A B s q (inF B dd) c) h fi td x L p) + 1) - yK (en (lfd (gmN A s) (shr A B s q (inF B dd) c) h fi td x L p)) = gnB 32 (en (lfd (gmN A s) (shr A B s q (inF B dd) c) h fi td x L p) + 1) - gnB 32 (en (lfd (gmN A s) (shr A B s q (inF B dd) c) h fi td x L p)) := rfl
        have q2 : yN (en (lfd (gmN A s) (shr A B s q (inF B dd) c) h fi td x L p) + 1) - yN (en (lfd (gmN A s) (shr A B s q (inF B dd) c) h fi td x L p)) = 256 * 2 ^ gnB 32 (en (lfd (gmN A s) (shr A B s q (inF B dd) c) h fi td x L p) + 1) - 256 * 2 ^ gnB 32 (en (lfd (gmN A s) (shr A B s q (inF B dd) c) h fi td x L p)) := rfl
        have hroomk : k1 + (gnB 32 (en (lfd (gmN A s) (shr A B s q (inF B dd) c) h fi td x L p) + 1) - gnB 32 (en (lfd (gmN A s) (shr A B s q (inF B dd) c) h fi td x L p))) ≤ yK (en (lfd (gmN A s) (shr A B s q (inF B dd) c) h fi td x L 20)) - yK (en L) := by omega
        have hroomn : n1 + (256 * 2 ^ gnB 32 (en (lfd (gmN A s) (shr A B s q (inF B dd) c) h fi td x L p) + 1) - 256 * 2 ^ gnB 32 (en (lfd (gmN A s) (shr A B s q (inF B dd) c) h fi td x L p))) ≤ yN (en (lfd (gmN A s) (shr A B s q (inF B dd) c) h fi td x L 20)) - yN (en L) := by omega
        refine V_aload_n E dX4_settle_96 rfl ?_
        refine V_getR E fl_X4_31 dX4_settle_97 rfl (hQ6.k 212 5 rfl (by decide)) (hQ6.r 212 3 218 rfl) ?_
        refine V_iload_n E dX4_settle_100 rfl ?_
        refine V_iload_n E dX4_settle_101 rfl ?_
        refine V_iload E dX4_settle_102 rfl ?_
        refine V_iload E dX4_settle_104 rfl ?_
        refine V_callV E (cy_write (x_l X) d S6 hQ6 (lfd (gmN A s) (shr A B s q (inF B dd) c) h fi td x L p) i1 (by have := (hl20 p).2; omega) td x p p20 (nI ((shr A B s q (inF B dd) c) p) - nI (h p))) ml_X4_86 mv_X0_write (hQ6.k 218 1 rfl (by decide)) dX4_settle_106 rfl (by simp [Value.category]) (by omega) hroomk hroomn (fun r S7 hp => ?_)
        obtain ⟨rfl, j1, j2⟩ := hp
        have ef7 := ef.trans (j2.s x)
        refine V_aload E dX4_settle_109 rfl ?_
        refine V_getRN E fn_X4_74 dX4_settle_111 rfl (ef7.2.2.1.1.trans p2) ((congrFun ef7.2.2.1.2.1 4).trans p4) ?_
        refine V_iload E dX4_settle_114 rfl ?_
        refine V_aload E dX4_settle_116 rfl ?_
        refine V_iload E dX4_settle_118 rfl ?_
        refine V_ia (j := p) E dX4_settle_120 ((ef7.2.1 hQ).k 216 21 rfl (by decide)) (@rfl _ (nI (p))) ((ef7.2.1 hQ).l 216 60 rfl (by decide)) (by omega) (by decide) ?_
        refine V_cvi (y := nI ((shr A B s q (inF B dd) c) p)) ((congrFun (j2.1.aI (g := 216) (by unfold dLed; omega)) p).trans (i4 p p20)) ?_
        refine V_ias (j := p) E dX4_settle_121 (ef7.2.2.2.1.trans p5) (@rfl _ (nI (p))) (ef7.2.2.2.2.trans p6) (by omega) (by decide) ?_
        refine V_iinc (v := nI (p + 1)) E dX4_settle_122 rfl (ni_inc (a := p) (z := 1) (@rfl _ (nI (p)))) (by decide) rfl ?_
        refine V_goto (tgt := 50) E dX4_settle_125 (by decide) ?_
        refine V_lo (lo' := [some (.ref (212)), some (.int (nI (x))), some (.ref (207)), some (.int (nI (td))), some (.int (nI (fi))), some (.ref (6000 + x)), some (.ref (216)), some (.int (nI (p + 1))), none]) (And.intro rfl (And.intro rfl (And.intro rfl (And.intro rfl (And.intro rfl (And.intro rfl (And.intro rfl (And.intro rfl True.intro)))))))) ?_
        refine ih (p + 1) (sA S7 (7000 + x) p (nI ((shr A B s q (inF B dd) c) p))) _ _ (by omega) ⟨(by rw [el]; exact YLd.fr (D := fun g => g = 7000 + x) (YSm.A rfl) (fun g hg => by unfold dLed at hg; omega) j1), ef7.trans (YSf.H S7 x p _), ?_, ?_, ?_⟩ (by rw [een]; omega) (by rw [een]; omega)
        · exact (congrFun (j2.1.fI (g := 6000 + x) (by unfold dLed; omega)) 5).trans i3
        · intro m hm; show up2 (aI S7) (7000 + x) p (nI ((shr A B s q (inF B dd) c) p)) 216 m = _; rw [up2_ne (by omega), j2.1.aI (g := 216) (by unfold dLed; omega)]; exact i4 m hm
        · intro m hm; show up2 (aI S7) (7000 + x) p (nI ((shr A B s q (inF B dd) c) p)) (7000 + x) m = _
          by_cases em : m = p
          · subst em; rw [up2_at, if_pos (by omega)]
          · rw [up2_nk em, j2.1.aI (g := 7000 + x) (by unfold dLed; omega), i5 m hm]; congr 1; by_cases e5 : m < p; rw [if_pos e5, if_pos (by omega)]; rw [if_neg e5, if_neg (by omega)]
      refine V_iload E dX4_settle_50 rfl ?_
      refine V_bipush (v := 20) E dX4_settle_52 (by decide) ?_
      refine V_ge_no (a := p) (b := 20) (tgt := 128) E dX4_settle_54 (by decide) (@rfl _ (nI (p))) (rfl : (20 : Int32) = nI 20) (by omega) (by omega) ?_
      refine V_aload E dX4_settle_57 rfl ?_
      refine V_iload E dX4_settle_59 rfl ?_
      refine V_ia (j := p) E dX4_settle_61 (hQ6.k 216 21 rfl (by decide)) (@rfl _ (nI (p))) (hQ6.l 216 60 rfl (by decide)) (by omega) (by decide) ?_
      refine V_aload E dX4_settle_62 rfl ?_
      refine V_getRN E fn_X4_74 dX4_settle_64 rfl (ef.2.2.1.1.trans p2) ((congrFun ef.2.2.1.2.1 4).trans p4) ?_
      refine V_iload E dX4_settle_67 rfl ?_
      refine V_ia (j := p) E dX4_settle_69 (ef.2.2.2.1.trans p5) (@rfl _ (nI (p))) (ef.2.2.2.2.trans p6) (by omega) (by decide) ?_
      refine V_isub E dX4_settle_70 ?_
      refine V_cvi (y := (nI ((shr A B s q (inF B dd) c) p) - nI (h p))) (congr (congrArg (fun a b => a - b) (i4 p p20)) ((i5 p p20).trans (congrArg nI (if_neg (Nat.lt_irrefl p))))) ?_
      refine V_istore E dX4_settle_71 (by decide) rfl ?_
      refine V_iload E dX4_settle_73 rfl ?_
      refine V_if_ne (tgt := 96) E dX4_settle_75 (by decide) (fun h75 => ?_) (fun h75 => ?_)
      · have gw2 : (shr A B s q (inF B dd) c) p ≠ h p := fun z => h75 ((nI_d0 (by omega) hhp.1).mpr z)
        have gz : ¬ gmN A s p = 0 := fun z => gw2 ((shr_0 hdr p20 z).trans (hhp.2 z).symm)
        have gw : fi = 1 ∨ (shr A B s q (inF B dd) c) p ≠ h p := Or.inr gw2
        exact J96 gz gw
      · have g75 : (shr A B s q (inF B dd) c) p = h p := (nI_d0 (by omega) hhp.1).mp h75
        refine V_iload E dX4_settle_78 rfl ?_
        refine V_if_eq (tgt := 122) E dX4_settle_80 (by decide) (fun h80 => ?_) (fun h80 => ?_)
        · have g80 : fi = 0 := (nI_eq (a := fi) (b := 0) (by omega) (by omega)).mp h80
          have gs : gmN A s p = 0 ∨ (fi ≠ 1 ∧ (shr A B s q (inF B dd) c) p = h p) := Or.inr ⟨by omega, g75⟩
          refine V_iinc (v := nI (p + 1)) E dX4_settle_122 rfl (ni_inc (a := p) (z := 1) (@rfl _ (nI (p)))) (by decide) rfl ?_
          refine V_goto (tgt := 50) E dX4_settle_125 (by decide) ?_
          refine V_lo (lo' := [some (.ref (212)), some (.int (nI (x))), some (.ref (207)), some (.int (nI (td))), some (.int (nI (fi))), some (.ref (6000 + x)), some (.ref (216)), some (.int (nI (p + 1))), none]) (And.intro rfl (And.intro rfl (And.intro rfl (And.intro rfl (And.intro rfl (And.intro rfl (And.intro rfl (And.intro rfl True.intro)))))))) ?_
          have el : (lfd (gmN A s) (shr A B s q (inF B dd) c) h fi td x L (p + 1)) = (lfd (gmN A s) (shr A B s q (inF B dd) c) h fi td x L p) := lfd_0 gs
          exact ih (p + 1) S6 _ _ (by omega) ⟨(by rw [el]; exact i1), ef, i3, i4, fun m hm => by rw [i5 m hm]; congr 1; by_cases em : m = p; subst em; rw [if_neg (by omega), if_pos (by omega), g75]; by_cases e5 : m < p; rw [if_pos e5, if_pos (by omega)]; rw [if_neg e5, if_neg (by omega)]⟩ (by rw [el]; exact hk1) (by rw [el]; exact hn1)
        · have g80 : fi = 1 := by rcases Nat.eq_zero_or_pos fi with z | z; exact absurd (by rw [z]; rfl) h80; omega
          refine V_aload E dX4_settle_83 rfl ?_
          refine V_getRN E fn_X4_77 dX4_settle_85 rfl (ef.2.2.1.1.trans p2) ((congrFun ef.2.2.1.2.1 0).trans p3) ?_
          refine V_iload E dX4_settle_88 rfl ?_
          refine V_callV E (cy_dryOfMember (x_l X) d S6 A t hO (ef.ves hvn hY) s hs p p20) ml_X4_81 mv_X7_dryOfMember ((ef.ves hvn hY).ok s hs) dX4_settle_90 rfl (by simp [Value.category]) (by omega) (by omega) (by omega) (fun r S2 hp => ?_)
          obtain ⟨rfl, hS2⟩ := hp
          obtain rfl := hS2.symm
          refine V_if_le (tgt := 122) E dX4_settle_93 (by decide) (fun h93 => ?_) (fun h93 => ?_)
          · have g93 : gmN A s p = 0 := by have := (nI_leI (a := gmN A s p) (b := 0) (by omega) (by omega)).mp h93; omega
            have gs : gmN A s p = 0 ∨ (fi ≠ 1 ∧ (shr A B s q (inF B dd) c) p = h p) := Or.inl g93
            refine V_iinc (v := nI (p + 1)) E dX4_settle_122 rfl (ni_inc (a := p) (z := 1) (@rfl _ (nI (p)))) (by decide) rfl ?_
            refine V_goto (tgt := 50) E dX4_settle_125 (by decide) ?_
            refine V_lo (lo' := [some (.ref (212)), some (.int (nI (x))), some (.ref (207)), some (.int (nI (td))), some (.int (nI (fi))), some (.ref (6000 + x)), some (.ref (216)), some (.int (nI (p + 1))), none]) (And.intro rfl (And.intro rfl (And.intro rfl (And.intro rfl (And.intro rfl (And.intro rfl (And.intro rfl (And.intro rfl True.intro)))))))) ?_
            have el : (lfd (gmN A s) (shr A B s q (inF B dd) c) h fi td x L (p + 1)) = (lfd (gmN A s) (shr A B s q (inF B dd) c) h fi td x L p) := lfd_0 gs
            exact ih (p + 1) S6 _ _ (by omega) ⟨(by rw [el]; exact i1), ef, i3, i4, fun m hm => by rw [i5 m hm]; congr 1; by_cases em : m = p; subst em; rw [if_neg (by omega), if_pos (by omega), g75]; by_cases e5 : m < p; rw [if_pos e5, if_pos (by omega)]; rw [if_neg e5, if_neg (by omega)]⟩ (by rw [el]; exact hk1) (by rw [el]; exact hn1)
          · have gz : ¬ gmN A s p = 0 := fun z => h93 (by rw [z]; decide)
            have gw : fi = 1 ∨ (shr A B s q (inF B dd) c) p ≠ h p := Or.inl g80
            exact J96 gz gw
  refine V_lo (lo' := [some (.ref (212)), some (.int (nI (x))), some (.ref (207)), some (.int (nI (td))), some (.int (nI (fi))), some (.ref (6000 + x)), some (.ref (216)), some (.int (0)), none]) (And.intro rfl (And.intro rfl (And.intro rfl (And.intro rfl (And.intro rfl (And.intro rfl (And.intro rfl (And.intro rfl True.intro)))))))) ?_
  refine loop 20 0 _ _ _ (by omega) ⟨?_, e3, ?_, ?_, ?_⟩ (Nat.sub_self _).symm (Nat.sub_self _).symm
  · exact YLd.fr (D := fun g => g = 216 ∨ g = 217) ((YSm.rA (Or.inl rfl)).trans (YSm.rL (Or.inr rfl))) (fun g hg => by unfold dLed at hg; omega) (YLd.fr mf.1 (fun g hg => by unfold dLed at hg; unfold dMea; omega) (YLd.fr (D := fun g => g = 6000 + x) (YSm.I rfl) (fun g hg => by unfold dLed at hg; omega) hL))
  · exact (congrFun b6.2.2.2.1 5).trans (show up2 (fI S) (6000 + x) 5 (an (inF B dd)) (6000 + x) 5 = _ from up2_at)
  · intro m hm; rw [D2_f, hsh m (by omega), if_pos hm]; rfl
  · intro m hm; rw [D2_m (by omega), b7.2.2.2.2, if_neg (Nat.not_lt_zero _)]; exact f7 m hm
