set_option maxHeartbeats 4000000 in
theorem cy_measure (l : Launch) (d : Nat) (S : GS) (A : AV) (t : Nat) (hO : VOK A t) (hY : YVes S A) (B : AB) (hB : BOK B) (hQ : YOK S) (hV : YVo S B) (x s q : Nat) (hs : s < vn A) (hq : q ≤ 3) (o : Option Nat) (ho : ∀ v, o = some v → v < bn B) (k6 : kd S (6000 + x) = 3 + 1) (r6 : rf S (6000 + x) 0 = some (1000 + s)) (g6 : fI S (6000 + x) 1 = nI q) (v6 : fI S (6000 + x) 5 = an o) : GC l (d + 4) yX4_measure cX4_measure 5 none [.ref 212, .ref (6000 + x), .ref 207] S (fun r S2 => r = none ∧ YMf S S2 ∧ ∀ m, m < 20 → aI S2 214 m = nI (mz1 A B s q o m)) (0) (0) := by
  refine GC.ofV (by decide) (Nat.le_of_ble_eq_true rfl) (fun X hl E R hnm => ?_)
  subst hl
  have E : En X RX4 cX4_measure 5 (d + 4) (0) (0) := E
  have R : Rt X none (fun r S2 => r = none ∧ YMf S S2 ∧ ∀ m, m < 20 → aI S2 214 m = nI (mz1 A B s q o m)) := R
  have hvn := hO.1
  have hbn := hB.1
  refine V_iconst (v := 1) E dX4_measure_0 (by decide) ?_
  refine V_istore_n E dX4_measure_1 (by decide) rfl ?_
  refine V_iconst (v := 0) E dX4_measure_2 (by decide) ?_
  refine V_istore E dX4_measure_3 (by decide) rfl ?_
  have loop : ∀ k p S6, p + k = 20 → YMf S S6 → (∀ m, m < p → aI S6 214 m = nI (mz A B s q o m)) → V X 5 [some (.ref (212)), some (.ref (6000 + x)), some (.ref (207)), some (.int (nI (flg (sumN (mz A B s q o) p)))), some (.int (nI (p)))] [] S6 0 0 := by
    intro k
    induction k with
    | zero =>
      intro p S6 hp ef hh
      have ep : p = 20 := by omega
      subst ep
      refine V_iload E dX4_measure_5 rfl ?_
      refine V_bipush (v := 20) E dX4_measure_7 (by decide) ?_
      refine V_ge_yes (a := 20) (b := 20) (tgt := 71) E dX4_measure_9 (by decide) (@rfl _ (nI (20))) (rfl : (20 : Int32) = nI 20) (by omega) (by omega) ?_
      refine V_iload_n E dX4_measure_71 rfl ?_
      refine V_if_eq (tgt := 107) E dX4_measure_72 (by decide) (fun h72 => ?_) (fun h72 => ?_)
      · have g72 : ¬ sumN (mz A B s q o) 20 = 0 := fun z => by rw [flg_0 z] at h72; exact absurd h72 (by decide)
        exact V_vret E R dX4_measure_107 (Nat.le_refl _) (Nat.le_refl _) ⟨rfl, ef, fun m hm => by rw [hh m hm]; exact congrArg nI (if_neg g72).symm⟩
      · have g72 : sumN (mz A B s q o) 20 = 0 := Classical.byContradiction (fun z => h72 (by rw [flg_1 z]; rfl))
        refine V_iconst (v := 0) E dX4_measure_75 (by decide) ?_
        refine V_istore E dX4_measure_76 (by decide) rfl ?_
        have lp : ∀ k e S7, e + k = 20 → YMf S S7 → (∀ m, m < e → aI S7 214 m = nI (gmN A s m)) → V X 78 [some (.ref (212)), some (.ref (6000 + x)), some (.ref (207)), none, some (.int (nI (e)))] [] S7 0 0 := by
          intro k
          induction k with
          | zero =>
            intro e S7 he ef hh
            refine V_iload E dX4_measure_78 rfl ?_
            refine V_bipush (v := 20) E dX4_measure_80 (by decide) ?_
            refine V_ge_yes (a := e) (b := 20) (tgt := 107) E dX4_measure_82 (by decide) (@rfl _ (nI (e))) (rfl : (20 : Int32) = nI 20) (by omega) (by omega) ?_
            exact V_vret E R dX4_measure_107 (Nat.le_refl _) (Nat.le_refl _) ⟨rfl, ef, fun m hm => by rw [hh m (by omega)]; exact congrArg nI (if_pos g72).symm⟩
          | succ k ih =>
            intro e S7 he ef hh
            refine V_iload E dX4_measure_78 rfl ?_
            refine V_bipush (v := 20) E dX4_measure_80 (by decide) ?_
            refine V_ge_no (a := e) (b := 20) (tgt := 107) E dX4_measure_82 (by decide) (@rfl _ (nI (e))) (rfl : (20 : Int32) = nI 20) (by omega) (by omega) ?_
            refine V_aload_n E dX4_measure_85 rfl ?_
            refine V_getR E fl_X4_17 dX4_measure_86 rfl (((ef).2 hQ).k 212 5 rfl (by decide)) (((ef).2 hQ).r 212 1 214 rfl) ?_
            refine V_iload E dX4_measure_89 rfl ?_
            refine V_aload_n E dX4_measure_91 rfl ?_
            refine V_getRN E fn_X4_77 dX4_measure_92 rfl (((ef).big (by omega)).1.trans k6) ((congrFun ((ef).big (g := 6000 + x) (by omega)).2.2.1 0).trans r6) ?_
            refine V_iload E dX4_measure_95 rfl ?_
            refine V_callV E (cy_dryOfMember (x_l X) d S7 A t hO (ef.ves hvn hY) s hs e (by omega)) ml_X4_81 mv_X7_dryOfMember (((ef).ves hvn hY).ok s hs) dX4_measure_97 rfl (by simp [Value.category]) (by omega) (by omega) (by omega) (fun r S2 hp => ?_)
            obtain ⟨rfl, hS2⟩ := hp
            obtain rfl := hS2.symm
            refine V_ias (j := e) E dX4_measure_100 (((ef).2 hQ).k 214 21 rfl (by decide)) (@rfl _ (nI (e))) (((ef).2 hQ).l 214 20 rfl (by decide)) (by omega) (by decide) ?_
            refine V_iinc (v := nI (e + 1)) E dX4_measure_101 rfl (ni_inc (a := e) (z := 1) (@rfl _ (nI (e)))) (by decide) rfl ?_
            refine V_goto (tgt := 78) E dX4_measure_104 (by decide) ?_
            exact ih (e + 1) _ (by omega) (ef.trans YMf.A) (fun m hm => by show up2 (aI S7) 214 e (nI (gmN A s e)) 214 m = _; by_cases em : m = e; subst em; rw [up2_at]; rw [up2_nk em]; exact hh m (by omega))
        refine V_lo (lo' := [some (.ref (212)), some (.ref (6000 + x)), some (.ref (207)), none, some (.int (0))]) (And.intro rfl (And.intro rfl (And.intro rfl (And.intro rfl True.intro)))) ?_
        exact lp 20 0 S6 (by omega) ef (fun m hm => absurd hm (Nat.not_lt_zero _))
    | succ k ih =>
      intro p S6 hp ef hh
      have hgm := gm_le hO hs (show p < 20 by omega)
      have hlm := mz_le (B := B) (q := q) (o := o) hO hs (show p < 20 by omega)
      have hsm : sumN (mz A B s q o) (p + 1) = sumN (mz A B s q o) p + mz A B s q o p := rfl
      have J52 : ∀ S7, YMf S S7 → aI S7 214 = aI S6 214 → V X 52 [some (.ref (212)), some (.ref (6000 + x)), some (.ref (207)), some (.int (nI (flg (sumN (mz A B s q o) p)))), some (.int (nI (p)))] [.int (nI (mz A B s q o p)), .int (nI p), .ref 214] S7 0 0 := by
        intro S7 ef7 e214
        refine V_ias (j := p) E dX4_measure_52 (((ef7).2 hQ).k 214 21 rfl (by decide)) (@rfl _ (nI (p))) (((ef7).2 hQ).l 214 20 rfl (by decide)) (by omega) (by decide) ?_
        refine V_aload_n E dX4_measure_53 rfl ?_
        refine V_getR E fl_X4_17 dX4_measure_54 rfl ((((ef7.trans YMf.A)).2 hQ).k 212 5 rfl (by decide)) ((((ef7.trans YMf.A)).2 hQ).r 212 1 214 rfl) ?_
        refine V_iload E dX4_measure_57 rfl ?_
        refine V_ia (j := p) E dX4_measure_59 ((((ef7.trans YMf.A)).2 hQ).k 214 21 rfl (by decide)) (@rfl _ (nI (p))) ((((ef7.trans YMf.A)).2 hQ).l 214 20 rfl (by decide)) (by omega) (by decide) ?_
        refine V_cvi (y := nI (mz A B s q o p)) (show up2 (aI S7) 214 p (nI (mz A B s q o p)) 214 p = _ from up2_at) ?_
        refine V_if_eq (tgt := 65) E dX4_measure_60 (by decide) (fun h60 => ?_) (fun h60 => ?_)
        · have g60 : mz A B s q o p = 0 := (nI_eq (a := mz A B s q o p) (b := 0) (by omega) (by omega)).mp h60
          refine V_iinc (v := nI (p + 1)) E dX4_measure_65 rfl (ni_inc (a := p) (z := 1) (@rfl _ (nI (p)))) (by decide) rfl ?_
          refine V_goto (tgt := 5) E dX4_measure_68 (by decide) ?_
          have hI := ih (p + 1) (sA S7 214 p (nI (mz A B s q o p))) (by omega) (ef7.trans YMf.A) (fun m hm => by show up2 (aI S7) 214 p (nI (mz A B s q o p)) 214 m = _; by_cases em : m = p; subst em; rw [up2_at]; rw [up2_nk em, e214]; exact hh m (by omega))
          have e9 : sumN (mz A B s q o) (p + 1) = sumN (mz A B s q o) p := by omega
          rw [e9] at hI
          exact hI
        · have g60 : ¬ mz A B s q o p = 0 := fun z => h60 (by rw [z]; rfl)
          refine V_iconst (v := 0) E dX4_measure_63 (by decide) ?_
          refine V_istore_n E dX4_measure_64 (by decide) rfl ?_
          refine V_iinc (v := nI (p + 1)) E dX4_measure_65 rfl (ni_inc (a := p) (z := 1) (@rfl _ (nI (p)))) (by decide) rfl ?_
          refine V_goto (tgt := 5) E dX4_measure_68 (by decide) ?_
          have hI := ih (p + 1) (sA S7 214 p (nI (mz A B s q o p))) (by omega) (ef7.trans YMf.A) (fun m hm => by show up2 (aI S7) 214 p (nI (mz A B s q o p)) 214 m = _; by_cases em : m = p; subst em; rw [up2_at]; rw [up2_nk em, e214]; exact hh m (by omega))
          rw [flg_1 (show ¬ sumN (mz A B s q o) (p + 1) = 0 by omega)] at hI
          exact hI
      refine V_iload E dX4_measure_5 rfl ?_
      refine V_bipush (v := 20) E dX4_measure_7 (by decide) ?_
      refine V_ge_no (a := p) (b := 20) (tgt := 71) E dX4_measure_9 (by decide) (@rfl _ (nI (p))) (rfl : (20 : Int32) = nI 20) (by omega) (by omega) ?_
      refine V_aload_n E dX4_measure_12 rfl ?_
      refine V_getR E fl_X4_17 dX4_measure_13 rfl (((ef).2 hQ).k 212 5 rfl (by decide)) (((ef).2 hQ).r 212 1 214 rfl) ?_
      refine V_iload E dX4_measure_16 rfl ?_
      refine V_aload_n E dX4_measure_18 rfl ?_
      refine V_getRN E fn_X4_77 dX4_measure_19 rfl (((ef).big (by omega)).1.trans k6) ((congrFun ((ef).big (g := 6000 + x) (by omega)).2.2.1 0).trans r6) ?_
      refine V_iload E dX4_measure_22 rfl ?_
      refine V_callV E (cy_dryOfMember (x_l X) (d + 3) S6 A t hO (ef.ves hvn hY) s hs p (by omega)) ml_X4_81 mv_X7_dryOfMember (((ef).ves hvn hY).ok s hs) dX4_measure_24 rfl (by simp [Value.category]) (by omega) (by omega) (by omega) (fun r S2 hp => ?_)
      obtain ⟨rfl, hS2⟩ := hp
      obtain rfl := hS2.symm
      refine V_if_le (tgt := 51) E dX4_measure_27 (by decide) (fun hz => ?_) (fun hz => ?_)
      · have gz : gmN A s p = 0 := by have := (nI_leI (a := gmN A s p) (b := 0) (by omega) (by omega)).mp hz; omega
        refine V_iconst (v := 0) E dX4_measure_51 (by decide) ?_
        exact V_cvi (congrArg nI (mz_0 gz).symm) (J52 S6 ef rfl)
      · have gz : ¬ gmN A s p = 0 := fun e => hz (by rw [e]; decide)
        refine V_aload_n E dX4_measure_30 rfl ?_
        refine V_aload_n E dX4_measure_31 rfl ?_
        refine V_getIN E fn_X4_51 dX4_measure_32 rfl (((ef).big (by omega)).1.trans k6) ?_
        refine V_cvi (y := an o) (by rw [(ef.big (g := 6000 + x) (by omega)).2.2.2.1]; exact v6) ?_
        refine V_aload_n E dX4_measure_35 rfl ?_
        refine V_getRN E fn_X4_77 dX4_measure_36 rfl (((ef).big (by omega)).1.trans k6) ((congrFun ((ef).big (g := 6000 + x) (by omega)).2.2.1 0).trans r6) ?_
        refine V_aload_n E dX4_measure_39 rfl ?_
        refine V_getIN E fn_X4_90 dX4_measure_40 rfl (((ef).big (by omega)).1.trans k6) ?_
        refine V_cvi (y := nI q) (by rw [(ef.big (g := 6000 + x) (by omega)).2.2.2.1]; exact g6) ?_
        refine V_iload E dX4_measure_43 rfl ?_
        refine V_callV E (cy_tellOf (x_l X) d S6 A t hO (ef.ves hvn hY) B hB (ef.2 hQ) (ef.vot hbn hV) s hs p (by omega) q hq o ho) ml_X4_93 mv_X9_tellOf (((ef).2 hQ).k 207 10 rfl (by decide)) dX4_measure_45 rfl (by simp [Value.category]) (by omega) (by omega) (by omega) (fun r S7 hp => ?_)
        obtain ⟨rfl, hrf⟩ := hp
        refine V_goto (tgt := 52) E dX4_measure_48 (by decide) ?_
        exact V_cvi (congrArg nI (mz_1 gz).symm) (J52 S7 (ef.trans hrf.m) (hrf.1.aI (by omega)))
  refine V_lo (lo' := [some (.ref (212)), some (.ref (6000 + x)), some (.ref (207)), some (.int (1)), some (.int (0))]) (And.intro rfl (And.intro rfl (And.intro rfl (And.intro rfl (And.intro rfl True.intro))))) ?_
  exact loop 20 0 S (by omega) (YMf.rfl' S) (fun m hm => absurd hm (Nat.not_lt_zero _))
