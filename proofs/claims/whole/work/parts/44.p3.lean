theorem cy_giveDays (l : Launch) (d : Nat) (S : GS) (B : AP) (hB : POKa B) (hQ : YOK S) (hJ : YPl S B) : GC l (d + 1) yX2_giveDays cX2_giveDays 5 (some FieldType.boolean) [.ref 221] S (fun r S2 => r = some (.int (bi (jall B))) ∧ ∃ f, S2 = rA S 224 f ∧ ∀ j, j < jn B → f j = bI (jpl B 60 j)) (0) (0) := by
  refine GC.ofV (by decide) (Nat.le_of_ble_eq_true rfl) (fun X hl E R hnm => ?_)
  subst hl
  have E : En X RX2 cX2_giveDays 5 (d + 1) (0) (0) := E
  have R : Rt X (some FieldType.boolean) (fun r S2 => r = some (.int (bi (jall B))) ∧ ∃ f, S2 = rA S 224 f ∧ ∀ j, j < jn B → f j = bI (jpl B 60 j)) := R
  have hn := hB.1
  refine V_aload_n E dX2_giveDays_0 rfl ?_
  refine V_getR E fl_X2_18 dX2_giveDays_1 rfl (hQ.k 221 3 rfl (by decide)) (hQ.r 221 2 224 rfl) ?_
  refine V_iconst (v := -1) E dX2_giveDays_4 (by decide) ?_
  refine V_callS E (cj_fill (x_l X) d S 224 60 (hQ.k 224 21 rfl (by decide)) (hQ.l 224 60 rfl (by decide)) (by omega) (-1)) ml_X2_31 ms_J7_fill_53178 dX2_giveDays_5 rfl (by simp [Value.category]) (by omega) (by omega) (by omega) (fun r S2 hp => ?_)
  obtain ⟨rfl, f0, rfl, hf0⟩ := hp
  refine V_iconst (v := 0) E dX2_giveDays_8 (by decide) ?_
  refine V_istore_n E dX2_giveDays_9 (by decide) rfl ?_
  refine V_iconst (v := 0) E dX2_giveDays_10 (by decide) ?_
  refine V_istore_n E dX2_giveDays_11 (by decide) rfl ?_
  have outer : ∀ m k f, k + m = 60 → (∀ j, j < jn B → f j = bI (jpl B k j)) → V X 12 [some (.ref (221)), some (.int (nI (jcnt (jpl B k) (jn B)))), some (.int (nI (k))), none, none] [] (rA S 224 f) 0 0 := by
    intro m
    induction m with
    | zero =>
      intro k f hk hf
      have hk6 : k = 60 := by omega
      subst hk6
      have hle := jcnt_le (jpl B 60) (jn B)
      refine V_iload_n E dX2_giveDays_12 rfl ?_
      refine V_bipush (v := 60) E dX2_giveDays_13 (by decide) ?_
      refine V_ge_yes (a := 60) (b := 60) (tgt := 69) E dX2_giveDays_15 (by decide) rfl rfl (by omega) (by omega) ?_
      refine V_iload_n E dX2_giveDays_69 rfl ?_
      refine V_aload_n E dX2_giveDays_70 rfl ?_
      refine V_getI E fl_X2_27 dX2_giveDays_71 rfl (hQ.k 221 3 rfl (by decide)) ?_
      refine V_icmp_ne (tgt := 81) E dX2_giveDays_74 (by decide) (fun h74 => ?_) (fun h74 => ?_)
      · have g74 : ¬ jall B := fun q => h74 (by rw [(jcnt_all (jn B)).mpr q]; exact hJ.1.symm)
        refine V_iconst (v := 0) E dX2_giveDays_81 (by decide) ?_
        exact V_iret E R dX2_giveDays_82 (by first | rfl | exact bi_nar _) (Nat.le_refl _) (Nat.le_refl _) ⟨by rw [bi_f g74], f, rfl, hf⟩
      · have g74 : jall B := (jcnt_all (jn B)).mp ((nI_eq (by omega) (by omega)).mp (h74.trans hJ.1))
        refine V_iconst (v := 1) E dX2_giveDays_77 (by decide) ?_
        refine V_goto (tgt := 82) E dX2_giveDays_78 (by decide) ?_
        exact V_iret E R dX2_giveDays_82 (by first | rfl | exact bi_nar _) (Nat.le_refl _) (Nat.le_refl _) ⟨by rw [bi_t g74], f, rfl, hf⟩
    | succ m ih =>
      intro k f hk hf
      have k5 := hJ.2.2 k (by omega)
      have b5 := hB.2.2 k (by omega)
      have nxt : ∀ f, (∀ j, j < jn B → f j = bI (jpl B (k + 1) j)) → V X 63 [some (.ref (221)), some (.int (nI (jcnt (jpl B (k + 1)) (jn B)))), some (.int (nI (k))), none, none] [] (rA S 224 f) 0 0 := by
        intro f hf
        refine V_iinc (v := nI (k + 1)) E dX2_giveDays_63 rfl (ni_inc (a := k) (z := 1) (@rfl _ (nI (k)))) (by decide) rfl ?_
        refine V_goto (tgt := 12) E dX2_giveDays_66 (by decide) ?_
        exact ih (k + 1) f (by omega) hf
      refine V_iload_n E dX2_giveDays_12 rfl ?_
      refine V_bipush (v := 60) E dX2_giveDays_13 (by decide) ?_
      refine V_ge_no (a := k) (b := 60) (tgt := 69) E dX2_giveDays_15 (by decide) rfl rfl (by omega) (by omega) ?_
      refine V_iconst (v := 0) E dX2_giveDays_18 (by decide) ?_
      refine V_istore_n E dX2_giveDays_19 (by decide) rfl ?_
      have inner : ∀ m i f, i + m = jP B k → (∀ j, j < jn B → f j = bI (jit B k i (jpl B k) j)) → V X 20 [some (.ref (221)), some (.int (nI (jcnt (jit B k i (jpl B k)) (jn B)))), some (.int (nI (k))), some (.int (nI (i))), none] [] (rA S 224 f) 0 0 := by
        intro m
        induction m with
        | zero =>
          intro i f hi hf
          have hi6 : i = jP B k := by omega
          subst hi6
          refine V_iload_n E dX2_giveDays_20 rfl ?_
          refine V_aload_n E dX2_giveDays_21 rfl ?_
          refine V_getR E fl_X2_21 dX2_giveDays_22 rfl (hQ.k 221 3 rfl (by decide)) (hQ.r 221 3 225 rfl) ?_
          refine V_iload_n E dX2_giveDays_25 rfl ?_
          refine V_ia (j := k) E dX2_giveDays_26 (hQ.k 225 21 rfl (by decide)) (@rfl _ (nI (k))) (hQ.l 225 60 rfl (by decide)) (by omega) (by decide) ?_
          refine V_ge_yes (a := jP B k) (b := jP B k) (tgt := 63) E dX2_giveDays_27 (by decide) rfl k5 (by omega) (by omega) ?_
          refine V_lo (lo' := [some (.ref (221)), some (.int (nI (jcnt (jpl B (k + 1)) (jn B)))), some (.int (nI (k))), none, none]) (And.intro rfl (And.intro rfl (And.intro rfl True.intro))) ?_
          exact nxt f hf
        | succ m ih2 =>
          intro i f hi hf
          have hdy : jday (jit B k i (jpl B k)) := jit_day (by omega) i _ (jpl_day k (by omega))
          refine V_iload_n E dX2_giveDays_20 rfl ?_
          refine V_aload_n E dX2_giveDays_21 rfl ?_
          refine V_getR E fl_X2_21 dX2_giveDays_22 rfl (hQ.k 221 3 rfl (by decide)) (hQ.r 221 3 225 rfl) ?_
          refine V_iload_n E dX2_giveDays_25 rfl ?_
          refine V_ia (j := k) E dX2_giveDays_26 (hQ.k 225 21 rfl (by decide)) (@rfl _ (nI (k))) (hQ.l 225 60 rfl (by decide)) (by omega) (by decide) ?_
          refine V_ge_no (a := i) (b := jP B k) (tgt := 63) E dX2_giveDays_27 (by decide) rfl k5 (by omega) (by omega) ?_
          refine V_aload_n E dX2_giveDays_30 rfl ?_
          refine V_iload_n E dX2_giveDays_31 rfl ?_
          refine V_callV E (cy_mostPressing (x_l X) d (rA S 224 f) B hB hQ hJ (jit B k i (jpl B k)) hdy (fun j hj => (congrFun (va_up_self (aI S) 224 f) j).trans (hf j hj)) k (by omega)) ml_X2_37 mv_X2_mostPressing (hQ.k 221 3 rfl (by decide)) dX2_giveDays_32 rfl (by simp [Value.category]) (by omega) (by omega) (by omega) (fun r S2 hp => ?_)
          obtain ⟨rfl, hS2⟩ := hp
          obtain rfl := hS2.symm
          refine V_istore E dX2_giveDays_35 (by decide) rfl ?_
          refine V_iload E dX2_giveDays_37 rfl ?_
          refine V_iconst (v := -1) E dX2_giveDays_39 (by decide) ?_
          cases hjb : jb B (jit B k i (jpl B k)) k (jn B) with
          | none =>
            refine V_icmp_ne (tgt := 46) E dX2_giveDays_40 (by decide) (fun hx => absurd rfl hx) (fun _ => ?_)
            refine V_goto (tgt := 63) E dX2_giveDays_43 (by decide) ?_
            have hst := jit_stop hjb (jP B k - i)
            rw [show i + (jP B k - i) = jP B k by omega] at hst
            have e9 : jpl B (k + 1) = jit B k i (jpl B k) := hst
            have h9 := nxt f (by rw [e9]; exact hf)
            rw [e9] at h9
            refine V_lo (lo' := [some (.ref (221)), some (.int (nI (jcnt (jit B k i (jpl B k)) (jn B)))), some (.int (nI (k))), none, none]) (And.intro rfl (And.intro rfl (And.intro rfl True.intro))) ?_
            exact h9
          | some c =>
            obtain ⟨c1, c2⟩ := jb_lt (jn B) c hjb
            refine V_icmp_ne (tgt := 46) E dX2_giveDays_40 (by decide) (fun _ => ?_) (fun hx => absurd hx (bI_ne (by omega)))
            have e9 : jit B k (i + 1) (jpl B k) = va_up (jit B k i (jpl B k)) c (some k) := jst_some hjb
            refine V_aload_n E dX2_giveDays_46 rfl ?_
            refine V_getR E fl_X2_18 dX2_giveDays_47 rfl (hQ.k 221 3 rfl (by decide)) (hQ.r 221 2 224 rfl) ?_
            refine V_iload E dX2_giveDays_50 rfl ?_
            refine V_iload_n E dX2_giveDays_52 rfl ?_
            refine V_ias (j := c) E dX2_giveDays_53 (hQ.k 224 21 rfl (by decide)) (rfl : bI (some c) = nI c) (hQ.l 224 60 rfl (by decide)) (by omega) (by decide) ?_
            refine V_cvS (sA_rA _ _ _ _ _) ?_
            refine V_iinc (v := nI (jcnt (jit B k i (jpl B k)) (jn B) + 1)) E dX2_giveDays_54 rfl (ni_inc (a := jcnt (jit B k i (jpl B k)) (jn B)) (z := 1) (@rfl _ (nI (jcnt (jit B k i (jpl B k)) (jn B))))) (by decide) rfl ?_
            refine V_iinc (v := nI (i + 1)) E dX2_giveDays_57 rfl (ni_inc (a := i) (z := 1) (@rfl _ (nI (i)))) (by decide) rfl ?_
            refine V_goto (tgt := 20) E dX2_giveDays_60 (by decide) ?_
            have h9 := ih2 (i + 1) (va_up f c (nI k)) (by omega) (fun j hj => by rw [e9]; by_cases e : j = c; subst e; rw [va_up_self, va_up_self]; rfl; rw [va_up_ne _ _ e, va_up_ne _ _ e]; exact hf j hj)
            rw [e9, jcnt_step (B := B) c1 c2.1] at h9
            refine V_lo (lo' := [some (.ref (221)), some (.int (nI (jcnt (jit B k i (jpl B k)) (jn B) + 1))), some (.int (nI (k))), some (.int (nI (i + 1))), none]) (And.intro rfl (And.intro rfl (And.intro rfl (And.intro rfl True.intro)))) ?_
            exact h9
      exact inner (jP B k) 0 f (by omega) hf
  have h9 := outer 60 0 f0 (by omega) (fun j hj => (hf0 j (by omega)).trans rfl)
  rw [show jcnt (jpl B 0) (jn B) = 0 by unfold jcnt; rw [show (fun j => if jpl B 0 j = none then 0 else 1) = fun _ => 0 from funext fun j => if_pos rfl, sumN_const]; omega] at h9
  exact h9
