theorem cy_addJobsUntil (l : Launch) (d : Nat) (S : GS) (B : AP) (hB : POKa B) (hQ : YOK S) (hJ : YPl S B) (k : Nat) (hk : k < 60) (h : Nat → Int32) (hh : ∀ f, f < 60 → h f = nI (bgn B k f)) : GC l (d) yX2_addJobsUntil cX2_addJobsUntil 3 none [.ref 221, .int (nI k)] (rA S 226 h) (fun r S2 => r = none ∧ ∃ h2, S2 = rA S 226 h2 ∧ ∀ f, f < 60 → h2 f = nI (bgn B (k + 1) f)) (0) (0) := by
  refine GC.ofV (by decide) (Nat.le_of_ble_eq_true rfl) (fun X hl E R hnm => ?_)
  subst hl
  have E : En X RX2 cX2_addJobsUntil 3 (d) (0) (0) := E
  have R : Rt X none (fun r S2 => r = none ∧ ∃ h2, S2 = rA S 226 h2 ∧ ∀ f, f < 60 → h2 f = nI (bgn B (k + 1) f)) := R
  have hn := hB.1
  refine V_iconst (v := 0) E dX2_addJobsUntil_0 (by decide) ?_
  refine V_istore_n E dX2_addJobsUntil_1 (by decide) rfl ?_
  have loop : ∀ m p h, p + m = jn B → (∀ f, f < 60 → h f = nI (bgn B k f + bge B k f p)) → V X 2 [some (.ref (221)), some (.int (nI (k))), some (.int (nI (p)))] [] (rA S 226 h) 0 0 := by
    intro m
    induction m with
    | zero =>
      intro p h hp hh
      refine V_iload_n E dX2_addJobsUntil_2 rfl ?_
      refine V_aload_n E dX2_addJobsUntil_3 rfl ?_
      refine V_getI E fl_X2_27 dX2_addJobsUntil_4 rfl (hQ.k 221 3 rfl (by decide)) ?_
      refine V_ge_yes (a := p) (b := jn B) (tgt := 41) E dX2_addJobsUntil_7 (by decide) rfl hJ.1 (by omega) (by omega) ?_
      exact V_vret E R dX2_addJobsUntil_41 (Nat.le_refl _) (Nat.le_refl _) ⟨rfl, h, rfl, fun f hf => by rw [hh f hf, show p = jn B by omega, bgn_succ]⟩
    | succ m ih =>
      intro p h hp hh
      obtain ⟨k1, k2⟩ := hJ.2.1 p (by omega)
      obtain ⟨b1, b2⟩ := hB.2.1 p (by omega)
      have eb : ∀ f, bge B k f (p + 1) = bge B k f p + (if jL B p = k ∧ jF B p = f then 1 else 0) := fun f => rfl
      refine V_iload_n E dX2_addJobsUntil_2 rfl ?_
      refine V_aload_n E dX2_addJobsUntil_3 rfl ?_
      refine V_getI E fl_X2_27 dX2_addJobsUntil_4 rfl (hQ.k 221 3 rfl (by decide)) ?_
      refine V_ge_no (a := p) (b := jn B) (tgt := 41) E dX2_addJobsUntil_7 (by decide) rfl hJ.1 (by omega) (by omega) ?_
      refine V_aload_n E dX2_addJobsUntil_10 rfl ?_
      refine V_getR E fl_X2_15 dX2_addJobsUntil_11 rfl (hQ.k 221 3 rfl (by decide)) (hQ.r 221 1 223 rfl) ?_
      refine V_iload_n E dX2_addJobsUntil_14 rfl ?_
      refine V_ia (j := p) E dX2_addJobsUntil_15 (hQ.k 223 21 rfl (by decide)) (@rfl _ (nI (p))) (hQ.l 223 60 rfl (by decide)) (by omega) (by decide) ?_
      refine V_iload_n E dX2_addJobsUntil_16 rfl ?_
      refine V_icmp_ne (tgt := 35) E dX2_addJobsUntil_17 (by decide) (fun h17 => ?_) (fun h17 => ?_)
      · have g17 : jL B p ≠ k := fun e => h17 (k2.trans (by rw [e]))
        refine V_iinc (v := nI (p + 1)) E dX2_addJobsUntil_35 rfl (ni_inc (a := p) (z := 1) (@rfl _ (nI (p)))) (by decide) rfl ?_
        refine V_goto (tgt := 2) E dX2_addJobsUntil_38 (by decide) ?_
        refine ih (p + 1) _ (by omega) (fun f hf => ?_)
        rw [eb]
        rw [hh f hf, if_neg (fun q => g17 q.1)]; rfl
      · have g17 : jL B p = k := (nI_eq (by omega) (by omega)).mp (k2.symm.trans h17)
        refine V_aload_n E dX2_addJobsUntil_20 rfl ?_
        refine V_getR E fl_X2_24 dX2_addJobsUntil_21 rfl (hQ.k 221 3 rfl (by decide)) (hQ.r 221 4 226 rfl) ?_
        refine V_aload_n E dX2_addJobsUntil_24 rfl ?_
        refine V_getR E fl_X2_9 dX2_addJobsUntil_25 rfl (hQ.k 221 3 rfl (by decide)) (hQ.r 221 0 222 rfl) ?_
        refine V_iload_n E dX2_addJobsUntil_28 rfl ?_
        refine V_ia (j := p) E dX2_addJobsUntil_29 (hQ.k 222 21 rfl (by decide)) (@rfl _ (nI (p))) (hQ.l 222 60 rfl (by decide)) (by omega) (by decide) ?_
        refine V_dup2 E dX2_addJobsUntil_30 rfl rfl ?_
        refine V_ia (j := jF B p) E dX2_addJobsUntil_31 (hQ.k 226 21 rfl (by decide)) k1 (hQ.l 226 60 rfl (by decide)) (by omega) (by decide) ?_
        refine V_iconst (v := 1) E dX2_addJobsUntil_32 (by decide) ?_
        refine V_iadd E dX2_addJobsUntil_33 ?_
        refine V_cvi (y := nI (((bgn B k (jF B p) + bge B k (jF B p) p) + 1))) (ni_add (a := (bgn B k (jF B p) + bge B k (jF B p) p)) (b := 1) ((congrFun (va_up_self (aI S) 226 h) (jF B p)).trans (hh _ (by omega))) (rfl : (1 : Int32) = nI 1)) ?_
        refine V_ias (j := jF B p) E dX2_addJobsUntil_34 (hQ.k 226 21 rfl (by decide)) k1 (hQ.l 226 60 rfl (by decide)) (by omega) (by decide) ?_
        refine V_cvS (sA_rA _ _ _ _ _) ?_
        refine V_iinc (v := nI (p + 1)) E dX2_addJobsUntil_35 rfl (ni_inc (a := p) (z := 1) (@rfl _ (nI (p)))) (by decide) rfl ?_
        refine V_goto (tgt := 2) E dX2_addJobsUntil_38 (by decide) ?_
        refine ih (p + 1) _ (by omega) (fun f hf => ?_)
        rw [eb]
        by_cases e : f = jF B p
        · subst e; rw [va_up_self, if_pos ⟨g17, rfl⟩]; congr 1
        · rw [va_up_ne _ _ e, hh f hf, if_neg (fun q => e q.2.symm)]; rfl
  exact loop (jn B) 0 h (by omega) (fun f hf => (hh f hf).trans rfl)

theorem cy_tightFirst (l : Launch) (d : Nat) (S : GS) (B : AP) (hB : POKa B) (hQ : YOK S) (hJ : YPl S B) (b : Nat) (hb : b < 60) (h : Nat → Int32) (hh : ∀ f, f < 60 → h f = nI (bgn B (b + 1) f)) : GC l (d) yX2_tightFirst cX2_tightFirst 4 (some FieldType.int) [.ref 221, .int (nI b)] (rA S 226 h) (fun r S2 => r = some (.int (bI (rsa B b (b + 1)))) ∧ S2 = rA S 226 h) (0) (0) := by
  refine GC.ofV (by decide) (Nat.le_of_ble_eq_true rfl) (fun X hl E R hnm => ?_)
  subst hl
  have E : En X RX2 cX2_tightFirst 4 (d) (0) (0) := E
  have R : Rt X (some FieldType.int) (fun r S2 => r = some (.int (bI (rsa B b (b + 1)))) ∧ S2 = rA S 226 h) := R
  have hn := hB.1
  refine V_iconst (v := 0) E dX2_tightFirst_0 (by decide) ?_
  refine V_istore_n E dX2_tightFirst_1 (by decide) rfl ?_
  refine V_iload_n E dX2_tightFirst_2 rfl ?_
  refine V_istore_n E dX2_tightFirst_3 (by decide) rfl ?_
  have loop : ∀ c, c ≤ b + 1 → rsa B b (b + 1) = rsa B b c → V X 4 [some (.ref (221)), some (.int (nI (b))), some (.int (nI (rcnt B (c) b) - nI (rplc B (c) (b + 1 - (c))))), some (.int (nI (c) - 1))] [] (rA S 226 h) 0 0 := by
    intro c
    induction c with
    | zero =>
      intro hc he
      refine V_iload_n E dX2_tightFirst_4 rfl ?_
      refine V_if_lt (tgt := 36) E dX2_tightFirst_5 (by decide) (fun _ => ?_) (fun hx => absurd hx (fun q => q (by decide)))
      refine V_iconst (v := -1) E dX2_tightFirst_36 (by decide) ?_
      exact V_iret E R dX2_tightFirst_37 rfl (Nat.le_refl _) (Nat.le_refl _) ⟨by rw [he]; rfl, rfl⟩
    | succ c ih =>
      intro hc he
      have k5 := hJ.2.2 c (by omega)
      have b5 := bgn_le B (b + 1) c
      have hpl := rplc_le (a := c) (n := b + 1 - c) hB (by omega)
      have hct := rcnt_le B c b
      have eh : aI (rA S 226 h) 226 c = nI (bgn B (b + 1) c) := (congrFun (va_up_self (aI S) 226 h) c).trans (hh c (by omega))
      have el : (nI (rcnt B (c + 1) b) - nI (rplc B (c + 1) (b + 1 - (c + 1)))) + (aI (rA S 226 h) 226 c - aI (rA S 226 h) 225 c) = nI (rcnt B c b) - nI (rplc B c (b + 1 - c)) := by rw [eh, show aI (rA S 226 h) 225 c = nI (jP B c) from k5, lack_step, nI_add, nI_add, ← rcnt_down, ← rplc_down (by omega)]
      have e1 : (nI (rcnt B c b) - nI (rplc B c (b + 1 - c))).toInt = (rcnt B c b : Int) - (rplc B c (b + 1 - c) : Int) := pk_sub_toInt (by omega) (by omega)
      refine V_iload_n E dX2_tightFirst_4 rfl ?_
      refine V_if_lt (tgt := 36) E dX2_tightFirst_5 (by decide) (fun hx => absurd hx (fun q => absurd ((dec0 (by omega)).mp q) (by omega))) (fun _ => ?_)
      refine V_iload_n E dX2_tightFirst_8 rfl ?_
      refine V_aload_n E dX2_tightFirst_9 rfl ?_
      refine V_getR E fl_X2_24 dX2_tightFirst_10 rfl (hQ.k 221 3 rfl (by decide)) (hQ.r 221 4 226 rfl) ?_
      refine V_iload_n E dX2_tightFirst_13 rfl ?_
      refine V_ia (j := c) E dX2_tightFirst_14 (hQ.k 226 21 rfl (by decide)) (nI_pred c) (hQ.l 226 60 rfl (by decide)) (by omega) (by decide) ?_
      refine V_aload_n E dX2_tightFirst_15 rfl ?_
      refine V_getR E fl_X2_21 dX2_tightFirst_16 rfl (hQ.k 221 3 rfl (by decide)) (hQ.r 221 3 225 rfl) ?_
      refine V_iload_n E dX2_tightFirst_19 rfl ?_
      refine V_ia (j := c) E dX2_tightFirst_20 (hQ.k 225 21 rfl (by decide)) (nI_pred c) (hQ.l 225 60 rfl (by decide)) (by omega) (by decide) ?_
      refine V_isub E dX2_tightFirst_21 ?_
      refine V_iadd E dX2_tightFirst_22 ?_
      refine V_cvi el ?_
      refine V_istore_n E dX2_tightFirst_23 (by decide) rfl ?_
      refine V_iload_n E dX2_tightFirst_24 rfl ?_
      refine V_if_le (tgt := 30) E dX2_tightFirst_25 (by decide) (fun h25 => ?_) (fun h25 => ?_)
      · have g25 : ¬ rmany B c b := fun q => by rw [fa_le, e1] at h25; have q2 : rplc B c (b + 1 - c) < rcnt B c b := q; have z0 : ((0 : Int32)).toInt = 0 := rfl; omega
        refine V_iinc (v := nI c - 1) E dX2_tightFirst_30 rfl (dec1 c) (by decide) rfl ?_
        refine V_goto (tgt := 4) E dX2_tightFirst_33 (by decide) ?_
        exact ih (by omega) (he.trans (rsa_no g25))
      · have g25 : rmany B c b := by rw [fa_le, e1] at h25; show rplc B c (b + 1 - c) < rcnt B c b; have z0 : ((0 : Int32)).toInt = 0 := rfl; omega
        refine V_iload_n E dX2_tightFirst_28 rfl ?_
        exact V_iret E R dX2_tightFirst_29 rfl (Nat.le_refl _) (Nat.le_refl _) ⟨by rw [he, rsa_yes g25, nI_pred]; rfl, rfl⟩
  have h9 := loop (b + 1) (by omega) rfl
  rw [nI_pred, rcnt_top hB, Nat.sub_self, show nI 0 - nI (rplc B (b + 1) 0) = 0 from (rfl : nI 0 - nI 0 = (0 : Int32))] at h9
  exact h9

theorem cy_tightRow (l : Launch) (d : Nat) (S : GS) (B : AP) (hB : POKa B) (hQ : YOK S) (hJ : YPl S B) (la : Nat) (hla : la ≤ 1) : GC l (d + 1) yX2_tightRow cX2_tightRow 4 (some FieldType.int) [.ref 221, .int (nI la)] S (fun r S2 => r = some (.int (rans (rsb B 60 0) la)) ∧ ∃ h, S2 = rA S 226 h) (0) (0) := by
  refine GC.ofV (by decide) (Nat.le_of_ble_eq_true rfl) (fun X hl E R hnm => ?_)
  subst hl
  have E : En X RX2 cX2_tightRow 4 (d + 1) (0) (0) := E
  have R : Rt X (some FieldType.int) (fun r S2 => r = some (.int (rans (rsb B 60 0) la)) ∧ ∃ h, S2 = rA S 226 h) := R
  have hn := hB.1
  refine V_aload_n E dX2_tightRow_0 rfl ?_
  refine V_getR E fl_X2_24 dX2_tightRow_1 rfl (hQ.k 221 3 rfl (by decide)) (hQ.r 221 4 226 rfl) ?_
  refine V_iconst (v := 0) E dX2_tightRow_4 (by decide) ?_
  refine V_callS E (cj_fill (x_l X) d S 226 60 (hQ.k 226 21 rfl (by decide)) (hQ.l 226 60 rfl (by decide)) (by omega) 0) ml_X2_31 ms_J7_fill_53178 dX2_tightRow_5 rfl (by simp [Value.category]) (by omega) (by omega) (by omega) (fun r S2 hp => ?_)
  obtain ⟨rfl, h0, rfl, hh0⟩ := hp
  refine V_iconst (v := 0) E dX2_tightRow_8 (by decide) ?_
  refine V_istore_n E dX2_tightRow_9 (by decide) rfl ?_
  have outer : ∀ m b h, b + m = 60 → rsb B 60 0 = rsb B m b → (∀ f, f < 60 → h f = nI (bgn B b f)) → V X 10 [some (.ref (221)), some (.int (nI (la))), some (.int (nI (b))), none] [] (rA S 226 h) 0 0 := by
    intro m
    induction m with
    | zero =>
      intro b h hb he hh
      refine V_iload_n E dX2_tightRow_10 rfl ?_
      refine V_bipush (v := 60) E dX2_tightRow_11 (by decide) ?_
      refine V_ge_yes (a := b) (b := 60) (tgt := 48) E dX2_tightRow_13 (by decide) (@rfl _ (nI (b))) (rfl : (60 : Int32) = nI 60) (by omega) (by omega) ?_
      refine V_iconst (v := -1) E dX2_tightRow_48 (by decide) ?_
      exact V_iret E R dX2_tightRow_49 rfl (Nat.le_refl _) (Nat.le_refl _) ⟨by rw [he]; rfl, h, rfl⟩
    | succ m ih =>
      intro b h hb he hh
      refine V_iload_n E dX2_tightRow_10 rfl ?_
      refine V_bipush (v := 60) E dX2_tightRow_11 (by decide) ?_
      refine V_ge_no (a := b) (b := 60) (tgt := 48) E dX2_tightRow_13 (by decide) (@rfl _ (nI (b))) (rfl : (60 : Int32) = nI 60) (by omega) (by omega) ?_
      refine V_aload_n E dX2_tightRow_16 rfl ?_
      refine V_iload_n E dX2_tightRow_17 rfl ?_
      refine V_callV E (cy_addJobsUntil (x_l X) d S B hB hQ hJ b (by omega) h hh) ml_X2_41 mv_X2_addJobsUntil (hQ.k 221 3 rfl (by decide)) dX2_tightRow_18 rfl (by simp [Value.category]) (by omega) (by omega) (by omega) (fun r S2 hp => ?_)
      obtain ⟨rfl, h2, rfl, hh2⟩ := hp
      refine V_aload_n E dX2_tightRow_21 rfl ?_
      refine V_iload_n E dX2_tightRow_22 rfl ?_
      refine V_callV E (cy_tightFirst (x_l X) d S B hB hQ hJ b (by omega) h2 hh2) ml_X2_45 mv_X2_tightFirst (hQ.k 221 3 rfl (by decide)) dX2_tightRow_23 rfl (by simp [Value.category]) (by omega) (by omega) (by omega) (fun r S2 hp => ?_)
      obtain ⟨rfl, hS2⟩ := hp
      obtain rfl := hS2.symm
      refine V_istore_n E dX2_tightRow_26 (by decide) rfl ?_
      refine V_iload_n E dX2_tightRow_27 rfl ?_
      refine V_iconst (v := -1) E dX2_tightRow_28 (by decide) ?_
      cases hr : rsa B b (b + 1) with
      | none =>
        refine V_icmp_eq (tgt := 42) E dX2_tightRow_29 (by decide) (fun _ => ?_) (fun hx => absurd rfl hx)
        refine V_iinc (v := nI (b + 1)) E dX2_tightRow_42 rfl (ni_inc (a := b) (z := 1) (@rfl _ (nI (b)))) (by decide) rfl ?_
        refine V_goto (tgt := 10) E dX2_tightRow_45 (by decide) ?_
        refine V_lo (lo' := [some (.ref (221)), some (.int (nI (la))), some (.int (nI (b + 1))), none]) (And.intro rfl (And.intro rfl (And.intro rfl True.intro))) ?_
        exact ih (b + 1) h2 (by omega) (he.trans (rsb_none hr)) hh2
      | some a =>
        have ha : a < 2 ^ 31 := rsa_lt hr (by omega)
        refine V_icmp_eq (tgt := 42) E dX2_tightRow_29 (by decide) (fun hx => absurd hx (bI_ne ha)) (fun _ => ?_)
        refine V_iload_n E dX2_tightRow_32 rfl ?_
        refine V_if_eq (tgt := 40) E dX2_tightRow_33 (by decide) (fun h33 => ?_) (fun h33 => ?_)
        · have gl : la = 0 := (nI_eq (a := la) (b := 0) (by omega) (by omega)).mp h33
          refine V_iload_n E dX2_tightRow_40 rfl ?_
          exact V_iret E R dX2_tightRow_41 rfl (Nat.le_refl _) (Nat.le_refl _) ⟨by rw [he, rsb_some hr]; show _ = some (Value.int (if la = 0 then nI a else nI b)); (rw [if_pos gl] <;> rfl), h2, rfl⟩
        · have gl : la ≠ 0 := fun e => h33 (by rw [e]; rfl)
          refine V_iload_n E dX2_tightRow_36 rfl ?_
          refine V_goto (tgt := 41) E dX2_tightRow_37 (by decide) ?_
          exact V_iret E R dX2_tightRow_41 rfl (Nat.le_refl _) (Nat.le_refl _) ⟨by rw [he, rsb_some hr]; show _ = some (Value.int (if la = 0 then nI a else nI b)); (rw [if_neg gl] <;> rfl), h2, rfl⟩
  exact outer 60 0 h0 (by omega) rfl (fun f hf => by rw [hh0 f hf, bgn_0]; rfl)

theorem cy_row (l : Launch) (d : Nat) (S : GS) (B : AP) (hB : POKa B) (hQ : YOK S) (hJ : YPl S B) (la : Nat) (hla : la ≤ 1) : GC l (d + 2) yX10_row cX10_row 2 (some FieldType.int) [.ref 200, .int (nI la)] S (fun r S2 => r = some (.int (rans (rsb B 60 0) la)) ∧ ∃ h, S2 = rA S 226 h) (0) (0) := by
  refine GC.ofV (by decide) (Nat.le_of_ble_eq_true rfl) (fun X hl E R hnm => ?_)
  subst hl
  have E : En X RX10 cX10_row 2 (d + 2) (0) (0) := E
  have R : Rt X (some FieldType.int) (fun r S2 => r = some (.int (rans (rsb B 60 0) la)) ∧ ∃ h, S2 = rA S 226 h) := R
  refine V_aload_n E dX10_row_0 rfl ?_
  refine V_getR E fl_X10_48 dX10_row_1 rfl (hQ.k 200 11 rfl (by decide)) (hQ.r 200 8 221 rfl) ?_
  refine V_iload_n E dX10_row_4 rfl ?_
  refine V_callV E (cy_tightRow (x_l X) d S B hB hQ hJ la hla) ml_X10_201 mv_X2_tightRow (hQ.k 221 3 rfl (by decide)) dX10_row_5 rfl (by simp [Value.category]) (by omega) (by omega) (by omega) (fun r S2 hp => ?_)
  obtain ⟨rfl, h, rfl⟩ := hp
  exact V_iret E R dX10_row_8 rfl (Nat.le_refl _) (Nat.le_refl _) ⟨rfl, h, rfl⟩
