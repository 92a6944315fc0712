theorem cy_beginSum (l : Launch) (d : Nat) (S : GS) (hQ : YOK S) (n : Nat) (f1 f2 : Nat → Int64) (hn : n < 9) : GC l (d) yX5_beginSum cX5_beginSum 1 none [.ref 209] (rck S n f1 f2) (fun r S2 => r = none ∧ S2 = rck S n (va_up f1 n 0) (va_up f2 n 1)) (0) (0) := by
  refine GC.ofV (by decide) (Nat.le_of_ble_eq_true rfl) (fun X hl E R hnm => ?_)
  subst hl
  have E : En X RX5 cX5_beginSum 1 (d) (0) (0) := E
  have R : Rt X none (fun r S2 => r = none ∧ S2 = rck S n (va_up f1 n 0) (va_up f2 n 1)) := R
  refine V_aload_n E dX5_beginSum_0 rfl ?_
  refine V_getR E fl_X5_9 dX5_beginSum_1 rfl (hQ.k 209 6 rfl (by decide)) (hQ.r 209 0 210 rfl) ?_
  refine V_aload_n E dX5_beginSum_4 rfl ?_
  refine V_getI E fl_X5_18 dX5_beginSum_5 rfl (hQ.k 209 6 rfl (by decide)) ?_
  refine V_lconst (v := 0) E dX5_beginSum_8 (by decide) ?_
  refine V_las (j := n) E dX5_beginSum_9 (hQ.k 210 22 rfl (by decide)) (rck_n S n f1 f2) (hQ.l 210 9 rfl (by decide)) (by omega) (by decide) ?_
  refine V_cvS (rck_s1 S n f1 f2 (n) (0)) ?_
  refine V_aload_n E dX5_beginSum_10 rfl ?_
  refine V_getR E fl_X5_15 dX5_beginSum_11 rfl (hQ.k 209 6 rfl (by decide)) (hQ.r 209 1 211 rfl) ?_
  refine V_aload_n E dX5_beginSum_14 rfl ?_
  refine V_getI E fl_X5_18 dX5_beginSum_15 rfl (hQ.k 209 6 rfl (by decide)) ?_
  refine V_lconst (v := 1) E dX5_beginSum_18 (by decide) ?_
  refine V_las (j := n) E dX5_beginSum_19 (hQ.k 211 22 rfl (by decide)) (rck_n S n (va_up f1 (n) (0)) f2) (hQ.l 211 9 rfl (by decide)) (by omega) (by decide) ?_
  refine V_cvS (rck_s2 S n (va_up f1 (n) (0)) f2 (n) (1)) ?_
  exact V_vret E R dX5_beginSum_20 (Nat.le_refl _) (Nat.le_refl _) ⟨rfl, rfl⟩

theorem cy_beginTerm (l : Launch) (d : Nat) (S : GS) (hQ : YOK S) (n : Nat) (f1 f2 : Nat → Int64) (hn : n < 9) (z : Int64) : GC l (d) yX5_beginTerm cX5_beginTerm 3 none [.ref 209, .long z] (rck S n f1 f2) (fun r S2 => r = none ∧ S2 = rck S n (va_up f1 n (f1 n + f2 n)) (va_up f2 n z)) (0) (0) := by
  refine GC.ofV (by decide) (Nat.le_of_ble_eq_true rfl) (fun X hl E R hnm => ?_)
  subst hl
  have E : En X RX5 cX5_beginTerm 3 (d) (0) (0) := E
  have R : Rt X none (fun r S2 => r = none ∧ S2 = rck S n (va_up f1 n (f1 n + f2 n)) (va_up f2 n z)) := R
  refine V_aload_n E dX5_beginTerm_0 rfl ?_
  refine V_getR E fl_X5_9 dX5_beginTerm_1 rfl (hQ.k 209 6 rfl (by decide)) (hQ.r 209 0 210 rfl) ?_
  refine V_aload_n E dX5_beginTerm_4 rfl ?_
  refine V_getI E fl_X5_18 dX5_beginTerm_5 rfl (hQ.k 209 6 rfl (by decide)) ?_
  refine V_dup2 E dX5_beginTerm_8 rfl rfl ?_
  refine V_la (j := n) E dX5_beginTerm_9 (hQ.k 210 22 rfl (by decide)) (rck_n S n f1 f2) (hQ.l 210 9 rfl (by decide)) (by omega) (by decide) ?_
  refine V_aload_n E dX5_beginTerm_10 rfl ?_
  refine V_getR E fl_X5_15 dX5_beginTerm_11 rfl (hQ.k 209 6 rfl (by decide)) (hQ.r 209 1 211 rfl) ?_
  refine V_aload_n E dX5_beginTerm_14 rfl ?_
  refine V_getI E fl_X5_18 dX5_beginTerm_15 rfl (hQ.k 209 6 rfl (by decide)) ?_
  refine V_la (j := n) E dX5_beginTerm_18 (hQ.k 211 22 rfl (by decide)) (rck_n S n f1 f2) (hQ.l 211 9 rfl (by decide)) (by omega) (by decide) ?_
  refine V_ladd E dX5_beginTerm_19 ?_
  refine V_cvl (y := f1 n + f2 n) (congr (congrArg (fun a b => a + b) (rck_1 S n f1 f2 n)) (rck_2 S n f1 f2 n)) ?_
  refine V_las (j := n) E dX5_beginTerm_20 (hQ.k 210 22 rfl (by decide)) (rck_n S n f1 f2) (hQ.l 210 9 rfl (by decide)) (by omega) (by decide) ?_
  refine V_cvS (rck_s1 S n f1 f2 (n) (f1 n + f2 n)) ?_
  refine V_aload_n E dX5_beginTerm_21 rfl ?_
  refine V_getR E fl_X5_15 dX5_beginTerm_22 rfl (hQ.k 209 6 rfl (by decide)) (hQ.r 209 1 211 rfl) ?_
  refine V_aload_n E dX5_beginTerm_25 rfl ?_
  refine V_getI E fl_X5_18 dX5_beginTerm_26 rfl (hQ.k 209 6 rfl (by decide)) ?_
  refine V_lload_n E dX5_beginTerm_29 rfl ?_
  refine V_las (j := n) E dX5_beginTerm_30 (hQ.k 211 22 rfl (by decide)) (rck_n S n (va_up f1 (n) (f1 n + f2 n)) f2) (hQ.l 211 9 rfl (by decide)) (by omega) (by decide) ?_
  refine V_cvS (rck_s2 S n (va_up f1 (n) (f1 n + f2 n)) f2 (n) (z)) ?_
  exact V_vret E R dX5_beginTerm_31 (Nat.le_refl _) (Nat.le_refl _) ⟨rfl, rfl⟩

theorem cy_open (l : Launch) (d : Nat) (S : GS) (hQ : YOK S) (n : Nat) (f1 f2 : Nat → Int64) (hn : n < 9) : GC l (d + 1) yX5_open cX5_open 1 none [.ref 209] (rck S n f1 f2) (fun r S2 => r = none ∧ ((n < 8 ∧ S2 = rck S (n + 1) (va_up f1 (n + 1) 0) (va_up f2 (n + 1) 1)) ∨ (n = 8 ∧ S2 = rck S n f1 f2))) (0) (0) := by
  refine GC.ofV (by decide) (Nat.le_of_ble_eq_true rfl) (fun X hl E R hnm => ?_)
  subst hl
  have E : En X RX5 cX5_open 1 (d + 1) (0) (0) := E
  have R : Rt X none (fun r S2 => r = none ∧ ((n < 8 ∧ S2 = rck S (n + 1) (va_up f1 (n + 1) 0) (va_up f2 (n + 1) 1)) ∨ (n = 8 ∧ S2 = rck S n f1 f2))) := R
  refine V_aload_n E dX5_open_0 rfl ?_
  refine V_getI E fl_X5_18 dX5_open_1 rfl (hQ.k 209 6 rfl (by decide)) ?_
  refine V_bipush (v := 8) E dX5_open_4 (by decide) ?_
  refine V_icmp_ge (tgt := 23) E dX5_open_6 (by decide) (fun h6 => ?_) (fun h6 => ?_)
  · rw [rck_n] at h6
    have g6 := (nI_leI (a := 8) (b := n) (by omega) (by omega)).mp h6
    exact V_vret E R dX5_open_23 (Nat.le_refl _) (Nat.le_refl _) ⟨rfl, Or.inr ⟨by omega, rfl⟩⟩
  · rw [rck_n] at h6
    have g6 : ¬ 8 ≤ n := fun z => h6 ((nI_leI (a := 8) (b := n) (by omega) (by omega)).mpr z)
    refine V_aload_n E dX5_open_9 rfl ?_
    refine V_dup E dX5_open_10 rfl ?_
    refine V_getI E fl_X5_18 dX5_open_11 rfl (hQ.k 209 6 rfl (by decide)) ?_
    refine V_iconst (v := 1) E dX5_open_14 (by decide) ?_
    refine V_iadd E dX5_open_15 ?_
    refine V_cvi (y := nI ((n + 1))) (ni_add (a := n) (b := 1) (rck_n S n f1 f2) (rfl : (1 : Int32) = nI 1)) ?_
    refine V_putI E fl_X5_18 dX5_open_16 rfl (hQ.k 209 6 rfl (by decide)) ⟨rfl, rfl⟩ rfl ?_
    refine V_cvS (rck_sn S n f1 f2 ((n + 1))) ?_
    refine V_aload_n E dX5_open_19 rfl ?_
    refine V_callV E (cy_beginSum (x_l X) d S hQ (n + 1) f1 f2 (by omega)) ml_X5_22 mv_X5_beginSum (hQ.k 209 6 rfl (by decide)) dX5_open_20 rfl (by simp [Value.category]) (by omega) (by omega) (by omega) (fun r S2 hp => ?_)
    obtain ⟨rfl, rfl⟩ := hp
    exact V_vret E R dX5_open_23 (Nat.le_refl _) (Nat.le_refl _) ⟨rfl, Or.inl ⟨by omega, rfl⟩⟩

theorem cy_close (l : Launch) (d : Nat) (S : GS) (hQ : YOK S) (n : Nat) (f1 f2 : Nat → Int64) (hn : n < 9) : GC l (d) yX5_close cX5_close 1 none [.ref 209] (rck S n f1 f2) (fun r S2 => r = none ∧ ((∃ m, n = m + 1 ∧ S2 = rck S m f1 (va_up f2 m (f2 m * (f1 (m + 1) + f2 (m + 1))))) ∨ (n = 0 ∧ S2 = rck S n f1 f2))) (0) (0) := by
  refine GC.ofV (by decide) (Nat.le_of_ble_eq_true rfl) (fun X hl E R hnm => ?_)
  subst hl
  have E : En X RX5 cX5_close 1 (d) (0) (0) := E
  have R : Rt X none (fun r S2 => r = none ∧ ((∃ m, n = m + 1 ∧ S2 = rck S m f1 (va_up f2 m (f2 m * (f1 (m + 1) + f2 (m + 1))))) ∨ (n = 0 ∧ S2 = rck S n f1 f2))) := R
  refine V_aload_n E dX5_close_0 rfl ?_
  refine V_getI E fl_X5_18 dX5_close_1 rfl (hQ.k 209 6 rfl (by decide)) ?_
  refine V_if_le (tgt := 52) E dX5_close_4 (by decide) (fun h4 => ?_) (fun h4 => ?_)
  · rw [rck_n] at h4
    have g4 := (nI_leI (a := n) (b := 0) (by omega) (by omega)).mp h4
    exact V_vret E R dX5_close_52 (Nat.le_refl _) (Nat.le_refl _) ⟨rfl, Or.inr ⟨by omega, rfl⟩⟩
  · rw [rck_n] at h4
    have g4 : ¬ n ≤ 0 := fun z => h4 ((nI_leI (a := n) (b := 0) (by omega) (by omega)).mpr z)
    obtain ⟨m, rfl⟩ : ∃ m, n = m + 1 := ⟨n - 1, by omega⟩
    refine V_aload_n E dX5_close_7 rfl ?_
    refine V_dup E dX5_close_8 rfl ?_
    refine V_getI E fl_X5_18 dX5_close_9 rfl (hQ.k 209 6 rfl (by decide)) ?_
    refine V_iconst (v := 1) E dX5_close_12 (by decide) ?_
    refine V_isub E dX5_close_13 ?_
    refine V_cvi (y := nI (m)) (ni_sub (a := (m + 1)) (b := 1) (rck_n S (m + 1) f1 f2) (rfl : (1 : Int32) = nI 1) (by omega)) ?_
    refine V_putI E fl_X5_18 dX5_close_14 rfl (hQ.k 209 6 rfl (by decide)) ⟨rfl, rfl⟩ rfl ?_
    refine V_cvS (rck_sn S (m + 1) f1 f2 m) ?_
    refine V_aload_n E dX5_close_17 rfl ?_
    refine V_getR E fl_X5_15 dX5_close_18 rfl (hQ.k 209 6 rfl (by decide)) (hQ.r 209 1 211 rfl) ?_
    refine V_aload_n E dX5_close_21 rfl ?_
    refine V_getI E fl_X5_18 dX5_close_22 rfl (hQ.k 209 6 rfl (by decide)) ?_
    refine V_dup2 E dX5_close_25 rfl rfl ?_
    refine V_la (j := m) E dX5_close_26 (hQ.k 211 22 rfl (by decide)) (rck_n S m f1 f2) (hQ.l 211 9 rfl (by decide)) (by omega) (by decide) ?_
    refine V_aload_n E dX5_close_27 rfl ?_
    refine V_getR E fl_X5_9 dX5_close_28 rfl (hQ.k 209 6 rfl (by decide)) (hQ.r 209 0 210 rfl) ?_
    refine V_aload_n E dX5_close_31 rfl ?_
    refine V_getI E fl_X5_18 dX5_close_32 rfl (hQ.k 209 6 rfl (by decide)) ?_
    refine V_iconst (v := 1) E dX5_close_35 (by decide) ?_
    refine V_iadd E dX5_close_36 ?_
    refine V_la (j := (m + 1)) E dX5_close_37 (hQ.k 210 22 rfl (by decide)) (ni_add (a := m) (b := 1) (rck_n S m f1 f2) (rfl : (1 : Int32) = nI 1)) (hQ.l 210 9 rfl (by decide)) (by omega) (by decide) ?_
    refine V_aload_n E dX5_close_38 rfl ?_
    refine V_getR E fl_X5_15 dX5_close_39 rfl (hQ.k 209 6 rfl (by decide)) (hQ.r 209 1 211 rfl) ?_
    refine V_aload_n E dX5_close_42 rfl ?_
    refine V_getI E fl_X5_18 dX5_close_43 rfl (hQ.k 209 6 rfl (by decide)) ?_
    refine V_iconst (v := 1) E dX5_close_46 (by decide) ?_
    refine V_iadd E dX5_close_47 ?_
    refine V_la (j := (m + 1)) E dX5_close_48 (hQ.k 211 22 rfl (by decide)) (ni_add (a := m) (b := 1) (rck_n S m f1 f2) (rfl : (1 : Int32) = nI 1)) (hQ.l 211 9 rfl (by decide)) (by omega) (by decide) ?_
    refine V_ladd E dX5_close_49 ?_
    refine V_lmul E dX5_close_50 ?_
    refine V_cvl (y := f2 m * (f1 (m + 1) + f2 (m + 1))) (congr (congrArg (fun a b => a * b) (rck_2 S m f1 f2 m)) (congr (congrArg (fun a b => a + b) (rck_1 S m f1 f2 (m + 1))) (rck_2 S m f1 f2 (m + 1)))) ?_
    refine V_las (j := m) E dX5_close_51 (hQ.k 211 22 rfl (by decide)) (rck_n S m f1 f2) (hQ.l 211 9 rfl (by decide)) (by omega) (by decide) ?_
    refine V_cvS (rck_s2 S m f1 f2 (m) (f2 m * (f1 (m + 1) + f2 (m + 1)))) ?_
    exact V_vret E R dX5_close_52 (Nat.le_refl _) (Nat.le_refl _) ⟨rfl, Or.inl ⟨m, rfl, rfl⟩⟩

theorem cy_work (l : Launch) (d : Nat) (S : GS) (hQ : YOK S) (B : AB) (hB : BOK B) (hV : YVo S B) (v : Nat) (hv : v < bn B) (g r p : Int32) : GC l (d + 2) yX5_work cX5_work 9 (some FieldType.long) [.ref 209, .ref (4000 + v), .int g, .int r, .int p] S (fun o S2 => o = some (.long (tcl (WK (bT B v) g.toInt64 r.toInt64 p.toInt64 0 [(0, 1)] 0))) ∧ ∃ n f1 f2, S2 = rck S n f1 f2) (0) (0) := by
  refine GC.ofV (by decide) (Nat.le_of_ble_eq_true rfl) (fun X hl E R hnm => ?_)
  subst hl
  have E : En X RX5 cX5_work 9 (d + 2) (0) (0) := E
  have R : Rt X (some FieldType.long) (fun o S2 => o = some (.long (tcl (WK (bT B v) g.toInt64 r.toInt64 p.toInt64 0 [(0, 1)] 0))) ∧ ∃ n f1 f2, S2 = rck S n f1 f2) := R
  have hT := (hB.2 v hv).2.2
  have hn := hT.1
  have hb50 := hB.1
  refine V_aload_n E dX5_work_0 rfl ?_
  refine V_iconst (v := 0) E dX5_work_1 (by decide) ?_
  refine V_putI E fl_X5_18 dX5_work_2 rfl (hQ.k 209 6 rfl (by decide)) ⟨rfl, rfl⟩ rfl ?_
  refine V_cvS (S' := rck S 0 (aJ S 210) (aJ S 211)) (rck_in S 0) ?_
  refine V_aload_n E dX5_work_5 rfl ?_
  refine V_callV E (cy_beginSum (x_l X) (d + 1) S hQ 0 (aJ S 210) (aJ S 211) (by omega)) ml_X5_22 mv_X5_beginSum (hQ.k 209 6 rfl (by decide)) dX5_work_6 rfl (by simp [Value.category]) (by omega) (by omega) (by omega) (fun r S2 hp => ?_)
  obtain ⟨rfl, rfl⟩ := hp
  refine V_lconst (v := 0) E dX5_work_9 (by decide) ?_
  refine V_lstore E dX5_work_10 (by decide) rfl ?_
  refine V_iconst (v := 0) E dX5_work_12 (by decide) ?_
  refine V_istore E dX5_work_13 (by decide) rfl ?_
  have loop : ∀ m i n k z f1 f2, i + m = (bT B v).1 → Kst k f1 f2 → (k.length = n + 1 ∧ n ≤ 8) → WK (bT B v) g.toInt64 r.toInt64 p.toInt64 0 [(0, 1)] 0 = WK (bT B v) g.toInt64 r.toInt64 p.toInt64 i k z → V X 15 [some (.ref (209)), some (.ref (4000 + v)), some (.int (g)), some (.int (r)), some (.int (p)), some (.long (z)), none, some (.int (nI (i))), none] [] (rck S n f1 f2) 0 0 := by
    intro m
    induction m with
    | zero =>
      intro i n k z f1 f2 hp hK hk hW
      have hW := hW.trans (WK_end (by omega))
      refine V_iload E dX5_work_15 rfl ?_
      refine V_aload_n E dX5_work_17 rfl ?_
      refine V_getIN E fn_X5_25 dX5_work_18 rfl (hV.tk v hv) ?_
      refine V_ge_yes (a := i) (b := (bT B v).1) (tgt := 262) E dX5_work_21 (by decide) (@rfl _ (nI (i))) ((rck_f S n f1 f2 (by omega)).trans (hV.L v hv)) (by omega) (by omega) ?_
      refine V_lconst (v := 0) E dX5_work_262 (by decide) ?_
      refine V_ldc2 E dX5_work_263 kl_X5_52 ?_
      refine V_aload_n E dX5_work_266 rfl ?_
      refine V_getR E fl_X5_9 dX5_work_267 rfl (hQ.k 209 6 rfl (by decide)) (hQ.r 209 0 210 rfl) ?_
      refine V_iconst (v := 0) E dX5_work_270 (by decide) ?_
      refine V_la (j := 0) E dX5_work_271 (hQ.k 210 22 rfl (by decide)) (rfl : (0 : Int32) = nI 0) (hQ.l 210 9 rfl (by decide)) (by omega) (by decide) ?_
      refine V_aload_n E dX5_work_272 rfl ?_
      refine V_getR E fl_X5_15 dX5_work_273 rfl (hQ.k 209 6 rfl (by decide)) (hQ.r 209 1 211 rfl) ?_
      refine V_iconst (v := 0) E dX5_work_276 (by decide) ?_
      refine V_la (j := 0) E dX5_work_277 (hQ.k 211 22 rfl (by decide)) (rfl : (0 : Int32) = nI 0) (hQ.l 211 9 rfl (by decide)) (by omega) (by decide) ?_
      refine V_ladd E dX5_work_278 ?_
      refine V_lmin E ml_X5_54 dX5_work_279 (by simp [Value.category]) (by omega) (Nat.le_refl _) (Nat.le_refl _) ?_
      refine V_lmax E ml_X5_60 dX5_work_282 (by simp [Value.category]) (by omega) (Nat.le_refl _) (Nat.le_refl _) ?_
      exact V_lret E R dX5_work_285 (Nat.le_refl _) (Nat.le_refl _) ⟨congrArg (fun q => some (Value.long q)) (by rw [tcl_mm, hW, ← hK.endT (by omega)]; exact congrArg tcl (congr (congrArg (fun a b => a + b) (rck_1 S n f1 f2 0)) (rck_2 S n f1 f2 0))), n, f1, f2, rfl⟩
    | succ m ih =>
      intro i n k z f1 f2 hp hK hk hW
      have hi : i < (bT B v).1 := by omega
      have hbb := hT.2 i hi
      have vb := bv_or hbb.2
      refine V_iload E dX5_work_15 rfl ?_
      refine V_aload_n E dX5_work_17 rfl ?_
      refine V_getIN E fn_X5_25 dX5_work_18 rfl (hV.tk v hv) ?_
      refine V_ge_no (a := i) (b := (bT B v).1) (tgt := 262) E dX5_work_21 (by decide) (@rfl _ (nI (i))) ((rck_f S n f1 f2 (by omega)).trans (hV.L v hv)) (by omega) (by omega) ?_
      refine V_aload_n E dX5_work_24 rfl ?_
      refine V_getRN E fn_X5_30 dX5_work_25 rfl (hV.tk v hv) (hV.br v hv) ?_
      refine V_iload E dX5_work_28 rfl ?_
      refine V_ba (j := i) E dX5_work_30 (hV.bk v hv) (@rfl _ (nI (i))) (hV.bl v hv) (by omega) (by omega) ?_
      refine V_cvi (hV.b v hv i hi) ?_
      refine V_istore E dX5_work_31 (by decide) rfl ?_
      refine V_iload E dX5_work_33 rfl ?_
      refine V_callS E (cy_isDigit (x_l X) (d + 1) (rck S n f1 f2) ((bT B v).2 i) hbb.2) ml_X5_34 ms_X6_isDigit dX5_work_35 rfl (by simp [Value.category]) (by omega) (by omega) (by omega) (fun r S2 hp => ?_)
      obtain ⟨rfl, hS2⟩ := hp
      obtain rfl := hS2.symm
      refine V_ifeq_b (tgt := 102) E dX5_work_38 (by decide) (fun hc38 => ?_) (fun hc38 => ?_)
      · refine V_iload E dX5_work_102 rfl ?_
        by_cases e40 : (bT B v).2 i = 40
        · refine V_lookup (off := 138) (tgt := 242) E dX5_work_104 (by decide) (by rw [e40]; decide) (by decide) ?_
          refine V_aload_n E dX5_work_242 rfl ?_
          refine V_callV E (cy_open (x_l X) d S hQ n f1 f2 (by omega)) ml_X5_46 mv_X5_open (hQ.k 209 6 rfl (by decide)) dX5_work_243 rfl (by simp [Value.category]) (by omega) (by omega) (by omega) (fun r S2 hp => ?_)
          rcases hp with ⟨rfl, ⟨hn8, rfl⟩ | ⟨hn8, rfl⟩⟩
          · refine V_goto (tgt := 256) E dX5_work_246 (by decide) ?_
            refine V_iinc (v := nI (i + 1)) E dX5_work_256 rfl (ni_inc (a := i) (z := 1) (@rfl _ (nI (i)))) (by decide) rfl ?_
            refine V_goto (tgt := 15) E dX5_work_259 (by decide) ?_
            refine V_lo (lo' := [some (.ref (209)), some (.ref (4000 + v)), some (.int (g)), some (.int (r)), some (.int (p)), some (.long (z)), none, some (.int (nI (i + 1))), none]) (And.intro rfl (And.intro rfl (And.intro rfl (And.intro rfl (And.intro rfl (And.intro rfl (And.intro rfl True.intro))))))) ?_
            exact ih (i + 1) (n + 1) ((0, 1) :: k) z (va_up f1 (n + 1) 0) (va_up f2 (n + 1) 1) (by omega) (hK.opn hk.1) ⟨by rw [List.length_cons, hk.1], by omega⟩ (hW.trans ((WK_o hi hc38).trans (by rw [e40, ← opnT_l (k := k) (by omega)]; rfl)))
          · refine V_goto (tgt := 256) E dX5_work_246 (by decide) ?_
            refine V_iinc (v := nI (i + 1)) E dX5_work_256 rfl (ni_inc (a := i) (z := 1) (@rfl _ (nI (i)))) (by decide) rfl ?_
            refine V_goto (tgt := 15) E dX5_work_259 (by decide) ?_
            refine V_lo (lo' := [some (.ref (209)), some (.ref (4000 + v)), some (.int (g)), some (.int (r)), some (.int (p)), some (.long (z)), none, some (.int (nI (i + 1))), none]) (And.intro rfl (And.intro rfl (And.intro rfl (And.intro rfl (And.intro rfl (And.intro rfl (And.intro rfl True.intro))))))) ?_
            exact ih (i + 1) n (k) z f1 f2 (by omega) (hK) hk (hW.trans ((WK_o hi hc38).trans (by rw [e40]; exact congrArg (fun q => WK (bT B v) g.toInt64 r.toInt64 p.toInt64 (i + 1) q z) (opnT_9 (by omega)))))
        by_cases e41 : (bT B v).2 i = 41
        · refine V_lookup (off := 145) (tgt := 249) E dX5_work_104 (by decide) (by rw [e41]; decide) (by decide) ?_
          refine V_aload_n E dX5_work_249 rfl ?_
          refine V_callV E (cy_close (x_l X) (d + 1) S hQ n f1 f2 (by omega)) ml_X5_49 mv_X5_close (hQ.k 209 6 rfl (by decide)) dX5_work_250 rfl (by simp [Value.category]) (by omega) (by omega) (by omega) (fun r S2 hp => ?_)
          rcases hp with ⟨rfl, ⟨m2, rfl, rfl⟩ | ⟨hn0, rfl⟩⟩
          · refine V_goto (tgt := 256) E dX5_work_253 (by decide) ?_
            refine V_iinc (v := nI (i + 1)) E dX5_work_256 rfl (ni_inc (a := i) (z := 1) (@rfl _ (nI (i)))) (by decide) rfl ?_
            refine V_goto (tgt := 15) E dX5_work_259 (by decide) ?_
            refine V_lo (lo' := [some (.ref (209)), some (.ref (4000 + v)), some (.int (g)), some (.int (r)), some (.int (p)), some (.long (z)), none, some (.int (nI (i + 1))), none]) (And.intro rfl (And.intro rfl (And.intro rfl (And.intro rfl (And.intro rfl (And.intro rfl (And.intro rfl True.intro))))))) ?_
            exact ih (i + 1) m2 (clsT k) z f1 (va_up f2 m2 (f2 m2 * (f1 (m2 + 1) + f2 (m2 + 1)))) (by omega) ((hK.cls (by omega)).1) ⟨(hK.cls (by omega)).2, by omega⟩ (hW.trans ((WK_o hi hc38).trans (by rw [e41]; rfl)))
          · refine V_goto (tgt := 256) E dX5_work_253 (by decide) ?_
            refine V_iinc (v := nI (i + 1)) E dX5_work_256 rfl (ni_inc (a := i) (z := 1) (@rfl _ (nI (i)))) (by decide) rfl ?_
            refine V_goto (tgt := 15) E dX5_work_259 (by decide) ?_
            refine V_lo (lo' := [some (.ref (209)), some (.ref (4000 + v)), some (.int (g)), some (.int (r)), some (.int (p)), some (.long (z)), none, some (.int (nI (i + 1))), none]) (And.intro rfl (And.intro rfl (And.intro rfl (And.intro rfl (And.intro rfl (And.intro rfl (And.intro rfl True.intro))))))) ?_
            exact ih (i + 1) n (k) z f1 f2 (by omega) (hK) hk (hW.trans ((WK_o hi hc38).trans (by rw [e41]; exact congrArg (fun q => WK (bT B v) g.toInt64 r.toInt64 p.toInt64 (i + 1) q z) (clsT_1 (by omega)))))
        by_cases e43 : (bT B v).2 i = 43
        · refine V_lookup (off := 120) (tgt := 224) E dX5_work_104 (by decide) (by rw [e43]; decide) (by decide) ?_
          refine V_aload_n E dX5_work_224 rfl ?_
          refine V_lconst (v := 1) E dX5_work_225 (by decide) ?_
          refine V_callV E (cy_beginTerm (x_l X) (d + 1) S hQ n f1 f2 (by omega) (1)) ml_X5_40 mv_X5_beginTerm (hQ.k 209 6 rfl (by decide)) dX5_work_226 rfl (by simp [Value.category]) (by omega) (by omega) (by omega) (fun r S2 hp => ?_)
          obtain ⟨rfl, rfl⟩ := hp
          refine V_goto (tgt := 256) E dX5_work_229 (by decide) ?_
          refine V_iinc (v := nI (i + 1)) E dX5_work_256 rfl (ni_inc (a := i) (z := 1) (@rfl _ (nI (i)))) (by decide) rfl ?_
          refine V_goto (tgt := 15) E dX5_work_259 (by decide) ?_
          refine V_lo (lo' := [some (.ref (209)), some (.ref (4000 + v)), some (.int (g)), some (.int (r)), some (.int (p)), some (.long (z)), none, some (.int (nI (i + 1))), none]) (And.intro rfl (And.intro rfl (And.intro rfl (And.intro rfl (And.intro rfl (And.intro rfl (And.intro rfl True.intro))))))) ?_
          exact ih (i + 1) n (newT k (1)) z (va_up f1 n (f1 n + f2 n)) (va_up f2 n (1)) (by omega) (hK.new hk.1 _) ⟨by rw [len_newT]; exact hk.1, hk.2⟩ (hW.trans ((WK_o hi hc38).trans (by rw [e43]; rfl)))
        by_cases e45 : (bT B v).2 i = 45
        · refine V_lookup (off := 128) (tgt := 232) E dX5_work_104 (by decide) (by rw [e45]; decide) (by decide) ?_
          refine V_aload_n E dX5_work_232 rfl ?_
          refine V_ldc2 E dX5_work_233 kl_X5_44 ?_
          refine V_callV E (cy_beginTerm (x_l X) (d + 1) S hQ n f1 f2 (by omega) ((-1))) ml_X5_40 mv_X5_beginTerm (hQ.k 209 6 rfl (by decide)) dX5_work_236 rfl (by simp [Value.category]) (by omega) (by omega) (by omega) (fun r S2 hp => ?_)
          obtain ⟨rfl, rfl⟩ := hp
          refine V_goto (tgt := 256) E dX5_work_239 (by decide) ?_
          refine V_iinc (v := nI (i + 1)) E dX5_work_256 rfl (ni_inc (a := i) (z := 1) (@rfl _ (nI (i)))) (by decide) rfl ?_
          refine V_goto (tgt := 15) E dX5_work_259 (by decide) ?_
          refine V_lo (lo' := [some (.ref (209)), some (.ref (4000 + v)), some (.int (g)), some (.int (r)), some (.int (p)), some (.long (z)), none, some (.int (nI (i + 1))), none]) (And.intro rfl (And.intro rfl (And.intro rfl (And.intro rfl (And.intro rfl (And.intro rfl (And.intro rfl True.intro))))))) ?_
          exact ih (i + 1) n (newT k (-1)) z (va_up f1 n (f1 n + f2 n)) (va_up f2 n ((-1))) (by omega) (hK.new hk.1 _) ⟨by rw [len_newT]; exact hk.1, hk.2⟩ (hW.trans ((WK_o hi hc38).trans (by rw [e45]; rfl)))
        by_cases e103 : (bT B v).2 i = 103
        · refine V_lookup (off := 68) (tgt := 172) E dX5_work_104 (by decide) (by rw [e103]; decide) (by decide) ?_
          refine V_aload_n E dX5_work_172 rfl ?_
          refine V_getR E fl_X5_15 dX5_work_173 rfl (hQ.k 209 6 rfl (by decide)) (hQ.r 209 1 211 rfl) ?_
          refine V_aload_n E dX5_work_176 rfl ?_
          refine V_getI E fl_X5_18 dX5_work_177 rfl (hQ.k 209 6 rfl (by decide)) ?_
          refine V_dup2 E dX5_work_180 rfl rfl ?_
          refine V_la (j := n) E dX5_work_181 (hQ.k 211 22 rfl (by decide)) (rck_n S n f1 f2) (hQ.l 211 9 rfl (by decide)) (by omega) (by decide) ?_
          refine V_iload_n E dX5_work_182 rfl ?_
          refine V_i2l E dX5_work_183 rfl ?_
          refine V_lmul E dX5_work_184 ?_
          refine V_cvl (y := f2 n * g.toInt64) (congrArg (fun q => q * g.toInt64) (rck_2 S n f1 f2 n)) ?_
          refine V_las (j := n) E dX5_work_185 (hQ.k 211 22 rfl (by decide)) (rck_n S n f1 f2) (hQ.l 211 9 rfl (by decide)) (by omega) (by decide) ?_
          refine V_cvS (rck_s2 S n f1 f2 (n) (f2 n * g.toInt64)) ?_
          refine V_goto (tgt := 256) E dX5_work_186 (by decide) ?_
          refine V_iinc (v := nI (i + 1)) E dX5_work_256 rfl (ni_inc (a := i) (z := 1) (@rfl _ (nI (i)))) (by decide) rfl ?_
          refine V_goto (tgt := 15) E dX5_work_259 (by decide) ?_
          refine V_lo (lo' := [some (.ref (209)), some (.ref (4000 + v)), some (.int (g)), some (.int (r)), some (.int (p)), some (.long (z)), none, some (.int (nI (i + 1))), none]) (And.intro rfl (And.intro rfl (And.intro rfl (And.intro rfl (And.intro rfl (And.intro rfl (And.intro rfl True.intro))))))) ?_
          exact ih (i + 1) n (mulT k g.toInt64) z f1 (va_up f2 (n) (f2 n * g.toInt64)) (by omega) (hK.mul hk.1 _) ⟨by rw [len_mulT]; exact hk.1, hk.2⟩ (hW.trans ((WK_o hi hc38).trans (by rw [e103]; rfl)))
        by_cases e112 : (bT B v).2 i = 112
        · refine V_lookup (off := 102) (tgt := 206) E dX5_work_104 (by decide) (by rw [e112]; decide) (by decide) ?_
          refine V_aload_n E dX5_work_206 rfl ?_
          refine V_getR E fl_X5_15 dX5_work_207 rfl (hQ.k 209 6 rfl (by decide)) (hQ.r 209 1 211 rfl) ?_
          refine V_aload_n E dX5_work_210 rfl ?_
          refine V_getI E fl_X5_18 dX5_work_211 rfl (hQ.k 209 6 rfl (by decide)) ?_
          refine V_dup2 E dX5_work_214 rfl rfl ?_
          refine V_la (j := n) E dX5_work_215 (hQ.k 211 22 rfl (by decide)) (rck_n S n f1 f2) (hQ.l 211 9 rfl (by decide)) (by omega) (by decide) ?_
          refine V_iload E dX5_work_216 rfl ?_
          refine V_i2l E dX5_work_218 rfl ?_
          refine V_lmul E dX5_work_219 ?_
          refine V_cvl (y := f2 n * p.toInt64) (congrArg (fun q => q * p.toInt64) (rck_2 S n f1 f2 n)) ?_
          refine V_las (j := n) E dX5_work_220 (hQ.k 211 22 rfl (by decide)) (rck_n S n f1 f2) (hQ.l 211 9 rfl (by decide)) (by omega) (by decide) ?_
          refine V_cvS (rck_s2 S n f1 f2 (n) (f2 n * p.toInt64)) ?_
          refine V_goto (tgt := 256) E dX5_work_221 (by decide) ?_
          refine V_iinc (v := nI (i + 1)) E dX5_work_256 rfl (ni_inc (a := i) (z := 1) (@rfl _ (nI (i)))) (by decide) rfl ?_
          refine V_goto (tgt := 15) E dX5_work_259 (by decide) ?_
          refine V_lo (lo' := [some (.ref (209)), some (.ref (4000 + v)), some (.int (g)), some (.int (r)), some (.int (p)), some (.long (z)), none, some (.int (nI (i + 1))), none]) (And.intro rfl (And.intro rfl (And.intro rfl (And.intro rfl (And.intro rfl (And.intro rfl (And.intro rfl True.intro))))))) ?_
          exact ih (i + 1) n (mulT k p.toInt64) z f1 (va_up f2 (n) (f2 n * p.toInt64)) (by omega) (hK.mul hk.1 _) ⟨by rw [len_mulT]; exact hk.1, hk.2⟩ (hW.trans ((WK_o hi hc38).trans (by rw [e112]; rfl)))
        by_cases e113 : (bT B v).2 i = 113
        · refine V_lookup (off := 85) (tgt := 189) E dX5_work_104 (by decide) (by rw [e113]; decide) (by decide) ?_
          refine V_aload_n E dX5_work_189 rfl ?_
          refine V_getR E fl_X5_15 dX5_work_190 rfl (hQ.k 209 6 rfl (by decide)) (hQ.r 209 1 211 rfl) ?_
          refine V_aload_n E dX5_work_193 rfl ?_
          refine V_getI E fl_X5_18 dX5_work_194 rfl (hQ.k 209 6 rfl (by decide)) ?_
          refine V_dup2 E dX5_work_197 rfl rfl ?_
          refine V_la (j := n) E dX5_work_198 (hQ.k 211 22 rfl (by decide)) (rck_n S n f1 f2) (hQ.l 211 9 rfl (by decide)) (by omega) (by decide) ?_
          refine V_iload_n E dX5_work_199 rfl ?_
          refine V_i2l E dX5_work_200 rfl ?_
          refine V_lmul E dX5_work_201 ?_
          refine V_cvl (y := f2 n * r.toInt64) (congrArg (fun q => q * r.toInt64) (rck_2 S n f1 f2 n)) ?_
          refine V_las (j := n) E dX5_work_202 (hQ.k 211 22 rfl (by decide)) (rck_n S n f1 f2) (hQ.l 211 9 rfl (by decide)) (by omega) (by decide) ?_
          refine V_cvS (rck_s2 S n f1 f2 (n) (f2 n * r.toInt64)) ?_
          refine V_goto (tgt := 256) E dX5_work_203 (by decide) ?_
          refine V_iinc (v := nI (i + 1)) E dX5_work_256 rfl (ni_inc (a := i) (z := 1) (@rfl _ (nI (i)))) (by decide) rfl ?_
          refine V_goto (tgt := 15) E dX5_work_259 (by decide) ?_
          refine V_lo (lo' := [some (.ref (209)), some (.ref (4000 + v)), some (.int (g)), some (.int (r)), some (.int (p)), some (.long (z)), none, some (.int (nI (i + 1))), none]) (And.intro rfl (And.intro rfl (And.intro rfl (And.intro rfl (And.intro rfl (And.intro rfl (And.intro rfl True.intro))))))) ?_
          exact ih (i + 1) n (mulT k r.toInt64) z f1 (va_up f2 (n) (f2 n * r.toInt64)) (by omega) (hK.mul hk.1 _) ⟨by rw [len_mulT]; exact hk.1, hk.2⟩ (hW.trans ((WK_o hi hc38).trans (by rw [e113]; rfl)))
        refine V_lookup (off := 152) (tgt := 256) E dX5_work_104 (by decide) (lks (by omega)) (by decide) ?_
        refine V_iinc (v := nI (i + 1)) E dX5_work_256 rfl (ni_inc (a := i) (z := 1) (@rfl _ (nI (i)))) (by decide) rfl ?_
        refine V_goto (tgt := 15) E dX5_work_259 (by decide) ?_
        refine V_lo (lo' := [some (.ref (209)), some (.ref (4000 + v)), some (.int (g)), some (.int (r)), some (.int (p)), some (.long (z)), none, some (.int (nI (i + 1))), none]) (And.intro rfl (And.intro rfl (And.intro rfl (And.intro rfl (And.intro rfl (And.intro rfl (And.intro rfl True.intro))))))) ?_
        exact ih (i + 1) n (k) z f1 f2 (by omega) (hK) hk (hW.trans ((WK_o hi hc38).trans (congrArg (fun q => WK (bT B v) g.toInt64 r.toInt64 p.toInt64 (i + 1) q z) (by unfold stpT; rw [if_neg e103, if_neg e113, if_neg e112, if_neg e43, if_neg e45, if_neg e40, if_neg e41]))))
      · refine V_lload E dX5_work_41 rfl ?_
        refine V_ldc2 E dX5_work_43 kl_X5_38 ?_
        refine V_lmul E dX5_work_46 ?_
        refine V_iload E dX5_work_47 rfl ?_
        refine V_bipush (v := 48) E dX5_work_49 (by decide) ?_
        refine V_isub E dX5_work_51 ?_
        refine V_i2l E dX5_work_52 rfl ?_
        refine V_ladd E dX5_work_53 ?_
        refine V_cvl (y := z * 10 + lN (((bT B v).2 i) - 48)) (congrArg (fun q => z * 10 + q) (dig_l hc38)) ?_
        refine V_lstore E dX5_work_54 (by decide) rfl ?_
        have J82 : ¬ (i + 1 < (bT B v).1 ∧ dg ((bT B v).2 (i + 1))) → V X 82 [some (.ref (209)), some (.ref (4000 + v)), some (.int (g)), some (.int (r)), some (.int (p)), some (.long ((z * 10 + lN (((bT B v).2 i) - 48)))), none, some (.int (nI (i))), some (.int ((bv ((bT B v).2 i))))] [] (rck S n f1 f2) 0 0 := by
          intro hx
          refine V_aload_n E dX5_work_82 rfl ?_
          refine V_getR E fl_X5_15 dX5_work_83 rfl (hQ.k 209 6 rfl (by decide)) (hQ.r 209 1 211 rfl) ?_
          refine V_aload_n E dX5_work_86 rfl ?_
          refine V_getI E fl_X5_18 dX5_work_87 rfl (hQ.k 209 6 rfl (by decide)) ?_
          refine V_dup2 E dX5_work_90 rfl rfl ?_
          refine V_la (j := n) E dX5_work_91 (hQ.k 211 22 rfl (by decide)) (rck_n S n f1 f2) (hQ.l 211 9 rfl (by decide)) (by omega) (by decide) ?_
          refine V_lload E dX5_work_92 rfl ?_
          refine V_lmul E dX5_work_94 ?_
          refine V_cvl (y := f2 n * (z * 10 + lN (((bT B v).2 i) - 48))) (congrArg (fun q => q * (z * 10 + lN (((bT B v).2 i) - 48))) (rck_2 S n f1 f2 n)) ?_
          refine V_las (j := n) E dX5_work_95 (hQ.k 211 22 rfl (by decide)) (rck_n S n f1 f2) (hQ.l 211 9 rfl (by decide)) (by omega) (by decide) ?_
          refine V_cvS (rck_s2 S n f1 f2 (n) (f2 n * (z * 10 + lN (((bT B v).2 i) - 48)))) ?_
          refine V_lconst (v := 0) E dX5_work_96 (by decide) ?_
          refine V_lstore E dX5_work_97 (by decide) rfl ?_
          refine V_goto (tgt := 256) E dX5_work_99 (by decide) ?_
          refine V_iinc (v := nI (i + 1)) E dX5_work_256 rfl (ni_inc (a := i) (z := 1) (@rfl _ (nI (i)))) (by decide) rfl ?_
          refine V_goto (tgt := 15) E dX5_work_259 (by decide) ?_
          refine V_lo (lo' := [some (.ref (209)), some (.ref (4000 + v)), some (.int (g)), some (.int (r)), some (.int (p)), some (.long (0)), none, some (.int (nI (i + 1))), none]) (And.intro rfl (And.intro rfl (And.intro rfl (And.intro rfl (And.intro rfl (And.intro rfl (And.intro rfl True.intro))))))) ?_
          exact ih (i + 1) n (mulT k (z * 10 + lN (((bT B v).2 i) - 48))) 0 f1 (va_up f2 (n) (f2 n * (z * 10 + lN (((bT B v).2 i) - 48)))) (by omega) (hK.mul hk.1 _) ⟨by rw [len_mulT]; exact hk.1, hk.2⟩ (hW.trans (WK_d2 hi hc38 hx))
        refine V_iload E dX5_work_56 rfl ?_
        refine V_iconst (v := 1) E dX5_work_58 (by decide) ?_
        refine V_iadd E dX5_work_59 ?_
        refine V_aload_n E dX5_work_60 rfl ?_
        refine V_getIN E fn_X5_25 dX5_work_61 rfl (hV.tk v hv) ?_
        refine V_icmp_eq (tgt := 82) E dX5_work_64 (by decide) (fun h64 => ?_) (fun h64 => ?_)
        · rw [(ni_add (a := i) (b := 1) (@rfl _ (nI (i))) (rfl : (1 : Int32) = nI 1)), ((rck_f S n f1 f2 (by omega)).trans (hV.L v hv))] at h64
          have g64 := (nI_eq (a := i + 1) (b := (bT B v).1) (by omega) (by omega)).mp h64
          have hx : ¬ (i + 1 < (bT B v).1 ∧ dg ((bT B v).2 (i + 1))) := fun z => by omega
          exact J82 hx
        · rw [(ni_add (a := i) (b := 1) (@rfl _ (nI (i))) (rfl : (1 : Int32) = nI 1)), ((rck_f S n f1 f2 (by omega)).trans (hV.L v hv))] at h64
          have g64 : i + 1 < (bT B v).1 := by rcases Nat.lt_or_ge (i + 1) (bT B v).1 with e | e; exact e; exact absurd (congrArg nI (by omega : i + 1 = (bT B v).1)) h64
          have hb2 := hT.2 (i + 1) g64
          refine V_aload_n E dX5_work_67 rfl ?_
          refine V_getRN E fn_X5_30 dX5_work_68 rfl (hV.tk v hv) (hV.br v hv) ?_
          refine V_iload E dX5_work_71 rfl ?_
          refine V_iconst (v := 1) E dX5_work_73 (by decide) ?_
          refine V_iadd E dX5_work_74 ?_
          refine V_ba (j := (i + 1)) E dX5_work_75 (hV.bk v hv) (ni_add (a := i) (b := 1) (@rfl _ (nI (i))) (rfl : (1 : Int32) = nI 1)) (hV.bl v hv) (by omega) (by omega) ?_
          refine V_cvi (hV.b v hv (i + 1) g64) ?_
          refine V_callS E (cy_isDigit (x_l X) (d + 1) (rck S n f1 f2) ((bT B v).2 (i + 1)) hb2.2) ml_X5_34 ms_X6_isDigit dX5_work_76 rfl (by simp [Value.category]) (by omega) (by omega) (by omega) (fun r S2 hp => ?_)
          obtain ⟨rfl, hS2⟩ := hp
          obtain rfl := hS2.symm
          refine V_ifne_b (tgt := 256) E dX5_work_79 (by decide) (fun hc79 => ?_) (fun hc79 => ?_)
          · refine V_iinc (v := nI (i + 1)) E dX5_work_256 rfl (ni_inc (a := i) (z := 1) (@rfl _ (nI (i)))) (by decide) rfl ?_
            refine V_goto (tgt := 15) E dX5_work_259 (by decide) ?_
            refine V_lo (lo' := [some (.ref (209)), some (.ref (4000 + v)), some (.int (g)), some (.int (r)), some (.int (p)), some (.long ((z * 10 + lN (((bT B v).2 i) - 48)))), none, some (.int (nI (i + 1))), none]) (And.intro rfl (And.intro rfl (And.intro rfl (And.intro rfl (And.intro rfl (And.intro rfl (And.intro rfl True.intro))))))) ?_
            exact ih (i + 1) n (k) (z * 10 + lN (((bT B v).2 i) - 48)) f1 f2 (by omega) (hK) hk (hW.trans (WK_d1 hi hc38 ⟨g64, hc79⟩))
          · have hx : ¬ (i + 1 < (bT B v).1 ∧ dg ((bT B v).2 (i + 1))) := fun z => hc79 z.2
            exact J82 hx
  refine V_lo (lo' := [some (.ref (209)), some (.ref (4000 + v)), some (.int (g)), some (.int (r)), some (.int (p)), some (.long (0)), none, some (.int (0)), none]) (And.intro rfl (And.intro rfl (And.intro rfl (And.intro rfl (And.intro rfl (And.intro rfl (And.intro rfl True.intro))))))) ?_
  exact loop (bT B v).1 0 0 [(0, 1)] 0 _ _ (by omega) ⟨va_up_self _ _ _, va_up_self _ _ _, trivial⟩ ⟨rfl, by omega⟩ rfl
