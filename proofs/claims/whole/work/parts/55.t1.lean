theorem cm_end (l : Launch) (d : Nat) (S : GS) (T : AT) (hT : TOK T) (hM : MOK S) (hX : MTx S T) (x : Int32) : GC l (d) yX11_end cX11_end 2 (some FieldType.boolean) [.ref 0, .int x] S (fun r S2 => (wi_ x 0 T.1 ∧ r = some (.int 1) ∧ S2 = sI S 0 17 x) ∨ (¬ wi_ x 0 T.1 ∧ r = some (.int 0) ∧ S2 = S)) (0) (0) := by
  refine GC.ofV (by decide) (Nat.le_of_ble_eq_true rfl) (fun X hl E R hnm => ?_)
  subst hl
  have E : En X RX11 cX11_end 2 (d) (0) (0) := E
  have R : Rt X (some FieldType.boolean) (fun r S2 => (wi_ x 0 T.1 ∧ r = some (.int 1) ∧ S2 = sI S 0 17 x) ∨ (¬ wi_ x 0 T.1 ∧ r = some (.int 0) ∧ S2 = S)) := R
  have hn := hT.1
  have z0 : ((0 : Int32)).toInt = 0 := rfl
  refine V_iload_n E dX11_end_0 rfl ?_
  refine V_if_lt (tgt := 12) E dX11_end_1 (by decide) (fun h1 => ?_) (fun h1 => ?_)
  · have g : ¬ wi_ x 0 T.1 := fun q => by have := q.1; rw [fa_lt] at h1; omega
    refine V_iconst (v := 0) E dX11_end_12 (by decide) ?_
    exact V_iret E R dX11_end_13 rfl (Nat.le_refl _) (Nat.le_refl _) (Or.inr ⟨g, rfl, rfl⟩)
  · rw [fa_lt] at h1
    refine V_iload_n E dX11_end_4 rfl ?_
    refine V_aload_n E dX11_end_5 rfl ?_
    refine V_getI E fl_X11_166 dX11_end_6 rfl hM.o ?_
    refine V_icmp_le (tgt := 14) E dX11_end_9 (by decide) (fun h9 => ?_) (fun h9 => ?_)
    · have g : wi_ x 0 T.1 := ⟨by omega, by rw [fa_le, hX.1, nI_toInt (by omega)] at h9; exact h9⟩
      refine V_aload_n E dX11_end_14 rfl ?_
      refine V_iload_n E dX11_end_15 rfl ?_
      refine V_putI E fl_X11_166 dX11_end_16 rfl hM.o ⟨rfl, rfl⟩ rfl ?_
      refine V_iconst (v := 1) E dX11_end_19 (by decide) ?_
      exact V_iret E R dX11_end_20 rfl (Nat.le_refl _) (Nat.le_refl _) (Or.inl ⟨g, rfl, rfl⟩)
    · have g : ¬ wi_ x 0 T.1 := fun q => h9 (by rw [fa_le, hX.1, nI_toInt (by omega)]; exact q.2)
      refine V_iconst (v := 0) E dX11_end_12 (by decide) ?_
      exact V_iret E R dX11_end_13 rfl (Nat.le_refl _) (Nat.le_refl _) (Or.inr ⟨g, rfl, rfl⟩)

theorem cy_cutTo (l : Launch) (d : Nat) (S : GS) (hQ : YOK S) (x : Int32) : GC l (d) yX6_cutTo cX6_cutTo 2 none [.ref 205, .int x] S (fun r S2 => r = none ∧ S2 = sI S 205 1 x) (0) (0) := by
  refine GC.ofV (by decide) (Nat.le_of_ble_eq_true rfl) (fun X hl E R hnm => ?_)
  subst hl
  have E : En X RX6 cX6_cutTo 2 (d) (0) (0) := E
  have R : Rt X none (fun r S2 => r = none ∧ S2 = sI S 205 1 x) := R
  refine V_aload_n E dX6_cutTo_0 rfl ?_
  refine V_iload_n E dX6_cutTo_1 rfl ?_
  refine V_putI E fl_X6_21 dX6_cutTo_2 rfl (hQ.k 205 7 rfl (by decide)) ⟨rfl, rfl⟩ rfl ?_
  exact V_vret E R dX6_cutTo_5 (Nat.le_refl _) (Nat.le_refl _) ⟨rfl, rfl⟩

theorem cy_end (l : Launch) (d : Nat) (S : GS) (T : AT) (hT : TOK T) (hQ : YOK S) (hX : YTx S T) (x : Int32) : GC l (d + 1) yX10_end cX10_end 2 (some FieldType.boolean) [.ref 200, .int x] S (fun r S2 => (wi_ x 0 T.1 ∧ r = some (.int 1) ∧ S2 = sI S 205 1 x) ∨ (¬ wi_ x 0 T.1 ∧ r = some (.int 0) ∧ S2 = S)) (0) (0) := by
  refine GC.ofV (by decide) (Nat.le_of_ble_eq_true rfl) (fun X hl E R hnm => ?_)
  subst hl
  have E : En X RX10 cX10_end 2 (d + 1) (0) (0) := E
  have R : Rt X (some FieldType.boolean) (fun r S2 => (wi_ x 0 T.1 ∧ r = some (.int 1) ∧ S2 = sI S 205 1 x) ∨ (¬ wi_ x 0 T.1 ∧ r = some (.int 0) ∧ S2 = S)) := R
  have hn := hT.1
  have hw : (0 ≤ x ∧ x ≤ fI S 205 1) ↔ wi_ x 0 T.1 := wi_iff rfl (by rw [hX.1]; exact nI_toInt (by omega))
  refine V_iload_n E dX10_end_0 rfl ?_
  refine V_iconst (v := 0) E dX10_end_1 (by decide) ?_
  refine V_aload_n E dX10_end_2 rfl ?_
  refine V_getR E fl_X10_27 dX10_end_3 rfl (hQ.k 200 11 rfl (by decide)) (hQ.r 200 5 205 rfl) ?_
  refine V_getIN E fn_X10_119 dX10_end_6 rfl (hQ.k 205 7 rfl (by decide)) ?_
  refine V_callS E (cy_isWithin (x_l X) d S _ _ _) ml_X10_61 ms_X10_isWithin dX10_end_9 rfl (by simp [Value.category]) (by omega) (by omega) (by omega) (fun r S2 hp => ?_)
  obtain ⟨rfl, hS2⟩ := hp
  obtain rfl := hS2.symm
  refine V_ifne_b (tgt := 17) E dX10_end_12 (by decide) (fun hc12 => ?_) (fun hc12 => ?_)
  · refine V_aload_n E dX10_end_17 rfl ?_
    refine V_getR E fl_X10_27 dX10_end_18 rfl (hQ.k 200 11 rfl (by decide)) (hQ.r 200 5 205 rfl) ?_
    refine V_iload_n E dX10_end_21 rfl ?_
    refine V_callV E (cy_cutTo (x_l X) d S hQ x) ml_X10_132 mv_X6_cutTo (hQ.k 205 7 rfl (by decide)) dX10_end_22 rfl (by simp [Value.category]) (by omega) (by omega) (by omega) (fun r S2 hp => ?_)
    obtain ⟨rfl, rfl⟩ := hp
    refine V_iconst (v := 1) E dX10_end_25 (by decide) ?_
    exact V_iret E R dX10_end_26 rfl (Nat.le_refl _) (Nat.le_refl _) (Or.inl ⟨hw.mp hc12, rfl, rfl⟩)
  · refine V_iconst (v := 0) E dX10_end_15 (by decide) ?_
    exact V_iret E R dX10_end_16 rfl (Nat.le_refl _) (Nat.le_refl _) (Or.inr ⟨fun q => hc12 (hw.mpr q), rfl, rfl⟩)
