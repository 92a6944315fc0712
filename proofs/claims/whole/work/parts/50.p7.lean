theorem cm_row (l : Launch) (d : Nat) (S : GS) (B : AP) (hB : POKa B) (hM : MOK S) (hJ : MPl S B) (la : Nat) (hla : la ≤ 1) : GC l (d + 2) yX11_row cX11_row 4 (some FieldType.int) [.ref 0, .int (nI la)] S (fun r S2 => (∃ f, S2 = rA S 43 f) ∧ ((jall B ∧ r = some (.int (-1))) ∨ (¬ jall B ∧ r = some (.int (rans (rsb B 60 0) la))))) (0) (0) := by
  refine GC.ofV (by decide) (Nat.le_of_ble_eq_true rfl) (fun X hl E R hnm => ?_)
  subst hl
  have E : En X RX11 cX11_row 4 (d + 2) (0) (0) := E
  have R : Rt X (some FieldType.int) (fun r S2 => (∃ f, S2 = rA S 43 f) ∧ ((jall B ∧ r = some (.int (-1))) ∨ (¬ jall B ∧ r = some (.int (rans (rsb B 60 0) la))))) := R
  have hn := hB.1
  refine V_aload_n E dX11_row_0 rfl ?_
  refine V_callV E (cm_plans (x_l X) d S B hB hM hJ) ml_X11_248 mv_X11_plans hM.o dX11_row_1 rfl (by simp [Value.category]) (by omega) (by omega) (by omega) (fun r S2 hp => ?_)
  obtain ⟨rfl, f, rfl, hf⟩ := hp
  refine V_ifeq_b (tgt := 9) E dX11_row_4 (by decide) (fun hc4 => ?_) (fun hc4 => ?_)
  · refine V_iconst (v := 0) E dX11_row_9 (by decide) ?_
    refine V_istore_n E dX11_row_10 (by decide) rfl ?_
    have outer : ∀ m b, b + m = 60 → rsb B 60 0 = rsb B m b → V X 11 [some (.ref (0)), some (.int (nI (la))), some (.int (nI (b))), none] [] (rA S 43 f) 0 0 := by
      intro m
      induction m with
      | zero =>
        intro b hb he
        refine V_iload_n E dX11_row_11 rfl ?_
        refine V_bipush (v := 60) E dX11_row_12 (by decide) ?_
        refine V_ge_yes (a := b) (b := 60) (tgt := 54) E dX11_row_14 (by decide) (@rfl _ (nI (b))) (rfl : (60 : Int32) = nI 60) (by omega) (by omega) ?_
        refine V_iconst (v := -1) E dX11_row_54 (by decide) ?_
        exact V_iret E R dX11_row_55 rfl (Nat.le_refl _) (Nat.le_refl _) ⟨⟨f, rfl⟩, Or.inr ⟨hc4, by rw [he]; rfl⟩⟩
      | succ m ih =>
        intro b hb he
        refine V_iload_n E dX11_row_11 rfl ?_
        refine V_bipush (v := 60) E dX11_row_12 (by decide) ?_
        refine V_ge_no (a := b) (b := 60) (tgt := 54) E dX11_row_14 (by decide) (@rfl _ (nI (b))) (rfl : (60 : Int32) = nI 60) (by omega) (by omega) ?_
        refine V_iload_n E dX11_row_17 rfl ?_
        refine V_istore_n E dX11_row_18 (by decide) rfl ?_
        have inner : ∀ c, c ≤ b + 1 → rsa B b (b + 1) = rsa B b c → V X 19 [some (.ref (0)), some (.int (nI (la))), some (.int (nI (b))), some (.int (nI c - 1))] [] (rA S 43 f) 0 0 := by
          intro c
          induction c with
          | zero =>
            intro hc he2
            refine V_iload_n E dX11_row_19 rfl ?_
            refine V_if_lt (tgt := 48) E dX11_row_20 (by decide) (fun _ => ?_) (fun hx => absurd hx (fun q => q (by decide)))
            refine V_iinc (v := nI (b + 1)) E dX11_row_48 rfl (ni_inc (a := b) (z := 1) (@rfl _ (nI (b)))) (by decide) rfl ?_
            refine V_goto (tgt := 11) E dX11_row_51 (by decide) ?_
            have e9 : rsb B (m + 1) b = rsb B m (b + 1) := rsb_none (he2.trans rfl)
            refine V_lo (lo' := [some (.ref (0)), some (.int (nI (la))), some (.int (nI (b + 1))), none]) (And.intro rfl (And.intro rfl (And.intro rfl True.intro))) ?_
            exact ih (b + 1) (by omega) (he.trans e9)
          | succ c ih2 =>
            intro hc he2
            refine V_iload_n E dX11_row_19 rfl ?_
            refine V_if_lt (tgt := 48) E dX11_row_20 (by decide) (fun hx => absurd hx (fun q => absurd ((dec0 (by omega)).mp q) (by omega))) (fun _ => ?_)
            refine V_aload_n E dX11_row_23 rfl ?_
            refine V_iload_n E dX11_row_24 rfl ?_
            refine V_iload_n E dX11_row_25 rfl ?_
            rw [nI_pred]
            refine V_callV E (cm_isTooMany (x_l X) d (rA S 43 f) B hB hM hJ c b (by omega) (by omega)) ml_X11_252 mv_X11_isTooMany hM.o dX11_row_26 rfl (by simp [Value.category]) (by omega) (by omega) (by omega) (fun r S2 hp => ?_)
            obtain ⟨rfl, hS2⟩ := hp
            obtain rfl := hS2.symm
            refine V_ifeq_b (tgt := 42) E dX11_row_29 (by decide) (fun hc29 => ?_) (fun hc29 => ?_)
            · refine V_iinc (v := nI c - 1) E dX11_row_42 rfl ((congrArg (fun z => z + Int32.ofInt (-1)) (nI_pred c)).symm.trans (dec1 c)) (by decide) rfl ?_
              refine V_goto (tgt := 19) E dX11_row_45 (by decide) ?_
              exact ih2 (by omega) (he2.trans (rsa_no hc29))
            · refine V_iload_n E dX11_row_32 rfl ?_
              refine V_if_eq (tgt := 40) E dX11_row_33 (by decide) (fun h33 => ?_) (fun h33 => ?_)
              · have gl : la = 0 := (nI_eq (a := la) (b := 0) (by omega) (by omega)).mp h33
                refine V_iload_n E dX11_row_40 rfl ?_
                exact V_iret E R dX11_row_41 rfl (Nat.le_refl _) (Nat.le_refl _) ⟨⟨f, rfl⟩, Or.inr ⟨hc4, by rw [he, rsb_some (he2.trans (rsa_yes hc29))]; show _ = some (Value.int (if la = 0 then nI c else nI b)); rw [if_pos gl]⟩⟩
              · have gl : la ≠ 0 := fun e => h33 (by rw [e]; rfl)
                refine V_iload_n E dX11_row_36 rfl ?_
                refine V_goto (tgt := 41) E dX11_row_37 (by decide) ?_
                exact V_iret E R dX11_row_41 rfl (Nat.le_refl _) (Nat.le_refl _) ⟨⟨f, rfl⟩, Or.inr ⟨hc4, by rw [he, rsb_some (he2.trans (rsa_yes hc29))]; show _ = some (Value.int (if la = 0 then nI c else nI b)); rw [if_neg gl]⟩⟩
        have h9 := inner (b + 1) (by omega) rfl
        rw [nI_pred] at h9
        exact h9
    exact outer 60 0 (by omega) rfl
  · refine V_iconst (v := -1) E dX11_row_7 (by decide) ?_
    exact V_iret E R dX11_row_8 rfl (Nat.le_refl _) (Nat.le_refl _) ⟨⟨f, rfl⟩, Or.inl ⟨hc4, rfl⟩⟩
