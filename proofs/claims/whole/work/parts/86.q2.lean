theorem cy_at (l : Launch) (d : Nat) (S : GS) (B : AB) (hB : BOK B) (hQ : YOK S) (hV : YVo S B) (x : Int32) : GC l (d) yX9_at cX9_at 2 (some (FieldType.object "CocoaYard$Vote")) [.ref 207, .int x] S (fun r S2 => (wi_ x 0 ((bn B : Int) - 1) ∧ r = some (.ref (3000 + tn x)) ∧ S2 = S) ∨ (¬ wi_ x 0 ((bn B : Int) - 1) ∧ r = some .null ∧ S2 = S)) (0) (0) := by
  refine GC.ofV (by decide) (Nat.le_of_ble_eq_true rfl) (fun X hl E R hnm => ?_)
  subst hl
  have E : En X RX9 cX9_at 2 (d) (0) (0) := E
  have R : Rt X (some (FieldType.object "CocoaYard$Vote")) (fun r S2 => (wi_ x 0 ((bn B : Int) - 1) ∧ r = some (.ref (3000 + tn x)) ∧ S2 = S) ∨ (¬ wi_ x 0 ((bn B : Int) - 1) ∧ r = some .null ∧ S2 = S)) := R
  have hn := hB.1
  refine V_iload_n E dX9_at_0 rfl ?_
  refine V_if_lt (tgt := 21) E dX9_at_1 (by decide) (fun h1 => ?_) (fun h1 => ?_)
  · have g1 : ¬ wi_ x 0 ((bn B : Int) - 1) := fun q => by have := q.1; rw [fa_lt] at h1; have : ((0 : Int32)).toInt = 0 := rfl; omega
    refine V_null E dX9_at_21 ?_
    exact V_aret (r := none) E R (by first | exact Or.inl ⟨_, rfl⟩ | exact Or.inr ⟨_, rfl⟩) dX9_at_22 (Nat.le_refl _) (Nat.le_refl _) (Or.inr ⟨g1, rfl, rfl⟩)
  · have g1 : 0 ≤ x.toInt := by rw [fa_lt] at h1; have : ((0 : Int32)).toInt = 0 := rfl; omega
    refine V_iload_n E dX9_at_4 rfl ?_
    refine V_aload_n E dX9_at_5 rfl ?_
    refine V_getI E fl_X9_24 dX9_at_6 rfl (hQ.k 207 10 rfl (by decide)) ?_
    refine V_icmp_ge (tgt := 21) E dX9_at_9 (by decide) (fun h9 => ?_) (fun h9 => ?_)
    · have g1 : ¬ wi_ x 0 ((bn B : Int) - 1) := fun q => by have := q.2; rw [fa_le, hV.n, nI_toInt (by omega)] at h9; omega
      refine V_null E dX9_at_21 ?_
      exact V_aret (r := none) E R (by first | exact Or.inl ⟨_, rfl⟩ | exact Or.inr ⟨_, rfl⟩) dX9_at_22 (Nat.le_refl _) (Nat.le_refl _) (Or.inr ⟨g1, rfl, rfl⟩)
    · have g9 : wi_ x 0 ((bn B : Int) - 1) := ⟨g1, by rw [fa_le, hV.n, nI_toInt (by omega)] at h9; omega⟩
      obtain ⟨v, rfl, tv, lv, uv, -⟩ := wi_nat g9 (by omega)
      refine V_aload_n E dX9_at_12 rfl ?_
      refine V_getR E fl_X9_11 dX9_at_13 rfl (hQ.k 207 10 rfl (by decide)) (hQ.r 207 0 208 rfl) ?_
      refine V_iload_n E dX9_at_16 rfl ?_
      refine V_aa (j := v) E dX9_at_17 (hQ.k 208 26 rfl (by decide)) (by decide) (@rfl _ (nI (v))) (hQ.l 208 50 rfl (by decide)) (by omega) (by decide) (hV.el v (by omega)) ?_
      refine V_goto (tgt := 22) E dX9_at_18 (by decide) ?_
      exact V_aret (r := (some (3000 + v))) E R (by first | exact Or.inl ⟨_, rfl⟩ | exact Or.inr ⟨_, rfl⟩) dX9_at_22 (Nat.le_refl _) (Nat.le_refl _) (Or.inl ⟨g9, by rw [tv]; rfl, rfl⟩)

theorem cy_tellOf_none (l : Launch) (d : Nat) (S : GS) (A : AV) (t : Nat) (hO : VOK A t) (hY : YVes S A) (B : AB) (hB : BOK B) (hQ : YOK S) (hV : YVo S B) (s : Nat) (hs : s < vn A) (m : Nat) (hm : m < 20) (q : Nat) (hq : q ≤ 3) : GC l (d + 3) yX9_tellOf cX9_tellOf 7 (some FieldType.int) [.ref 207, .int (an none), .ref (1000 + s), .int (nI q), .int (nI m)] S (fun r S2 => r = some (.int (nI (tlN B none (gmN A s m) q (plN A s m)))) ∧ YRf S S2) (0) (0) := by
  refine GC.ofV (by decide) (Nat.le_of_ble_eq_true rfl) (fun X hl E R hnm => ?_)
  subst hl
  have E : En X RX9 cX9_tellOf 7 (d + 3) (0) (0) := E
  have R : Rt X (some FieldType.int) (fun r S2 => r = some (.int (nI (tlN B none (gmN A s m) q (plN A s m)))) ∧ YRf S S2) := R
  have hg := gm_le hO hs hm
  have hp := pl_le A s m
  have hn := hB.1
  refine V_aload_n E dX9_tellOf_0 rfl ?_
  refine V_iload_n E dX9_tellOf_1 rfl ?_
  refine V_callV E (cy_at (x_l X) (d + 2) S B hB hQ hV (an none)) ml_X9_44 mv_X9_at (hQ.k 207 10 rfl (by decide)) dX9_tellOf_2 rfl (by simp [Value.category]) (by omega) (by omega) (by omega) (fun r S2 hp => ?_)
  have hp := hp.resolve_left (fun z => absurd z.1.1 (by decide))
  obtain ⟨-, rfl, hS2⟩ := hp
  obtain rfl := hS2.symm
  refine V_astoreN E dX9_tellOf_5 (by decide) rfl ?_
  refine V_aload_n E dX9_tellOf_7 rfl ?_
  refine V_iload E dX9_tellOf_8 rfl ?_
  refine V_callV E (cy_dryOfMember (x_l X) (d + 2) S A t hO hY s hs m hm) ml_X9_48 mv_X7_dryOfMember (hY.ok s hs) dX9_tellOf_10 rfl (by simp [Value.category]) (by omega) (by omega) (by omega) (fun r S2 hp => ?_)
  obtain ⟨rfl, hS2⟩ := hp
  obtain rfl := hS2.symm
  refine V_istore E dX9_tellOf_13 (by decide) rfl ?_
  refine V_aloadN E dX9_tellOf_15 rfl ?_
  refine V_ifnonnullN E dX9_tellOf_17 ?_
  refine V_iload E dX9_tellOf_20 rfl ?_
  refine V_goto (tgt := 47) E dX9_tellOf_22 (by decide) ?_
  exact V_iret E R dX9_tellOf_47 rfl (Nat.le_refl _) (Nat.le_refl _) ⟨congrArg (fun z => some (Value.int (nI z))) (tl_0 hg).symm, YRf.rfl' S⟩

theorem cy_tellOf_some (l : Launch) (d : Nat) (S : GS) (A : AV) (t : Nat) (hO : VOK A t) (hY : YVes S A) (B : AB) (hB : BOK B) (hQ : YOK S) (hV : YVo S B) (s : Nat) (hs : s < vn A) (m : Nat) (hm : m < 20) (q : Nat) (hq : q ≤ 3) (v : Nat) (hv : v < bn B) : GC l (d + 3) yX9_tellOf cX9_tellOf 7 (some FieldType.int) [.ref 207, .int (an (some v)), .ref (1000 + s), .int (nI q), .int (nI m)] S (fun r S2 => r = some (.int (nI (tlN B (some v) (gmN A s m) q (plN A s m)))) ∧ YRf S S2) (0) (0) := by
  refine GC.ofV (by decide) (Nat.le_of_ble_eq_true rfl) (fun X hl E R hnm => ?_)
  subst hl
  have E : En X RX9 cX9_tellOf 7 (d + 3) (0) (0) := E
  have R : Rt X (some FieldType.int) (fun r S2 => r = some (.int (nI (tlN B (some v) (gmN A s m) q (plN A s m)))) ∧ YRf S S2) := R
  have hg := gm_le hO hs hm
  have hp := pl_le A s m
  have hn := hB.1
  refine V_aload_n E dX9_tellOf_0 rfl ?_
  refine V_iload_n E dX9_tellOf_1 rfl ?_
  refine V_callV E (cy_at (x_l X) (d + 2) S B hB hQ hV (nI v)) ml_X9_44 mv_X9_at (hQ.k 207 10 rfl (by decide)) dX9_tellOf_2 rfl (by simp [Value.category]) (by omega) (by omega) (by omega) (fun r S2 hp => ?_)
  have hp := hp.resolve_right (fun z => z.1 ((wi_nI (by omega)).mpr (by omega)))
  obtain ⟨-, hr, hS2⟩ := hp
  obtain rfl := hS2.symm
  rw [tn_nI (by omega)] at hr
  obtain rfl := hr
  refine V_astore E dX9_tellOf_5 (by decide) rfl ?_
  refine V_aload_n E dX9_tellOf_7 rfl ?_
  refine V_iload E dX9_tellOf_8 rfl ?_
  refine V_callV E (cy_dryOfMember (x_l X) (d + 2) S A t hO hY s hs m hm) ml_X9_48 mv_X7_dryOfMember (hY.ok s hs) dX9_tellOf_10 rfl (by simp [Value.category]) (by omega) (by omega) (by omega) (fun r S2 hp => ?_)
  obtain ⟨rfl, hS2⟩ := hp
  obtain rfl := hS2.symm
  refine V_istore E dX9_tellOf_13 (by decide) rfl ?_
  refine V_aload E dX9_tellOf_15 rfl ?_
  refine V_ifnonnull (tgt := 25) E dX9_tellOf_17 (by decide) ?_
  refine V_aload_n E dX9_tellOf_25 rfl ?_
  refine V_getR E fl_X9_20 dX9_tellOf_26 rfl (hQ.k 207 10 rfl (by decide)) (hQ.r 207 1 209 rfl) ?_
  refine V_aload E dX9_tellOf_29 rfl ?_
  refine V_getRN E fn_X9_54 dX9_tellOf_31 rfl (hV.ok v hv) (hV.tr v hv) ?_
  refine V_iload E dX9_tellOf_34 rfl ?_
  refine V_iload_n E dX9_tellOf_36 rfl ?_
  refine V_aload_n E dX9_tellOf_37 rfl ?_
  refine V_iload E dX9_tellOf_38 rfl ?_
  refine V_callV E (cy_plotsOfMember (x_l X) (d + 2) S A t hO hY s hs m hm) ml_X9_58 mv_X7_plotsOfMember (hY.ok s hs) dX9_tellOf_40 rfl (by simp [Value.category]) (by omega) (by omega) (by omega) (fun r S2 hp => ?_)
  obtain ⟨rfl, hS2⟩ := hp
  obtain rfl := hS2.symm
  refine V_callV E (cy_work (x_l X) d S hQ B hB hV v hv (nI (gmN A s m)) (nI q) (nI (plN A s m))) ml_X9_61 mv_X5_work (hQ.k 209 6 rfl (by decide)) dX9_tellOf_43 rfl (by simp [Value.category]) (by omega) (by omega) (by omega) (fun r S2 hp => ?_)
  obtain ⟨rfl, n9, f1, f2, rfl⟩ := hp
  refine V_l2i E dX9_tellOf_46 rfl ?_
  exact V_iret E R dX9_tellOf_47 rfl (Nat.le_refl _) (Nat.le_refl _) ⟨congrArg (fun z => some (Value.int z)) (by rw [nI_l (n := gmN A s m) (by omega), nI_l (n := q) (by omega), nI_l (n := plN A s m) (by omega)]; exact tl_i hg), YRf.rck S n9 f1 f2⟩

theorem cy_tellOf (l : Launch) (d : Nat) (S : GS) (A : AV) (t : Nat) (hO : VOK A t) (hY : YVes S A) (B : AB) (hB : BOK B) (hQ : YOK S) (hV : YVo S B) (s : Nat) (hs : s < vn A) (m : Nat) (hm : m < 20) (q : Nat) (hq : q ≤ 3) (o : Option Nat) (ho : ∀ v, o = some v → v < bn B) : GC l (d + 3) yX9_tellOf cX9_tellOf 7 (some FieldType.int) [.ref 207, .int (an o), .ref (1000 + s), .int (nI q), .int (nI m)] S (fun r S2 => r = some (.int (nI (tlN B o (gmN A s m) q (plN A s m)))) ∧ YRf S S2) 0 0 := by
  cases o with
  | none => exact cy_tellOf_none l d S A t hO hY B hB hQ hV s hs m hm q hq
  | some v => exact cy_tellOf_some l d S A t hO hY B hB hQ hV s hs m hm q hq v (ho v rfl)

theorem inF_lt {B : AB} {day v : Nat} (h : inF B day = some v) : v < bn B := ifc_lt h
theorem cy_inF {B : AB} {day : Nat} : ∀ v, inF B day = some v → v < bn B := fun _ h => ifc_lt h

theorem cy_worth (l : Launch) (d : Nat) (S : GS) (A : AV) (t : Nat) (hO : VOK A t) (hY : YVes S A) (B : AB) (hB : BOK B) (hQ : YOK S) (hV : YVo S B) (x y z : Int32) : GC l (d + 4) yX10_worth cX10_worth 5 (some FieldType.long) [.ref 200, .int x, .int y, .int z] S (fun r S2 => (((wi_ y 0 ((vn A : Int) - 1) ∧ vK A (tn y) = 3) ∧ wi_ x 0 10000 ∧ wi_ z 0 19) ∧ r = some (.long (lN (tlN B (inF B (tn x)) (gmN A (tn y) (tn z)) (vG A (tn y)) (plN A (tn y) (tn z))))) ∧ YRf S S2) ∨ (¬ ((wi_ y 0 ((vn A : Int) - 1) ∧ vK A (tn y) = 3) ∧ wi_ x 0 10000 ∧ wi_ z 0 19) ∧ r = some (.long (-1)) ∧ S2 = S)) (0) (0) := by
  refine GC.ofV (by decide) (Nat.le_of_ble_eq_true rfl) (fun X hl E R hnm => ?_)
  subst hl
  have E : En X RX10 cX10_worth 5 (d + 4) (0) (0) := E
  have R : Rt X (some FieldType.long) (fun r S2 => (((wi_ y 0 ((vn A : Int) - 1) ∧ vK A (tn y) = 3) ∧ wi_ x 0 10000 ∧ wi_ z 0 19) ∧ r = some (.long (lN (tlN B (inF B (tn x)) (gmN A (tn y) (tn z)) (vG A (tn y)) (plN A (tn y) (tn z))))) ∧ YRf S S2) ∨ (¬ ((wi_ y 0 ((vn A : Int) - 1) ∧ vK A (tn y) = 3) ∧ wi_ x 0 10000 ∧ wi_ z 0 19) ∧ r = some (.long (-1)) ∧ S2 = S)) := R
  have hn := hO.1
  refine V_aload_n E dX10_worth_0 rfl ?_
  refine V_iconst (v := 3) E dX10_worth_1 (by decide) ?_
  refine V_iload_n E dX10_worth_2 rfl ?_
  refine V_callV E (cy_vesselOf (x_l X) d S A t hO hQ hY 3 (by omega) y) ml_X10_57 mv_X10_vesselOf (hQ.k 200 11 rfl (by decide)) dX10_worth_3 rfl (by simp [Value.category]) (by omega) (by omega) (by omega) (fun r S2 hp => ?_)
  rcases hp with ⟨hx, rfl, hS2⟩ | ⟨hx, rfl, hS2⟩
  · obtain rfl := hS2.symm
    obtain ⟨s, rfl, ts, ls, us, -⟩ := wi_nat hx.1 (by omega)
    rw [ts]
    have hs : s < vn A := by omega
    have h3 := hO.2.2.1 s hs
    refine V_astore E dX10_worth_6 (by decide) rfl ?_
    refine V_aload E dX10_worth_8 rfl ?_
    refine V_ifnull E dX10_worth_10 ?_
    refine V_iload_n E dX10_worth_13 rfl ?_
    refine V_iconst (v := 0) E dX10_worth_14 (by decide) ?_
    refine V_sipush (v := 10000) E dX10_worth_15 (by decide) ?_
    refine V_callS E (cy_isWithin (x_l X) d S _ _ _) ml_X10_61 ms_X10_isWithin dX10_worth_18 rfl (by simp [Value.category]) (by omega) (by omega) (by omega) (fun r S2 hp => ?_)
    obtain ⟨rfl, hS2⟩ := hp
    obtain rfl := hS2.symm
    refine V_ifeq_b (tgt := 34) E dX10_worth_21 (by decide) (fun hc21 => ?_) (fun hc21 => ?_)
    · have g : ¬ ((wi_ (nI s) 0 ((vn A : Int) - 1) ∧ vK A (tn (nI s)) = 3) ∧ wi_ x 0 10000 ∧ wi_ z 0 19) := fun q => hc21 ((wi_iff (by decide) (by decide)).mpr q.2.1)
      refine V_ldc2 E dX10_worth_34 kl_X10_172 ?_
      exact V_lret E R dX10_worth_37 (Nat.le_refl _) (Nat.le_refl _) (Or.inr ⟨g, rfl, rfl⟩)
    · have w21 : wi_ x 0 10000 := (wi_iff (by decide) (by decide)).mp hc21
      obtain ⟨dd, rfl, td, ld, ud, -⟩ := wi_nat w21 (by omega)
      refine V_iload_n E dX10_worth_24 rfl ?_
      refine V_iconst (v := 0) E dX10_worth_25 (by decide) ?_
      refine V_bipush (v := 19) E dX10_worth_26 (by decide) ?_
      refine V_callS E (cy_isWithin (x_l X) d S _ _ _) ml_X10_61 ms_X10_isWithin dX10_worth_28 rfl (by simp [Value.category]) (by omega) (by omega) (by omega) (fun r S2 hp => ?_)
      obtain ⟨rfl, hS2⟩ := hp
      obtain rfl := hS2.symm
      refine V_ifne_b (tgt := 38) E dX10_worth_31 (by decide) (fun hc31 => ?_) (fun hc31 => ?_)
      · have w31 : wi_ z 0 19 := (wi_iff (by decide) (by decide)).mp hc31
        obtain ⟨m, rfl, tm, lm, um, -⟩ := wi_nat w31 (by omega)
        refine V_aload_n E dX10_worth_38 rfl ?_
        refine V_getR E fl_X10_34 dX10_worth_39 rfl (hQ.k 200 11 rfl (by decide)) (hQ.r 200 6 207 rfl) ?_
        refine V_aload_n E dX10_worth_42 rfl ?_
        refine V_getR E fl_X10_34 dX10_worth_43 rfl (hQ.k 200 11 rfl (by decide)) (hQ.r 200 6 207 rfl) ?_
        refine V_iload_n E dX10_worth_46 rfl ?_
        refine V_callV E (cy_inForce (x_l X) d S B hB hQ hV dd (by omega)) ml_X10_174 mv_X9_inForce (hQ.k 207 10 rfl (by decide)) dX10_worth_47 rfl (by simp [Value.category]) (by omega) (by omega) (by omega) (fun r S2 hp => ?_)
        obtain ⟨rfl, hS2⟩ := hp
        obtain rfl := hS2.symm
        refine V_aload E dX10_worth_50 rfl ?_
        refine V_aload E dX10_worth_52 rfl ?_
        refine V_getIN E fn_X10_112 dX10_worth_54 rfl (hY.ok s hs) ?_
        refine V_cvi (hY.G s hs) ?_
        refine V_iload_n E dX10_worth_57 rfl ?_
        refine V_callV E (cy_tellOf (x_l X) d S A t hO hY B hB hQ hV s hs m (by omega) (vG A s) (by omega) (inF B dd) cy_inF) ml_X10_177 mv_X9_tellOf (hQ.k 207 10 rfl (by decide)) dX10_worth_58 rfl (by simp [Value.category]) (by omega) (by omega) (by omega) (fun r S2 hp => ?_)
        obtain ⟨rfl, hf⟩ := hp
        refine V_i2l E dX10_worth_61 rfl ?_
        exact V_lret E R dX10_worth_62 (Nat.le_refl _) (Nat.le_refl _) (Or.inl ⟨⟨hx, w21, w31⟩, congrArg (fun z => some (Value.long z)) (by rw [ts, td, tm]; exact nI_l (by have := (tlJ_n (B := B) (o := inF B dd) (q := vG A s) (p := plN A s m) (gm_le hO hs (show m < 20 by omega))).2; omega)), hf⟩)
      · have g : ¬ ((wi_ (nI s) 0 ((vn A : Int) - 1) ∧ vK A (tn (nI s)) = 3) ∧ wi_ (nI dd) 0 10000 ∧ wi_ z 0 19) := fun q => hc31 ((wi_iff (by decide) (by decide)).mpr q.2.2)
        refine V_ldc2 E dX10_worth_34 kl_X10_172 ?_
        exact V_lret E R dX10_worth_37 (Nat.le_refl _) (Nat.le_refl _) (Or.inr ⟨g, rfl, rfl⟩)
  · obtain rfl := hS2.symm
    have g : ¬ ((wi_ y 0 ((vn A : Int) - 1) ∧ vK A (tn y) = 3) ∧ wi_ x 0 10000 ∧ wi_ z 0 19) := fun q => hx q.1
    refine V_astoreN E dX10_worth_6 (by decide) rfl ?_
    refine V_aloadN E dX10_worth_8 rfl ?_
    refine V_ifnullN (tgt := 34) E dX10_worth_10 (by decide) ?_
    refine V_ldc2 E dX10_worth_34 kl_X10_172 ?_
    exact V_lret E R dX10_worth_37 (Nat.le_refl _) (Nat.le_refl _) (Or.inr ⟨g, rfl, rfl⟩)

theorem cm_worked1 (l : Launch) (d : Nat) (S : GS) (B : AB) (g q p : Nat) : GC l (d) yX11_worked cX11_worked 15 (some FieldType.long) [.ref 0, .int (an none), .long (lN g), .long (lN q), .long (lN p)] S (fun r S2 => r = some (.long (tlJ B none g q p)) ∧ ∃ f, S2 = rL S 27 f) (0) (0) := by
  refine GC.ofV (by decide) (Nat.le_of_ble_eq_true rfl) (fun X hl E R hnm => ?_)
  subst hl
  have E : En X RX11 cX11_worked 15 (d) (0) (0) := E
  have R : Rt X (some FieldType.long) (fun r S2 => r = some (.long (tlJ B none g q p)) ∧ ∃ f, S2 = rL S 27 f) := R
  refine V_iload_n E dX11_worked_0 rfl ?_
  refine V_iconst (v := -1) E dX11_worked_1 (by decide) ?_
  refine V_icmp_ne (tgt := 7) E dX11_worked_2 (by decide) (fun hx => absurd hx (fun z => z rfl)) (fun _ => ?_)
  refine V_lload_n E dX11_worked_5 rfl ?_
  exact V_lret E R dX11_worked_6 (Nat.le_refl _) (Nat.le_refl _) ⟨rfl, aJ S 27, (rL_self S 27).symm⟩

theorem cm_workedO (l : Launch) (d : Nat) (S : GS) (B : AB) (hB : BOK B) (hM : MOK S) (hV : MVo S B) (g q p : Nat) (o : Option Nat) (ho : ∀ v, o = some v → v < bn B) : GC l d yX11_worked cX11_worked 15 (some FieldType.long) [.ref 0, .int (an o), .long (lN g), .long (lN q), .long (lN p)] S (fun r S2 => r = some (.long (tlJ B o g q p)) ∧ ∃ f, S2 = rL S 27 f) 0 0 := by
  cases o with
  | none => exact cm_worked1 l d S B g q p
  | some v => exact cm_worked l d S B hB hM hV v (ho v rfl) (lN g) (lN q) (lN p)

theorem cm_worth (l : Launch) (d : Nat) (S : GS) (A : AV) (t : Nat) (hO : VOK A t) (hM : MOK S) (hA : MVes S A) (B : AB) (hB : BOK B) (hV : MVo S B) (x y z : Int32) : GC l (d + 2) yX11_worth cX11_worth 4 (some FieldType.long) [.ref 0, .int x, .int y, .int z] S (fun r S2 => (((wi_ y 0 ((vn A : Int) - 1) ∧ vK A (tn y) = 3) ∧ wi_ x 0 10000 ∧ wi_ z 0 19) ∧ r = some (.long (lN (tlN B (inF B (tn x)) (gmN A (tn y) (tn z)) (vG A (tn y)) (plN A (tn y) (tn z))))) ∧ ∃ f, S2 = rL S 27 f) ∨ (¬ ((wi_ y 0 ((vn A : Int) - 1) ∧ vK A (tn y) = 3) ∧ wi_ x 0 10000 ∧ wi_ z 0 19) ∧ r = some (.long (-1)) ∧ S2 = S)) (0) (0) := by
  refine GC.ofV (by decide) (Nat.le_of_ble_eq_true rfl) (fun X hl E R hnm => ?_)
  subst hl
  have E : En X RX11 cX11_worth 4 (d + 2) (0) (0) := E
  have R : Rt X (some FieldType.long) (fun r S2 => (((wi_ y 0 ((vn A : Int) - 1) ∧ vK A (tn y) = 3) ∧ wi_ x 0 10000 ∧ wi_ z 0 19) ∧ r = some (.long (lN (tlN B (inF B (tn x)) (gmN A (tn y) (tn z)) (vG A (tn y)) (plN A (tn y) (tn z))))) ∧ ∃ f, S2 = rL S 27 f) ∨ (¬ ((wi_ y 0 ((vn A : Int) - 1) ∧ vK A (tn y) = 3) ∧ wi_ x 0 10000 ∧ wi_ z 0 19) ∧ r = some (.long (-1)) ∧ S2 = S)) := R
  have hn := hO.1
  refine V_iload_n E dX11_worth_0 rfl ?_
  refine V_iconst (v := 0) E dX11_worth_1 (by decide) ?_
  refine V_sipush (v := 10000) E dX11_worth_2 (by decide) ?_
  refine V_callS E (cm_in (x_l X) d S _ _ _) ml_X11_115 ms_X11_in dX11_worth_5 rfl (by simp [Value.category]) (by omega) (by omega) (by omega) (fun r S2 hp => ?_)
  obtain ⟨rfl, hS2⟩ := hp
  obtain rfl := hS2.symm
  refine V_ifeq_b (tgt := 30) E dX11_worth_8 (by decide) (fun hc8 => ?_) (fun hc8 => ?_)
  · have g : ¬ ((wi_ y 0 ((vn A : Int) - 1) ∧ vK A (tn y) = 3) ∧ wi_ x 0 10000 ∧ wi_ z 0 19) := fun q => hc8 ((wi_iff (by decide) (by decide)).mpr q.2.1)
    refine V_ldc2 E dX11_worth_30 kl_X11_255 ?_
    exact V_lret E R dX11_worth_33 (Nat.le_refl _) (Nat.le_refl _) (Or.inr ⟨g, rfl, rfl⟩)
  · have w8 : wi_ x 0 10000 := (wi_iff (by decide) (by decide)).mp hc8
    obtain ⟨dd, rfl, td, ld, ud, -⟩ := wi_nat w8 (by omega)
    refine V_aload_n E dX11_worth_11 rfl ?_
    refine V_iload_n E dX11_worth_12 rfl ?_
    refine V_iconst (v := 3) E dX11_worth_13 (by decide) ?_
    refine V_callV E (cm_is (x_l X) d S A t hO hM hA y 3 (by omega)) ml_X11_128 mv_X11_is hM.o dX11_worth_14 rfl (by simp [Value.category]) (by omega) (by omega) (by omega) (fun r S2 hp => ?_)
    obtain ⟨rfl, hS2⟩ := hp
    obtain rfl := hS2.symm
    refine V_ifeq_b (tgt := 30) E dX11_worth_17 (by decide) (fun hc17 => ?_) (fun hc17 => ?_)
    · have g : ¬ ((wi_ y 0 ((vn A : Int) - 1) ∧ vK A (tn y) = 3) ∧ wi_ (nI dd) 0 10000 ∧ wi_ z 0 19) := fun q => hc17 q.1
      refine V_ldc2 E dX11_worth_30 kl_X11_255 ?_
      exact V_lret E R dX11_worth_33 (Nat.le_refl _) (Nat.le_refl _) (Or.inr ⟨g, rfl, rfl⟩)
    · obtain ⟨s, rfl, ts, ls, us, -⟩ := wi_nat hc17.1 (by omega)
      have hs : s < vn A := by omega
      have h3 := hO.2.2.1 s hs
      refine V_iload_n E dX11_worth_20 rfl ?_
      refine V_iconst (v := 0) E dX11_worth_21 (by decide) ?_
      refine V_bipush (v := 19) E dX11_worth_22 (by decide) ?_
      refine V_callS E (cm_in (x_l X) d S _ _ _) ml_X11_115 ms_X11_in dX11_worth_24 rfl (by simp [Value.category]) (by omega) (by omega) (by omega) (fun r S2 hp => ?_)
      obtain ⟨rfl, hS2⟩ := hp
      obtain rfl := hS2.symm
      refine V_ifne_b (tgt := 34) E dX11_worth_27 (by decide) (fun hc27 => ?_) (fun hc27 => ?_)
      · have w27 : wi_ z 0 19 := (wi_iff (by decide) (by decide)).mp hc27
        obtain ⟨m, rfl, tm, lm, um, -⟩ := wi_nat w27 (by omega)
        refine V_aload_n E dX11_worth_34 rfl ?_
        refine V_aload_n E dX11_worth_35 rfl ?_
        refine V_iload_n E dX11_worth_36 rfl ?_
        refine V_callV E (cm_inForce (x_l X) d S B hB hM hV dd (by omega)) ml_X11_235 mv_X11_inForce hM.o dX11_worth_37 rfl (by simp [Value.category]) (by omega) (by omega) (by omega) (fun r S2 hp => ?_)
        obtain ⟨rfl, hS2⟩ := hp
        obtain rfl := hS2.symm
        have hg := gm_le hO hs (show m < 20 by omega)
        have hpl := pl_le A s m
        refine V_aload_n E dX11_worth_40 rfl ?_
        refine V_iload_n E dX11_worth_41 rfl ?_
        refine V_iload_n E dX11_worth_42 rfl ?_
        refine V_callV E (cm_gramsOf (x_l X) d S A t hO hM hA s hs m (by omega)) ml_X11_229 mv_X11_gramsOf hM.o dX11_worth_43 rfl (by simp [Value.category]) (by omega) (by omega) (by omega) (fun r S2 hp => ?_)
        obtain ⟨rfl, hS2⟩ := hp
        obtain rfl := hS2.symm
        refine V_i2l E dX11_worth_46 rfl ?_
        refine V_cvl (y := lN (gmN A s m)) (li_of (@rfl _ (nI (gmN A s m))) (by omega)) ?_
        refine V_aload_n E dX11_worth_47 rfl ?_
        refine V_getR E fl_X11_26 dX11_worth_48 rfl hM.o (hM.r 11 (by decide)) ?_
        refine V_iload_n E dX11_worth_51 rfl ?_
        refine V_ia (j := s) E dX11_worth_52 (hM.k 11 21 rfl (by decide)) (@rfl _ (nI (s))) (hM.l 11 100 rfl (by decide)) (by omega) (by decide) ?_
        refine V_i2l E dX11_worth_53 rfl ?_
        refine V_cvl (y := lN ((vG A s))) (li_of (hA.G s (by omega)) (by omega)) ?_
        refine V_aload_n E dX11_worth_54 rfl ?_
        refine V_iload_n E dX11_worth_55 rfl ?_
        refine V_iload_n E dX11_worth_56 rfl ?_
        refine V_callV E (cm_plotsOf (x_l X) d S A t hO hM hA s hs m (by omega)) ml_X11_232 mv_X11_plotsOf hM.o dX11_worth_57 rfl (by simp [Value.category]) (by omega) (by omega) (by omega) (fun r S2 hp => ?_)
        obtain ⟨rfl, hS2⟩ := hp
        obtain rfl := hS2.symm
        refine V_i2l E dX11_worth_60 rfl ?_
        refine V_cvl (y := lN (plN A s m)) (li_of (@rfl _ (nI (plN A s m))) (by omega)) ?_
        refine V_callV E (cm_workedO (x_l X) d S B hB hM hV (gmN A s m) (vG A s) (plN A s m) (inF B dd) cy_inF) ml_X11_219 mv_X11_worked hM.o dX11_worth_61 rfl (by simp [Value.category]) (by omega) (by omega) (by omega) (fun r S2 hp => ?_)
        obtain ⟨rfl, f, rfl⟩ := hp
        exact V_lret E R dX11_worth_64 (Nat.le_refl _) (Nat.le_refl _) (Or.inl ⟨⟨hc17, w8, w27⟩, congrArg (fun z => some (Value.long z)) (by rw [ts, td, tm]; exact (tlJ_n hg).1), f, rfl⟩)
      · have g : ¬ ((wi_ (nI s) 0 ((vn A : Int) - 1) ∧ vK A (tn (nI s)) = 3) ∧ wi_ (nI dd) 0 10000 ∧ wi_ z 0 19) := fun q => hc27 ((wi_iff (by decide) (by decide)).mpr q.2.2)
        refine V_ldc2 E dX11_worth_30 kl_X11_255 ?_
        exact V_lret E R dX11_worth_33 (Nat.le_refl _) (Nat.le_refl _) (Or.inr ⟨g, rfl, rfl⟩)
