/-! ===== constructors ===== -/
def yRow (S : GS) (o f g c n : Nat) : GS := sR (sN S g c n) o f (some g)
def yPt1 (S : GS) : GS := yRow (yRow S 202 0 203 21 60) 202 1 204 22 60
def yPt2 (S : GS) : GS := yRow (yRow S 215 0 216 21 60) 215 1 217 22 60
def yRk (S : GS) : GS := yRow (yRow S 209 0 210 22 9) 209 1 211 22 9
def yLe (S : GS) : GS := yRow (yRow S 218 0 219 21 20) 218 1 300 21 128
def yPn (S : GS) : GS := yRow (yRow (yRow (yRow (yRow S 221 0 222 21 60) 221 1 223 21 60) 221 2 224 21 60) 221 3 225 21 60) 221 4 226 21 60
def yVs (S : GS) : GS := sR (yRk (sN (yRow S 207 0 208 26 50) 209 6 0)) 207 1 (some 209)
def yPm (S : GS) : GS := sR (yLe (sN (sR (yPt2 (sN (yRow (yRow S 212 0 213 27 100) 212 1 214 21 20) 215 2 0)) 212 2 (some 215)) 218 1 0)) 212 3 (some 218)
def yNew (S : GS) : GS := sR (yPn (sN (sR (yPm (sN (sR (yVs (sN (sR (yTi (sN (sR (yPt1 (sN (yRow S 200 0 201 25 100) 202 2 0)) 200 4 (some 202)) 205 7 0) 205 206 200) 200 5 (some 205)) 207 10 0)) 200 6 (some 207)) 212 5 0)) 200 7 (some 212)) 221 3 0)) 200 8 (some 221)

set_option maxRecDepth 4000 in
theorem cy_Parting1 (l : Launch) (d : Nat) (S : GS) (hk : kd S 202 = 1 + 1) (f203 : kd S 203 = 0) (f204 : kd S 204 = 0) : GC l (d + 1) yX1_init cX1_init 1 none [.ref 202] S (fun r S2 => r = none ∧ S2 = yPt1 S) (2) (120) := by
  refine GC.ofV (by decide) (Nat.le_of_ble_eq_true rfl) (fun X hl E R hnm => ?_)
  subst hl
  have E : En X RX1 cX1_init 1 (d + 1) (2) (120) := E
  have R : Rt X none (fun r S2 => r = none ∧ S2 = yPt1 S) := R
  refine V_aload_n E dX1_init_0 rfl ?_
  refine V_objInit E ml_X1_3 dX1_init_1 (by decide) (by omega) ?_
  refine V_aload_n E dX1_init_4 rfl ?_
  refine V_bipush (v := 60) E dX1_init_5 (by decide) ?_
  refine V_newa (at_ := .int) (N := 60) (203) E rfl (by decide) ac_int dX1_init_7 (rfl : (60 : Int32) = nI 60) (by omega) f203 (by decide) (by decide) ?_
  refine V_putRF E fl_X1_9 hnm dX1_init_9 rfl hk rfl rfl ?_
  refine V_aload_n E dX1_init_12 rfl ?_
  refine V_bipush (v := 60) E dX1_init_13 (by decide) ?_
  refine V_newa (at_ := .long) (N := 60) (204) E rfl (by decide) ac_long dX1_init_15 (rfl : (60 : Int32) = nI 60) (by omega) f204 (by decide) (by decide) ?_
  refine V_putRF E fl_X1_15 hnm dX1_init_17 rfl hk rfl rfl ?_
  exact V_vret E R dX1_init_20 (by decide) (by decide) ⟨rfl, rfl⟩

set_option maxRecDepth 4000 in
theorem cy_Parting2 (l : Launch) (d : Nat) (S : GS) (hk : kd S 215 = 1 + 1) (f216 : kd S 216 = 0) (f217 : kd S 217 = 0) : GC l (d + 1) yX1_init cX1_init 1 none [.ref 215] S (fun r S2 => r = none ∧ S2 = yPt2 S) (2) (120) := by
  refine GC.ofV (by decide) (Nat.le_of_ble_eq_true rfl) (fun X hl E R hnm => ?_)
  subst hl
  have E : En X RX1 cX1_init 1 (d + 1) (2) (120) := E
  have R : Rt X none (fun r S2 => r = none ∧ S2 = yPt2 S) := R
  refine V_aload_n E dX1_init_0 rfl ?_
  refine V_objInit E ml_X1_3 dX1_init_1 (by decide) (by omega) ?_
  refine V_aload_n E dX1_init_4 rfl ?_
  refine V_bipush (v := 60) E dX1_init_5 (by decide) ?_
  refine V_newa (at_ := .int) (N := 60) (216) E rfl (by decide) ac_int dX1_init_7 (rfl : (60 : Int32) = nI 60) (by omega) f216 (by decide) (by decide) ?_
  refine V_putRF E fl_X1_9 hnm dX1_init_9 rfl hk rfl rfl ?_
  refine V_aload_n E dX1_init_12 rfl ?_
  refine V_bipush (v := 60) E dX1_init_13 (by decide) ?_
  refine V_newa (at_ := .long) (N := 60) (217) E rfl (by decide) ac_long dX1_init_15 (rfl : (60 : Int32) = nI 60) (by omega) f217 (by decide) (by decide) ?_
  refine V_putRF E fl_X1_15 hnm dX1_init_17 rfl hk rfl rfl ?_
  exact V_vret E R dX1_init_20 (by decide) (by decide) ⟨rfl, rfl⟩

set_option maxRecDepth 4000 in
theorem cy_Reckoner_init (l : Launch) (d : Nat) (S : GS) (hk : kd S 209 = 5 + 1) (f210 : kd S 210 = 0) (f211 : kd S 211 = 0) : GC l (d + 1) yX5_init cX5_init 1 none [.ref 209] S (fun r S2 => r = none ∧ S2 = yRk S) (2) (18) := by
  refine GC.ofV (by decide) (Nat.le_of_ble_eq_true rfl) (fun X hl E R hnm => ?_)
  subst hl
  have E : En X RX5 cX5_init 1 (d + 1) (2) (18) := E
  have R : Rt X none (fun r S2 => r = none ∧ S2 = yRk S) := R
  refine V_aload_n E dX5_init_0 rfl ?_
  refine V_objInit E ml_X5_3 dX5_init_1 (by decide) (by omega) ?_
  refine V_aload_n E dX5_init_4 rfl ?_
  refine V_bipush (v := 9) E dX5_init_5 (by decide) ?_
  refine V_newa (at_ := .long) (N := 9) (210) E rfl (by decide) ac_long dX5_init_7 (rfl : (9 : Int32) = nI 9) (by omega) f210 (by decide) (by decide) ?_
  refine V_putRF E fl_X5_9 hnm dX5_init_9 rfl hk rfl rfl ?_
  refine V_aload_n E dX5_init_12 rfl ?_
  refine V_bipush (v := 9) E dX5_init_13 (by decide) ?_
  refine V_newa (at_ := .long) (N := 9) (211) E rfl (by decide) ac_long dX5_init_15 (rfl : (9 : Int32) = nI 9) (by omega) f211 (by decide) (by decide) ?_
  refine V_putRF E fl_X5_15 hnm dX5_init_17 rfl hk rfl rfl ?_
  exact V_vret E R dX5_init_20 (by decide) (by decide) ⟨rfl, rfl⟩

set_option maxRecDepth 4000 in
theorem cy_Ledger_init (l : Launch) (d : Nat) (S : GS) (hk : kd S 218 = 0 + 1) (f219 : kd S 219 = 0) (f300 : kd S 300 = 0) : GC l (d + 1) yX0_init cX0_init 1 none [.ref 218] S (fun r S2 => r = none ∧ S2 = yLe S) (2) (148) := by
  refine GC.ofV (by decide) (Nat.le_of_ble_eq_true rfl) (fun X hl E R hnm => ?_)
  subst hl
  have E : En X RX0 cX0_init 1 (d + 1) (2) (148) := E
  have R : Rt X none (fun r S2 => r = none ∧ S2 = yLe S) := R
  refine V_aload_n E dX0_init_0 rfl ?_
  refine V_objInit E ml_X0_3 dX0_init_1 (by decide) (by omega) ?_
  refine V_aload_n E dX0_init_4 rfl ?_
  refine V_bipush (v := 20) E dX0_init_5 (by decide) ?_
  refine V_newa (at_ := .int) (N := 20) (219) E rfl (by decide) ac_int dX0_init_7 (rfl : (20 : Int32) = nI 20) (by omega) f219 (by decide) (by decide) ?_
  refine V_putRF E fl_X0_9 hnm dX0_init_9 rfl hk rfl rfl ?_
  refine V_aload_n E dX0_init_12 rfl ?_
  refine V_sipush (v := 128) E dX0_init_13 (by decide) ?_
  refine V_newa (at_ := .int) (N := 128) (300) E rfl (by decide) ac_int dX0_init_16 (rfl : (128 : Int32) = nI 128) (by omega) f300 (by decide) (by decide) ?_
  refine V_putR E fl_X0_15 dX0_init_18 rfl hk rfl ?_
  exact V_vret E R dX0_init_21 (by decide) (by decide) ⟨rfl, rfl⟩

set_option maxRecDepth 4000 in
theorem cy_Plan_init (l : Launch) (d : Nat) (S : GS) (hk : kd S 221 = 2 + 1) (f222 : kd S 222 = 0) (f223 : kd S 223 = 0) (f224 : kd S 224 = 0) (f225 : kd S 225 = 0) (f226 : kd S 226 = 0) : GC l (d + 1) yX2_init cX2_init 1 none [.ref 221] S (fun r S2 => r = none ∧ S2 = yPn S) (5) (300) := by
  refine GC.ofV (by decide) (Nat.le_of_ble_eq_true rfl) (fun X hl E R hnm => ?_)
  subst hl
  have E : En X RX2 cX2_init 1 (d + 1) (5) (300) := E
  have R : Rt X none (fun r S2 => r = none ∧ S2 = yPn S) := R
  refine V_aload_n E dX2_init_0 rfl ?_
  refine V_objInit E ml_X2_3 dX2_init_1 (by decide) (by omega) ?_
  refine V_aload_n E dX2_init_4 rfl ?_
  refine V_bipush (v := 60) E dX2_init_5 (by decide) ?_
  refine V_newa (at_ := .int) (N := 60) (222) E rfl (by decide) ac_int dX2_init_7 (rfl : (60 : Int32) = nI 60) (by omega) f222 (by decide) (by decide) ?_
  refine V_putRF E fl_X2_9 hnm dX2_init_9 rfl hk rfl rfl ?_
  refine V_aload_n E dX2_init_12 rfl ?_
  refine V_bipush (v := 60) E dX2_init_13 (by decide) ?_
  refine V_newa (at_ := .int) (N := 60) (223) E rfl (by decide) ac_int dX2_init_15 (rfl : (60 : Int32) = nI 60) (by omega) f223 (by decide) (by decide) ?_
  refine V_putRF E fl_X2_15 hnm dX2_init_17 rfl hk rfl rfl ?_
  refine V_aload_n E dX2_init_20 rfl ?_
  refine V_bipush (v := 60) E dX2_init_21 (by decide) ?_
  refine V_newa (at_ := .int) (N := 60) (224) E rfl (by decide) ac_int dX2_init_23 (rfl : (60 : Int32) = nI 60) (by omega) f224 (by decide) (by decide) ?_
  refine V_putRF E fl_X2_18 hnm dX2_init_25 rfl hk rfl rfl ?_
  refine V_aload_n E dX2_init_28 rfl ?_
  refine V_bipush (v := 60) E dX2_init_29 (by decide) ?_
  refine V_newa (at_ := .int) (N := 60) (225) E rfl (by decide) ac_int dX2_init_31 (rfl : (60 : Int32) = nI 60) (by omega) f225 (by decide) (by decide) ?_
  refine V_putRF E fl_X2_21 hnm dX2_init_33 rfl hk rfl rfl ?_
  refine V_aload_n E dX2_init_36 rfl ?_
  refine V_bipush (v := 60) E dX2_init_37 (by decide) ?_
  refine V_newa (at_ := .int) (N := 60) (226) E rfl (by decide) ac_int dX2_init_39 (rfl : (60 : Int32) = nI 60) (by omega) f226 (by decide) (by decide) ?_
  refine V_putRF E fl_X2_24 hnm dX2_init_41 rfl hk rfl rfl ?_
  exact V_vret E R dX2_init_44 (by decide) (by decide) ⟨rfl, rfl⟩

set_option maxRecDepth 4000 in
theorem cy_Votes_init (l : Launch) (d : Nat) (S : GS) (hk : kd S 207 = 9 + 1) (f208 : kd S 208 = 0) (f209 : kd S 209 = 0) (f210 : kd S 210 = 0) (f211 : kd S 211 = 0) : GC l (d + 2) yX9_init cX9_init 1 none [.ref 207] S (fun r S2 => r = none ∧ S2 = yVs S) (4) (71) := by
  refine GC.ofV (by decide) (Nat.le_of_ble_eq_true rfl) (fun X hl E R hnm => ?_)
  subst hl
  have E : En X RX9 cX9_init 1 (d + 2) (4) (71) := E
  have R : Rt X none (fun r S2 => r = none ∧ S2 = yVs S) := R
  refine V_aload_n E dX9_init_0 rfl ?_
  refine V_objInit E ml_X9_3 dX9_init_1 (by decide) (by omega) ?_
  refine V_aload_n E dX9_init_4 rfl ?_
  refine V_bipush (v := 50) E dX9_init_5 (by decide) ?_
  refine V_newq (ci := 8) (c := 26) (N := 50) (208) E (by decide) cl_X9_9 dX9_init_7 (rfl : (50 : Int32) = nI 50) (by omega) f208 (by decide) (by decide) ?_
  refine V_putRF E fl_X9_11 hnm dX9_init_10 rfl hk rfl rfl ?_
  refine V_aload_n E dX9_init_13 rfl ?_
  refine V_newN (N := 3) (209) E (by decide) cl_X9_17 dX9_init_14 f209 rfl (by decide) (by decide) ?_
  refine V_dup E dX9_init_17 rfl ?_
  refine V_callI E (cy_Reckoner_init (x_l X) (d + 0) _ rfl f210 f211) ml_X9_19 mi_X5_init dX9_init_18 rfl (by simp [Value.category]) (by omega) (by decide) (by decide) (fun r S2 hp => ?_)
  obtain ⟨rfl, rfl⟩ := hp
  refine V_putRF E fl_X9_20 hnm dX9_init_21 rfl hk rfl rfl ?_
  exact V_vret E R dX9_init_24 (by decide) (by decide) ⟨rfl, rfl⟩

set_option maxRecDepth 4000 in
theorem cy_Premiums_init (l : Launch) (d : Nat) (S : GS) (hk : kd S 212 = 4 + 1) (f213 : kd S 213 = 0) (f214 : kd S 214 = 0) (f215 : kd S 215 = 0) (f216 : kd S 216 = 0) (f217 : kd S 217 = 0) (f218 : kd S 218 = 0) (f219 : kd S 219 = 0) (f300 : kd S 300 = 0) : GC l (d + 2) yX4_init cX4_init 1 none [.ref 212] S (fun r S2 => r = none ∧ S2 = yPm S) (8) (393) := by
  refine GC.ofV (by decide) (Nat.le_of_ble_eq_true rfl) (fun X hl E R hnm => ?_)
  subst hl
  have E : En X RX4 cX4_init 1 (d + 2) (8) (393) := E
  have R : Rt X none (fun r S2 => r = none ∧ S2 = yPm S) := R
  refine V_aload_n E dX4_init_0 rfl ?_
  refine V_objInit E ml_X4_3 dX4_init_1 (by decide) (by omega) ?_
  refine V_aload_n E dX4_init_4 rfl ?_
  refine V_bipush (v := 100) E dX4_init_5 (by decide) ?_
  refine V_newq (ci := 3) (c := 27) (N := 100) (213) E (by decide) cl_X4_9 dX4_init_7 (rfl : (100 : Int32) = nI 100) (by omega) f213 (by decide) (by decide) ?_
  refine V_putRF E fl_X4_11 hnm dX4_init_10 rfl hk rfl rfl ?_
  refine V_aload_n E dX4_init_13 rfl ?_
  refine V_bipush (v := 20) E dX4_init_14 (by decide) ?_
  refine V_newa (at_ := .int) (N := 20) (214) E rfl (by decide) ac_int dX4_init_16 (rfl : (20 : Int32) = nI 20) (by omega) f214 (by decide) (by decide) ?_
  refine V_putRF E fl_X4_17 hnm dX4_init_18 rfl hk rfl rfl ?_
  refine V_aload_n E dX4_init_21 rfl ?_
  refine V_newN (N := 2) (215) E (by decide) cl_X4_21 dX4_init_22 f215 rfl (by decide) (by decide) ?_
  refine V_dup E dX4_init_25 rfl ?_
  refine V_callI E (cy_Parting2 (x_l X) (d + 0) _ rfl f216 f217) ml_X4_23 mi_X1_init dX4_init_26 rfl (by simp [Value.category]) (by omega) (by decide) (by decide) (fun r S2 hp => ?_)
  obtain ⟨rfl, rfl⟩ := hp
  refine V_putRF E fl_X4_24 hnm dX4_init_29 rfl hk rfl rfl ?_
  refine V_aload_n E dX4_init_32 rfl ?_
  refine V_newN (N := 3) (218) E (by decide) cl_X4_28 dX4_init_33 f218 rfl (by decide) (by decide) ?_
  refine V_dup E dX4_init_36 rfl ?_
  refine V_callI E (cy_Ledger_init (x_l X) (d + 0) _ rfl f219 f300) ml_X4_30 mi_X0_init dX4_init_37 rfl (by simp [Value.category]) (by omega) (by decide) (by decide) (fun r S2 hp => ?_)
  obtain ⟨rfl, rfl⟩ := hp
  refine V_putRF E fl_X4_31 hnm dX4_init_40 rfl hk rfl rfl ?_
  exact V_vret E R dX4_init_43 (by decide) (by decide) ⟨rfl, rfl⟩

set_option maxRecDepth 4000 in
theorem cy_new (l : Launch) (d : Nat) (S : GS) (hk : kd S 200 = 10 + 1) (f201 : kd S 201 = 0) (f202 : kd S 202 = 0) (f203 : kd S 203 = 0) (f204 : kd S 204 = 0) (f205 : kd S 205 = 0) (f206 : kd S 206 = 0) (f207 : kd S 207 = 0) (f208 : kd S 208 = 0) (f209 : kd S 209 = 0) (f210 : kd S 210 = 0) (f211 : kd S 211 = 0) (f212 : kd S 212 = 0) (f213 : kd S 213 = 0) (f214 : kd S 214 = 0) (f215 : kd S 215 = 0) (f216 : kd S 216 = 0) (f217 : kd S 217 = 0) (f218 : kd S 218 = 0) (f219 : kd S 219 = 0) (f221 : kd S 221 = 0) (f222 : kd S 222 = 0) (f223 : kd S 223 = 0) (f224 : kd S 224 = 0) (f225 : kd S 225 = 0) (f226 : kd S 226 = 0) (f300 : kd S 300 = 0) : GC l (d + 3) yX10_init cX10_init 1 none [.ref 200] S (fun r S2 => r = none ∧ S2 = yNew S) (26) (1203) := by
  refine GC.ofV (by decide) (Nat.le_of_ble_eq_true rfl) (fun X hl E R hnm => ?_)
  subst hl
  have E : En X RX10 cX10_init 1 (d + 3) (26) (1203) := E
  have R : Rt X none (fun r S2 => r = none ∧ S2 = yNew S) := R
  refine V_aload_n E dX10_init_0 rfl ?_
  refine V_objInit E ml_X10_1 dX10_init_1 (by decide) (by omega) ?_
  refine V_aload_n E dX10_init_4 rfl ?_
  refine V_bipush (v := 100) E dX10_init_5 (by decide) ?_
  refine V_newq (ci := 7) (c := 25) (N := 100) (201) E (by decide) cl_X10_9 dX10_init_7 (rfl : (100 : Int32) = nI 100) (by omega) f201 (by decide) (by decide) ?_
  refine V_putRF E fl_X10_11 hnm dX10_init_10 rfl hk rfl rfl ?_
  refine V_aload_n E dX10_init_13 rfl ?_
  refine V_newN (N := 2) (202) E (by decide) cl_X10_15 dX10_init_14 f202 rfl (by decide) (by decide) ?_
  refine V_dup E dX10_init_17 rfl ?_
  refine V_callI E (cy_Parting1 (x_l X) (d + 1) _ rfl f203 f204) ml_X10_17 mi_X1_init dX10_init_18 rfl (by simp [Value.category]) (by omega) (by decide) (by decide) (fun r S2 hp => ?_)
  obtain ⟨rfl, rfl⟩ := hp
  refine V_putRF E fl_X10_18 hnm dX10_init_21 rfl hk rfl rfl ?_
  refine V_aload_n E dX10_init_24 rfl ?_
  refine V_newN (N := 2) (205) E (by decide) cl_X10_22 dX10_init_25 f205 rfl (by decide) (by decide) ?_
  refine V_dup E dX10_init_28 rfl ?_
  refine V_sipush (v := 200) E dX10_init_29 (by decide) ?_
  refine V_callI E (cy_Text_init (x_l X) (d + 1) _ 205 206 200 (by decide) rfl f206) ml_X10_24 mi_X6_init dX10_init_32 rfl (by simp [Value.category]) (by omega) (by decide) (by decide) (fun r S2 hp => ?_)
  obtain ⟨rfl, rfl⟩ := hp
  refine V_putRF E fl_X10_27 hnm dX10_init_35 rfl hk rfl rfl ?_
  refine V_aload_n E dX10_init_38 rfl ?_
  refine V_newN (N := 3) (207) E (by decide) cl_X10_31 dX10_init_39 f207 rfl (by decide) (by decide) ?_
  refine V_dup E dX10_init_42 rfl ?_
  refine V_callI E (cy_Votes_init (x_l X) (d + 0) _ rfl f208 f209 f210 f211) ml_X10_33 mi_X9_init dX10_init_43 rfl (by simp [Value.category]) (by omega) (by decide) (by decide) (fun r S2 hp => ?_)
  obtain ⟨rfl, rfl⟩ := hp
  refine V_putRF E fl_X10_34 hnm dX10_init_46 rfl hk rfl rfl ?_
  refine V_aload_n E dX10_init_49 rfl ?_
  refine V_newN (N := 6) (212) E (by decide) cl_X10_38 dX10_init_50 f212 rfl (by decide) (by decide) ?_
  refine V_dup E dX10_init_53 rfl ?_
  refine V_callI E (cy_Premiums_init (x_l X) (d + 0) _ rfl f213 f214 f215 f216 f217 f218 f219 f300) ml_X10_40 mi_X4_init dX10_init_54 rfl (by simp [Value.category]) (by omega) (by decide) (by decide) (fun r S2 hp => ?_)
  obtain ⟨rfl, rfl⟩ := hp
  refine V_putRF E fl_X10_41 hnm dX10_init_57 rfl hk rfl rfl ?_
  refine V_aload_n E dX10_init_60 rfl ?_
  refine V_newN (N := 6) (221) E (by decide) cl_X10_45 dX10_init_61 f221 rfl (by decide) (by decide) ?_
  refine V_dup E dX10_init_64 rfl ?_
  refine V_callI E (cy_Plan_init (x_l X) (d + 1) _ rfl f222 f223 f224 f225 f226) ml_X10_47 mi_X2_init dX10_init_65 rfl (by simp [Value.category]) (by omega) (by decide) (by decide) (fun r S2 hp => ?_)
  obtain ⟨rfl, rfl⟩ := hp
  refine V_putRF E fl_X10_48 hnm dX10_init_68 rfl hk rfl rfl ?_
  exact V_vret E R dX10_init_71 (by decide) (by decide) ⟨rfl, rfl⟩

def mNew (S : GS) : GS := yRow (yRow (yRow (yRow (yRow (yRow (yRow (yRow (yRow (yRow (yRow (yRow (yRow (yRow (yRow (yRow (yRow (yRow (yRow (yRow (yRow (yRow (yRow (yRow (yRow (yRow (yRow (yRow (yRow (yRow (yRow (yRow (yRow S 0 6 6 21 100) 0 7 7 21 6000) 0 8 8 21 100) 0 9 9 21 100) 0 10 10 24 100) 0 11 11 21 100) 0 12 12 21 100) 0 13 13 22 60) 0 14 14 22 60) 0 15 15 24 60) 0 16 16 21 220) 0 21 21 21 21000) 0 22 22 21 50) 0 23 23 24 50) 0 26 26 21 420) 0 27 27 22 420) 0 28 28 21 100) 0 29 29 21 100) 0 30 30 21 100) 0 31 31 21 100) 0 32 32 21 2000) 0 33 33 21 2000) 0 34 34 21 2000) 0 35 100 21 256) 0 36 101 21 256) 0 37 102 21 256) 0 38 103 21 256) 0 39 39 21 20) 0 40 40 21 20) 0 41 41 21 60) 0 42 42 21 60) 0 43 43 21 60) 0 44 44 21 60

set_option maxRecDepth 8000 in
set_option maxHeartbeats 8000000 in
theorem cm_init0 (l : Launch) (d : Nat) (S : GS) (hk : kd S 0 = 11 + 1) (hf : ∀ g, 1 ≤ g → g < 200 → kd S g = 0) : GC l (d + 1) yX11_init cX11_init 1 none [.ref 0] S (fun r S2 => r = none ∧ S2 = mNew S) (33) (36644) := by
  refine GC.ofV (by decide) (Nat.le_of_ble_eq_true rfl) (fun X hl E R hnm => ?_)
  subst hl
  have E : En X RX11 cX11_init 1 (d + 1) (33) (36644) := E
  have R : Rt X none (fun r S2 => r = none ∧ S2 = mNew S) := R
  refine V_aload_n E dX11_init_0 rfl ?_
  refine V_objInit E ml_X11_1 dX11_init_1 (by decide) (by omega) ?_
  refine V_aload_n E dX11_init_4 rfl ?_
  refine V_bipush (v := 100) E dX11_init_5 (by decide) ?_
  refine V_newa (at_ := .int) (N := 100) (6) E rfl (by decide) ac_int dX11_init_7 (rfl : (100 : Int32) = nI 100) (by omega) (hf 6 (by decide) (by decide)) (by decide) (by decide) ?_
  refine V_putRF E fl_X11_9 hnm dX11_init_9 rfl hk rfl rfl ?_
  refine V_aload_n E dX11_init_12 rfl ?_
  refine V_sipush (v := 6000) E dX11_init_13 (by decide) ?_
  refine V_newa (at_ := .int) (N := 6000) (7) E rfl (by decide) ac_int dX11_init_16 (rfl : (6000 : Int32) = nI 6000) (by omega) (hf 7 (by decide) (by decide)) (by decide) (by decide) ?_
  refine V_putRF E fl_X11_13 hnm dX11_init_18 rfl hk rfl rfl ?_
  refine V_aload_n E dX11_init_21 rfl ?_
  refine V_bipush (v := 100) E dX11_init_22 (by decide) ?_
  refine V_newa (at_ := .int) (N := 100) (8) E rfl (by decide) ac_int dX11_init_24 (rfl : (100 : Int32) = nI 100) (by omega) (hf 8 (by decide) (by decide)) (by decide) (by decide) ?_
  refine V_putRF E fl_X11_16 hnm dX11_init_26 rfl hk rfl rfl ?_
  refine V_aload_n E dX11_init_29 rfl ?_
  refine V_bipush (v := 100) E dX11_init_30 (by decide) ?_
  refine V_newa (at_ := .int) (N := 100) (9) E rfl (by decide) ac_int dX11_init_32 (rfl : (100 : Int32) = nI 100) (by omega) (hf 9 (by decide) (by decide)) (by decide) (by decide) ?_
  refine V_putRF E fl_X11_19 hnm dX11_init_34 rfl hk rfl rfl ?_
  refine V_aload_n E dX11_init_37 rfl ?_
  refine V_bipush (v := 100) E dX11_init_38 (by decide) ?_
  refine V_newa (at_ := .boolean) (N := 100) (10) E rfl (by decide) ac_boolean dX11_init_40 (rfl : (100 : Int32) = nI 100) (by omega) (hf 10 (by decide) (by decide)) (by decide) (by decide) ?_
  refine V_putRF E fl_X11_22 hnm dX11_init_42 rfl hk rfl rfl ?_
  refine V_aload_n E dX11_init_45 rfl ?_
  refine V_bipush (v := 100) E dX11_init_46 (by decide) ?_
  refine V_newa (at_ := .int) (N := 100) (11) E rfl (by decide) ac_int dX11_init_48 (rfl : (100 : Int32) = nI 100) (by omega) (hf 11 (by decide) (by decide)) (by decide) (by decide) ?_
  refine V_putRF E fl_X11_26 hnm dX11_init_50 rfl hk rfl rfl ?_
  refine V_aload_n E dX11_init_53 rfl ?_
  refine V_bipush (v := 100) E dX11_init_54 (by decide) ?_
  refine V_newa (at_ := .int) (N := 100) (12) E rfl (by decide) ac_int dX11_init_56 (rfl : (100 : Int32) = nI 100) (by omega) (hf 12 (by decide) (by decide)) (by decide) (by decide) ?_
  refine V_putRF E fl_X11_29 hnm dX11_init_58 rfl hk rfl rfl ?_
  refine V_aload_n E dX11_init_61 rfl ?_
  refine V_bipush (v := 60) E dX11_init_62 (by decide) ?_
  refine V_newa (at_ := .long) (N := 60) (13) E rfl (by decide) ac_long dX11_init_64 (rfl : (60 : Int32) = nI 60) (by omega) (hf 13 (by decide) (by decide)) (by decide) (by decide) ?_
  refine V_putRF E fl_X11_32 hnm dX11_init_66 rfl hk rfl rfl ?_
  refine V_aload_n E dX11_init_69 rfl ?_
  refine V_bipush (v := 60) E dX11_init_70 (by decide) ?_
  refine V_newa (at_ := .long) (N := 60) (14) E rfl (by decide) ac_long dX11_init_72 (rfl : (60 : Int32) = nI 60) (by omega) (hf 14 (by decide) (by decide)) (by decide) (by decide) ?_
  refine V_putRF E fl_X11_36 hnm dX11_init_74 rfl hk rfl rfl ?_
  refine V_aload_n E dX11_init_77 rfl ?_
  refine V_bipush (v := 60) E dX11_init_78 (by decide) ?_
  refine V_newa (at_ := .boolean) (N := 60) (15) E rfl (by decide) ac_boolean dX11_init_80 (rfl : (60 : Int32) = nI 60) (by omega) (hf 15 (by decide) (by decide)) (by decide) (by decide) ?_
  refine V_putRF E fl_X11_39 hnm dX11_init_82 rfl hk rfl rfl ?_
  refine V_aload_n E dX11_init_85 rfl ?_
  refine V_sipush (v := 220) E dX11_init_86 (by decide) ?_
  refine V_newa (at_ := .int) (N := 220) (16) E rfl (by decide) ac_int dX11_init_89 (rfl : (220 : Int32) = nI 220) (by omega) (hf 16 (by decide) (by decide)) (by decide) (by decide) ?_
  refine V_putRF E fl_X11_42 hnm dX11_init_91 rfl hk rfl rfl ?_
  refine V_aload_n E dX11_init_94 rfl ?_
  refine V_sipush (v := 21000) E dX11_init_95 (by decide) ?_
  refine V_newa (at_ := .int) (N := 21000) (21) E rfl (by decide) ac_int dX11_init_98 (rfl : (21000 : Int32) = nI 21000) (by omega) (hf 21 (by decide) (by decide)) (by decide) (by decide) ?_
  refine V_putRF E fl_X11_45 hnm dX11_init_100 rfl hk rfl rfl ?_
  refine V_aload_n E dX11_init_103 rfl ?_
  refine V_bipush (v := 50) E dX11_init_104 (by decide) ?_
  refine V_newa (at_ := .int) (N := 50) (22) E rfl (by decide) ac_int dX11_init_106 (rfl : (50 : Int32) = nI 50) (by omega) (hf 22 (by decide) (by decide)) (by decide) (by decide) ?_
  refine V_putRF E fl_X11_48 hnm dX11_init_108 rfl hk rfl rfl ?_
  refine V_aload_n E dX11_init_111 rfl ?_
  refine V_bipush (v := 50) E dX11_init_112 (by decide) ?_
  refine V_newa (at_ := .boolean) (N := 50) (23) E rfl (by decide) ac_boolean dX11_init_114 (rfl : (50 : Int32) = nI 50) (by omega) (hf 23 (by decide) (by decide)) (by decide) (by decide) ?_
  refine V_putRF E fl_X11_51 hnm dX11_init_116 rfl hk rfl rfl ?_
  refine V_aload_n E dX11_init_119 rfl ?_
  refine V_sipush (v := 420) E dX11_init_120 (by decide) ?_
  refine V_newa (at_ := .int) (N := 420) (26) E rfl (by decide) ac_int dX11_init_123 (rfl : (420 : Int32) = nI 420) (by omega) (hf 26 (by decide) (by decide)) (by decide) (by decide) ?_
  refine V_putRF E fl_X11_54 hnm dX11_init_125 rfl hk rfl rfl ?_
  refine V_aload_n E dX11_init_128 rfl ?_
  refine V_sipush (v := 420) E dX11_init_129 (by decide) ?_
  refine V_newa (at_ := .long) (N := 420) (27) E rfl (by decide) ac_long dX11_init_132 (rfl : (420 : Int32) = nI 420) (by omega) (hf 27 (by decide) (by decide)) (by decide) (by decide) ?_
  refine V_putRF E fl_X11_57 hnm dX11_init_134 rfl hk rfl rfl ?_
  refine V_aload_n E dX11_init_137 rfl ?_
  refine V_bipush (v := 100) E dX11_init_138 (by decide) ?_
  refine V_newa (at_ := .int) (N := 100) (28) E rfl (by decide) ac_int dX11_init_140 (rfl : (100 : Int32) = nI 100) (by omega) (hf 28 (by decide) (by decide)) (by decide) (by decide) ?_
  refine V_putRF E fl_X11_60 hnm dX11_init_142 rfl hk rfl rfl ?_
  refine V_aload_n E dX11_init_145 rfl ?_
  refine V_bipush (v := 100) E dX11_init_146 (by decide) ?_
  refine V_newa (at_ := .int) (N := 100) (29) E rfl (by decide) ac_int dX11_init_148 (rfl : (100 : Int32) = nI 100) (by omega) (hf 29 (by decide) (by decide)) (by decide) (by decide) ?_
  refine V_putRF E fl_X11_63 hnm dX11_init_150 rfl hk rfl rfl ?_
  refine V_aload_n E dX11_init_153 rfl ?_
  refine V_bipush (v := 100) E dX11_init_154 (by decide) ?_
  refine V_newa (at_ := .int) (N := 100) (30) E rfl (by decide) ac_int dX11_init_156 (rfl : (100 : Int32) = nI 100) (by omega) (hf 30 (by decide) (by decide)) (by decide) (by decide) ?_
  refine V_putRF E fl_X11_66 hnm dX11_init_158 rfl hk rfl rfl ?_
  refine V_aload_n E dX11_init_161 rfl ?_
  refine V_bipush (v := 100) E dX11_init_162 (by decide) ?_
  refine V_newa (at_ := .int) (N := 100) (31) E rfl (by decide) ac_int dX11_init_164 (rfl : (100 : Int32) = nI 100) (by omega) (hf 31 (by decide) (by decide)) (by decide) (by decide) ?_
  refine V_putRF E fl_X11_69 hnm dX11_init_166 rfl hk rfl rfl ?_
  refine V_aload_n E dX11_init_169 rfl ?_
  refine V_sipush (v := 2000) E dX11_init_170 (by decide) ?_
  refine V_newa (at_ := .int) (N := 2000) (32) E rfl (by decide) ac_int dX11_init_173 (rfl : (2000 : Int32) = nI 2000) (by omega) (hf 32 (by decide) (by decide)) (by decide) (by decide) ?_
  refine V_putRF E fl_X11_72 hnm dX11_init_175 rfl hk rfl rfl ?_
  refine V_aload_n E dX11_init_178 rfl ?_
  refine V_sipush (v := 2000) E dX11_init_179 (by decide) ?_
  refine V_newa (at_ := .int) (N := 2000) (33) E rfl (by decide) ac_int dX11_init_182 (rfl : (2000 : Int32) = nI 2000) (by omega) (hf 33 (by decide) (by decide)) (by decide) (by decide) ?_
  refine V_putRF E fl_X11_75 hnm dX11_init_184 rfl hk rfl rfl ?_
  refine V_aload_n E dX11_init_187 rfl ?_
  refine V_sipush (v := 2000) E dX11_init_188 (by decide) ?_
  refine V_newa (at_ := .int) (N := 2000) (34) E rfl (by decide) ac_int dX11_init_191 (rfl : (2000 : Int32) = nI 2000) (by omega) (hf 34 (by decide) (by decide)) (by decide) (by decide) ?_
  refine V_putRF E fl_X11_78 hnm dX11_init_193 rfl hk rfl rfl ?_
  refine V_aload_n E dX11_init_196 rfl ?_
  refine V_sipush (v := 256) E dX11_init_197 (by decide) ?_
  refine V_newa (at_ := .int) (N := 256) (100) E rfl (by decide) ac_int dX11_init_200 (rfl : (256 : Int32) = nI 256) (by omega) (hf 100 (by decide) (by decide)) (by decide) (by decide) ?_
  refine V_putR E fl_X11_81 dX11_init_202 rfl hk rfl ?_
  refine V_aload_n E dX11_init_205 rfl ?_
  refine V_sipush (v := 256) E dX11_init_206 (by decide) ?_
  refine V_newa (at_ := .int) (N := 256) (101) E rfl (by decide) ac_int dX11_init_209 (rfl : (256 : Int32) = nI 256) (by omega) (hf 101 (by decide) (by decide)) (by decide) (by decide) ?_
  refine V_putR E fl_X11_84 dX11_init_211 rfl hk rfl ?_
  refine V_aload_n E dX11_init_214 rfl ?_
  refine V_sipush (v := 256) E dX11_init_215 (by decide) ?_
  refine V_newa (at_ := .int) (N := 256) (102) E rfl (by decide) ac_int dX11_init_218 (rfl : (256 : Int32) = nI 256) (by omega) (hf 102 (by decide) (by decide)) (by decide) (by decide) ?_
  refine V_putR E fl_X11_87 dX11_init_220 rfl hk rfl ?_
  refine V_aload_n E dX11_init_223 rfl ?_
  refine V_sipush (v := 256) E dX11_init_224 (by decide) ?_
  refine V_newa (at_ := .int) (N := 256) (103) E rfl (by decide) ac_int dX11_init_227 (rfl : (256 : Int32) = nI 256) (by omega) (hf 103 (by decide) (by decide)) (by decide) (by decide) ?_
  refine V_putR E fl_X11_90 dX11_init_229 rfl hk rfl ?_
  refine V_aload_n E dX11_init_232 rfl ?_
  refine V_bipush (v := 20) E dX11_init_233 (by decide) ?_
  refine V_newa (at_ := .int) (N := 20) (39) E rfl (by decide) ac_int dX11_init_235 (rfl : (20 : Int32) = nI 20) (by omega) (hf 39 (by decide) (by decide)) (by decide) (by decide) ?_
  refine V_putRF E fl_X11_93 hnm dX11_init_237 rfl hk rfl rfl ?_
  refine V_aload_n E dX11_init_240 rfl ?_
  refine V_bipush (v := 20) E dX11_init_241 (by decide) ?_
  refine V_newa (at_ := .int) (N := 20) (40) E rfl (by decide) ac_int dX11_init_243 (rfl : (20 : Int32) = nI 20) (by omega) (hf 40 (by decide) (by decide)) (by decide) (by decide) ?_
  refine V_putRF E fl_X11_96 hnm dX11_init_245 rfl hk rfl rfl ?_
  refine V_aload_n E dX11_init_248 rfl ?_
  refine V_bipush (v := 60) E dX11_init_249 (by decide) ?_
  refine V_newa (at_ := .int) (N := 60) (41) E rfl (by decide) ac_int dX11_init_251 (rfl : (60 : Int32) = nI 60) (by omega) (hf 41 (by decide) (by decide)) (by decide) (by decide) ?_
  refine V_putRF E fl_X11_99 hnm dX11_init_253 rfl hk rfl rfl ?_
  refine V_aload_n E dX11_init_256 rfl ?_
  refine V_bipush (v := 60) E dX11_init_257 (by decide) ?_
  refine V_newa (at_ := .int) (N := 60) (42) E rfl (by decide) ac_int dX11_init_259 (rfl : (60 : Int32) = nI 60) (by omega) (hf 42 (by decide) (by decide)) (by decide) (by decide) ?_
  refine V_putRF E fl_X11_102 hnm dX11_init_261 rfl hk rfl rfl ?_
  refine V_aload_n E dX11_init_264 rfl ?_
  refine V_bipush (v := 60) E dX11_init_265 (by decide) ?_
  refine V_newa (at_ := .int) (N := 60) (43) E rfl (by decide) ac_int dX11_init_267 (rfl : (60 : Int32) = nI 60) (by omega) (hf 43 (by decide) (by decide)) (by decide) (by decide) ?_
  refine V_putRF E fl_X11_105 hnm dX11_init_269 rfl hk rfl rfl ?_
  refine V_aload_n E dX11_init_272 rfl ?_
  refine V_bipush (v := 60) E dX11_init_273 (by decide) ?_
  refine V_newa (at_ := .int) (N := 60) (44) E rfl (by decide) ac_int dX11_init_275 (rfl : (60 : Int32) = nI 60) (by omega) (hf 44 (by decide) (by decide)) (by decide) (by decide) ?_
  refine V_putRF E fl_X11_108 hnm dX11_init_277 rfl hk rfl rfl ?_
  exact V_vret E R dX11_init_280 (by decide) (by decide) ⟨rfl, rfl⟩
