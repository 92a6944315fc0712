theorem cl_L_7 : Cond.classLink RL 7 (cR 10) ∈ gt_B := gt_in (List.mem_of_getElem? (i := 53) (by decide +kernel)) (by decide +kernel)
theorem cl_X10_9 : Cond.classLink RX10 9 (cR 7) ∈ gt_B := gt_in (List.mem_of_getElem? (i := 61) (by decide +kernel)) (by decide +kernel)
theorem cl_X10_15 : Cond.classLink RX10 15 (cR 1) ∈ gt_B := gt_in (List.mem_of_getElem? (i := 63) (by decide +kernel)) (by decide +kernel)
theorem fl_X1_9 : FL RX1 9 1 0 := ⟨by decide, by decide, gt_in (List.mem_of_getElem? (i := 69) (by decide +kernel)) (by decide +kernel)⟩
theorem fl_X1_15 : FL RX1 15 1 1 := ⟨by decide, by decide, gt_in (List.mem_of_getElem? (i := 70) (by decide +kernel)) (by decide +kernel)⟩
theorem ac_int : Cond.arrayClass .int ∈ gt_B := gt_in (List.mem_of_getElem? (i := 76) (by decide +kernel)) (by decide +kernel)
theorem ac_long : Cond.arrayClass .long ∈ gt_B := gt_in (List.mem_of_getElem? (i := 77) (by decide +kernel)) (by decide +kernel)
theorem cl_X10_22 : Cond.classLink RX10 22 (cR 6) ∈ gt_B := gt_in (List.mem_of_getElem? (i := 78) (by decide +kernel)) (by decide +kernel)
theorem fl_X6_15 : FL RX6 15 6 0 := ⟨by decide, by decide, gt_in (List.mem_of_getElem? (i := 87) (by decide +kernel)) (by decide +kernel)⟩
theorem fn_X5_30 : FN RX5 30 6 0 := ⟨by decide, by decide, "CocoaYard", List.mem_filter.mpr ⟨List.mem_of_getElem? (i := 88) (by decide +kernel), by decide +kernel⟩⟩
theorem fn_X5_25 : FN RX5 25 6 1 := ⟨by decide, by decide, "CocoaYard", List.mem_filter.mpr ⟨List.mem_of_getElem? (i := 89) (by decide +kernel), by decide +kernel⟩⟩
theorem fl_X6_21 : FL RX6 21 6 1 := ⟨by decide, by decide, gt_in (List.mem_of_getElem? (i := 90) (by decide +kernel)) (by decide +kernel)⟩
theorem fn_X10_119 : FN RX10 119 6 1 := ⟨by decide, by decide, "CocoaYard", List.mem_filter.mpr ⟨List.mem_of_getElem? (i := 91) (by decide +kernel), by decide +kernel⟩⟩
theorem ac_byte : Cond.arrayClass .byte ∈ gt_B := gt_in (List.mem_of_getElem? (i := 97) (by decide +kernel)) (by decide +kernel)
theorem cl_X10_31 : Cond.classLink RX10 31 (cR 9) ∈ gt_B := gt_in (List.mem_of_getElem? (i := 98) (by decide +kernel)) (by decide +kernel)
theorem cl_X9_9 : Cond.classLink RX9 9 (cR 8) ∈ gt_B := gt_in (List.mem_of_getElem? (i := 104) (by decide +kernel)) (by decide +kernel)
theorem cl_X9_17 : Cond.classLink RX9 17 (cR 5) ∈ gt_B := gt_in (List.mem_of_getElem? (i := 106) (by decide +kernel)) (by decide +kernel)
theorem fl_X5_9 : FL RX5 9 5 0 := ⟨by decide, by decide, gt_in (List.mem_of_getElem? (i := 112) (by decide +kernel)) (by decide +kernel)⟩
theorem fl_X5_15 : FL RX5 15 5 1 := ⟨by decide, by decide, gt_in (List.mem_of_getElem? (i := 113) (by decide +kernel)) (by decide +kernel)⟩
theorem fl_X5_18 : FL RX5 18 5 2 := ⟨by decide, by decide, gt_in (List.mem_of_getElem? (i := 114) (by decide +kernel)) (by decide +kernel)⟩
theorem fl_X9_11 : FL RX9 11 9 0 := ⟨by decide, by decide, gt_in (List.mem_of_getElem? (i := 122) (by decide +kernel)) (by decide +kernel)⟩
theorem fl_X9_20 : FL RX9 20 9 1 := ⟨by decide, by decide, gt_in (List.mem_of_getElem? (i := 123) (by decide +kernel)) (by decide +kernel)⟩
theorem fl_X9_24 : FL RX9 24 9 2 := ⟨by decide, by decide, gt_in (List.mem_of_getElem? (i := 124) (by decide +kernel)) (by decide +kernel)⟩
theorem fn_X10_205 : FN RX10 205 9 2 := ⟨by decide, by decide, "CocoaYard", List.mem_filter.mpr ⟨List.mem_of_getElem? (i := 125) (by decide +kernel), by decide +kernel⟩⟩
theorem cl_X10_38 : Cond.classLink RX10 38 (cR 4) ∈ gt_B := gt_in (List.mem_of_getElem? (i := 133) (by decide +kernel)) (by decide +kernel)
theorem cl_X4_9 : Cond.classLink RX4 9 (cR 3) ∈ gt_B := gt_in (List.mem_of_getElem? (i := 139) (by decide +kernel)) (by decide +kernel)
theorem cl_X4_21 : Cond.classLink RX4 21 (cR 1) ∈ gt_B := gt_in (List.mem_of_getElem? (i := 141) (by decide +kernel)) (by decide +kernel)
theorem cl_X4_28 : Cond.classLink RX4 28 (cR 0) ∈ gt_B := gt_in (List.mem_of_getElem? (i := 143) (by decide +kernel)) (by decide +kernel)
theorem fl_X0_9 : FL RX0 9 0 0 := ⟨by decide, by decide, gt_in (List.mem_of_getElem? (i := 149) (by decide +kernel)) (by decide +kernel)⟩
theorem fn_X10_163 : FN RX10 163 0 0 := ⟨by decide, by decide, "CocoaYard", List.mem_filter.mpr ⟨List.mem_of_getElem? (i := 150) (by decide +kernel), by decide +kernel⟩⟩
theorem fl_X0_15 : FL RX0 15 0 1 := ⟨by decide, by decide, gt_in (List.mem_of_getElem? (i := 151) (by decide +kernel)) (by decide +kernel)⟩
theorem fl_X0_18 : FL RX0 18 0 2 := ⟨by decide, by decide, gt_in (List.mem_of_getElem? (i := 152) (by decide +kernel)) (by decide +kernel)⟩
theorem fn_X4_50 : FN RX4 50 0 2 := ⟨by decide, by decide, "CocoaYard", List.mem_filter.mpr ⟨List.mem_of_getElem? (i := 153) (by decide +kernel), by decide +kernel⟩⟩
theorem fn_X10_209 : FN RX10 209 0 2 := ⟨by decide, by decide, "CocoaYard", List.mem_filter.mpr ⟨List.mem_of_getElem? (i := 154) (by decide +kernel), by decide +kernel⟩⟩
theorem fl_X4_11 : FL RX4 11 4 0 := ⟨by decide, by decide, gt_in (List.mem_of_getElem? (i := 162) (by decide +kernel)) (by decide +kernel)⟩
theorem fl_X4_17 : FL RX4 17 4 1 := ⟨by decide, by decide, gt_in (List.mem_of_getElem? (i := 163) (by decide +kernel)) (by decide +kernel)⟩
theorem fl_X4_24 : FL RX4 24 4 2 := ⟨by decide, by decide, gt_in (List.mem_of_getElem? (i := 164) (by decide +kernel)) (by decide +kernel)⟩
theorem fl_X4_31 : FL RX4 31 4 3 := ⟨by decide, by decide, gt_in (List.mem_of_getElem? (i := 165) (by decide +kernel)) (by decide +kernel)⟩
theorem fn_X10_159 : FN RX10 159 4 3 := ⟨by decide, by decide, "CocoaYard", List.mem_filter.mpr ⟨List.mem_of_getElem? (i := 166) (by decide +kernel), by decide +kernel⟩⟩
theorem fl_X4_35 : FL RX4 35 4 4 := ⟨by decide, by decide, gt_in (List.mem_of_getElem? (i := 167) (by decide +kernel)) (by decide +kernel)⟩
theorem fn_X10_208 : FN RX10 208 4 4 := ⟨by decide, by decide, "CocoaYard", List.mem_filter.mpr ⟨List.mem_of_getElem? (i := 168) (by decide +kernel), by decide +kernel⟩⟩
theorem fl_X4_42 : FL RX4 42 4 5 := ⟨by decide, by decide, gt_in (List.mem_of_getElem? (i := 169) (by decide +kernel)) (by decide +kernel)⟩
theorem fn_X10_214 : FN RX10 214 4 5 := ⟨by decide, by decide, "CocoaYard", List.mem_filter.mpr ⟨List.mem_of_getElem? (i := 170) (by decide +kernel), by decide +kernel⟩⟩
theorem cl_X10_45 : Cond.classLink RX10 45 (cR 2) ∈ gt_B := gt_in (List.mem_of_getElem? (i := 184) (by decide +kernel)) (by decide +kernel)
theorem fl_X2_9 : FL RX2 9 2 0 := ⟨by decide, by decide, gt_in (List.mem_of_getElem? (i := 190) (by decide +kernel)) (by decide +kernel)⟩
theorem fl_X2_15 : FL RX2 15 2 1 := ⟨by decide, by decide, gt_in (List.mem_of_getElem? (i := 191) (by decide +kernel)) (by decide +kernel)⟩
theorem fl_X2_18 : FL RX2 18 2 2 := ⟨by decide, by decide, gt_in (List.mem_of_getElem? (i := 192) (by decide +kernel)) (by decide +kernel)⟩
theorem fn_X10_198 : FN RX10 198 2 2 := ⟨by decide, by decide, "CocoaYard", List.mem_filter.mpr ⟨List.mem_of_getElem? (i := 193) (by decide +kernel), by decide +kernel⟩⟩
theorem fl_X2_21 : FL RX2 21 2 3 := ⟨by decide, by decide, gt_in (List.mem_of_getElem? (i := 194) (by decide +kernel)) (by decide +kernel)⟩
theorem fn_X10_189 : FN RX10 189 2 3 := ⟨by decide, by decide, "CocoaYard", List.mem_filter.mpr ⟨List.mem_of_getElem? (i := 195) (by decide +kernel), by decide +kernel⟩⟩
theorem fl_X2_24 : FL RX2 24 2 4 := ⟨by decide, by decide, gt_in (List.mem_of_getElem? (i := 196) (by decide +kernel)) (by decide +kernel)⟩
theorem fl_X2_27 : FL RX2 27 2 5 := ⟨by decide, by decide, gt_in (List.mem_of_getElem? (i := 197) (by decide +kernel)) (by decide +kernel)⟩
theorem fn_X10_192 : FN RX10 192 2 5 := ⟨by decide, by decide, "CocoaYard", List.mem_filter.mpr ⟨List.mem_of_getElem? (i := 198) (by decide +kernel), by decide +kernel⟩⟩
theorem fl_X10_11 : FL RX10 11 10 0 := ⟨by decide, by decide, gt_in (List.mem_of_getElem? (i := 212) (by decide +kernel)) (by decide +kernel)⟩
theorem fl_X10_52 : FL RX10 52 10 1 := ⟨by decide, by decide, gt_in (List.mem_of_getElem? (i := 213) (by decide +kernel)) (by decide +kernel)⟩
theorem fl_X10_99 : FL RX10 99 10 2 := ⟨by decide, by decide, gt_in (List.mem_of_getElem? (i := 214) (by decide +kernel)) (by decide +kernel)⟩
theorem fl_X10_75 : FL RX10 75 10 3 := ⟨by decide, by decide, gt_in (List.mem_of_getElem? (i := 215) (by decide +kernel)) (by decide +kernel)⟩
theorem fl_X10_18 : FL RX10 18 10 4 := ⟨by decide, by decide, gt_in (List.mem_of_getElem? (i := 216) (by decide +kernel)) (by decide +kernel)⟩
theorem fl_X10_27 : FL RX10 27 10 5 := ⟨by decide, by decide, gt_in (List.mem_of_getElem? (i := 217) (by decide +kernel)) (by decide +kernel)⟩
theorem fl_X10_34 : FL RX10 34 10 6 := ⟨by decide, by decide, gt_in (List.mem_of_getElem? (i := 218) (by decide +kernel)) (by decide +kernel)⟩
theorem fl_X10_41 : FL RX10 41 10 7 := ⟨by decide, by decide, gt_in (List.mem_of_getElem? (i := 219) (by decide +kernel)) (by decide +kernel)⟩
theorem fl_X10_48 : FL RX10 48 10 8 := ⟨by decide, by decide, gt_in (List.mem_of_getElem? (i := 220) (by decide +kernel)) (by decide +kernel)⟩
theorem fl_X7_9 : FL RX7 9 7 0 := ⟨by decide, by decide, gt_in (List.mem_of_getElem? (i := 249) (by decide +kernel)) (by decide +kernel)⟩
theorem fn_X10_217 : FN RX10 217 7 0 := ⟨by decide, by decide, "CocoaYard", List.mem_filter.mpr ⟨List.mem_of_getElem? (i := 250) (by decide +kernel), by decide +kernel⟩⟩
theorem fl_X7_15 : FL RX7 15 7 1 := ⟨by decide, by decide, gt_in (List.mem_of_getElem? (i := 251) (by decide +kernel)) (by decide +kernel)⟩
theorem fn_X10_152 : FN RX10 152 7 1 := ⟨by decide, by decide, "CocoaYard", List.mem_filter.mpr ⟨List.mem_of_getElem? (i := 252) (by decide +kernel), by decide +kernel⟩⟩
theorem fl_X7_19 : FL RX7 19 7 2 := ⟨by decide, by decide, gt_in (List.mem_of_getElem? (i := 253) (by decide +kernel)) (by decide +kernel)⟩
theorem fn_X10_220 : FN RX10 220 7 2 := ⟨by decide, by decide, "CocoaYard", List.mem_filter.mpr ⟨List.mem_of_getElem? (i := 254) (by decide +kernel), by decide +kernel⟩⟩
theorem fl_X7_22 : FL RX7 22 7 3 := ⟨by decide, by decide, gt_in (List.mem_of_getElem? (i := 255) (by decide +kernel)) (by decide +kernel)⟩
theorem fl_X7_37 : FL RX7 37 7 4 := ⟨by decide, by decide, gt_in (List.mem_of_getElem? (i := 256) (by decide +kernel)) (by decide +kernel)⟩
theorem fl_X7_50 : FL RX7 50 7 5 := ⟨by decide, by decide, gt_in (List.mem_of_getElem? (i := 257) (by decide +kernel)) (by decide +kernel)⟩
theorem fn_X10_223 : FN RX10 223 7 5 := ⟨by decide, by decide, "CocoaYard", List.mem_filter.mpr ⟨List.mem_of_getElem? (i := 258) (by decide +kernel), by decide +kernel⟩⟩
theorem fn_X3_15 : FN RX3 15 7 6 := ⟨by decide, by decide, "CocoaYard", List.mem_filter.mpr ⟨List.mem_of_getElem? (i := 259) (by decide +kernel), by decide +kernel⟩⟩
theorem fn_X10_112 : FN RX10 112 7 6 := ⟨by decide, by decide, "CocoaYard", List.mem_filter.mpr ⟨List.mem_of_getElem? (i := 260) (by decide +kernel), by decide +kernel⟩⟩
theorem fl_X7_71 : FL RX7 71 7 6 := ⟨by decide, by decide, gt_in (List.mem_of_getElem? (i := 261) (by decide +kernel)) (by decide +kernel)⟩
theorem fl_X7_34 : FL RX7 34 7 7 := ⟨by decide, by decide, gt_in (List.mem_of_getElem? (i := 262) (by decide +kernel)) (by decide +kernel)⟩
theorem kc_X10_65 : Cond.constant RX10 65 100000 ∈ gt_B := gt_in (List.mem_of_getElem? (i := 295) (by decide +kernel)) (by decide +kernel)
theorem kc_X10_66 : Cond.constant RX10 66 1000000 ∈ gt_B := gt_in (List.mem_of_getElem? (i := 296) (by decide +kernel)) (by decide +kernel)
theorem kl_X7_29 : Cond.constantLong RX7 29 (1000) ∈ gt_B := gt_in (List.mem_of_getElem? (i := 318) (by decide +kernel)) (by decide +kernel)
theorem kl_X1_35 : Cond.constantLong RX1 35 (-1) ∈ gt_B := gt_in (List.mem_of_getElem? (i := 337) (by decide +kernel)) (by decide +kernel)
theorem cl_X6_16 : Cond.classLink RX6 16 (cR 6) ∈ gt_B := gt_in (List.mem_of_getElem? (i := 423) (by decide +kernel)) (by decide +kernel)
theorem fl_X8_7 : FL RX8 7 8 0 := ⟨by decide, by decide, gt_in (List.mem_of_getElem? (i := 432) (by decide +kernel)) (by decide +kernel)⟩
theorem fn_X9_41 : FN RX9 41 8 0 := ⟨by decide, by decide, "CocoaYard", List.mem_filter.mpr ⟨List.mem_of_getElem? (i := 433) (by decide +kernel), by decide +kernel⟩⟩
theorem fn_X10_181 : FN RX10 181 8 0 := ⟨by decide, by decide, "CocoaYard", List.mem_filter.mpr ⟨List.mem_of_getElem? (i := 434) (by decide +kernel), by decide +kernel⟩⟩
theorem fl_X8_13 : FL RX8 13 8 1 := ⟨by decide, by decide, gt_in (List.mem_of_getElem? (i := 435) (by decide +kernel)) (by decide +kernel)⟩
theorem fn_X9_54 : FN RX9 54 8 1 := ⟨by decide, by decide, "CocoaYard", List.mem_filter.mpr ⟨List.mem_of_getElem? (i := 436) (by decide +kernel), by decide +kernel⟩⟩
theorem fn_X9_37 : FN RX9 37 8 2 := ⟨by decide, by decide, "CocoaYard", List.mem_filter.mpr ⟨List.mem_of_getElem? (i := 437) (by decide +kernel), by decide +kernel⟩⟩
theorem fn_X10_139 : FN RX10 139 8 2 := ⟨by decide, by decide, "CocoaYard", List.mem_filter.mpr ⟨List.mem_of_getElem? (i := 438) (by decide +kernel), by decide +kernel⟩⟩
theorem kl_X5_38 : Cond.constantLong RX5 38 (10) ∈ gt_B := gt_in (List.mem_of_getElem? (i := 505) (by decide +kernel)) (by decide +kernel)
theorem kl_X5_44 : Cond.constantLong RX5 44 (-1) ∈ gt_B := gt_in (List.mem_of_getElem? (i := 510) (by decide +kernel)) (by decide +kernel)
theorem kl_X5_52 : Cond.constantLong RX5 52 (1000000000) ∈ gt_B := gt_in (List.mem_of_getElem? (i := 519) (by decide +kernel)) (by decide +kernel)
theorem fl_X3_9 : FL RX3 9 3 0 := ⟨by decide, by decide, gt_in (List.mem_of_getElem? (i := 556) (by decide +kernel)) (by decide +kernel)⟩
theorem fn_X4_77 : FN RX4 77 3 0 := ⟨by decide, by decide, "CocoaYard", List.mem_filter.mpr ⟨List.mem_of_getElem? (i := 557) (by decide +kernel), by decide +kernel⟩⟩
theorem fl_X3_21 : FL RX3 21 3 1 := ⟨by decide, by decide, gt_in (List.mem_of_getElem? (i := 558) (by decide +kernel)) (by decide +kernel)⟩
theorem fn_X4_90 : FN RX4 90 3 1 := ⟨by decide, by decide, "CocoaYard", List.mem_filter.mpr ⟨List.mem_of_getElem? (i := 559) (by decide +kernel), by decide +kernel⟩⟩
theorem fl_X3_22 : FL RX3 22 3 2 := ⟨by decide, by decide, gt_in (List.mem_of_getElem? (i := 560) (by decide +kernel)) (by decide +kernel)⟩
theorem fn_X4_67 : FN RX4 67 3 2 := ⟨by decide, by decide, "CocoaYard", List.mem_filter.mpr ⟨List.mem_of_getElem? (i := 561) (by decide +kernel), by decide +kernel⟩⟩
theorem fl_X3_25 : FL RX3 25 3 3 := ⟨by decide, by decide, gt_in (List.mem_of_getElem? (i := 562) (by decide +kernel)) (by decide +kernel)⟩
theorem fn_X4_54 : FN RX4 54 3 3 := ⟨by decide, by decide, "CocoaYard", List.mem_filter.mpr ⟨List.mem_of_getElem? (i := 563) (by decide +kernel), by decide +kernel⟩⟩
theorem fl_X3_28 : FL RX3 28 3 4 := ⟨by decide, by decide, gt_in (List.mem_of_getElem? (i := 564) (by decide +kernel)) (by decide +kernel)⟩
theorem fn_X4_74 : FN RX4 74 3 4 := ⟨by decide, by decide, "CocoaYard", List.mem_filter.mpr ⟨List.mem_of_getElem? (i := 565) (by decide +kernel), by decide +kernel⟩⟩
theorem fl_X3_32 : FL RX3 32 3 5 := ⟨by decide, by decide, gt_in (List.mem_of_getElem? (i := 566) (by decide +kernel)) (by decide +kernel)⟩
theorem fn_X4_51 : FN RX4 51 3 5 := ⟨by decide, by decide, "CocoaYard", List.mem_filter.mpr ⟨List.mem_of_getElem? (i := 567) (by decide +kernel), by decide +kernel⟩⟩
theorem kl_X10_172 : Cond.constantLong RX10 172 (-1) ∈ gt_B := gt_in (List.mem_of_getElem? (i := 613) (by decide +kernel)) (by decide +kernel)
theorem cl_L_10 : Cond.classLink RL 10 (cR 11) ∈ gt_B := gt_in (List.mem_of_getElem? (i := 681) (by decide +kernel)) (by decide +kernel)
theorem fl_X11_159 : FL RX11 159 11 0 := ⟨by decide, by decide, gt_in (List.mem_of_getElem? (i := 687) (by decide +kernel)) (by decide +kernel)⟩
theorem fl_X11_111 : FL RX11 111 11 1 := ⟨by decide, by decide, gt_in (List.mem_of_getElem? (i := 688) (by decide +kernel)) (by decide +kernel)⟩
theorem fl_X11_223 : FL RX11 223 11 2 := ⟨by decide, by decide, gt_in (List.mem_of_getElem? (i := 689) (by decide +kernel)) (by decide +kernel)⟩
theorem fl_X11_212 : FL RX11 212 11 3 := ⟨by decide, by decide, gt_in (List.mem_of_getElem? (i := 690) (by decide +kernel)) (by decide +kernel)⟩
theorem fl_X11_134 : FL RX11 134 11 4 := ⟨by decide, by decide, gt_in (List.mem_of_getElem? (i := 691) (by decide +kernel)) (by decide +kernel)⟩
theorem fl_X11_226 : FL RX11 226 11 5 := ⟨by decide, by decide, gt_in (List.mem_of_getElem? (i := 692) (by decide +kernel)) (by decide +kernel)⟩
theorem fl_X11_9 : FL RX11 9 11 6 := ⟨by decide, by decide, gt_in (List.mem_of_getElem? (i := 693) (by decide +kernel)) (by decide +kernel)⟩
theorem fl_X11_13 : FL RX11 13 11 7 := ⟨by decide, by decide, gt_in (List.mem_of_getElem? (i := 694) (by decide +kernel)) (by decide +kernel)⟩
theorem fl_X11_16 : FL RX11 16 11 8 := ⟨by decide, by decide, gt_in (List.mem_of_getElem? (i := 695) (by decide +kernel)) (by decide +kernel)⟩
theorem fl_X11_19 : FL RX11 19 11 9 := ⟨by decide, by decide, gt_in (List.mem_of_getElem? (i := 696) (by decide +kernel)) (by decide +kernel)⟩
theorem fl_X11_22 : FL RX11 22 11 10 := ⟨by decide, by decide, gt_in (List.mem_of_getElem? (i := 697) (by decide +kernel)) (by decide +kernel)⟩
theorem fl_X11_26 : FL RX11 26 11 11 := ⟨by decide, by decide, gt_in (List.mem_of_getElem? (i := 698) (by decide +kernel)) (by decide +kernel)⟩
theorem fl_X11_29 : FL RX11 29 11 12 := ⟨by decide, by decide, gt_in (List.mem_of_getElem? (i := 699) (by decide +kernel)) (by decide +kernel)⟩
theorem fl_X11_32 : FL RX11 32 11 13 := ⟨by decide, by decide, gt_in (List.mem_of_getElem? (i := 700) (by decide +kernel)) (by decide +kernel)⟩
theorem fl_X11_36 : FL RX11 36 11 14 := ⟨by decide, by decide, gt_in (List.mem_of_getElem? (i := 701) (by decide +kernel)) (by decide +kernel)⟩
theorem fl_X11_39 : FL RX11 39 11 15 := ⟨by decide, by decide, gt_in (List.mem_of_getElem? (i := 702) (by decide +kernel)) (by decide +kernel)⟩
theorem fl_X11_42 : FL RX11 42 11 16 := ⟨by decide, by decide, gt_in (List.mem_of_getElem? (i := 703) (by decide +kernel)) (by decide +kernel)⟩
theorem fl_X11_166 : FL RX11 166 11 17 := ⟨by decide, by decide, gt_in (List.mem_of_getElem? (i := 704) (by decide +kernel)) (by decide +kernel)⟩
theorem fl_X11_169 : FL RX11 169 11 18 := ⟨by decide, by decide, gt_in (List.mem_of_getElem? (i := 705) (by decide +kernel)) (by decide +kernel)⟩
theorem fl_X11_172 : FL RX11 172 11 19 := ⟨by decide, by decide, gt_in (List.mem_of_getElem? (i := 706) (by decide +kernel)) (by decide +kernel)⟩
theorem fl_X11_189 : FL RX11 189 11 20 := ⟨by decide, by decide, gt_in (List.mem_of_getElem? (i := 707) (by decide +kernel)) (by decide +kernel)⟩
theorem fl_X11_45 : FL RX11 45 11 21 := ⟨by decide, by decide, gt_in (List.mem_of_getElem? (i := 708) (by decide +kernel)) (by decide +kernel)⟩
theorem fl_X11_48 : FL RX11 48 11 22 := ⟨by decide, by decide, gt_in (List.mem_of_getElem? (i := 709) (by decide +kernel)) (by decide +kernel)⟩
theorem fl_X11_51 : FL RX11 51 11 23 := ⟨by decide, by decide, gt_in (List.mem_of_getElem? (i := 710) (by decide +kernel)) (by decide +kernel)⟩
theorem fl_X11_204 : FL RX11 204 11 24 := ⟨by decide, by decide, gt_in (List.mem_of_getElem? (i := 711) (by decide +kernel)) (by decide +kernel)⟩
theorem fl_X11_175 : FL RX11 175 11 25 := ⟨by decide, by decide, gt_in (List.mem_of_getElem? (i := 712) (by decide +kernel)) (by decide +kernel)⟩
theorem fl_X11_54 : FL RX11 54 11 26 := ⟨by decide, by decide, gt_in (List.mem_of_getElem? (i := 713) (by decide +kernel)) (by decide +kernel)⟩
theorem fl_X11_57 : FL RX11 57 11 27 := ⟨by decide, by decide, gt_in (List.mem_of_getElem? (i := 714) (by decide +kernel)) (by decide +kernel)⟩
theorem fl_X11_60 : FL RX11 60 11 28 := ⟨by decide, by decide, gt_in (List.mem_of_getElem? (i := 715) (by decide +kernel)) (by decide +kernel)⟩
theorem fl_X11_63 : FL RX11 63 11 29 := ⟨by decide, by decide, gt_in (List.mem_of_getElem? (i := 716) (by decide +kernel)) (by decide +kernel)⟩
theorem fl_X11_66 : FL RX11 66 11 30 := ⟨by decide, by decide, gt_in (List.mem_of_getElem? (i := 717) (by decide +kernel)) (by decide +kernel)⟩
theorem fl_X11_69 : FL RX11 69 11 31 := ⟨by decide, by decide, gt_in (List.mem_of_getElem? (i := 718) (by decide +kernel)) (by decide +kernel)⟩
theorem fl_X11_72 : FL RX11 72 11 32 := ⟨by decide, by decide, gt_in (List.mem_of_getElem? (i := 719) (by decide +kernel)) (by decide +kernel)⟩
theorem fl_X11_75 : FL RX11 75 11 33 := ⟨by decide, by decide, gt_in (List.mem_of_getElem? (i := 720) (by decide +kernel)) (by decide +kernel)⟩
theorem fl_X11_78 : FL RX11 78 11 34 := ⟨by decide, by decide, gt_in (List.mem_of_getElem? (i := 721) (by decide +kernel)) (by decide +kernel)⟩
theorem fl_X11_81 : FL RX11 81 11 35 := ⟨by decide, by decide, gt_in (List.mem_of_getElem? (i := 722) (by decide +kernel)) (by decide +kernel)⟩
theorem fl_X11_84 : FL RX11 84 11 36 := ⟨by decide, by decide, gt_in (List.mem_of_getElem? (i := 723) (by decide +kernel)) (by decide +kernel)⟩
theorem fl_X11_87 : FL RX11 87 11 37 := ⟨by decide, by decide, gt_in (List.mem_of_getElem? (i := 724) (by decide +kernel)) (by decide +kernel)⟩
theorem fl_X11_90 : FL RX11 90 11 38 := ⟨by decide, by decide, gt_in (List.mem_of_getElem? (i := 725) (by decide +kernel)) (by decide +kernel)⟩
theorem fl_X11_93 : FL RX11 93 11 39 := ⟨by decide, by decide, gt_in (List.mem_of_getElem? (i := 726) (by decide +kernel)) (by decide +kernel)⟩
theorem fl_X11_96 : FL RX11 96 11 40 := ⟨by decide, by decide, gt_in (List.mem_of_getElem? (i := 727) (by decide +kernel)) (by decide +kernel)⟩
theorem fl_X11_99 : FL RX11 99 11 41 := ⟨by decide, by decide, gt_in (List.mem_of_getElem? (i := 728) (by decide +kernel)) (by decide +kernel)⟩
theorem fl_X11_102 : FL RX11 102 11 42 := ⟨by decide, by decide, gt_in (List.mem_of_getElem? (i := 729) (by decide +kernel)) (by decide +kernel)⟩
theorem fl_X11_105 : FL RX11 105 11 43 := ⟨by decide, by decide, gt_in (List.mem_of_getElem? (i := 730) (by decide +kernel)) (by decide +kernel)⟩
theorem fl_X11_108 : FL RX11 108 11 44 := ⟨by decide, by decide, gt_in (List.mem_of_getElem? (i := 731) (by decide +kernel)) (by decide +kernel)⟩
theorem fl_X11_245 : FL RX11 245 11 45 := ⟨by decide, by decide, gt_in (List.mem_of_getElem? (i := 732) (by decide +kernel)) (by decide +kernel)⟩
theorem ac_boolean : Cond.arrayClass .boolean ∈ gt_B := gt_in (List.mem_of_getElem? (i := 826) (by decide +kernel)) (by decide +kernel)
theorem kc_X11_132 : Cond.constant RX11 132 100000 ∈ gt_B := gt_in (List.mem_of_getElem? (i := 842) (by decide +kernel)) (by decide +kernel)
theorem kc_X11_133 : Cond.constant RX11 133 1000000 ∈ gt_B := gt_in (List.mem_of_getElem? (i := 851) (by decide +kernel)) (by decide +kernel)
theorem kl_X11_126 : Cond.constantLong RX11 126 (1000) ∈ gt_B := gt_in (List.mem_of_getElem? (i := 852) (by decide +kernel)) (by decide +kernel)
theorem kl_X11_154 : Cond.constantLong RX11 154 (40) ∈ gt_B := gt_in (List.mem_of_getElem? (i := 882) (by decide +kernel)) (by decide +kernel)
theorem kl_X11_210 : Cond.constantLong RX11 210 (1000000000) ∈ gt_B := gt_in (List.mem_of_getElem? (i := 960) (by decide +kernel)) (by decide +kernel)
theorem kl_X11_255 : Cond.constantLong RX11 255 (-1) ∈ gt_B := gt_in (List.mem_of_getElem? (i := 1020) (by decide +kernel)) (by decide +kernel)
