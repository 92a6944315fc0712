theorem dX10_planned_0 : decode cX10_planned 0 = .ok (.iload_n 1, 1) := by decide +kernel
theorem dX10_planned_1 : decode cX10_planned 1 = .ok (.iconst 0, 1) := by decide +kernel
theorem dX10_planned_2 : decode cX10_planned 2 = .ok (.aload_n 0, 1) := by decide +kernel
theorem dX10_planned_3 : decode cX10_planned 3 = .ok (.getfield 48, 3) := by decide +kernel
theorem dX10_planned_6 : decode cX10_planned 6 = .ok (.getfield 192, 3) := by decide +kernel
theorem dX10_planned_9 : decode cX10_planned 9 = .ok (.iconst 1, 1) := by decide +kernel
theorem dX10_planned_10 : decode cX10_planned 10 = .ok (.isub, 1) := by decide +kernel
theorem dX10_planned_11 : decode cX10_planned 11 = .ok (.invokestatic 61, 3) := by decide +kernel
theorem dX10_planned_14 : decode cX10_planned 14 = .ok (.ifCond .eq 13, 3) := by decide +kernel
theorem dX10_planned_17 : decode cX10_planned 17 = .ok (.aload_n 0, 1) := by decide +kernel
theorem dX10_planned_18 : decode cX10_planned 18 = .ok (.getfield 48, 3) := by decide +kernel
theorem dX10_planned_21 : decode cX10_planned 21 = .ok (.invokevirtual 195, 3) := by decide +kernel
theorem dX10_planned_24 : decode cX10_planned 24 = .ok (.ifCond .ne 5, 3) := by decide +kernel
theorem dX10_planned_27 : decode cX10_planned 27 = .ok (.iconst (-1), 1) := by decide +kernel
theorem dX10_planned_28 : decode cX10_planned 28 = .ok (.ireturn, 1) := by decide +kernel
theorem dX10_planned_29 : decode cX10_planned 29 = .ok (.aload_n 0, 1) := by decide +kernel
theorem dX10_planned_30 : decode cX10_planned 30 = .ok (.getfield 48, 3) := by decide +kernel
theorem dX10_planned_33 : decode cX10_planned 33 = .ok (.getfield 198, 3) := by decide +kernel
theorem dX10_planned_36 : decode cX10_planned 36 = .ok (.iload_n 1, 1) := by decide +kernel
theorem dX10_planned_37 : decode cX10_planned 37 = .ok (.iaload, 1) := by decide +kernel
theorem dX10_planned_38 : decode cX10_planned 38 = .ok (.ireturn, 1) := by decide +kernel
theorem dX10_row_0 : decode cX10_row 0 = .ok (.aload_n 0, 1) := by decide +kernel
theorem dX10_row_1 : decode cX10_row 1 = .ok (.getfield 48, 3) := by decide +kernel
theorem dX10_row_4 : decode cX10_row 4 = .ok (.iload_n 1, 1) := by decide +kernel
theorem dX10_row_5 : decode cX10_row 5 = .ok (.invokevirtual 201, 3) := by decide +kernel
theorem dX10_row_8 : decode cX10_row 8 = .ok (.ireturn, 1) := by decide +kernel
theorem dX10_clear_0 : decode cX10_clear 0 = .ok (.aload_n 0, 1) := by decide +kernel
theorem dX10_clear_1 : decode cX10_clear 1 = .ok (.getfield 48, 3) := by decide +kernel
theorem dX10_clear_4 : decode cX10_clear 4 = .ok (.iconst 0, 1) := by decide +kernel
theorem dX10_clear_5 : decode cX10_clear 5 = .ok (.putfield 192, 3) := by decide +kernel
theorem dX10_clear_8 : decode cX10_clear 8 = .ok (.return_, 1) := by decide +kernel
theorem dX10_count_0 : decode cX10_count 0 = .ok (.iload_n 1, 1) := by decide +kernel
theorem dX10_count_1 : decode cX10_count 1 = .ok (.tableswitch 133 0 9 #[55, 61, 67, 76, 85, 97, 102, 107, 116, 125], 55) := by decide +kernel
theorem dX10_count_56 : decode cX10_count 56 = .ok (.aload_n 0, 1) := by decide +kernel
theorem dX10_count_57 : decode cX10_count 57 = .ok (.getfield 99, 3) := by decide +kernel
theorem dX10_count_60 : decode cX10_count 60 = .ok (.i2l, 1) := by decide +kernel
theorem dX10_count_61 : decode cX10_count 61 = .ok (.lreturn, 1) := by decide +kernel
theorem dX10_count_62 : decode cX10_count 62 = .ok (.aload_n 0, 1) := by decide +kernel
theorem dX10_count_63 : decode cX10_count 63 = .ok (.getfield 52, 3) := by decide +kernel
theorem dX10_count_66 : decode cX10_count 66 = .ok (.i2l, 1) := by decide +kernel
theorem dX10_count_67 : decode cX10_count 67 = .ok (.lreturn, 1) := by decide +kernel
theorem dX10_count_68 : decode cX10_count 68 = .ok (.aload_n 0, 1) := by decide +kernel
theorem dX10_count_69 : decode cX10_count 69 = .ok (.getfield 34, 3) := by decide +kernel
theorem dX10_count_72 : decode cX10_count 72 = .ok (.getfield 205, 3) := by decide +kernel
theorem dX10_count_75 : decode cX10_count 75 = .ok (.i2l, 1) := by decide +kernel
theorem dX10_count_76 : decode cX10_count 76 = .ok (.lreturn, 1) := by decide +kernel
theorem dX10_count_77 : decode cX10_count 77 = .ok (.aload_n 0, 1) := by decide +kernel
theorem dX10_count_78 : decode cX10_count 78 = .ok (.getfield 41, 3) := by decide +kernel
theorem dX10_count_81 : decode cX10_count 81 = .ok (.getfield 208, 3) := by decide +kernel
theorem dX10_count_84 : decode cX10_count 84 = .ok (.i2l, 1) := by decide +kernel
theorem dX10_count_85 : decode cX10_count 85 = .ok (.lreturn, 1) := by decide +kernel
theorem dX10_count_86 : decode cX10_count 86 = .ok (.aload_n 0, 1) := by decide +kernel
theorem dX10_count_87 : decode cX10_count 87 = .ok (.getfield 41, 3) := by decide +kernel
theorem dX10_count_90 : decode cX10_count 90 = .ok (.getfield 159, 3) := by decide +kernel
theorem dX10_count_93 : decode cX10_count 93 = .ok (.getfield 209, 3) := by decide +kernel
theorem dX10_count_96 : decode cX10_count 96 = .ok (.i2l, 1) := by decide +kernel
theorem dX10_count_97 : decode cX10_count 97 = .ok (.lreturn, 1) := by decide +kernel
theorem dX10_count_98 : decode cX10_count 98 = .ok (.aload_n 0, 1) := by decide +kernel
theorem dX10_count_99 : decode cX10_count 99 = .ok (.getfield 75, 3) := by decide +kernel
theorem dX10_count_102 : decode cX10_count 102 = .ok (.lreturn, 1) := by decide +kernel
theorem dX10_count_103 : decode cX10_count 103 = .ok (.aload_n 0, 1) := by decide +kernel
theorem dX10_count_104 : decode cX10_count 104 = .ok (.invokevirtual 210, 3) := by decide +kernel
theorem dX10_count_107 : decode cX10_count 107 = .ok (.lreturn, 1) := by decide +kernel
theorem dX10_count_108 : decode cX10_count 108 = .ok (.aload_n 0, 1) := by decide +kernel
theorem dX10_count_109 : decode cX10_count 109 = .ok (.getfield 48, 3) := by decide +kernel
theorem dX10_count_112 : decode cX10_count 112 = .ok (.getfield 192, 3) := by decide +kernel
theorem dX10_count_115 : decode cX10_count 115 = .ok (.i2l, 1) := by decide +kernel
theorem dX10_count_116 : decode cX10_count 116 = .ok (.lreturn, 1) := by decide +kernel
theorem dX10_count_117 : decode cX10_count 117 = .ok (.aload_n 0, 1) := by decide +kernel
theorem dX10_count_118 : decode cX10_count 118 = .ok (.getfield 27, 3) := by decide +kernel
theorem dX10_count_121 : decode cX10_count 121 = .ok (.getfield 119, 3) := by decide +kernel
theorem dX10_count_124 : decode cX10_count 124 = .ok (.i2l, 1) := by decide +kernel
theorem dX10_count_125 : decode cX10_count 125 = .ok (.lreturn, 1) := by decide +kernel
theorem dX10_count_126 : decode cX10_count 126 = .ok (.aload_n 0, 1) := by decide +kernel
theorem dX10_count_127 : decode cX10_count 127 = .ok (.getfield 41, 3) := by decide +kernel
theorem dX10_count_130 : decode cX10_count 130 = .ok (.getfield 214, 3) := by decide +kernel
theorem dX10_count_133 : decode cX10_count 133 = .ok (.lreturn, 1) := by decide +kernel
theorem dX10_count_134 : decode cX10_count 134 = .ok (.ldc2_w 172, 3) := by decide +kernel
theorem dX10_count_137 : decode cX10_count 137 = .ok (.lreturn, 1) := by decide +kernel
theorem dX10_vesselAt_0 : decode cX10_vesselAt 0 = .ok (.iload_n 1, 1) := by decide +kernel
theorem dX10_vesselAt_1 : decode cX10_vesselAt 1 = .ok (.ifCond .lt 20, 3) := by decide +kernel
theorem dX10_vesselAt_4 : decode cX10_vesselAt 4 = .ok (.iload_n 1, 1) := by decide +kernel
theorem dX10_vesselAt_5 : decode cX10_vesselAt 5 = .ok (.aload_n 0, 1) := by decide +kernel
theorem dX10_vesselAt_6 : decode cX10_vesselAt 6 = .ok (.getfield 52, 3) := by decide +kernel
theorem dX10_vesselAt_9 : decode cX10_vesselAt 9 = .ok (.if_icmp .ge 12, 3) := by decide +kernel
theorem dX10_vesselAt_12 : decode cX10_vesselAt 12 = .ok (.aload_n 0, 1) := by decide +kernel
theorem dX10_vesselAt_13 : decode cX10_vesselAt 13 = .ok (.getfield 11, 3) := by decide +kernel
theorem dX10_vesselAt_16 : decode cX10_vesselAt 16 = .ok (.iload_n 1, 1) := by decide +kernel
theorem dX10_vesselAt_17 : decode cX10_vesselAt 17 = .ok (.aaload, 1) := by decide +kernel
theorem dX10_vesselAt_18 : decode cX10_vesselAt 18 = .ok (.goto 4, 3) := by decide +kernel
theorem dX10_vesselAt_21 : decode cX10_vesselAt 21 = .ok (.aconst_null, 1) := by decide +kernel
theorem dX10_vesselAt_22 : decode cX10_vesselAt 22 = .ok (.areturn, 1) := by decide +kernel
theorem dX10_vesselOf_0 : decode cX10_vesselOf 0 = .ok (.aload_n 0, 1) := by decide +kernel
theorem dX10_vesselOf_1 : decode cX10_vesselOf 1 = .ok (.iload_n 2, 1) := by decide +kernel
theorem dX10_vesselOf_2 : decode cX10_vesselOf 2 = .ok (.invokevirtual 79, 3) := by decide +kernel
theorem dX10_vesselOf_5 : decode cX10_vesselOf 5 = .ok (.astore_n 3, 1) := by decide +kernel
theorem dX10_vesselOf_6 : decode cX10_vesselOf 6 = .ok (.aload_n 3, 1) := by decide +kernel
theorem dX10_vesselOf_7 : decode cX10_vesselOf 7 = .ok (.ifnull 15, 3) := by decide +kernel
theorem dX10_vesselOf_10 : decode cX10_vesselOf 10 = .ok (.aload_n 3, 1) := by decide +kernel
theorem dX10_vesselOf_11 : decode cX10_vesselOf 11 = .ok (.getfield 217, 3) := by decide +kernel
theorem dX10_vesselOf_14 : decode cX10_vesselOf 14 = .ok (.iload_n 1, 1) := by decide +kernel
theorem dX10_vesselOf_15 : decode cX10_vesselOf 15 = .ok (.if_icmp .ne 7, 3) := by decide +kernel
theorem dX10_vesselOf_18 : decode cX10_vesselOf 18 = .ok (.aload_n 3, 1) := by decide +kernel
theorem dX10_vesselOf_19 : decode cX10_vesselOf 19 = .ok (.goto 4, 3) := by decide +kernel
theorem dX10_vesselOf_22 : decode cX10_vesselOf 22 = .ok (.aconst_null, 1) := by decide +kernel
theorem dX10_vesselOf_23 : decode cX10_vesselOf 23 = .ok (.areturn, 1) := by decide +kernel
theorem dX10_dryInAll_0 : decode cX10_dryInAll 0 = .ok (.lconst 0, 1) := by decide +kernel
theorem dX10_dryInAll_1 : decode cX10_dryInAll 1 = .ok (.lstore_n 1, 1) := by decide +kernel
theorem dX10_dryInAll_2 : decode cX10_dryInAll 2 = .ok (.iconst 0, 1) := by decide +kernel
theorem dX10_dryInAll_3 : decode cX10_dryInAll 3 = .ok (.istore_n 3, 1) := by decide +kernel
theorem dX10_dryInAll_4 : decode cX10_dryInAll 4 = .ok (.iload_n 3, 1) := by decide +kernel
theorem dX10_dryInAll_5 : decode cX10_dryInAll 5 = .ok (.aload_n 0, 1) := by decide +kernel
theorem dX10_dryInAll_6 : decode cX10_dryInAll 6 = .ok (.getfield 52, 3) := by decide +kernel
theorem dX10_dryInAll_9 : decode cX10_dryInAll 9 = .ok (.if_icmp .ge 22, 3) := by decide +kernel
theorem dX10_dryInAll_12 : decode cX10_dryInAll 12 = .ok (.lload_n 1, 1) := by decide +kernel
theorem dX10_dryInAll_13 : decode cX10_dryInAll 13 = .ok (.aload_n 0, 1) := by decide +kernel
theorem dX10_dryInAll_14 : decode cX10_dryInAll 14 = .ok (.getfield 11, 3) := by decide +kernel
theorem dX10_dryInAll_17 : decode cX10_dryInAll 17 = .ok (.iload_n 3, 1) := by decide +kernel
theorem dX10_dryInAll_18 : decode cX10_dryInAll 18 = .ok (.aaload, 1) := by decide +kernel
theorem dX10_dryInAll_19 : decode cX10_dryInAll 19 = .ok (.getfield 220, 3) := by decide +kernel
theorem dX10_dryInAll_22 : decode cX10_dryInAll 22 = .ok (.i2l, 1) := by decide +kernel
theorem dX10_dryInAll_23 : decode cX10_dryInAll 23 = .ok (.ladd, 1) := by decide +kernel
theorem dX10_dryInAll_24 : decode cX10_dryInAll 24 = .ok (.lstore_n 1, 1) := by decide +kernel
theorem dX10_dryInAll_25 : decode cX10_dryInAll 25 = .ok (.iinc 3 1, 3) := by decide +kernel
theorem dX10_dryInAll_28 : decode cX10_dryInAll 28 = .ok (.goto (-24), 3) := by decide +kernel
theorem dX10_dryInAll_31 : decode cX10_dryInAll 31 = .ok (.lload_n 1, 1) := by decide +kernel
theorem dX10_dryInAll_32 : decode cX10_dryInAll 32 = .ok (.lreturn, 1) := by decide +kernel
theorem dX10_isWithin_0 : decode cX10_isWithin 0 = .ok (.iload_n 0, 1) := by decide +kernel
theorem dX10_isWithin_1 : decode cX10_isWithin 1 = .ok (.iload_n 1, 1) := by decide +kernel
theorem dX10_isWithin_2 : decode cX10_isWithin 2 = .ok (.if_icmp .lt 12, 3) := by decide +kernel
theorem dX10_isWithin_5 : decode cX10_isWithin 5 = .ok (.iload_n 0, 1) := by decide +kernel
theorem dX10_isWithin_6 : decode cX10_isWithin 6 = .ok (.iload_n 2, 1) := by decide +kernel
theorem dX10_isWithin_7 : decode cX10_isWithin 7 = .ok (.if_icmp .gt 7, 3) := by decide +kernel
theorem dX10_isWithin_10 : decode cX10_isWithin 10 = .ok (.iconst 1, 1) := by decide +kernel
theorem dX10_isWithin_11 : decode cX10_isWithin 11 = .ok (.goto 4, 3) := by decide +kernel
theorem dX10_isWithin_14 : decode cX10_isWithin 14 = .ok (.iconst 0, 1) := by decide +kernel
theorem dX10_isWithin_15 : decode cX10_isWithin 15 = .ok (.ireturn, 1) := by decide +kernel
theorem dX10_areCounts_0 : decode cX10_areCounts 0 = .ok (.iload_n 0, 1) := by decide +kernel
theorem dX10_areCounts_1 : decode cX10_areCounts 1 = .ok (.iconst 0, 1) := by decide +kernel
theorem dX10_areCounts_2 : decode cX10_areCounts 2 = .ok (.bipush 100, 2) := by decide +kernel
theorem dX10_areCounts_4 : decode cX10_areCounts 4 = .ok (.invokestatic 61, 3) := by decide +kernel
theorem dX10_areCounts_7 : decode cX10_areCounts 7 = .ok (.ifCond .eq 37, 3) := by decide +kernel
theorem dX10_areCounts_10 : decode cX10_areCounts 10 = .ok (.iload_n 1, 1) := by decide +kernel
theorem dX10_areCounts_11 : decode cX10_areCounts 11 = .ok (.iconst 0, 1) := by decide +kernel
theorem dX10_areCounts_12 : decode cX10_areCounts 12 = .ok (.bipush 100, 2) := by decide +kernel
theorem dX10_areCounts_14 : decode cX10_areCounts 14 = .ok (.invokestatic 61, 3) := by decide +kernel
theorem dX10_areCounts_17 : decode cX10_areCounts 17 = .ok (.ifCond .eq 27, 3) := by decide +kernel
theorem dX10_areCounts_20 : decode cX10_areCounts 20 = .ok (.iload_n 2, 1) := by decide +kernel
theorem dX10_areCounts_21 : decode cX10_areCounts 21 = .ok (.iconst 0, 1) := by decide +kernel
theorem dX10_areCounts_22 : decode cX10_areCounts 22 = .ok (.bipush 100, 2) := by decide +kernel
theorem dX10_areCounts_24 : decode cX10_areCounts 24 = .ok (.invokestatic 61, 3) := by decide +kernel
theorem dX10_areCounts_27 : decode cX10_areCounts 27 = .ok (.ifCond .eq 17, 3) := by decide +kernel
theorem dX10_areCounts_30 : decode cX10_areCounts 30 = .ok (.iload_n 0, 1) := by decide +kernel
theorem dX10_areCounts_31 : decode cX10_areCounts 31 = .ok (.iload_n 1, 1) := by decide +kernel
theorem dX10_areCounts_32 : decode cX10_areCounts 32 = .ok (.iadd, 1) := by decide +kernel
theorem dX10_areCounts_33 : decode cX10_areCounts 33 = .ok (.iload_n 2, 1) := by decide +kernel
theorem dX10_areCounts_34 : decode cX10_areCounts 34 = .ok (.iadd, 1) := by decide +kernel
theorem dX10_areCounts_35 : decode cX10_areCounts 35 = .ok (.bipush 100, 2) := by decide +kernel
theorem dX10_areCounts_37 : decode cX10_areCounts 37 = .ok (.if_icmp .gt 7, 3) := by decide +kernel
theorem dX10_areCounts_40 : decode cX10_areCounts 40 = .ok (.iconst 1, 1) := by decide +kernel
theorem dX10_areCounts_41 : decode cX10_areCounts 41 = .ok (.goto 4, 3) := by decide +kernel
theorem dX10_areCounts_44 : decode cX10_areCounts 44 = .ok (.iconst 0, 1) := by decide +kernel
theorem dX10_areCounts_45 : decode cX10_areCounts 45 = .ok (.ireturn, 1) := by decide +kernel
theorem dX10_setMark_0 : decode cX10_setMark 0 = .ok (.aload_n 0, 1) := by decide +kernel
theorem dX10_setMark_1 : decode cX10_setMark 1 = .ok (.ifnull 11, 3) := by decide +kernel
theorem dX10_setMark_4 : decode cX10_setMark 4 = .ok (.aload_n 0, 1) := by decide +kernel
theorem dX10_setMark_5 : decode cX10_setMark 5 = .ok (.getfield 223, 3) := by decide +kernel
theorem dX10_setMark_8 : decode cX10_setMark 8 = .ok (.iload_n 1, 1) := by decide +kernel
theorem dX10_setMark_9 : decode cX10_setMark 9 = .ok (.if_icmp .ne 5, 3) := by decide +kernel
theorem dX10_setMark_12 : decode cX10_setMark 12 = .ok (.iconst 0, 1) := by decide +kernel
theorem dX10_setMark_13 : decode cX10_setMark 13 = .ok (.ireturn, 1) := by decide +kernel
theorem dX10_setMark_14 : decode cX10_setMark 14 = .ok (.aload_n 0, 1) := by decide +kernel
theorem dX10_setMark_15 : decode cX10_setMark 15 = .ok (.iload_n 1, 1) := by decide +kernel
theorem dX10_setMark_16 : decode cX10_setMark 16 = .ok (.putfield 223, 3) := by decide +kernel
theorem dX10_setMark_19 : decode cX10_setMark 19 = .ok (.iconst 1, 1) := by decide +kernel
theorem dX10_setMark_20 : decode cX10_setMark 20 = .ok (.ireturn, 1) := by decide +kernel
theorem dJ9_max_7cf53_0 : decode cJ9_max_7cf53 0 = .ok (.iload_n 0, 1) := by decide +kernel
theorem dJ9_max_7cf53_1 : decode cJ9_max_7cf53 1 = .ok (.iload_n 1, 1) := by decide +kernel
theorem dJ9_max_7cf53_2 : decode cJ9_max_7cf53 2 = .ok (.if_icmp .lt 7, 3) := by decide +kernel
theorem dJ9_max_7cf53_5 : decode cJ9_max_7cf53 5 = .ok (.iload_n 0, 1) := by decide +kernel
theorem dJ9_max_7cf53_6 : decode cJ9_max_7cf53 6 = .ok (.goto 4, 3) := by decide +kernel
theorem dJ9_max_7cf53_9 : decode cJ9_max_7cf53 9 = .ok (.iload_n 1, 1) := by decide +kernel
theorem dJ9_max_7cf53_10 : decode cJ9_max_7cf53 10 = .ok (.ireturn, 1) := by decide +kernel
theorem dJ9_max_f86c9_0 : decode cJ9_max_f86c9 0 = .ok (.lload_n 0, 1) := by decide +kernel
theorem dJ9_max_f86c9_1 : decode cJ9_max_f86c9 1 = .ok (.lload_n 2, 1) := by decide +kernel
theorem dJ9_max_f86c9_2 : decode cJ9_max_f86c9 2 = .ok (.lcmp, 1) := by decide +kernel
theorem dJ9_max_f86c9_3 : decode cJ9_max_f86c9 3 = .ok (.ifCond .lt 7, 3) := by decide +kernel
theorem dJ9_max_f86c9_6 : decode cJ9_max_f86c9 6 = .ok (.lload_n 0, 1) := by decide +kernel
theorem dJ9_max_f86c9_7 : decode cJ9_max_f86c9 7 = .ok (.goto 4, 3) := by decide +kernel
theorem dJ9_max_f86c9_10 : decode cJ9_max_f86c9 10 = .ok (.lload_n 2, 1) := by decide +kernel
theorem dJ9_max_f86c9_11 : decode cJ9_max_f86c9 11 = .ok (.lreturn, 1) := by decide +kernel
theorem dJ9_min_7cf53_0 : decode cJ9_min_7cf53 0 = .ok (.iload_n 0, 1) := by decide +kernel
theorem dJ9_min_7cf53_1 : decode cJ9_min_7cf53 1 = .ok (.iload_n 1, 1) := by decide +kernel
theorem dJ9_min_7cf53_2 : decode cJ9_min_7cf53 2 = .ok (.if_icmp .gt 7, 3) := by decide +kernel
theorem dJ9_min_7cf53_5 : decode cJ9_min_7cf53 5 = .ok (.iload_n 0, 1) := by decide +kernel
theorem dJ9_min_7cf53_6 : decode cJ9_min_7cf53 6 = .ok (.goto 4, 3) := by decide +kernel
theorem dJ9_min_7cf53_9 : decode cJ9_min_7cf53 9 = .ok (.iload_n 1, 1) := by decide +kernel
theorem dJ9_min_7cf53_10 : decode cJ9_min_7cf53 10 = .ok (.ireturn, 1) := by decide +kernel
theorem dJ9_min_f86c9_0 : decode cJ9_min_f86c9 0 = .ok (.lload_n 0, 1) := by decide +kernel
theorem dJ9_min_f86c9_1 : decode cJ9_min_f86c9 1 = .ok (.lload_n 2, 1) := by decide +kernel
theorem dJ9_min_f86c9_2 : decode cJ9_min_f86c9 2 = .ok (.lcmp, 1) := by decide +kernel
theorem dJ9_min_f86c9_3 : decode cJ9_min_f86c9 3 = .ok (.ifCond .gt 7, 3) := by decide +kernel
theorem dJ9_min_f86c9_6 : decode cJ9_min_f86c9 6 = .ok (.lload_n 0, 1) := by decide +kernel
theorem dJ9_min_f86c9_7 : decode cJ9_min_f86c9 7 = .ok (.goto 4, 3) := by decide +kernel
theorem dJ9_min_f86c9_10 : decode cJ9_min_f86c9 10 = .ok (.lload_n 2, 1) := by decide +kernel
theorem dJ9_min_f86c9_11 : decode cJ9_min_f86c9 11 = .ok (.lreturn, 1) := by decide +kernel
theorem dJ7_fill_53178_0 : decode cJ7_fill_53178 0 = .ok (.iconst 0, 1) := by decide +kernel
theorem dJ7_fill_53178_1 : decode cJ7_fill_53178 1 = .ok (.istore_n 2, 1) := by decide +kernel
theorem dJ7_fill_53178_2 : decode cJ7_fill_53178 2 = .ok (.aload_n 0, 1) := by decide +kernel
theorem dJ7_fill_53178_3 : decode cJ7_fill_53178 3 = .ok (.arraylength, 1) := by decide +kernel
theorem dJ7_fill_53178_4 : decode cJ7_fill_53178 4 = .ok (.istore_n 3, 1) := by decide +kernel
theorem dJ7_fill_53178_5 : decode cJ7_fill_53178 5 = .ok (.iload_n 2, 1) := by decide +kernel
theorem dJ7_fill_53178_6 : decode cJ7_fill_53178 6 = .ok (.iload_n 3, 1) := by decide +kernel
theorem dJ7_fill_53178_7 : decode cJ7_fill_53178 7 = .ok (.if_icmp .ge 13, 3) := by decide +kernel
theorem dJ7_fill_53178_10 : decode cJ7_fill_53178 10 = .ok (.aload_n 0, 1) := by decide +kernel
theorem dJ7_fill_53178_11 : decode cJ7_fill_53178 11 = .ok (.iload_n 2, 1) := by decide +kernel
theorem dJ7_fill_53178_12 : decode cJ7_fill_53178 12 = .ok (.iload_n 1, 1) := by decide +kernel
theorem dJ7_fill_53178_13 : decode cJ7_fill_53178 13 = .ok (.iastore, 1) := by decide +kernel
theorem dJ7_fill_53178_14 : decode cJ7_fill_53178 14 = .ok (.iinc 2 1, 3) := by decide +kernel
theorem dJ7_fill_53178_17 : decode cJ7_fill_53178 17 = .ok (.goto (-12), 3) := by decide +kernel
theorem dJ7_fill_53178_20 : decode cJ7_fill_53178 20 = .ok (.return_, 1) := by decide +kernel
theorem dJ7_copyOf_59c91_0 : decode cJ7_copyOf_59c91 0 = .ok (.iload_n 1, 1) := by decide +kernel
theorem dJ7_copyOf_59c91_1 : decode cJ7_copyOf_59c91 1 = .ok (.aload_n 0, 1) := by decide +kernel
theorem dJ7_copyOf_59c91_2 : decode cJ7_copyOf_59c91 2 = .ok (.arraylength, 1) := by decide +kernel
theorem dJ7_copyOf_59c91_3 : decode cJ7_copyOf_59c91 3 = .ok (.if_icmp .ne 11, 3) := by decide +kernel
theorem dJ7_copyOf_59c91_6 : decode cJ7_copyOf_59c91 6 = .ok (.aload_n 0, 1) := by decide +kernel
theorem dJ7_copyOf_59c91_7 : decode cJ7_copyOf_59c91 7 = .ok (.invokevirtual 316, 3) := by decide +kernel
theorem dJ7_copyOf_59c91_10 : decode cJ7_copyOf_59c91 10 = .ok (.checkcast 317, 3) := by decide +kernel
theorem dJ7_copyOf_59c91_13 : decode cJ7_copyOf_59c91 13 = .ok (.areturn, 1) := by decide +kernel
theorem dJ7_copyOf_59c91_14 : decode cJ7_copyOf_59c91 14 = .ok (.iload_n 1, 1) := by decide +kernel
theorem dJ7_copyOf_59c91_15 : decode cJ7_copyOf_59c91 15 = .ok (.newarray .int, 2) := by decide +kernel
theorem dJ7_copyOf_59c91_17 : decode cJ7_copyOf_59c91 17 = .ok (.astore_n 2, 1) := by decide +kernel
theorem dJ7_copyOf_59c91_18 : decode cJ7_copyOf_59c91 18 = .ok (.aload_n 0, 1) := by decide +kernel
theorem dJ7_copyOf_59c91_19 : decode cJ7_copyOf_59c91 19 = .ok (.iconst 0, 1) := by decide +kernel
theorem dJ7_copyOf_59c91_20 : decode cJ7_copyOf_59c91 20 = .ok (.aload_n 2, 1) := by decide +kernel
theorem dJ7_copyOf_59c91_21 : decode cJ7_copyOf_59c91 21 = .ok (.iconst 0, 1) := by decide +kernel
theorem dJ7_copyOf_59c91_22 : decode cJ7_copyOf_59c91 22 = .ok (.aload_n 0, 1) := by decide +kernel
theorem dJ7_copyOf_59c91_23 : decode cJ7_copyOf_59c91 23 = .ok (.arraylength, 1) := by decide +kernel
theorem dJ7_copyOf_59c91_24 : decode cJ7_copyOf_59c91 24 = .ok (.iload_n 1, 1) := by decide +kernel
theorem dJ7_copyOf_59c91_25 : decode cJ7_copyOf_59c91 25 = .ok (.invokestatic 304, 3) := by decide +kernel
theorem dJ7_copyOf_59c91_28 : decode cJ7_copyOf_59c91 28 = .ok (.invokestatic 150, 3) := by decide +kernel
theorem dJ7_copyOf_59c91_31 : decode cJ7_copyOf_59c91 31 = .ok (.aload_n 2, 1) := by decide +kernel
theorem dJ7_copyOf_59c91_32 : decode cJ7_copyOf_59c91 32 = .ok (.areturn, 1) := by decide +kernel
