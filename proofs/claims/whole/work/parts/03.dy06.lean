theorem dX7_mayGoTo_0 : decode cX7_mayGoTo 0 = .ok (.aload_n 0, 1) := by decide +kernel
theorem dX7_mayGoTo_1 : decode cX7_mayGoTo 1 = .ok (.getfield 9, 3) := by decide +kernel
theorem dX7_mayGoTo_4 : decode cX7_mayGoTo 4 = .ok (.iconst 3, 1) := by decide +kernel
theorem dX7_mayGoTo_5 : decode cX7_mayGoTo 5 = .ok (.if_icmp .eq 27, 3) := by decide +kernel
theorem dX7_mayGoTo_8 : decode cX7_mayGoTo 8 = .ok (.aload_n 1, 1) := by decide +kernel
theorem dX7_mayGoTo_9 : decode cX7_mayGoTo 9 = .ok (.getfield 9, 3) := by decide +kernel
theorem dX7_mayGoTo_12 : decode cX7_mayGoTo 12 = .ok (.aload_n 0, 1) := by decide +kernel
theorem dX7_mayGoTo_13 : decode cX7_mayGoTo 13 = .ok (.getfield 9, 3) := by decide +kernel
theorem dX7_mayGoTo_16 : decode cX7_mayGoTo 16 = .ok (.if_icmp .lt 16, 3) := by decide +kernel
theorem dX7_mayGoTo_19 : decode cX7_mayGoTo 19 = .ok (.aload_n 1, 1) := by decide +kernel
theorem dX7_mayGoTo_20 : decode cX7_mayGoTo 20 = .ok (.getfield 9, 3) := by decide +kernel
theorem dX7_mayGoTo_23 : decode cX7_mayGoTo 23 = .ok (.aload_n 0, 1) := by decide +kernel
theorem dX7_mayGoTo_24 : decode cX7_mayGoTo 24 = .ok (.getfield 9, 3) := by decide +kernel
theorem dX7_mayGoTo_27 : decode cX7_mayGoTo 27 = .ok (.iconst 1, 1) := by decide +kernel
theorem dX7_mayGoTo_28 : decode cX7_mayGoTo 28 = .ok (.iadd, 1) := by decide +kernel
theorem dX7_mayGoTo_29 : decode cX7_mayGoTo 29 = .ok (.if_icmp .le 5, 3) := by decide +kernel
theorem dX7_mayGoTo_32 : decode cX7_mayGoTo 32 = .ok (.iconst 0, 1) := by decide +kernel
theorem dX7_mayGoTo_33 : decode cX7_mayGoTo 33 = .ok (.ireturn, 1) := by decide +kernel
theorem dX7_mayGoTo_34 : decode cX7_mayGoTo 34 = .ok (.aload_n 1, 1) := by decide +kernel
theorem dX7_mayGoTo_35 : decode cX7_mayGoTo 35 = .ok (.getfield 9, 3) := by decide +kernel
theorem dX7_mayGoTo_38 : decode cX7_mayGoTo 38 = .ok (.iconst 3, 1) := by decide +kernel
theorem dX7_mayGoTo_39 : decode cX7_mayGoTo 39 = .ok (.if_icmp .ne 19, 3) := by decide +kernel
theorem dX7_mayGoTo_42 : decode cX7_mayGoTo 42 = .ok (.aload_n 0, 1) := by decide +kernel
theorem dX7_mayGoTo_43 : decode cX7_mayGoTo 43 = .ok (.invokevirtual 31, 3) := by decide +kernel
theorem dX7_mayGoTo_46 : decode cX7_mayGoTo 46 = .ok (.bipush 75, 2) := by decide +kernel
theorem dX7_mayGoTo_48 : decode cX7_mayGoTo 48 = .ok (.if_icmp .gt 14, 3) := by decide +kernel
theorem dX7_mayGoTo_51 : decode cX7_mayGoTo 51 = .ok (.aload_n 1, 1) := by decide +kernel
theorem dX7_mayGoTo_52 : decode cX7_mayGoTo 52 = .ok (.getfield 34, 3) := by decide +kernel
theorem dX7_mayGoTo_55 : decode cX7_mayGoTo 55 = .ok (.ifCond .ne 7, 3) := by decide +kernel
theorem dX7_mayGoTo_58 : decode cX7_mayGoTo 58 = .ok (.iconst 1, 1) := by decide +kernel
theorem dX7_mayGoTo_59 : decode cX7_mayGoTo 59 = .ok (.goto 4, 3) := by decide +kernel
theorem dX7_mayGoTo_62 : decode cX7_mayGoTo 62 = .ok (.iconst 0, 1) := by decide +kernel
theorem dX7_mayGoTo_63 : decode cX7_mayGoTo 63 = .ok (.ireturn, 1) := by decide +kernel
theorem dX7_pourOver_0 : decode cX7_pourOver 0 = .ok (.aload_n 0, 1) := by decide +kernel
theorem dX7_pourOver_1 : decode cX7_pourOver 1 = .ok (.invokevirtual 25, 3) := by decide +kernel
theorem dX7_pourOver_4 : decode cX7_pourOver 4 = .ok (.istore 4, 2) := by decide +kernel
theorem dX7_pourOver_6 : decode cX7_pourOver 6 = .ok (.aload_n 1, 1) := by decide +kernel
theorem dX7_pourOver_7 : decode cX7_pourOver 7 = .ok (.invokevirtual 25, 3) := by decide +kernel
theorem dX7_pourOver_10 : decode cX7_pourOver 10 = .ok (.iload_n 2, 1) := by decide +kernel
theorem dX7_pourOver_11 : decode cX7_pourOver 11 = .ok (.iadd, 1) := by decide +kernel
theorem dX7_pourOver_12 : decode cX7_pourOver 12 = .ok (.istore 5, 2) := by decide +kernel
theorem dX7_pourOver_14 : decode cX7_pourOver 14 = .ok (.iload 4, 2) := by decide +kernel
theorem dX7_pourOver_16 : decode cX7_pourOver 16 = .ok (.ifCond .le 8, 3) := by decide +kernel
theorem dX7_pourOver_19 : decode cX7_pourOver 19 = .ok (.iload 5, 2) := by decide +kernel
theorem dX7_pourOver_21 : decode cX7_pourOver 21 = .ok (.ifCond .gt 4, 3) := by decide +kernel
theorem dX7_pourOver_24 : decode cX7_pourOver 24 = .ok (.return_, 1) := by decide +kernel
theorem dX7_pourOver_25 : decode cX7_pourOver 25 = .ok (.aload_n 1, 1) := by decide +kernel
theorem dX7_pourOver_26 : decode cX7_pourOver 26 = .ok (.invokevirtual 25, 3) := by decide +kernel
theorem dX7_pourOver_29 : decode cX7_pourOver 29 = .ok (.i2l, 1) := by decide +kernel
theorem dX7_pourOver_30 : decode cX7_pourOver 30 = .ok (.aload_n 1, 1) := by decide +kernel
theorem dX7_pourOver_31 : decode cX7_pourOver 31 = .ok (.getfield 37, 3) := by decide +kernel
theorem dX7_pourOver_34 : decode cX7_pourOver 34 = .ok (.i2l, 1) := by decide +kernel
theorem dX7_pourOver_35 : decode cX7_pourOver 35 = .ok (.lmul, 1) := by decide +kernel
theorem dX7_pourOver_36 : decode cX7_pourOver 36 = .ok (.iload_n 2, 1) := by decide +kernel
theorem dX7_pourOver_37 : decode cX7_pourOver 37 = .ok (.i2l, 1) := by decide +kernel
theorem dX7_pourOver_38 : decode cX7_pourOver 38 = .ok (.aload_n 0, 1) := by decide +kernel
theorem dX7_pourOver_39 : decode cX7_pourOver 39 = .ok (.getfield 37, 3) := by decide +kernel
theorem dX7_pourOver_42 : decode cX7_pourOver 42 = .ok (.i2l, 1) := by decide +kernel
theorem dX7_pourOver_43 : decode cX7_pourOver 43 = .ok (.lmul, 1) := by decide +kernel
theorem dX7_pourOver_44 : decode cX7_pourOver 44 = .ok (.ladd, 1) := by decide +kernel
theorem dX7_pourOver_45 : decode cX7_pourOver 45 = .ok (.lstore 6, 2) := by decide +kernel
theorem dX7_pourOver_47 : decode cX7_pourOver 47 = .ok (.aload_n 1, 1) := by decide +kernel
theorem dX7_pourOver_48 : decode cX7_pourOver 48 = .ok (.lload 6, 2) := by decide +kernel
theorem dX7_pourOver_50 : decode cX7_pourOver 50 = .ok (.iload 5, 2) := by decide +kernel
theorem dX7_pourOver_52 : decode cX7_pourOver 52 = .ok (.i2l, 1) := by decide +kernel
theorem dX7_pourOver_53 : decode cX7_pourOver 53 = .ok (.ldiv, 1) := by decide +kernel
theorem dX7_pourOver_54 : decode cX7_pourOver 54 = .ok (.l2i, 1) := by decide +kernel
theorem dX7_pourOver_55 : decode cX7_pourOver 55 = .ok (.putfield 37, 3) := by decide +kernel
theorem dX7_pourOver_58 : decode cX7_pourOver 58 = .ok (.iload_n 2, 1) := by decide +kernel
theorem dX7_pourOver_59 : decode cX7_pourOver 59 = .ok (.i2l, 1) := by decide +kernel
theorem dX7_pourOver_60 : decode cX7_pourOver 60 = .ok (.aload_n 0, 1) := by decide +kernel
theorem dX7_pourOver_61 : decode cX7_pourOver 61 = .ok (.getfield 22, 3) := by decide +kernel
theorem dX7_pourOver_64 : decode cX7_pourOver 64 = .ok (.i2l, 1) := by decide +kernel
theorem dX7_pourOver_65 : decode cX7_pourOver 65 = .ok (.lmul, 1) := by decide +kernel
theorem dX7_pourOver_66 : decode cX7_pourOver 66 = .ok (.iload 4, 2) := by decide +kernel
theorem dX7_pourOver_68 : decode cX7_pourOver 68 = .ok (.i2l, 1) := by decide +kernel
theorem dX7_pourOver_69 : decode cX7_pourOver 69 = .ok (.ldiv, 1) := by decide +kernel
theorem dX7_pourOver_70 : decode cX7_pourOver 70 = .ok (.l2i, 1) := by decide +kernel
theorem dX7_pourOver_71 : decode cX7_pourOver 71 = .ok (.istore 8, 2) := by decide +kernel
theorem dX7_pourOver_73 : decode cX7_pourOver 73 = .ok (.aload_n 0, 1) := by decide +kernel
theorem dX7_pourOver_74 : decode cX7_pourOver 74 = .ok (.dup, 1) := by decide +kernel
theorem dX7_pourOver_75 : decode cX7_pourOver 75 = .ok (.getfield 22, 3) := by decide +kernel
theorem dX7_pourOver_78 : decode cX7_pourOver 78 = .ok (.iload 8, 2) := by decide +kernel
theorem dX7_pourOver_80 : decode cX7_pourOver 80 = .ok (.isub, 1) := by decide +kernel
theorem dX7_pourOver_81 : decode cX7_pourOver 81 = .ok (.putfield 22, 3) := by decide +kernel
theorem dX7_pourOver_84 : decode cX7_pourOver 84 = .ok (.aload_n 1, 1) := by decide +kernel
theorem dX7_pourOver_85 : decode cX7_pourOver 85 = .ok (.dup, 1) := by decide +kernel
theorem dX7_pourOver_86 : decode cX7_pourOver 86 = .ok (.getfield 22, 3) := by decide +kernel
theorem dX7_pourOver_89 : decode cX7_pourOver 89 = .ok (.iload 8, 2) := by decide +kernel
theorem dX7_pourOver_91 : decode cX7_pourOver 91 = .ok (.iadd, 1) := by decide +kernel
theorem dX7_pourOver_92 : decode cX7_pourOver 92 = .ok (.putfield 22, 3) := by decide +kernel
theorem dX7_pourOver_95 : decode cX7_pourOver 95 = .ok (.aload_n 3, 1) := by decide +kernel
theorem dX7_pourOver_96 : decode cX7_pourOver 96 = .ok (.iload_n 2, 1) := by decide +kernel
theorem dX7_pourOver_97 : decode cX7_pourOver 97 = .ok (.iload 8, 2) := by decide +kernel
theorem dX7_pourOver_99 : decode cX7_pourOver 99 = .ok (.isub, 1) := by decide +kernel
theorem dX7_pourOver_100 : decode cX7_pourOver 100 = .ok (.aload_n 0, 1) := by decide +kernel
theorem dX7_pourOver_101 : decode cX7_pourOver 101 = .ok (.getfield 15, 3) := by decide +kernel
theorem dX7_pourOver_104 : decode cX7_pourOver 104 = .ok (.invokevirtual 40, 3) := by decide +kernel
theorem dX7_pourOver_107 : decode cX7_pourOver 107 = .ok (.astore 9, 2) := by decide +kernel
theorem dX7_pourOver_109 : decode cX7_pourOver 109 = .ok (.iconst 0, 1) := by decide +kernel
theorem dX7_pourOver_110 : decode cX7_pourOver 110 = .ok (.istore 10, 2) := by decide +kernel
theorem dX7_pourOver_112 : decode cX7_pourOver 112 = .ok (.iload 10, 2) := by decide +kernel
theorem dX7_pourOver_114 : decode cX7_pourOver 114 = .ok (.bipush 60, 2) := by decide +kernel
theorem dX7_pourOver_116 : decode cX7_pourOver 116 = .ok (.if_icmp .ge 34, 3) := by decide +kernel
theorem dX7_pourOver_119 : decode cX7_pourOver 119 = .ok (.aload_n 0, 1) := by decide +kernel
theorem dX7_pourOver_120 : decode cX7_pourOver 120 = .ok (.iload 10, 2) := by decide +kernel
theorem dX7_pourOver_122 : decode cX7_pourOver 122 = .ok (.aload 9, 2) := by decide +kernel
theorem dX7_pourOver_124 : decode cX7_pourOver 124 = .ok (.iload 10, 2) := by decide +kernel
theorem dX7_pourOver_126 : decode cX7_pourOver 126 = .ok (.iaload, 1) := by decide +kernel
theorem dX7_pourOver_127 : decode cX7_pourOver 127 = .ok (.ineg, 1) := by decide +kernel
theorem dX7_pourOver_128 : decode cX7_pourOver 128 = .ok (.iconst 0, 1) := by decide +kernel
theorem dX7_pourOver_129 : decode cX7_pourOver 129 = .ok (.invokevirtual 46, 3) := by decide +kernel
theorem dX7_pourOver_132 : decode cX7_pourOver 132 = .ok (.aload_n 1, 1) := by decide +kernel
theorem dX7_pourOver_133 : decode cX7_pourOver 133 = .ok (.iload 10, 2) := by decide +kernel
theorem dX7_pourOver_135 : decode cX7_pourOver 135 = .ok (.aload 9, 2) := by decide +kernel
theorem dX7_pourOver_137 : decode cX7_pourOver 137 = .ok (.iload 10, 2) := by decide +kernel
theorem dX7_pourOver_139 : decode cX7_pourOver 139 = .ok (.iaload, 1) := by decide +kernel
theorem dX7_pourOver_140 : decode cX7_pourOver 140 = .ok (.iconst 0, 1) := by decide +kernel
theorem dX7_pourOver_141 : decode cX7_pourOver 141 = .ok (.invokevirtual 46, 3) := by decide +kernel
theorem dX7_pourOver_144 : decode cX7_pourOver 144 = .ok (.iinc 10 1, 3) := by decide +kernel
theorem dX7_pourOver_147 : decode cX7_pourOver 147 = .ok (.goto (-35), 3) := by decide +kernel
theorem dX7_pourOver_150 : decode cX7_pourOver 150 = .ok (.return_, 1) := by decide +kernel
theorem dX7_passDay_0 : decode cX7_passDay 0 = .ok (.aload_n 0, 1) := by decide +kernel
theorem dX7_passDay_1 : decode cX7_passDay 1 = .ok (.getfield 9, 3) := by decide +kernel
theorem dX7_passDay_4 : decode cX7_passDay 4 = .ok (.iconst 2, 1) := by decide +kernel
theorem dX7_passDay_5 : decode cX7_passDay 5 = .ok (.if_icmp .ne 19, 3) := by decide +kernel
theorem dX7_passDay_8 : decode cX7_passDay 8 = .ok (.aload_n 0, 1) := by decide +kernel
theorem dX7_passDay_9 : decode cX7_passDay 9 = .ok (.getfield 50, 3) := by decide +kernel
theorem dX7_passDay_12 : decode cX7_passDay 12 = .ok (.ifCond .ne 12, 3) := by decide +kernel
theorem dX7_passDay_15 : decode cX7_passDay 15 = .ok (.aload_n 0, 1) := by decide +kernel
theorem dX7_passDay_16 : decode cX7_passDay 16 = .ok (.iload_n 1, 1) := by decide +kernel
theorem dX7_passDay_17 : decode cX7_passDay 17 = .ok (.iload_n 2, 1) := by decide +kernel
theorem dX7_passDay_18 : decode cX7_passDay 18 = .ok (.invokevirtual 54, 3) := by decide +kernel
theorem dX7_passDay_21 : decode cX7_passDay 21 = .ok (.goto 49, 3) := by decide +kernel
theorem dX7_passDay_24 : decode cX7_passDay 24 = .ok (.aload_n 0, 1) := by decide +kernel
theorem dX7_passDay_25 : decode cX7_passDay 25 = .ok (.getfield 9, 3) := by decide +kernel
theorem dX7_passDay_28 : decode cX7_passDay 28 = .ok (.iconst 1, 1) := by decide +kernel
theorem dX7_passDay_29 : decode cX7_passDay 29 = .ok (.if_icmp .ne 29, 3) := by decide +kernel
theorem dX7_passDay_32 : decode cX7_passDay 32 = .ok (.aload_n 0, 1) := by decide +kernel
theorem dX7_passDay_33 : decode cX7_passDay 33 = .ok (.aload_n 0, 1) := by decide +kernel
theorem dX7_passDay_34 : decode cX7_passDay 34 = .ok (.getfield 50, 3) := by decide +kernel
theorem dX7_passDay_37 : decode cX7_passDay 37 = .ok (.ifCond .eq 8, 3) := by decide +kernel
theorem dX7_passDay_40 : decode cX7_passDay 40 = .ok (.bipush 12, 2) := by decide +kernel
theorem dX7_passDay_42 : decode cX7_passDay 42 = .ok (.goto 5, 3) := by decide +kernel
theorem dX7_passDay_45 : decode cX7_passDay 45 = .ok (.bipush 7, 2) := by decide +kernel
theorem dX7_passDay_47 : decode cX7_passDay 47 = .ok (.invokevirtual 58, 3) := by decide +kernel
theorem dX7_passDay_50 : decode cX7_passDay 50 = .ok (.aload_n 0, 1) := by decide +kernel
theorem dX7_passDay_51 : decode cX7_passDay 51 = .ok (.iconst 0, 1) := by decide +kernel
theorem dX7_passDay_52 : decode cX7_passDay 52 = .ok (.putfield 50, 3) := by decide +kernel
theorem dX7_passDay_55 : decode cX7_passDay 55 = .ok (.goto 15, 3) := by decide +kernel
theorem dX7_passDay_58 : decode cX7_passDay 58 = .ok (.aload_n 0, 1) := by decide +kernel
theorem dX7_passDay_59 : decode cX7_passDay 59 = .ok (.getfield 9, 3) := by decide +kernel
theorem dX7_passDay_62 : decode cX7_passDay 62 = .ok (.ifCond .ne 8, 3) := by decide +kernel
theorem dX7_passDay_65 : decode cX7_passDay 65 = .ok (.aload_n 0, 1) := by decide +kernel
theorem dX7_passDay_66 : decode cX7_passDay 66 = .ok (.iconst 1, 1) := by decide +kernel
theorem dX7_passDay_67 : decode cX7_passDay 67 = .ok (.invokevirtual 58, 3) := by decide +kernel
theorem dX7_passDay_70 : decode cX7_passDay 70 = .ok (.return_, 1) := by decide +kernel
theorem dX7_dryOrWet_0 : decode cX7_dryOrWet 0 = .ok (.iload_n 2, 1) := by decide +kernel
theorem dX7_dryOrWet_1 : decode cX7_dryOrWet 1 = .ok (.ifCond .eq 22, 3) := by decide +kernel
theorem dX7_dryOrWet_4 : decode cX7_dryOrWet 4 = .ok (.aload_n 0, 1) := by decide +kernel
theorem dX7_dryOrWet_5 : decode cX7_dryOrWet 5 = .ok (.dup, 1) := by decide +kernel
theorem dX7_dryOrWet_6 : decode cX7_dryOrWet 6 = .ok (.getfield 22, 3) := by decide +kernel
theorem dX7_dryOrWet_9 : decode cX7_dryOrWet 9 = .ok (.aload_n 0, 1) := by decide +kernel
theorem dX7_dryOrWet_10 : decode cX7_dryOrWet 10 = .ok (.getfield 19, 3) := by decide +kernel
theorem dX7_dryOrWet_13 : decode cX7_dryOrWet 13 = .ok (.bipush 10, 2) := by decide +kernel
theorem dX7_dryOrWet_15 : decode cX7_dryOrWet 15 = .ok (.idiv, 1) := by decide +kernel
theorem dX7_dryOrWet_16 : decode cX7_dryOrWet 16 = .ok (.iadd, 1) := by decide +kernel
theorem dX7_dryOrWet_17 : decode cX7_dryOrWet 17 = .ok (.putfield 22, 3) := by decide +kernel
theorem dX7_dryOrWet_20 : decode cX7_dryOrWet 20 = .ok (.goto 25, 3) := by decide +kernel
theorem dX7_dryOrWet_23 : decode cX7_dryOrWet 23 = .ok (.aload_n 0, 1) := by decide +kernel
theorem dX7_dryOrWet_24 : decode cX7_dryOrWet 24 = .ok (.iconst 0, 1) := by decide +kernel
theorem dX7_dryOrWet_25 : decode cX7_dryOrWet 25 = .ok (.aload_n 0, 1) := by decide +kernel
theorem dX7_dryOrWet_26 : decode cX7_dryOrWet 26 = .ok (.getfield 22, 3) := by decide +kernel
theorem dX7_dryOrWet_29 : decode cX7_dryOrWet 29 = .ok (.iload_n 1, 1) := by decide +kernel
theorem dX7_dryOrWet_30 : decode cX7_dryOrWet 30 = .ok (.aload_n 0, 1) := by decide +kernel
theorem dX7_dryOrWet_31 : decode cX7_dryOrWet 31 = .ok (.getfield 19, 3) := by decide +kernel
theorem dX7_dryOrWet_34 : decode cX7_dryOrWet 34 = .ok (.imul, 1) := by decide +kernel
theorem dX7_dryOrWet_35 : decode cX7_dryOrWet 35 = .ok (.bipush 40, 2) := by decide +kernel
theorem dX7_dryOrWet_37 : decode cX7_dryOrWet 37 = .ok (.idiv, 1) := by decide +kernel
theorem dX7_dryOrWet_38 : decode cX7_dryOrWet 38 = .ok (.isub, 1) := by decide +kernel
theorem dX7_dryOrWet_39 : decode cX7_dryOrWet 39 = .ok (.invokestatic 62, 3) := by decide +kernel
theorem dX7_dryOrWet_42 : decode cX7_dryOrWet 42 = .ok (.putfield 22, 3) := by decide +kernel
theorem dX7_dryOrWet_45 : decode cX7_dryOrWet 45 = .ok (.return_, 1) := by decide +kernel
theorem dX7_ripen_0 : decode cX7_ripen 0 = .ok (.aload_n 0, 1) := by decide +kernel
theorem dX7_ripen_1 : decode cX7_ripen 1 = .ok (.invokevirtual 25, 3) := by decide +kernel
theorem dX7_ripen_4 : decode cX7_ripen 4 = .ok (.ifCond .le 18, 3) := by decide +kernel
theorem dX7_ripen_7 : decode cX7_ripen 7 = .ok (.aload_n 0, 1) := by decide +kernel
theorem dX7_ripen_8 : decode cX7_ripen 8 = .ok (.bipush 100, 2) := by decide +kernel
theorem dX7_ripen_10 : decode cX7_ripen 10 = .ok (.aload_n 0, 1) := by decide +kernel
theorem dX7_ripen_11 : decode cX7_ripen 11 = .ok (.getfield 37, 3) := by decide +kernel
theorem dX7_ripen_14 : decode cX7_ripen 14 = .ok (.iload_n 1, 1) := by decide +kernel
theorem dX7_ripen_15 : decode cX7_ripen 15 = .ok (.iadd, 1) := by decide +kernel
theorem dX7_ripen_16 : decode cX7_ripen 16 = .ok (.invokestatic 68, 3) := by decide +kernel
theorem dX7_ripen_19 : decode cX7_ripen 19 = .ok (.putfield 37, 3) := by decide +kernel
theorem dX7_ripen_22 : decode cX7_ripen 22 = .ok (.return_, 1) := by decide +kernel
theorem dX7_mayBeCut_0 : decode cX7_mayBeCut 0 = .ok (.aload_n 0, 1) := by decide +kernel
theorem dX7_mayBeCut_1 : decode cX7_mayBeCut 1 = .ok (.invokevirtual 25, 3) := by decide +kernel
theorem dX7_mayBeCut_4 : decode cX7_mayBeCut 4 = .ok (.ifCond .le 30, 3) := by decide +kernel
theorem dX7_mayBeCut_7 : decode cX7_mayBeCut 7 = .ok (.aload_n 0, 1) := by decide +kernel
theorem dX7_mayBeCut_8 : decode cX7_mayBeCut 8 = .ok (.getfield 34, 3) := by decide +kernel
theorem dX7_mayBeCut_11 : decode cX7_mayBeCut 11 = .ok (.ifCond .eq 19, 3) := by decide +kernel
theorem dX7_mayBeCut_14 : decode cX7_mayBeCut 14 = .ok (.aload_n 0, 1) := by decide +kernel
theorem dX7_mayBeCut_15 : decode cX7_mayBeCut 15 = .ok (.getfield 34, 3) := by decide +kernel
theorem dX7_mayBeCut_18 : decode cX7_mayBeCut 18 = .ok (.iconst 1, 1) := by decide +kernel
theorem dX7_mayBeCut_19 : decode cX7_mayBeCut 19 = .ok (.if_icmp .ne 15, 3) := by decide +kernel
theorem dX7_mayBeCut_22 : decode cX7_mayBeCut 22 = .ok (.aload_n 0, 1) := by decide +kernel
theorem dX7_mayBeCut_23 : decode cX7_mayBeCut 23 = .ok (.getfield 71, 3) := by decide +kernel
theorem dX7_mayBeCut_26 : decode cX7_mayBeCut 26 = .ok (.iconst 3, 1) := by decide +kernel
theorem dX7_mayBeCut_27 : decode cX7_mayBeCut 27 = .ok (.if_icmp .ne 7, 3) := by decide +kernel
theorem dX7_mayBeCut_30 : decode cX7_mayBeCut 30 = .ok (.iconst 1, 1) := by decide +kernel
theorem dX7_mayBeCut_31 : decode cX7_mayBeCut 31 = .ok (.goto 4, 3) := by decide +kernel
theorem dX7_mayBeCut_34 : decode cX7_mayBeCut 34 = .ok (.iconst 0, 1) := by decide +kernel
theorem dX7_mayBeCut_35 : decode cX7_mayBeCut 35 = .ok (.ireturn, 1) := by decide +kernel
theorem dX7_takeCut_0 : decode cX7_takeCut 0 = .ok (.aload_n 0, 1) := by decide +kernel
theorem dX7_takeCut_1 : decode cX7_takeCut 1 = .ok (.dup, 1) := by decide +kernel
theorem dX7_takeCut_2 : decode cX7_takeCut 2 = .ok (.getfield 34, 3) := by decide +kernel
theorem dX7_takeCut_5 : decode cX7_takeCut 5 = .ok (.iconst 1, 1) := by decide +kernel
theorem dX7_takeCut_6 : decode cX7_takeCut 6 = .ok (.iadd, 1) := by decide +kernel
theorem dX7_takeCut_7 : decode cX7_takeCut 7 = .ok (.putfield 34, 3) := by decide +kernel
theorem dX7_takeCut_10 : decode cX7_takeCut 10 = .ok (.iload_n 1, 1) := by decide +kernel
theorem dX7_takeCut_11 : decode cX7_takeCut 11 = .ok (.iconst 3, 1) := by decide +kernel
theorem dX7_takeCut_12 : decode cX7_takeCut 12 = .ok (.if_icmp .gt 39, 3) := by decide +kernel
theorem dX7_takeCut_15 : decode cX7_takeCut 15 = .ok (.iload_n 2, 1) := by decide +kernel
theorem dX7_takeCut_16 : decode cX7_takeCut 16 = .ok (.iconst 3, 1) := by decide +kernel
theorem dX7_takeCut_17 : decode cX7_takeCut 17 = .ok (.if_icmp .gt 34, 3) := by decide +kernel
theorem dX7_takeCut_20 : decode cX7_takeCut 20 = .ok (.iload_n 3, 1) := by decide +kernel
theorem dX7_takeCut_21 : decode cX7_takeCut 21 = .ok (.iconst 3, 1) := by decide +kernel
theorem dX7_takeCut_22 : decode cX7_takeCut 22 = .ok (.if_icmp .gt 29, 3) := by decide +kernel
theorem dX7_takeCut_25 : decode cX7_takeCut 25 = .ok (.aload_n 0, 1) := by decide +kernel
theorem dX7_takeCut_26 : decode cX7_takeCut 26 = .ok (.getfield 37, 3) := by decide +kernel
theorem dX7_takeCut_29 : decode cX7_takeCut 29 = .ok (.bipush 50, 2) := by decide +kernel
theorem dX7_takeCut_31 : decode cX7_takeCut 31 = .ok (.if_icmp .lt 20, 3) := by decide +kernel
theorem dX7_takeCut_34 : decode cX7_takeCut 34 = .ok (.aload_n 0, 1) := by decide +kernel
theorem dX7_takeCut_35 : decode cX7_takeCut 35 = .ok (.getfield 37, 3) := by decide +kernel
theorem dX7_takeCut_38 : decode cX7_takeCut 38 = .ok (.bipush 90, 2) := by decide +kernel
theorem dX7_takeCut_40 : decode cX7_takeCut 40 = .ok (.if_icmp .gt 11, 3) := by decide +kernel
theorem dX7_takeCut_43 : decode cX7_takeCut 43 = .ok (.aload_n 0, 1) := by decide +kernel
theorem dX7_takeCut_44 : decode cX7_takeCut 44 = .ok (.iconst 1, 1) := by decide +kernel
theorem dX7_takeCut_45 : decode cX7_takeCut 45 = .ok (.putfield 71, 3) := by decide +kernel
theorem dX7_takeCut_48 : decode cX7_takeCut 48 = .ok (.goto 33, 3) := by decide +kernel
theorem dX7_takeCut_51 : decode cX7_takeCut 51 = .ok (.iload_n 1, 1) := by decide +kernel
theorem dX7_takeCut_52 : decode cX7_takeCut 52 = .ok (.iconst 4, 1) := by decide +kernel
theorem dX7_takeCut_53 : decode cX7_takeCut 53 = .ok (.if_icmp .gt 23, 3) := by decide +kernel
theorem dX7_takeCut_56 : decode cX7_takeCut 56 = .ok (.iload_n 2, 1) := by decide +kernel
theorem dX7_takeCut_57 : decode cX7_takeCut 57 = .ok (.bipush 8, 2) := by decide +kernel
theorem dX7_takeCut_59 : decode cX7_takeCut 59 = .ok (.if_icmp .gt 17, 3) := by decide +kernel
theorem dX7_takeCut_62 : decode cX7_takeCut 62 = .ok (.iload_n 3, 1) := by decide +kernel
theorem dX7_takeCut_63 : decode cX7_takeCut 63 = .ok (.bipush 6, 2) := by decide +kernel
theorem dX7_takeCut_65 : decode cX7_takeCut 65 = .ok (.if_icmp .gt 11, 3) := by decide +kernel
theorem dX7_takeCut_68 : decode cX7_takeCut 68 = .ok (.aload_n 0, 1) := by decide +kernel
theorem dX7_takeCut_69 : decode cX7_takeCut 69 = .ok (.iconst 2, 1) := by decide +kernel
theorem dX7_takeCut_70 : decode cX7_takeCut 70 = .ok (.putfield 71, 3) := by decide +kernel
theorem dX7_takeCut_73 : decode cX7_takeCut 73 = .ok (.goto 8, 3) := by decide +kernel
theorem dX7_takeCut_76 : decode cX7_takeCut 76 = .ok (.aload_n 0, 1) := by decide +kernel
theorem dX7_takeCut_77 : decode cX7_takeCut 77 = .ok (.iconst 3, 1) := by decide +kernel
theorem dX7_takeCut_78 : decode cX7_takeCut 78 = .ok (.putfield 71, 3) := by decide +kernel
theorem dX7_takeCut_81 : decode cX7_takeCut 81 = .ok (.return_, 1) := by decide +kernel
