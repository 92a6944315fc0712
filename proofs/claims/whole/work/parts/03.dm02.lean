theorem dX11_partAmong_0 : decode cX11_partAmong 0 = .ok (.lconst 0, 1) := by decide +kernel
theorem dX11_partAmong_1 : decode cX11_partAmong 1 = .ok (.lstore 4, 2) := by decide +kernel
theorem dX11_partAmong_3 : decode cX11_partAmong 3 = .ok (.iconst 0, 1) := by decide +kernel
theorem dX11_partAmong_4 : decode cX11_partAmong 4 = .ok (.istore 6, 2) := by decide +kernel
theorem dX11_partAmong_6 : decode cX11_partAmong 6 = .ok (.iload 6, 2) := by decide +kernel
theorem dX11_partAmong_8 : decode cX11_partAmong 8 = .ok (.iload_n 3, 1) := by decide +kernel
theorem dX11_partAmong_9 : decode cX11_partAmong 9 = .ok (.if_icmp .ge 21, 3) := by decide +kernel
theorem dX11_partAmong_12 : decode cX11_partAmong 12 = .ok (.lload 4, 2) := by decide +kernel
theorem dX11_partAmong_14 : decode cX11_partAmong 14 = .ok (.aload_n 0, 1) := by decide +kernel
theorem dX11_partAmong_15 : decode cX11_partAmong 15 = .ok (.getfield 32, 3) := by decide +kernel
theorem dX11_partAmong_18 : decode cX11_partAmong 18 = .ok (.iload 6, 2) := by decide +kernel
theorem dX11_partAmong_20 : decode cX11_partAmong 20 = .ok (.laload, 1) := by decide +kernel
theorem dX11_partAmong_21 : decode cX11_partAmong 21 = .ok (.ladd, 1) := by decide +kernel
theorem dX11_partAmong_22 : decode cX11_partAmong 22 = .ok (.lstore 4, 2) := by decide +kernel
theorem dX11_partAmong_24 : decode cX11_partAmong 24 = .ok (.iinc 6 1, 3) := by decide +kernel
theorem dX11_partAmong_27 : decode cX11_partAmong 27 = .ok (.goto (-21), 3) := by decide +kernel
theorem dX11_partAmong_30 : decode cX11_partAmong 30 = .ok (.lload_n 1, 1) := by decide +kernel
theorem dX11_partAmong_31 : decode cX11_partAmong 31 = .ok (.lstore 6, 2) := by decide +kernel
theorem dX11_partAmong_33 : decode cX11_partAmong 33 = .ok (.iconst 0, 1) := by decide +kernel
theorem dX11_partAmong_34 : decode cX11_partAmong 34 = .ok (.istore 8, 2) := by decide +kernel
theorem dX11_partAmong_36 : decode cX11_partAmong 36 = .ok (.iload 8, 2) := by decide +kernel
theorem dX11_partAmong_38 : decode cX11_partAmong 38 = .ok (.iload_n 3, 1) := by decide +kernel
theorem dX11_partAmong_39 : decode cX11_partAmong 39 = .ok (.if_icmp .ge 48, 3) := by decide +kernel
theorem dX11_partAmong_42 : decode cX11_partAmong 42 = .ok (.aload_n 0, 1) := by decide +kernel
theorem dX11_partAmong_43 : decode cX11_partAmong 43 = .ok (.getfield 36, 3) := by decide +kernel
theorem dX11_partAmong_46 : decode cX11_partAmong 46 = .ok (.iload 8, 2) := by decide +kernel
theorem dX11_partAmong_48 : decode cX11_partAmong 48 = .ok (.lload_n 1, 1) := by decide +kernel
theorem dX11_partAmong_49 : decode cX11_partAmong 49 = .ok (.aload_n 0, 1) := by decide +kernel
theorem dX11_partAmong_50 : decode cX11_partAmong 50 = .ok (.getfield 32, 3) := by decide +kernel
theorem dX11_partAmong_53 : decode cX11_partAmong 53 = .ok (.iload 8, 2) := by decide +kernel
theorem dX11_partAmong_55 : decode cX11_partAmong 55 = .ok (.laload, 1) := by decide +kernel
theorem dX11_partAmong_56 : decode cX11_partAmong 56 = .ok (.lmul, 1) := by decide +kernel
theorem dX11_partAmong_57 : decode cX11_partAmong 57 = .ok (.lload 4, 2) := by decide +kernel
theorem dX11_partAmong_59 : decode cX11_partAmong 59 = .ok (.ldiv, 1) := by decide +kernel
theorem dX11_partAmong_60 : decode cX11_partAmong 60 = .ok (.lastore, 1) := by decide +kernel
theorem dX11_partAmong_61 : decode cX11_partAmong 61 = .ok (.lload 6, 2) := by decide +kernel
theorem dX11_partAmong_63 : decode cX11_partAmong 63 = .ok (.aload_n 0, 1) := by decide +kernel
theorem dX11_partAmong_64 : decode cX11_partAmong 64 = .ok (.getfield 36, 3) := by decide +kernel
theorem dX11_partAmong_67 : decode cX11_partAmong 67 = .ok (.iload 8, 2) := by decide +kernel
theorem dX11_partAmong_69 : decode cX11_partAmong 69 = .ok (.laload, 1) := by decide +kernel
theorem dX11_partAmong_70 : decode cX11_partAmong 70 = .ok (.lsub, 1) := by decide +kernel
theorem dX11_partAmong_71 : decode cX11_partAmong 71 = .ok (.lstore 6, 2) := by decide +kernel
theorem dX11_partAmong_73 : decode cX11_partAmong 73 = .ok (.aload_n 0, 1) := by decide +kernel
theorem dX11_partAmong_74 : decode cX11_partAmong 74 = .ok (.getfield 39, 3) := by decide +kernel
theorem dX11_partAmong_77 : decode cX11_partAmong 77 = .ok (.iload 8, 2) := by decide +kernel
theorem dX11_partAmong_79 : decode cX11_partAmong 79 = .ok (.iconst 0, 1) := by decide +kernel
theorem dX11_partAmong_80 : decode cX11_partAmong 80 = .ok (.bastore, 1) := by decide +kernel
theorem dX11_partAmong_81 : decode cX11_partAmong 81 = .ok (.iinc 8 1, 3) := by decide +kernel
theorem dX11_partAmong_84 : decode cX11_partAmong 84 = .ok (.goto (-48), 3) := by decide +kernel
theorem dX11_partAmong_87 : decode cX11_partAmong 87 = .ok (.lload 6, 2) := by decide +kernel
theorem dX11_partAmong_89 : decode cX11_partAmong 89 = .ok (.lconst 0, 1) := by decide +kernel
theorem dX11_partAmong_90 : decode cX11_partAmong 90 = .ok (.lcmp, 1) := by decide +kernel
theorem dX11_partAmong_91 : decode cX11_partAmong 91 = .ok (.ifCond .le 98, 3) := by decide +kernel
theorem dX11_partAmong_94 : decode cX11_partAmong 94 = .ok (.iconst (-1), 1) := by decide +kernel
theorem dX11_partAmong_95 : decode cX11_partAmong 95 = .ok (.istore 8, 2) := by decide +kernel
theorem dX11_partAmong_97 : decode cX11_partAmong 97 = .ok (.lconst 0, 1) := by decide +kernel
theorem dX11_partAmong_98 : decode cX11_partAmong 98 = .ok (.lstore 9, 2) := by decide +kernel
theorem dX11_partAmong_100 : decode cX11_partAmong 100 = .ok (.iconst 0, 1) := by decide +kernel
theorem dX11_partAmong_101 : decode cX11_partAmong 101 = .ok (.istore 11, 2) := by decide +kernel
theorem dX11_partAmong_103 : decode cX11_partAmong 103 = .ok (.iload 11, 2) := by decide +kernel
theorem dX11_partAmong_105 : decode cX11_partAmong 105 = .ok (.iload_n 3, 1) := by decide +kernel
theorem dX11_partAmong_106 : decode cX11_partAmong 106 = .ok (.if_icmp .ge 55, 3) := by decide +kernel
theorem dX11_partAmong_109 : decode cX11_partAmong 109 = .ok (.lload_n 1, 1) := by decide +kernel
theorem dX11_partAmong_110 : decode cX11_partAmong 110 = .ok (.aload_n 0, 1) := by decide +kernel
theorem dX11_partAmong_111 : decode cX11_partAmong 111 = .ok (.getfield 32, 3) := by decide +kernel
theorem dX11_partAmong_114 : decode cX11_partAmong 114 = .ok (.iload 11, 2) := by decide +kernel
theorem dX11_partAmong_116 : decode cX11_partAmong 116 = .ok (.laload, 1) := by decide +kernel
theorem dX11_partAmong_117 : decode cX11_partAmong 117 = .ok (.lmul, 1) := by decide +kernel
theorem dX11_partAmong_118 : decode cX11_partAmong 118 = .ok (.lload 4, 2) := by decide +kernel
theorem dX11_partAmong_120 : decode cX11_partAmong 120 = .ok (.lrem, 1) := by decide +kernel
theorem dX11_partAmong_121 : decode cX11_partAmong 121 = .ok (.lstore 12, 2) := by decide +kernel
theorem dX11_partAmong_123 : decode cX11_partAmong 123 = .ok (.aload_n 0, 1) := by decide +kernel
theorem dX11_partAmong_124 : decode cX11_partAmong 124 = .ok (.getfield 39, 3) := by decide +kernel
theorem dX11_partAmong_127 : decode cX11_partAmong 127 = .ok (.iload 11, 2) := by decide +kernel
theorem dX11_partAmong_129 : decode cX11_partAmong 129 = .ok (.baload, 1) := by decide +kernel
theorem dX11_partAmong_130 : decode cX11_partAmong 130 = .ok (.ifCond .ne 25, 3) := by decide +kernel
theorem dX11_partAmong_133 : decode cX11_partAmong 133 = .ok (.iload 8, 2) := by decide +kernel
theorem dX11_partAmong_135 : decode cX11_partAmong 135 = .ok (.iconst (-1), 1) := by decide +kernel
theorem dX11_partAmong_136 : decode cX11_partAmong 136 = .ok (.if_icmp .eq 11, 3) := by decide +kernel
theorem dX11_partAmong_139 : decode cX11_partAmong 139 = .ok (.lload 12, 2) := by decide +kernel
theorem dX11_partAmong_141 : decode cX11_partAmong 141 = .ok (.lload 9, 2) := by decide +kernel
theorem dX11_partAmong_143 : decode cX11_partAmong 143 = .ok (.lcmp, 1) := by decide +kernel
theorem dX11_partAmong_144 : decode cX11_partAmong 144 = .ok (.ifCond .le 11, 3) := by decide +kernel
theorem dX11_partAmong_147 : decode cX11_partAmong 147 = .ok (.iload 11, 2) := by decide +kernel
theorem dX11_partAmong_149 : decode cX11_partAmong 149 = .ok (.istore 8, 2) := by decide +kernel
theorem dX11_partAmong_151 : decode cX11_partAmong 151 = .ok (.lload 12, 2) := by decide +kernel
theorem dX11_partAmong_153 : decode cX11_partAmong 153 = .ok (.lstore 9, 2) := by decide +kernel
theorem dX11_partAmong_155 : decode cX11_partAmong 155 = .ok (.iinc 11 1, 3) := by decide +kernel
theorem dX11_partAmong_158 : decode cX11_partAmong 158 = .ok (.goto (-55), 3) := by decide +kernel
theorem dX11_partAmong_161 : decode cX11_partAmong 161 = .ok (.aload_n 0, 1) := by decide +kernel
theorem dX11_partAmong_162 : decode cX11_partAmong 162 = .ok (.getfield 39, 3) := by decide +kernel
theorem dX11_partAmong_165 : decode cX11_partAmong 165 = .ok (.iload 8, 2) := by decide +kernel
theorem dX11_partAmong_167 : decode cX11_partAmong 167 = .ok (.iconst 1, 1) := by decide +kernel
theorem dX11_partAmong_168 : decode cX11_partAmong 168 = .ok (.bastore, 1) := by decide +kernel
theorem dX11_partAmong_169 : decode cX11_partAmong 169 = .ok (.aload_n 0, 1) := by decide +kernel
theorem dX11_partAmong_170 : decode cX11_partAmong 170 = .ok (.getfield 36, 3) := by decide +kernel
theorem dX11_partAmong_173 : decode cX11_partAmong 173 = .ok (.iload 8, 2) := by decide +kernel
theorem dX11_partAmong_175 : decode cX11_partAmong 175 = .ok (.dup2, 1) := by decide +kernel
theorem dX11_partAmong_176 : decode cX11_partAmong 176 = .ok (.laload, 1) := by decide +kernel
theorem dX11_partAmong_177 : decode cX11_partAmong 177 = .ok (.lconst 1, 1) := by decide +kernel
theorem dX11_partAmong_178 : decode cX11_partAmong 178 = .ok (.ladd, 1) := by decide +kernel
theorem dX11_partAmong_179 : decode cX11_partAmong 179 = .ok (.lastore, 1) := by decide +kernel
theorem dX11_partAmong_180 : decode cX11_partAmong 180 = .ok (.lload 6, 2) := by decide +kernel
theorem dX11_partAmong_182 : decode cX11_partAmong 182 = .ok (.lconst 1, 1) := by decide +kernel
theorem dX11_partAmong_183 : decode cX11_partAmong 183 = .ok (.lsub, 1) := by decide +kernel
theorem dX11_partAmong_184 : decode cX11_partAmong 184 = .ok (.lstore 6, 2) := by decide +kernel
theorem dX11_partAmong_186 : decode cX11_partAmong 186 = .ok (.goto (-99), 3) := by decide +kernel
theorem dX11_partAmong_189 : decode cX11_partAmong 189 = .ok (.return_, 1) := by decide +kernel
theorem dX11_vessel_0 : decode cX11_vessel 0 = .ok (.iload_n 1, 1) := by decide +kernel
theorem dX11_vessel_1 : decode cX11_vessel 1 = .ok (.iconst 0, 1) := by decide +kernel
theorem dX11_vessel_2 : decode cX11_vessel 2 = .ok (.iconst 3, 1) := by decide +kernel
theorem dX11_vessel_3 : decode cX11_vessel 3 = .ok (.invokestatic 115, 3) := by decide +kernel
theorem dX11_vessel_6 : decode cX11_vessel 6 = .ok (.ifCond .eq 12, 3) := by decide +kernel
theorem dX11_vessel_9 : decode cX11_vessel 9 = .ok (.aload_n 0, 1) := by decide +kernel
theorem dX11_vessel_10 : decode cX11_vessel 10 = .ok (.getfield 111, 3) := by decide +kernel
theorem dX11_vessel_13 : decode cX11_vessel 13 = .ok (.bipush 100, 2) := by decide +kernel
theorem dX11_vessel_15 : decode cX11_vessel 15 = .ok (.if_icmp .ne 5, 3) := by decide +kernel
theorem dX11_vessel_18 : decode cX11_vessel 18 = .ok (.iconst (-1), 1) := by decide +kernel
theorem dX11_vessel_19 : decode cX11_vessel 19 = .ok (.ireturn, 1) := by decide +kernel
theorem dX11_vessel_20 : decode cX11_vessel 20 = .ok (.aload_n 0, 1) := by decide +kernel
theorem dX11_vessel_21 : decode cX11_vessel 21 = .ok (.getfield 9, 3) := by decide +kernel
theorem dX11_vessel_24 : decode cX11_vessel 24 = .ok (.aload_n 0, 1) := by decide +kernel
theorem dX11_vessel_25 : decode cX11_vessel 25 = .ok (.getfield 111, 3) := by decide +kernel
theorem dX11_vessel_28 : decode cX11_vessel 28 = .ok (.iload_n 1, 1) := by decide +kernel
theorem dX11_vessel_29 : decode cX11_vessel 29 = .ok (.iastore, 1) := by decide +kernel
theorem dX11_vessel_30 : decode cX11_vessel 30 = .ok (.aload_n 0, 1) := by decide +kernel
theorem dX11_vessel_31 : decode cX11_vessel 31 = .ok (.dup, 1) := by decide +kernel
theorem dX11_vessel_32 : decode cX11_vessel 32 = .ok (.getfield 111, 3) := by decide +kernel
theorem dX11_vessel_35 : decode cX11_vessel 35 = .ok (.iconst 1, 1) := by decide +kernel
theorem dX11_vessel_36 : decode cX11_vessel 36 = .ok (.iadd, 1) := by decide +kernel
theorem dX11_vessel_37 : decode cX11_vessel 37 = .ok (.putfield 111, 3) := by decide +kernel
theorem dX11_vessel_40 : decode cX11_vessel 40 = .ok (.aload_n 0, 1) := by decide +kernel
theorem dX11_vessel_41 : decode cX11_vessel 41 = .ok (.getfield 111, 3) := by decide +kernel
theorem dX11_vessel_44 : decode cX11_vessel 44 = .ok (.iconst 1, 1) := by decide +kernel
theorem dX11_vessel_45 : decode cX11_vessel 45 = .ok (.isub, 1) := by decide +kernel
theorem dX11_vessel_46 : decode cX11_vessel 46 = .ok (.ireturn, 1) := by decide +kernel
theorem dX11_buy_0 : decode cX11_buy 0 = .ok (.aload_n 0, 1) := by decide +kernel
theorem dX11_buy_1 : decode cX11_buy 1 = .ok (.iload_n 1, 1) := by decide +kernel
theorem dX11_buy_2 : decode cX11_buy 2 = .ok (.iconst 0, 1) := by decide +kernel
theorem dX11_buy_3 : decode cX11_buy 3 = .ok (.invokevirtual 128, 3) := by decide +kernel
theorem dX11_buy_6 : decode cX11_buy 6 = .ok (.ifCond .eq 47, 3) := by decide +kernel
theorem dX11_buy_9 : decode cX11_buy 9 = .ok (.iload_n 2, 1) := by decide +kernel
theorem dX11_buy_10 : decode cX11_buy 10 = .ok (.iconst 0, 1) := by decide +kernel
theorem dX11_buy_11 : decode cX11_buy 11 = .ok (.bipush 59, 2) := by decide +kernel
theorem dX11_buy_13 : decode cX11_buy 13 = .ok (.invokestatic 115, 3) := by decide +kernel
theorem dX11_buy_16 : decode cX11_buy 16 = .ok (.ifCond .eq 37, 3) := by decide +kernel
theorem dX11_buy_19 : decode cX11_buy 19 = .ok (.iload_n 3, 1) := by decide +kernel
theorem dX11_buy_20 : decode cX11_buy 20 = .ok (.iconst 1, 1) := by decide +kernel
theorem dX11_buy_21 : decode cX11_buy 21 = .ok (.ldc 132, 2) := by decide +kernel
theorem dX11_buy_23 : decode cX11_buy 23 = .ok (.invokestatic 115, 3) := by decide +kernel
theorem dX11_buy_26 : decode cX11_buy 26 = .ok (.ifCond .eq 27, 3) := by decide +kernel
theorem dX11_buy_29 : decode cX11_buy 29 = .ok (.iload 4, 2) := by decide +kernel
theorem dX11_buy_31 : decode cX11_buy 31 = .ok (.iconst 0, 1) := by decide +kernel
theorem dX11_buy_32 : decode cX11_buy 32 = .ok (.sipush 900, 3) := by decide +kernel
theorem dX11_buy_35 : decode cX11_buy 35 = .ok (.invokestatic 115, 3) := by decide +kernel
theorem dX11_buy_38 : decode cX11_buy 38 = .ok (.ifCond .eq 15, 3) := by decide +kernel
theorem dX11_buy_41 : decode cX11_buy 41 = .ok (.aload_n 0, 1) := by decide +kernel
theorem dX11_buy_42 : decode cX11_buy 42 = .ok (.iload_n 1, 1) := by decide +kernel
theorem dX11_buy_43 : decode cX11_buy 43 = .ok (.invokevirtual 123, 3) := by decide +kernel
theorem dX11_buy_46 : decode cX11_buy 46 = .ok (.iload_n 3, 1) := by decide +kernel
theorem dX11_buy_47 : decode cX11_buy 47 = .ok (.iadd, 1) := by decide +kernel
theorem dX11_buy_48 : decode cX11_buy 48 = .ok (.ldc 133, 2) := by decide +kernel
theorem dX11_buy_50 : decode cX11_buy 50 = .ok (.if_icmp .le 5, 3) := by decide +kernel
theorem dX11_buy_53 : decode cX11_buy 53 = .ok (.iconst (-1), 1) := by decide +kernel
theorem dX11_buy_54 : decode cX11_buy 54 = .ok (.ireturn, 1) := by decide +kernel
theorem dX11_buy_55 : decode cX11_buy 55 = .ok (.iload_n 3, 1) := by decide +kernel
theorem dX11_buy_56 : decode cX11_buy 56 = .ok (.i2l, 1) := by decide +kernel
theorem dX11_buy_57 : decode cX11_buy 57 = .ok (.iload 4, 2) := by decide +kernel
theorem dX11_buy_59 : decode cX11_buy 59 = .ok (.i2l, 1) := by decide +kernel
theorem dX11_buy_60 : decode cX11_buy 60 = .ok (.lmul, 1) := by decide +kernel
theorem dX11_buy_61 : decode cX11_buy 61 = .ok (.ldc2_w 126, 3) := by decide +kernel
theorem dX11_buy_64 : decode cX11_buy 64 = .ok (.ldiv, 1) := by decide +kernel
theorem dX11_buy_65 : decode cX11_buy 65 = .ok (.l2i, 1) := by decide +kernel
theorem dX11_buy_66 : decode cX11_buy 66 = .ok (.istore 5, 2) := by decide +kernel
theorem dX11_buy_68 : decode cX11_buy 68 = .ok (.aload_n 0, 1) := by decide +kernel
theorem dX11_buy_69 : decode cX11_buy 69 = .ok (.getfield 16, 3) := by decide +kernel
theorem dX11_buy_72 : decode cX11_buy 72 = .ok (.iload_n 1, 1) := by decide +kernel
theorem dX11_buy_73 : decode cX11_buy 73 = .ok (.dup2, 1) := by decide +kernel
theorem dX11_buy_74 : decode cX11_buy 74 = .ok (.iaload, 1) := by decide +kernel
theorem dX11_buy_75 : decode cX11_buy 75 = .ok (.iload 5, 2) := by decide +kernel
theorem dX11_buy_77 : decode cX11_buy 77 = .ok (.iadd, 1) := by decide +kernel
theorem dX11_buy_78 : decode cX11_buy 78 = .ok (.iastore, 1) := by decide +kernel
theorem dX11_buy_79 : decode cX11_buy 79 = .ok (.aload_n 0, 1) := by decide +kernel
theorem dX11_buy_80 : decode cX11_buy 80 = .ok (.getfield 13, 3) := by decide +kernel
theorem dX11_buy_83 : decode cX11_buy 83 = .ok (.bipush 60, 2) := by decide +kernel
theorem dX11_buy_85 : decode cX11_buy 85 = .ok (.iload_n 1, 1) := by decide +kernel
theorem dX11_buy_86 : decode cX11_buy 86 = .ok (.imul, 1) := by decide +kernel
theorem dX11_buy_87 : decode cX11_buy 87 = .ok (.iload_n 2, 1) := by decide +kernel
theorem dX11_buy_88 : decode cX11_buy 88 = .ok (.iadd, 1) := by decide +kernel
theorem dX11_buy_89 : decode cX11_buy 89 = .ok (.dup2, 1) := by decide +kernel
theorem dX11_buy_90 : decode cX11_buy 90 = .ok (.iaload, 1) := by decide +kernel
theorem dX11_buy_91 : decode cX11_buy 91 = .ok (.iload_n 3, 1) := by decide +kernel
theorem dX11_buy_92 : decode cX11_buy 92 = .ok (.iload 5, 2) := by decide +kernel
theorem dX11_buy_94 : decode cX11_buy 94 = .ok (.isub, 1) := by decide +kernel
theorem dX11_buy_95 : decode cX11_buy 95 = .ok (.iadd, 1) := by decide +kernel
theorem dX11_buy_96 : decode cX11_buy 96 = .ok (.iastore, 1) := by decide +kernel
theorem dX11_buy_97 : decode cX11_buy 97 = .ok (.aload_n 0, 1) := by decide +kernel
theorem dX11_buy_98 : decode cX11_buy 98 = .ok (.dup, 1) := by decide +kernel
theorem dX11_buy_99 : decode cX11_buy 99 = .ok (.getfield 134, 3) := by decide +kernel
theorem dX11_buy_102 : decode cX11_buy 102 = .ok (.iload_n 3, 1) := by decide +kernel
theorem dX11_buy_103 : decode cX11_buy 103 = .ok (.iload 5, 2) := by decide +kernel
theorem dX11_buy_105 : decode cX11_buy 105 = .ok (.isub, 1) := by decide +kernel
theorem dX11_buy_106 : decode cX11_buy 106 = .ok (.i2l, 1) := by decide +kernel
theorem dX11_buy_107 : decode cX11_buy 107 = .ok (.ladd, 1) := by decide +kernel
theorem dX11_buy_108 : decode cX11_buy 108 = .ok (.putfield 134, 3) := by decide +kernel
theorem dX11_buy_111 : decode cX11_buy 111 = .ok (.aload_n 0, 1) := by decide +kernel
theorem dX11_buy_112 : decode cX11_buy 112 = .ok (.iload_n 1, 1) := by decide +kernel
theorem dX11_buy_113 : decode cX11_buy 113 = .ok (.invokevirtual 123, 3) := by decide +kernel
theorem dX11_buy_116 : decode cX11_buy 116 = .ok (.ireturn, 1) := by decide +kernel
