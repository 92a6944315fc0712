theorem dX11_worked_0 : decode cX11_worked 0 = .ok (.iload_n 1, 1) := by decide +kernel
theorem dX11_worked_1 : decode cX11_worked 1 = .ok (.iconst (-1), 1) := by decide +kernel
theorem dX11_worked_2 : decode cX11_worked 2 = .ok (.if_icmp .ne 5, 3) := by decide +kernel
theorem dX11_worked_5 : decode cX11_worked 5 = .ok (.lload_n 2, 1) := by decide +kernel
theorem dX11_worked_6 : decode cX11_worked 6 = .ok (.lreturn, 1) := by decide +kernel
theorem dX11_worked_7 : decode cX11_worked 7 = .ok (.iconst 0, 1) := by decide +kernel
theorem dX11_worked_8 : decode cX11_worked 8 = .ok (.istore 8, 2) := by decide +kernel
theorem dX11_worked_10 : decode cX11_worked 10 = .ok (.sipush 420, 3) := by decide +kernel
theorem dX11_worked_13 : decode cX11_worked 13 = .ok (.iload_n 1, 1) := by decide +kernel
theorem dX11_worked_14 : decode cX11_worked 14 = .ok (.imul, 1) := by decide +kernel
theorem dX11_worked_15 : decode cX11_worked 15 = .ok (.istore 9, 2) := by decide +kernel
theorem dX11_worked_17 : decode cX11_worked 17 = .ok (.aload_n 0, 1) := by decide +kernel
theorem dX11_worked_18 : decode cX11_worked 18 = .ok (.getfield 45, 3) := by decide +kernel
theorem dX11_worked_21 : decode cX11_worked 21 = .ok (.iload 9, 2) := by decide +kernel
theorem dX11_worked_23 : decode cX11_worked 23 = .ok (.iaload, 1) := by decide +kernel
theorem dX11_worked_24 : decode cX11_worked 24 = .ok (.bipush 7, 2) := by decide +kernel
theorem dX11_worked_26 : decode cX11_worked 26 = .ok (.if_icmp .eq 156, 3) := by decide +kernel
theorem dX11_worked_29 : decode cX11_worked 29 = .ok (.aload_n 0, 1) := by decide +kernel
theorem dX11_worked_30 : decode cX11_worked 30 = .ok (.getfield 45, 3) := by decide +kernel
theorem dX11_worked_33 : decode cX11_worked 33 = .ok (.iload 9, 2) := by decide +kernel
theorem dX11_worked_35 : decode cX11_worked 35 = .ok (.iaload, 1) := by decide +kernel
theorem dX11_worked_36 : decode cX11_worked 36 = .ok (.istore 10, 2) := by decide +kernel
theorem dX11_worked_38 : decode cX11_worked 38 = .ok (.iinc 9 1, 3) := by decide +kernel
theorem dX11_worked_41 : decode cX11_worked 41 = .ok (.iload 10, 2) := by decide +kernel
theorem dX11_worked_43 : decode cX11_worked 43 = .ok (.iconst 4, 1) := by decide +kernel
theorem dX11_worked_44 : decode cX11_worked 44 = .ok (.if_icmp .ge 70, 3) := by decide +kernel
theorem dX11_worked_47 : decode cX11_worked 47 = .ok (.aload_n 0, 1) := by decide +kernel
theorem dX11_worked_48 : decode cX11_worked 48 = .ok (.getfield 57, 3) := by decide +kernel
theorem dX11_worked_51 : decode cX11_worked 51 = .ok (.iload 8, 2) := by decide +kernel
theorem dX11_worked_53 : decode cX11_worked 53 = .ok (.iload 10, 2) := by decide +kernel
theorem dX11_worked_55 : decode cX11_worked 55 = .ok (.ifCond .ne 14, 3) := by decide +kernel
theorem dX11_worked_58 : decode cX11_worked 58 = .ok (.aload_n 0, 1) := by decide +kernel
theorem dX11_worked_59 : decode cX11_worked 59 = .ok (.getfield 45, 3) := by decide +kernel
theorem dX11_worked_62 : decode cX11_worked 62 = .ok (.iload 9, 2) := by decide +kernel
theorem dX11_worked_64 : decode cX11_worked 64 = .ok (.iaload, 1) := by decide +kernel
theorem dX11_worked_65 : decode cX11_worked 65 = .ok (.i2l, 1) := by decide +kernel
theorem dX11_worked_66 : decode cX11_worked 66 = .ok (.goto 26, 3) := by decide +kernel
theorem dX11_worked_69 : decode cX11_worked 69 = .ok (.iload 10, 2) := by decide +kernel
theorem dX11_worked_71 : decode cX11_worked 71 = .ok (.iconst 1, 1) := by decide +kernel
theorem dX11_worked_72 : decode cX11_worked 72 = .ok (.if_icmp .ne 7, 3) := by decide +kernel
theorem dX11_worked_75 : decode cX11_worked 75 = .ok (.lload_n 2, 1) := by decide +kernel
theorem dX11_worked_76 : decode cX11_worked 76 = .ok (.goto 16, 3) := by decide +kernel
theorem dX11_worked_79 : decode cX11_worked 79 = .ok (.iload 10, 2) := by decide +kernel
theorem dX11_worked_81 : decode cX11_worked 81 = .ok (.iconst 2, 1) := by decide +kernel
theorem dX11_worked_82 : decode cX11_worked 82 = .ok (.if_icmp .ne 8, 3) := by decide +kernel
theorem dX11_worked_85 : decode cX11_worked 85 = .ok (.lload 4, 2) := by decide +kernel
theorem dX11_worked_87 : decode cX11_worked 87 = .ok (.goto 5, 3) := by decide +kernel
theorem dX11_worked_90 : decode cX11_worked 90 = .ok (.lload 6, 2) := by decide +kernel
theorem dX11_worked_92 : decode cX11_worked 92 = .ok (.lastore, 1) := by decide +kernel
theorem dX11_worked_93 : decode cX11_worked 93 = .ok (.iload 9, 2) := by decide +kernel
theorem dX11_worked_95 : decode cX11_worked 95 = .ok (.iload 10, 2) := by decide +kernel
theorem dX11_worked_97 : decode cX11_worked 97 = .ok (.ifCond .ne 7, 3) := by decide +kernel
theorem dX11_worked_100 : decode cX11_worked 100 = .ok (.iconst 1, 1) := by decide +kernel
theorem dX11_worked_101 : decode cX11_worked 101 = .ok (.goto 4, 3) := by decide +kernel
theorem dX11_worked_104 : decode cX11_worked 104 = .ok (.iconst 0, 1) := by decide +kernel
theorem dX11_worked_105 : decode cX11_worked 105 = .ok (.iadd, 1) := by decide +kernel
theorem dX11_worked_106 : decode cX11_worked 106 = .ok (.istore 9, 2) := by decide +kernel
theorem dX11_worked_108 : decode cX11_worked 108 = .ok (.iinc 8 1, 3) := by decide +kernel
theorem dX11_worked_111 : decode cX11_worked 111 = .ok (.goto 68, 3) := by decide +kernel
theorem dX11_worked_114 : decode cX11_worked 114 = .ok (.iinc 8 (-1), 3) := by decide +kernel
theorem dX11_worked_117 : decode cX11_worked 117 = .ok (.aload_n 0, 1) := by decide +kernel
theorem dX11_worked_118 : decode cX11_worked 118 = .ok (.getfield 57, 3) := by decide +kernel
theorem dX11_worked_121 : decode cX11_worked 121 = .ok (.iload 8, 2) := by decide +kernel
theorem dX11_worked_123 : decode cX11_worked 123 = .ok (.iconst 1, 1) := by decide +kernel
theorem dX11_worked_124 : decode cX11_worked 124 = .ok (.isub, 1) := by decide +kernel
theorem dX11_worked_125 : decode cX11_worked 125 = .ok (.laload, 1) := by decide +kernel
theorem dX11_worked_126 : decode cX11_worked 126 = .ok (.lstore 11, 2) := by decide +kernel
theorem dX11_worked_128 : decode cX11_worked 128 = .ok (.aload_n 0, 1) := by decide +kernel
theorem dX11_worked_129 : decode cX11_worked 129 = .ok (.getfield 57, 3) := by decide +kernel
theorem dX11_worked_132 : decode cX11_worked 132 = .ok (.iload 8, 2) := by decide +kernel
theorem dX11_worked_134 : decode cX11_worked 134 = .ok (.laload, 1) := by decide +kernel
theorem dX11_worked_135 : decode cX11_worked 135 = .ok (.lstore 13, 2) := by decide +kernel
theorem dX11_worked_137 : decode cX11_worked 137 = .ok (.aload_n 0, 1) := by decide +kernel
theorem dX11_worked_138 : decode cX11_worked 138 = .ok (.getfield 57, 3) := by decide +kernel
theorem dX11_worked_141 : decode cX11_worked 141 = .ok (.iload 8, 2) := by decide +kernel
theorem dX11_worked_143 : decode cX11_worked 143 = .ok (.iconst 1, 1) := by decide +kernel
theorem dX11_worked_144 : decode cX11_worked 144 = .ok (.isub, 1) := by decide +kernel
theorem dX11_worked_145 : decode cX11_worked 145 = .ok (.iload 10, 2) := by decide +kernel
theorem dX11_worked_147 : decode cX11_worked 147 = .ok (.iconst 4, 1) := by decide +kernel
theorem dX11_worked_148 : decode cX11_worked 148 = .ok (.if_icmp .ne 11, 3) := by decide +kernel
theorem dX11_worked_151 : decode cX11_worked 151 = .ok (.lload 11, 2) := by decide +kernel
theorem dX11_worked_153 : decode cX11_worked 153 = .ok (.lload 13, 2) := by decide +kernel
theorem dX11_worked_155 : decode cX11_worked 155 = .ok (.ladd, 1) := by decide +kernel
theorem dX11_worked_156 : decode cX11_worked 156 = .ok (.goto 22, 3) := by decide +kernel
theorem dX11_worked_159 : decode cX11_worked 159 = .ok (.iload 10, 2) := by decide +kernel
theorem dX11_worked_161 : decode cX11_worked 161 = .ok (.iconst 5, 1) := by decide +kernel
theorem dX11_worked_162 : decode cX11_worked 162 = .ok (.if_icmp .ne 11, 3) := by decide +kernel
theorem dX11_worked_165 : decode cX11_worked 165 = .ok (.lload 11, 2) := by decide +kernel
theorem dX11_worked_167 : decode cX11_worked 167 = .ok (.lload 13, 2) := by decide +kernel
theorem dX11_worked_169 : decode cX11_worked 169 = .ok (.lsub, 1) := by decide +kernel
theorem dX11_worked_170 : decode cX11_worked 170 = .ok (.goto 8, 3) := by decide +kernel
theorem dX11_worked_173 : decode cX11_worked 173 = .ok (.lload 11, 2) := by decide +kernel
theorem dX11_worked_175 : decode cX11_worked 175 = .ok (.lload 13, 2) := by decide +kernel
theorem dX11_worked_177 : decode cX11_worked 177 = .ok (.lmul, 1) := by decide +kernel
theorem dX11_worked_178 : decode cX11_worked 178 = .ok (.lastore, 1) := by decide +kernel
theorem dX11_worked_179 : decode cX11_worked 179 = .ok (.goto (-162), 3) := by decide +kernel
theorem dX11_worked_182 : decode cX11_worked 182 = .ok (.aload_n 0, 1) := by decide +kernel
theorem dX11_worked_183 : decode cX11_worked 183 = .ok (.getfield 57, 3) := by decide +kernel
theorem dX11_worked_186 : decode cX11_worked 186 = .ok (.iconst 0, 1) := by decide +kernel
theorem dX11_worked_187 : decode cX11_worked 187 = .ok (.laload, 1) := by decide +kernel
theorem dX11_worked_188 : decode cX11_worked 188 = .ok (.lstore 10, 2) := by decide +kernel
theorem dX11_worked_190 : decode cX11_worked 190 = .ok (.lload 10, 2) := by decide +kernel
theorem dX11_worked_192 : decode cX11_worked 192 = .ok (.lconst 0, 1) := by decide +kernel
theorem dX11_worked_193 : decode cX11_worked 193 = .ok (.lcmp, 1) := by decide +kernel
theorem dX11_worked_194 : decode cX11_worked 194 = .ok (.ifCond .ge 7, 3) := by decide +kernel
theorem dX11_worked_197 : decode cX11_worked 197 = .ok (.lconst 0, 1) := by decide +kernel
theorem dX11_worked_198 : decode cX11_worked 198 = .ok (.goto 20, 3) := by decide +kernel
theorem dX11_worked_201 : decode cX11_worked 201 = .ok (.lload 10, 2) := by decide +kernel
theorem dX11_worked_203 : decode cX11_worked 203 = .ok (.ldc2_w 210, 3) := by decide +kernel
theorem dX11_worked_206 : decode cX11_worked 206 = .ok (.lcmp, 1) := by decide +kernel
theorem dX11_worked_207 : decode cX11_worked 207 = .ok (.ifCond .le 9, 3) := by decide +kernel
theorem dX11_worked_210 : decode cX11_worked 210 = .ok (.ldc2_w 210, 3) := by decide +kernel
theorem dX11_worked_213 : decode cX11_worked 213 = .ok (.goto 5, 3) := by decide +kernel
theorem dX11_worked_216 : decode cX11_worked 216 = .ok (.lload 10, 2) := by decide +kernel
theorem dX11_worked_218 : decode cX11_worked 218 = .ok (.lreturn, 1) := by decide +kernel
theorem dX11_longer_0 : decode cX11_longer 0 = .ok (.iconst 2, 1) := by decide +kernel
theorem dX11_longer_1 : decode cX11_longer 1 = .ok (.aload_n 0, 1) := by decide +kernel
theorem dX11_longer_2 : decode cX11_longer 2 = .ok (.arraylength, 1) := by decide +kernel
theorem dX11_longer_3 : decode cX11_longer 3 = .ok (.imul, 1) := by decide +kernel
theorem dX11_longer_4 : decode cX11_longer 4 = .ok (.newarray .int, 2) := by decide +kernel
theorem dX11_longer_6 : decode cX11_longer 6 = .ok (.astore_n 1, 1) := by decide +kernel
theorem dX11_longer_7 : decode cX11_longer 7 = .ok (.iconst 0, 1) := by decide +kernel
theorem dX11_longer_8 : decode cX11_longer 8 = .ok (.istore_n 2, 1) := by decide +kernel
theorem dX11_longer_9 : decode cX11_longer 9 = .ok (.iload_n 2, 1) := by decide +kernel
theorem dX11_longer_10 : decode cX11_longer 10 = .ok (.aload_n 0, 1) := by decide +kernel
theorem dX11_longer_11 : decode cX11_longer 11 = .ok (.arraylength, 1) := by decide +kernel
theorem dX11_longer_12 : decode cX11_longer 12 = .ok (.if_icmp .ge 15, 3) := by decide +kernel
theorem dX11_longer_15 : decode cX11_longer 15 = .ok (.aload_n 1, 1) := by decide +kernel
theorem dX11_longer_16 : decode cX11_longer 16 = .ok (.iload_n 2, 1) := by decide +kernel
theorem dX11_longer_17 : decode cX11_longer 17 = .ok (.aload_n 0, 1) := by decide +kernel
theorem dX11_longer_18 : decode cX11_longer 18 = .ok (.iload_n 2, 1) := by decide +kernel
theorem dX11_longer_19 : decode cX11_longer 19 = .ok (.iaload, 1) := by decide +kernel
theorem dX11_longer_20 : decode cX11_longer 20 = .ok (.iastore, 1) := by decide +kernel
theorem dX11_longer_21 : decode cX11_longer 21 = .ok (.iinc 2 1, 3) := by decide +kernel
theorem dX11_longer_24 : decode cX11_longer 24 = .ok (.goto (-15), 3) := by decide +kernel
theorem dX11_longer_27 : decode cX11_longer 27 = .ok (.aload_n 1, 1) := by decide +kernel
theorem dX11_longer_28 : decode cX11_longer 28 = .ok (.areturn, 1) := by decide +kernel
theorem dX11_enter_0 : decode cX11_enter 0 = .ok (.aload_n 0, 1) := by decide +kernel
theorem dX11_enter_1 : decode cX11_enter 1 = .ok (.getfield 212, 3) := by decide +kernel
theorem dX11_enter_4 : decode cX11_enter 4 = .ok (.aload_n 0, 1) := by decide +kernel
theorem dX11_enter_5 : decode cX11_enter 5 = .ok (.getfield 81, 3) := by decide +kernel
theorem dX11_enter_8 : decode cX11_enter 8 = .ok (.arraylength, 1) := by decide +kernel
theorem dX11_enter_9 : decode cX11_enter 9 = .ok (.if_icmp .ne 47, 3) := by decide +kernel
theorem dX11_enter_12 : decode cX11_enter 12 = .ok (.aload_n 0, 1) := by decide +kernel
theorem dX11_enter_13 : decode cX11_enter 13 = .ok (.aload_n 0, 1) := by decide +kernel
theorem dX11_enter_14 : decode cX11_enter 14 = .ok (.getfield 81, 3) := by decide +kernel
theorem dX11_enter_17 : decode cX11_enter 17 = .ok (.invokestatic 215, 3) := by decide +kernel
theorem dX11_enter_20 : decode cX11_enter 20 = .ok (.putfield 81, 3) := by decide +kernel
theorem dX11_enter_23 : decode cX11_enter 23 = .ok (.aload_n 0, 1) := by decide +kernel
theorem dX11_enter_24 : decode cX11_enter 24 = .ok (.aload_n 0, 1) := by decide +kernel
theorem dX11_enter_25 : decode cX11_enter 25 = .ok (.getfield 84, 3) := by decide +kernel
theorem dX11_enter_28 : decode cX11_enter 28 = .ok (.invokestatic 215, 3) := by decide +kernel
theorem dX11_enter_31 : decode cX11_enter 31 = .ok (.putfield 84, 3) := by decide +kernel
theorem dX11_enter_34 : decode cX11_enter 34 = .ok (.aload_n 0, 1) := by decide +kernel
theorem dX11_enter_35 : decode cX11_enter 35 = .ok (.aload_n 0, 1) := by decide +kernel
theorem dX11_enter_36 : decode cX11_enter 36 = .ok (.getfield 87, 3) := by decide +kernel
theorem dX11_enter_39 : decode cX11_enter 39 = .ok (.invokestatic 215, 3) := by decide +kernel
theorem dX11_enter_42 : decode cX11_enter 42 = .ok (.putfield 87, 3) := by decide +kernel
theorem dX11_enter_45 : decode cX11_enter 45 = .ok (.aload_n 0, 1) := by decide +kernel
theorem dX11_enter_46 : decode cX11_enter 46 = .ok (.aload_n 0, 1) := by decide +kernel
theorem dX11_enter_47 : decode cX11_enter 47 = .ok (.getfield 90, 3) := by decide +kernel
theorem dX11_enter_50 : decode cX11_enter 50 = .ok (.invokestatic 215, 3) := by decide +kernel
theorem dX11_enter_53 : decode cX11_enter 53 = .ok (.putfield 90, 3) := by decide +kernel
theorem dX11_enter_56 : decode cX11_enter 56 = .ok (.aload_n 0, 1) := by decide +kernel
theorem dX11_enter_57 : decode cX11_enter 57 = .ok (.getfield 81, 3) := by decide +kernel
theorem dX11_enter_60 : decode cX11_enter 60 = .ok (.aload_n 0, 1) := by decide +kernel
theorem dX11_enter_61 : decode cX11_enter 61 = .ok (.getfield 212, 3) := by decide +kernel
theorem dX11_enter_64 : decode cX11_enter 64 = .ok (.aload_n 0, 1) := by decide +kernel
theorem dX11_enter_65 : decode cX11_enter 65 = .ok (.getfield 159, 3) := by decide +kernel
theorem dX11_enter_68 : decode cX11_enter 68 = .ok (.iastore, 1) := by decide +kernel
theorem dX11_enter_69 : decode cX11_enter 69 = .ok (.aload_n 0, 1) := by decide +kernel
theorem dX11_enter_70 : decode cX11_enter 70 = .ok (.getfield 84, 3) := by decide +kernel
theorem dX11_enter_73 : decode cX11_enter 73 = .ok (.aload_n 0, 1) := by decide +kernel
theorem dX11_enter_74 : decode cX11_enter 74 = .ok (.getfield 212, 3) := by decide +kernel
theorem dX11_enter_77 : decode cX11_enter 77 = .ok (.iload_n 1, 1) := by decide +kernel
theorem dX11_enter_78 : decode cX11_enter 78 = .ok (.iastore, 1) := by decide +kernel
theorem dX11_enter_79 : decode cX11_enter 79 = .ok (.aload_n 0, 1) := by decide +kernel
theorem dX11_enter_80 : decode cX11_enter 80 = .ok (.getfield 87, 3) := by decide +kernel
theorem dX11_enter_83 : decode cX11_enter 83 = .ok (.aload_n 0, 1) := by decide +kernel
theorem dX11_enter_84 : decode cX11_enter 84 = .ok (.getfield 212, 3) := by decide +kernel
theorem dX11_enter_87 : decode cX11_enter 87 = .ok (.iload_n 2, 1) := by decide +kernel
theorem dX11_enter_88 : decode cX11_enter 88 = .ok (.iastore, 1) := by decide +kernel
theorem dX11_enter_89 : decode cX11_enter 89 = .ok (.aload_n 0, 1) := by decide +kernel
theorem dX11_enter_90 : decode cX11_enter 90 = .ok (.getfield 90, 3) := by decide +kernel
theorem dX11_enter_93 : decode cX11_enter 93 = .ok (.aload_n 0, 1) := by decide +kernel
theorem dX11_enter_94 : decode cX11_enter 94 = .ok (.getfield 212, 3) := by decide +kernel
theorem dX11_enter_97 : decode cX11_enter 97 = .ok (.iload_n 3, 1) := by decide +kernel
theorem dX11_enter_98 : decode cX11_enter 98 = .ok (.iastore, 1) := by decide +kernel
theorem dX11_enter_99 : decode cX11_enter 99 = .ok (.aload_n 0, 1) := by decide +kernel
theorem dX11_enter_100 : decode cX11_enter 100 = .ok (.dup, 1) := by decide +kernel
theorem dX11_enter_101 : decode cX11_enter 101 = .ok (.getfield 212, 3) := by decide +kernel
theorem dX11_enter_104 : decode cX11_enter 104 = .ok (.iconst 1, 1) := by decide +kernel
theorem dX11_enter_105 : decode cX11_enter 105 = .ok (.iadd, 1) := by decide +kernel
theorem dX11_enter_106 : decode cX11_enter 106 = .ok (.putfield 212, 3) := by decide +kernel
theorem dX11_enter_109 : decode cX11_enter 109 = .ok (.aload_n 0, 1) := by decide +kernel
theorem dX11_enter_110 : decode cX11_enter 110 = .ok (.getfield 93, 3) := by decide +kernel
theorem dX11_enter_113 : decode cX11_enter 113 = .ok (.iload_n 2, 1) := by decide +kernel
theorem dX11_enter_114 : decode cX11_enter 114 = .ok (.dup2, 1) := by decide +kernel
theorem dX11_enter_115 : decode cX11_enter 115 = .ok (.iaload, 1) := by decide +kernel
theorem dX11_enter_116 : decode cX11_enter 116 = .ok (.iload_n 3, 1) := by decide +kernel
theorem dX11_enter_117 : decode cX11_enter 117 = .ok (.iadd, 1) := by decide +kernel
theorem dX11_enter_118 : decode cX11_enter 118 = .ok (.iastore, 1) := by decide +kernel
theorem dX11_enter_119 : decode cX11_enter 119 = .ok (.return_, 1) := by decide +kernel
