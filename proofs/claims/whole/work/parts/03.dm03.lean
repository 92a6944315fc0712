theorem dX11_mayMove_0 : decode cX11_mayMove 0 = .ok (.iload_n 1, 1) := by decide +kernel
theorem dX11_mayMove_1 : decode cX11_mayMove 1 = .ok (.iconst 0, 1) := by decide +kernel
theorem dX11_mayMove_2 : decode cX11_mayMove 2 = .ok (.aload_n 0, 1) := by decide +kernel
theorem dX11_mayMove_3 : decode cX11_mayMove 3 = .ok (.getfield 111, 3) := by decide +kernel
theorem dX11_mayMove_6 : decode cX11_mayMove 6 = .ok (.iconst 1, 1) := by decide +kernel
theorem dX11_mayMove_7 : decode cX11_mayMove 7 = .ok (.isub, 1) := by decide +kernel
theorem dX11_mayMove_8 : decode cX11_mayMove 8 = .ok (.invokestatic 115, 3) := by decide +kernel
theorem dX11_mayMove_11 : decode cX11_mayMove 11 = .ok (.ifCond .eq 22, 3) := by decide +kernel
theorem dX11_mayMove_14 : decode cX11_mayMove 14 = .ok (.iload_n 2, 1) := by decide +kernel
theorem dX11_mayMove_15 : decode cX11_mayMove 15 = .ok (.iconst 0, 1) := by decide +kernel
theorem dX11_mayMove_16 : decode cX11_mayMove 16 = .ok (.aload_n 0, 1) := by decide +kernel
theorem dX11_mayMove_17 : decode cX11_mayMove 17 = .ok (.getfield 111, 3) := by decide +kernel
theorem dX11_mayMove_20 : decode cX11_mayMove 20 = .ok (.iconst 1, 1) := by decide +kernel
theorem dX11_mayMove_21 : decode cX11_mayMove 21 = .ok (.isub, 1) := by decide +kernel
theorem dX11_mayMove_22 : decode cX11_mayMove 22 = .ok (.invokestatic 115, 3) := by decide +kernel
theorem dX11_mayMove_25 : decode cX11_mayMove 25 = .ok (.ifCond .eq 8, 3) := by decide +kernel
theorem dX11_mayMove_28 : decode cX11_mayMove 28 = .ok (.iload_n 1, 1) := by decide +kernel
theorem dX11_mayMove_29 : decode cX11_mayMove 29 = .ok (.iload_n 2, 1) := by decide +kernel
theorem dX11_mayMove_30 : decode cX11_mayMove 30 = .ok (.if_icmp .ne 5, 3) := by decide +kernel
theorem dX11_mayMove_33 : decode cX11_mayMove 33 = .ok (.iconst 0, 1) := by decide +kernel
theorem dX11_mayMove_34 : decode cX11_mayMove 34 = .ok (.ireturn, 1) := by decide +kernel
theorem dX11_mayMove_35 : decode cX11_mayMove 35 = .ok (.aload_n 0, 1) := by decide +kernel
theorem dX11_mayMove_36 : decode cX11_mayMove 36 = .ok (.getfield 9, 3) := by decide +kernel
theorem dX11_mayMove_39 : decode cX11_mayMove 39 = .ok (.iload_n 1, 1) := by decide +kernel
theorem dX11_mayMove_40 : decode cX11_mayMove 40 = .ok (.iaload, 1) := by decide +kernel
theorem dX11_mayMove_41 : decode cX11_mayMove 41 = .ok (.istore_n 3, 1) := by decide +kernel
theorem dX11_mayMove_42 : decode cX11_mayMove 42 = .ok (.aload_n 0, 1) := by decide +kernel
theorem dX11_mayMove_43 : decode cX11_mayMove 43 = .ok (.getfield 9, 3) := by decide +kernel
theorem dX11_mayMove_46 : decode cX11_mayMove 46 = .ok (.iload_n 2, 1) := by decide +kernel
theorem dX11_mayMove_47 : decode cX11_mayMove 47 = .ok (.iaload, 1) := by decide +kernel
theorem dX11_mayMove_48 : decode cX11_mayMove 48 = .ok (.istore 4, 2) := by decide +kernel
theorem dX11_mayMove_50 : decode cX11_mayMove 50 = .ok (.iload_n 3, 1) := by decide +kernel
theorem dX11_mayMove_51 : decode cX11_mayMove 51 = .ok (.iconst 3, 1) := by decide +kernel
theorem dX11_mayMove_52 : decode cX11_mayMove 52 = .ok (.if_icmp .eq 17, 3) := by decide +kernel
theorem dX11_mayMove_55 : decode cX11_mayMove 55 = .ok (.iload 4, 2) := by decide +kernel
theorem dX11_mayMove_57 : decode cX11_mayMove 57 = .ok (.iload_n 3, 1) := by decide +kernel
theorem dX11_mayMove_58 : decode cX11_mayMove 58 = .ok (.if_icmp .eq 13, 3) := by decide +kernel
theorem dX11_mayMove_61 : decode cX11_mayMove 61 = .ok (.iload 4, 2) := by decide +kernel
theorem dX11_mayMove_63 : decode cX11_mayMove 63 = .ok (.iload_n 3, 1) := by decide +kernel
theorem dX11_mayMove_64 : decode cX11_mayMove 64 = .ok (.iconst 1, 1) := by decide +kernel
theorem dX11_mayMove_65 : decode cX11_mayMove 65 = .ok (.iadd, 1) := by decide +kernel
theorem dX11_mayMove_66 : decode cX11_mayMove 66 = .ok (.if_icmp .eq 5, 3) := by decide +kernel
theorem dX11_mayMove_69 : decode cX11_mayMove 69 = .ok (.iconst 0, 1) := by decide +kernel
theorem dX11_mayMove_70 : decode cX11_mayMove 70 = .ok (.ireturn, 1) := by decide +kernel
theorem dX11_mayMove_71 : decode cX11_mayMove 71 = .ok (.iload 4, 2) := by decide +kernel
theorem dX11_mayMove_73 : decode cX11_mayMove 73 = .ok (.iconst 3, 1) := by decide +kernel
theorem dX11_mayMove_74 : decode cX11_mayMove 74 = .ok (.if_icmp .ne 22, 3) := by decide +kernel
theorem dX11_mayMove_77 : decode cX11_mayMove 77 = .ok (.aload_n 0, 1) := by decide +kernel
theorem dX11_mayMove_78 : decode cX11_mayMove 78 = .ok (.iload_n 1, 1) := by decide +kernel
theorem dX11_mayMove_79 : decode cX11_mayMove 79 = .ok (.invokevirtual 138, 3) := by decide +kernel
theorem dX11_mayMove_82 : decode cX11_mayMove 82 = .ok (.bipush 75, 2) := by decide +kernel
theorem dX11_mayMove_84 : decode cX11_mayMove 84 = .ok (.if_icmp .gt 16, 3) := by decide +kernel
theorem dX11_mayMove_87 : decode cX11_mayMove 87 = .ok (.aload_n 0, 1) := by decide +kernel
theorem dX11_mayMove_88 : decode cX11_mayMove 88 = .ok (.getfield 29, 3) := by decide +kernel
theorem dX11_mayMove_91 : decode cX11_mayMove 91 = .ok (.iload_n 2, 1) := by decide +kernel
theorem dX11_mayMove_92 : decode cX11_mayMove 92 = .ok (.iaload, 1) := by decide +kernel
theorem dX11_mayMove_93 : decode cX11_mayMove 93 = .ok (.ifCond .ne 7, 3) := by decide +kernel
theorem dX11_mayMove_96 : decode cX11_mayMove 96 = .ok (.iconst 1, 1) := by decide +kernel
theorem dX11_mayMove_97 : decode cX11_mayMove 97 = .ok (.goto 4, 3) := by decide +kernel
theorem dX11_mayMove_100 : decode cX11_mayMove 100 = .ok (.iconst 0, 1) := by decide +kernel
theorem dX11_mayMove_101 : decode cX11_mayMove 101 = .ok (.ireturn, 1) := by decide +kernel
theorem dX11_move_0 : decode cX11_move 0 = .ok (.aload_n 0, 1) := by decide +kernel
theorem dX11_move_1 : decode cX11_move 1 = .ok (.iload_n 1, 1) := by decide +kernel
theorem dX11_move_2 : decode cX11_move 2 = .ok (.iload_n 2, 1) := by decide +kernel
theorem dX11_move_3 : decode cX11_move 3 = .ok (.invokevirtual 141, 3) := by decide +kernel
theorem dX11_move_6 : decode cX11_move 6 = .ok (.ifCond .eq 29, 3) := by decide +kernel
theorem dX11_move_9 : decode cX11_move 9 = .ok (.iload_n 3, 1) := by decide +kernel
theorem dX11_move_10 : decode cX11_move 10 = .ok (.iconst 1, 1) := by decide +kernel
theorem dX11_move_11 : decode cX11_move 11 = .ok (.if_icmp .lt 24, 3) := by decide +kernel
theorem dX11_move_14 : decode cX11_move 14 = .ok (.iload_n 3, 1) := by decide +kernel
theorem dX11_move_15 : decode cX11_move 15 = .ok (.aload_n 0, 1) := by decide +kernel
theorem dX11_move_16 : decode cX11_move 16 = .ok (.iload_n 1, 1) := by decide +kernel
theorem dX11_move_17 : decode cX11_move 17 = .ok (.invokevirtual 123, 3) := by decide +kernel
theorem dX11_move_20 : decode cX11_move 20 = .ok (.if_icmp .gt 15, 3) := by decide +kernel
theorem dX11_move_23 : decode cX11_move 23 = .ok (.aload_n 0, 1) := by decide +kernel
theorem dX11_move_24 : decode cX11_move 24 = .ok (.iload_n 2, 1) := by decide +kernel
theorem dX11_move_25 : decode cX11_move 25 = .ok (.invokevirtual 123, 3) := by decide +kernel
theorem dX11_move_28 : decode cX11_move 28 = .ok (.iload_n 3, 1) := by decide +kernel
theorem dX11_move_29 : decode cX11_move 29 = .ok (.iadd, 1) := by decide +kernel
theorem dX11_move_30 : decode cX11_move 30 = .ok (.ldc 133, 2) := by decide +kernel
theorem dX11_move_32 : decode cX11_move 32 = .ok (.if_icmp .le 5, 3) := by decide +kernel
theorem dX11_move_35 : decode cX11_move 35 = .ok (.iconst (-1), 1) := by decide +kernel
theorem dX11_move_36 : decode cX11_move 36 = .ok (.ireturn, 1) := by decide +kernel
theorem dX11_move_37 : decode cX11_move 37 = .ok (.iload_n 3, 1) := by decide +kernel
theorem dX11_move_38 : decode cX11_move 38 = .ok (.i2l, 1) := by decide +kernel
theorem dX11_move_39 : decode cX11_move 39 = .ok (.aload_n 0, 1) := by decide +kernel
theorem dX11_move_40 : decode cX11_move 40 = .ok (.getfield 16, 3) := by decide +kernel
theorem dX11_move_43 : decode cX11_move 43 = .ok (.iload_n 1, 1) := by decide +kernel
theorem dX11_move_44 : decode cX11_move 44 = .ok (.iaload, 1) := by decide +kernel
theorem dX11_move_45 : decode cX11_move 45 = .ok (.i2l, 1) := by decide +kernel
theorem dX11_move_46 : decode cX11_move 46 = .ok (.lmul, 1) := by decide +kernel
theorem dX11_move_47 : decode cX11_move 47 = .ok (.aload_n 0, 1) := by decide +kernel
theorem dX11_move_48 : decode cX11_move 48 = .ok (.iload_n 1, 1) := by decide +kernel
theorem dX11_move_49 : decode cX11_move 49 = .ok (.invokevirtual 123, 3) := by decide +kernel
theorem dX11_move_52 : decode cX11_move 52 = .ok (.i2l, 1) := by decide +kernel
theorem dX11_move_53 : decode cX11_move 53 = .ok (.ldiv, 1) := by decide +kernel
theorem dX11_move_54 : decode cX11_move 54 = .ok (.lstore 4, 2) := by decide +kernel
theorem dX11_move_56 : decode cX11_move 56 = .ok (.aload_n 0, 1) := by decide +kernel
theorem dX11_move_57 : decode cX11_move 57 = .ok (.iload_n 2, 1) := by decide +kernel
theorem dX11_move_58 : decode cX11_move 58 = .ok (.invokevirtual 123, 3) := by decide +kernel
theorem dX11_move_61 : decode cX11_move 61 = .ok (.i2l, 1) := by decide +kernel
theorem dX11_move_62 : decode cX11_move 62 = .ok (.lstore 6, 2) := by decide +kernel
theorem dX11_move_64 : decode cX11_move 64 = .ok (.aload_n 0, 1) := by decide +kernel
theorem dX11_move_65 : decode cX11_move 65 = .ok (.getfield 19, 3) := by decide +kernel
theorem dX11_move_68 : decode cX11_move 68 = .ok (.iload_n 2, 1) := by decide +kernel
theorem dX11_move_69 : decode cX11_move 69 = .ok (.lload 6, 2) := by decide +kernel
theorem dX11_move_71 : decode cX11_move 71 = .ok (.aload_n 0, 1) := by decide +kernel
theorem dX11_move_72 : decode cX11_move 72 = .ok (.getfield 19, 3) := by decide +kernel
theorem dX11_move_75 : decode cX11_move 75 = .ok (.iload_n 2, 1) := by decide +kernel
theorem dX11_move_76 : decode cX11_move 76 = .ok (.iaload, 1) := by decide +kernel
theorem dX11_move_77 : decode cX11_move 77 = .ok (.i2l, 1) := by decide +kernel
theorem dX11_move_78 : decode cX11_move 78 = .ok (.lmul, 1) := by decide +kernel
theorem dX11_move_79 : decode cX11_move 79 = .ok (.iload_n 3, 1) := by decide +kernel
theorem dX11_move_80 : decode cX11_move 80 = .ok (.i2l, 1) := by decide +kernel
theorem dX11_move_81 : decode cX11_move 81 = .ok (.aload_n 0, 1) := by decide +kernel
theorem dX11_move_82 : decode cX11_move 82 = .ok (.getfield 19, 3) := by decide +kernel
theorem dX11_move_85 : decode cX11_move 85 = .ok (.iload_n 1, 1) := by decide +kernel
theorem dX11_move_86 : decode cX11_move 86 = .ok (.iaload, 1) := by decide +kernel
theorem dX11_move_87 : decode cX11_move 87 = .ok (.i2l, 1) := by decide +kernel
theorem dX11_move_88 : decode cX11_move 88 = .ok (.lmul, 1) := by decide +kernel
theorem dX11_move_89 : decode cX11_move 89 = .ok (.ladd, 1) := by decide +kernel
theorem dX11_move_90 : decode cX11_move 90 = .ok (.lload 6, 2) := by decide +kernel
theorem dX11_move_92 : decode cX11_move 92 = .ok (.iload_n 3, 1) := by decide +kernel
theorem dX11_move_93 : decode cX11_move 93 = .ok (.i2l, 1) := by decide +kernel
theorem dX11_move_94 : decode cX11_move 94 = .ok (.ladd, 1) := by decide +kernel
theorem dX11_move_95 : decode cX11_move 95 = .ok (.ldiv, 1) := by decide +kernel
theorem dX11_move_96 : decode cX11_move 96 = .ok (.l2i, 1) := by decide +kernel
theorem dX11_move_97 : decode cX11_move 97 = .ok (.iastore, 1) := by decide +kernel
theorem dX11_move_98 : decode cX11_move 98 = .ok (.iconst 0, 1) := by decide +kernel
theorem dX11_move_99 : decode cX11_move 99 = .ok (.istore 8, 2) := by decide +kernel
theorem dX11_move_101 : decode cX11_move 101 = .ok (.iload 8, 2) := by decide +kernel
theorem dX11_move_103 : decode cX11_move 103 = .ok (.bipush 60, 2) := by decide +kernel
theorem dX11_move_105 : decode cX11_move 105 = .ok (.if_icmp .ge 29, 3) := by decide +kernel
theorem dX11_move_108 : decode cX11_move 108 = .ok (.aload_n 0, 1) := by decide +kernel
theorem dX11_move_109 : decode cX11_move 109 = .ok (.getfield 32, 3) := by decide +kernel
theorem dX11_move_112 : decode cX11_move 112 = .ok (.iload 8, 2) := by decide +kernel
theorem dX11_move_114 : decode cX11_move 114 = .ok (.aload_n 0, 1) := by decide +kernel
theorem dX11_move_115 : decode cX11_move 115 = .ok (.getfield 13, 3) := by decide +kernel
theorem dX11_move_118 : decode cX11_move 118 = .ok (.bipush 60, 2) := by decide +kernel
theorem dX11_move_120 : decode cX11_move 120 = .ok (.iload_n 1, 1) := by decide +kernel
theorem dX11_move_121 : decode cX11_move 121 = .ok (.imul, 1) := by decide +kernel
theorem dX11_move_122 : decode cX11_move 122 = .ok (.iload 8, 2) := by decide +kernel
theorem dX11_move_124 : decode cX11_move 124 = .ok (.iadd, 1) := by decide +kernel
theorem dX11_move_125 : decode cX11_move 125 = .ok (.iaload, 1) := by decide +kernel
theorem dX11_move_126 : decode cX11_move 126 = .ok (.i2l, 1) := by decide +kernel
theorem dX11_move_127 : decode cX11_move 127 = .ok (.lastore, 1) := by decide +kernel
theorem dX11_move_128 : decode cX11_move 128 = .ok (.iinc 8 1, 3) := by decide +kernel
theorem dX11_move_131 : decode cX11_move 131 = .ok (.goto (-30), 3) := by decide +kernel
theorem dX11_move_134 : decode cX11_move 134 = .ok (.iload_n 3, 1) := by decide +kernel
theorem dX11_move_135 : decode cX11_move 135 = .ok (.i2l, 1) := by decide +kernel
theorem dX11_move_136 : decode cX11_move 136 = .ok (.lload 4, 2) := by decide +kernel
theorem dX11_move_138 : decode cX11_move 138 = .ok (.lsub, 1) := by decide +kernel
theorem dX11_move_139 : decode cX11_move 139 = .ok (.lconst 0, 1) := by decide +kernel
theorem dX11_move_140 : decode cX11_move 140 = .ok (.lcmp, 1) := by decide +kernel
theorem dX11_move_141 : decode cX11_move 141 = .ok (.ifCond .le 76, 3) := by decide +kernel
theorem dX11_move_144 : decode cX11_move 144 = .ok (.aload_n 0, 1) := by decide +kernel
theorem dX11_move_145 : decode cX11_move 145 = .ok (.iload_n 3, 1) := by decide +kernel
theorem dX11_move_146 : decode cX11_move 146 = .ok (.i2l, 1) := by decide +kernel
theorem dX11_move_147 : decode cX11_move 147 = .ok (.lload 4, 2) := by decide +kernel
theorem dX11_move_149 : decode cX11_move 149 = .ok (.lsub, 1) := by decide +kernel
theorem dX11_move_150 : decode cX11_move 150 = .ok (.bipush 60, 2) := by decide +kernel
theorem dX11_move_152 : decode cX11_move 152 = .ok (.invokevirtual 144, 3) := by decide +kernel
theorem dX11_move_155 : decode cX11_move 155 = .ok (.iconst 0, 1) := by decide +kernel
theorem dX11_move_156 : decode cX11_move 156 = .ok (.istore 8, 2) := by decide +kernel
theorem dX11_move_158 : decode cX11_move 158 = .ok (.iload 8, 2) := by decide +kernel
theorem dX11_move_160 : decode cX11_move 160 = .ok (.bipush 60, 2) := by decide +kernel
theorem dX11_move_162 : decode cX11_move 162 = .ok (.if_icmp .ge 55, 3) := by decide +kernel
theorem dX11_move_165 : decode cX11_move 165 = .ok (.aload_n 0, 1) := by decide +kernel
theorem dX11_move_166 : decode cX11_move 166 = .ok (.getfield 13, 3) := by decide +kernel
theorem dX11_move_169 : decode cX11_move 169 = .ok (.bipush 60, 2) := by decide +kernel
theorem dX11_move_171 : decode cX11_move 171 = .ok (.iload_n 1, 1) := by decide +kernel
theorem dX11_move_172 : decode cX11_move 172 = .ok (.imul, 1) := by decide +kernel
theorem dX11_move_173 : decode cX11_move 173 = .ok (.iload 8, 2) := by decide +kernel
theorem dX11_move_175 : decode cX11_move 175 = .ok (.iadd, 1) := by decide +kernel
theorem dX11_move_176 : decode cX11_move 176 = .ok (.dup2, 1) := by decide +kernel
theorem dX11_move_177 : decode cX11_move 177 = .ok (.iaload, 1) := by decide +kernel
theorem dX11_move_178 : decode cX11_move 178 = .ok (.aload_n 0, 1) := by decide +kernel
theorem dX11_move_179 : decode cX11_move 179 = .ok (.getfield 36, 3) := by decide +kernel
theorem dX11_move_182 : decode cX11_move 182 = .ok (.iload 8, 2) := by decide +kernel
theorem dX11_move_184 : decode cX11_move 184 = .ok (.laload, 1) := by decide +kernel
theorem dX11_move_185 : decode cX11_move 185 = .ok (.l2i, 1) := by decide +kernel
theorem dX11_move_186 : decode cX11_move 186 = .ok (.isub, 1) := by decide +kernel
theorem dX11_move_187 : decode cX11_move 187 = .ok (.iastore, 1) := by decide +kernel
theorem dX11_move_188 : decode cX11_move 188 = .ok (.aload_n 0, 1) := by decide +kernel
theorem dX11_move_189 : decode cX11_move 189 = .ok (.getfield 13, 3) := by decide +kernel
theorem dX11_move_192 : decode cX11_move 192 = .ok (.bipush 60, 2) := by decide +kernel
theorem dX11_move_194 : decode cX11_move 194 = .ok (.iload_n 2, 1) := by decide +kernel
theorem dX11_move_195 : decode cX11_move 195 = .ok (.imul, 1) := by decide +kernel
theorem dX11_move_196 : decode cX11_move 196 = .ok (.iload 8, 2) := by decide +kernel
theorem dX11_move_198 : decode cX11_move 198 = .ok (.iadd, 1) := by decide +kernel
theorem dX11_move_199 : decode cX11_move 199 = .ok (.dup2, 1) := by decide +kernel
theorem dX11_move_200 : decode cX11_move 200 = .ok (.iaload, 1) := by decide +kernel
theorem dX11_move_201 : decode cX11_move 201 = .ok (.aload_n 0, 1) := by decide +kernel
theorem dX11_move_202 : decode cX11_move 202 = .ok (.getfield 36, 3) := by decide +kernel
theorem dX11_move_205 : decode cX11_move 205 = .ok (.iload 8, 2) := by decide +kernel
theorem dX11_move_207 : decode cX11_move 207 = .ok (.laload, 1) := by decide +kernel
theorem dX11_move_208 : decode cX11_move 208 = .ok (.l2i, 1) := by decide +kernel
theorem dX11_move_209 : decode cX11_move 209 = .ok (.iadd, 1) := by decide +kernel
theorem dX11_move_210 : decode cX11_move 210 = .ok (.iastore, 1) := by decide +kernel
theorem dX11_move_211 : decode cX11_move 211 = .ok (.iinc 8 1, 3) := by decide +kernel
theorem dX11_move_214 : decode cX11_move 214 = .ok (.goto (-56), 3) := by decide +kernel
theorem dX11_move_217 : decode cX11_move 217 = .ok (.aload_n 0, 1) := by decide +kernel
theorem dX11_move_218 : decode cX11_move 218 = .ok (.getfield 16, 3) := by decide +kernel
theorem dX11_move_221 : decode cX11_move 221 = .ok (.iload_n 1, 1) := by decide +kernel
theorem dX11_move_222 : decode cX11_move 222 = .ok (.dup2, 1) := by decide +kernel
theorem dX11_move_223 : decode cX11_move 223 = .ok (.iaload, 1) := by decide +kernel
theorem dX11_move_224 : decode cX11_move 224 = .ok (.lload 4, 2) := by decide +kernel
theorem dX11_move_226 : decode cX11_move 226 = .ok (.l2i, 1) := by decide +kernel
theorem dX11_move_227 : decode cX11_move 227 = .ok (.isub, 1) := by decide +kernel
theorem dX11_move_228 : decode cX11_move 228 = .ok (.iastore, 1) := by decide +kernel
theorem dX11_move_229 : decode cX11_move 229 = .ok (.aload_n 0, 1) := by decide +kernel
theorem dX11_move_230 : decode cX11_move 230 = .ok (.getfield 16, 3) := by decide +kernel
theorem dX11_move_233 : decode cX11_move 233 = .ok (.iload_n 2, 1) := by decide +kernel
theorem dX11_move_234 : decode cX11_move 234 = .ok (.dup2, 1) := by decide +kernel
theorem dX11_move_235 : decode cX11_move 235 = .ok (.iaload, 1) := by decide +kernel
theorem dX11_move_236 : decode cX11_move 236 = .ok (.lload 4, 2) := by decide +kernel
theorem dX11_move_238 : decode cX11_move 238 = .ok (.l2i, 1) := by decide +kernel
theorem dX11_move_239 : decode cX11_move 239 = .ok (.iadd, 1) := by decide +kernel
theorem dX11_move_240 : decode cX11_move 240 = .ok (.iastore, 1) := by decide +kernel
theorem dX11_move_241 : decode cX11_move 241 = .ok (.aload_n 0, 1) := by decide +kernel
theorem dX11_move_242 : decode cX11_move 242 = .ok (.iload_n 2, 1) := by decide +kernel
theorem dX11_move_243 : decode cX11_move 243 = .ok (.invokevirtual 123, 3) := by decide +kernel
theorem dX11_move_246 : decode cX11_move 246 = .ok (.ireturn, 1) := by decide +kernel
theorem dX11_turn_0 : decode cX11_turn 0 = .ok (.aload_n 0, 1) := by decide +kernel
theorem dX11_turn_1 : decode cX11_turn 1 = .ok (.iload_n 1, 1) := by decide +kernel
theorem dX11_turn_2 : decode cX11_turn 2 = .ok (.iconst 1, 1) := by decide +kernel
theorem dX11_turn_3 : decode cX11_turn 3 = .ok (.invokevirtual 128, 3) := by decide +kernel
theorem dX11_turn_6 : decode cX11_turn 6 = .ok (.ifCond .eq 12, 3) := by decide +kernel
theorem dX11_turn_9 : decode cX11_turn 9 = .ok (.aload_n 0, 1) := by decide +kernel
theorem dX11_turn_10 : decode cX11_turn 10 = .ok (.getfield 22, 3) := by decide +kernel
theorem dX11_turn_13 : decode cX11_turn 13 = .ok (.iload_n 1, 1) := by decide +kernel
theorem dX11_turn_14 : decode cX11_turn 14 = .ok (.baload, 1) := by decide +kernel
theorem dX11_turn_15 : decode cX11_turn 15 = .ok (.ifCond .eq 5, 3) := by decide +kernel
theorem dX11_turn_18 : decode cX11_turn 18 = .ok (.iconst 0, 1) := by decide +kernel
theorem dX11_turn_19 : decode cX11_turn 19 = .ok (.ireturn, 1) := by decide +kernel
theorem dX11_turn_20 : decode cX11_turn 20 = .ok (.aload_n 0, 1) := by decide +kernel
theorem dX11_turn_21 : decode cX11_turn 21 = .ok (.getfield 22, 3) := by decide +kernel
theorem dX11_turn_24 : decode cX11_turn 24 = .ok (.iload_n 1, 1) := by decide +kernel
theorem dX11_turn_25 : decode cX11_turn 25 = .ok (.iconst 1, 1) := by decide +kernel
theorem dX11_turn_26 : decode cX11_turn 26 = .ok (.bastore, 1) := by decide +kernel
theorem dX11_turn_27 : decode cX11_turn 27 = .ok (.iconst 1, 1) := by decide +kernel
theorem dX11_turn_28 : decode cX11_turn 28 = .ok (.ireturn, 1) := by decide +kernel
