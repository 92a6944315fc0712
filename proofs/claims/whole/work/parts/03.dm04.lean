theorem dX11_cover_0 : decode cX11_cover 0 = .ok (.aload_n 0, 1) := by decide +kernel
theorem dX11_cover_1 : decode cX11_cover 1 = .ok (.iload_n 1, 1) := by decide +kernel
theorem dX11_cover_2 : decode cX11_cover 2 = .ok (.iconst 2, 1) := by decide +kernel
theorem dX11_cover_3 : decode cX11_cover 3 = .ok (.invokevirtual 128, 3) := by decide +kernel
theorem dX11_cover_6 : decode cX11_cover 6 = .ok (.ifCond .eq 13, 3) := by decide +kernel
theorem dX11_cover_9 : decode cX11_cover 9 = .ok (.aload_n 0, 1) := by decide +kernel
theorem dX11_cover_10 : decode cX11_cover 10 = .ok (.getfield 22, 3) := by decide +kernel
theorem dX11_cover_13 : decode cX11_cover 13 = .ok (.iload_n 1, 1) := by decide +kernel
theorem dX11_cover_14 : decode cX11_cover 14 = .ok (.baload, 1) := by decide +kernel
theorem dX11_cover_15 : decode cX11_cover 15 = .ok (.iload_n 2, 1) := by decide +kernel
theorem dX11_cover_16 : decode cX11_cover 16 = .ok (.if_icmp .ne 5, 3) := by decide +kernel
theorem dX11_cover_19 : decode cX11_cover 19 = .ok (.iconst 0, 1) := by decide +kernel
theorem dX11_cover_20 : decode cX11_cover 20 = .ok (.ireturn, 1) := by decide +kernel
theorem dX11_cover_21 : decode cX11_cover 21 = .ok (.aload_n 0, 1) := by decide +kernel
theorem dX11_cover_22 : decode cX11_cover 22 = .ok (.getfield 22, 3) := by decide +kernel
theorem dX11_cover_25 : decode cX11_cover 25 = .ok (.iload_n 1, 1) := by decide +kernel
theorem dX11_cover_26 : decode cX11_cover 26 = .ok (.iload_n 2, 1) := by decide +kernel
theorem dX11_cover_27 : decode cX11_cover 27 = .ok (.bastore, 1) := by decide +kernel
theorem dX11_cover_28 : decode cX11_cover 28 = .ok (.iconst 1, 1) := by decide +kernel
theorem dX11_cover_29 : decode cX11_cover 29 = .ok (.ireturn, 1) := by decide +kernel
theorem dX11_day_0 : decode cX11_day 0 = .ok (.iload_n 1, 1) := by decide +kernel
theorem dX11_day_1 : decode cX11_day 1 = .ok (.iconst 0, 1) := by decide +kernel
theorem dX11_day_2 : decode cX11_day 2 = .ok (.bipush 12, 2) := by decide +kernel
theorem dX11_day_4 : decode cX11_day 4 = .ok (.invokestatic 115, 3) := by decide +kernel
theorem dX11_day_7 : decode cX11_day 7 = .ok (.ifCond .ne 5, 3) := by decide +kernel
theorem dX11_day_10 : decode cX11_day 10 = .ok (.iconst (-1), 1) := by decide +kernel
theorem dX11_day_11 : decode cX11_day 11 = .ok (.ireturn, 1) := by decide +kernel
theorem dX11_day_12 : decode cX11_day 12 = .ok (.iconst 0, 1) := by decide +kernel
theorem dX11_day_13 : decode cX11_day 13 = .ok (.istore_n 3, 1) := by decide +kernel
theorem dX11_day_14 : decode cX11_day 14 = .ok (.iload_n 3, 1) := by decide +kernel
theorem dX11_day_15 : decode cX11_day 15 = .ok (.aload_n 0, 1) := by decide +kernel
theorem dX11_day_16 : decode cX11_day 16 = .ok (.getfield 111, 3) := by decide +kernel
theorem dX11_day_19 : decode cX11_day 19 = .ok (.if_icmp .ge 199, 3) := by decide +kernel
theorem dX11_day_22 : decode cX11_day 22 = .ok (.aload_n 0, 1) := by decide +kernel
theorem dX11_day_23 : decode cX11_day 23 = .ok (.iload_n 3, 1) := by decide +kernel
theorem dX11_day_24 : decode cX11_day 24 = .ok (.invokevirtual 123, 3) := by decide +kernel
theorem dX11_day_27 : decode cX11_day 27 = .ok (.ifCond .le 7, 3) := by decide +kernel
theorem dX11_day_30 : decode cX11_day 30 = .ok (.iconst 1, 1) := by decide +kernel
theorem dX11_day_31 : decode cX11_day 31 = .ok (.goto 4, 3) := by decide +kernel
theorem dX11_day_34 : decode cX11_day 34 = .ok (.iconst 0, 1) := by decide +kernel
theorem dX11_day_35 : decode cX11_day 35 = .ok (.istore 4, 2) := by decide +kernel
theorem dX11_day_37 : decode cX11_day 37 = .ok (.aload_n 0, 1) := by decide +kernel
theorem dX11_day_38 : decode cX11_day 38 = .ok (.getfield 9, 3) := by decide +kernel
theorem dX11_day_41 : decode cX11_day 41 = .ok (.iload_n 3, 1) := by decide +kernel
theorem dX11_day_42 : decode cX11_day 42 = .ok (.iaload, 1) := by decide +kernel
theorem dX11_day_43 : decode cX11_day 43 = .ok (.iconst 1, 1) := by decide +kernel
theorem dX11_day_44 : decode cX11_day 44 = .ok (.if_icmp .ne 58, 3) := by decide +kernel
theorem dX11_day_47 : decode cX11_day 47 = .ok (.aload_n 0, 1) := by decide +kernel
theorem dX11_day_48 : decode cX11_day 48 = .ok (.getfield 19, 3) := by decide +kernel
theorem dX11_day_51 : decode cX11_day 51 = .ok (.iload_n 3, 1) := by decide +kernel
theorem dX11_day_52 : decode cX11_day 52 = .ok (.iload 4, 2) := by decide +kernel
theorem dX11_day_54 : decode cX11_day 54 = .ok (.ifCond .eq 34, 3) := by decide +kernel
theorem dX11_day_57 : decode cX11_day 57 = .ok (.bipush 100, 2) := by decide +kernel
theorem dX11_day_59 : decode cX11_day 59 = .ok (.aload_n 0, 1) := by decide +kernel
theorem dX11_day_60 : decode cX11_day 60 = .ok (.getfield 19, 3) := by decide +kernel
theorem dX11_day_63 : decode cX11_day 63 = .ok (.iload_n 3, 1) := by decide +kernel
theorem dX11_day_64 : decode cX11_day 64 = .ok (.iaload, 1) := by decide +kernel
theorem dX11_day_65 : decode cX11_day 65 = .ok (.aload_n 0, 1) := by decide +kernel
theorem dX11_day_66 : decode cX11_day 66 = .ok (.getfield 22, 3) := by decide +kernel
theorem dX11_day_69 : decode cX11_day 69 = .ok (.iload_n 3, 1) := by decide +kernel
theorem dX11_day_70 : decode cX11_day 70 = .ok (.baload, 1) := by decide +kernel
theorem dX11_day_71 : decode cX11_day 71 = .ok (.ifCond .eq 8, 3) := by decide +kernel
theorem dX11_day_74 : decode cX11_day 74 = .ok (.bipush 12, 2) := by decide +kernel
theorem dX11_day_76 : decode cX11_day 76 = .ok (.goto 5, 3) := by decide +kernel
theorem dX11_day_79 : decode cX11_day 79 = .ok (.bipush 7, 2) := by decide +kernel
theorem dX11_day_81 : decode cX11_day 81 = .ok (.iadd, 1) := by decide +kernel
theorem dX11_day_82 : decode cX11_day 82 = .ok (.invokestatic 148, 3) := by decide +kernel
theorem dX11_day_85 : decode cX11_day 85 = .ok (.goto 9, 3) := by decide +kernel
theorem dX11_day_88 : decode cX11_day 88 = .ok (.aload_n 0, 1) := by decide +kernel
theorem dX11_day_89 : decode cX11_day 89 = .ok (.getfield 19, 3) := by decide +kernel
theorem dX11_day_92 : decode cX11_day 92 = .ok (.iload_n 3, 1) := by decide +kernel
theorem dX11_day_93 : decode cX11_day 93 = .ok (.iaload, 1) := by decide +kernel
theorem dX11_day_94 : decode cX11_day 94 = .ok (.iastore, 1) := by decide +kernel
theorem dX11_day_95 : decode cX11_day 95 = .ok (.aload_n 0, 1) := by decide +kernel
theorem dX11_day_96 : decode cX11_day 96 = .ok (.getfield 22, 3) := by decide +kernel
theorem dX11_day_99 : decode cX11_day 99 = .ok (.iload_n 3, 1) := by decide +kernel
theorem dX11_day_100 : decode cX11_day 100 = .ok (.iconst 0, 1) := by decide +kernel
theorem dX11_day_101 : decode cX11_day 101 = .ok (.bastore, 1) := by decide +kernel
theorem dX11_day_102 : decode cX11_day 102 = .ok (.aload_n 0, 1) := by decide +kernel
theorem dX11_day_103 : decode cX11_day 103 = .ok (.getfield 9, 3) := by decide +kernel
theorem dX11_day_106 : decode cX11_day 106 = .ok (.iload_n 3, 1) := by decide +kernel
theorem dX11_day_107 : decode cX11_day 107 = .ok (.iaload, 1) := by decide +kernel
theorem dX11_day_108 : decode cX11_day 108 = .ok (.ifCond .ne 27, 3) := by decide +kernel
theorem dX11_day_111 : decode cX11_day 111 = .ok (.iload 4, 2) := by decide +kernel
theorem dX11_day_113 : decode cX11_day 113 = .ok (.ifCond .eq 22, 3) := by decide +kernel
theorem dX11_day_116 : decode cX11_day 116 = .ok (.aload_n 0, 1) := by decide +kernel
theorem dX11_day_117 : decode cX11_day 117 = .ok (.getfield 19, 3) := by decide +kernel
theorem dX11_day_120 : decode cX11_day 120 = .ok (.iload_n 3, 1) := by decide +kernel
theorem dX11_day_121 : decode cX11_day 121 = .ok (.bipush 100, 2) := by decide +kernel
theorem dX11_day_123 : decode cX11_day 123 = .ok (.aload_n 0, 1) := by decide +kernel
theorem dX11_day_124 : decode cX11_day 124 = .ok (.getfield 19, 3) := by decide +kernel
theorem dX11_day_127 : decode cX11_day 127 = .ok (.iload_n 3, 1) := by decide +kernel
theorem dX11_day_128 : decode cX11_day 128 = .ok (.iaload, 1) := by decide +kernel
theorem dX11_day_129 : decode cX11_day 129 = .ok (.iconst 1, 1) := by decide +kernel
theorem dX11_day_130 : decode cX11_day 130 = .ok (.iadd, 1) := by decide +kernel
theorem dX11_day_131 : decode cX11_day 131 = .ok (.invokestatic 148, 3) := by decide +kernel
theorem dX11_day_134 : decode cX11_day 134 = .ok (.iastore, 1) := by decide +kernel
theorem dX11_day_135 : decode cX11_day 135 = .ok (.aload_n 0, 1) := by decide +kernel
theorem dX11_day_136 : decode cX11_day 136 = .ok (.getfield 9, 3) := by decide +kernel
theorem dX11_day_139 : decode cX11_day 139 = .ok (.iload_n 3, 1) := by decide +kernel
theorem dX11_day_140 : decode cX11_day 140 = .ok (.iaload, 1) := by decide +kernel
theorem dX11_day_141 : decode cX11_day 141 = .ok (.iconst 2, 1) := by decide +kernel
theorem dX11_day_142 : decode cX11_day 142 = .ok (.if_icmp .ne 70, 3) := by decide +kernel
theorem dX11_day_145 : decode cX11_day 145 = .ok (.aload_n 0, 1) := by decide +kernel
theorem dX11_day_146 : decode cX11_day 146 = .ok (.getfield 22, 3) := by decide +kernel
theorem dX11_day_149 : decode cX11_day 149 = .ok (.iload_n 3, 1) := by decide +kernel
theorem dX11_day_150 : decode cX11_day 150 = .ok (.baload, 1) := by decide +kernel
theorem dX11_day_151 : decode cX11_day 151 = .ok (.ifCond .ne 61, 3) := by decide +kernel
theorem dX11_day_154 : decode cX11_day 154 = .ok (.aload_n 0, 1) := by decide +kernel
theorem dX11_day_155 : decode cX11_day 155 = .ok (.iload_n 3, 1) := by decide +kernel
theorem dX11_day_156 : decode cX11_day 156 = .ok (.invokevirtual 119, 3) := by decide +kernel
theorem dX11_day_159 : decode cX11_day 159 = .ok (.istore 5, 2) := by decide +kernel
theorem dX11_day_161 : decode cX11_day 161 = .ok (.iload_n 1, 1) := by decide +kernel
theorem dX11_day_162 : decode cX11_day 162 = .ok (.i2l, 1) := by decide +kernel
theorem dX11_day_163 : decode cX11_day 163 = .ok (.iload 5, 2) := by decide +kernel
theorem dX11_day_165 : decode cX11_day 165 = .ok (.i2l, 1) := by decide +kernel
theorem dX11_day_166 : decode cX11_day 166 = .ok (.lmul, 1) := by decide +kernel
theorem dX11_day_167 : decode cX11_day 167 = .ok (.ldc2_w 154, 3) := by decide +kernel
theorem dX11_day_170 : decode cX11_day 170 = .ok (.ldiv, 1) := by decide +kernel
theorem dX11_day_171 : decode cX11_day 171 = .ok (.l2i, 1) := by decide +kernel
theorem dX11_day_172 : decode cX11_day 172 = .ok (.istore 6, 2) := by decide +kernel
theorem dX11_day_174 : decode cX11_day 174 = .ok (.aload_n 0, 1) := by decide +kernel
theorem dX11_day_175 : decode cX11_day 175 = .ok (.getfield 16, 3) := by decide +kernel
theorem dX11_day_178 : decode cX11_day 178 = .ok (.iload_n 3, 1) := by decide +kernel
theorem dX11_day_179 : decode cX11_day 179 = .ok (.iload_n 2, 1) := by decide +kernel
theorem dX11_day_180 : decode cX11_day 180 = .ok (.ifCond .eq 18, 3) := by decide +kernel
theorem dX11_day_183 : decode cX11_day 183 = .ok (.aload_n 0, 1) := by decide +kernel
theorem dX11_day_184 : decode cX11_day 184 = .ok (.getfield 16, 3) := by decide +kernel
theorem dX11_day_187 : decode cX11_day 187 = .ok (.iload_n 3, 1) := by decide +kernel
theorem dX11_day_188 : decode cX11_day 188 = .ok (.iaload, 1) := by decide +kernel
theorem dX11_day_189 : decode cX11_day 189 = .ok (.iload 5, 2) := by decide +kernel
theorem dX11_day_191 : decode cX11_day 191 = .ok (.bipush 10, 2) := by decide +kernel
theorem dX11_day_193 : decode cX11_day 193 = .ok (.idiv, 1) := by decide +kernel
theorem dX11_day_194 : decode cX11_day 194 = .ok (.iadd, 1) := by decide +kernel
theorem dX11_day_195 : decode cX11_day 195 = .ok (.goto 16, 3) := by decide +kernel
theorem dX11_day_198 : decode cX11_day 198 = .ok (.iconst 0, 1) := by decide +kernel
theorem dX11_day_199 : decode cX11_day 199 = .ok (.aload_n 0, 1) := by decide +kernel
theorem dX11_day_200 : decode cX11_day 200 = .ok (.getfield 16, 3) := by decide +kernel
theorem dX11_day_203 : decode cX11_day 203 = .ok (.iload_n 3, 1) := by decide +kernel
theorem dX11_day_204 : decode cX11_day 204 = .ok (.iaload, 1) := by decide +kernel
theorem dX11_day_205 : decode cX11_day 205 = .ok (.iload 6, 2) := by decide +kernel
theorem dX11_day_207 : decode cX11_day 207 = .ok (.isub, 1) := by decide +kernel
theorem dX11_day_208 : decode cX11_day 208 = .ok (.invokestatic 156, 3) := by decide +kernel
theorem dX11_day_211 : decode cX11_day 211 = .ok (.iastore, 1) := by decide +kernel
theorem dX11_day_212 : decode cX11_day 212 = .ok (.iinc 3 1, 3) := by decide +kernel
theorem dX11_day_215 : decode cX11_day 215 = .ok (.goto (-201), 3) := by decide +kernel
theorem dX11_day_218 : decode cX11_day 218 = .ok (.aload_n 0, 1) := by decide +kernel
theorem dX11_day_219 : decode cX11_day 219 = .ok (.dup, 1) := by decide +kernel
theorem dX11_day_220 : decode cX11_day 220 = .ok (.getfield 159, 3) := by decide +kernel
theorem dX11_day_223 : decode cX11_day 223 = .ok (.iconst 1, 1) := by decide +kernel
theorem dX11_day_224 : decode cX11_day 224 = .ok (.iadd, 1) := by decide +kernel
theorem dX11_day_225 : decode cX11_day 225 = .ok (.putfield 159, 3) := by decide +kernel
theorem dX11_day_228 : decode cX11_day 228 = .ok (.aload_n 0, 1) := by decide +kernel
theorem dX11_day_229 : decode cX11_day 229 = .ok (.getfield 159, 3) := by decide +kernel
theorem dX11_day_232 : decode cX11_day 232 = .ok (.ireturn, 1) := by decide +kernel
