theorem dX11_premium_0 : decode cX11_premium 0 = .ok (.aload_n 0, 1) := by decide +kernel
theorem dX11_premium_1 : decode cX11_premium 1 = .ok (.iload_n 1, 1) := by decide +kernel
theorem dX11_premium_2 : decode cX11_premium 2 = .ok (.iconst 3, 1) := by decide +kernel
theorem dX11_premium_3 : decode cX11_premium 3 = .ok (.invokevirtual 128, 3) := by decide +kernel
theorem dX11_premium_6 : decode cX11_premium 6 = .ok (.ifCond .eq 39, 3) := by decide +kernel
theorem dX11_premium_9 : decode cX11_premium 9 = .ok (.aload_n 0, 1) := by decide +kernel
theorem dX11_premium_10 : decode cX11_premium 10 = .ok (.getfield 26, 3) := by decide +kernel
theorem dX11_premium_13 : decode cX11_premium 13 = .ok (.iload_n 1, 1) := by decide +kernel
theorem dX11_premium_14 : decode cX11_premium 14 = .ok (.iaload, 1) := by decide +kernel
theorem dX11_premium_15 : decode cX11_premium 15 = .ok (.ifCond .eq 30, 3) := by decide +kernel
theorem dX11_premium_18 : decode cX11_premium 18 = .ok (.iload_n 2, 1) := by decide +kernel
theorem dX11_premium_19 : decode cX11_premium 19 = .ok (.iconst 1, 1) := by decide +kernel
theorem dX11_premium_20 : decode cX11_premium 20 = .ok (.ldc 133, 2) := by decide +kernel
theorem dX11_premium_22 : decode cX11_premium 22 = .ok (.invokestatic 115, 3) := by decide +kernel
theorem dX11_premium_25 : decode cX11_premium 25 = .ok (.ifCond .eq 20, 3) := by decide +kernel
theorem dX11_premium_28 : decode cX11_premium 28 = .ok (.aload_n 0, 1) := by decide +kernel
theorem dX11_premium_29 : decode cX11_premium 29 = .ok (.getfield 223, 3) := by decide +kernel
theorem dX11_premium_32 : decode cX11_premium 32 = .ok (.bipush 100, 2) := by decide +kernel
theorem dX11_premium_34 : decode cX11_premium 34 = .ok (.if_icmp .eq 11, 3) := by decide +kernel
theorem dX11_premium_37 : decode cX11_premium 37 = .ok (.aload_n 0, 1) := by decide +kernel
theorem dX11_premium_38 : decode cX11_premium 38 = .ok (.iload_n 1, 1) := by decide +kernel
theorem dX11_premium_39 : decode cX11_premium 39 = .ok (.invokevirtual 119, 3) := by decide +kernel
theorem dX11_premium_42 : decode cX11_premium 42 = .ok (.ifCond .ne 5, 3) := by decide +kernel
theorem dX11_premium_45 : decode cX11_premium 45 = .ok (.iconst (-1), 1) := by decide +kernel
theorem dX11_premium_46 : decode cX11_premium 46 = .ok (.ireturn, 1) := by decide +kernel
theorem dX11_premium_47 : decode cX11_premium 47 = .ok (.aload_n 0, 1) := by decide +kernel
theorem dX11_premium_48 : decode cX11_premium 48 = .ok (.getfield 223, 3) := by decide +kernel
theorem dX11_premium_51 : decode cX11_premium 51 = .ok (.istore_n 3, 1) := by decide +kernel
theorem dX11_premium_52 : decode cX11_premium 52 = .ok (.aload_n 0, 1) := by decide +kernel
theorem dX11_premium_53 : decode cX11_premium 53 = .ok (.dup, 1) := by decide +kernel
theorem dX11_premium_54 : decode cX11_premium 54 = .ok (.getfield 223, 3) := by decide +kernel
theorem dX11_premium_57 : decode cX11_premium 57 = .ok (.iconst 1, 1) := by decide +kernel
theorem dX11_premium_58 : decode cX11_premium 58 = .ok (.iadd, 1) := by decide +kernel
theorem dX11_premium_59 : decode cX11_premium 59 = .ok (.putfield 223, 3) := by decide +kernel
theorem dX11_premium_62 : decode cX11_premium 62 = .ok (.aload_n 0, 1) := by decide +kernel
theorem dX11_premium_63 : decode cX11_premium 63 = .ok (.getfield 60, 3) := by decide +kernel
theorem dX11_premium_66 : decode cX11_premium 66 = .ok (.iload_n 3, 1) := by decide +kernel
theorem dX11_premium_67 : decode cX11_premium 67 = .ok (.aload_n 0, 1) := by decide +kernel
theorem dX11_premium_68 : decode cX11_premium 68 = .ok (.getfield 159, 3) := by decide +kernel
theorem dX11_premium_71 : decode cX11_premium 71 = .ok (.iastore, 1) := by decide +kernel
theorem dX11_premium_72 : decode cX11_premium 72 = .ok (.aload_n 0, 1) := by decide +kernel
theorem dX11_premium_73 : decode cX11_premium 73 = .ok (.getfield 63, 3) := by decide +kernel
theorem dX11_premium_76 : decode cX11_premium 76 = .ok (.iload_n 3, 1) := by decide +kernel
theorem dX11_premium_77 : decode cX11_premium 77 = .ok (.iload_n 2, 1) := by decide +kernel
theorem dX11_premium_78 : decode cX11_premium 78 = .ok (.iastore, 1) := by decide +kernel
theorem dX11_premium_79 : decode cX11_premium 79 = .ok (.aload_n 0, 1) := by decide +kernel
theorem dX11_premium_80 : decode cX11_premium 80 = .ok (.getfield 66, 3) := by decide +kernel
theorem dX11_premium_83 : decode cX11_premium 83 = .ok (.iload_n 3, 1) := by decide +kernel
theorem dX11_premium_84 : decode cX11_premium 84 = .ok (.aload_n 0, 1) := by decide +kernel
theorem dX11_premium_85 : decode cX11_premium 85 = .ok (.getfield 26, 3) := by decide +kernel
theorem dX11_premium_88 : decode cX11_premium 88 = .ok (.iload_n 1, 1) := by decide +kernel
theorem dX11_premium_89 : decode cX11_premium 89 = .ok (.iaload, 1) := by decide +kernel
theorem dX11_premium_90 : decode cX11_premium 90 = .ok (.iastore, 1) := by decide +kernel
theorem dX11_premium_91 : decode cX11_premium 91 = .ok (.aload_n 0, 1) := by decide +kernel
theorem dX11_premium_92 : decode cX11_premium 92 = .ok (.dup, 1) := by decide +kernel
theorem dX11_premium_93 : decode cX11_premium 93 = .ok (.getfield 226, 3) := by decide +kernel
theorem dX11_premium_96 : decode cX11_premium 96 = .ok (.iload_n 2, 1) := by decide +kernel
theorem dX11_premium_97 : decode cX11_premium 97 = .ok (.i2l, 1) := by decide +kernel
theorem dX11_premium_98 : decode cX11_premium 98 = .ok (.ladd, 1) := by decide +kernel
theorem dX11_premium_99 : decode cX11_premium 99 = .ok (.putfield 226, 3) := by decide +kernel
theorem dX11_premium_102 : decode cX11_premium 102 = .ok (.iconst 0, 1) := by decide +kernel
theorem dX11_premium_103 : decode cX11_premium 103 = .ok (.istore 4, 2) := by decide +kernel
theorem dX11_premium_105 : decode cX11_premium 105 = .ok (.iload 4, 2) := by decide +kernel
theorem dX11_premium_107 : decode cX11_premium 107 = .ok (.bipush 20, 2) := by decide +kernel
theorem dX11_premium_109 : decode cX11_premium 109 = .ok (.if_icmp .ge 47, 3) := by decide +kernel
theorem dX11_premium_112 : decode cX11_premium 112 = .ok (.aload_n 0, 1) := by decide +kernel
theorem dX11_premium_113 : decode cX11_premium 113 = .ok (.getfield 72, 3) := by decide +kernel
theorem dX11_premium_116 : decode cX11_premium 116 = .ok (.bipush 20, 2) := by decide +kernel
theorem dX11_premium_118 : decode cX11_premium 118 = .ok (.iload_n 3, 1) := by decide +kernel
theorem dX11_premium_119 : decode cX11_premium 119 = .ok (.imul, 1) := by decide +kernel
theorem dX11_premium_120 : decode cX11_premium 120 = .ok (.iload 4, 2) := by decide +kernel
theorem dX11_premium_122 : decode cX11_premium 122 = .ok (.iadd, 1) := by decide +kernel
theorem dX11_premium_123 : decode cX11_premium 123 = .ok (.aload_n 0, 1) := by decide +kernel
theorem dX11_premium_124 : decode cX11_premium 124 = .ok (.iload_n 1, 1) := by decide +kernel
theorem dX11_premium_125 : decode cX11_premium 125 = .ok (.iload 4, 2) := by decide +kernel
theorem dX11_premium_127 : decode cX11_premium 127 = .ok (.invokevirtual 229, 3) := by decide +kernel
theorem dX11_premium_130 : decode cX11_premium 130 = .ok (.iastore, 1) := by decide +kernel
theorem dX11_premium_131 : decode cX11_premium 131 = .ok (.aload_n 0, 1) := by decide +kernel
theorem dX11_premium_132 : decode cX11_premium 132 = .ok (.getfield 75, 3) := by decide +kernel
theorem dX11_premium_135 : decode cX11_premium 135 = .ok (.bipush 20, 2) := by decide +kernel
theorem dX11_premium_137 : decode cX11_premium 137 = .ok (.iload_n 3, 1) := by decide +kernel
theorem dX11_premium_138 : decode cX11_premium 138 = .ok (.imul, 1) := by decide +kernel
theorem dX11_premium_139 : decode cX11_premium 139 = .ok (.iload 4, 2) := by decide +kernel
theorem dX11_premium_141 : decode cX11_premium 141 = .ok (.iadd, 1) := by decide +kernel
theorem dX11_premium_142 : decode cX11_premium 142 = .ok (.aload_n 0, 1) := by decide +kernel
theorem dX11_premium_143 : decode cX11_premium 143 = .ok (.iload_n 1, 1) := by decide +kernel
theorem dX11_premium_144 : decode cX11_premium 144 = .ok (.iload 4, 2) := by decide +kernel
theorem dX11_premium_146 : decode cX11_premium 146 = .ok (.invokevirtual 232, 3) := by decide +kernel
theorem dX11_premium_149 : decode cX11_premium 149 = .ok (.iastore, 1) := by decide +kernel
theorem dX11_premium_150 : decode cX11_premium 150 = .ok (.iinc 4 1, 3) := by decide +kernel
theorem dX11_premium_153 : decode cX11_premium 153 = .ok (.goto (-48), 3) := by decide +kernel
theorem dX11_premium_156 : decode cX11_premium 156 = .ok (.aload_n 0, 1) := by decide +kernel
theorem dX11_premium_157 : decode cX11_premium 157 = .ok (.iload_n 3, 1) := by decide +kernel
theorem dX11_premium_158 : decode cX11_premium 158 = .ok (.aload_n 0, 1) := by decide +kernel
theorem dX11_premium_159 : decode cX11_premium 159 = .ok (.aload_n 0, 1) := by decide +kernel
theorem dX11_premium_160 : decode cX11_premium 160 = .ok (.getfield 159, 3) := by decide +kernel
theorem dX11_premium_163 : decode cX11_premium 163 = .ok (.invokevirtual 235, 3) := by decide +kernel
theorem dX11_premium_166 : decode cX11_premium 166 = .ok (.invokevirtual 238, 3) := by decide +kernel
theorem dX11_premium_169 : decode cX11_premium 169 = .ok (.istore 4, 2) := by decide +kernel
theorem dX11_premium_171 : decode cX11_premium 171 = .ok (.iconst 0, 1) := by decide +kernel
theorem dX11_premium_172 : decode cX11_premium 172 = .ok (.istore 5, 2) := by decide +kernel
theorem dX11_premium_174 : decode cX11_premium 174 = .ok (.iload 5, 2) := by decide +kernel
theorem dX11_premium_176 : decode cX11_premium 176 = .ok (.iload 4, 2) := by decide +kernel
theorem dX11_premium_178 : decode cX11_premium 178 = .ok (.if_icmp .ge 54, 3) := by decide +kernel
theorem dX11_premium_181 : decode cX11_premium 181 = .ok (.aload_n 0, 1) := by decide +kernel
theorem dX11_premium_182 : decode cX11_premium 182 = .ok (.getfield 78, 3) := by decide +kernel
theorem dX11_premium_185 : decode cX11_premium 185 = .ok (.bipush 20, 2) := by decide +kernel
theorem dX11_premium_187 : decode cX11_premium 187 = .ok (.iload_n 3, 1) := by decide +kernel
theorem dX11_premium_188 : decode cX11_premium 188 = .ok (.imul, 1) := by decide +kernel
theorem dX11_premium_189 : decode cX11_premium 189 = .ok (.aload_n 0, 1) := by decide +kernel
theorem dX11_premium_190 : decode cX11_premium 190 = .ok (.getfield 96, 3) := by decide +kernel
theorem dX11_premium_193 : decode cX11_premium 193 = .ok (.iload 5, 2) := by decide +kernel
theorem dX11_premium_195 : decode cX11_premium 195 = .ok (.iaload, 1) := by decide +kernel
theorem dX11_premium_196 : decode cX11_premium 196 = .ok (.iadd, 1) := by decide +kernel
theorem dX11_premium_197 : decode cX11_premium 197 = .ok (.aload_n 0, 1) := by decide +kernel
theorem dX11_premium_198 : decode cX11_premium 198 = .ok (.getfield 36, 3) := by decide +kernel
theorem dX11_premium_201 : decode cX11_premium 201 = .ok (.iload 5, 2) := by decide +kernel
theorem dX11_premium_203 : decode cX11_premium 203 = .ok (.laload, 1) := by decide +kernel
theorem dX11_premium_204 : decode cX11_premium 204 = .ok (.l2i, 1) := by decide +kernel
theorem dX11_premium_205 : decode cX11_premium 205 = .ok (.iastore, 1) := by decide +kernel
theorem dX11_premium_206 : decode cX11_premium 206 = .ok (.aload_n 0, 1) := by decide +kernel
theorem dX11_premium_207 : decode cX11_premium 207 = .ok (.iload_n 3, 1) := by decide +kernel
theorem dX11_premium_208 : decode cX11_premium 208 = .ok (.aload_n 0, 1) := by decide +kernel
theorem dX11_premium_209 : decode cX11_premium 209 = .ok (.getfield 96, 3) := by decide +kernel
theorem dX11_premium_212 : decode cX11_premium 212 = .ok (.iload 5, 2) := by decide +kernel
theorem dX11_premium_214 : decode cX11_premium 214 = .ok (.iaload, 1) := by decide +kernel
theorem dX11_premium_215 : decode cX11_premium 215 = .ok (.aload_n 0, 1) := by decide +kernel
theorem dX11_premium_216 : decode cX11_premium 216 = .ok (.getfield 36, 3) := by decide +kernel
theorem dX11_premium_219 : decode cX11_premium 219 = .ok (.iload 5, 2) := by decide +kernel
theorem dX11_premium_221 : decode cX11_premium 221 = .ok (.laload, 1) := by decide +kernel
theorem dX11_premium_222 : decode cX11_premium 222 = .ok (.l2i, 1) := by decide +kernel
theorem dX11_premium_223 : decode cX11_premium 223 = .ok (.invokevirtual 241, 3) := by decide +kernel
theorem dX11_premium_226 : decode cX11_premium 226 = .ok (.iinc 5 1, 3) := by decide +kernel
theorem dX11_premium_229 : decode cX11_premium 229 = .ok (.goto (-55), 3) := by decide +kernel
theorem dX11_premium_232 : decode cX11_premium 232 = .ok (.iload_n 3, 1) := by decide +kernel
theorem dX11_premium_233 : decode cX11_premium 233 = .ok (.ireturn, 1) := by decide +kernel
theorem dX11_unvote_0 : decode cX11_unvote 0 = .ok (.iload_n 1, 1) := by decide +kernel
theorem dX11_unvote_1 : decode cX11_unvote 1 = .ok (.iconst 0, 1) := by decide +kernel
theorem dX11_unvote_2 : decode cX11_unvote 2 = .ok (.aload_n 0, 1) := by decide +kernel
theorem dX11_unvote_3 : decode cX11_unvote 3 = .ok (.getfield 204, 3) := by decide +kernel
theorem dX11_unvote_6 : decode cX11_unvote 6 = .ok (.iconst 1, 1) := by decide +kernel
theorem dX11_unvote_7 : decode cX11_unvote 7 = .ok (.isub, 1) := by decide +kernel
theorem dX11_unvote_8 : decode cX11_unvote 8 = .ok (.invokestatic 115, 3) := by decide +kernel
theorem dX11_unvote_11 : decode cX11_unvote 11 = .ok (.ifCond .eq 12, 3) := by decide +kernel
theorem dX11_unvote_14 : decode cX11_unvote 14 = .ok (.aload_n 0, 1) := by decide +kernel
theorem dX11_unvote_15 : decode cX11_unvote 15 = .ok (.getfield 51, 3) := by decide +kernel
theorem dX11_unvote_18 : decode cX11_unvote 18 = .ok (.iload_n 1, 1) := by decide +kernel
theorem dX11_unvote_19 : decode cX11_unvote 19 = .ok (.baload, 1) := by decide +kernel
theorem dX11_unvote_20 : decode cX11_unvote 20 = .ok (.ifCond .eq 5, 3) := by decide +kernel
theorem dX11_unvote_23 : decode cX11_unvote 23 = .ok (.iconst (-1), 1) := by decide +kernel
theorem dX11_unvote_24 : decode cX11_unvote 24 = .ok (.ireturn, 1) := by decide +kernel
theorem dX11_unvote_25 : decode cX11_unvote 25 = .ok (.aload_n 0, 1) := by decide +kernel
theorem dX11_unvote_26 : decode cX11_unvote 26 = .ok (.getfield 51, 3) := by decide +kernel
theorem dX11_unvote_29 : decode cX11_unvote 29 = .ok (.iload_n 1, 1) := by decide +kernel
theorem dX11_unvote_30 : decode cX11_unvote 30 = .ok (.iconst 1, 1) := by decide +kernel
theorem dX11_unvote_31 : decode cX11_unvote 31 = .ok (.bastore, 1) := by decide +kernel
theorem dX11_unvote_32 : decode cX11_unvote 32 = .ok (.aload_n 0, 1) := by decide +kernel
theorem dX11_unvote_33 : decode cX11_unvote 33 = .ok (.getfield 212, 3) := by decide +kernel
theorem dX11_unvote_36 : decode cX11_unvote 36 = .ok (.istore_n 2, 1) := by decide +kernel
theorem dX11_unvote_37 : decode cX11_unvote 37 = .ok (.iconst 0, 1) := by decide +kernel
theorem dX11_unvote_38 : decode cX11_unvote 38 = .ok (.istore_n 3, 1) := by decide +kernel
theorem dX11_unvote_39 : decode cX11_unvote 39 = .ok (.iload_n 3, 1) := by decide +kernel
theorem dX11_unvote_40 : decode cX11_unvote 40 = .ok (.aload_n 0, 1) := by decide +kernel
theorem dX11_unvote_41 : decode cX11_unvote 41 = .ok (.getfield 223, 3) := by decide +kernel
theorem dX11_unvote_44 : decode cX11_unvote 44 = .ok (.if_icmp .ge 118, 3) := by decide +kernel
theorem dX11_unvote_47 : decode cX11_unvote 47 = .ok (.aload_n 0, 1) := by decide +kernel
theorem dX11_unvote_48 : decode cX11_unvote 48 = .ok (.getfield 69, 3) := by decide +kernel
theorem dX11_unvote_51 : decode cX11_unvote 51 = .ok (.iload_n 3, 1) := by decide +kernel
theorem dX11_unvote_52 : decode cX11_unvote 52 = .ok (.iaload, 1) := by decide +kernel
theorem dX11_unvote_53 : decode cX11_unvote 53 = .ok (.iload_n 1, 1) := by decide +kernel
theorem dX11_unvote_54 : decode cX11_unvote 54 = .ok (.if_icmp .eq 6, 3) := by decide +kernel
theorem dX11_unvote_57 : decode cX11_unvote 57 = .ok (.goto 99, 3) := by decide +kernel
theorem dX11_unvote_60 : decode cX11_unvote 60 = .ok (.aload_n 0, 1) := by decide +kernel
theorem dX11_unvote_61 : decode cX11_unvote 61 = .ok (.iload_n 3, 1) := by decide +kernel
theorem dX11_unvote_62 : decode cX11_unvote 62 = .ok (.aload_n 0, 1) := by decide +kernel
theorem dX11_unvote_63 : decode cX11_unvote 63 = .ok (.aload_n 0, 1) := by decide +kernel
theorem dX11_unvote_64 : decode cX11_unvote 64 = .ok (.getfield 60, 3) := by decide +kernel
theorem dX11_unvote_67 : decode cX11_unvote 67 = .ok (.iload_n 3, 1) := by decide +kernel
theorem dX11_unvote_68 : decode cX11_unvote 68 = .ok (.iaload, 1) := by decide +kernel
theorem dX11_unvote_69 : decode cX11_unvote 69 = .ok (.invokevirtual 235, 3) := by decide +kernel
theorem dX11_unvote_72 : decode cX11_unvote 72 = .ok (.invokevirtual 238, 3) := by decide +kernel
theorem dX11_unvote_75 : decode cX11_unvote 75 = .ok (.istore 4, 2) := by decide +kernel
theorem dX11_unvote_77 : decode cX11_unvote 77 = .ok (.iconst 0, 1) := by decide +kernel
theorem dX11_unvote_78 : decode cX11_unvote 78 = .ok (.istore 5, 2) := by decide +kernel
theorem dX11_unvote_80 : decode cX11_unvote 80 = .ok (.iload 5, 2) := by decide +kernel
theorem dX11_unvote_82 : decode cX11_unvote 82 = .ok (.iload 4, 2) := by decide +kernel
theorem dX11_unvote_84 : decode cX11_unvote 84 = .ok (.if_icmp .ge 72, 3) := by decide +kernel
theorem dX11_unvote_87 : decode cX11_unvote 87 = .ok (.bipush 20, 2) := by decide +kernel
theorem dX11_unvote_89 : decode cX11_unvote 89 = .ok (.iload_n 3, 1) := by decide +kernel
theorem dX11_unvote_90 : decode cX11_unvote 90 = .ok (.imul, 1) := by decide +kernel
theorem dX11_unvote_91 : decode cX11_unvote 91 = .ok (.aload_n 0, 1) := by decide +kernel
theorem dX11_unvote_92 : decode cX11_unvote 92 = .ok (.getfield 96, 3) := by decide +kernel
theorem dX11_unvote_95 : decode cX11_unvote 95 = .ok (.iload 5, 2) := by decide +kernel
theorem dX11_unvote_97 : decode cX11_unvote 97 = .ok (.iaload, 1) := by decide +kernel
theorem dX11_unvote_98 : decode cX11_unvote 98 = .ok (.iadd, 1) := by decide +kernel
theorem dX11_unvote_99 : decode cX11_unvote 99 = .ok (.istore 6, 2) := by decide +kernel
theorem dX11_unvote_101 : decode cX11_unvote 101 = .ok (.aload_n 0, 1) := by decide +kernel
theorem dX11_unvote_102 : decode cX11_unvote 102 = .ok (.getfield 36, 3) := by decide +kernel
theorem dX11_unvote_105 : decode cX11_unvote 105 = .ok (.iload 5, 2) := by decide +kernel
theorem dX11_unvote_107 : decode cX11_unvote 107 = .ok (.laload, 1) := by decide +kernel
theorem dX11_unvote_108 : decode cX11_unvote 108 = .ok (.l2i, 1) := by decide +kernel
theorem dX11_unvote_109 : decode cX11_unvote 109 = .ok (.aload_n 0, 1) := by decide +kernel
theorem dX11_unvote_110 : decode cX11_unvote 110 = .ok (.getfield 78, 3) := by decide +kernel
theorem dX11_unvote_113 : decode cX11_unvote 113 = .ok (.iload 6, 2) := by decide +kernel
theorem dX11_unvote_115 : decode cX11_unvote 115 = .ok (.iaload, 1) := by decide +kernel
theorem dX11_unvote_116 : decode cX11_unvote 116 = .ok (.isub, 1) := by decide +kernel
theorem dX11_unvote_117 : decode cX11_unvote 117 = .ok (.istore 7, 2) := by decide +kernel
theorem dX11_unvote_119 : decode cX11_unvote 119 = .ok (.iload 7, 2) := by decide +kernel
theorem dX11_unvote_121 : decode cX11_unvote 121 = .ok (.ifCond .eq 29, 3) := by decide +kernel
theorem dX11_unvote_124 : decode cX11_unvote 124 = .ok (.aload_n 0, 1) := by decide +kernel
theorem dX11_unvote_125 : decode cX11_unvote 125 = .ok (.iload_n 3, 1) := by decide +kernel
theorem dX11_unvote_126 : decode cX11_unvote 126 = .ok (.aload_n 0, 1) := by decide +kernel
theorem dX11_unvote_127 : decode cX11_unvote 127 = .ok (.getfield 96, 3) := by decide +kernel
theorem dX11_unvote_130 : decode cX11_unvote 130 = .ok (.iload 5, 2) := by decide +kernel
theorem dX11_unvote_132 : decode cX11_unvote 132 = .ok (.iaload, 1) := by decide +kernel
theorem dX11_unvote_133 : decode cX11_unvote 133 = .ok (.iload 7, 2) := by decide +kernel
theorem dX11_unvote_135 : decode cX11_unvote 135 = .ok (.invokevirtual 241, 3) := by decide +kernel
theorem dX11_unvote_138 : decode cX11_unvote 138 = .ok (.aload_n 0, 1) := by decide +kernel
theorem dX11_unvote_139 : decode cX11_unvote 139 = .ok (.getfield 78, 3) := by decide +kernel
theorem dX11_unvote_142 : decode cX11_unvote 142 = .ok (.iload 6, 2) := by decide +kernel
theorem dX11_unvote_144 : decode cX11_unvote 144 = .ok (.dup2, 1) := by decide +kernel
theorem dX11_unvote_145 : decode cX11_unvote 145 = .ok (.iaload, 1) := by decide +kernel
theorem dX11_unvote_146 : decode cX11_unvote 146 = .ok (.iload 7, 2) := by decide +kernel
theorem dX11_unvote_148 : decode cX11_unvote 148 = .ok (.iadd, 1) := by decide +kernel
theorem dX11_unvote_149 : decode cX11_unvote 149 = .ok (.iastore, 1) := by decide +kernel
theorem dX11_unvote_150 : decode cX11_unvote 150 = .ok (.iinc 5 1, 3) := by decide +kernel
theorem dX11_unvote_153 : decode cX11_unvote 153 = .ok (.goto (-73), 3) := by decide +kernel
theorem dX11_unvote_156 : decode cX11_unvote 156 = .ok (.iinc 3 1, 3) := by decide +kernel
theorem dX11_unvote_159 : decode cX11_unvote 159 = .ok (.goto (-120), 3) := by decide +kernel
theorem dX11_unvote_162 : decode cX11_unvote 162 = .ok (.aload_n 0, 1) := by decide +kernel
theorem dX11_unvote_163 : decode cX11_unvote 163 = .ok (.getfield 212, 3) := by decide +kernel
theorem dX11_unvote_166 : decode cX11_unvote 166 = .ok (.iload_n 2, 1) := by decide +kernel
theorem dX11_unvote_167 : decode cX11_unvote 167 = .ok (.isub, 1) := by decide +kernel
theorem dX11_unvote_168 : decode cX11_unvote 168 = .ok (.ireturn, 1) := by decide +kernel
