theorem dX11_init_0 : decode cX11_init 0 = .ok (.aload_n 0, 1) := by decide +kernel
theorem dX11_init_1 : decode cX11_init 1 = .ok (.invokespecial 1, 3) := by decide +kernel
theorem dX11_init_4 : decode cX11_init 4 = .ok (.aload_n 0, 1) := by decide +kernel
theorem dX11_init_5 : decode cX11_init 5 = .ok (.bipush 100, 2) := by decide +kernel
theorem dX11_init_7 : decode cX11_init 7 = .ok (.newarray .int, 2) := by decide +kernel
theorem dX11_init_9 : decode cX11_init 9 = .ok (.putfield 9, 3) := by decide +kernel
theorem dX11_init_12 : decode cX11_init 12 = .ok (.aload_n 0, 1) := by decide +kernel
theorem dX11_init_13 : decode cX11_init 13 = .ok (.sipush 6000, 3) := by decide +kernel
theorem dX11_init_16 : decode cX11_init 16 = .ok (.newarray .int, 2) := by decide +kernel
theorem dX11_init_18 : decode cX11_init 18 = .ok (.putfield 13, 3) := by decide +kernel
theorem dX11_init_21 : decode cX11_init 21 = .ok (.aload_n 0, 1) := by decide +kernel
theorem dX11_init_22 : decode cX11_init 22 = .ok (.bipush 100, 2) := by decide +kernel
theorem dX11_init_24 : decode cX11_init 24 = .ok (.newarray .int, 2) := by decide +kernel
theorem dX11_init_26 : decode cX11_init 26 = .ok (.putfield 16, 3) := by decide +kernel
theorem dX11_init_29 : decode cX11_init 29 = .ok (.aload_n 0, 1) := by decide +kernel
theorem dX11_init_30 : decode cX11_init 30 = .ok (.bipush 100, 2) := by decide +kernel
theorem dX11_init_32 : decode cX11_init 32 = .ok (.newarray .int, 2) := by decide +kernel
theorem dX11_init_34 : decode cX11_init 34 = .ok (.putfield 19, 3) := by decide +kernel
theorem dX11_init_37 : decode cX11_init 37 = .ok (.aload_n 0, 1) := by decide +kernel
theorem dX11_init_38 : decode cX11_init 38 = .ok (.bipush 100, 2) := by decide +kernel
theorem dX11_init_40 : decode cX11_init 40 = .ok (.newarray .boolean, 2) := by decide +kernel
theorem dX11_init_42 : decode cX11_init 42 = .ok (.putfield 22, 3) := by decide +kernel
theorem dX11_init_45 : decode cX11_init 45 = .ok (.aload_n 0, 1) := by decide +kernel
theorem dX11_init_46 : decode cX11_init 46 = .ok (.bipush 100, 2) := by decide +kernel
theorem dX11_init_48 : decode cX11_init 48 = .ok (.newarray .int, 2) := by decide +kernel
theorem dX11_init_50 : decode cX11_init 50 = .ok (.putfield 26, 3) := by decide +kernel
theorem dX11_init_53 : decode cX11_init 53 = .ok (.aload_n 0, 1) := by decide +kernel
theorem dX11_init_54 : decode cX11_init 54 = .ok (.bipush 100, 2) := by decide +kernel
theorem dX11_init_56 : decode cX11_init 56 = .ok (.newarray .int, 2) := by decide +kernel
theorem dX11_init_58 : decode cX11_init 58 = .ok (.putfield 29, 3) := by decide +kernel
theorem dX11_init_61 : decode cX11_init 61 = .ok (.aload_n 0, 1) := by decide +kernel
theorem dX11_init_62 : decode cX11_init 62 = .ok (.bipush 60, 2) := by decide +kernel
theorem dX11_init_64 : decode cX11_init 64 = .ok (.newarray .long, 2) := by decide +kernel
theorem dX11_init_66 : decode cX11_init 66 = .ok (.putfield 32, 3) := by decide +kernel
theorem dX11_init_69 : decode cX11_init 69 = .ok (.aload_n 0, 1) := by decide +kernel
theorem dX11_init_70 : decode cX11_init 70 = .ok (.bipush 60, 2) := by decide +kernel
theorem dX11_init_72 : decode cX11_init 72 = .ok (.newarray .long, 2) := by decide +kernel
theorem dX11_init_74 : decode cX11_init 74 = .ok (.putfield 36, 3) := by decide +kernel
theorem dX11_init_77 : decode cX11_init 77 = .ok (.aload_n 0, 1) := by decide +kernel
theorem dX11_init_78 : decode cX11_init 78 = .ok (.bipush 60, 2) := by decide +kernel
theorem dX11_init_80 : decode cX11_init 80 = .ok (.newarray .boolean, 2) := by decide +kernel
theorem dX11_init_82 : decode cX11_init 82 = .ok (.putfield 39, 3) := by decide +kernel
theorem dX11_init_85 : decode cX11_init 85 = .ok (.aload_n 0, 1) := by decide +kernel
theorem dX11_init_86 : decode cX11_init 86 = .ok (.sipush 220, 3) := by decide +kernel
theorem dX11_init_89 : decode cX11_init 89 = .ok (.newarray .int, 2) := by decide +kernel
theorem dX11_init_91 : decode cX11_init 91 = .ok (.putfield 42, 3) := by decide +kernel
theorem dX11_init_94 : decode cX11_init 94 = .ok (.aload_n 0, 1) := by decide +kernel
theorem dX11_init_95 : decode cX11_init 95 = .ok (.sipush 21000, 3) := by decide +kernel
theorem dX11_init_98 : decode cX11_init 98 = .ok (.newarray .int, 2) := by decide +kernel
theorem dX11_init_100 : decode cX11_init 100 = .ok (.putfield 45, 3) := by decide +kernel
theorem dX11_init_103 : decode cX11_init 103 = .ok (.aload_n 0, 1) := by decide +kernel
theorem dX11_init_104 : decode cX11_init 104 = .ok (.bipush 50, 2) := by decide +kernel
theorem dX11_init_106 : decode cX11_init 106 = .ok (.newarray .int, 2) := by decide +kernel
theorem dX11_init_108 : decode cX11_init 108 = .ok (.putfield 48, 3) := by decide +kernel
theorem dX11_init_111 : decode cX11_init 111 = .ok (.aload_n 0, 1) := by decide +kernel
theorem dX11_init_112 : decode cX11_init 112 = .ok (.bipush 50, 2) := by decide +kernel
theorem dX11_init_114 : decode cX11_init 114 = .ok (.newarray .boolean, 2) := by decide +kernel
theorem dX11_init_116 : decode cX11_init 116 = .ok (.putfield 51, 3) := by decide +kernel
theorem dX11_init_119 : decode cX11_init 119 = .ok (.aload_n 0, 1) := by decide +kernel
theorem dX11_init_120 : decode cX11_init 120 = .ok (.sipush 420, 3) := by decide +kernel
theorem dX11_init_123 : decode cX11_init 123 = .ok (.newarray .int, 2) := by decide +kernel
theorem dX11_init_125 : decode cX11_init 125 = .ok (.putfield 54, 3) := by decide +kernel
theorem dX11_init_128 : decode cX11_init 128 = .ok (.aload_n 0, 1) := by decide +kernel
theorem dX11_init_129 : decode cX11_init 129 = .ok (.sipush 420, 3) := by decide +kernel
theorem dX11_init_132 : decode cX11_init 132 = .ok (.newarray .long, 2) := by decide +kernel
theorem dX11_init_134 : decode cX11_init 134 = .ok (.putfield 57, 3) := by decide +kernel
theorem dX11_init_137 : decode cX11_init 137 = .ok (.aload_n 0, 1) := by decide +kernel
theorem dX11_init_138 : decode cX11_init 138 = .ok (.bipush 100, 2) := by decide +kernel
theorem dX11_init_140 : decode cX11_init 140 = .ok (.newarray .int, 2) := by decide +kernel
theorem dX11_init_142 : decode cX11_init 142 = .ok (.putfield 60, 3) := by decide +kernel
theorem dX11_init_145 : decode cX11_init 145 = .ok (.aload_n 0, 1) := by decide +kernel
theorem dX11_init_146 : decode cX11_init 146 = .ok (.bipush 100, 2) := by decide +kernel
theorem dX11_init_148 : decode cX11_init 148 = .ok (.newarray .int, 2) := by decide +kernel
theorem dX11_init_150 : decode cX11_init 150 = .ok (.putfield 63, 3) := by decide +kernel
theorem dX11_init_153 : decode cX11_init 153 = .ok (.aload_n 0, 1) := by decide +kernel
theorem dX11_init_154 : decode cX11_init 154 = .ok (.bipush 100, 2) := by decide +kernel
theorem dX11_init_156 : decode cX11_init 156 = .ok (.newarray .int, 2) := by decide +kernel
theorem dX11_init_158 : decode cX11_init 158 = .ok (.putfield 66, 3) := by decide +kernel
theorem dX11_init_161 : decode cX11_init 161 = .ok (.aload_n 0, 1) := by decide +kernel
theorem dX11_init_162 : decode cX11_init 162 = .ok (.bipush 100, 2) := by decide +kernel
theorem dX11_init_164 : decode cX11_init 164 = .ok (.newarray .int, 2) := by decide +kernel
theorem dX11_init_166 : decode cX11_init 166 = .ok (.putfield 69, 3) := by decide +kernel
theorem dX11_init_169 : decode cX11_init 169 = .ok (.aload_n 0, 1) := by decide +kernel
theorem dX11_init_170 : decode cX11_init 170 = .ok (.sipush 2000, 3) := by decide +kernel
theorem dX11_init_173 : decode cX11_init 173 = .ok (.newarray .int, 2) := by decide +kernel
theorem dX11_init_175 : decode cX11_init 175 = .ok (.putfield 72, 3) := by decide +kernel
theorem dX11_init_178 : decode cX11_init 178 = .ok (.aload_n 0, 1) := by decide +kernel
theorem dX11_init_179 : decode cX11_init 179 = .ok (.sipush 2000, 3) := by decide +kernel
theorem dX11_init_182 : decode cX11_init 182 = .ok (.newarray .int, 2) := by decide +kernel
theorem dX11_init_184 : decode cX11_init 184 = .ok (.putfield 75, 3) := by decide +kernel
theorem dX11_init_187 : decode cX11_init 187 = .ok (.aload_n 0, 1) := by decide +kernel
theorem dX11_init_188 : decode cX11_init 188 = .ok (.sipush 2000, 3) := by decide +kernel
theorem dX11_init_191 : decode cX11_init 191 = .ok (.newarray .int, 2) := by decide +kernel
theorem dX11_init_193 : decode cX11_init 193 = .ok (.putfield 78, 3) := by decide +kernel
theorem dX11_init_196 : decode cX11_init 196 = .ok (.aload_n 0, 1) := by decide +kernel
theorem dX11_init_197 : decode cX11_init 197 = .ok (.sipush 256, 3) := by decide +kernel
theorem dX11_init_200 : decode cX11_init 200 = .ok (.newarray .int, 2) := by decide +kernel
theorem dX11_init_202 : decode cX11_init 202 = .ok (.putfield 81, 3) := by decide +kernel
theorem dX11_init_205 : decode cX11_init 205 = .ok (.aload_n 0, 1) := by decide +kernel
theorem dX11_init_206 : decode cX11_init 206 = .ok (.sipush 256, 3) := by decide +kernel
theorem dX11_init_209 : decode cX11_init 209 = .ok (.newarray .int, 2) := by decide +kernel
theorem dX11_init_211 : decode cX11_init 211 = .ok (.putfield 84, 3) := by decide +kernel
theorem dX11_init_214 : decode cX11_init 214 = .ok (.aload_n 0, 1) := by decide +kernel
theorem dX11_init_215 : decode cX11_init 215 = .ok (.sipush 256, 3) := by decide +kernel
theorem dX11_init_218 : decode cX11_init 218 = .ok (.newarray .int, 2) := by decide +kernel
theorem dX11_init_220 : decode cX11_init 220 = .ok (.putfield 87, 3) := by decide +kernel
theorem dX11_init_223 : decode cX11_init 223 = .ok (.aload_n 0, 1) := by decide +kernel
theorem dX11_init_224 : decode cX11_init 224 = .ok (.sipush 256, 3) := by decide +kernel
theorem dX11_init_227 : decode cX11_init 227 = .ok (.newarray .int, 2) := by decide +kernel
theorem dX11_init_229 : decode cX11_init 229 = .ok (.putfield 90, 3) := by decide +kernel
theorem dX11_init_232 : decode cX11_init 232 = .ok (.aload_n 0, 1) := by decide +kernel
theorem dX11_init_233 : decode cX11_init 233 = .ok (.bipush 20, 2) := by decide +kernel
theorem dX11_init_235 : decode cX11_init 235 = .ok (.newarray .int, 2) := by decide +kernel
theorem dX11_init_237 : decode cX11_init 237 = .ok (.putfield 93, 3) := by decide +kernel
theorem dX11_init_240 : decode cX11_init 240 = .ok (.aload_n 0, 1) := by decide +kernel
theorem dX11_init_241 : decode cX11_init 241 = .ok (.bipush 20, 2) := by decide +kernel
theorem dX11_init_243 : decode cX11_init 243 = .ok (.newarray .int, 2) := by decide +kernel
theorem dX11_init_245 : decode cX11_init 245 = .ok (.putfield 96, 3) := by decide +kernel
theorem dX11_init_248 : decode cX11_init 248 = .ok (.aload_n 0, 1) := by decide +kernel
theorem dX11_init_249 : decode cX11_init 249 = .ok (.bipush 60, 2) := by decide +kernel
theorem dX11_init_251 : decode cX11_init 251 = .ok (.newarray .int, 2) := by decide +kernel
theorem dX11_init_253 : decode cX11_init 253 = .ok (.putfield 99, 3) := by decide +kernel
theorem dX11_init_256 : decode cX11_init 256 = .ok (.aload_n 0, 1) := by decide +kernel
theorem dX11_init_257 : decode cX11_init 257 = .ok (.bipush 60, 2) := by decide +kernel
theorem dX11_init_259 : decode cX11_init 259 = .ok (.newarray .int, 2) := by decide +kernel
theorem dX11_init_261 : decode cX11_init 261 = .ok (.putfield 102, 3) := by decide +kernel
theorem dX11_init_264 : decode cX11_init 264 = .ok (.aload_n 0, 1) := by decide +kernel
theorem dX11_init_265 : decode cX11_init 265 = .ok (.bipush 60, 2) := by decide +kernel
theorem dX11_init_267 : decode cX11_init 267 = .ok (.newarray .int, 2) := by decide +kernel
theorem dX11_init_269 : decode cX11_init 269 = .ok (.putfield 105, 3) := by decide +kernel
theorem dX11_init_272 : decode cX11_init 272 = .ok (.aload_n 0, 1) := by decide +kernel
theorem dX11_init_273 : decode cX11_init 273 = .ok (.bipush 60, 2) := by decide +kernel
theorem dX11_init_275 : decode cX11_init 275 = .ok (.newarray .int, 2) := by decide +kernel
theorem dX11_init_277 : decode cX11_init 277 = .ok (.putfield 108, 3) := by decide +kernel
theorem dX11_init_280 : decode cX11_init 280 = .ok (.return_, 1) := by decide +kernel
theorem dX11_in_0 : decode cX11_in 0 = .ok (.iload_n 0, 1) := by decide +kernel
theorem dX11_in_1 : decode cX11_in 1 = .ok (.iload_n 1, 1) := by decide +kernel
theorem dX11_in_2 : decode cX11_in 2 = .ok (.if_icmp .lt 12, 3) := by decide +kernel
theorem dX11_in_5 : decode cX11_in 5 = .ok (.iload_n 0, 1) := by decide +kernel
theorem dX11_in_6 : decode cX11_in 6 = .ok (.iload_n 2, 1) := by decide +kernel
theorem dX11_in_7 : decode cX11_in 7 = .ok (.if_icmp .gt 7, 3) := by decide +kernel
theorem dX11_in_10 : decode cX11_in 10 = .ok (.iconst 1, 1) := by decide +kernel
theorem dX11_in_11 : decode cX11_in 11 = .ok (.goto 4, 3) := by decide +kernel
theorem dX11_in_14 : decode cX11_in 14 = .ok (.iconst 0, 1) := by decide +kernel
theorem dX11_in_15 : decode cX11_in 15 = .ok (.ireturn, 1) := by decide +kernel
theorem dX11_is_0 : decode cX11_is 0 = .ok (.iload_n 1, 1) := by decide +kernel
theorem dX11_is_1 : decode cX11_is 1 = .ok (.iconst 0, 1) := by decide +kernel
theorem dX11_is_2 : decode cX11_is 2 = .ok (.aload_n 0, 1) := by decide +kernel
theorem dX11_is_3 : decode cX11_is 3 = .ok (.getfield 111, 3) := by decide +kernel
theorem dX11_is_6 : decode cX11_is 6 = .ok (.iconst 1, 1) := by decide +kernel
theorem dX11_is_7 : decode cX11_is 7 = .ok (.isub, 1) := by decide +kernel
theorem dX11_is_8 : decode cX11_is 8 = .ok (.invokestatic 115, 3) := by decide +kernel
theorem dX11_is_11 : decode cX11_is 11 = .ok (.ifCond .eq 17, 3) := by decide +kernel
theorem dX11_is_14 : decode cX11_is 14 = .ok (.aload_n 0, 1) := by decide +kernel
theorem dX11_is_15 : decode cX11_is 15 = .ok (.getfield 9, 3) := by decide +kernel
theorem dX11_is_18 : decode cX11_is 18 = .ok (.iload_n 1, 1) := by decide +kernel
theorem dX11_is_19 : decode cX11_is 19 = .ok (.iaload, 1) := by decide +kernel
theorem dX11_is_20 : decode cX11_is 20 = .ok (.iload_n 2, 1) := by decide +kernel
theorem dX11_is_21 : decode cX11_is 21 = .ok (.if_icmp .ne 7, 3) := by decide +kernel
theorem dX11_is_24 : decode cX11_is 24 = .ok (.iconst 1, 1) := by decide +kernel
theorem dX11_is_25 : decode cX11_is 25 = .ok (.goto 4, 3) := by decide +kernel
theorem dX11_is_28 : decode cX11_is 28 = .ok (.iconst 0, 1) := by decide +kernel
theorem dX11_is_29 : decode cX11_is 29 = .ok (.ireturn, 1) := by decide +kernel
theorem dX11_dryOf_0 : decode cX11_dryOf 0 = .ok (.iconst 0, 1) := by decide +kernel
theorem dX11_dryOf_1 : decode cX11_dryOf 1 = .ok (.istore_n 2, 1) := by decide +kernel
theorem dX11_dryOf_2 : decode cX11_dryOf 2 = .ok (.iconst 0, 1) := by decide +kernel
theorem dX11_dryOf_3 : decode cX11_dryOf 3 = .ok (.istore_n 3, 1) := by decide +kernel
theorem dX11_dryOf_4 : decode cX11_dryOf 4 = .ok (.iload_n 3, 1) := by decide +kernel
theorem dX11_dryOf_5 : decode cX11_dryOf 5 = .ok (.bipush 60, 2) := by decide +kernel
theorem dX11_dryOf_7 : decode cX11_dryOf 7 = .ok (.if_icmp .ge 23, 3) := by decide +kernel
theorem dX11_dryOf_10 : decode cX11_dryOf 10 = .ok (.iload_n 2, 1) := by decide +kernel
theorem dX11_dryOf_11 : decode cX11_dryOf 11 = .ok (.aload_n 0, 1) := by decide +kernel
theorem dX11_dryOf_12 : decode cX11_dryOf 12 = .ok (.getfield 13, 3) := by decide +kernel
theorem dX11_dryOf_15 : decode cX11_dryOf 15 = .ok (.bipush 60, 2) := by decide +kernel
theorem dX11_dryOf_17 : decode cX11_dryOf 17 = .ok (.iload_n 1, 1) := by decide +kernel
theorem dX11_dryOf_18 : decode cX11_dryOf 18 = .ok (.imul, 1) := by decide +kernel
theorem dX11_dryOf_19 : decode cX11_dryOf 19 = .ok (.iload_n 3, 1) := by decide +kernel
theorem dX11_dryOf_20 : decode cX11_dryOf 20 = .ok (.iadd, 1) := by decide +kernel
theorem dX11_dryOf_21 : decode cX11_dryOf 21 = .ok (.iaload, 1) := by decide +kernel
theorem dX11_dryOf_22 : decode cX11_dryOf 22 = .ok (.iadd, 1) := by decide +kernel
theorem dX11_dryOf_23 : decode cX11_dryOf 23 = .ok (.istore_n 2, 1) := by decide +kernel
theorem dX11_dryOf_24 : decode cX11_dryOf 24 = .ok (.iinc 3 1, 3) := by decide +kernel
theorem dX11_dryOf_27 : decode cX11_dryOf 27 = .ok (.goto (-23), 3) := by decide +kernel
theorem dX11_dryOf_30 : decode cX11_dryOf 30 = .ok (.iload_n 2, 1) := by decide +kernel
theorem dX11_dryOf_31 : decode cX11_dryOf 31 = .ok (.ireturn, 1) := by decide +kernel
theorem dX11_weight_0 : decode cX11_weight 0 = .ok (.aload_n 0, 1) := by decide +kernel
theorem dX11_weight_1 : decode cX11_weight 1 = .ok (.iload_n 1, 1) := by decide +kernel
theorem dX11_weight_2 : decode cX11_weight 2 = .ok (.invokevirtual 119, 3) := by decide +kernel
theorem dX11_weight_5 : decode cX11_weight 5 = .ok (.aload_n 0, 1) := by decide +kernel
theorem dX11_weight_6 : decode cX11_weight 6 = .ok (.getfield 16, 3) := by decide +kernel
theorem dX11_weight_9 : decode cX11_weight 9 = .ok (.iload_n 1, 1) := by decide +kernel
theorem dX11_weight_10 : decode cX11_weight 10 = .ok (.iaload, 1) := by decide +kernel
theorem dX11_weight_11 : decode cX11_weight 11 = .ok (.iadd, 1) := by decide +kernel
theorem dX11_weight_12 : decode cX11_weight 12 = .ok (.ireturn, 1) := by decide +kernel
theorem dX11_wetness_0 : decode cX11_wetness 0 = .ok (.aload_n 0, 1) := by decide +kernel
theorem dX11_wetness_1 : decode cX11_wetness 1 = .ok (.iload_n 1, 1) := by decide +kernel
theorem dX11_wetness_2 : decode cX11_wetness 2 = .ok (.invokevirtual 123, 3) := by decide +kernel
theorem dX11_wetness_5 : decode cX11_wetness 5 = .ok (.istore_n 2, 1) := by decide +kernel
theorem dX11_wetness_6 : decode cX11_wetness 6 = .ok (.iload_n 2, 1) := by decide +kernel
theorem dX11_wetness_7 : decode cX11_wetness 7 = .ok (.ifCond .ne 7, 3) := by decide +kernel
theorem dX11_wetness_10 : decode cX11_wetness 10 = .ok (.iconst 0, 1) := by decide +kernel
theorem dX11_wetness_11 : decode cX11_wetness 11 = .ok (.goto 18, 3) := by decide +kernel
theorem dX11_wetness_14 : decode cX11_wetness 14 = .ok (.ldc2_w 126, 3) := by decide +kernel
theorem dX11_wetness_17 : decode cX11_wetness 17 = .ok (.aload_n 0, 1) := by decide +kernel
theorem dX11_wetness_18 : decode cX11_wetness 18 = .ok (.getfield 16, 3) := by decide +kernel
theorem dX11_wetness_21 : decode cX11_wetness 21 = .ok (.iload_n 1, 1) := by decide +kernel
theorem dX11_wetness_22 : decode cX11_wetness 22 = .ok (.iaload, 1) := by decide +kernel
theorem dX11_wetness_23 : decode cX11_wetness 23 = .ok (.i2l, 1) := by decide +kernel
theorem dX11_wetness_24 : decode cX11_wetness 24 = .ok (.lmul, 1) := by decide +kernel
theorem dX11_wetness_25 : decode cX11_wetness 25 = .ok (.iload_n 2, 1) := by decide +kernel
theorem dX11_wetness_26 : decode cX11_wetness 26 = .ok (.i2l, 1) := by decide +kernel
theorem dX11_wetness_27 : decode cX11_wetness 27 = .ok (.ldiv, 1) := by decide +kernel
theorem dX11_wetness_28 : decode cX11_wetness 28 = .ok (.l2i, 1) := by decide +kernel
theorem dX11_wetness_29 : decode cX11_wetness 29 = .ok (.ireturn, 1) := by decide +kernel
