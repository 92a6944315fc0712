theorem dX5_work_0 : decode cX5_work 0 = .ok (.aload_n 0, 1) := by decide +kernel
theorem dX5_work_1 : decode cX5_work 1 = .ok (.iconst 0, 1) := by decide +kernel
theorem dX5_work_2 : decode cX5_work 2 = .ok (.putfield 18, 3) := by decide +kernel
theorem dX5_work_5 : decode cX5_work 5 = .ok (.aload_n 0, 1) := by decide +kernel
theorem dX5_work_6 : decode cX5_work 6 = .ok (.invokevirtual 22, 3) := by decide +kernel
theorem dX5_work_9 : decode cX5_work 9 = .ok (.lconst 0, 1) := by decide +kernel
theorem dX5_work_10 : decode cX5_work 10 = .ok (.lstore 5, 2) := by decide +kernel
theorem dX5_work_12 : decode cX5_work 12 = .ok (.iconst 0, 1) := by decide +kernel
theorem dX5_work_13 : decode cX5_work 13 = .ok (.istore 7, 2) := by decide +kernel
theorem dX5_work_15 : decode cX5_work 15 = .ok (.iload 7, 2) := by decide +kernel
theorem dX5_work_17 : decode cX5_work 17 = .ok (.aload_n 1, 1) := by decide +kernel
theorem dX5_work_18 : decode cX5_work 18 = .ok (.getfield 25, 3) := by decide +kernel
theorem dX5_work_21 : decode cX5_work 21 = .ok (.if_icmp .ge 241, 3) := by decide +kernel
theorem dX5_work_24 : decode cX5_work 24 = .ok (.aload_n 1, 1) := by decide +kernel
theorem dX5_work_25 : decode cX5_work 25 = .ok (.getfield 30, 3) := by decide +kernel
theorem dX5_work_28 : decode cX5_work 28 = .ok (.iload 7, 2) := by decide +kernel
theorem dX5_work_30 : decode cX5_work 30 = .ok (.baload, 1) := by decide +kernel
theorem dX5_work_31 : decode cX5_work 31 = .ok (.istore 8, 2) := by decide +kernel
theorem dX5_work_33 : decode cX5_work 33 = .ok (.iload 8, 2) := by decide +kernel
theorem dX5_work_35 : decode cX5_work 35 = .ok (.invokestatic 34, 3) := by decide +kernel
theorem dX5_work_38 : decode cX5_work 38 = .ok (.ifCond .eq 64, 3) := by decide +kernel
theorem dX5_work_41 : decode cX5_work 41 = .ok (.lload 5, 2) := by decide +kernel
theorem dX5_work_43 : decode cX5_work 43 = .ok (.ldc2_w 38, 3) := by decide +kernel
theorem dX5_work_46 : decode cX5_work 46 = .ok (.lmul, 1) := by decide +kernel
theorem dX5_work_47 : decode cX5_work 47 = .ok (.iload 8, 2) := by decide +kernel
theorem dX5_work_49 : decode cX5_work 49 = .ok (.bipush 48, 2) := by decide +kernel
theorem dX5_work_51 : decode cX5_work 51 = .ok (.isub, 1) := by decide +kernel
theorem dX5_work_52 : decode cX5_work 52 = .ok (.i2l, 1) := by decide +kernel
theorem dX5_work_53 : decode cX5_work 53 = .ok (.ladd, 1) := by decide +kernel
theorem dX5_work_54 : decode cX5_work 54 = .ok (.lstore 5, 2) := by decide +kernel
theorem dX5_work_56 : decode cX5_work 56 = .ok (.iload 7, 2) := by decide +kernel
theorem dX5_work_58 : decode cX5_work 58 = .ok (.iconst 1, 1) := by decide +kernel
theorem dX5_work_59 : decode cX5_work 59 = .ok (.iadd, 1) := by decide +kernel
theorem dX5_work_60 : decode cX5_work 60 = .ok (.aload_n 1, 1) := by decide +kernel
theorem dX5_work_61 : decode cX5_work 61 = .ok (.getfield 25, 3) := by decide +kernel
theorem dX5_work_64 : decode cX5_work 64 = .ok (.if_icmp .eq 18, 3) := by decide +kernel
theorem dX5_work_67 : decode cX5_work 67 = .ok (.aload_n 1, 1) := by decide +kernel
theorem dX5_work_68 : decode cX5_work 68 = .ok (.getfield 30, 3) := by decide +kernel
theorem dX5_work_71 : decode cX5_work 71 = .ok (.iload 7, 2) := by decide +kernel
theorem dX5_work_73 : decode cX5_work 73 = .ok (.iconst 1, 1) := by decide +kernel
theorem dX5_work_74 : decode cX5_work 74 = .ok (.iadd, 1) := by decide +kernel
theorem dX5_work_75 : decode cX5_work 75 = .ok (.baload, 1) := by decide +kernel
theorem dX5_work_76 : decode cX5_work 76 = .ok (.invokestatic 34, 3) := by decide +kernel
theorem dX5_work_79 : decode cX5_work 79 = .ok (.ifCond .ne 177, 3) := by decide +kernel
theorem dX5_work_82 : decode cX5_work 82 = .ok (.aload_n 0, 1) := by decide +kernel
theorem dX5_work_83 : decode cX5_work 83 = .ok (.getfield 15, 3) := by decide +kernel
theorem dX5_work_86 : decode cX5_work 86 = .ok (.aload_n 0, 1) := by decide +kernel
theorem dX5_work_87 : decode cX5_work 87 = .ok (.getfield 18, 3) := by decide +kernel
theorem dX5_work_90 : decode cX5_work 90 = .ok (.dup2, 1) := by decide +kernel
theorem dX5_work_91 : decode cX5_work 91 = .ok (.laload, 1) := by decide +kernel
theorem dX5_work_92 : decode cX5_work 92 = .ok (.lload 5, 2) := by decide +kernel
theorem dX5_work_94 : decode cX5_work 94 = .ok (.lmul, 1) := by decide +kernel
theorem dX5_work_95 : decode cX5_work 95 = .ok (.lastore, 1) := by decide +kernel
theorem dX5_work_96 : decode cX5_work 96 = .ok (.lconst 0, 1) := by decide +kernel
theorem dX5_work_97 : decode cX5_work 97 = .ok (.lstore 5, 2) := by decide +kernel
theorem dX5_work_99 : decode cX5_work 99 = .ok (.goto 157, 3) := by decide +kernel
theorem dX5_work_102 : decode cX5_work 102 = .ok (.iload 8, 2) := by decide +kernel
theorem dX5_work_104 : decode cX5_work 104 = .ok (.lookupswitch 152 #[(40, 138), (41, 145), (43, 120), (45, 128), (103, 68), (112, 102), (113, 85)], 68) := by decide +kernel
theorem dX5_work_172 : decode cX5_work 172 = .ok (.aload_n 0, 1) := by decide +kernel
theorem dX5_work_173 : decode cX5_work 173 = .ok (.getfield 15, 3) := by decide +kernel
theorem dX5_work_176 : decode cX5_work 176 = .ok (.aload_n 0, 1) := by decide +kernel
theorem dX5_work_177 : decode cX5_work 177 = .ok (.getfield 18, 3) := by decide +kernel
theorem dX5_work_180 : decode cX5_work 180 = .ok (.dup2, 1) := by decide +kernel
theorem dX5_work_181 : decode cX5_work 181 = .ok (.laload, 1) := by decide +kernel
theorem dX5_work_182 : decode cX5_work 182 = .ok (.iload_n 2, 1) := by decide +kernel
theorem dX5_work_183 : decode cX5_work 183 = .ok (.i2l, 1) := by decide +kernel
theorem dX5_work_184 : decode cX5_work 184 = .ok (.lmul, 1) := by decide +kernel
theorem dX5_work_185 : decode cX5_work 185 = .ok (.lastore, 1) := by decide +kernel
theorem dX5_work_186 : decode cX5_work 186 = .ok (.goto 70, 3) := by decide +kernel
theorem dX5_work_189 : decode cX5_work 189 = .ok (.aload_n 0, 1) := by decide +kernel
theorem dX5_work_190 : decode cX5_work 190 = .ok (.getfield 15, 3) := by decide +kernel
theorem dX5_work_193 : decode cX5_work 193 = .ok (.aload_n 0, 1) := by decide +kernel
theorem dX5_work_194 : decode cX5_work 194 = .ok (.getfield 18, 3) := by decide +kernel
theorem dX5_work_197 : decode cX5_work 197 = .ok (.dup2, 1) := by decide +kernel
theorem dX5_work_198 : decode cX5_work 198 = .ok (.laload, 1) := by decide +kernel
theorem dX5_work_199 : decode cX5_work 199 = .ok (.iload_n 3, 1) := by decide +kernel
theorem dX5_work_200 : decode cX5_work 200 = .ok (.i2l, 1) := by decide +kernel
theorem dX5_work_201 : decode cX5_work 201 = .ok (.lmul, 1) := by decide +kernel
theorem dX5_work_202 : decode cX5_work 202 = .ok (.lastore, 1) := by decide +kernel
theorem dX5_work_203 : decode cX5_work 203 = .ok (.goto 53, 3) := by decide +kernel
theorem dX5_work_206 : decode cX5_work 206 = .ok (.aload_n 0, 1) := by decide +kernel
theorem dX5_work_207 : decode cX5_work 207 = .ok (.getfield 15, 3) := by decide +kernel
theorem dX5_work_210 : decode cX5_work 210 = .ok (.aload_n 0, 1) := by decide +kernel
theorem dX5_work_211 : decode cX5_work 211 = .ok (.getfield 18, 3) := by decide +kernel
theorem dX5_work_214 : decode cX5_work 214 = .ok (.dup2, 1) := by decide +kernel
theorem dX5_work_215 : decode cX5_work 215 = .ok (.laload, 1) := by decide +kernel
theorem dX5_work_216 : decode cX5_work 216 = .ok (.iload 4, 2) := by decide +kernel
theorem dX5_work_218 : decode cX5_work 218 = .ok (.i2l, 1) := by decide +kernel
theorem dX5_work_219 : decode cX5_work 219 = .ok (.lmul, 1) := by decide +kernel
theorem dX5_work_220 : decode cX5_work 220 = .ok (.lastore, 1) := by decide +kernel
theorem dX5_work_221 : decode cX5_work 221 = .ok (.goto 35, 3) := by decide +kernel
theorem dX5_work_224 : decode cX5_work 224 = .ok (.aload_n 0, 1) := by decide +kernel
theorem dX5_work_225 : decode cX5_work 225 = .ok (.lconst 1, 1) := by decide +kernel
theorem dX5_work_226 : decode cX5_work 226 = .ok (.invokevirtual 40, 3) := by decide +kernel
theorem dX5_work_229 : decode cX5_work 229 = .ok (.goto 27, 3) := by decide +kernel
theorem dX5_work_232 : decode cX5_work 232 = .ok (.aload_n 0, 1) := by decide +kernel
theorem dX5_work_233 : decode cX5_work 233 = .ok (.ldc2_w 44, 3) := by decide +kernel
theorem dX5_work_236 : decode cX5_work 236 = .ok (.invokevirtual 40, 3) := by decide +kernel
theorem dX5_work_239 : decode cX5_work 239 = .ok (.goto 17, 3) := by decide +kernel
theorem dX5_work_242 : decode cX5_work 242 = .ok (.aload_n 0, 1) := by decide +kernel
theorem dX5_work_243 : decode cX5_work 243 = .ok (.invokevirtual 46, 3) := by decide +kernel
theorem dX5_work_246 : decode cX5_work 246 = .ok (.goto 10, 3) := by decide +kernel
theorem dX5_work_249 : decode cX5_work 249 = .ok (.aload_n 0, 1) := by decide +kernel
theorem dX5_work_250 : decode cX5_work 250 = .ok (.invokevirtual 49, 3) := by decide +kernel
theorem dX5_work_253 : decode cX5_work 253 = .ok (.goto 3, 3) := by decide +kernel
theorem dX5_work_256 : decode cX5_work 256 = .ok (.iinc 7 1, 3) := by decide +kernel
theorem dX5_work_259 : decode cX5_work 259 = .ok (.goto (-244), 3) := by decide +kernel
theorem dX5_work_262 : decode cX5_work 262 = .ok (.lconst 0, 1) := by decide +kernel
theorem dX5_work_263 : decode cX5_work 263 = .ok (.ldc2_w 52, 3) := by decide +kernel
theorem dX5_work_266 : decode cX5_work 266 = .ok (.aload_n 0, 1) := by decide +kernel
theorem dX5_work_267 : decode cX5_work 267 = .ok (.getfield 9, 3) := by decide +kernel
theorem dX5_work_270 : decode cX5_work 270 = .ok (.iconst 0, 1) := by decide +kernel
theorem dX5_work_271 : decode cX5_work 271 = .ok (.laload, 1) := by decide +kernel
theorem dX5_work_272 : decode cX5_work 272 = .ok (.aload_n 0, 1) := by decide +kernel
theorem dX5_work_273 : decode cX5_work 273 = .ok (.getfield 15, 3) := by decide +kernel
theorem dX5_work_276 : decode cX5_work 276 = .ok (.iconst 0, 1) := by decide +kernel
theorem dX5_work_277 : decode cX5_work 277 = .ok (.laload, 1) := by decide +kernel
theorem dX5_work_278 : decode cX5_work 278 = .ok (.ladd, 1) := by decide +kernel
theorem dX5_work_279 : decode cX5_work 279 = .ok (.invokestatic 54, 3) := by decide +kernel
theorem dX5_work_282 : decode cX5_work 282 = .ok (.invokestatic 60, 3) := by decide +kernel
theorem dX5_work_285 : decode cX5_work 285 = .ok (.lreturn, 1) := by decide +kernel
theorem dX5_beginSum_0 : decode cX5_beginSum 0 = .ok (.aload_n 0, 1) := by decide +kernel
theorem dX5_beginSum_1 : decode cX5_beginSum 1 = .ok (.getfield 9, 3) := by decide +kernel
theorem dX5_beginSum_4 : decode cX5_beginSum 4 = .ok (.aload_n 0, 1) := by decide +kernel
theorem dX5_beginSum_5 : decode cX5_beginSum 5 = .ok (.getfield 18, 3) := by decide +kernel
theorem dX5_beginSum_8 : decode cX5_beginSum 8 = .ok (.lconst 0, 1) := by decide +kernel
theorem dX5_beginSum_9 : decode cX5_beginSum 9 = .ok (.lastore, 1) := by decide +kernel
theorem dX5_beginSum_10 : decode cX5_beginSum 10 = .ok (.aload_n 0, 1) := by decide +kernel
theorem dX5_beginSum_11 : decode cX5_beginSum 11 = .ok (.getfield 15, 3) := by decide +kernel
theorem dX5_beginSum_14 : decode cX5_beginSum 14 = .ok (.aload_n 0, 1) := by decide +kernel
theorem dX5_beginSum_15 : decode cX5_beginSum 15 = .ok (.getfield 18, 3) := by decide +kernel
theorem dX5_beginSum_18 : decode cX5_beginSum 18 = .ok (.lconst 1, 1) := by decide +kernel
theorem dX5_beginSum_19 : decode cX5_beginSum 19 = .ok (.lastore, 1) := by decide +kernel
theorem dX5_beginSum_20 : decode cX5_beginSum 20 = .ok (.return_, 1) := by decide +kernel
theorem dX5_beginTerm_0 : decode cX5_beginTerm 0 = .ok (.aload_n 0, 1) := by decide +kernel
theorem dX5_beginTerm_1 : decode cX5_beginTerm 1 = .ok (.getfield 9, 3) := by decide +kernel
theorem dX5_beginTerm_4 : decode cX5_beginTerm 4 = .ok (.aload_n 0, 1) := by decide +kernel
theorem dX5_beginTerm_5 : decode cX5_beginTerm 5 = .ok (.getfield 18, 3) := by decide +kernel
theorem dX5_beginTerm_8 : decode cX5_beginTerm 8 = .ok (.dup2, 1) := by decide +kernel
theorem dX5_beginTerm_9 : decode cX5_beginTerm 9 = .ok (.laload, 1) := by decide +kernel
theorem dX5_beginTerm_10 : decode cX5_beginTerm 10 = .ok (.aload_n 0, 1) := by decide +kernel
theorem dX5_beginTerm_11 : decode cX5_beginTerm 11 = .ok (.getfield 15, 3) := by decide +kernel
theorem dX5_beginTerm_14 : decode cX5_beginTerm 14 = .ok (.aload_n 0, 1) := by decide +kernel
theorem dX5_beginTerm_15 : decode cX5_beginTerm 15 = .ok (.getfield 18, 3) := by decide +kernel
theorem dX5_beginTerm_18 : decode cX5_beginTerm 18 = .ok (.laload, 1) := by decide +kernel
theorem dX5_beginTerm_19 : decode cX5_beginTerm 19 = .ok (.ladd, 1) := by decide +kernel
theorem dX5_beginTerm_20 : decode cX5_beginTerm 20 = .ok (.lastore, 1) := by decide +kernel
theorem dX5_beginTerm_21 : decode cX5_beginTerm 21 = .ok (.aload_n 0, 1) := by decide +kernel
theorem dX5_beginTerm_22 : decode cX5_beginTerm 22 = .ok (.getfield 15, 3) := by decide +kernel
theorem dX5_beginTerm_25 : decode cX5_beginTerm 25 = .ok (.aload_n 0, 1) := by decide +kernel
theorem dX5_beginTerm_26 : decode cX5_beginTerm 26 = .ok (.getfield 18, 3) := by decide +kernel
theorem dX5_beginTerm_29 : decode cX5_beginTerm 29 = .ok (.lload_n 1, 1) := by decide +kernel
theorem dX5_beginTerm_30 : decode cX5_beginTerm 30 = .ok (.lastore, 1) := by decide +kernel
theorem dX5_beginTerm_31 : decode cX5_beginTerm 31 = .ok (.return_, 1) := by decide +kernel
theorem dX5_open_0 : decode cX5_open 0 = .ok (.aload_n 0, 1) := by decide +kernel
theorem dX5_open_1 : decode cX5_open 1 = .ok (.getfield 18, 3) := by decide +kernel
theorem dX5_open_4 : decode cX5_open 4 = .ok (.bipush 8, 2) := by decide +kernel
theorem dX5_open_6 : decode cX5_open 6 = .ok (.if_icmp .ge 17, 3) := by decide +kernel
theorem dX5_open_9 : decode cX5_open 9 = .ok (.aload_n 0, 1) := by decide +kernel
theorem dX5_open_10 : decode cX5_open 10 = .ok (.dup, 1) := by decide +kernel
theorem dX5_open_11 : decode cX5_open 11 = .ok (.getfield 18, 3) := by decide +kernel
theorem dX5_open_14 : decode cX5_open 14 = .ok (.iconst 1, 1) := by decide +kernel
theorem dX5_open_15 : decode cX5_open 15 = .ok (.iadd, 1) := by decide +kernel
theorem dX5_open_16 : decode cX5_open 16 = .ok (.putfield 18, 3) := by decide +kernel
theorem dX5_open_19 : decode cX5_open 19 = .ok (.aload_n 0, 1) := by decide +kernel
theorem dX5_open_20 : decode cX5_open 20 = .ok (.invokevirtual 22, 3) := by decide +kernel
theorem dX5_open_23 : decode cX5_open 23 = .ok (.return_, 1) := by decide +kernel
theorem dX5_close_0 : decode cX5_close 0 = .ok (.aload_n 0, 1) := by decide +kernel
theorem dX5_close_1 : decode cX5_close 1 = .ok (.getfield 18, 3) := by decide +kernel
theorem dX5_close_4 : decode cX5_close 4 = .ok (.ifCond .le 48, 3) := by decide +kernel
theorem dX5_close_7 : decode cX5_close 7 = .ok (.aload_n 0, 1) := by decide +kernel
theorem dX5_close_8 : decode cX5_close 8 = .ok (.dup, 1) := by decide +kernel
theorem dX5_close_9 : decode cX5_close 9 = .ok (.getfield 18, 3) := by decide +kernel
theorem dX5_close_12 : decode cX5_close 12 = .ok (.iconst 1, 1) := by decide +kernel
theorem dX5_close_13 : decode cX5_close 13 = .ok (.isub, 1) := by decide +kernel
theorem dX5_close_14 : decode cX5_close 14 = .ok (.putfield 18, 3) := by decide +kernel
theorem dX5_close_17 : decode cX5_close 17 = .ok (.aload_n 0, 1) := by decide +kernel
theorem dX5_close_18 : decode cX5_close 18 = .ok (.getfield 15, 3) := by decide +kernel
theorem dX5_close_21 : decode cX5_close 21 = .ok (.aload_n 0, 1) := by decide +kernel
theorem dX5_close_22 : decode cX5_close 22 = .ok (.getfield 18, 3) := by decide +kernel
theorem dX5_close_25 : decode cX5_close 25 = .ok (.dup2, 1) := by decide +kernel
theorem dX5_close_26 : decode cX5_close 26 = .ok (.laload, 1) := by decide +kernel
theorem dX5_close_27 : decode cX5_close 27 = .ok (.aload_n 0, 1) := by decide +kernel
theorem dX5_close_28 : decode cX5_close 28 = .ok (.getfield 9, 3) := by decide +kernel
theorem dX5_close_31 : decode cX5_close 31 = .ok (.aload_n 0, 1) := by decide +kernel
theorem dX5_close_32 : decode cX5_close 32 = .ok (.getfield 18, 3) := by decide +kernel
theorem dX5_close_35 : decode cX5_close 35 = .ok (.iconst 1, 1) := by decide +kernel
theorem dX5_close_36 : decode cX5_close 36 = .ok (.iadd, 1) := by decide +kernel
theorem dX5_close_37 : decode cX5_close 37 = .ok (.laload, 1) := by decide +kernel
theorem dX5_close_38 : decode cX5_close 38 = .ok (.aload_n 0, 1) := by decide +kernel
theorem dX5_close_39 : decode cX5_close 39 = .ok (.getfield 15, 3) := by decide +kernel
theorem dX5_close_42 : decode cX5_close 42 = .ok (.aload_n 0, 1) := by decide +kernel
theorem dX5_close_43 : decode cX5_close 43 = .ok (.getfield 18, 3) := by decide +kernel
theorem dX5_close_46 : decode cX5_close 46 = .ok (.iconst 1, 1) := by decide +kernel
theorem dX5_close_47 : decode cX5_close 47 = .ok (.iadd, 1) := by decide +kernel
theorem dX5_close_48 : decode cX5_close 48 = .ok (.laload, 1) := by decide +kernel
theorem dX5_close_49 : decode cX5_close 49 = .ok (.ladd, 1) := by decide +kernel
theorem dX5_close_50 : decode cX5_close 50 = .ok (.lmul, 1) := by decide +kernel
theorem dX5_close_51 : decode cX5_close 51 = .ok (.lastore, 1) := by decide +kernel
theorem dX5_close_52 : decode cX5_close 52 = .ok (.return_, 1) := by decide +kernel
theorem dX6_init_0 : decode cX6_init 0 = .ok (.aload_n 0, 1) := by decide +kernel
theorem dX6_init_1 : decode cX6_init 1 = .ok (.invokespecial 3, 3) := by decide +kernel
theorem dX6_init_4 : decode cX6_init 4 = .ok (.aload_n 0, 1) := by decide +kernel
theorem dX6_init_5 : decode cX6_init 5 = .ok (.iconst 0, 1) := by decide +kernel
theorem dX6_init_6 : decode cX6_init 6 = .ok (.iload_n 1, 1) := by decide +kernel
theorem dX6_init_7 : decode cX6_init 7 = .ok (.invokestatic 9, 3) := by decide +kernel
theorem dX6_init_10 : decode cX6_init 10 = .ok (.newarray .byte, 2) := by decide +kernel
theorem dX6_init_12 : decode cX6_init 12 = .ok (.putfield 15, 3) := by decide +kernel
theorem dX6_init_15 : decode cX6_init 15 = .ok (.return_, 1) := by decide +kernel
theorem dX6_bytesIn_0 : decode cX6_bytesIn 0 = .ok (.iconst 0, 1) := by decide +kernel
theorem dX6_bytesIn_1 : decode cX6_bytesIn 1 = .ok (.istore_n 1, 1) := by decide +kernel
theorem dX6_bytesIn_2 : decode cX6_bytesIn 2 = .ok (.bipush 24, 2) := by decide +kernel
theorem dX6_bytesIn_4 : decode cX6_bytesIn 4 = .ok (.istore_n 2, 1) := by decide +kernel
theorem dX6_bytesIn_5 : decode cX6_bytesIn 5 = .ok (.iload_n 2, 1) := by decide +kernel
theorem dX6_bytesIn_6 : decode cX6_bytesIn 6 = .ok (.ifCond .lt 27, 3) := by decide +kernel
theorem dX6_bytesIn_9 : decode cX6_bytesIn 9 = .ok (.iload_n 1, 1) := by decide +kernel
theorem dX6_bytesIn_10 : decode cX6_bytesIn 10 = .ok (.iload_n 0, 1) := by decide +kernel
theorem dX6_bytesIn_11 : decode cX6_bytesIn 11 = .ok (.iload_n 2, 1) := by decide +kernel
theorem dX6_bytesIn_12 : decode cX6_bytesIn 12 = .ok (.iushr, 1) := by decide +kernel
theorem dX6_bytesIn_13 : decode cX6_bytesIn 13 = .ok (.sipush 255, 3) := by decide +kernel
theorem dX6_bytesIn_16 : decode cX6_bytesIn 16 = .ok (.iand, 1) := by decide +kernel
theorem dX6_bytesIn_17 : decode cX6_bytesIn 17 = .ok (.ifCond .eq 7, 3) := by decide +kernel
theorem dX6_bytesIn_20 : decode cX6_bytesIn 20 = .ok (.iconst 1, 1) := by decide +kernel
theorem dX6_bytesIn_21 : decode cX6_bytesIn 21 = .ok (.goto 4, 3) := by decide +kernel
theorem dX6_bytesIn_24 : decode cX6_bytesIn 24 = .ok (.iconst 0, 1) := by decide +kernel
theorem dX6_bytesIn_25 : decode cX6_bytesIn 25 = .ok (.iadd, 1) := by decide +kernel
theorem dX6_bytesIn_26 : decode cX6_bytesIn 26 = .ok (.istore_n 1, 1) := by decide +kernel
theorem dX6_bytesIn_27 : decode cX6_bytesIn 27 = .ok (.iinc 2 (-8), 3) := by decide +kernel
theorem dX6_bytesIn_30 : decode cX6_bytesIn 30 = .ok (.goto (-25), 3) := by decide +kernel
theorem dX6_bytesIn_33 : decode cX6_bytesIn 33 = .ok (.iload_n 1, 1) := by decide +kernel
theorem dX6_bytesIn_34 : decode cX6_bytesIn 34 = .ok (.ireturn, 1) := by decide +kernel
