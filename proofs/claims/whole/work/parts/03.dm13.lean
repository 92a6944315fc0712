theorem dX11_voted_0 : decode cX11_voted 0 = .ok (.iload_n 1, 1) := by decide +kernel
theorem dX11_voted_1 : decode cX11_voted 1 = .ok (.iconst 0, 1) := by decide +kernel
theorem dX11_voted_2 : decode cX11_voted 2 = .ok (.aload_n 0, 1) := by decide +kernel
theorem dX11_voted_3 : decode cX11_voted 3 = .ok (.getfield 204, 3) := by decide +kernel
theorem dX11_voted_6 : decode cX11_voted 6 = .ok (.iconst 1, 1) := by decide +kernel
theorem dX11_voted_7 : decode cX11_voted 7 = .ok (.isub, 1) := by decide +kernel
theorem dX11_voted_8 : decode cX11_voted 8 = .ok (.invokestatic 115, 3) := by decide +kernel
theorem dX11_voted_11 : decode cX11_voted 11 = .ok (.ifCond .ne 5, 3) := by decide +kernel
theorem dX11_voted_14 : decode cX11_voted 14 = .ok (.iconst (-1), 1) := by decide +kernel
theorem dX11_voted_15 : decode cX11_voted 15 = .ok (.ireturn, 1) := by decide +kernel
theorem dX11_voted_16 : decode cX11_voted 16 = .ok (.iconst 0, 1) := by decide +kernel
theorem dX11_voted_17 : decode cX11_voted 17 = .ok (.istore_n 3, 1) := by decide +kernel
theorem dX11_voted_18 : decode cX11_voted 18 = .ok (.iconst 0, 1) := by decide +kernel
theorem dX11_voted_19 : decode cX11_voted 19 = .ok (.istore 4, 2) := by decide +kernel
theorem dX11_voted_21 : decode cX11_voted 21 = .ok (.iload 4, 2) := by decide +kernel
theorem dX11_voted_23 : decode cX11_voted 23 = .ok (.aload_n 0, 1) := by decide +kernel
theorem dX11_voted_24 : decode cX11_voted 24 = .ok (.getfield 223, 3) := by decide +kernel
theorem dX11_voted_27 : decode cX11_voted 27 = .ok (.if_icmp .ge 28, 3) := by decide +kernel
theorem dX11_voted_30 : decode cX11_voted 30 = .ok (.iload_n 3, 1) := by decide +kernel
theorem dX11_voted_31 : decode cX11_voted 31 = .ok (.aload_n 0, 1) := by decide +kernel
theorem dX11_voted_32 : decode cX11_voted 32 = .ok (.getfield 69, 3) := by decide +kernel
theorem dX11_voted_35 : decode cX11_voted 35 = .ok (.iload 4, 2) := by decide +kernel
theorem dX11_voted_37 : decode cX11_voted 37 = .ok (.iaload, 1) := by decide +kernel
theorem dX11_voted_38 : decode cX11_voted 38 = .ok (.iload_n 1, 1) := by decide +kernel
theorem dX11_voted_39 : decode cX11_voted 39 = .ok (.if_icmp .ne 7, 3) := by decide +kernel
theorem dX11_voted_42 : decode cX11_voted 42 = .ok (.iconst 1, 1) := by decide +kernel
theorem dX11_voted_43 : decode cX11_voted 43 = .ok (.goto 4, 3) := by decide +kernel
theorem dX11_voted_46 : decode cX11_voted 46 = .ok (.iconst 0, 1) := by decide +kernel
theorem dX11_voted_47 : decode cX11_voted 47 = .ok (.iadd, 1) := by decide +kernel
theorem dX11_voted_48 : decode cX11_voted 48 = .ok (.istore_n 3, 1) := by decide +kernel
theorem dX11_voted_49 : decode cX11_voted 49 = .ok (.iinc 4 1, 3) := by decide +kernel
theorem dX11_voted_52 : decode cX11_voted 52 = .ok (.goto (-31), 3) := by decide +kernel
theorem dX11_voted_55 : decode cX11_voted 55 = .ok (.iload_n 2, 1) := by decide +kernel
theorem dX11_voted_56 : decode cX11_voted 56 = .ok (.ifCond .ne 12, 3) := by decide +kernel
theorem dX11_voted_59 : decode cX11_voted 59 = .ok (.aload_n 0, 1) := by decide +kernel
theorem dX11_voted_60 : decode cX11_voted 60 = .ok (.getfield 48, 3) := by decide +kernel
theorem dX11_voted_63 : decode cX11_voted 63 = .ok (.iload_n 1, 1) := by decide +kernel
theorem dX11_voted_64 : decode cX11_voted 64 = .ok (.iaload, 1) := by decide +kernel
theorem dX11_voted_65 : decode cX11_voted 65 = .ok (.goto 35, 3) := by decide +kernel
theorem dX11_voted_68 : decode cX11_voted 68 = .ok (.iload_n 2, 1) := by decide +kernel
theorem dX11_voted_69 : decode cX11_voted 69 = .ok (.iconst 1, 1) := by decide +kernel
theorem dX11_voted_70 : decode cX11_voted 70 = .ok (.if_icmp .ne 20, 3) := by decide +kernel
theorem dX11_voted_73 : decode cX11_voted 73 = .ok (.aload_n 0, 1) := by decide +kernel
theorem dX11_voted_74 : decode cX11_voted 74 = .ok (.getfield 51, 3) := by decide +kernel
theorem dX11_voted_77 : decode cX11_voted 77 = .ok (.iload_n 1, 1) := by decide +kernel
theorem dX11_voted_78 : decode cX11_voted 78 = .ok (.baload, 1) := by decide +kernel
theorem dX11_voted_79 : decode cX11_voted 79 = .ok (.ifCond .eq 7, 3) := by decide +kernel
theorem dX11_voted_82 : decode cX11_voted 82 = .ok (.iconst 1, 1) := by decide +kernel
theorem dX11_voted_83 : decode cX11_voted 83 = .ok (.goto 17, 3) := by decide +kernel
theorem dX11_voted_86 : decode cX11_voted 86 = .ok (.iconst 0, 1) := by decide +kernel
theorem dX11_voted_87 : decode cX11_voted 87 = .ok (.goto 13, 3) := by decide +kernel
theorem dX11_voted_90 : decode cX11_voted 90 = .ok (.iload_n 2, 1) := by decide +kernel
theorem dX11_voted_91 : decode cX11_voted 91 = .ok (.iconst 2, 1) := by decide +kernel
theorem dX11_voted_92 : decode cX11_voted 92 = .ok (.if_icmp .ne 7, 3) := by decide +kernel
theorem dX11_voted_95 : decode cX11_voted 95 = .ok (.iload_n 3, 1) := by decide +kernel
theorem dX11_voted_96 : decode cX11_voted 96 = .ok (.goto 4, 3) := by decide +kernel
theorem dX11_voted_99 : decode cX11_voted 99 = .ok (.iconst (-1), 1) := by decide +kernel
theorem dX11_voted_100 : decode cX11_voted 100 = .ok (.ireturn, 1) := by decide +kernel
theorem dX11_count_0 : decode cX11_count 0 = .ok (.lconst 0, 1) := by decide +kernel
theorem dX11_count_1 : decode cX11_count 1 = .ok (.lstore_n 2, 1) := by decide +kernel
theorem dX11_count_2 : decode cX11_count 2 = .ok (.iconst 0, 1) := by decide +kernel
theorem dX11_count_3 : decode cX11_count 3 = .ok (.istore 4, 2) := by decide +kernel
theorem dX11_count_5 : decode cX11_count 5 = .ok (.iload 4, 2) := by decide +kernel
theorem dX11_count_7 : decode cX11_count 7 = .ok (.aload_n 0, 1) := by decide +kernel
theorem dX11_count_8 : decode cX11_count 8 = .ok (.getfield 111, 3) := by decide +kernel
theorem dX11_count_11 : decode cX11_count 11 = .ok (.if_icmp .ge 19, 3) := by decide +kernel
theorem dX11_count_14 : decode cX11_count 14 = .ok (.lload_n 2, 1) := by decide +kernel
theorem dX11_count_15 : decode cX11_count 15 = .ok (.aload_n 0, 1) := by decide +kernel
theorem dX11_count_16 : decode cX11_count 16 = .ok (.iload 4, 2) := by decide +kernel
theorem dX11_count_18 : decode cX11_count 18 = .ok (.invokevirtual 119, 3) := by decide +kernel
theorem dX11_count_21 : decode cX11_count 21 = .ok (.i2l, 1) := by decide +kernel
theorem dX11_count_22 : decode cX11_count 22 = .ok (.ladd, 1) := by decide +kernel
theorem dX11_count_23 : decode cX11_count 23 = .ok (.lstore_n 2, 1) := by decide +kernel
theorem dX11_count_24 : decode cX11_count 24 = .ok (.iinc 4 1, 3) := by decide +kernel
theorem dX11_count_27 : decode cX11_count 27 = .ok (.goto (-22), 3) := by decide +kernel
theorem dX11_count_30 : decode cX11_count 30 = .ok (.iload_n 1, 1) := by decide +kernel
theorem dX11_count_31 : decode cX11_count 31 = .ok (.tableswitch 107 0 9 #[53, 59, 65, 71, 77, 83, 88, 90, 96, 102], 53) := by decide +kernel
theorem dX11_count_84 : decode cX11_count 84 = .ok (.aload_n 0, 1) := by decide +kernel
theorem dX11_count_85 : decode cX11_count 85 = .ok (.getfield 159, 3) := by decide +kernel
theorem dX11_count_88 : decode cX11_count 88 = .ok (.i2l, 1) := by decide +kernel
theorem dX11_count_89 : decode cX11_count 89 = .ok (.lreturn, 1) := by decide +kernel
theorem dX11_count_90 : decode cX11_count 90 = .ok (.aload_n 0, 1) := by decide +kernel
theorem dX11_count_91 : decode cX11_count 91 = .ok (.getfield 111, 3) := by decide +kernel
theorem dX11_count_94 : decode cX11_count 94 = .ok (.i2l, 1) := by decide +kernel
theorem dX11_count_95 : decode cX11_count 95 = .ok (.lreturn, 1) := by decide +kernel
theorem dX11_count_96 : decode cX11_count 96 = .ok (.aload_n 0, 1) := by decide +kernel
theorem dX11_count_97 : decode cX11_count 97 = .ok (.getfield 204, 3) := by decide +kernel
theorem dX11_count_100 : decode cX11_count 100 = .ok (.i2l, 1) := by decide +kernel
theorem dX11_count_101 : decode cX11_count 101 = .ok (.lreturn, 1) := by decide +kernel
theorem dX11_count_102 : decode cX11_count 102 = .ok (.aload_n 0, 1) := by decide +kernel
theorem dX11_count_103 : decode cX11_count 103 = .ok (.getfield 223, 3) := by decide +kernel
theorem dX11_count_106 : decode cX11_count 106 = .ok (.i2l, 1) := by decide +kernel
theorem dX11_count_107 : decode cX11_count 107 = .ok (.lreturn, 1) := by decide +kernel
theorem dX11_count_108 : decode cX11_count 108 = .ok (.aload_n 0, 1) := by decide +kernel
theorem dX11_count_109 : decode cX11_count 109 = .ok (.getfield 212, 3) := by decide +kernel
theorem dX11_count_112 : decode cX11_count 112 = .ok (.i2l, 1) := by decide +kernel
theorem dX11_count_113 : decode cX11_count 113 = .ok (.lreturn, 1) := by decide +kernel
theorem dX11_count_114 : decode cX11_count 114 = .ok (.aload_n 0, 1) := by decide +kernel
theorem dX11_count_115 : decode cX11_count 115 = .ok (.getfield 134, 3) := by decide +kernel
theorem dX11_count_118 : decode cX11_count 118 = .ok (.lreturn, 1) := by decide +kernel
theorem dX11_count_119 : decode cX11_count 119 = .ok (.lload_n 2, 1) := by decide +kernel
theorem dX11_count_120 : decode cX11_count 120 = .ok (.lreturn, 1) := by decide +kernel
theorem dX11_count_121 : decode cX11_count 121 = .ok (.aload_n 0, 1) := by decide +kernel
theorem dX11_count_122 : decode cX11_count 122 = .ok (.getfield 245, 3) := by decide +kernel
theorem dX11_count_125 : decode cX11_count 125 = .ok (.i2l, 1) := by decide +kernel
theorem dX11_count_126 : decode cX11_count 126 = .ok (.lreturn, 1) := by decide +kernel
theorem dX11_count_127 : decode cX11_count 127 = .ok (.aload_n 0, 1) := by decide +kernel
theorem dX11_count_128 : decode cX11_count 128 = .ok (.getfield 166, 3) := by decide +kernel
theorem dX11_count_131 : decode cX11_count 131 = .ok (.i2l, 1) := by decide +kernel
theorem dX11_count_132 : decode cX11_count 132 = .ok (.lreturn, 1) := by decide +kernel
theorem dX11_count_133 : decode cX11_count 133 = .ok (.aload_n 0, 1) := by decide +kernel
theorem dX11_count_134 : decode cX11_count 134 = .ok (.getfield 226, 3) := by decide +kernel
theorem dX11_count_137 : decode cX11_count 137 = .ok (.lreturn, 1) := by decide +kernel
theorem dX11_count_138 : decode cX11_count 138 = .ok (.ldc2_w 255, 3) := by decide +kernel
theorem dX11_count_141 : decode cX11_count 141 = .ok (.lreturn, 1) := by decide +kernel
