theorem dX11_partPremium_0 : decode cX11_partPremium 0 = .ok (.iconst 0, 1) := by decide +kernel
theorem dX11_partPremium_1 : decode cX11_partPremium 1 = .ok (.istore_n 3, 1) := by decide +kernel
theorem dX11_partPremium_2 : decode cX11_partPremium 2 = .ok (.lconst 0, 1) := by decide +kernel
theorem dX11_partPremium_3 : decode cX11_partPremium 3 = .ok (.lstore 4, 2) := by decide +kernel
theorem dX11_partPremium_5 : decode cX11_partPremium 5 = .ok (.iconst 0, 1) := by decide +kernel
theorem dX11_partPremium_6 : decode cX11_partPremium 6 = .ok (.istore 6, 2) := by decide +kernel
theorem dX11_partPremium_8 : decode cX11_partPremium 8 = .ok (.iload 6, 2) := by decide +kernel
theorem dX11_partPremium_10 : decode cX11_partPremium 10 = .ok (.bipush 20, 2) := by decide +kernel
theorem dX11_partPremium_12 : decode cX11_partPremium 12 = .ok (.if_icmp .ge 84, 3) := by decide +kernel
theorem dX11_partPremium_15 : decode cX11_partPremium 15 = .ok (.aload_n 0, 1) := by decide +kernel
theorem dX11_partPremium_16 : decode cX11_partPremium 16 = .ok (.getfield 72, 3) := by decide +kernel
theorem dX11_partPremium_19 : decode cX11_partPremium 19 = .ok (.bipush 20, 2) := by decide +kernel
theorem dX11_partPremium_21 : decode cX11_partPremium 21 = .ok (.iload_n 1, 1) := by decide +kernel
theorem dX11_partPremium_22 : decode cX11_partPremium 22 = .ok (.imul, 1) := by decide +kernel
theorem dX11_partPremium_23 : decode cX11_partPremium 23 = .ok (.iload 6, 2) := by decide +kernel
theorem dX11_partPremium_25 : decode cX11_partPremium 25 = .ok (.iadd, 1) := by decide +kernel
theorem dX11_partPremium_26 : decode cX11_partPremium 26 = .ok (.iaload, 1) := by decide +kernel
theorem dX11_partPremium_27 : decode cX11_partPremium 27 = .ok (.istore 7, 2) := by decide +kernel
theorem dX11_partPremium_29 : decode cX11_partPremium 29 = .ok (.iload 7, 2) := by decide +kernel
theorem dX11_partPremium_31 : decode cX11_partPremium 31 = .ok (.ifCond .le 59, 3) := by decide +kernel
theorem dX11_partPremium_34 : decode cX11_partPremium 34 = .ok (.aload_n 0, 1) := by decide +kernel
theorem dX11_partPremium_35 : decode cX11_partPremium 35 = .ok (.getfield 96, 3) := by decide +kernel
theorem dX11_partPremium_38 : decode cX11_partPremium 38 = .ok (.iload_n 3, 1) := by decide +kernel
theorem dX11_partPremium_39 : decode cX11_partPremium 39 = .ok (.iload 6, 2) := by decide +kernel
theorem dX11_partPremium_41 : decode cX11_partPremium 41 = .ok (.iastore, 1) := by decide +kernel
theorem dX11_partPremium_42 : decode cX11_partPremium 42 = .ok (.aload_n 0, 1) := by decide +kernel
theorem dX11_partPremium_43 : decode cX11_partPremium 43 = .ok (.getfield 32, 3) := by decide +kernel
theorem dX11_partPremium_46 : decode cX11_partPremium 46 = .ok (.iload_n 3, 1) := by decide +kernel
theorem dX11_partPremium_47 : decode cX11_partPremium 47 = .ok (.aload_n 0, 1) := by decide +kernel
theorem dX11_partPremium_48 : decode cX11_partPremium 48 = .ok (.iload_n 2, 1) := by decide +kernel
theorem dX11_partPremium_49 : decode cX11_partPremium 49 = .ok (.iload 7, 2) := by decide +kernel
theorem dX11_partPremium_51 : decode cX11_partPremium 51 = .ok (.i2l, 1) := by decide +kernel
theorem dX11_partPremium_52 : decode cX11_partPremium 52 = .ok (.aload_n 0, 1) := by decide +kernel
theorem dX11_partPremium_53 : decode cX11_partPremium 53 = .ok (.getfield 66, 3) := by decide +kernel
theorem dX11_partPremium_56 : decode cX11_partPremium 56 = .ok (.iload_n 1, 1) := by decide +kernel
theorem dX11_partPremium_57 : decode cX11_partPremium 57 = .ok (.iaload, 1) := by decide +kernel
theorem dX11_partPremium_58 : decode cX11_partPremium 58 = .ok (.i2l, 1) := by decide +kernel
theorem dX11_partPremium_59 : decode cX11_partPremium 59 = .ok (.aload_n 0, 1) := by decide +kernel
theorem dX11_partPremium_60 : decode cX11_partPremium 60 = .ok (.getfield 75, 3) := by decide +kernel
theorem dX11_partPremium_63 : decode cX11_partPremium 63 = .ok (.bipush 20, 2) := by decide +kernel
theorem dX11_partPremium_65 : decode cX11_partPremium 65 = .ok (.iload_n 1, 1) := by decide +kernel
theorem dX11_partPremium_66 : decode cX11_partPremium 66 = .ok (.imul, 1) := by decide +kernel
theorem dX11_partPremium_67 : decode cX11_partPremium 67 = .ok (.iload 6, 2) := by decide +kernel
theorem dX11_partPremium_69 : decode cX11_partPremium 69 = .ok (.iadd, 1) := by decide +kernel
theorem dX11_partPremium_70 : decode cX11_partPremium 70 = .ok (.iaload, 1) := by decide +kernel
theorem dX11_partPremium_71 : decode cX11_partPremium 71 = .ok (.i2l, 1) := by decide +kernel
theorem dX11_partPremium_72 : decode cX11_partPremium 72 = .ok (.invokevirtual 219, 3) := by decide +kernel
theorem dX11_partPremium_75 : decode cX11_partPremium 75 = .ok (.lastore, 1) := by decide +kernel
theorem dX11_partPremium_76 : decode cX11_partPremium 76 = .ok (.lload 4, 2) := by decide +kernel
theorem dX11_partPremium_78 : decode cX11_partPremium 78 = .ok (.aload_n 0, 1) := by decide +kernel
theorem dX11_partPremium_79 : decode cX11_partPremium 79 = .ok (.getfield 32, 3) := by decide +kernel
theorem dX11_partPremium_82 : decode cX11_partPremium 82 = .ok (.iload_n 3, 1) := by decide +kernel
theorem dX11_partPremium_83 : decode cX11_partPremium 83 = .ok (.laload, 1) := by decide +kernel
theorem dX11_partPremium_84 : decode cX11_partPremium 84 = .ok (.ladd, 1) := by decide +kernel
theorem dX11_partPremium_85 : decode cX11_partPremium 85 = .ok (.lstore 4, 2) := by decide +kernel
theorem dX11_partPremium_87 : decode cX11_partPremium 87 = .ok (.iinc 3 1, 3) := by decide +kernel
theorem dX11_partPremium_90 : decode cX11_partPremium 90 = .ok (.iinc 6 1, 3) := by decide +kernel
theorem dX11_partPremium_93 : decode cX11_partPremium 93 = .ok (.goto (-85), 3) := by decide +kernel
theorem dX11_partPremium_96 : decode cX11_partPremium 96 = .ok (.iconst 0, 1) := by decide +kernel
theorem dX11_partPremium_97 : decode cX11_partPremium 97 = .ok (.istore 6, 2) := by decide +kernel
theorem dX11_partPremium_99 : decode cX11_partPremium 99 = .ok (.iload 6, 2) := by decide +kernel
theorem dX11_partPremium_101 : decode cX11_partPremium 101 = .ok (.iload_n 3, 1) := by decide +kernel
theorem dX11_partPremium_102 : decode cX11_partPremium 102 = .ok (.if_icmp .ge 41, 3) := by decide +kernel
theorem dX11_partPremium_105 : decode cX11_partPremium 105 = .ok (.lload 4, 2) := by decide +kernel
theorem dX11_partPremium_107 : decode cX11_partPremium 107 = .ok (.lconst 0, 1) := by decide +kernel
theorem dX11_partPremium_108 : decode cX11_partPremium 108 = .ok (.lcmp, 1) := by decide +kernel
theorem dX11_partPremium_109 : decode cX11_partPremium 109 = .ok (.ifCond .ne 34, 3) := by decide +kernel
theorem dX11_partPremium_112 : decode cX11_partPremium 112 = .ok (.aload_n 0, 1) := by decide +kernel
theorem dX11_partPremium_113 : decode cX11_partPremium 113 = .ok (.getfield 32, 3) := by decide +kernel
theorem dX11_partPremium_116 : decode cX11_partPremium 116 = .ok (.iload 6, 2) := by decide +kernel
theorem dX11_partPremium_118 : decode cX11_partPremium 118 = .ok (.aload_n 0, 1) := by decide +kernel
theorem dX11_partPremium_119 : decode cX11_partPremium 119 = .ok (.getfield 72, 3) := by decide +kernel
theorem dX11_partPremium_122 : decode cX11_partPremium 122 = .ok (.bipush 20, 2) := by decide +kernel
theorem dX11_partPremium_124 : decode cX11_partPremium 124 = .ok (.iload_n 1, 1) := by decide +kernel
theorem dX11_partPremium_125 : decode cX11_partPremium 125 = .ok (.imul, 1) := by decide +kernel
theorem dX11_partPremium_126 : decode cX11_partPremium 126 = .ok (.aload_n 0, 1) := by decide +kernel
theorem dX11_partPremium_127 : decode cX11_partPremium 127 = .ok (.getfield 96, 3) := by decide +kernel
theorem dX11_partPremium_130 : decode cX11_partPremium 130 = .ok (.iload 6, 2) := by decide +kernel
theorem dX11_partPremium_132 : decode cX11_partPremium 132 = .ok (.iaload, 1) := by decide +kernel
theorem dX11_partPremium_133 : decode cX11_partPremium 133 = .ok (.iadd, 1) := by decide +kernel
theorem dX11_partPremium_134 : decode cX11_partPremium 134 = .ok (.iaload, 1) := by decide +kernel
theorem dX11_partPremium_135 : decode cX11_partPremium 135 = .ok (.i2l, 1) := by decide +kernel
theorem dX11_partPremium_136 : decode cX11_partPremium 136 = .ok (.lastore, 1) := by decide +kernel
theorem dX11_partPremium_137 : decode cX11_partPremium 137 = .ok (.iinc 6 1, 3) := by decide +kernel
theorem dX11_partPremium_140 : decode cX11_partPremium 140 = .ok (.goto (-41), 3) := by decide +kernel
theorem dX11_partPremium_143 : decode cX11_partPremium 143 = .ok (.aload_n 0, 1) := by decide +kernel
theorem dX11_partPremium_144 : decode cX11_partPremium 144 = .ok (.aload_n 0, 1) := by decide +kernel
theorem dX11_partPremium_145 : decode cX11_partPremium 145 = .ok (.getfield 63, 3) := by decide +kernel
theorem dX11_partPremium_148 : decode cX11_partPremium 148 = .ok (.iload_n 1, 1) := by decide +kernel
theorem dX11_partPremium_149 : decode cX11_partPremium 149 = .ok (.iaload, 1) := by decide +kernel
theorem dX11_partPremium_150 : decode cX11_partPremium 150 = .ok (.i2l, 1) := by decide +kernel
theorem dX11_partPremium_151 : decode cX11_partPremium 151 = .ok (.iload_n 3, 1) := by decide +kernel
theorem dX11_partPremium_152 : decode cX11_partPremium 152 = .ok (.invokevirtual 144, 3) := by decide +kernel
theorem dX11_partPremium_155 : decode cX11_partPremium 155 = .ok (.aload_n 0, 1) := by decide +kernel
theorem dX11_partPremium_156 : decode cX11_partPremium 156 = .ok (.getfield 69, 3) := by decide +kernel
theorem dX11_partPremium_159 : decode cX11_partPremium 159 = .ok (.iload_n 1, 1) := by decide +kernel
theorem dX11_partPremium_160 : decode cX11_partPremium 160 = .ok (.iload_n 2, 1) := by decide +kernel
theorem dX11_partPremium_161 : decode cX11_partPremium 161 = .ok (.iastore, 1) := by decide +kernel
theorem dX11_partPremium_162 : decode cX11_partPremium 162 = .ok (.iload_n 3, 1) := by decide +kernel
theorem dX11_partPremium_163 : decode cX11_partPremium 163 = .ok (.ireturn, 1) := by decide +kernel
theorem dX11_gramsOf_0 : decode cX11_gramsOf 0 = .ok (.iconst 0, 1) := by decide +kernel
theorem dX11_gramsOf_1 : decode cX11_gramsOf 1 = .ok (.istore_n 3, 1) := by decide +kernel
theorem dX11_gramsOf_2 : decode cX11_gramsOf 2 = .ok (.iload_n 2, 1) := by decide +kernel
theorem dX11_gramsOf_3 : decode cX11_gramsOf 3 = .ok (.istore 4, 2) := by decide +kernel
theorem dX11_gramsOf_5 : decode cX11_gramsOf 5 = .ok (.iload 4, 2) := by decide +kernel
theorem dX11_gramsOf_7 : decode cX11_gramsOf 7 = .ok (.bipush 60, 2) := by decide +kernel
theorem dX11_gramsOf_9 : decode cX11_gramsOf 9 = .ok (.if_icmp .ge 24, 3) := by decide +kernel
theorem dX11_gramsOf_12 : decode cX11_gramsOf 12 = .ok (.iload_n 3, 1) := by decide +kernel
theorem dX11_gramsOf_13 : decode cX11_gramsOf 13 = .ok (.aload_n 0, 1) := by decide +kernel
theorem dX11_gramsOf_14 : decode cX11_gramsOf 14 = .ok (.getfield 13, 3) := by decide +kernel
theorem dX11_gramsOf_17 : decode cX11_gramsOf 17 = .ok (.bipush 60, 2) := by decide +kernel
theorem dX11_gramsOf_19 : decode cX11_gramsOf 19 = .ok (.iload_n 1, 1) := by decide +kernel
theorem dX11_gramsOf_20 : decode cX11_gramsOf 20 = .ok (.imul, 1) := by decide +kernel
theorem dX11_gramsOf_21 : decode cX11_gramsOf 21 = .ok (.iload 4, 2) := by decide +kernel
theorem dX11_gramsOf_23 : decode cX11_gramsOf 23 = .ok (.iadd, 1) := by decide +kernel
theorem dX11_gramsOf_24 : decode cX11_gramsOf 24 = .ok (.iaload, 1) := by decide +kernel
theorem dX11_gramsOf_25 : decode cX11_gramsOf 25 = .ok (.iadd, 1) := by decide +kernel
theorem dX11_gramsOf_26 : decode cX11_gramsOf 26 = .ok (.istore_n 3, 1) := by decide +kernel
theorem dX11_gramsOf_27 : decode cX11_gramsOf 27 = .ok (.iinc 4 20, 3) := by decide +kernel
theorem dX11_gramsOf_30 : decode cX11_gramsOf 30 = .ok (.goto (-25), 3) := by decide +kernel
theorem dX11_gramsOf_33 : decode cX11_gramsOf 33 = .ok (.iload_n 3, 1) := by decide +kernel
theorem dX11_gramsOf_34 : decode cX11_gramsOf 34 = .ok (.ireturn, 1) := by decide +kernel
theorem dX11_plotsOf_0 : decode cX11_plotsOf 0 = .ok (.iconst 0, 1) := by decide +kernel
theorem dX11_plotsOf_1 : decode cX11_plotsOf 1 = .ok (.istore_n 3, 1) := by decide +kernel
theorem dX11_plotsOf_2 : decode cX11_plotsOf 2 = .ok (.iload_n 2, 1) := by decide +kernel
theorem dX11_plotsOf_3 : decode cX11_plotsOf 3 = .ok (.istore 4, 2) := by decide +kernel
theorem dX11_plotsOf_5 : decode cX11_plotsOf 5 = .ok (.iload 4, 2) := by decide +kernel
theorem dX11_plotsOf_7 : decode cX11_plotsOf 7 = .ok (.bipush 60, 2) := by decide +kernel
theorem dX11_plotsOf_9 : decode cX11_plotsOf 9 = .ok (.if_icmp .ge 32, 3) := by decide +kernel
theorem dX11_plotsOf_12 : decode cX11_plotsOf 12 = .ok (.iload_n 3, 1) := by decide +kernel
theorem dX11_plotsOf_13 : decode cX11_plotsOf 13 = .ok (.aload_n 0, 1) := by decide +kernel
theorem dX11_plotsOf_14 : decode cX11_plotsOf 14 = .ok (.getfield 13, 3) := by decide +kernel
theorem dX11_plotsOf_17 : decode cX11_plotsOf 17 = .ok (.bipush 60, 2) := by decide +kernel
theorem dX11_plotsOf_19 : decode cX11_plotsOf 19 = .ok (.iload_n 1, 1) := by decide +kernel
theorem dX11_plotsOf_20 : decode cX11_plotsOf 20 = .ok (.imul, 1) := by decide +kernel
theorem dX11_plotsOf_21 : decode cX11_plotsOf 21 = .ok (.iload 4, 2) := by decide +kernel
theorem dX11_plotsOf_23 : decode cX11_plotsOf 23 = .ok (.iadd, 1) := by decide +kernel
theorem dX11_plotsOf_24 : decode cX11_plotsOf 24 = .ok (.iaload, 1) := by decide +kernel
theorem dX11_plotsOf_25 : decode cX11_plotsOf 25 = .ok (.ifCond .le 7, 3) := by decide +kernel
theorem dX11_plotsOf_28 : decode cX11_plotsOf 28 = .ok (.iconst 1, 1) := by decide +kernel
theorem dX11_plotsOf_29 : decode cX11_plotsOf 29 = .ok (.goto 4, 3) := by decide +kernel
theorem dX11_plotsOf_32 : decode cX11_plotsOf 32 = .ok (.iconst 0, 1) := by decide +kernel
theorem dX11_plotsOf_33 : decode cX11_plotsOf 33 = .ok (.iadd, 1) := by decide +kernel
theorem dX11_plotsOf_34 : decode cX11_plotsOf 34 = .ok (.istore_n 3, 1) := by decide +kernel
theorem dX11_plotsOf_35 : decode cX11_plotsOf 35 = .ok (.iinc 4 20, 3) := by decide +kernel
theorem dX11_plotsOf_38 : decode cX11_plotsOf 38 = .ok (.goto (-33), 3) := by decide +kernel
theorem dX11_plotsOf_41 : decode cX11_plotsOf 41 = .ok (.iload_n 3, 1) := by decide +kernel
theorem dX11_plotsOf_42 : decode cX11_plotsOf 42 = .ok (.ireturn, 1) := by decide +kernel
