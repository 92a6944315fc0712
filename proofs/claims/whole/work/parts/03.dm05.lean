theorem dX11_cut_0 : decode cX11_cut 0 = .ok (.iload_n 2, 1) := by decide +kernel
theorem dX11_cut_1 : decode cX11_cut 1 = .ok (.iconst 0, 1) := by decide +kernel
theorem dX11_cut_2 : decode cX11_cut 2 = .ok (.bipush 100, 2) := by decide +kernel
theorem dX11_cut_4 : decode cX11_cut 4 = .ok (.invokestatic 115, 3) := by decide +kernel
theorem dX11_cut_7 : decode cX11_cut 7 = .ok (.ifCond .eq 39, 3) := by decide +kernel
theorem dX11_cut_10 : decode cX11_cut 10 = .ok (.iload_n 3, 1) := by decide +kernel
theorem dX11_cut_11 : decode cX11_cut 11 = .ok (.iconst 0, 1) := by decide +kernel
theorem dX11_cut_12 : decode cX11_cut 12 = .ok (.bipush 100, 2) := by decide +kernel
theorem dX11_cut_14 : decode cX11_cut 14 = .ok (.invokestatic 115, 3) := by decide +kernel
theorem dX11_cut_17 : decode cX11_cut 17 = .ok (.ifCond .eq 29, 3) := by decide +kernel
theorem dX11_cut_20 : decode cX11_cut 20 = .ok (.iload 4, 2) := by decide +kernel
theorem dX11_cut_22 : decode cX11_cut 22 = .ok (.iconst 0, 1) := by decide +kernel
theorem dX11_cut_23 : decode cX11_cut 23 = .ok (.bipush 100, 2) := by decide +kernel
theorem dX11_cut_25 : decode cX11_cut 25 = .ok (.invokestatic 115, 3) := by decide +kernel
theorem dX11_cut_28 : decode cX11_cut 28 = .ok (.ifCond .eq 18, 3) := by decide +kernel
theorem dX11_cut_31 : decode cX11_cut 31 = .ok (.iload_n 2, 1) := by decide +kernel
theorem dX11_cut_32 : decode cX11_cut 32 = .ok (.iload_n 3, 1) := by decide +kernel
theorem dX11_cut_33 : decode cX11_cut 33 = .ok (.iadd, 1) := by decide +kernel
theorem dX11_cut_34 : decode cX11_cut 34 = .ok (.iload 4, 2) := by decide +kernel
theorem dX11_cut_36 : decode cX11_cut 36 = .ok (.iadd, 1) := by decide +kernel
theorem dX11_cut_37 : decode cX11_cut 37 = .ok (.bipush 100, 2) := by decide +kernel
theorem dX11_cut_39 : decode cX11_cut 39 = .ok (.if_icmp .gt 7, 3) := by decide +kernel
theorem dX11_cut_42 : decode cX11_cut 42 = .ok (.iconst 1, 1) := by decide +kernel
theorem dX11_cut_43 : decode cX11_cut 43 = .ok (.goto 4, 3) := by decide +kernel
theorem dX11_cut_46 : decode cX11_cut 46 = .ok (.iconst 0, 1) := by decide +kernel
theorem dX11_cut_47 : decode cX11_cut 47 = .ok (.istore 5, 2) := by decide +kernel
theorem dX11_cut_49 : decode cX11_cut 49 = .ok (.aload_n 0, 1) := by decide +kernel
theorem dX11_cut_50 : decode cX11_cut 50 = .ok (.iload_n 1, 1) := by decide +kernel
theorem dX11_cut_51 : decode cX11_cut 51 = .ok (.iconst 3, 1) := by decide +kernel
theorem dX11_cut_52 : decode cX11_cut 52 = .ok (.invokevirtual 128, 3) := by decide +kernel
theorem dX11_cut_55 : decode cX11_cut 55 = .ok (.ifCond .eq 16, 3) := by decide +kernel
theorem dX11_cut_58 : decode cX11_cut 58 = .ok (.aload_n 0, 1) := by decide +kernel
theorem dX11_cut_59 : decode cX11_cut 59 = .ok (.iload_n 1, 1) := by decide +kernel
theorem dX11_cut_60 : decode cX11_cut 60 = .ok (.invokevirtual 123, 3) := by decide +kernel
theorem dX11_cut_63 : decode cX11_cut 63 = .ok (.ifCond .eq 8, 3) := by decide +kernel
theorem dX11_cut_66 : decode cX11_cut 66 = .ok (.iload 5, 2) := by decide +kernel
theorem dX11_cut_68 : decode cX11_cut 68 = .ok (.ifCond .ne 5, 3) := by decide +kernel
theorem dX11_cut_71 : decode cX11_cut 71 = .ok (.iconst (-1), 1) := by decide +kernel
theorem dX11_cut_72 : decode cX11_cut 72 = .ok (.ireturn, 1) := by decide +kernel
theorem dX11_cut_73 : decode cX11_cut 73 = .ok (.aload_n 0, 1) := by decide +kernel
theorem dX11_cut_74 : decode cX11_cut 74 = .ok (.getfield 29, 3) := by decide +kernel
theorem dX11_cut_77 : decode cX11_cut 77 = .ok (.iload_n 1, 1) := by decide +kernel
theorem dX11_cut_78 : decode cX11_cut 78 = .ok (.iaload, 1) := by decide +kernel
theorem dX11_cut_79 : decode cX11_cut 79 = .ok (.iconst 1, 1) := by decide +kernel
theorem dX11_cut_80 : decode cX11_cut 80 = .ok (.if_icmp .gt 23, 3) := by decide +kernel
theorem dX11_cut_83 : decode cX11_cut 83 = .ok (.aload_n 0, 1) := by decide +kernel
theorem dX11_cut_84 : decode cX11_cut 84 = .ok (.getfield 29, 3) := by decide +kernel
theorem dX11_cut_87 : decode cX11_cut 87 = .ok (.iload_n 1, 1) := by decide +kernel
theorem dX11_cut_88 : decode cX11_cut 88 = .ok (.iaload, 1) := by decide +kernel
theorem dX11_cut_89 : decode cX11_cut 89 = .ok (.iconst 1, 1) := by decide +kernel
theorem dX11_cut_90 : decode cX11_cut 90 = .ok (.if_icmp .ne 15, 3) := by decide +kernel
theorem dX11_cut_93 : decode cX11_cut 93 = .ok (.aload_n 0, 1) := by decide +kernel
theorem dX11_cut_94 : decode cX11_cut 94 = .ok (.getfield 26, 3) := by decide +kernel
theorem dX11_cut_97 : decode cX11_cut 97 = .ok (.iload_n 1, 1) := by decide +kernel
theorem dX11_cut_98 : decode cX11_cut 98 = .ok (.iaload, 1) := by decide +kernel
theorem dX11_cut_99 : decode cX11_cut 99 = .ok (.iconst 3, 1) := by decide +kernel
theorem dX11_cut_100 : decode cX11_cut 100 = .ok (.if_icmp .eq 5, 3) := by decide +kernel
theorem dX11_cut_103 : decode cX11_cut 103 = .ok (.iconst (-1), 1) := by decide +kernel
theorem dX11_cut_104 : decode cX11_cut 104 = .ok (.ireturn, 1) := by decide +kernel
theorem dX11_cut_105 : decode cX11_cut 105 = .ok (.iload_n 2, 1) := by decide +kernel
theorem dX11_cut_106 : decode cX11_cut 106 = .ok (.iconst 3, 1) := by decide +kernel
theorem dX11_cut_107 : decode cX11_cut 107 = .ok (.if_icmp .gt 34, 3) := by decide +kernel
theorem dX11_cut_110 : decode cX11_cut 110 = .ok (.iload_n 3, 1) := by decide +kernel
theorem dX11_cut_111 : decode cX11_cut 111 = .ok (.iconst 3, 1) := by decide +kernel
theorem dX11_cut_112 : decode cX11_cut 112 = .ok (.if_icmp .gt 29, 3) := by decide +kernel
theorem dX11_cut_115 : decode cX11_cut 115 = .ok (.iload 4, 2) := by decide +kernel
theorem dX11_cut_117 : decode cX11_cut 117 = .ok (.iconst 3, 1) := by decide +kernel
theorem dX11_cut_118 : decode cX11_cut 118 = .ok (.if_icmp .gt 23, 3) := by decide +kernel
theorem dX11_cut_121 : decode cX11_cut 121 = .ok (.aload_n 0, 1) := by decide +kernel
theorem dX11_cut_122 : decode cX11_cut 122 = .ok (.getfield 19, 3) := by decide +kernel
theorem dX11_cut_125 : decode cX11_cut 125 = .ok (.iload_n 1, 1) := by decide +kernel
theorem dX11_cut_126 : decode cX11_cut 126 = .ok (.iaload, 1) := by decide +kernel
theorem dX11_cut_127 : decode cX11_cut 127 = .ok (.bipush 50, 2) := by decide +kernel
theorem dX11_cut_129 : decode cX11_cut 129 = .ok (.bipush 90, 2) := by decide +kernel
theorem dX11_cut_131 : decode cX11_cut 131 = .ok (.invokestatic 115, 3) := by decide +kernel
theorem dX11_cut_134 : decode cX11_cut 134 = .ok (.ifCond .eq 7, 3) := by decide +kernel
theorem dX11_cut_137 : decode cX11_cut 137 = .ok (.iconst 1, 1) := by decide +kernel
theorem dX11_cut_138 : decode cX11_cut 138 = .ok (.goto 4, 3) := by decide +kernel
theorem dX11_cut_141 : decode cX11_cut 141 = .ok (.iconst 0, 1) := by decide +kernel
theorem dX11_cut_142 : decode cX11_cut 142 = .ok (.istore 6, 2) := by decide +kernel
theorem dX11_cut_144 : decode cX11_cut 144 = .ok (.iload_n 2, 1) := by decide +kernel
theorem dX11_cut_145 : decode cX11_cut 145 = .ok (.iconst 4, 1) := by decide +kernel
theorem dX11_cut_146 : decode cX11_cut 146 = .ok (.if_icmp .gt 20, 3) := by decide +kernel
theorem dX11_cut_149 : decode cX11_cut 149 = .ok (.iload_n 3, 1) := by decide +kernel
theorem dX11_cut_150 : decode cX11_cut 150 = .ok (.bipush 8, 2) := by decide +kernel
theorem dX11_cut_152 : decode cX11_cut 152 = .ok (.if_icmp .gt 14, 3) := by decide +kernel
theorem dX11_cut_155 : decode cX11_cut 155 = .ok (.iload 4, 2) := by decide +kernel
theorem dX11_cut_157 : decode cX11_cut 157 = .ok (.bipush 6, 2) := by decide +kernel
theorem dX11_cut_159 : decode cX11_cut 159 = .ok (.if_icmp .gt 7, 3) := by decide +kernel
theorem dX11_cut_162 : decode cX11_cut 162 = .ok (.iconst 1, 1) := by decide +kernel
theorem dX11_cut_163 : decode cX11_cut 163 = .ok (.goto 4, 3) := by decide +kernel
theorem dX11_cut_166 : decode cX11_cut 166 = .ok (.iconst 0, 1) := by decide +kernel
theorem dX11_cut_167 : decode cX11_cut 167 = .ok (.istore 7, 2) := by decide +kernel
theorem dX11_cut_169 : decode cX11_cut 169 = .ok (.aload_n 0, 1) := by decide +kernel
theorem dX11_cut_170 : decode cX11_cut 170 = .ok (.getfield 26, 3) := by decide +kernel
theorem dX11_cut_173 : decode cX11_cut 173 = .ok (.iload_n 1, 1) := by decide +kernel
theorem dX11_cut_174 : decode cX11_cut 174 = .ok (.iload 6, 2) := by decide +kernel
theorem dX11_cut_176 : decode cX11_cut 176 = .ok (.ifCond .eq 7, 3) := by decide +kernel
theorem dX11_cut_179 : decode cX11_cut 179 = .ok (.iconst 1, 1) := by decide +kernel
theorem dX11_cut_180 : decode cX11_cut 180 = .ok (.goto 13, 3) := by decide +kernel
theorem dX11_cut_183 : decode cX11_cut 183 = .ok (.iload 7, 2) := by decide +kernel
theorem dX11_cut_185 : decode cX11_cut 185 = .ok (.ifCond .eq 7, 3) := by decide +kernel
theorem dX11_cut_188 : decode cX11_cut 188 = .ok (.iconst 2, 1) := by decide +kernel
theorem dX11_cut_189 : decode cX11_cut 189 = .ok (.goto 4, 3) := by decide +kernel
theorem dX11_cut_192 : decode cX11_cut 192 = .ok (.iconst 3, 1) := by decide +kernel
theorem dX11_cut_193 : decode cX11_cut 193 = .ok (.iastore, 1) := by decide +kernel
theorem dX11_cut_194 : decode cX11_cut 194 = .ok (.aload_n 0, 1) := by decide +kernel
theorem dX11_cut_195 : decode cX11_cut 195 = .ok (.getfield 29, 3) := by decide +kernel
theorem dX11_cut_198 : decode cX11_cut 198 = .ok (.iload_n 1, 1) := by decide +kernel
theorem dX11_cut_199 : decode cX11_cut 199 = .ok (.dup2, 1) := by decide +kernel
theorem dX11_cut_200 : decode cX11_cut 200 = .ok (.iaload, 1) := by decide +kernel
theorem dX11_cut_201 : decode cX11_cut 201 = .ok (.iconst 1, 1) := by decide +kernel
theorem dX11_cut_202 : decode cX11_cut 202 = .ok (.iadd, 1) := by decide +kernel
theorem dX11_cut_203 : decode cX11_cut 203 = .ok (.iastore, 1) := by decide +kernel
theorem dX11_cut_204 : decode cX11_cut 204 = .ok (.aload_n 0, 1) := by decide +kernel
theorem dX11_cut_205 : decode cX11_cut 205 = .ok (.getfield 26, 3) := by decide +kernel
theorem dX11_cut_208 : decode cX11_cut 208 = .ok (.iload_n 1, 1) := by decide +kernel
theorem dX11_cut_209 : decode cX11_cut 209 = .ok (.iaload, 1) := by decide +kernel
theorem dX11_cut_210 : decode cX11_cut 210 = .ok (.ireturn, 1) := by decide +kernel
theorem dX11_feed_0 : decode cX11_feed 0 = .ok (.iconst 0, 1) := by decide +kernel
theorem dX11_feed_1 : decode cX11_feed 1 = .ok (.istore 6, 2) := by decide +kernel
theorem dX11_feed_3 : decode cX11_feed 3 = .ok (.iconst 0, 1) := by decide +kernel
theorem dX11_feed_4 : decode cX11_feed 4 = .ok (.istore 7, 2) := by decide +kernel
theorem dX11_feed_6 : decode cX11_feed 6 = .ok (.iload 7, 2) := by decide +kernel
theorem dX11_feed_8 : decode cX11_feed 8 = .ok (.bipush 20, 2) := by decide +kernel
theorem dX11_feed_10 : decode cX11_feed 10 = .ok (.if_icmp .ge 34, 3) := by decide +kernel
theorem dX11_feed_13 : decode cX11_feed 13 = .ok (.iload 6, 2) := by decide +kernel
theorem dX11_feed_15 : decode cX11_feed 15 = .ok (.iload_n 1, 1) := by decide +kernel
theorem dX11_feed_16 : decode cX11_feed 16 = .ok (.iload_n 2, 1) := by decide +kernel
theorem dX11_feed_17 : decode cX11_feed 17 = .ok (.iload_n 3, 1) := by decide +kernel
theorem dX11_feed_18 : decode cX11_feed 18 = .ok (.iload 4, 2) := by decide +kernel
theorem dX11_feed_20 : decode cX11_feed 20 = .ok (.iload 5, 2) := by decide +kernel
theorem dX11_feed_22 : decode cX11_feed 22 = .ok (.iload 7, 2) := by decide +kernel
theorem dX11_feed_24 : decode cX11_feed 24 = .ok (.invokestatic 162, 3) := by decide +kernel
theorem dX11_feed_27 : decode cX11_feed 27 = .ok (.ifCond .eq 7, 3) := by decide +kernel
theorem dX11_feed_30 : decode cX11_feed 30 = .ok (.iconst 1, 1) := by decide +kernel
theorem dX11_feed_31 : decode cX11_feed 31 = .ok (.goto 4, 3) := by decide +kernel
theorem dX11_feed_34 : decode cX11_feed 34 = .ok (.iconst 0, 1) := by decide +kernel
theorem dX11_feed_35 : decode cX11_feed 35 = .ok (.iadd, 1) := by decide +kernel
theorem dX11_feed_36 : decode cX11_feed 36 = .ok (.istore 6, 2) := by decide +kernel
theorem dX11_feed_38 : decode cX11_feed 38 = .ok (.iinc 7 1, 3) := by decide +kernel
theorem dX11_feed_41 : decode cX11_feed 41 = .ok (.goto (-35), 3) := by decide +kernel
theorem dX11_feed_44 : decode cX11_feed 44 = .ok (.aload_n 0, 1) := by decide +kernel
theorem dX11_feed_45 : decode cX11_feed 45 = .ok (.getfield 166, 3) := by decide +kernel
theorem dX11_feed_48 : decode cX11_feed 48 = .ok (.iload 6, 2) := by decide +kernel
theorem dX11_feed_50 : decode cX11_feed 50 = .ok (.iadd, 1) := by decide +kernel
theorem dX11_feed_51 : decode cX11_feed 51 = .ok (.sipush 200, 3) := by decide +kernel
theorem dX11_feed_54 : decode cX11_feed 54 = .ok (.if_icmp .le 5, 3) := by decide +kernel
theorem dX11_feed_57 : decode cX11_feed 57 = .ok (.iconst (-1), 1) := by decide +kernel
theorem dX11_feed_58 : decode cX11_feed 58 = .ok (.ireturn, 1) := by decide +kernel
theorem dX11_feed_59 : decode cX11_feed 59 = .ok (.iconst 0, 1) := by decide +kernel
theorem dX11_feed_60 : decode cX11_feed 60 = .ok (.istore 7, 2) := by decide +kernel
theorem dX11_feed_62 : decode cX11_feed 62 = .ok (.iload 7, 2) := by decide +kernel
theorem dX11_feed_64 : decode cX11_feed 64 = .ok (.bipush 20, 2) := by decide +kernel
theorem dX11_feed_66 : decode cX11_feed 66 = .ok (.if_icmp .ge 49, 3) := by decide +kernel
theorem dX11_feed_69 : decode cX11_feed 69 = .ok (.iload_n 1, 1) := by decide +kernel
theorem dX11_feed_70 : decode cX11_feed 70 = .ok (.iload_n 2, 1) := by decide +kernel
theorem dX11_feed_71 : decode cX11_feed 71 = .ok (.iload_n 3, 1) := by decide +kernel
theorem dX11_feed_72 : decode cX11_feed 72 = .ok (.iload 4, 2) := by decide +kernel
theorem dX11_feed_74 : decode cX11_feed 74 = .ok (.iload 5, 2) := by decide +kernel
theorem dX11_feed_76 : decode cX11_feed 76 = .ok (.iload 7, 2) := by decide +kernel
theorem dX11_feed_78 : decode cX11_feed 78 = .ok (.invokestatic 162, 3) := by decide +kernel
theorem dX11_feed_81 : decode cX11_feed 81 = .ok (.istore 8, 2) := by decide +kernel
theorem dX11_feed_83 : decode cX11_feed 83 = .ok (.iload 8, 2) := by decide +kernel
theorem dX11_feed_85 : decode cX11_feed 85 = .ok (.ifCond .eq 24, 3) := by decide +kernel
theorem dX11_feed_88 : decode cX11_feed 88 = .ok (.aload_n 0, 1) := by decide +kernel
theorem dX11_feed_89 : decode cX11_feed 89 = .ok (.getfield 42, 3) := by decide +kernel
theorem dX11_feed_92 : decode cX11_feed 92 = .ok (.aload_n 0, 1) := by decide +kernel
theorem dX11_feed_93 : decode cX11_feed 93 = .ok (.getfield 166, 3) := by decide +kernel
theorem dX11_feed_96 : decode cX11_feed 96 = .ok (.iload 8, 2) := by decide +kernel
theorem dX11_feed_98 : decode cX11_feed 98 = .ok (.iastore, 1) := by decide +kernel
theorem dX11_feed_99 : decode cX11_feed 99 = .ok (.aload_n 0, 1) := by decide +kernel
theorem dX11_feed_100 : decode cX11_feed 100 = .ok (.dup, 1) := by decide +kernel
theorem dX11_feed_101 : decode cX11_feed 101 = .ok (.getfield 166, 3) := by decide +kernel
theorem dX11_feed_104 : decode cX11_feed 104 = .ok (.iconst 1, 1) := by decide +kernel
theorem dX11_feed_105 : decode cX11_feed 105 = .ok (.iadd, 1) := by decide +kernel
theorem dX11_feed_106 : decode cX11_feed 106 = .ok (.putfield 166, 3) := by decide +kernel
theorem dX11_feed_109 : decode cX11_feed 109 = .ok (.iinc 7 1, 3) := by decide +kernel
theorem dX11_feed_112 : decode cX11_feed 112 = .ok (.goto (-50), 3) := by decide +kernel
theorem dX11_feed_115 : decode cX11_feed 115 = .ok (.aload_n 0, 1) := by decide +kernel
theorem dX11_feed_116 : decode cX11_feed 116 = .ok (.getfield 166, 3) := by decide +kernel
theorem dX11_feed_119 : decode cX11_feed 119 = .ok (.ireturn, 1) := by decide +kernel
theorem dX11_byteOf_0 : decode cX11_byteOf 0 = .ok (.iload 5, 2) := by decide +kernel
theorem dX11_byteOf_2 : decode cX11_byteOf 2 = .ok (.iconst 4, 1) := by decide +kernel
theorem dX11_byteOf_3 : decode cX11_byteOf 3 = .ok (.if_icmp .ge 7, 3) := by decide +kernel
theorem dX11_byteOf_6 : decode cX11_byteOf 6 = .ok (.iload_n 0, 1) := by decide +kernel
theorem dX11_byteOf_7 : decode cX11_byteOf 7 = .ok (.goto 38, 3) := by decide +kernel
theorem dX11_byteOf_10 : decode cX11_byteOf 10 = .ok (.iload 5, 2) := by decide +kernel
theorem dX11_byteOf_12 : decode cX11_byteOf 12 = .ok (.bipush 8, 2) := by decide +kernel
theorem dX11_byteOf_14 : decode cX11_byteOf 14 = .ok (.if_icmp .ge 7, 3) := by decide +kernel
theorem dX11_byteOf_17 : decode cX11_byteOf 17 = .ok (.iload_n 1, 1) := by decide +kernel
theorem dX11_byteOf_18 : decode cX11_byteOf 18 = .ok (.goto 27, 3) := by decide +kernel
theorem dX11_byteOf_21 : decode cX11_byteOf 21 = .ok (.iload 5, 2) := by decide +kernel
theorem dX11_byteOf_23 : decode cX11_byteOf 23 = .ok (.bipush 12, 2) := by decide +kernel
theorem dX11_byteOf_25 : decode cX11_byteOf 25 = .ok (.if_icmp .ge 7, 3) := by decide +kernel
theorem dX11_byteOf_28 : decode cX11_byteOf 28 = .ok (.iload_n 2, 1) := by decide +kernel
theorem dX11_byteOf_29 : decode cX11_byteOf 29 = .ok (.goto 16, 3) := by decide +kernel
theorem dX11_byteOf_32 : decode cX11_byteOf 32 = .ok (.iload 5, 2) := by decide +kernel
theorem dX11_byteOf_34 : decode cX11_byteOf 34 = .ok (.bipush 16, 2) := by decide +kernel
theorem dX11_byteOf_36 : decode cX11_byteOf 36 = .ok (.if_icmp .ge 7, 3) := by decide +kernel
theorem dX11_byteOf_39 : decode cX11_byteOf 39 = .ok (.iload_n 3, 1) := by decide +kernel
theorem dX11_byteOf_40 : decode cX11_byteOf 40 = .ok (.goto 5, 3) := by decide +kernel
theorem dX11_byteOf_43 : decode cX11_byteOf 43 = .ok (.iload 4, 2) := by decide +kernel
theorem dX11_byteOf_45 : decode cX11_byteOf 45 = .ok (.istore 6, 2) := by decide +kernel
theorem dX11_byteOf_47 : decode cX11_byteOf 47 = .ok (.iload 6, 2) := by decide +kernel
theorem dX11_byteOf_49 : decode cX11_byteOf 49 = .ok (.bipush 24, 2) := by decide +kernel
theorem dX11_byteOf_51 : decode cX11_byteOf 51 = .ok (.bipush 8, 2) := by decide +kernel
theorem dX11_byteOf_53 : decode cX11_byteOf 53 = .ok (.iload 5, 2) := by decide +kernel
theorem dX11_byteOf_55 : decode cX11_byteOf 55 = .ok (.iconst 4, 1) := by decide +kernel
theorem dX11_byteOf_56 : decode cX11_byteOf 56 = .ok (.irem, 1) := by decide +kernel
theorem dX11_byteOf_57 : decode cX11_byteOf 57 = .ok (.imul, 1) := by decide +kernel
theorem dX11_byteOf_58 : decode cX11_byteOf 58 = .ok (.isub, 1) := by decide +kernel
theorem dX11_byteOf_59 : decode cX11_byteOf 59 = .ok (.ishr, 1) := by decide +kernel
theorem dX11_byteOf_60 : decode cX11_byteOf 60 = .ok (.sipush 255, 3) := by decide +kernel
theorem dX11_byteOf_63 : decode cX11_byteOf 63 = .ok (.iand, 1) := by decide +kernel
theorem dX11_byteOf_64 : decode cX11_byteOf 64 = .ok (.ireturn, 1) := by decide +kernel
theorem dX11_end_0 : decode cX11_end 0 = .ok (.iload_n 1, 1) := by decide +kernel
theorem dX11_end_1 : decode cX11_end 1 = .ok (.ifCond .lt 11, 3) := by decide +kernel
theorem dX11_end_4 : decode cX11_end 4 = .ok (.iload_n 1, 1) := by decide +kernel
theorem dX11_end_5 : decode cX11_end 5 = .ok (.aload_n 0, 1) := by decide +kernel
theorem dX11_end_6 : decode cX11_end 6 = .ok (.getfield 166, 3) := by decide +kernel
theorem dX11_end_9 : decode cX11_end 9 = .ok (.if_icmp .le 5, 3) := by decide +kernel
theorem dX11_end_12 : decode cX11_end 12 = .ok (.iconst 0, 1) := by decide +kernel
theorem dX11_end_13 : decode cX11_end 13 = .ok (.ireturn, 1) := by decide +kernel
theorem dX11_end_14 : decode cX11_end 14 = .ok (.aload_n 0, 1) := by decide +kernel
theorem dX11_end_15 : decode cX11_end 15 = .ok (.iload_n 1, 1) := by decide +kernel
theorem dX11_end_16 : decode cX11_end 16 = .ok (.putfield 166, 3) := by decide +kernel
theorem dX11_end_19 : decode cX11_end 19 = .ok (.iconst 1, 1) := by decide +kernel
theorem dX11_end_20 : decode cX11_end 20 = .ok (.ireturn, 1) := by decide +kernel
