theorem dX11_part_0 : decode cX11_part 0 = .ok (.iload_n 1, 1) := by decide +kernel
theorem dX11_part_1 : decode cX11_part 1 = .ok (.iconst 0, 1) := by decide +kernel
theorem dX11_part_2 : decode cX11_part 2 = .ok (.aload_n 0, 1) := by decide +kernel
theorem dX11_part_3 : decode cX11_part 3 = .ok (.getfield 111, 3) := by decide +kernel
theorem dX11_part_6 : decode cX11_part 6 = .ok (.iconst 1, 1) := by decide +kernel
theorem dX11_part_7 : decode cX11_part 7 = .ok (.isub, 1) := by decide +kernel
theorem dX11_part_8 : decode cX11_part 8 = .ok (.invokestatic 115, 3) := by decide +kernel
theorem dX11_part_11 : decode cX11_part 11 = .ok (.ifCond .eq 27, 3) := by decide +kernel
theorem dX11_part_14 : decode cX11_part 14 = .ok (.iload_n 2, 1) := by decide +kernel
theorem dX11_part_15 : decode cX11_part 15 = .ok (.iconst 0, 1) := by decide +kernel
theorem dX11_part_16 : decode cX11_part 16 = .ok (.bipush 59, 2) := by decide +kernel
theorem dX11_part_18 : decode cX11_part 18 = .ok (.invokestatic 115, 3) := by decide +kernel
theorem dX11_part_21 : decode cX11_part 21 = .ok (.ifCond .eq 17, 3) := by decide +kernel
theorem dX11_part_24 : decode cX11_part 24 = .ok (.aload_n 0, 1) := by decide +kernel
theorem dX11_part_25 : decode cX11_part 25 = .ok (.getfield 13, 3) := by decide +kernel
theorem dX11_part_28 : decode cX11_part 28 = .ok (.bipush 60, 2) := by decide +kernel
theorem dX11_part_30 : decode cX11_part 30 = .ok (.iload_n 1, 1) := by decide +kernel
theorem dX11_part_31 : decode cX11_part 31 = .ok (.imul, 1) := by decide +kernel
theorem dX11_part_32 : decode cX11_part 32 = .ok (.iload_n 2, 1) := by decide +kernel
theorem dX11_part_33 : decode cX11_part 33 = .ok (.iadd, 1) := by decide +kernel
theorem dX11_part_34 : decode cX11_part 34 = .ok (.iaload, 1) := by decide +kernel
theorem dX11_part_35 : decode cX11_part 35 = .ok (.goto 4, 3) := by decide +kernel
theorem dX11_part_38 : decode cX11_part 38 = .ok (.iconst 0, 1) := by decide +kernel
theorem dX11_part_39 : decode cX11_part 39 = .ok (.ireturn, 1) := by decide +kernel
theorem dX11_told_0 : decode cX11_told 0 = .ok (.iload_n 1, 1) := by decide +kernel
theorem dX11_told_1 : decode cX11_told 1 = .ok (.iconst 0, 1) := by decide +kernel
theorem dX11_told_2 : decode cX11_told 2 = .ok (.aload_n 0, 1) := by decide +kernel
theorem dX11_told_3 : decode cX11_told 3 = .ok (.getfield 111, 3) := by decide +kernel
theorem dX11_told_6 : decode cX11_told 6 = .ok (.iconst 1, 1) := by decide +kernel
theorem dX11_told_7 : decode cX11_told 7 = .ok (.isub, 1) := by decide +kernel
theorem dX11_told_8 : decode cX11_told 8 = .ok (.invokestatic 115, 3) := by decide +kernel
theorem dX11_told_11 : decode cX11_told 11 = .ok (.ifCond .ne 5, 3) := by decide +kernel
theorem dX11_told_14 : decode cX11_told 14 = .ok (.iconst (-1), 1) := by decide +kernel
theorem dX11_told_15 : decode cX11_told 15 = .ok (.ireturn, 1) := by decide +kernel
theorem dX11_told_16 : decode cX11_told 16 = .ok (.iconst 0, 1) := by decide +kernel
theorem dX11_told_17 : decode cX11_told 17 = .ok (.istore_n 3, 1) := by decide +kernel
theorem dX11_told_18 : decode cX11_told 18 = .ok (.iconst 0, 1) := by decide +kernel
theorem dX11_told_19 : decode cX11_told 19 = .ok (.istore 4, 2) := by decide +kernel
theorem dX11_told_21 : decode cX11_told 21 = .ok (.iload 4, 2) := by decide +kernel
theorem dX11_told_23 : decode cX11_told 23 = .ok (.bipush 60, 2) := by decide +kernel
theorem dX11_told_25 : decode cX11_told 25 = .ok (.if_icmp .ge 32, 3) := by decide +kernel
theorem dX11_told_28 : decode cX11_told 28 = .ok (.iload_n 3, 1) := by decide +kernel
theorem dX11_told_29 : decode cX11_told 29 = .ok (.aload_n 0, 1) := by decide +kernel
theorem dX11_told_30 : decode cX11_told 30 = .ok (.getfield 13, 3) := by decide +kernel
theorem dX11_told_33 : decode cX11_told 33 = .ok (.bipush 60, 2) := by decide +kernel
theorem dX11_told_35 : decode cX11_told 35 = .ok (.iload_n 1, 1) := by decide +kernel
theorem dX11_told_36 : decode cX11_told 36 = .ok (.imul, 1) := by decide +kernel
theorem dX11_told_37 : decode cX11_told 37 = .ok (.iload 4, 2) := by decide +kernel
theorem dX11_told_39 : decode cX11_told 39 = .ok (.iadd, 1) := by decide +kernel
theorem dX11_told_40 : decode cX11_told 40 = .ok (.iaload, 1) := by decide +kernel
theorem dX11_told_41 : decode cX11_told 41 = .ok (.ifCond .le 7, 3) := by decide +kernel
theorem dX11_told_44 : decode cX11_told 44 = .ok (.iconst 1, 1) := by decide +kernel
theorem dX11_told_45 : decode cX11_told 45 = .ok (.goto 4, 3) := by decide +kernel
theorem dX11_told_48 : decode cX11_told 48 = .ok (.iconst 0, 1) := by decide +kernel
theorem dX11_told_49 : decode cX11_told 49 = .ok (.iadd, 1) := by decide +kernel
theorem dX11_told_50 : decode cX11_told 50 = .ok (.istore_n 3, 1) := by decide +kernel
theorem dX11_told_51 : decode cX11_told 51 = .ok (.iinc 4 1, 3) := by decide +kernel
theorem dX11_told_54 : decode cX11_told 54 = .ok (.goto (-33), 3) := by decide +kernel
theorem dX11_told_57 : decode cX11_told 57 = .ok (.iload_n 2, 1) := by decide +kernel
theorem dX11_told_58 : decode cX11_told 58 = .ok (.tableswitch 113 0 8 #[50, 57, 63, 69, 76, 82, 89, 104, 111], 50) := by decide +kernel
theorem dX11_told_108 : decode cX11_told 108 = .ok (.aload_n 0, 1) := by decide +kernel
theorem dX11_told_109 : decode cX11_told 109 = .ok (.getfield 9, 3) := by decide +kernel
theorem dX11_told_112 : decode cX11_told 112 = .ok (.iload_n 1, 1) := by decide +kernel
theorem dX11_told_113 : decode cX11_told 113 = .ok (.iaload, 1) := by decide +kernel
theorem dX11_told_114 : decode cX11_told 114 = .ok (.ireturn, 1) := by decide +kernel
theorem dX11_told_115 : decode cX11_told 115 = .ok (.aload_n 0, 1) := by decide +kernel
theorem dX11_told_116 : decode cX11_told 116 = .ok (.iload_n 1, 1) := by decide +kernel
theorem dX11_told_117 : decode cX11_told 117 = .ok (.invokevirtual 123, 3) := by decide +kernel
theorem dX11_told_120 : decode cX11_told 120 = .ok (.ireturn, 1) := by decide +kernel
theorem dX11_told_121 : decode cX11_told 121 = .ok (.aload_n 0, 1) := by decide +kernel
theorem dX11_told_122 : decode cX11_told 122 = .ok (.iload_n 1, 1) := by decide +kernel
theorem dX11_told_123 : decode cX11_told 123 = .ok (.invokevirtual 119, 3) := by decide +kernel
theorem dX11_told_126 : decode cX11_told 126 = .ok (.ireturn, 1) := by decide +kernel
theorem dX11_told_127 : decode cX11_told 127 = .ok (.aload_n 0, 1) := by decide +kernel
theorem dX11_told_128 : decode cX11_told 128 = .ok (.getfield 16, 3) := by decide +kernel
theorem dX11_told_131 : decode cX11_told 131 = .ok (.iload_n 1, 1) := by decide +kernel
theorem dX11_told_132 : decode cX11_told 132 = .ok (.iaload, 1) := by decide +kernel
theorem dX11_told_133 : decode cX11_told 133 = .ok (.ireturn, 1) := by decide +kernel
theorem dX11_told_134 : decode cX11_told 134 = .ok (.aload_n 0, 1) := by decide +kernel
theorem dX11_told_135 : decode cX11_told 135 = .ok (.iload_n 1, 1) := by decide +kernel
theorem dX11_told_136 : decode cX11_told 136 = .ok (.invokevirtual 138, 3) := by decide +kernel
theorem dX11_told_139 : decode cX11_told 139 = .ok (.ireturn, 1) := by decide +kernel
theorem dX11_told_140 : decode cX11_told 140 = .ok (.aload_n 0, 1) := by decide +kernel
theorem dX11_told_141 : decode cX11_told 141 = .ok (.getfield 19, 3) := by decide +kernel
theorem dX11_told_144 : decode cX11_told 144 = .ok (.iload_n 1, 1) := by decide +kernel
theorem dX11_told_145 : decode cX11_told 145 = .ok (.iaload, 1) := by decide +kernel
theorem dX11_told_146 : decode cX11_told 146 = .ok (.ireturn, 1) := by decide +kernel
theorem dX11_told_147 : decode cX11_told 147 = .ok (.aload_n 0, 1) := by decide +kernel
theorem dX11_told_148 : decode cX11_told 148 = .ok (.getfield 22, 3) := by decide +kernel
theorem dX11_told_151 : decode cX11_told 151 = .ok (.iload_n 1, 1) := by decide +kernel
theorem dX11_told_152 : decode cX11_told 152 = .ok (.baload, 1) := by decide +kernel
theorem dX11_told_153 : decode cX11_told 153 = .ok (.ifCond .eq 7, 3) := by decide +kernel
theorem dX11_told_156 : decode cX11_told 156 = .ok (.iconst 1, 1) := by decide +kernel
theorem dX11_told_157 : decode cX11_told 157 = .ok (.goto 4, 3) := by decide +kernel
theorem dX11_told_160 : decode cX11_told 160 = .ok (.iconst 0, 1) := by decide +kernel
theorem dX11_told_161 : decode cX11_told 161 = .ok (.ireturn, 1) := by decide +kernel
theorem dX11_told_162 : decode cX11_told 162 = .ok (.aload_n 0, 1) := by decide +kernel
theorem dX11_told_163 : decode cX11_told 163 = .ok (.getfield 26, 3) := by decide +kernel
theorem dX11_told_166 : decode cX11_told 166 = .ok (.iload_n 1, 1) := by decide +kernel
theorem dX11_told_167 : decode cX11_told 167 = .ok (.iaload, 1) := by decide +kernel
theorem dX11_told_168 : decode cX11_told 168 = .ok (.ireturn, 1) := by decide +kernel
theorem dX11_told_169 : decode cX11_told 169 = .ok (.iload_n 3, 1) := by decide +kernel
theorem dX11_told_170 : decode cX11_told 170 = .ok (.ireturn, 1) := by decide +kernel
theorem dX11_told_171 : decode cX11_told 171 = .ok (.iconst (-1), 1) := by decide +kernel
theorem dX11_told_172 : decode cX11_told 172 = .ok (.ireturn, 1) := by decide +kernel
theorem dX11_coins_0 : decode cX11_coins 0 = .ok (.iload_n 1, 1) := by decide +kernel
theorem dX11_coins_1 : decode cX11_coins 1 = .ok (.iconst 0, 1) := by decide +kernel
theorem dX11_coins_2 : decode cX11_coins 2 = .ok (.bipush 19, 2) := by decide +kernel
theorem dX11_coins_4 : decode cX11_coins 4 = .ok (.invokestatic 115, 3) := by decide +kernel
theorem dX11_coins_7 : decode cX11_coins 7 = .ok (.ifCond .eq 12, 3) := by decide +kernel
theorem dX11_coins_10 : decode cX11_coins 10 = .ok (.aload_n 0, 1) := by decide +kernel
theorem dX11_coins_11 : decode cX11_coins 11 = .ok (.getfield 93, 3) := by decide +kernel
theorem dX11_coins_14 : decode cX11_coins 14 = .ok (.iload_n 1, 1) := by decide +kernel
theorem dX11_coins_15 : decode cX11_coins 15 = .ok (.iaload, 1) := by decide +kernel
theorem dX11_coins_16 : decode cX11_coins 16 = .ok (.goto 4, 3) := by decide +kernel
theorem dX11_coins_19 : decode cX11_coins 19 = .ok (.iconst 0, 1) := by decide +kernel
theorem dX11_coins_20 : decode cX11_coins 20 = .ok (.ireturn, 1) := by decide +kernel
theorem dX11_entry_0 : decode cX11_entry 0 = .ok (.iload_n 1, 1) := by decide +kernel
theorem dX11_entry_1 : decode cX11_entry 1 = .ok (.iconst 0, 1) := by decide +kernel
theorem dX11_entry_2 : decode cX11_entry 2 = .ok (.aload_n 0, 1) := by decide +kernel
theorem dX11_entry_3 : decode cX11_entry 3 = .ok (.getfield 212, 3) := by decide +kernel
theorem dX11_entry_6 : decode cX11_entry 6 = .ok (.iconst 1, 1) := by decide +kernel
theorem dX11_entry_7 : decode cX11_entry 7 = .ok (.isub, 1) := by decide +kernel
theorem dX11_entry_8 : decode cX11_entry 8 = .ok (.invokestatic 115, 3) := by decide +kernel
theorem dX11_entry_11 : decode cX11_entry 11 = .ok (.ifCond .ne 5, 3) := by decide +kernel
theorem dX11_entry_14 : decode cX11_entry 14 = .ok (.iconst 0, 1) := by decide +kernel
theorem dX11_entry_15 : decode cX11_entry 15 = .ok (.ireturn, 1) := by decide +kernel
theorem dX11_entry_16 : decode cX11_entry 16 = .ok (.iload_n 2, 1) := by decide +kernel
theorem dX11_entry_17 : decode cX11_entry 17 = .ok (.ifCond .ne 12, 3) := by decide +kernel
theorem dX11_entry_20 : decode cX11_entry 20 = .ok (.aload_n 0, 1) := by decide +kernel
theorem dX11_entry_21 : decode cX11_entry 21 = .ok (.getfield 81, 3) := by decide +kernel
theorem dX11_entry_24 : decode cX11_entry 24 = .ok (.iload_n 1, 1) := by decide +kernel
theorem dX11_entry_25 : decode cX11_entry 25 = .ok (.iaload, 1) := by decide +kernel
theorem dX11_entry_26 : decode cX11_entry 26 = .ok (.goto 46, 3) := by decide +kernel
theorem dX11_entry_29 : decode cX11_entry 29 = .ok (.iload_n 2, 1) := by decide +kernel
theorem dX11_entry_30 : decode cX11_entry 30 = .ok (.iconst 1, 1) := by decide +kernel
theorem dX11_entry_31 : decode cX11_entry 31 = .ok (.if_icmp .ne 12, 3) := by decide +kernel
theorem dX11_entry_34 : decode cX11_entry 34 = .ok (.aload_n 0, 1) := by decide +kernel
theorem dX11_entry_35 : decode cX11_entry 35 = .ok (.getfield 84, 3) := by decide +kernel
theorem dX11_entry_38 : decode cX11_entry 38 = .ok (.iload_n 1, 1) := by decide +kernel
theorem dX11_entry_39 : decode cX11_entry 39 = .ok (.iaload, 1) := by decide +kernel
theorem dX11_entry_40 : decode cX11_entry 40 = .ok (.goto 32, 3) := by decide +kernel
theorem dX11_entry_43 : decode cX11_entry 43 = .ok (.iload_n 2, 1) := by decide +kernel
theorem dX11_entry_44 : decode cX11_entry 44 = .ok (.iconst 2, 1) := by decide +kernel
theorem dX11_entry_45 : decode cX11_entry 45 = .ok (.if_icmp .ne 12, 3) := by decide +kernel
theorem dX11_entry_48 : decode cX11_entry 48 = .ok (.aload_n 0, 1) := by decide +kernel
theorem dX11_entry_49 : decode cX11_entry 49 = .ok (.getfield 87, 3) := by decide +kernel
theorem dX11_entry_52 : decode cX11_entry 52 = .ok (.iload_n 1, 1) := by decide +kernel
theorem dX11_entry_53 : decode cX11_entry 53 = .ok (.iaload, 1) := by decide +kernel
theorem dX11_entry_54 : decode cX11_entry 54 = .ok (.goto 18, 3) := by decide +kernel
theorem dX11_entry_57 : decode cX11_entry 57 = .ok (.iload_n 2, 1) := by decide +kernel
theorem dX11_entry_58 : decode cX11_entry 58 = .ok (.iconst 3, 1) := by decide +kernel
theorem dX11_entry_59 : decode cX11_entry 59 = .ok (.if_icmp .ne 12, 3) := by decide +kernel
theorem dX11_entry_62 : decode cX11_entry 62 = .ok (.aload_n 0, 1) := by decide +kernel
theorem dX11_entry_63 : decode cX11_entry 63 = .ok (.getfield 90, 3) := by decide +kernel
theorem dX11_entry_66 : decode cX11_entry 66 = .ok (.iload_n 1, 1) := by decide +kernel
theorem dX11_entry_67 : decode cX11_entry 67 = .ok (.iaload, 1) := by decide +kernel
theorem dX11_entry_68 : decode cX11_entry 68 = .ok (.goto 4, 3) := by decide +kernel
theorem dX11_entry_71 : decode cX11_entry 71 = .ok (.iconst 0, 1) := by decide +kernel
theorem dX11_entry_72 : decode cX11_entry 72 = .ok (.ireturn, 1) := by decide +kernel
theorem dX11_worth_0 : decode cX11_worth 0 = .ok (.iload_n 1, 1) := by decide +kernel
theorem dX11_worth_1 : decode cX11_worth 1 = .ok (.iconst 0, 1) := by decide +kernel
theorem dX11_worth_2 : decode cX11_worth 2 = .ok (.sipush 10000, 3) := by decide +kernel
theorem dX11_worth_5 : decode cX11_worth 5 = .ok (.invokestatic 115, 3) := by decide +kernel
theorem dX11_worth_8 : decode cX11_worth 8 = .ok (.ifCond .eq 22, 3) := by decide +kernel
theorem dX11_worth_11 : decode cX11_worth 11 = .ok (.aload_n 0, 1) := by decide +kernel
theorem dX11_worth_12 : decode cX11_worth 12 = .ok (.iload_n 2, 1) := by decide +kernel
theorem dX11_worth_13 : decode cX11_worth 13 = .ok (.iconst 3, 1) := by decide +kernel
theorem dX11_worth_14 : decode cX11_worth 14 = .ok (.invokevirtual 128, 3) := by decide +kernel
theorem dX11_worth_17 : decode cX11_worth 17 = .ok (.ifCond .eq 13, 3) := by decide +kernel
theorem dX11_worth_20 : decode cX11_worth 20 = .ok (.iload_n 3, 1) := by decide +kernel
theorem dX11_worth_21 : decode cX11_worth 21 = .ok (.iconst 0, 1) := by decide +kernel
theorem dX11_worth_22 : decode cX11_worth 22 = .ok (.bipush 19, 2) := by decide +kernel
theorem dX11_worth_24 : decode cX11_worth 24 = .ok (.invokestatic 115, 3) := by decide +kernel
theorem dX11_worth_27 : decode cX11_worth 27 = .ok (.ifCond .ne 7, 3) := by decide +kernel
theorem dX11_worth_30 : decode cX11_worth 30 = .ok (.ldc2_w 255, 3) := by decide +kernel
theorem dX11_worth_33 : decode cX11_worth 33 = .ok (.lreturn, 1) := by decide +kernel
theorem dX11_worth_34 : decode cX11_worth 34 = .ok (.aload_n 0, 1) := by decide +kernel
theorem dX11_worth_35 : decode cX11_worth 35 = .ok (.aload_n 0, 1) := by decide +kernel
theorem dX11_worth_36 : decode cX11_worth 36 = .ok (.iload_n 1, 1) := by decide +kernel
theorem dX11_worth_37 : decode cX11_worth 37 = .ok (.invokevirtual 235, 3) := by decide +kernel
theorem dX11_worth_40 : decode cX11_worth 40 = .ok (.aload_n 0, 1) := by decide +kernel
theorem dX11_worth_41 : decode cX11_worth 41 = .ok (.iload_n 2, 1) := by decide +kernel
theorem dX11_worth_42 : decode cX11_worth 42 = .ok (.iload_n 3, 1) := by decide +kernel
theorem dX11_worth_43 : decode cX11_worth 43 = .ok (.invokevirtual 229, 3) := by decide +kernel
theorem dX11_worth_46 : decode cX11_worth 46 = .ok (.i2l, 1) := by decide +kernel
theorem dX11_worth_47 : decode cX11_worth 47 = .ok (.aload_n 0, 1) := by decide +kernel
theorem dX11_worth_48 : decode cX11_worth 48 = .ok (.getfield 26, 3) := by decide +kernel
theorem dX11_worth_51 : decode cX11_worth 51 = .ok (.iload_n 2, 1) := by decide +kernel
theorem dX11_worth_52 : decode cX11_worth 52 = .ok (.iaload, 1) := by decide +kernel
theorem dX11_worth_53 : decode cX11_worth 53 = .ok (.i2l, 1) := by decide +kernel
theorem dX11_worth_54 : decode cX11_worth 54 = .ok (.aload_n 0, 1) := by decide +kernel
theorem dX11_worth_55 : decode cX11_worth 55 = .ok (.iload_n 2, 1) := by decide +kernel
theorem dX11_worth_56 : decode cX11_worth 56 = .ok (.iload_n 3, 1) := by decide +kernel
theorem dX11_worth_57 : decode cX11_worth 57 = .ok (.invokevirtual 232, 3) := by decide +kernel
theorem dX11_worth_60 : decode cX11_worth 60 = .ok (.i2l, 1) := by decide +kernel
theorem dX11_worth_61 : decode cX11_worth 61 = .ok (.invokevirtual 219, 3) := by decide +kernel
theorem dX11_worth_64 : decode cX11_worth 64 = .ok (.lreturn, 1) := by decide +kernel
theorem dX11_force_0 : decode cX11_force 0 = .ok (.iload_n 1, 1) := by decide +kernel
theorem dX11_force_1 : decode cX11_force 1 = .ok (.iconst 0, 1) := by decide +kernel
theorem dX11_force_2 : decode cX11_force 2 = .ok (.sipush 10000, 3) := by decide +kernel
theorem dX11_force_5 : decode cX11_force 5 = .ok (.invokestatic 115, 3) := by decide +kernel
theorem dX11_force_8 : decode cX11_force 8 = .ok (.ifCond .eq 11, 3) := by decide +kernel
theorem dX11_force_11 : decode cX11_force 11 = .ok (.aload_n 0, 1) := by decide +kernel
theorem dX11_force_12 : decode cX11_force 12 = .ok (.iload_n 1, 1) := by decide +kernel
theorem dX11_force_13 : decode cX11_force 13 = .ok (.invokevirtual 235, 3) := by decide +kernel
theorem dX11_force_16 : decode cX11_force 16 = .ok (.goto 4, 3) := by decide +kernel
theorem dX11_force_19 : decode cX11_force 19 = .ok (.iconst (-1), 1) := by decide +kernel
theorem dX11_force_20 : decode cX11_force 20 = .ok (.ireturn, 1) := by decide +kernel
