theorem dX11_look_0 : decode cX11_look 0 = .ok (.aload_n 0, 1) := by decide +kernel
theorem dX11_look_1 : decode cX11_look 1 = .ok (.getfield 169, 3) := by decide +kernel
theorem dX11_look_4 : decode cX11_look 4 = .ok (.aload_n 0, 1) := by decide +kernel
theorem dX11_look_5 : decode cX11_look 5 = .ok (.getfield 166, 3) := by decide +kernel
theorem dX11_look_8 : decode cX11_look 8 = .ok (.if_icmp .ge 30, 3) := by decide +kernel
theorem dX11_look_11 : decode cX11_look 11 = .ok (.aload_n 0, 1) := by decide +kernel
theorem dX11_look_12 : decode cX11_look 12 = .ok (.getfield 42, 3) := by decide +kernel
theorem dX11_look_15 : decode cX11_look 15 = .ok (.aload_n 0, 1) := by decide +kernel
theorem dX11_look_16 : decode cX11_look 16 = .ok (.getfield 169, 3) := by decide +kernel
theorem dX11_look_19 : decode cX11_look 19 = .ok (.iaload, 1) := by decide +kernel
theorem dX11_look_20 : decode cX11_look 20 = .ok (.bipush 32, 2) := by decide +kernel
theorem dX11_look_22 : decode cX11_look 22 = .ok (.if_icmp .ne 16, 3) := by decide +kernel
theorem dX11_look_25 : decode cX11_look 25 = .ok (.aload_n 0, 1) := by decide +kernel
theorem dX11_look_26 : decode cX11_look 26 = .ok (.dup, 1) := by decide +kernel
theorem dX11_look_27 : decode cX11_look 27 = .ok (.getfield 169, 3) := by decide +kernel
theorem dX11_look_30 : decode cX11_look 30 = .ok (.iconst 1, 1) := by decide +kernel
theorem dX11_look_31 : decode cX11_look 31 = .ok (.iadd, 1) := by decide +kernel
theorem dX11_look_32 : decode cX11_look 32 = .ok (.putfield 169, 3) := by decide +kernel
theorem dX11_look_35 : decode cX11_look 35 = .ok (.goto (-35), 3) := by decide +kernel
theorem dX11_look_38 : decode cX11_look 38 = .ok (.aload_n 0, 1) := by decide +kernel
theorem dX11_look_39 : decode cX11_look 39 = .ok (.getfield 169, 3) := by decide +kernel
theorem dX11_look_42 : decode cX11_look 42 = .ok (.aload_n 0, 1) := by decide +kernel
theorem dX11_look_43 : decode cX11_look 43 = .ok (.getfield 166, 3) := by decide +kernel
theorem dX11_look_46 : decode cX11_look 46 = .ok (.if_icmp .ge 15, 3) := by decide +kernel
theorem dX11_look_49 : decode cX11_look 49 = .ok (.aload_n 0, 1) := by decide +kernel
theorem dX11_look_50 : decode cX11_look 50 = .ok (.getfield 42, 3) := by decide +kernel
theorem dX11_look_53 : decode cX11_look 53 = .ok (.aload_n 0, 1) := by decide +kernel
theorem dX11_look_54 : decode cX11_look 54 = .ok (.getfield 169, 3) := by decide +kernel
theorem dX11_look_57 : decode cX11_look 57 = .ok (.iaload, 1) := by decide +kernel
theorem dX11_look_58 : decode cX11_look 58 = .ok (.goto 4, 3) := by decide +kernel
theorem dX11_look_61 : decode cX11_look 61 = .ok (.iconst (-1), 1) := by decide +kernel
theorem dX11_look_62 : decode cX11_look 62 = .ok (.ireturn, 1) := by decide +kernel
theorem dX11_fail_0 : decode cX11_fail 0 = .ok (.aload_n 0, 1) := by decide +kernel
theorem dX11_fail_1 : decode cX11_fail 1 = .ok (.aload_n 0, 1) := by decide +kernel
theorem dX11_fail_2 : decode cX11_fail 2 = .ok (.getfield 172, 3) := by decide +kernel
theorem dX11_fail_5 : decode cX11_fail 5 = .ok (.iconst (-1), 1) := by decide +kernel
theorem dX11_fail_6 : decode cX11_fail 6 = .ok (.if_icmp .ne 10, 3) := by decide +kernel
theorem dX11_fail_9 : decode cX11_fail 9 = .ok (.aload_n 0, 1) := by decide +kernel
theorem dX11_fail_10 : decode cX11_fail 10 = .ok (.getfield 169, 3) := by decide +kernel
theorem dX11_fail_13 : decode cX11_fail 13 = .ok (.goto 7, 3) := by decide +kernel
theorem dX11_fail_16 : decode cX11_fail 16 = .ok (.aload_n 0, 1) := by decide +kernel
theorem dX11_fail_17 : decode cX11_fail 17 = .ok (.getfield 172, 3) := by decide +kernel
theorem dX11_fail_20 : decode cX11_fail 20 = .ok (.putfield 172, 3) := by decide +kernel
theorem dX11_fail_23 : decode cX11_fail 23 = .ok (.return_, 1) := by decide +kernel
theorem dX11_say_0 : decode cX11_say 0 = .ok (.aload_n 0, 1) := by decide +kernel
theorem dX11_say_1 : decode cX11_say 1 = .ok (.getfield 54, 3) := by decide +kernel
theorem dX11_say_4 : decode cX11_say 4 = .ok (.aload_n 0, 1) := by decide +kernel
theorem dX11_say_5 : decode cX11_say 5 = .ok (.getfield 175, 3) := by decide +kernel
theorem dX11_say_8 : decode cX11_say 8 = .ok (.iload_n 1, 1) := by decide +kernel
theorem dX11_say_9 : decode cX11_say 9 = .ok (.iastore, 1) := by decide +kernel
theorem dX11_say_10 : decode cX11_say 10 = .ok (.aload_n 0, 1) := by decide +kernel
theorem dX11_say_11 : decode cX11_say 11 = .ok (.dup, 1) := by decide +kernel
theorem dX11_say_12 : decode cX11_say 12 = .ok (.getfield 175, 3) := by decide +kernel
theorem dX11_say_15 : decode cX11_say 15 = .ok (.iconst 1, 1) := by decide +kernel
theorem dX11_say_16 : decode cX11_say 16 = .ok (.iadd, 1) := by decide +kernel
theorem dX11_say_17 : decode cX11_say 17 = .ok (.putfield 175, 3) := by decide +kernel
theorem dX11_say_20 : decode cX11_say 20 = .ok (.return_, 1) := by decide +kernel
theorem dX11_factor_0 : decode cX11_factor 0 = .ok (.aload_n 0, 1) := by decide +kernel
theorem dX11_factor_1 : decode cX11_factor 1 = .ok (.invokevirtual 178, 3) := by decide +kernel
theorem dX11_factor_4 : decode cX11_factor 4 = .ok (.istore_n 1, 1) := by decide +kernel
theorem dX11_factor_5 : decode cX11_factor 5 = .ok (.iload_n 1, 1) := by decide +kernel
theorem dX11_factor_6 : decode cX11_factor 6 = .ok (.bipush 48, 2) := by decide +kernel
theorem dX11_factor_8 : decode cX11_factor 8 = .ok (.if_icmp .lt 16, 3) := by decide +kernel
theorem dX11_factor_11 : decode cX11_factor 11 = .ok (.iload_n 1, 1) := by decide +kernel
theorem dX11_factor_12 : decode cX11_factor 12 = .ok (.bipush 57, 2) := by decide +kernel
theorem dX11_factor_14 : decode cX11_factor 14 = .ok (.if_icmp .gt 10, 3) := by decide +kernel
theorem dX11_factor_17 : decode cX11_factor 17 = .ok (.aload_n 0, 1) := by decide +kernel
theorem dX11_factor_18 : decode cX11_factor 18 = .ok (.invokevirtual 182, 3) := by decide +kernel
theorem dX11_factor_21 : decode cX11_factor 21 = .ok (.goto 146, 3) := by decide +kernel
theorem dX11_factor_24 : decode cX11_factor 24 = .ok (.iload_n 1, 1) := by decide +kernel
theorem dX11_factor_25 : decode cX11_factor 25 = .ok (.bipush 103, 2) := by decide +kernel
theorem dX11_factor_27 : decode cX11_factor 27 = .ok (.if_icmp .eq 15, 3) := by decide +kernel
theorem dX11_factor_30 : decode cX11_factor 30 = .ok (.iload_n 1, 1) := by decide +kernel
theorem dX11_factor_31 : decode cX11_factor 31 = .ok (.bipush 113, 2) := by decide +kernel
theorem dX11_factor_33 : decode cX11_factor 33 = .ok (.if_icmp .eq 9, 3) := by decide +kernel
theorem dX11_factor_36 : decode cX11_factor 36 = .ok (.iload_n 1, 1) := by decide +kernel
theorem dX11_factor_37 : decode cX11_factor 37 = .ok (.bipush 112, 2) := by decide +kernel
theorem dX11_factor_39 : decode cX11_factor 39 = .ok (.if_icmp .ne 41, 3) := by decide +kernel
theorem dX11_factor_42 : decode cX11_factor 42 = .ok (.aload_n 0, 1) := by decide +kernel
theorem dX11_factor_43 : decode cX11_factor 43 = .ok (.iload_n 1, 1) := by decide +kernel
theorem dX11_factor_44 : decode cX11_factor 44 = .ok (.bipush 103, 2) := by decide +kernel
theorem dX11_factor_46 : decode cX11_factor 46 = .ok (.if_icmp .ne 7, 3) := by decide +kernel
theorem dX11_factor_49 : decode cX11_factor 49 = .ok (.iconst 1, 1) := by decide +kernel
theorem dX11_factor_50 : decode cX11_factor 50 = .ok (.goto 14, 3) := by decide +kernel
theorem dX11_factor_53 : decode cX11_factor 53 = .ok (.iload_n 1, 1) := by decide +kernel
theorem dX11_factor_54 : decode cX11_factor 54 = .ok (.bipush 113, 2) := by decide +kernel
theorem dX11_factor_56 : decode cX11_factor 56 = .ok (.if_icmp .ne 7, 3) := by decide +kernel
theorem dX11_factor_59 : decode cX11_factor 59 = .ok (.iconst 2, 1) := by decide +kernel
theorem dX11_factor_60 : decode cX11_factor 60 = .ok (.goto 4, 3) := by decide +kernel
theorem dX11_factor_63 : decode cX11_factor 63 = .ok (.iconst 3, 1) := by decide +kernel
theorem dX11_factor_64 : decode cX11_factor 64 = .ok (.invokevirtual 185, 3) := by decide +kernel
theorem dX11_factor_67 : decode cX11_factor 67 = .ok (.aload_n 0, 1) := by decide +kernel
theorem dX11_factor_68 : decode cX11_factor 68 = .ok (.dup, 1) := by decide +kernel
theorem dX11_factor_69 : decode cX11_factor 69 = .ok (.getfield 169, 3) := by decide +kernel
theorem dX11_factor_72 : decode cX11_factor 72 = .ok (.iconst 1, 1) := by decide +kernel
theorem dX11_factor_73 : decode cX11_factor 73 = .ok (.iadd, 1) := by decide +kernel
theorem dX11_factor_74 : decode cX11_factor 74 = .ok (.putfield 169, 3) := by decide +kernel
theorem dX11_factor_77 : decode cX11_factor 77 = .ok (.goto 90, 3) := by decide +kernel
theorem dX11_factor_80 : decode cX11_factor 80 = .ok (.iload_n 1, 1) := by decide +kernel
theorem dX11_factor_81 : decode cX11_factor 81 = .ok (.bipush 40, 2) := by decide +kernel
theorem dX11_factor_83 : decode cX11_factor 83 = .ok (.if_icmp .ne 80, 3) := by decide +kernel
theorem dX11_factor_86 : decode cX11_factor 86 = .ok (.aload_n 0, 1) := by decide +kernel
theorem dX11_factor_87 : decode cX11_factor 87 = .ok (.getfield 189, 3) := by decide +kernel
theorem dX11_factor_90 : decode cX11_factor 90 = .ok (.bipush 8, 2) := by decide +kernel
theorem dX11_factor_92 : decode cX11_factor 92 = .ok (.if_icmp .ge 71, 3) := by decide +kernel
theorem dX11_factor_95 : decode cX11_factor 95 = .ok (.aload_n 0, 1) := by decide +kernel
theorem dX11_factor_96 : decode cX11_factor 96 = .ok (.dup, 1) := by decide +kernel
theorem dX11_factor_97 : decode cX11_factor 97 = .ok (.getfield 189, 3) := by decide +kernel
theorem dX11_factor_100 : decode cX11_factor 100 = .ok (.iconst 1, 1) := by decide +kernel
theorem dX11_factor_101 : decode cX11_factor 101 = .ok (.iadd, 1) := by decide +kernel
theorem dX11_factor_102 : decode cX11_factor 102 = .ok (.putfield 189, 3) := by decide +kernel
theorem dX11_factor_105 : decode cX11_factor 105 = .ok (.aload_n 0, 1) := by decide +kernel
theorem dX11_factor_106 : decode cX11_factor 106 = .ok (.dup, 1) := by decide +kernel
theorem dX11_factor_107 : decode cX11_factor 107 = .ok (.getfield 169, 3) := by decide +kernel
theorem dX11_factor_110 : decode cX11_factor 110 = .ok (.iconst 1, 1) := by decide +kernel
theorem dX11_factor_111 : decode cX11_factor 111 = .ok (.iadd, 1) := by decide +kernel
theorem dX11_factor_112 : decode cX11_factor 112 = .ok (.putfield 169, 3) := by decide +kernel
theorem dX11_factor_115 : decode cX11_factor 115 = .ok (.aload_n 0, 1) := by decide +kernel
theorem dX11_factor_116 : decode cX11_factor 116 = .ok (.invokevirtual 192, 3) := by decide +kernel
theorem dX11_factor_119 : decode cX11_factor 119 = .ok (.aload_n 0, 1) := by decide +kernel
theorem dX11_factor_120 : decode cX11_factor 120 = .ok (.getfield 172, 3) := by decide +kernel
theorem dX11_factor_123 : decode cX11_factor 123 = .ok (.iconst (-1), 1) := by decide +kernel
theorem dX11_factor_124 : decode cX11_factor 124 = .ok (.if_icmp .ne 16, 3) := by decide +kernel
theorem dX11_factor_127 : decode cX11_factor 127 = .ok (.aload_n 0, 1) := by decide +kernel
theorem dX11_factor_128 : decode cX11_factor 128 = .ok (.invokevirtual 178, 3) := by decide +kernel
theorem dX11_factor_131 : decode cX11_factor 131 = .ok (.bipush 41, 2) := by decide +kernel
theorem dX11_factor_133 : decode cX11_factor 133 = .ok (.if_icmp .eq 7, 3) := by decide +kernel
theorem dX11_factor_136 : decode cX11_factor 136 = .ok (.aload_n 0, 1) := by decide +kernel
theorem dX11_factor_137 : decode cX11_factor 137 = .ok (.invokevirtual 195, 3) := by decide +kernel
theorem dX11_factor_140 : decode cX11_factor 140 = .ok (.aload_n 0, 1) := by decide +kernel
theorem dX11_factor_141 : decode cX11_factor 141 = .ok (.dup, 1) := by decide +kernel
theorem dX11_factor_142 : decode cX11_factor 142 = .ok (.getfield 169, 3) := by decide +kernel
theorem dX11_factor_145 : decode cX11_factor 145 = .ok (.iconst 1, 1) := by decide +kernel
theorem dX11_factor_146 : decode cX11_factor 146 = .ok (.iadd, 1) := by decide +kernel
theorem dX11_factor_147 : decode cX11_factor 147 = .ok (.putfield 169, 3) := by decide +kernel
theorem dX11_factor_150 : decode cX11_factor 150 = .ok (.aload_n 0, 1) := by decide +kernel
theorem dX11_factor_151 : decode cX11_factor 151 = .ok (.dup, 1) := by decide +kernel
theorem dX11_factor_152 : decode cX11_factor 152 = .ok (.getfield 189, 3) := by decide +kernel
theorem dX11_factor_155 : decode cX11_factor 155 = .ok (.iconst 1, 1) := by decide +kernel
theorem dX11_factor_156 : decode cX11_factor 156 = .ok (.isub, 1) := by decide +kernel
theorem dX11_factor_157 : decode cX11_factor 157 = .ok (.putfield 189, 3) := by decide +kernel
theorem dX11_factor_160 : decode cX11_factor 160 = .ok (.goto 7, 3) := by decide +kernel
theorem dX11_factor_163 : decode cX11_factor 163 = .ok (.aload_n 0, 1) := by decide +kernel
theorem dX11_factor_164 : decode cX11_factor 164 = .ok (.invokevirtual 195, 3) := by decide +kernel
theorem dX11_factor_167 : decode cX11_factor 167 = .ok (.return_, 1) := by decide +kernel
theorem dX11_number_0 : decode cX11_number 0 = .ok (.iconst 0, 1) := by decide +kernel
theorem dX11_number_1 : decode cX11_number 1 = .ok (.istore_n 1, 1) := by decide +kernel
theorem dX11_number_2 : decode cX11_number 2 = .ok (.iconst 0, 1) := by decide +kernel
theorem dX11_number_3 : decode cX11_number 3 = .ok (.istore_n 2, 1) := by decide +kernel
theorem dX11_number_4 : decode cX11_number 4 = .ok (.aload_n 0, 1) := by decide +kernel
theorem dX11_number_5 : decode cX11_number 5 = .ok (.getfield 169, 3) := by decide +kernel
theorem dX11_number_8 : decode cX11_number 8 = .ok (.aload_n 0, 1) := by decide +kernel
theorem dX11_number_9 : decode cX11_number 9 = .ok (.getfield 166, 3) := by decide +kernel
theorem dX11_number_12 : decode cX11_number 12 = .ok (.if_icmp .ge 75, 3) := by decide +kernel
theorem dX11_number_15 : decode cX11_number 15 = .ok (.aload_n 0, 1) := by decide +kernel
theorem dX11_number_16 : decode cX11_number 16 = .ok (.getfield 42, 3) := by decide +kernel
theorem dX11_number_19 : decode cX11_number 19 = .ok (.aload_n 0, 1) := by decide +kernel
theorem dX11_number_20 : decode cX11_number 20 = .ok (.getfield 169, 3) := by decide +kernel
theorem dX11_number_23 : decode cX11_number 23 = .ok (.iaload, 1) := by decide +kernel
theorem dX11_number_24 : decode cX11_number 24 = .ok (.bipush 48, 2) := by decide +kernel
theorem dX11_number_26 : decode cX11_number 26 = .ok (.if_icmp .lt 61, 3) := by decide +kernel
theorem dX11_number_29 : decode cX11_number 29 = .ok (.aload_n 0, 1) := by decide +kernel
theorem dX11_number_30 : decode cX11_number 30 = .ok (.getfield 42, 3) := by decide +kernel
theorem dX11_number_33 : decode cX11_number 33 = .ok (.aload_n 0, 1) := by decide +kernel
theorem dX11_number_34 : decode cX11_number 34 = .ok (.getfield 169, 3) := by decide +kernel
theorem dX11_number_37 : decode cX11_number 37 = .ok (.iaload, 1) := by decide +kernel
theorem dX11_number_38 : decode cX11_number 38 = .ok (.bipush 57, 2) := by decide +kernel
theorem dX11_number_40 : decode cX11_number 40 = .ok (.if_icmp .gt 47, 3) := by decide +kernel
theorem dX11_number_43 : decode cX11_number 43 = .ok (.iload_n 2, 1) := by decide +kernel
theorem dX11_number_44 : decode cX11_number 44 = .ok (.iconst 4, 1) := by decide +kernel
theorem dX11_number_45 : decode cX11_number 45 = .ok (.if_icmp .ne 8, 3) := by decide +kernel
theorem dX11_number_48 : decode cX11_number 48 = .ok (.aload_n 0, 1) := by decide +kernel
theorem dX11_number_49 : decode cX11_number 49 = .ok (.invokevirtual 195, 3) := by decide +kernel
theorem dX11_number_52 : decode cX11_number 52 = .ok (.return_, 1) := by decide +kernel
theorem dX11_number_53 : decode cX11_number 53 = .ok (.bipush 10, 2) := by decide +kernel
theorem dX11_number_55 : decode cX11_number 55 = .ok (.iload_n 1, 1) := by decide +kernel
theorem dX11_number_56 : decode cX11_number 56 = .ok (.imul, 1) := by decide +kernel
theorem dX11_number_57 : decode cX11_number 57 = .ok (.aload_n 0, 1) := by decide +kernel
theorem dX11_number_58 : decode cX11_number 58 = .ok (.getfield 42, 3) := by decide +kernel
theorem dX11_number_61 : decode cX11_number 61 = .ok (.aload_n 0, 1) := by decide +kernel
theorem dX11_number_62 : decode cX11_number 62 = .ok (.getfield 169, 3) := by decide +kernel
theorem dX11_number_65 : decode cX11_number 65 = .ok (.iaload, 1) := by decide +kernel
theorem dX11_number_66 : decode cX11_number 66 = .ok (.iadd, 1) := by decide +kernel
theorem dX11_number_67 : decode cX11_number 67 = .ok (.bipush 48, 2) := by decide +kernel
theorem dX11_number_69 : decode cX11_number 69 = .ok (.isub, 1) := by decide +kernel
theorem dX11_number_70 : decode cX11_number 70 = .ok (.istore_n 1, 1) := by decide +kernel
theorem dX11_number_71 : decode cX11_number 71 = .ok (.iinc 2 1, 3) := by decide +kernel
theorem dX11_number_74 : decode cX11_number 74 = .ok (.aload_n 0, 1) := by decide +kernel
theorem dX11_number_75 : decode cX11_number 75 = .ok (.dup, 1) := by decide +kernel
theorem dX11_number_76 : decode cX11_number 76 = .ok (.getfield 169, 3) := by decide +kernel
theorem dX11_number_79 : decode cX11_number 79 = .ok (.iconst 1, 1) := by decide +kernel
theorem dX11_number_80 : decode cX11_number 80 = .ok (.iadd, 1) := by decide +kernel
theorem dX11_number_81 : decode cX11_number 81 = .ok (.putfield 169, 3) := by decide +kernel
theorem dX11_number_84 : decode cX11_number 84 = .ok (.goto (-80), 3) := by decide +kernel
theorem dX11_number_87 : decode cX11_number 87 = .ok (.aload_n 0, 1) := by decide +kernel
theorem dX11_number_88 : decode cX11_number 88 = .ok (.iconst 0, 1) := by decide +kernel
theorem dX11_number_89 : decode cX11_number 89 = .ok (.invokevirtual 185, 3) := by decide +kernel
theorem dX11_number_92 : decode cX11_number 92 = .ok (.aload_n 0, 1) := by decide +kernel
theorem dX11_number_93 : decode cX11_number 93 = .ok (.iload_n 1, 1) := by decide +kernel
theorem dX11_number_94 : decode cX11_number 94 = .ok (.invokevirtual 185, 3) := by decide +kernel
theorem dX11_number_97 : decode cX11_number 97 = .ok (.return_, 1) := by decide +kernel
theorem dX11_term_0 : decode cX11_term 0 = .ok (.aload_n 0, 1) := by decide +kernel
theorem dX11_term_1 : decode cX11_term 1 = .ok (.invokevirtual 198, 3) := by decide +kernel
theorem dX11_term_4 : decode cX11_term 4 = .ok (.aload_n 0, 1) := by decide +kernel
theorem dX11_term_5 : decode cX11_term 5 = .ok (.getfield 172, 3) := by decide +kernel
theorem dX11_term_8 : decode cX11_term 8 = .ok (.iconst (-1), 1) := by decide +kernel
theorem dX11_term_9 : decode cX11_term 9 = .ok (.if_icmp .ne 35, 3) := by decide +kernel
theorem dX11_term_12 : decode cX11_term 12 = .ok (.aload_n 0, 1) := by decide +kernel
theorem dX11_term_13 : decode cX11_term 13 = .ok (.invokevirtual 178, 3) := by decide +kernel
theorem dX11_term_16 : decode cX11_term 16 = .ok (.bipush 42, 2) := by decide +kernel
theorem dX11_term_18 : decode cX11_term 18 = .ok (.if_icmp .ne 26, 3) := by decide +kernel
theorem dX11_term_21 : decode cX11_term 21 = .ok (.aload_n 0, 1) := by decide +kernel
theorem dX11_term_22 : decode cX11_term 22 = .ok (.dup, 1) := by decide +kernel
theorem dX11_term_23 : decode cX11_term 23 = .ok (.getfield 169, 3) := by decide +kernel
theorem dX11_term_26 : decode cX11_term 26 = .ok (.iconst 1, 1) := by decide +kernel
theorem dX11_term_27 : decode cX11_term 27 = .ok (.iadd, 1) := by decide +kernel
theorem dX11_term_28 : decode cX11_term 28 = .ok (.putfield 169, 3) := by decide +kernel
theorem dX11_term_31 : decode cX11_term 31 = .ok (.aload_n 0, 1) := by decide +kernel
theorem dX11_term_32 : decode cX11_term 32 = .ok (.invokevirtual 198, 3) := by decide +kernel
theorem dX11_term_35 : decode cX11_term 35 = .ok (.aload_n 0, 1) := by decide +kernel
theorem dX11_term_36 : decode cX11_term 36 = .ok (.bipush 6, 2) := by decide +kernel
theorem dX11_term_38 : decode cX11_term 38 = .ok (.invokevirtual 185, 3) := by decide +kernel
theorem dX11_term_41 : decode cX11_term 41 = .ok (.goto (-37), 3) := by decide +kernel
theorem dX11_term_44 : decode cX11_term 44 = .ok (.return_, 1) := by decide +kernel
