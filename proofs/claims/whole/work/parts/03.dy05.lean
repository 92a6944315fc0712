theorem dX6_append_0 : decode cX6_append 0 = .ok (.bipush 24, 2) := by decide +kernel
theorem dX6_append_2 : decode cX6_append 2 = .ok (.istore_n 2, 1) := by decide +kernel
theorem dX6_append_3 : decode cX6_append 3 = .ok (.iload_n 2, 1) := by decide +kernel
theorem dX6_append_4 : decode cX6_append 4 = .ok (.ifCond .lt 54, 3) := by decide +kernel
theorem dX6_append_7 : decode cX6_append 7 = .ok (.iload_n 1, 1) := by decide +kernel
theorem dX6_append_8 : decode cX6_append 8 = .ok (.iload_n 2, 1) := by decide +kernel
theorem dX6_append_9 : decode cX6_append 9 = .ok (.iushr, 1) := by decide +kernel
theorem dX6_append_10 : decode cX6_append 10 = .ok (.sipush 255, 3) := by decide +kernel
theorem dX6_append_13 : decode cX6_append 13 = .ok (.iand, 1) := by decide +kernel
theorem dX6_append_14 : decode cX6_append 14 = .ok (.istore_n 3, 1) := by decide +kernel
theorem dX6_append_15 : decode cX6_append 15 = .ok (.iload_n 3, 1) := by decide +kernel
theorem dX6_append_16 : decode cX6_append 16 = .ok (.ifCond .eq 36, 3) := by decide +kernel
theorem dX6_append_19 : decode cX6_append 19 = .ok (.aload_n 0, 1) := by decide +kernel
theorem dX6_append_20 : decode cX6_append 20 = .ok (.getfield 21, 3) := by decide +kernel
theorem dX6_append_23 : decode cX6_append 23 = .ok (.aload_n 0, 1) := by decide +kernel
theorem dX6_append_24 : decode cX6_append 24 = .ok (.getfield 15, 3) := by decide +kernel
theorem dX6_append_27 : decode cX6_append 27 = .ok (.arraylength, 1) := by decide +kernel
theorem dX6_append_28 : decode cX6_append 28 = .ok (.if_icmp .ge 24, 3) := by decide +kernel
theorem dX6_append_31 : decode cX6_append 31 = .ok (.aload_n 0, 1) := by decide +kernel
theorem dX6_append_32 : decode cX6_append 32 = .ok (.getfield 15, 3) := by decide +kernel
theorem dX6_append_35 : decode cX6_append 35 = .ok (.aload_n 0, 1) := by decide +kernel
theorem dX6_append_36 : decode cX6_append 36 = .ok (.getfield 21, 3) := by decide +kernel
theorem dX6_append_39 : decode cX6_append 39 = .ok (.iload_n 3, 1) := by decide +kernel
theorem dX6_append_40 : decode cX6_append 40 = .ok (.i2b, 1) := by decide +kernel
theorem dX6_append_41 : decode cX6_append 41 = .ok (.bastore, 1) := by decide +kernel
theorem dX6_append_42 : decode cX6_append 42 = .ok (.aload_n 0, 1) := by decide +kernel
theorem dX6_append_43 : decode cX6_append 43 = .ok (.dup, 1) := by decide +kernel
theorem dX6_append_44 : decode cX6_append 44 = .ok (.getfield 21, 3) := by decide +kernel
theorem dX6_append_47 : decode cX6_append 47 = .ok (.iconst 1, 1) := by decide +kernel
theorem dX6_append_48 : decode cX6_append 48 = .ok (.iadd, 1) := by decide +kernel
theorem dX6_append_49 : decode cX6_append 49 = .ok (.putfield 21, 3) := by decide +kernel
theorem dX6_append_52 : decode cX6_append 52 = .ok (.iinc 2 (-8), 3) := by decide +kernel
theorem dX6_append_55 : decode cX6_append 55 = .ok (.goto (-52), 3) := by decide +kernel
theorem dX6_append_58 : decode cX6_append 58 = .ok (.return_, 1) := by decide +kernel
theorem dX6_cutTo_0 : decode cX6_cutTo 0 = .ok (.aload_n 0, 1) := by decide +kernel
theorem dX6_cutTo_1 : decode cX6_cutTo 1 = .ok (.iload_n 1, 1) := by decide +kernel
theorem dX6_cutTo_2 : decode cX6_cutTo 2 = .ok (.putfield 21, 3) := by decide +kernel
theorem dX6_cutTo_5 : decode cX6_cutTo 5 = .ok (.return_, 1) := by decide +kernel
theorem dX6_copy_0 : decode cX6_copy 0 = .ok (.new 16, 3) := by decide +kernel
theorem dX6_copy_3 : decode cX6_copy 3 = .ok (.dup, 1) := by decide +kernel
theorem dX6_copy_4 : decode cX6_copy 4 = .ok (.aload_n 0, 1) := by decide +kernel
theorem dX6_copy_5 : decode cX6_copy 5 = .ok (.getfield 21, 3) := by decide +kernel
theorem dX6_copy_8 : decode cX6_copy 8 = .ok (.invokespecial 25, 3) := by decide +kernel
theorem dX6_copy_11 : decode cX6_copy 11 = .ok (.astore_n 1, 1) := by decide +kernel
theorem dX6_copy_12 : decode cX6_copy 12 = .ok (.aload_n 0, 1) := by decide +kernel
theorem dX6_copy_13 : decode cX6_copy 13 = .ok (.getfield 15, 3) := by decide +kernel
theorem dX6_copy_16 : decode cX6_copy 16 = .ok (.iconst 0, 1) := by decide +kernel
theorem dX6_copy_17 : decode cX6_copy 17 = .ok (.aload_n 1, 1) := by decide +kernel
theorem dX6_copy_18 : decode cX6_copy 18 = .ok (.getfield 15, 3) := by decide +kernel
theorem dX6_copy_21 : decode cX6_copy 21 = .ok (.iconst 0, 1) := by decide +kernel
theorem dX6_copy_22 : decode cX6_copy 22 = .ok (.aload_n 0, 1) := by decide +kernel
theorem dX6_copy_23 : decode cX6_copy 23 = .ok (.getfield 21, 3) := by decide +kernel
theorem dX6_copy_26 : decode cX6_copy 26 = .ok (.invokestatic 28, 3) := by decide +kernel
theorem dX6_copy_29 : decode cX6_copy 29 = .ok (.aload_n 1, 1) := by decide +kernel
theorem dX6_copy_30 : decode cX6_copy 30 = .ok (.aload_n 0, 1) := by decide +kernel
theorem dX6_copy_31 : decode cX6_copy 31 = .ok (.getfield 21, 3) := by decide +kernel
theorem dX6_copy_34 : decode cX6_copy 34 = .ok (.putfield 21, 3) := by decide +kernel
theorem dX6_copy_37 : decode cX6_copy 37 = .ok (.aload_n 1, 1) := by decide +kernel
theorem dX6_copy_38 : decode cX6_copy 38 = .ok (.areturn, 1) := by decide +kernel
theorem dX6_isDigit_0 : decode cX6_isDigit 0 = .ok (.iload_n 0, 1) := by decide +kernel
theorem dX6_isDigit_1 : decode cX6_isDigit 1 = .ok (.bipush 48, 2) := by decide +kernel
theorem dX6_isDigit_3 : decode cX6_isDigit 3 = .ok (.if_icmp .lt 13, 3) := by decide +kernel
theorem dX6_isDigit_6 : decode cX6_isDigit 6 = .ok (.iload_n 0, 1) := by decide +kernel
theorem dX6_isDigit_7 : decode cX6_isDigit 7 = .ok (.bipush 57, 2) := by decide +kernel
theorem dX6_isDigit_9 : decode cX6_isDigit 9 = .ok (.if_icmp .gt 7, 3) := by decide +kernel
theorem dX6_isDigit_12 : decode cX6_isDigit 12 = .ok (.iconst 1, 1) := by decide +kernel
theorem dX6_isDigit_13 : decode cX6_isDigit 13 = .ok (.goto 4, 3) := by decide +kernel
theorem dX6_isDigit_16 : decode cX6_isDigit 16 = .ok (.iconst 0, 1) := by decide +kernel
theorem dX6_isDigit_17 : decode cX6_isDigit 17 = .ok (.ireturn, 1) := by decide +kernel
theorem dX6_firstFault_0 : decode cX6_firstFault 0 = .ok (.iconst 1, 1) := by decide +kernel
theorem dX6_firstFault_1 : decode cX6_firstFault 1 = .ok (.istore_n 1, 1) := by decide +kernel
theorem dX6_firstFault_2 : decode cX6_firstFault 2 = .ok (.iconst 0, 1) := by decide +kernel
theorem dX6_firstFault_3 : decode cX6_firstFault 3 = .ok (.istore_n 2, 1) := by decide +kernel
theorem dX6_firstFault_4 : decode cX6_firstFault 4 = .ok (.iconst 0, 1) := by decide +kernel
theorem dX6_firstFault_5 : decode cX6_firstFault 5 = .ok (.istore_n 3, 1) := by decide +kernel
theorem dX6_firstFault_6 : decode cX6_firstFault 6 = .ok (.iconst 0, 1) := by decide +kernel
theorem dX6_firstFault_7 : decode cX6_firstFault 7 = .ok (.istore 4, 2) := by decide +kernel
theorem dX6_firstFault_9 : decode cX6_firstFault 9 = .ok (.iload 4, 2) := by decide +kernel
theorem dX6_firstFault_11 : decode cX6_firstFault 11 = .ok (.aload_n 0, 1) := by decide +kernel
theorem dX6_firstFault_12 : decode cX6_firstFault 12 = .ok (.getfield 21, 3) := by decide +kernel
theorem dX6_firstFault_15 : decode cX6_firstFault 15 = .ok (.if_icmp .ge 137, 3) := by decide +kernel
theorem dX6_firstFault_18 : decode cX6_firstFault 18 = .ok (.aload_n 0, 1) := by decide +kernel
theorem dX6_firstFault_19 : decode cX6_firstFault 19 = .ok (.getfield 15, 3) := by decide +kernel
theorem dX6_firstFault_22 : decode cX6_firstFault 22 = .ok (.iload 4, 2) := by decide +kernel
theorem dX6_firstFault_24 : decode cX6_firstFault 24 = .ok (.baload, 1) := by decide +kernel
theorem dX6_firstFault_25 : decode cX6_firstFault 25 = .ok (.istore 5, 2) := by decide +kernel
theorem dX6_firstFault_27 : decode cX6_firstFault 27 = .ok (.iload 5, 2) := by decide +kernel
theorem dX6_firstFault_29 : decode cX6_firstFault 29 = .ok (.invokestatic 34, 3) := by decide +kernel
theorem dX6_firstFault_32 : decode cX6_firstFault 32 = .ok (.ifCond .eq 27, 3) := by decide +kernel
theorem dX6_firstFault_35 : decode cX6_firstFault 35 = .ok (.iload_n 3, 1) := by decide +kernel
theorem dX6_firstFault_36 : decode cX6_firstFault 36 = .ok (.iconst 4, 1) := by decide +kernel
theorem dX6_firstFault_37 : decode cX6_firstFault 37 = .ok (.if_icmp .eq 11, 3) := by decide +kernel
theorem dX6_firstFault_40 : decode cX6_firstFault 40 = .ok (.iload_n 3, 1) := by decide +kernel
theorem dX6_firstFault_41 : decode cX6_firstFault 41 = .ok (.ifCond .ne 10, 3) := by decide +kernel
theorem dX6_firstFault_44 : decode cX6_firstFault 44 = .ok (.iload_n 1, 1) := by decide +kernel
theorem dX6_firstFault_45 : decode cX6_firstFault 45 = .ok (.ifCond .ne 6, 3) := by decide +kernel
theorem dX6_firstFault_48 : decode cX6_firstFault 48 = .ok (.iload 4, 2) := by decide +kernel
theorem dX6_firstFault_50 : decode cX6_firstFault 50 = .ok (.ireturn, 1) := by decide +kernel
theorem dX6_firstFault_51 : decode cX6_firstFault 51 = .ok (.iinc 3 1, 3) := by decide +kernel
theorem dX6_firstFault_54 : decode cX6_firstFault 54 = .ok (.iconst 0, 1) := by decide +kernel
theorem dX6_firstFault_55 : decode cX6_firstFault 55 = .ok (.istore_n 1, 1) := by decide +kernel
theorem dX6_firstFault_56 : decode cX6_firstFault 56 = .ok (.goto 90, 3) := by decide +kernel
theorem dX6_firstFault_59 : decode cX6_firstFault 59 = .ok (.iconst 0, 1) := by decide +kernel
theorem dX6_firstFault_60 : decode cX6_firstFault 60 = .ok (.istore_n 3, 1) := by decide +kernel
theorem dX6_firstFault_61 : decode cX6_firstFault 61 = .ok (.iload 5, 2) := by decide +kernel
theorem dX6_firstFault_63 : decode cX6_firstFault 63 = .ok (.bipush 32, 2) := by decide +kernel
theorem dX6_firstFault_65 : decode cX6_firstFault 65 = .ok (.if_icmp .ne 6, 3) := by decide +kernel
theorem dX6_firstFault_68 : decode cX6_firstFault 68 = .ok (.goto 78, 3) := by decide +kernel
theorem dX6_firstFault_71 : decode cX6_firstFault 71 = .ok (.iload_n 1, 1) := by decide +kernel
theorem dX6_firstFault_72 : decode cX6_firstFault 72 = .ok (.ifCond .eq 15, 3) := by decide +kernel
theorem dX6_firstFault_75 : decode cX6_firstFault 75 = .ok (.iload 5, 2) := by decide +kernel
theorem dX6_firstFault_77 : decode cX6_firstFault 77 = .ok (.iload_n 2, 1) := by decide +kernel
theorem dX6_firstFault_78 : decode cX6_firstFault 78 = .ok (.invokestatic 38, 3) := by decide +kernel
theorem dX6_firstFault_81 : decode cX6_firstFault 81 = .ok (.ifCond .ne 18, 3) := by decide +kernel
theorem dX6_firstFault_84 : decode cX6_firstFault 84 = .ok (.goto 12, 3) := by decide +kernel
theorem dX6_firstFault_87 : decode cX6_firstFault 87 = .ok (.iload 5, 2) := by decide +kernel
theorem dX6_firstFault_89 : decode cX6_firstFault 89 = .ok (.iload_n 2, 1) := by decide +kernel
theorem dX6_firstFault_90 : decode cX6_firstFault 90 = .ok (.invokestatic 42, 3) := by decide +kernel
theorem dX6_firstFault_93 : decode cX6_firstFault 93 = .ok (.ifCond .ne 6, 3) := by decide +kernel
theorem dX6_firstFault_96 : decode cX6_firstFault 96 = .ok (.iload 4, 2) := by decide +kernel
theorem dX6_firstFault_98 : decode cX6_firstFault 98 = .ok (.ireturn, 1) := by decide +kernel
theorem dX6_firstFault_99 : decode cX6_firstFault 99 = .ok (.iload_n 2, 1) := by decide +kernel
theorem dX6_firstFault_100 : decode cX6_firstFault 100 = .ok (.iload 5, 2) := by decide +kernel
theorem dX6_firstFault_102 : decode cX6_firstFault 102 = .ok (.bipush 40, 2) := by decide +kernel
theorem dX6_firstFault_104 : decode cX6_firstFault 104 = .ok (.if_icmp .ne 7, 3) := by decide +kernel
theorem dX6_firstFault_107 : decode cX6_firstFault 107 = .ok (.iconst 1, 1) := by decide +kernel
theorem dX6_firstFault_108 : decode cX6_firstFault 108 = .ok (.goto 15, 3) := by decide +kernel
theorem dX6_firstFault_111 : decode cX6_firstFault 111 = .ok (.iload 5, 2) := by decide +kernel
theorem dX6_firstFault_113 : decode cX6_firstFault 113 = .ok (.bipush 41, 2) := by decide +kernel
theorem dX6_firstFault_115 : decode cX6_firstFault 115 = .ok (.if_icmp .ne 7, 3) := by decide +kernel
theorem dX6_firstFault_118 : decode cX6_firstFault 118 = .ok (.iconst (-1), 1) := by decide +kernel
theorem dX6_firstFault_119 : decode cX6_firstFault 119 = .ok (.goto 4, 3) := by decide +kernel
theorem dX6_firstFault_122 : decode cX6_firstFault 122 = .ok (.iconst 0, 1) := by decide +kernel
theorem dX6_firstFault_123 : decode cX6_firstFault 123 = .ok (.iadd, 1) := by decide +kernel
theorem dX6_firstFault_124 : decode cX6_firstFault 124 = .ok (.istore_n 2, 1) := by decide +kernel
theorem dX6_firstFault_125 : decode cX6_firstFault 125 = .ok (.iload 5, 2) := by decide +kernel
theorem dX6_firstFault_127 : decode cX6_firstFault 127 = .ok (.bipush 40, 2) := by decide +kernel
theorem dX6_firstFault_129 : decode cX6_firstFault 129 = .ok (.if_icmp .eq 11, 3) := by decide +kernel
theorem dX6_firstFault_132 : decode cX6_firstFault 132 = .ok (.iload 5, 2) := by decide +kernel
theorem dX6_firstFault_134 : decode cX6_firstFault 134 = .ok (.invokestatic 45, 3) := by decide +kernel
theorem dX6_firstFault_137 : decode cX6_firstFault 137 = .ok (.ifCond .eq 7, 3) := by decide +kernel
theorem dX6_firstFault_140 : decode cX6_firstFault 140 = .ok (.iconst 1, 1) := by decide +kernel
theorem dX6_firstFault_141 : decode cX6_firstFault 141 = .ok (.goto 4, 3) := by decide +kernel
theorem dX6_firstFault_144 : decode cX6_firstFault 144 = .ok (.iconst 0, 1) := by decide +kernel
theorem dX6_firstFault_145 : decode cX6_firstFault 145 = .ok (.istore_n 1, 1) := by decide +kernel
theorem dX6_firstFault_146 : decode cX6_firstFault 146 = .ok (.iinc 4 1, 3) := by decide +kernel
theorem dX6_firstFault_149 : decode cX6_firstFault 149 = .ok (.goto (-140), 3) := by decide +kernel
theorem dX6_firstFault_152 : decode cX6_firstFault 152 = .ok (.iload_n 1, 1) := by decide +kernel
theorem dX6_firstFault_153 : decode cX6_firstFault 153 = .ok (.ifCond .ne 7, 3) := by decide +kernel
theorem dX6_firstFault_156 : decode cX6_firstFault 156 = .ok (.iload_n 2, 1) := by decide +kernel
theorem dX6_firstFault_157 : decode cX6_firstFault 157 = .ok (.ifCond .le 10, 3) := by decide +kernel
theorem dX6_firstFault_160 : decode cX6_firstFault 160 = .ok (.aload_n 0, 1) := by decide +kernel
theorem dX6_firstFault_161 : decode cX6_firstFault 161 = .ok (.getfield 21, 3) := by decide +kernel
theorem dX6_firstFault_164 : decode cX6_firstFault 164 = .ok (.goto 4, 3) := by decide +kernel
theorem dX6_firstFault_167 : decode cX6_firstFault 167 = .ok (.iconst (-1), 1) := by decide +kernel
theorem dX6_firstFault_168 : decode cX6_firstFault 168 = .ok (.ireturn, 1) := by decide +kernel
theorem dX6_mayBegin_0 : decode cX6_mayBegin 0 = .ok (.iload_n 0, 1) := by decide +kernel
theorem dX6_mayBegin_1 : decode cX6_mayBegin 1 = .ok (.bipush 103, 2) := by decide +kernel
theorem dX6_mayBegin_3 : decode cX6_mayBegin 3 = .ok (.if_icmp .eq 27, 3) := by decide +kernel
theorem dX6_mayBegin_6 : decode cX6_mayBegin 6 = .ok (.iload_n 0, 1) := by decide +kernel
theorem dX6_mayBegin_7 : decode cX6_mayBegin 7 = .ok (.bipush 113, 2) := by decide +kernel
theorem dX6_mayBegin_9 : decode cX6_mayBegin 9 = .ok (.if_icmp .eq 21, 3) := by decide +kernel
theorem dX6_mayBegin_12 : decode cX6_mayBegin 12 = .ok (.iload_n 0, 1) := by decide +kernel
theorem dX6_mayBegin_13 : decode cX6_mayBegin 13 = .ok (.bipush 112, 2) := by decide +kernel
theorem dX6_mayBegin_15 : decode cX6_mayBegin 15 = .ok (.if_icmp .eq 15, 3) := by decide +kernel
theorem dX6_mayBegin_18 : decode cX6_mayBegin 18 = .ok (.iload_n 0, 1) := by decide +kernel
theorem dX6_mayBegin_19 : decode cX6_mayBegin 19 = .ok (.bipush 40, 2) := by decide +kernel
theorem dX6_mayBegin_21 : decode cX6_mayBegin 21 = .ok (.if_icmp .ne 13, 3) := by decide +kernel
theorem dX6_mayBegin_24 : decode cX6_mayBegin 24 = .ok (.iload_n 1, 1) := by decide +kernel
theorem dX6_mayBegin_25 : decode cX6_mayBegin 25 = .ok (.bipush 8, 2) := by decide +kernel
theorem dX6_mayBegin_27 : decode cX6_mayBegin 27 = .ok (.if_icmp .ge 7, 3) := by decide +kernel
theorem dX6_mayBegin_30 : decode cX6_mayBegin 30 = .ok (.iconst 1, 1) := by decide +kernel
theorem dX6_mayBegin_31 : decode cX6_mayBegin 31 = .ok (.goto 4, 3) := by decide +kernel
theorem dX6_mayBegin_34 : decode cX6_mayBegin 34 = .ok (.iconst 0, 1) := by decide +kernel
theorem dX6_mayBegin_35 : decode cX6_mayBegin 35 = .ok (.ireturn, 1) := by decide +kernel
theorem dX6_mayFollow_0 : decode cX6_mayFollow 0 = .ok (.iload_n 0, 1) := by decide +kernel
theorem dX6_mayFollow_1 : decode cX6_mayFollow 1 = .ok (.invokestatic 45, 3) := by decide +kernel
theorem dX6_mayFollow_4 : decode cX6_mayFollow 4 = .ok (.ifCond .ne 13, 3) := by decide +kernel
theorem dX6_mayFollow_7 : decode cX6_mayFollow 7 = .ok (.iload_n 0, 1) := by decide +kernel
theorem dX6_mayFollow_8 : decode cX6_mayFollow 8 = .ok (.bipush 41, 2) := by decide +kernel
theorem dX6_mayFollow_10 : decode cX6_mayFollow 10 = .ok (.if_icmp .ne 11, 3) := by decide +kernel
theorem dX6_mayFollow_13 : decode cX6_mayFollow 13 = .ok (.iload_n 1, 1) := by decide +kernel
theorem dX6_mayFollow_14 : decode cX6_mayFollow 14 = .ok (.ifCond .le 7, 3) := by decide +kernel
theorem dX6_mayFollow_17 : decode cX6_mayFollow 17 = .ok (.iconst 1, 1) := by decide +kernel
theorem dX6_mayFollow_18 : decode cX6_mayFollow 18 = .ok (.goto 4, 3) := by decide +kernel
theorem dX6_mayFollow_21 : decode cX6_mayFollow 21 = .ok (.iconst 0, 1) := by decide +kernel
theorem dX6_mayFollow_22 : decode cX6_mayFollow 22 = .ok (.ireturn, 1) := by decide +kernel
theorem dX6_isSign_0 : decode cX6_isSign 0 = .ok (.iload_n 0, 1) := by decide +kernel
theorem dX6_isSign_1 : decode cX6_isSign 1 = .ok (.bipush 43, 2) := by decide +kernel
theorem dX6_isSign_3 : decode cX6_isSign 3 = .ok (.if_icmp .eq 15, 3) := by decide +kernel
theorem dX6_isSign_6 : decode cX6_isSign 6 = .ok (.iload_n 0, 1) := by decide +kernel
theorem dX6_isSign_7 : decode cX6_isSign 7 = .ok (.bipush 45, 2) := by decide +kernel
theorem dX6_isSign_9 : decode cX6_isSign 9 = .ok (.if_icmp .eq 9, 3) := by decide +kernel
theorem dX6_isSign_12 : decode cX6_isSign 12 = .ok (.iload_n 0, 1) := by decide +kernel
theorem dX6_isSign_13 : decode cX6_isSign 13 = .ok (.bipush 42, 2) := by decide +kernel
theorem dX6_isSign_15 : decode cX6_isSign 15 = .ok (.if_icmp .ne 7, 3) := by decide +kernel
theorem dX6_isSign_18 : decode cX6_isSign 18 = .ok (.iconst 1, 1) := by decide +kernel
theorem dX6_isSign_19 : decode cX6_isSign 19 = .ok (.goto 4, 3) := by decide +kernel
theorem dX6_isSign_22 : decode cX6_isSign 22 = .ok (.iconst 0, 1) := by decide +kernel
theorem dX6_isSign_23 : decode cX6_isSign 23 = .ok (.ireturn, 1) := by decide +kernel
theorem dX7_init_0 : decode cX7_init 0 = .ok (.aload_n 0, 1) := by decide +kernel
theorem dX7_init_1 : decode cX7_init 1 = .ok (.invokespecial 3, 3) := by decide +kernel
theorem dX7_init_4 : decode cX7_init 4 = .ok (.aload_n 0, 1) := by decide +kernel
theorem dX7_init_5 : decode cX7_init 5 = .ok (.iload_n 1, 1) := by decide +kernel
theorem dX7_init_6 : decode cX7_init 6 = .ok (.putfield 9, 3) := by decide +kernel
theorem dX7_init_9 : decode cX7_init 9 = .ok (.aload_n 0, 1) := by decide +kernel
theorem dX7_init_10 : decode cX7_init 10 = .ok (.bipush 60, 2) := by decide +kernel
theorem dX7_init_12 : decode cX7_init 12 = .ok (.newarray .int, 2) := by decide +kernel
theorem dX7_init_14 : decode cX7_init 14 = .ok (.putfield 15, 3) := by decide +kernel
theorem dX7_init_17 : decode cX7_init 17 = .ok (.return_, 1) := by decide +kernel
theorem dX7_weight_0 : decode cX7_weight 0 = .ok (.aload_n 0, 1) := by decide +kernel
theorem dX7_weight_1 : decode cX7_weight 1 = .ok (.getfield 19, 3) := by decide +kernel
theorem dX7_weight_4 : decode cX7_weight 4 = .ok (.aload_n 0, 1) := by decide +kernel
theorem dX7_weight_5 : decode cX7_weight 5 = .ok (.getfield 22, 3) := by decide +kernel
theorem dX7_weight_8 : decode cX7_weight 8 = .ok (.iadd, 1) := by decide +kernel
theorem dX7_weight_9 : decode cX7_weight 9 = .ok (.ireturn, 1) := by decide +kernel
theorem dX7_wetness_0 : decode cX7_wetness 0 = .ok (.aload_n 0, 1) := by decide +kernel
theorem dX7_wetness_1 : decode cX7_wetness 1 = .ok (.invokevirtual 25, 3) := by decide +kernel
theorem dX7_wetness_4 : decode cX7_wetness 4 = .ok (.istore_n 1, 1) := by decide +kernel
theorem dX7_wetness_5 : decode cX7_wetness 5 = .ok (.iload_n 1, 1) := by decide +kernel
theorem dX7_wetness_6 : decode cX7_wetness 6 = .ok (.ifCond .gt 7, 3) := by decide +kernel
theorem dX7_wetness_9 : decode cX7_wetness 9 = .ok (.iconst 0, 1) := by decide +kernel
theorem dX7_wetness_10 : decode cX7_wetness 10 = .ok (.goto 16, 3) := by decide +kernel
theorem dX7_wetness_13 : decode cX7_wetness 13 = .ok (.ldc2_w 29, 3) := by decide +kernel
theorem dX7_wetness_16 : decode cX7_wetness 16 = .ok (.aload_n 0, 1) := by decide +kernel
theorem dX7_wetness_17 : decode cX7_wetness 17 = .ok (.getfield 22, 3) := by decide +kernel
theorem dX7_wetness_20 : decode cX7_wetness 20 = .ok (.i2l, 1) := by decide +kernel
theorem dX7_wetness_21 : decode cX7_wetness 21 = .ok (.lmul, 1) := by decide +kernel
theorem dX7_wetness_22 : decode cX7_wetness 22 = .ok (.iload_n 1, 1) := by decide +kernel
theorem dX7_wetness_23 : decode cX7_wetness 23 = .ok (.i2l, 1) := by decide +kernel
theorem dX7_wetness_24 : decode cX7_wetness 24 = .ok (.ldiv, 1) := by decide +kernel
theorem dX7_wetness_25 : decode cX7_wetness 25 = .ok (.l2i, 1) := by decide +kernel
theorem dX7_wetness_26 : decode cX7_wetness 26 = .ok (.ireturn, 1) := by decide +kernel
theorem dX7_pourIn_0 : decode cX7_pourIn 0 = .ok (.aload_n 0, 1) := by decide +kernel
theorem dX7_pourIn_1 : decode cX7_pourIn 1 = .ok (.getfield 15, 3) := by decide +kernel
theorem dX7_pourIn_4 : decode cX7_pourIn 4 = .ok (.iload_n 1, 1) := by decide +kernel
theorem dX7_pourIn_5 : decode cX7_pourIn 5 = .ok (.dup2, 1) := by decide +kernel
theorem dX7_pourIn_6 : decode cX7_pourIn 6 = .ok (.iaload, 1) := by decide +kernel
theorem dX7_pourIn_7 : decode cX7_pourIn 7 = .ok (.iload_n 2, 1) := by decide +kernel
theorem dX7_pourIn_8 : decode cX7_pourIn 8 = .ok (.iadd, 1) := by decide +kernel
theorem dX7_pourIn_9 : decode cX7_pourIn 9 = .ok (.iastore, 1) := by decide +kernel
theorem dX7_pourIn_10 : decode cX7_pourIn 10 = .ok (.aload_n 0, 1) := by decide +kernel
theorem dX7_pourIn_11 : decode cX7_pourIn 11 = .ok (.dup, 1) := by decide +kernel
theorem dX7_pourIn_12 : decode cX7_pourIn 12 = .ok (.getfield 19, 3) := by decide +kernel
theorem dX7_pourIn_15 : decode cX7_pourIn 15 = .ok (.iload_n 2, 1) := by decide +kernel
theorem dX7_pourIn_16 : decode cX7_pourIn 16 = .ok (.iadd, 1) := by decide +kernel
theorem dX7_pourIn_17 : decode cX7_pourIn 17 = .ok (.putfield 19, 3) := by decide +kernel
theorem dX7_pourIn_20 : decode cX7_pourIn 20 = .ok (.aload_n 0, 1) := by decide +kernel
theorem dX7_pourIn_21 : decode cX7_pourIn 21 = .ok (.dup, 1) := by decide +kernel
theorem dX7_pourIn_22 : decode cX7_pourIn 22 = .ok (.getfield 22, 3) := by decide +kernel
theorem dX7_pourIn_25 : decode cX7_pourIn 25 = .ok (.iload_n 3, 1) := by decide +kernel
theorem dX7_pourIn_26 : decode cX7_pourIn 26 = .ok (.iadd, 1) := by decide +kernel
theorem dX7_pourIn_27 : decode cX7_pourIn 27 = .ok (.putfield 22, 3) := by decide +kernel
theorem dX7_pourIn_30 : decode cX7_pourIn 30 = .ok (.return_, 1) := by decide +kernel
