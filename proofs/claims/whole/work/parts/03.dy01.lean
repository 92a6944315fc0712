theorem dX0_init_0 : decode cX0_init 0 = .ok (.aload_n 0, 1) := by decide +kernel
theorem dX0_init_1 : decode cX0_init 1 = .ok (.invokespecial 3, 3) := by decide +kernel
theorem dX0_init_4 : decode cX0_init 4 = .ok (.aload_n 0, 1) := by decide +kernel
theorem dX0_init_5 : decode cX0_init 5 = .ok (.bipush 20, 2) := by decide +kernel
theorem dX0_init_7 : decode cX0_init 7 = .ok (.newarray .int, 2) := by decide +kernel
theorem dX0_init_9 : decode cX0_init 9 = .ok (.putfield 9, 3) := by decide +kernel
theorem dX0_init_12 : decode cX0_init 12 = .ok (.aload_n 0, 1) := by decide +kernel
theorem dX0_init_13 : decode cX0_init 13 = .ok (.sipush 128, 3) := by decide +kernel
theorem dX0_init_16 : decode cX0_init 16 = .ok (.newarray .int, 2) := by decide +kernel
theorem dX0_init_18 : decode cX0_init 18 = .ok (.putfield 15, 3) := by decide +kernel
theorem dX0_init_21 : decode cX0_init 21 = .ok (.return_, 1) := by decide +kernel
theorem dX0_write_0 : decode cX0_write 0 = .ok (.aload_n 0, 1) := by decide +kernel
theorem dX0_write_1 : decode cX0_write 1 = .ok (.getfield 18, 3) := by decide +kernel
theorem dX0_write_4 : decode cX0_write 4 = .ok (.iconst 4, 1) := by decide +kernel
theorem dX0_write_5 : decode cX0_write 5 = .ok (.imul, 1) := by decide +kernel
theorem dX0_write_6 : decode cX0_write 6 = .ok (.istore 5, 2) := by decide +kernel
theorem dX0_write_8 : decode cX0_write 8 = .ok (.iload 5, 2) := by decide +kernel
theorem dX0_write_10 : decode cX0_write 10 = .ok (.iconst 4, 1) := by decide +kernel
theorem dX0_write_11 : decode cX0_write 11 = .ok (.iadd, 1) := by decide +kernel
theorem dX0_write_12 : decode cX0_write 12 = .ok (.aload_n 0, 1) := by decide +kernel
theorem dX0_write_13 : decode cX0_write 13 = .ok (.getfield 15, 3) := by decide +kernel
theorem dX0_write_16 : decode cX0_write 16 = .ok (.arraylength, 1) := by decide +kernel
theorem dX0_write_17 : decode cX0_write 17 = .ok (.if_icmp .le 21, 3) := by decide +kernel
theorem dX0_write_20 : decode cX0_write 20 = .ok (.aload_n 0, 1) := by decide +kernel
theorem dX0_write_21 : decode cX0_write 21 = .ok (.aload_n 0, 1) := by decide +kernel
theorem dX0_write_22 : decode cX0_write 22 = .ok (.getfield 15, 3) := by decide +kernel
theorem dX0_write_25 : decode cX0_write 25 = .ok (.aload_n 0, 1) := by decide +kernel
theorem dX0_write_26 : decode cX0_write 26 = .ok (.getfield 15, 3) := by decide +kernel
theorem dX0_write_29 : decode cX0_write 29 = .ok (.arraylength, 1) := by decide +kernel
theorem dX0_write_30 : decode cX0_write 30 = .ok (.iconst 2, 1) := by decide +kernel
theorem dX0_write_31 : decode cX0_write 31 = .ok (.imul, 1) := by decide +kernel
theorem dX0_write_32 : decode cX0_write 32 = .ok (.invokestatic 22, 3) := by decide +kernel
theorem dX0_write_35 : decode cX0_write 35 = .ok (.putfield 15, 3) := by decide +kernel
theorem dX0_write_38 : decode cX0_write 38 = .ok (.aload_n 0, 1) := by decide +kernel
theorem dX0_write_39 : decode cX0_write 39 = .ok (.getfield 15, 3) := by decide +kernel
theorem dX0_write_42 : decode cX0_write 42 = .ok (.iload 5, 2) := by decide +kernel
theorem dX0_write_44 : decode cX0_write 44 = .ok (.iload_n 1, 1) := by decide +kernel
theorem dX0_write_45 : decode cX0_write 45 = .ok (.iastore, 1) := by decide +kernel
theorem dX0_write_46 : decode cX0_write 46 = .ok (.aload_n 0, 1) := by decide +kernel
theorem dX0_write_47 : decode cX0_write 47 = .ok (.getfield 15, 3) := by decide +kernel
theorem dX0_write_50 : decode cX0_write 50 = .ok (.iload 5, 2) := by decide +kernel
theorem dX0_write_52 : decode cX0_write 52 = .ok (.iconst 1, 1) := by decide +kernel
theorem dX0_write_53 : decode cX0_write 53 = .ok (.iadd, 1) := by decide +kernel
theorem dX0_write_54 : decode cX0_write 54 = .ok (.iload_n 2, 1) := by decide +kernel
theorem dX0_write_55 : decode cX0_write 55 = .ok (.iastore, 1) := by decide +kernel
theorem dX0_write_56 : decode cX0_write 56 = .ok (.aload_n 0, 1) := by decide +kernel
theorem dX0_write_57 : decode cX0_write 57 = .ok (.getfield 15, 3) := by decide +kernel
theorem dX0_write_60 : decode cX0_write 60 = .ok (.iload 5, 2) := by decide +kernel
theorem dX0_write_62 : decode cX0_write 62 = .ok (.iconst 2, 1) := by decide +kernel
theorem dX0_write_63 : decode cX0_write 63 = .ok (.iadd, 1) := by decide +kernel
theorem dX0_write_64 : decode cX0_write 64 = .ok (.iload_n 3, 1) := by decide +kernel
theorem dX0_write_65 : decode cX0_write 65 = .ok (.iastore, 1) := by decide +kernel
theorem dX0_write_66 : decode cX0_write 66 = .ok (.aload_n 0, 1) := by decide +kernel
theorem dX0_write_67 : decode cX0_write 67 = .ok (.getfield 15, 3) := by decide +kernel
theorem dX0_write_70 : decode cX0_write 70 = .ok (.iload 5, 2) := by decide +kernel
theorem dX0_write_72 : decode cX0_write 72 = .ok (.iconst 3, 1) := by decide +kernel
theorem dX0_write_73 : decode cX0_write 73 = .ok (.iadd, 1) := by decide +kernel
theorem dX0_write_74 : decode cX0_write 74 = .ok (.iload 4, 2) := by decide +kernel
theorem dX0_write_76 : decode cX0_write 76 = .ok (.iastore, 1) := by decide +kernel
theorem dX0_write_77 : decode cX0_write 77 = .ok (.aload_n 0, 1) := by decide +kernel
theorem dX0_write_78 : decode cX0_write 78 = .ok (.getfield 9, 3) := by decide +kernel
theorem dX0_write_81 : decode cX0_write 81 = .ok (.iload_n 3, 1) := by decide +kernel
theorem dX0_write_82 : decode cX0_write 82 = .ok (.dup2, 1) := by decide +kernel
theorem dX0_write_83 : decode cX0_write 83 = .ok (.iaload, 1) := by decide +kernel
theorem dX0_write_84 : decode cX0_write 84 = .ok (.iload 4, 2) := by decide +kernel
theorem dX0_write_86 : decode cX0_write 86 = .ok (.iadd, 1) := by decide +kernel
theorem dX0_write_87 : decode cX0_write 87 = .ok (.iastore, 1) := by decide +kernel
theorem dX0_write_88 : decode cX0_write 88 = .ok (.aload_n 0, 1) := by decide +kernel
theorem dX0_write_89 : decode cX0_write 89 = .ok (.dup, 1) := by decide +kernel
theorem dX0_write_90 : decode cX0_write 90 = .ok (.getfield 18, 3) := by decide +kernel
theorem dX0_write_93 : decode cX0_write 93 = .ok (.iconst 1, 1) := by decide +kernel
theorem dX0_write_94 : decode cX0_write 94 = .ok (.iadd, 1) := by decide +kernel
theorem dX0_write_95 : decode cX0_write 95 = .ok (.putfield 18, 3) := by decide +kernel
theorem dX0_write_98 : decode cX0_write 98 = .ok (.return_, 1) := by decide +kernel
theorem dX0_cell_0 : decode cX0_cell 0 = .ok (.iload_n 1, 1) := by decide +kernel
theorem dX0_cell_1 : decode cX0_cell 1 = .ok (.ifCond .lt 24, 3) := by decide +kernel
theorem dX0_cell_4 : decode cX0_cell 4 = .ok (.iload_n 1, 1) := by decide +kernel
theorem dX0_cell_5 : decode cX0_cell 5 = .ok (.aload_n 0, 1) := by decide +kernel
theorem dX0_cell_6 : decode cX0_cell 6 = .ok (.getfield 18, 3) := by decide +kernel
theorem dX0_cell_9 : decode cX0_cell 9 = .ok (.if_icmp .ge 16, 3) := by decide +kernel
theorem dX0_cell_12 : decode cX0_cell 12 = .ok (.iload_n 2, 1) := by decide +kernel
theorem dX0_cell_13 : decode cX0_cell 13 = .ok (.ifCond .lt 12, 3) := by decide +kernel
theorem dX0_cell_16 : decode cX0_cell 16 = .ok (.iload_n 2, 1) := by decide +kernel
theorem dX0_cell_17 : decode cX0_cell 17 = .ok (.iconst 4, 1) := by decide +kernel
theorem dX0_cell_18 : decode cX0_cell 18 = .ok (.if_icmp .ge 7, 3) := by decide +kernel
theorem dX0_cell_21 : decode cX0_cell 21 = .ok (.iconst 1, 1) := by decide +kernel
theorem dX0_cell_22 : decode cX0_cell 22 = .ok (.goto 4, 3) := by decide +kernel
theorem dX0_cell_25 : decode cX0_cell 25 = .ok (.iconst 0, 1) := by decide +kernel
theorem dX0_cell_26 : decode cX0_cell 26 = .ok (.istore_n 3, 1) := by decide +kernel
theorem dX0_cell_27 : decode cX0_cell 27 = .ok (.iload_n 3, 1) := by decide +kernel
theorem dX0_cell_28 : decode cX0_cell 28 = .ok (.ifCond .eq 16, 3) := by decide +kernel
theorem dX0_cell_31 : decode cX0_cell 31 = .ok (.aload_n 0, 1) := by decide +kernel
theorem dX0_cell_32 : decode cX0_cell 32 = .ok (.getfield 15, 3) := by decide +kernel
theorem dX0_cell_35 : decode cX0_cell 35 = .ok (.iload_n 1, 1) := by decide +kernel
theorem dX0_cell_36 : decode cX0_cell 36 = .ok (.iconst 4, 1) := by decide +kernel
theorem dX0_cell_37 : decode cX0_cell 37 = .ok (.imul, 1) := by decide +kernel
theorem dX0_cell_38 : decode cX0_cell 38 = .ok (.iload_n 2, 1) := by decide +kernel
theorem dX0_cell_39 : decode cX0_cell 39 = .ok (.iadd, 1) := by decide +kernel
theorem dX0_cell_40 : decode cX0_cell 40 = .ok (.iaload, 1) := by decide +kernel
theorem dX0_cell_41 : decode cX0_cell 41 = .ok (.goto 4, 3) := by decide +kernel
theorem dX0_cell_44 : decode cX0_cell 44 = .ok (.iconst 0, 1) := by decide +kernel
theorem dX0_cell_45 : decode cX0_cell 45 = .ok (.ireturn, 1) := by decide +kernel
theorem dX1_init_0 : decode cX1_init 0 = .ok (.aload_n 0, 1) := by decide +kernel
theorem dX1_init_1 : decode cX1_init 1 = .ok (.invokespecial 3, 3) := by decide +kernel
theorem dX1_init_4 : decode cX1_init 4 = .ok (.aload_n 0, 1) := by decide +kernel
theorem dX1_init_5 : decode cX1_init 5 = .ok (.bipush 60, 2) := by decide +kernel
theorem dX1_init_7 : decode cX1_init 7 = .ok (.newarray .int, 2) := by decide +kernel
theorem dX1_init_9 : decode cX1_init 9 = .ok (.putfield 9, 3) := by decide +kernel
theorem dX1_init_12 : decode cX1_init 12 = .ok (.aload_n 0, 1) := by decide +kernel
theorem dX1_init_13 : decode cX1_init 13 = .ok (.bipush 60, 2) := by decide +kernel
theorem dX1_init_15 : decode cX1_init 15 = .ok (.newarray .long, 2) := by decide +kernel
theorem dX1_init_17 : decode cX1_init 17 = .ok (.putfield 15, 3) := by decide +kernel
theorem dX1_init_20 : decode cX1_init 20 = .ok (.return_, 1) := by decide +kernel
theorem dX1_divide_0 : decode cX1_divide 0 = .ok (.aload_n 2, 1) := by decide +kernel
theorem dX1_divide_1 : decode cX1_divide 1 = .ok (.arraylength, 1) := by decide +kernel
theorem dX1_divide_2 : decode cX1_divide 2 = .ok (.bipush 60, 2) := by decide +kernel
theorem dX1_divide_4 : decode cX1_divide 4 = .ok (.invokestatic 19, 3) := by decide +kernel
theorem dX1_divide_7 : decode cX1_divide 7 = .ok (.istore_n 3, 1) := by decide +kernel
theorem dX1_divide_8 : decode cX1_divide 8 = .ok (.lconst 0, 1) := by decide +kernel
theorem dX1_divide_9 : decode cX1_divide 9 = .ok (.lstore 4, 2) := by decide +kernel
theorem dX1_divide_11 : decode cX1_divide 11 = .ok (.iconst 0, 1) := by decide +kernel
theorem dX1_divide_12 : decode cX1_divide 12 = .ok (.istore 6, 2) := by decide +kernel
theorem dX1_divide_14 : decode cX1_divide 14 = .ok (.iload 6, 2) := by decide +kernel
theorem dX1_divide_16 : decode cX1_divide 16 = .ok (.iload_n 3, 1) := by decide +kernel
theorem dX1_divide_17 : decode cX1_divide 17 = .ok (.if_icmp .ge 19, 3) := by decide +kernel
theorem dX1_divide_20 : decode cX1_divide 20 = .ok (.lload 4, 2) := by decide +kernel
theorem dX1_divide_22 : decode cX1_divide 22 = .ok (.aload_n 2, 1) := by decide +kernel
theorem dX1_divide_23 : decode cX1_divide 23 = .ok (.iload 6, 2) := by decide +kernel
theorem dX1_divide_25 : decode cX1_divide 25 = .ok (.iaload, 1) := by decide +kernel
theorem dX1_divide_26 : decode cX1_divide 26 = .ok (.i2l, 1) := by decide +kernel
theorem dX1_divide_27 : decode cX1_divide 27 = .ok (.ladd, 1) := by decide +kernel
theorem dX1_divide_28 : decode cX1_divide 28 = .ok (.lstore 4, 2) := by decide +kernel
theorem dX1_divide_30 : decode cX1_divide 30 = .ok (.iinc 6 1, 3) := by decide +kernel
theorem dX1_divide_33 : decode cX1_divide 33 = .ok (.goto (-19), 3) := by decide +kernel
theorem dX1_divide_36 : decode cX1_divide 36 = .ok (.aload_n 0, 1) := by decide +kernel
theorem dX1_divide_37 : decode cX1_divide 37 = .ok (.getfield 9, 3) := by decide +kernel
theorem dX1_divide_40 : decode cX1_divide 40 = .ok (.iconst 0, 1) := by decide +kernel
theorem dX1_divide_41 : decode cX1_divide 41 = .ok (.invokestatic 25, 3) := by decide +kernel
theorem dX1_divide_44 : decode cX1_divide 44 = .ok (.lload 4, 2) := by decide +kernel
theorem dX1_divide_46 : decode cX1_divide 46 = .ok (.lconst 0, 1) := by decide +kernel
theorem dX1_divide_47 : decode cX1_divide 47 = .ok (.lcmp, 1) := by decide +kernel
theorem dX1_divide_48 : decode cX1_divide 48 = .ok (.ifCond .gt 8, 3) := by decide +kernel
theorem dX1_divide_51 : decode cX1_divide 51 = .ok (.aload_n 0, 1) := by decide +kernel
theorem dX1_divide_52 : decode cX1_divide 52 = .ok (.getfield 9, 3) := by decide +kernel
theorem dX1_divide_55 : decode cX1_divide 55 = .ok (.areturn, 1) := by decide +kernel
theorem dX1_divide_56 : decode cX1_divide 56 = .ok (.iload_n 1, 1) := by decide +kernel
theorem dX1_divide_57 : decode cX1_divide 57 = .ok (.istore 6, 2) := by decide +kernel
theorem dX1_divide_59 : decode cX1_divide 59 = .ok (.iconst 0, 1) := by decide +kernel
theorem dX1_divide_60 : decode cX1_divide 60 = .ok (.istore 7, 2) := by decide +kernel
theorem dX1_divide_62 : decode cX1_divide 62 = .ok (.iload 7, 2) := by decide +kernel
theorem dX1_divide_64 : decode cX1_divide 64 = .ok (.iload_n 3, 1) := by decide +kernel
theorem dX1_divide_65 : decode cX1_divide 65 = .ok (.if_icmp .ge 56, 3) := by decide +kernel
theorem dX1_divide_68 : decode cX1_divide 68 = .ok (.iload_n 1, 1) := by decide +kernel
theorem dX1_divide_69 : decode cX1_divide 69 = .ok (.i2l, 1) := by decide +kernel
theorem dX1_divide_70 : decode cX1_divide 70 = .ok (.aload_n 2, 1) := by decide +kernel
theorem dX1_divide_71 : decode cX1_divide 71 = .ok (.iload 7, 2) := by decide +kernel
theorem dX1_divide_73 : decode cX1_divide 73 = .ok (.iaload, 1) := by decide +kernel
theorem dX1_divide_74 : decode cX1_divide 74 = .ok (.i2l, 1) := by decide +kernel
theorem dX1_divide_75 : decode cX1_divide 75 = .ok (.lmul, 1) := by decide +kernel
theorem dX1_divide_76 : decode cX1_divide 76 = .ok (.lstore 8, 2) := by decide +kernel
theorem dX1_divide_78 : decode cX1_divide 78 = .ok (.aload_n 0, 1) := by decide +kernel
theorem dX1_divide_79 : decode cX1_divide 79 = .ok (.getfield 9, 3) := by decide +kernel
theorem dX1_divide_82 : decode cX1_divide 82 = .ok (.iload 7, 2) := by decide +kernel
theorem dX1_divide_84 : decode cX1_divide 84 = .ok (.lload 8, 2) := by decide +kernel
theorem dX1_divide_86 : decode cX1_divide 86 = .ok (.lload 4, 2) := by decide +kernel
theorem dX1_divide_88 : decode cX1_divide 88 = .ok (.ldiv, 1) := by decide +kernel
theorem dX1_divide_89 : decode cX1_divide 89 = .ok (.l2i, 1) := by decide +kernel
theorem dX1_divide_90 : decode cX1_divide 90 = .ok (.iastore, 1) := by decide +kernel
theorem dX1_divide_91 : decode cX1_divide 91 = .ok (.aload_n 0, 1) := by decide +kernel
theorem dX1_divide_92 : decode cX1_divide 92 = .ok (.getfield 15, 3) := by decide +kernel
theorem dX1_divide_95 : decode cX1_divide 95 = .ok (.iload 7, 2) := by decide +kernel
theorem dX1_divide_97 : decode cX1_divide 97 = .ok (.lload 8, 2) := by decide +kernel
theorem dX1_divide_99 : decode cX1_divide 99 = .ok (.lload 4, 2) := by decide +kernel
theorem dX1_divide_101 : decode cX1_divide 101 = .ok (.lrem, 1) := by decide +kernel
theorem dX1_divide_102 : decode cX1_divide 102 = .ok (.lastore, 1) := by decide +kernel
theorem dX1_divide_103 : decode cX1_divide 103 = .ok (.iload 6, 2) := by decide +kernel
theorem dX1_divide_105 : decode cX1_divide 105 = .ok (.aload_n 0, 1) := by decide +kernel
theorem dX1_divide_106 : decode cX1_divide 106 = .ok (.getfield 9, 3) := by decide +kernel
theorem dX1_divide_109 : decode cX1_divide 109 = .ok (.iload 7, 2) := by decide +kernel
theorem dX1_divide_111 : decode cX1_divide 111 = .ok (.iaload, 1) := by decide +kernel
theorem dX1_divide_112 : decode cX1_divide 112 = .ok (.isub, 1) := by decide +kernel
theorem dX1_divide_113 : decode cX1_divide 113 = .ok (.istore 6, 2) := by decide +kernel
theorem dX1_divide_115 : decode cX1_divide 115 = .ok (.iinc 7 1, 3) := by decide +kernel
theorem dX1_divide_118 : decode cX1_divide 118 = .ok (.goto (-56), 3) := by decide +kernel
theorem dX1_divide_121 : decode cX1_divide 121 = .ok (.iconst 0, 1) := by decide +kernel
theorem dX1_divide_122 : decode cX1_divide 122 = .ok (.istore 7, 2) := by decide +kernel
theorem dX1_divide_124 : decode cX1_divide 124 = .ok (.iload 7, 2) := by decide +kernel
theorem dX1_divide_126 : decode cX1_divide 126 = .ok (.iload 6, 2) := by decide +kernel
theorem dX1_divide_128 : decode cX1_divide 128 = .ok (.if_icmp .ge 14, 3) := by decide +kernel
theorem dX1_divide_131 : decode cX1_divide 131 = .ok (.aload_n 0, 1) := by decide +kernel
theorem dX1_divide_132 : decode cX1_divide 132 = .ok (.iload_n 3, 1) := by decide +kernel
theorem dX1_divide_133 : decode cX1_divide 133 = .ok (.invokevirtual 31, 3) := by decide +kernel
theorem dX1_divide_136 : decode cX1_divide 136 = .ok (.iinc 7 1, 3) := by decide +kernel
theorem dX1_divide_139 : decode cX1_divide 139 = .ok (.goto (-15), 3) := by decide +kernel
theorem dX1_divide_142 : decode cX1_divide 142 = .ok (.aload_n 0, 1) := by decide +kernel
theorem dX1_divide_143 : decode cX1_divide 143 = .ok (.getfield 9, 3) := by decide +kernel
theorem dX1_divide_146 : decode cX1_divide 146 = .ok (.areturn, 1) := by decide +kernel
theorem dX1_giveOne_0 : decode cX1_giveOne 0 = .ok (.iconst 0, 1) := by decide +kernel
theorem dX1_giveOne_1 : decode cX1_giveOne 1 = .ok (.istore_n 2, 1) := by decide +kernel
theorem dX1_giveOne_2 : decode cX1_giveOne 2 = .ok (.iconst 1, 1) := by decide +kernel
theorem dX1_giveOne_3 : decode cX1_giveOne 3 = .ok (.istore_n 3, 1) := by decide +kernel
theorem dX1_giveOne_4 : decode cX1_giveOne 4 = .ok (.iload_n 3, 1) := by decide +kernel
theorem dX1_giveOne_5 : decode cX1_giveOne 5 = .ok (.iload_n 1, 1) := by decide +kernel
theorem dX1_giveOne_6 : decode cX1_giveOne 6 = .ok (.if_icmp .ge 27, 3) := by decide +kernel
theorem dX1_giveOne_9 : decode cX1_giveOne 9 = .ok (.aload_n 0, 1) := by decide +kernel
theorem dX1_giveOne_10 : decode cX1_giveOne 10 = .ok (.getfield 15, 3) := by decide +kernel
theorem dX1_giveOne_13 : decode cX1_giveOne 13 = .ok (.iload_n 3, 1) := by decide +kernel
theorem dX1_giveOne_14 : decode cX1_giveOne 14 = .ok (.laload, 1) := by decide +kernel
theorem dX1_giveOne_15 : decode cX1_giveOne 15 = .ok (.aload_n 0, 1) := by decide +kernel
theorem dX1_giveOne_16 : decode cX1_giveOne 16 = .ok (.getfield 15, 3) := by decide +kernel
theorem dX1_giveOne_19 : decode cX1_giveOne 19 = .ok (.iload_n 2, 1) := by decide +kernel
theorem dX1_giveOne_20 : decode cX1_giveOne 20 = .ok (.laload, 1) := by decide +kernel
theorem dX1_giveOne_21 : decode cX1_giveOne 21 = .ok (.lcmp, 1) := by decide +kernel
theorem dX1_giveOne_22 : decode cX1_giveOne 22 = .ok (.ifCond .le 5, 3) := by decide +kernel
theorem dX1_giveOne_25 : decode cX1_giveOne 25 = .ok (.iload_n 3, 1) := by decide +kernel
theorem dX1_giveOne_26 : decode cX1_giveOne 26 = .ok (.istore_n 2, 1) := by decide +kernel
theorem dX1_giveOne_27 : decode cX1_giveOne 27 = .ok (.iinc 3 1, 3) := by decide +kernel
theorem dX1_giveOne_30 : decode cX1_giveOne 30 = .ok (.goto (-26), 3) := by decide +kernel
theorem dX1_giveOne_33 : decode cX1_giveOne 33 = .ok (.aload_n 0, 1) := by decide +kernel
theorem dX1_giveOne_34 : decode cX1_giveOne 34 = .ok (.getfield 9, 3) := by decide +kernel
theorem dX1_giveOne_37 : decode cX1_giveOne 37 = .ok (.iload_n 2, 1) := by decide +kernel
theorem dX1_giveOne_38 : decode cX1_giveOne 38 = .ok (.dup2, 1) := by decide +kernel
theorem dX1_giveOne_39 : decode cX1_giveOne 39 = .ok (.iaload, 1) := by decide +kernel
theorem dX1_giveOne_40 : decode cX1_giveOne 40 = .ok (.iconst 1, 1) := by decide +kernel
theorem dX1_giveOne_41 : decode cX1_giveOne 41 = .ok (.iadd, 1) := by decide +kernel
theorem dX1_giveOne_42 : decode cX1_giveOne 42 = .ok (.iastore, 1) := by decide +kernel
theorem dX1_giveOne_43 : decode cX1_giveOne 43 = .ok (.aload_n 0, 1) := by decide +kernel
theorem dX1_giveOne_44 : decode cX1_giveOne 44 = .ok (.getfield 15, 3) := by decide +kernel
theorem dX1_giveOne_47 : decode cX1_giveOne 47 = .ok (.iload_n 2, 1) := by decide +kernel
theorem dX1_giveOne_48 : decode cX1_giveOne 48 = .ok (.ldc2_w 35, 3) := by decide +kernel
theorem dX1_giveOne_51 : decode cX1_giveOne 51 = .ok (.lastore, 1) := by decide +kernel
theorem dX1_giveOne_52 : decode cX1_giveOne 52 = .ok (.return_, 1) := by decide +kernel
theorem dX2_init_0 : decode cX2_init 0 = .ok (.aload_n 0, 1) := by decide +kernel
theorem dX2_init_1 : decode cX2_init 1 = .ok (.invokespecial 3, 3) := by decide +kernel
theorem dX2_init_4 : decode cX2_init 4 = .ok (.aload_n 0, 1) := by decide +kernel
theorem dX2_init_5 : decode cX2_init 5 = .ok (.bipush 60, 2) := by decide +kernel
theorem dX2_init_7 : decode cX2_init 7 = .ok (.newarray .int, 2) := by decide +kernel
theorem dX2_init_9 : decode cX2_init 9 = .ok (.putfield 9, 3) := by decide +kernel
theorem dX2_init_12 : decode cX2_init 12 = .ok (.aload_n 0, 1) := by decide +kernel
theorem dX2_init_13 : decode cX2_init 13 = .ok (.bipush 60, 2) := by decide +kernel
theorem dX2_init_15 : decode cX2_init 15 = .ok (.newarray .int, 2) := by decide +kernel
theorem dX2_init_17 : decode cX2_init 17 = .ok (.putfield 15, 3) := by decide +kernel
theorem dX2_init_20 : decode cX2_init 20 = .ok (.aload_n 0, 1) := by decide +kernel
theorem dX2_init_21 : decode cX2_init 21 = .ok (.bipush 60, 2) := by decide +kernel
theorem dX2_init_23 : decode cX2_init 23 = .ok (.newarray .int, 2) := by decide +kernel
theorem dX2_init_25 : decode cX2_init 25 = .ok (.putfield 18, 3) := by decide +kernel
theorem dX2_init_28 : decode cX2_init 28 = .ok (.aload_n 0, 1) := by decide +kernel
theorem dX2_init_29 : decode cX2_init 29 = .ok (.bipush 60, 2) := by decide +kernel
theorem dX2_init_31 : decode cX2_init 31 = .ok (.newarray .int, 2) := by decide +kernel
theorem dX2_init_33 : decode cX2_init 33 = .ok (.putfield 21, 3) := by decide +kernel
theorem dX2_init_36 : decode cX2_init 36 = .ok (.aload_n 0, 1) := by decide +kernel
theorem dX2_init_37 : decode cX2_init 37 = .ok (.bipush 60, 2) := by decide +kernel
theorem dX2_init_39 : decode cX2_init 39 = .ok (.newarray .int, 2) := by decide +kernel
theorem dX2_init_41 : decode cX2_init 41 = .ok (.putfield 24, 3) := by decide +kernel
theorem dX2_init_44 : decode cX2_init 44 = .ok (.return_, 1) := by decide +kernel
