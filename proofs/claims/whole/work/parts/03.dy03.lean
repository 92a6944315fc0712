theorem dX4_add_0 : decode cX4_add 0 = .ok (.aload_n 0, 1) := by decide +kernel
theorem dX4_add_1 : decode cX4_add 1 = .ok (.getfield 35, 3) := by decide +kernel
theorem dX4_add_4 : decode cX4_add 4 = .ok (.aload_n 0, 1) := by decide +kernel
theorem dX4_add_5 : decode cX4_add 5 = .ok (.getfield 11, 3) := by decide +kernel
theorem dX4_add_8 : decode cX4_add 8 = .ok (.arraylength, 1) := by decide +kernel
theorem dX4_add_9 : decode cX4_add 9 = .ok (.if_icmp .lt 5, 3) := by decide +kernel
theorem dX4_add_12 : decode cX4_add 12 = .ok (.iconst (-1), 1) := by decide +kernel
theorem dX4_add_13 : decode cX4_add 13 = .ok (.ireturn, 1) := by decide +kernel
theorem dX4_add_14 : decode cX4_add 14 = .ok (.aload_n 0, 1) := by decide +kernel
theorem dX4_add_15 : decode cX4_add 15 = .ok (.getfield 11, 3) := by decide +kernel
theorem dX4_add_18 : decode cX4_add 18 = .ok (.aload_n 0, 1) := by decide +kernel
theorem dX4_add_19 : decode cX4_add 19 = .ok (.getfield 35, 3) := by decide +kernel
theorem dX4_add_22 : decode cX4_add 22 = .ok (.new 9, 3) := by decide +kernel
theorem dX4_add_25 : decode cX4_add 25 = .ok (.dup, 1) := by decide +kernel
theorem dX4_add_26 : decode cX4_add 26 = .ok (.aload_n 1, 1) := by decide +kernel
theorem dX4_add_27 : decode cX4_add 27 = .ok (.iload_n 2, 1) := by decide +kernel
theorem dX4_add_28 : decode cX4_add 28 = .ok (.iload 4, 2) := by decide +kernel
theorem dX4_add_30 : decode cX4_add 30 = .ok (.invokespecial 39, 3) := by decide +kernel
theorem dX4_add_33 : decode cX4_add 33 = .ok (.aastore, 1) := by decide +kernel
theorem dX4_add_34 : decode cX4_add 34 = .ok (.aload_n 0, 1) := by decide +kernel
theorem dX4_add_35 : decode cX4_add 35 = .ok (.dup, 1) := by decide +kernel
theorem dX4_add_36 : decode cX4_add 36 = .ok (.getfield 42, 3) := by decide +kernel
theorem dX4_add_39 : decode cX4_add 39 = .ok (.iload_n 2, 1) := by decide +kernel
theorem dX4_add_40 : decode cX4_add 40 = .ok (.i2l, 1) := by decide +kernel
theorem dX4_add_41 : decode cX4_add 41 = .ok (.ladd, 1) := by decide +kernel
theorem dX4_add_42 : decode cX4_add 42 = .ok (.putfield 42, 3) := by decide +kernel
theorem dX4_add_45 : decode cX4_add 45 = .ok (.aload_n 0, 1) := by decide +kernel
theorem dX4_add_46 : decode cX4_add 46 = .ok (.aload_n 0, 1) := by decide +kernel
theorem dX4_add_47 : decode cX4_add 47 = .ok (.getfield 35, 3) := by decide +kernel
theorem dX4_add_50 : decode cX4_add 50 = .ok (.aload_n 3, 1) := by decide +kernel
theorem dX4_add_51 : decode cX4_add 51 = .ok (.iload 4, 2) := by decide +kernel
theorem dX4_add_53 : decode cX4_add 53 = .ok (.iconst 1, 1) := by decide +kernel
theorem dX4_add_54 : decode cX4_add 54 = .ok (.invokevirtual 46, 3) := by decide +kernel
theorem dX4_add_57 : decode cX4_add 57 = .ok (.aload_n 0, 1) := by decide +kernel
theorem dX4_add_58 : decode cX4_add 58 = .ok (.dup, 1) := by decide +kernel
theorem dX4_add_59 : decode cX4_add 59 = .ok (.getfield 35, 3) := by decide +kernel
theorem dX4_add_62 : decode cX4_add 62 = .ok (.dup_x1, 1) := by decide +kernel
theorem dX4_add_63 : decode cX4_add 63 = .ok (.iconst 1, 1) := by decide +kernel
theorem dX4_add_64 : decode cX4_add 64 = .ok (.iadd, 1) := by decide +kernel
theorem dX4_add_65 : decode cX4_add 65 = .ok (.putfield 35, 3) := by decide +kernel
theorem dX4_add_68 : decode cX4_add 68 = .ok (.ireturn, 1) := by decide +kernel
theorem dX4_partAnew_0 : decode cX4_partAnew 0 = .ok (.aload_n 0, 1) := by decide +kernel
theorem dX4_partAnew_1 : decode cX4_partAnew 1 = .ok (.getfield 31, 3) := by decide +kernel
theorem dX4_partAnew_4 : decode cX4_partAnew 4 = .ok (.getfield 50, 3) := by decide +kernel
theorem dX4_partAnew_7 : decode cX4_partAnew 7 = .ok (.istore 4, 2) := by decide +kernel
theorem dX4_partAnew_9 : decode cX4_partAnew 9 = .ok (.iconst 0, 1) := by decide +kernel
theorem dX4_partAnew_10 : decode cX4_partAnew 10 = .ok (.istore 5, 2) := by decide +kernel
theorem dX4_partAnew_12 : decode cX4_partAnew 12 = .ok (.iload 5, 2) := by decide +kernel
theorem dX4_partAnew_14 : decode cX4_partAnew 14 = .ok (.aload_n 0, 1) := by decide +kernel
theorem dX4_partAnew_15 : decode cX4_partAnew 15 = .ok (.getfield 35, 3) := by decide +kernel
theorem dX4_partAnew_18 : decode cX4_partAnew 18 = .ok (.if_icmp .ge 32, 3) := by decide +kernel
theorem dX4_partAnew_21 : decode cX4_partAnew 21 = .ok (.aload_n 0, 1) := by decide +kernel
theorem dX4_partAnew_22 : decode cX4_partAnew 22 = .ok (.getfield 11, 3) := by decide +kernel
theorem dX4_partAnew_25 : decode cX4_partAnew 25 = .ok (.iload 5, 2) := by decide +kernel
theorem dX4_partAnew_27 : decode cX4_partAnew 27 = .ok (.aaload, 1) := by decide +kernel
theorem dX4_partAnew_28 : decode cX4_partAnew 28 = .ok (.getfield 51, 3) := by decide +kernel
theorem dX4_partAnew_31 : decode cX4_partAnew 31 = .ok (.iload_n 1, 1) := by decide +kernel
theorem dX4_partAnew_32 : decode cX4_partAnew 32 = .ok (.if_icmp .ne 12, 3) := by decide +kernel
theorem dX4_partAnew_35 : decode cX4_partAnew 35 = .ok (.aload_n 0, 1) := by decide +kernel
theorem dX4_partAnew_36 : decode cX4_partAnew 36 = .ok (.iload 5, 2) := by decide +kernel
theorem dX4_partAnew_38 : decode cX4_partAnew 38 = .ok (.aload_n 2, 1) := by decide +kernel
theorem dX4_partAnew_39 : decode cX4_partAnew 39 = .ok (.iload_n 3, 1) := by decide +kernel
theorem dX4_partAnew_40 : decode cX4_partAnew 40 = .ok (.iconst 0, 1) := by decide +kernel
theorem dX4_partAnew_41 : decode cX4_partAnew 41 = .ok (.invokevirtual 46, 3) := by decide +kernel
theorem dX4_partAnew_44 : decode cX4_partAnew 44 = .ok (.iinc 5 1, 3) := by decide +kernel
theorem dX4_partAnew_47 : decode cX4_partAnew 47 = .ok (.goto (-35), 3) := by decide +kernel
theorem dX4_partAnew_50 : decode cX4_partAnew 50 = .ok (.aload_n 0, 1) := by decide +kernel
theorem dX4_partAnew_51 : decode cX4_partAnew 51 = .ok (.getfield 31, 3) := by decide +kernel
theorem dX4_partAnew_54 : decode cX4_partAnew 54 = .ok (.getfield 50, 3) := by decide +kernel
theorem dX4_partAnew_57 : decode cX4_partAnew 57 = .ok (.iload 4, 2) := by decide +kernel
theorem dX4_partAnew_59 : decode cX4_partAnew 59 = .ok (.isub, 1) := by decide +kernel
theorem dX4_partAnew_60 : decode cX4_partAnew 60 = .ok (.ireturn, 1) := by decide +kernel
theorem dX4_partedBy_0 : decode cX4_partedBy 0 = .ok (.iconst 0, 1) := by decide +kernel
theorem dX4_partedBy_1 : decode cX4_partedBy 1 = .ok (.istore_n 2, 1) := by decide +kernel
theorem dX4_partedBy_2 : decode cX4_partedBy 2 = .ok (.iconst 0, 1) := by decide +kernel
theorem dX4_partedBy_3 : decode cX4_partedBy 3 = .ok (.istore_n 3, 1) := by decide +kernel
theorem dX4_partedBy_4 : decode cX4_partedBy 4 = .ok (.iload_n 3, 1) := by decide +kernel
theorem dX4_partedBy_5 : decode cX4_partedBy 5 = .ok (.aload_n 0, 1) := by decide +kernel
theorem dX4_partedBy_6 : decode cX4_partedBy 6 = .ok (.getfield 35, 3) := by decide +kernel
theorem dX4_partedBy_9 : decode cX4_partedBy 9 = .ok (.if_icmp .ge 30, 3) := by decide +kernel
theorem dX4_partedBy_12 : decode cX4_partedBy 12 = .ok (.iload_n 2, 1) := by decide +kernel
theorem dX4_partedBy_13 : decode cX4_partedBy 13 = .ok (.aload_n 0, 1) := by decide +kernel
theorem dX4_partedBy_14 : decode cX4_partedBy 14 = .ok (.getfield 11, 3) := by decide +kernel
theorem dX4_partedBy_17 : decode cX4_partedBy 17 = .ok (.iload_n 3, 1) := by decide +kernel
theorem dX4_partedBy_18 : decode cX4_partedBy 18 = .ok (.aaload, 1) := by decide +kernel
theorem dX4_partedBy_19 : decode cX4_partedBy 19 = .ok (.getfield 51, 3) := by decide +kernel
theorem dX4_partedBy_22 : decode cX4_partedBy 22 = .ok (.iload_n 1, 1) := by decide +kernel
theorem dX4_partedBy_23 : decode cX4_partedBy 23 = .ok (.if_icmp .ne 7, 3) := by decide +kernel
theorem dX4_partedBy_26 : decode cX4_partedBy 26 = .ok (.iconst 1, 1) := by decide +kernel
theorem dX4_partedBy_27 : decode cX4_partedBy 27 = .ok (.goto 4, 3) := by decide +kernel
theorem dX4_partedBy_30 : decode cX4_partedBy 30 = .ok (.iconst 0, 1) := by decide +kernel
theorem dX4_partedBy_31 : decode cX4_partedBy 31 = .ok (.iadd, 1) := by decide +kernel
theorem dX4_partedBy_32 : decode cX4_partedBy 32 = .ok (.istore_n 2, 1) := by decide +kernel
theorem dX4_partedBy_33 : decode cX4_partedBy 33 = .ok (.iinc 3 1, 3) := by decide +kernel
theorem dX4_partedBy_36 : decode cX4_partedBy 36 = .ok (.goto (-32), 3) := by decide +kernel
theorem dX4_partedBy_39 : decode cX4_partedBy 39 = .ok (.iload_n 2, 1) := by decide +kernel
theorem dX4_partedBy_40 : decode cX4_partedBy 40 = .ok (.ireturn, 1) := by decide +kernel
theorem dX4_settle_0 : decode cX4_settle 0 = .ok (.aload_n 0, 1) := by decide +kernel
theorem dX4_settle_1 : decode cX4_settle 1 = .ok (.getfield 11, 3) := by decide +kernel
theorem dX4_settle_4 : decode cX4_settle 4 = .ok (.iload_n 1, 1) := by decide +kernel
theorem dX4_settle_5 : decode cX4_settle 5 = .ok (.aaload, 1) := by decide +kernel
theorem dX4_settle_6 : decode cX4_settle 6 = .ok (.astore 5, 2) := by decide +kernel
theorem dX4_settle_8 : decode cX4_settle 8 = .ok (.aload 5, 2) := by decide +kernel
theorem dX4_settle_10 : decode cX4_settle 10 = .ok (.aload_n 2, 1) := by decide +kernel
theorem dX4_settle_11 : decode cX4_settle 11 = .ok (.aload 5, 2) := by decide +kernel
theorem dX4_settle_13 : decode cX4_settle 13 = .ok (.getfield 54, 3) := by decide +kernel
theorem dX4_settle_16 : decode cX4_settle 16 = .ok (.invokevirtual 57, 3) := by decide +kernel
theorem dX4_settle_19 : decode cX4_settle 19 = .ok (.putfield 51, 3) := by decide +kernel
theorem dX4_settle_22 : decode cX4_settle 22 = .ok (.aload_n 0, 1) := by decide +kernel
theorem dX4_settle_23 : decode cX4_settle 23 = .ok (.aload 5, 2) := by decide +kernel
theorem dX4_settle_25 : decode cX4_settle 25 = .ok (.aload_n 2, 1) := by decide +kernel
theorem dX4_settle_26 : decode cX4_settle 26 = .ok (.invokevirtual 63, 3) := by decide +kernel
theorem dX4_settle_29 : decode cX4_settle 29 = .ok (.aload_n 0, 1) := by decide +kernel
theorem dX4_settle_30 : decode cX4_settle 30 = .ok (.getfield 24, 3) := by decide +kernel
theorem dX4_settle_33 : decode cX4_settle 33 = .ok (.aload 5, 2) := by decide +kernel
theorem dX4_settle_35 : decode cX4_settle 35 = .ok (.getfield 67, 3) := by decide +kernel
theorem dX4_settle_38 : decode cX4_settle 38 = .ok (.aload_n 0, 1) := by decide +kernel
theorem dX4_settle_39 : decode cX4_settle 39 = .ok (.getfield 17, 3) := by decide +kernel
theorem dX4_settle_42 : decode cX4_settle 42 = .ok (.invokevirtual 70, 3) := by decide +kernel
theorem dX4_settle_45 : decode cX4_settle 45 = .ok (.astore 6, 2) := by decide +kernel
theorem dX4_settle_47 : decode cX4_settle 47 = .ok (.iconst 0, 1) := by decide +kernel
theorem dX4_settle_48 : decode cX4_settle 48 = .ok (.istore 7, 2) := by decide +kernel
theorem dX4_settle_50 : decode cX4_settle 50 = .ok (.iload 7, 2) := by decide +kernel
theorem dX4_settle_52 : decode cX4_settle 52 = .ok (.bipush 20, 2) := by decide +kernel
theorem dX4_settle_54 : decode cX4_settle 54 = .ok (.if_icmp .ge 74, 3) := by decide +kernel
theorem dX4_settle_57 : decode cX4_settle 57 = .ok (.aload 6, 2) := by decide +kernel
theorem dX4_settle_59 : decode cX4_settle 59 = .ok (.iload 7, 2) := by decide +kernel
theorem dX4_settle_61 : decode cX4_settle 61 = .ok (.iaload, 1) := by decide +kernel
theorem dX4_settle_62 : decode cX4_settle 62 = .ok (.aload 5, 2) := by decide +kernel
theorem dX4_settle_64 : decode cX4_settle 64 = .ok (.getfield 74, 3) := by decide +kernel
theorem dX4_settle_67 : decode cX4_settle 67 = .ok (.iload 7, 2) := by decide +kernel
theorem dX4_settle_69 : decode cX4_settle 69 = .ok (.iaload, 1) := by decide +kernel
theorem dX4_settle_70 : decode cX4_settle 70 = .ok (.isub, 1) := by decide +kernel
theorem dX4_settle_71 : decode cX4_settle 71 = .ok (.istore 8, 2) := by decide +kernel
theorem dX4_settle_73 : decode cX4_settle 73 = .ok (.iload 8, 2) := by decide +kernel
theorem dX4_settle_75 : decode cX4_settle 75 = .ok (.ifCond .ne 21, 3) := by decide +kernel
theorem dX4_settle_78 : decode cX4_settle 78 = .ok (.iload 4, 2) := by decide +kernel
theorem dX4_settle_80 : decode cX4_settle 80 = .ok (.ifCond .eq 42, 3) := by decide +kernel
theorem dX4_settle_83 : decode cX4_settle 83 = .ok (.aload 5, 2) := by decide +kernel
theorem dX4_settle_85 : decode cX4_settle 85 = .ok (.getfield 77, 3) := by decide +kernel
theorem dX4_settle_88 : decode cX4_settle 88 = .ok (.iload 7, 2) := by decide +kernel
theorem dX4_settle_90 : decode cX4_settle 90 = .ok (.invokevirtual 81, 3) := by decide +kernel
theorem dX4_settle_93 : decode cX4_settle 93 = .ok (.ifCond .le 29, 3) := by decide +kernel
theorem dX4_settle_96 : decode cX4_settle 96 = .ok (.aload_n 0, 1) := by decide +kernel
theorem dX4_settle_97 : decode cX4_settle 97 = .ok (.getfield 31, 3) := by decide +kernel
theorem dX4_settle_100 : decode cX4_settle 100 = .ok (.iload_n 3, 1) := by decide +kernel
theorem dX4_settle_101 : decode cX4_settle 101 = .ok (.iload_n 1, 1) := by decide +kernel
theorem dX4_settle_102 : decode cX4_settle 102 = .ok (.iload 7, 2) := by decide +kernel
theorem dX4_settle_104 : decode cX4_settle 104 = .ok (.iload 8, 2) := by decide +kernel
theorem dX4_settle_106 : decode cX4_settle 106 = .ok (.invokevirtual 86, 3) := by decide +kernel
theorem dX4_settle_109 : decode cX4_settle 109 = .ok (.aload 5, 2) := by decide +kernel
theorem dX4_settle_111 : decode cX4_settle 111 = .ok (.getfield 74, 3) := by decide +kernel
theorem dX4_settle_114 : decode cX4_settle 114 = .ok (.iload 7, 2) := by decide +kernel
theorem dX4_settle_116 : decode cX4_settle 116 = .ok (.aload 6, 2) := by decide +kernel
theorem dX4_settle_118 : decode cX4_settle 118 = .ok (.iload 7, 2) := by decide +kernel
theorem dX4_settle_120 : decode cX4_settle 120 = .ok (.iaload, 1) := by decide +kernel
theorem dX4_settle_121 : decode cX4_settle 121 = .ok (.iastore, 1) := by decide +kernel
theorem dX4_settle_122 : decode cX4_settle 122 = .ok (.iinc 7 1, 3) := by decide +kernel
theorem dX4_settle_125 : decode cX4_settle 125 = .ok (.goto (-75), 3) := by decide +kernel
theorem dX4_settle_128 : decode cX4_settle 128 = .ok (.return_, 1) := by decide +kernel
theorem dX4_measure_0 : decode cX4_measure 0 = .ok (.iconst 1, 1) := by decide +kernel
theorem dX4_measure_1 : decode cX4_measure 1 = .ok (.istore_n 3, 1) := by decide +kernel
theorem dX4_measure_2 : decode cX4_measure 2 = .ok (.iconst 0, 1) := by decide +kernel
theorem dX4_measure_3 : decode cX4_measure 3 = .ok (.istore 4, 2) := by decide +kernel
theorem dX4_measure_5 : decode cX4_measure 5 = .ok (.iload 4, 2) := by decide +kernel
theorem dX4_measure_7 : decode cX4_measure 7 = .ok (.bipush 20, 2) := by decide +kernel
theorem dX4_measure_9 : decode cX4_measure 9 = .ok (.if_icmp .ge 62, 3) := by decide +kernel
theorem dX4_measure_12 : decode cX4_measure 12 = .ok (.aload_n 0, 1) := by decide +kernel
theorem dX4_measure_13 : decode cX4_measure 13 = .ok (.getfield 17, 3) := by decide +kernel
theorem dX4_measure_16 : decode cX4_measure 16 = .ok (.iload 4, 2) := by decide +kernel
theorem dX4_measure_18 : decode cX4_measure 18 = .ok (.aload_n 1, 1) := by decide +kernel
theorem dX4_measure_19 : decode cX4_measure 19 = .ok (.getfield 77, 3) := by decide +kernel
theorem dX4_measure_22 : decode cX4_measure 22 = .ok (.iload 4, 2) := by decide +kernel
theorem dX4_measure_24 : decode cX4_measure 24 = .ok (.invokevirtual 81, 3) := by decide +kernel
theorem dX4_measure_27 : decode cX4_measure 27 = .ok (.ifCond .le 24, 3) := by decide +kernel
theorem dX4_measure_30 : decode cX4_measure 30 = .ok (.aload_n 2, 1) := by decide +kernel
theorem dX4_measure_31 : decode cX4_measure 31 = .ok (.aload_n 1, 1) := by decide +kernel
theorem dX4_measure_32 : decode cX4_measure 32 = .ok (.getfield 51, 3) := by decide +kernel
theorem dX4_measure_35 : decode cX4_measure 35 = .ok (.aload_n 1, 1) := by decide +kernel
theorem dX4_measure_36 : decode cX4_measure 36 = .ok (.getfield 77, 3) := by decide +kernel
theorem dX4_measure_39 : decode cX4_measure 39 = .ok (.aload_n 1, 1) := by decide +kernel
theorem dX4_measure_40 : decode cX4_measure 40 = .ok (.getfield 90, 3) := by decide +kernel
theorem dX4_measure_43 : decode cX4_measure 43 = .ok (.iload 4, 2) := by decide +kernel
theorem dX4_measure_45 : decode cX4_measure 45 = .ok (.invokevirtual 93, 3) := by decide +kernel
theorem dX4_measure_48 : decode cX4_measure 48 = .ok (.goto 4, 3) := by decide +kernel
theorem dX4_measure_51 : decode cX4_measure 51 = .ok (.iconst 0, 1) := by decide +kernel
theorem dX4_measure_52 : decode cX4_measure 52 = .ok (.iastore, 1) := by decide +kernel
theorem dX4_measure_53 : decode cX4_measure 53 = .ok (.aload_n 0, 1) := by decide +kernel
theorem dX4_measure_54 : decode cX4_measure 54 = .ok (.getfield 17, 3) := by decide +kernel
theorem dX4_measure_57 : decode cX4_measure 57 = .ok (.iload 4, 2) := by decide +kernel
theorem dX4_measure_59 : decode cX4_measure 59 = .ok (.iaload, 1) := by decide +kernel
theorem dX4_measure_60 : decode cX4_measure 60 = .ok (.ifCond .eq 5, 3) := by decide +kernel
theorem dX4_measure_63 : decode cX4_measure 63 = .ok (.iconst 0, 1) := by decide +kernel
theorem dX4_measure_64 : decode cX4_measure 64 = .ok (.istore_n 3, 1) := by decide +kernel
theorem dX4_measure_65 : decode cX4_measure 65 = .ok (.iinc 4 1, 3) := by decide +kernel
theorem dX4_measure_68 : decode cX4_measure 68 = .ok (.goto (-63), 3) := by decide +kernel
theorem dX4_measure_71 : decode cX4_measure 71 = .ok (.iload_n 3, 1) := by decide +kernel
theorem dX4_measure_72 : decode cX4_measure 72 = .ok (.ifCond .eq 35, 3) := by decide +kernel
theorem dX4_measure_75 : decode cX4_measure 75 = .ok (.iconst 0, 1) := by decide +kernel
theorem dX4_measure_76 : decode cX4_measure 76 = .ok (.istore 4, 2) := by decide +kernel
theorem dX4_measure_78 : decode cX4_measure 78 = .ok (.iload 4, 2) := by decide +kernel
theorem dX4_measure_80 : decode cX4_measure 80 = .ok (.bipush 20, 2) := by decide +kernel
theorem dX4_measure_82 : decode cX4_measure 82 = .ok (.if_icmp .ge 25, 3) := by decide +kernel
theorem dX4_measure_85 : decode cX4_measure 85 = .ok (.aload_n 0, 1) := by decide +kernel
theorem dX4_measure_86 : decode cX4_measure 86 = .ok (.getfield 17, 3) := by decide +kernel
theorem dX4_measure_89 : decode cX4_measure 89 = .ok (.iload 4, 2) := by decide +kernel
theorem dX4_measure_91 : decode cX4_measure 91 = .ok (.aload_n 1, 1) := by decide +kernel
theorem dX4_measure_92 : decode cX4_measure 92 = .ok (.getfield 77, 3) := by decide +kernel
theorem dX4_measure_95 : decode cX4_measure 95 = .ok (.iload 4, 2) := by decide +kernel
theorem dX4_measure_97 : decode cX4_measure 97 = .ok (.invokevirtual 81, 3) := by decide +kernel
theorem dX4_measure_100 : decode cX4_measure 100 = .ok (.iastore, 1) := by decide +kernel
theorem dX4_measure_101 : decode cX4_measure 101 = .ok (.iinc 4 1, 3) := by decide +kernel
theorem dX4_measure_104 : decode cX4_measure 104 = .ok (.goto (-26), 3) := by decide +kernel
theorem dX4_measure_107 : decode cX4_measure 107 = .ok (.return_, 1) := by decide +kernel
theorem dX5_init_0 : decode cX5_init 0 = .ok (.aload_n 0, 1) := by decide +kernel
theorem dX5_init_1 : decode cX5_init 1 = .ok (.invokespecial 3, 3) := by decide +kernel
theorem dX5_init_4 : decode cX5_init 4 = .ok (.aload_n 0, 1) := by decide +kernel
theorem dX5_init_5 : decode cX5_init 5 = .ok (.bipush 9, 2) := by decide +kernel
theorem dX5_init_7 : decode cX5_init 7 = .ok (.newarray .long, 2) := by decide +kernel
theorem dX5_init_9 : decode cX5_init 9 = .ok (.putfield 9, 3) := by decide +kernel
theorem dX5_init_12 : decode cX5_init 12 = .ok (.aload_n 0, 1) := by decide +kernel
theorem dX5_init_13 : decode cX5_init 13 = .ok (.bipush 9, 2) := by decide +kernel
theorem dX5_init_15 : decode cX5_init 15 = .ok (.newarray .long, 2) := by decide +kernel
theorem dX5_init_17 : decode cX5_init 17 = .ok (.putfield 15, 3) := by decide +kernel
theorem dX5_init_20 : decode cX5_init 20 = .ok (.return_, 1) := by decide +kernel
