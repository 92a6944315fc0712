theorem dX2_add_0 : decode cX2_add 0 = .ok (.aload_n 0, 1) := by decide +kernel
theorem dX2_add_1 : decode cX2_add 1 = .ok (.getfield 27, 3) := by decide +kernel
theorem dX2_add_4 : decode cX2_add 4 = .ok (.bipush 60, 2) := by decide +kernel
theorem dX2_add_6 : decode cX2_add 6 = .ok (.if_icmp .lt 5, 3) := by decide +kernel
theorem dX2_add_9 : decode cX2_add 9 = .ok (.iconst (-1), 1) := by decide +kernel
theorem dX2_add_10 : decode cX2_add 10 = .ok (.ireturn, 1) := by decide +kernel
theorem dX2_add_11 : decode cX2_add 11 = .ok (.aload_n 0, 1) := by decide +kernel
theorem dX2_add_12 : decode cX2_add 12 = .ok (.getfield 9, 3) := by decide +kernel
theorem dX2_add_15 : decode cX2_add 15 = .ok (.aload_n 0, 1) := by decide +kernel
theorem dX2_add_16 : decode cX2_add 16 = .ok (.getfield 27, 3) := by decide +kernel
theorem dX2_add_19 : decode cX2_add 19 = .ok (.iload_n 1, 1) := by decide +kernel
theorem dX2_add_20 : decode cX2_add 20 = .ok (.iastore, 1) := by decide +kernel
theorem dX2_add_21 : decode cX2_add 21 = .ok (.aload_n 0, 1) := by decide +kernel
theorem dX2_add_22 : decode cX2_add 22 = .ok (.getfield 15, 3) := by decide +kernel
theorem dX2_add_25 : decode cX2_add 25 = .ok (.aload_n 0, 1) := by decide +kernel
theorem dX2_add_26 : decode cX2_add 26 = .ok (.getfield 27, 3) := by decide +kernel
theorem dX2_add_29 : decode cX2_add 29 = .ok (.iload_n 2, 1) := by decide +kernel
theorem dX2_add_30 : decode cX2_add 30 = .ok (.iastore, 1) := by decide +kernel
theorem dX2_add_31 : decode cX2_add 31 = .ok (.aload_n 0, 1) := by decide +kernel
theorem dX2_add_32 : decode cX2_add 32 = .ok (.dup, 1) := by decide +kernel
theorem dX2_add_33 : decode cX2_add 33 = .ok (.getfield 27, 3) := by decide +kernel
theorem dX2_add_36 : decode cX2_add 36 = .ok (.dup_x1, 1) := by decide +kernel
theorem dX2_add_37 : decode cX2_add 37 = .ok (.iconst 1, 1) := by decide +kernel
theorem dX2_add_38 : decode cX2_add 38 = .ok (.iadd, 1) := by decide +kernel
theorem dX2_add_39 : decode cX2_add 39 = .ok (.putfield 27, 3) := by decide +kernel
theorem dX2_add_42 : decode cX2_add 42 = .ok (.ireturn, 1) := by decide +kernel
theorem dX2_giveDays_0 : decode cX2_giveDays 0 = .ok (.aload_n 0, 1) := by decide +kernel
theorem dX2_giveDays_1 : decode cX2_giveDays 1 = .ok (.getfield 18, 3) := by decide +kernel
theorem dX2_giveDays_4 : decode cX2_giveDays 4 = .ok (.iconst (-1), 1) := by decide +kernel
theorem dX2_giveDays_5 : decode cX2_giveDays 5 = .ok (.invokestatic 31, 3) := by decide +kernel
theorem dX2_giveDays_8 : decode cX2_giveDays 8 = .ok (.iconst 0, 1) := by decide +kernel
theorem dX2_giveDays_9 : decode cX2_giveDays 9 = .ok (.istore_n 1, 1) := by decide +kernel
theorem dX2_giveDays_10 : decode cX2_giveDays 10 = .ok (.iconst 0, 1) := by decide +kernel
theorem dX2_giveDays_11 : decode cX2_giveDays 11 = .ok (.istore_n 2, 1) := by decide +kernel
theorem dX2_giveDays_12 : decode cX2_giveDays 12 = .ok (.iload_n 2, 1) := by decide +kernel
theorem dX2_giveDays_13 : decode cX2_giveDays 13 = .ok (.bipush 60, 2) := by decide +kernel
theorem dX2_giveDays_15 : decode cX2_giveDays 15 = .ok (.if_icmp .ge 54, 3) := by decide +kernel
theorem dX2_giveDays_18 : decode cX2_giveDays 18 = .ok (.iconst 0, 1) := by decide +kernel
theorem dX2_giveDays_19 : decode cX2_giveDays 19 = .ok (.istore_n 3, 1) := by decide +kernel
theorem dX2_giveDays_20 : decode cX2_giveDays 20 = .ok (.iload_n 3, 1) := by decide +kernel
theorem dX2_giveDays_21 : decode cX2_giveDays 21 = .ok (.aload_n 0, 1) := by decide +kernel
theorem dX2_giveDays_22 : decode cX2_giveDays 22 = .ok (.getfield 21, 3) := by decide +kernel
theorem dX2_giveDays_25 : decode cX2_giveDays 25 = .ok (.iload_n 2, 1) := by decide +kernel
theorem dX2_giveDays_26 : decode cX2_giveDays 26 = .ok (.iaload, 1) := by decide +kernel
theorem dX2_giveDays_27 : decode cX2_giveDays 27 = .ok (.if_icmp .ge 36, 3) := by decide +kernel
theorem dX2_giveDays_30 : decode cX2_giveDays 30 = .ok (.aload_n 0, 1) := by decide +kernel
theorem dX2_giveDays_31 : decode cX2_giveDays 31 = .ok (.iload_n 2, 1) := by decide +kernel
theorem dX2_giveDays_32 : decode cX2_giveDays 32 = .ok (.invokevirtual 37, 3) := by decide +kernel
theorem dX2_giveDays_35 : decode cX2_giveDays 35 = .ok (.istore 4, 2) := by decide +kernel
theorem dX2_giveDays_37 : decode cX2_giveDays 37 = .ok (.iload 4, 2) := by decide +kernel
theorem dX2_giveDays_39 : decode cX2_giveDays 39 = .ok (.iconst (-1), 1) := by decide +kernel
theorem dX2_giveDays_40 : decode cX2_giveDays 40 = .ok (.if_icmp .ne 6, 3) := by decide +kernel
theorem dX2_giveDays_43 : decode cX2_giveDays 43 = .ok (.goto 20, 3) := by decide +kernel
theorem dX2_giveDays_46 : decode cX2_giveDays 46 = .ok (.aload_n 0, 1) := by decide +kernel
theorem dX2_giveDays_47 : decode cX2_giveDays 47 = .ok (.getfield 18, 3) := by decide +kernel
theorem dX2_giveDays_50 : decode cX2_giveDays 50 = .ok (.iload 4, 2) := by decide +kernel
theorem dX2_giveDays_52 : decode cX2_giveDays 52 = .ok (.iload_n 2, 1) := by decide +kernel
theorem dX2_giveDays_53 : decode cX2_giveDays 53 = .ok (.iastore, 1) := by decide +kernel
theorem dX2_giveDays_54 : decode cX2_giveDays 54 = .ok (.iinc 1 1, 3) := by decide +kernel
theorem dX2_giveDays_57 : decode cX2_giveDays 57 = .ok (.iinc 3 1, 3) := by decide +kernel
theorem dX2_giveDays_60 : decode cX2_giveDays 60 = .ok (.goto (-40), 3) := by decide +kernel
theorem dX2_giveDays_63 : decode cX2_giveDays 63 = .ok (.iinc 2 1, 3) := by decide +kernel
theorem dX2_giveDays_66 : decode cX2_giveDays 66 = .ok (.goto (-54), 3) := by decide +kernel
theorem dX2_giveDays_69 : decode cX2_giveDays 69 = .ok (.iload_n 1, 1) := by decide +kernel
theorem dX2_giveDays_70 : decode cX2_giveDays 70 = .ok (.aload_n 0, 1) := by decide +kernel
theorem dX2_giveDays_71 : decode cX2_giveDays 71 = .ok (.getfield 27, 3) := by decide +kernel
theorem dX2_giveDays_74 : decode cX2_giveDays 74 = .ok (.if_icmp .ne 7, 3) := by decide +kernel
theorem dX2_giveDays_77 : decode cX2_giveDays 77 = .ok (.iconst 1, 1) := by decide +kernel
theorem dX2_giveDays_78 : decode cX2_giveDays 78 = .ok (.goto 4, 3) := by decide +kernel
theorem dX2_giveDays_81 : decode cX2_giveDays 81 = .ok (.iconst 0, 1) := by decide +kernel
theorem dX2_giveDays_82 : decode cX2_giveDays 82 = .ok (.ireturn, 1) := by decide +kernel
theorem dX2_mostPressing_0 : decode cX2_mostPressing 0 = .ok (.iconst (-1), 1) := by decide +kernel
theorem dX2_mostPressing_1 : decode cX2_mostPressing 1 = .ok (.istore_n 2, 1) := by decide +kernel
theorem dX2_mostPressing_2 : decode cX2_mostPressing 2 = .ok (.iconst 0, 1) := by decide +kernel
theorem dX2_mostPressing_3 : decode cX2_mostPressing 3 = .ok (.istore_n 3, 1) := by decide +kernel
theorem dX2_mostPressing_4 : decode cX2_mostPressing 4 = .ok (.iload_n 3, 1) := by decide +kernel
theorem dX2_mostPressing_5 : decode cX2_mostPressing 5 = .ok (.aload_n 0, 1) := by decide +kernel
theorem dX2_mostPressing_6 : decode cX2_mostPressing 6 = .ok (.getfield 27, 3) := by decide +kernel
theorem dX2_mostPressing_9 : decode cX2_mostPressing 9 = .ok (.if_icmp .ge 73, 3) := by decide +kernel
theorem dX2_mostPressing_12 : decode cX2_mostPressing 12 = .ok (.aload_n 0, 1) := by decide +kernel
theorem dX2_mostPressing_13 : decode cX2_mostPressing 13 = .ok (.getfield 18, 3) := by decide +kernel
theorem dX2_mostPressing_16 : decode cX2_mostPressing 16 = .ok (.iload_n 3, 1) := by decide +kernel
theorem dX2_mostPressing_17 : decode cX2_mostPressing 17 = .ok (.iaload, 1) := by decide +kernel
theorem dX2_mostPressing_18 : decode cX2_mostPressing 18 = .ok (.iconst (-1), 1) := by decide +kernel
theorem dX2_mostPressing_19 : decode cX2_mostPressing 19 = .ok (.if_icmp .ne 27, 3) := by decide +kernel
theorem dX2_mostPressing_22 : decode cX2_mostPressing 22 = .ok (.aload_n 0, 1) := by decide +kernel
theorem dX2_mostPressing_23 : decode cX2_mostPressing 23 = .ok (.getfield 9, 3) := by decide +kernel
theorem dX2_mostPressing_26 : decode cX2_mostPressing 26 = .ok (.iload_n 3, 1) := by decide +kernel
theorem dX2_mostPressing_27 : decode cX2_mostPressing 27 = .ok (.iaload, 1) := by decide +kernel
theorem dX2_mostPressing_28 : decode cX2_mostPressing 28 = .ok (.iload_n 1, 1) := by decide +kernel
theorem dX2_mostPressing_29 : decode cX2_mostPressing 29 = .ok (.if_icmp .gt 17, 3) := by decide +kernel
theorem dX2_mostPressing_32 : decode cX2_mostPressing 32 = .ok (.iload_n 1, 1) := by decide +kernel
theorem dX2_mostPressing_33 : decode cX2_mostPressing 33 = .ok (.aload_n 0, 1) := by decide +kernel
theorem dX2_mostPressing_34 : decode cX2_mostPressing 34 = .ok (.getfield 15, 3) := by decide +kernel
theorem dX2_mostPressing_37 : decode cX2_mostPressing 37 = .ok (.iload_n 3, 1) := by decide +kernel
theorem dX2_mostPressing_38 : decode cX2_mostPressing 38 = .ok (.iaload, 1) := by decide +kernel
theorem dX2_mostPressing_39 : decode cX2_mostPressing 39 = .ok (.if_icmp .gt 7, 3) := by decide +kernel
theorem dX2_mostPressing_42 : decode cX2_mostPressing 42 = .ok (.iconst 1, 1) := by decide +kernel
theorem dX2_mostPressing_43 : decode cX2_mostPressing 43 = .ok (.goto 4, 3) := by decide +kernel
theorem dX2_mostPressing_46 : decode cX2_mostPressing 46 = .ok (.iconst 0, 1) := by decide +kernel
theorem dX2_mostPressing_47 : decode cX2_mostPressing 47 = .ok (.istore 4, 2) := by decide +kernel
theorem dX2_mostPressing_49 : decode cX2_mostPressing 49 = .ok (.iload 4, 2) := by decide +kernel
theorem dX2_mostPressing_51 : decode cX2_mostPressing 51 = .ok (.ifCond .eq 25, 3) := by decide +kernel
theorem dX2_mostPressing_54 : decode cX2_mostPressing 54 = .ok (.iload_n 2, 1) := by decide +kernel
theorem dX2_mostPressing_55 : decode cX2_mostPressing 55 = .ok (.iconst (-1), 1) := by decide +kernel
theorem dX2_mostPressing_56 : decode cX2_mostPressing 56 = .ok (.if_icmp .eq 18, 3) := by decide +kernel
theorem dX2_mostPressing_59 : decode cX2_mostPressing 59 = .ok (.aload_n 0, 1) := by decide +kernel
theorem dX2_mostPressing_60 : decode cX2_mostPressing 60 = .ok (.getfield 15, 3) := by decide +kernel
theorem dX2_mostPressing_63 : decode cX2_mostPressing 63 = .ok (.iload_n 3, 1) := by decide +kernel
theorem dX2_mostPressing_64 : decode cX2_mostPressing 64 = .ok (.iaload, 1) := by decide +kernel
theorem dX2_mostPressing_65 : decode cX2_mostPressing 65 = .ok (.aload_n 0, 1) := by decide +kernel
theorem dX2_mostPressing_66 : decode cX2_mostPressing 66 = .ok (.getfield 15, 3) := by decide +kernel
theorem dX2_mostPressing_69 : decode cX2_mostPressing 69 = .ok (.iload_n 2, 1) := by decide +kernel
theorem dX2_mostPressing_70 : decode cX2_mostPressing 70 = .ok (.iaload, 1) := by decide +kernel
theorem dX2_mostPressing_71 : decode cX2_mostPressing 71 = .ok (.if_icmp .ge 5, 3) := by decide +kernel
theorem dX2_mostPressing_74 : decode cX2_mostPressing 74 = .ok (.iload_n 3, 1) := by decide +kernel
theorem dX2_mostPressing_75 : decode cX2_mostPressing 75 = .ok (.istore_n 2, 1) := by decide +kernel
theorem dX2_mostPressing_76 : decode cX2_mostPressing 76 = .ok (.iinc 3 1, 3) := by decide +kernel
theorem dX2_mostPressing_79 : decode cX2_mostPressing 79 = .ok (.goto (-75), 3) := by decide +kernel
theorem dX2_mostPressing_82 : decode cX2_mostPressing 82 = .ok (.iload_n 2, 1) := by decide +kernel
theorem dX2_mostPressing_83 : decode cX2_mostPressing 83 = .ok (.ireturn, 1) := by decide +kernel
theorem dX2_tightRow_0 : decode cX2_tightRow 0 = .ok (.aload_n 0, 1) := by decide +kernel
theorem dX2_tightRow_1 : decode cX2_tightRow 1 = .ok (.getfield 24, 3) := by decide +kernel
theorem dX2_tightRow_4 : decode cX2_tightRow 4 = .ok (.iconst 0, 1) := by decide +kernel
theorem dX2_tightRow_5 : decode cX2_tightRow 5 = .ok (.invokestatic 31, 3) := by decide +kernel
theorem dX2_tightRow_8 : decode cX2_tightRow 8 = .ok (.iconst 0, 1) := by decide +kernel
theorem dX2_tightRow_9 : decode cX2_tightRow 9 = .ok (.istore_n 2, 1) := by decide +kernel
theorem dX2_tightRow_10 : decode cX2_tightRow 10 = .ok (.iload_n 2, 1) := by decide +kernel
theorem dX2_tightRow_11 : decode cX2_tightRow 11 = .ok (.bipush 60, 2) := by decide +kernel
theorem dX2_tightRow_13 : decode cX2_tightRow 13 = .ok (.if_icmp .ge 35, 3) := by decide +kernel
theorem dX2_tightRow_16 : decode cX2_tightRow 16 = .ok (.aload_n 0, 1) := by decide +kernel
theorem dX2_tightRow_17 : decode cX2_tightRow 17 = .ok (.iload_n 2, 1) := by decide +kernel
theorem dX2_tightRow_18 : decode cX2_tightRow 18 = .ok (.invokevirtual 41, 3) := by decide +kernel
theorem dX2_tightRow_21 : decode cX2_tightRow 21 = .ok (.aload_n 0, 1) := by decide +kernel
theorem dX2_tightRow_22 : decode cX2_tightRow 22 = .ok (.iload_n 2, 1) := by decide +kernel
theorem dX2_tightRow_23 : decode cX2_tightRow 23 = .ok (.invokevirtual 45, 3) := by decide +kernel
theorem dX2_tightRow_26 : decode cX2_tightRow 26 = .ok (.istore_n 3, 1) := by decide +kernel
theorem dX2_tightRow_27 : decode cX2_tightRow 27 = .ok (.iload_n 3, 1) := by decide +kernel
theorem dX2_tightRow_28 : decode cX2_tightRow 28 = .ok (.iconst (-1), 1) := by decide +kernel
theorem dX2_tightRow_29 : decode cX2_tightRow 29 = .ok (.if_icmp .eq 13, 3) := by decide +kernel
theorem dX2_tightRow_32 : decode cX2_tightRow 32 = .ok (.iload_n 1, 1) := by decide +kernel
theorem dX2_tightRow_33 : decode cX2_tightRow 33 = .ok (.ifCond .eq 7, 3) := by decide +kernel
theorem dX2_tightRow_36 : decode cX2_tightRow 36 = .ok (.iload_n 2, 1) := by decide +kernel
theorem dX2_tightRow_37 : decode cX2_tightRow 37 = .ok (.goto 4, 3) := by decide +kernel
theorem dX2_tightRow_40 : decode cX2_tightRow 40 = .ok (.iload_n 3, 1) := by decide +kernel
theorem dX2_tightRow_41 : decode cX2_tightRow 41 = .ok (.ireturn, 1) := by decide +kernel
theorem dX2_tightRow_42 : decode cX2_tightRow 42 = .ok (.iinc 2 1, 3) := by decide +kernel
theorem dX2_tightRow_45 : decode cX2_tightRow 45 = .ok (.goto (-35), 3) := by decide +kernel
theorem dX2_tightRow_48 : decode cX2_tightRow 48 = .ok (.iconst (-1), 1) := by decide +kernel
theorem dX2_tightRow_49 : decode cX2_tightRow 49 = .ok (.ireturn, 1) := by decide +kernel
theorem dX2_addJobsUntil_0 : decode cX2_addJobsUntil 0 = .ok (.iconst 0, 1) := by decide +kernel
theorem dX2_addJobsUntil_1 : decode cX2_addJobsUntil 1 = .ok (.istore_n 2, 1) := by decide +kernel
theorem dX2_addJobsUntil_2 : decode cX2_addJobsUntil 2 = .ok (.iload_n 2, 1) := by decide +kernel
theorem dX2_addJobsUntil_3 : decode cX2_addJobsUntil 3 = .ok (.aload_n 0, 1) := by decide +kernel
theorem dX2_addJobsUntil_4 : decode cX2_addJobsUntil 4 = .ok (.getfield 27, 3) := by decide +kernel
theorem dX2_addJobsUntil_7 : decode cX2_addJobsUntil 7 = .ok (.if_icmp .ge 34, 3) := by decide +kernel
theorem dX2_addJobsUntil_10 : decode cX2_addJobsUntil 10 = .ok (.aload_n 0, 1) := by decide +kernel
theorem dX2_addJobsUntil_11 : decode cX2_addJobsUntil 11 = .ok (.getfield 15, 3) := by decide +kernel
theorem dX2_addJobsUntil_14 : decode cX2_addJobsUntil 14 = .ok (.iload_n 2, 1) := by decide +kernel
theorem dX2_addJobsUntil_15 : decode cX2_addJobsUntil 15 = .ok (.iaload, 1) := by decide +kernel
theorem dX2_addJobsUntil_16 : decode cX2_addJobsUntil 16 = .ok (.iload_n 1, 1) := by decide +kernel
theorem dX2_addJobsUntil_17 : decode cX2_addJobsUntil 17 = .ok (.if_icmp .ne 18, 3) := by decide +kernel
theorem dX2_addJobsUntil_20 : decode cX2_addJobsUntil 20 = .ok (.aload_n 0, 1) := by decide +kernel
theorem dX2_addJobsUntil_21 : decode cX2_addJobsUntil 21 = .ok (.getfield 24, 3) := by decide +kernel
theorem dX2_addJobsUntil_24 : decode cX2_addJobsUntil 24 = .ok (.aload_n 0, 1) := by decide +kernel
theorem dX2_addJobsUntil_25 : decode cX2_addJobsUntil 25 = .ok (.getfield 9, 3) := by decide +kernel
theorem dX2_addJobsUntil_28 : decode cX2_addJobsUntil 28 = .ok (.iload_n 2, 1) := by decide +kernel
theorem dX2_addJobsUntil_29 : decode cX2_addJobsUntil 29 = .ok (.iaload, 1) := by decide +kernel
theorem dX2_addJobsUntil_30 : decode cX2_addJobsUntil 30 = .ok (.dup2, 1) := by decide +kernel
theorem dX2_addJobsUntil_31 : decode cX2_addJobsUntil 31 = .ok (.iaload, 1) := by decide +kernel
theorem dX2_addJobsUntil_32 : decode cX2_addJobsUntil 32 = .ok (.iconst 1, 1) := by decide +kernel
theorem dX2_addJobsUntil_33 : decode cX2_addJobsUntil 33 = .ok (.iadd, 1) := by decide +kernel
theorem dX2_addJobsUntil_34 : decode cX2_addJobsUntil 34 = .ok (.iastore, 1) := by decide +kernel
theorem dX2_addJobsUntil_35 : decode cX2_addJobsUntil 35 = .ok (.iinc 2 1, 3) := by decide +kernel
theorem dX2_addJobsUntil_38 : decode cX2_addJobsUntil 38 = .ok (.goto (-36), 3) := by decide +kernel
theorem dX2_addJobsUntil_41 : decode cX2_addJobsUntil 41 = .ok (.return_, 1) := by decide +kernel
theorem dX2_tightFirst_0 : decode cX2_tightFirst 0 = .ok (.iconst 0, 1) := by decide +kernel
theorem dX2_tightFirst_1 : decode cX2_tightFirst 1 = .ok (.istore_n 2, 1) := by decide +kernel
theorem dX2_tightFirst_2 : decode cX2_tightFirst 2 = .ok (.iload_n 1, 1) := by decide +kernel
theorem dX2_tightFirst_3 : decode cX2_tightFirst 3 = .ok (.istore_n 3, 1) := by decide +kernel
theorem dX2_tightFirst_4 : decode cX2_tightFirst 4 = .ok (.iload_n 3, 1) := by decide +kernel
theorem dX2_tightFirst_5 : decode cX2_tightFirst 5 = .ok (.ifCond .lt 31, 3) := by decide +kernel
theorem dX2_tightFirst_8 : decode cX2_tightFirst 8 = .ok (.iload_n 2, 1) := by decide +kernel
theorem dX2_tightFirst_9 : decode cX2_tightFirst 9 = .ok (.aload_n 0, 1) := by decide +kernel
theorem dX2_tightFirst_10 : decode cX2_tightFirst 10 = .ok (.getfield 24, 3) := by decide +kernel
theorem dX2_tightFirst_13 : decode cX2_tightFirst 13 = .ok (.iload_n 3, 1) := by decide +kernel
theorem dX2_tightFirst_14 : decode cX2_tightFirst 14 = .ok (.iaload, 1) := by decide +kernel
theorem dX2_tightFirst_15 : decode cX2_tightFirst 15 = .ok (.aload_n 0, 1) := by decide +kernel
theorem dX2_tightFirst_16 : decode cX2_tightFirst 16 = .ok (.getfield 21, 3) := by decide +kernel
theorem dX2_tightFirst_19 : decode cX2_tightFirst 19 = .ok (.iload_n 3, 1) := by decide +kernel
theorem dX2_tightFirst_20 : decode cX2_tightFirst 20 = .ok (.iaload, 1) := by decide +kernel
theorem dX2_tightFirst_21 : decode cX2_tightFirst 21 = .ok (.isub, 1) := by decide +kernel
theorem dX2_tightFirst_22 : decode cX2_tightFirst 22 = .ok (.iadd, 1) := by decide +kernel
theorem dX2_tightFirst_23 : decode cX2_tightFirst 23 = .ok (.istore_n 2, 1) := by decide +kernel
theorem dX2_tightFirst_24 : decode cX2_tightFirst 24 = .ok (.iload_n 2, 1) := by decide +kernel
theorem dX2_tightFirst_25 : decode cX2_tightFirst 25 = .ok (.ifCond .le 5, 3) := by decide +kernel
theorem dX2_tightFirst_28 : decode cX2_tightFirst 28 = .ok (.iload_n 3, 1) := by decide +kernel
theorem dX2_tightFirst_29 : decode cX2_tightFirst 29 = .ok (.ireturn, 1) := by decide +kernel
theorem dX2_tightFirst_30 : decode cX2_tightFirst 30 = .ok (.iinc 3 (-1), 3) := by decide +kernel
theorem dX2_tightFirst_33 : decode cX2_tightFirst 33 = .ok (.goto (-29), 3) := by decide +kernel
theorem dX2_tightFirst_36 : decode cX2_tightFirst 36 = .ok (.iconst (-1), 1) := by decide +kernel
theorem dX2_tightFirst_37 : decode cX2_tightFirst 37 = .ok (.ireturn, 1) := by decide +kernel
theorem dX3_init_0 : decode cX3_init 0 = .ok (.aload_n 0, 1) := by decide +kernel
theorem dX3_init_1 : decode cX3_init 1 = .ok (.invokespecial 3, 3) := by decide +kernel
theorem dX3_init_4 : decode cX3_init 4 = .ok (.aload_n 0, 1) := by decide +kernel
theorem dX3_init_5 : decode cX3_init 5 = .ok (.aload_n 1, 1) := by decide +kernel
theorem dX3_init_6 : decode cX3_init 6 = .ok (.putfield 9, 3) := by decide +kernel
theorem dX3_init_9 : decode cX3_init 9 = .ok (.aload_n 0, 1) := by decide +kernel
theorem dX3_init_10 : decode cX3_init 10 = .ok (.aload_n 1, 1) := by decide +kernel
theorem dX3_init_11 : decode cX3_init 11 = .ok (.getfield 15, 3) := by decide +kernel
theorem dX3_init_14 : decode cX3_init 14 = .ok (.putfield 21, 3) := by decide +kernel
theorem dX3_init_17 : decode cX3_init 17 = .ok (.aload_n 0, 1) := by decide +kernel
theorem dX3_init_18 : decode cX3_init 18 = .ok (.iload_n 2, 1) := by decide +kernel
theorem dX3_init_19 : decode cX3_init 19 = .ok (.putfield 22, 3) := by decide +kernel
theorem dX3_init_22 : decode cX3_init 22 = .ok (.aload_n 0, 1) := by decide +kernel
theorem dX3_init_23 : decode cX3_init 23 = .ok (.iload_n 3, 1) := by decide +kernel
theorem dX3_init_24 : decode cX3_init 24 = .ok (.putfield 25, 3) := by decide +kernel
theorem dX3_init_27 : decode cX3_init 27 = .ok (.aload_n 0, 1) := by decide +kernel
theorem dX3_init_28 : decode cX3_init 28 = .ok (.bipush 20, 2) := by decide +kernel
theorem dX3_init_30 : decode cX3_init 30 = .ok (.newarray .int, 2) := by decide +kernel
theorem dX3_init_32 : decode cX3_init 32 = .ok (.putfield 28, 3) := by decide +kernel
theorem dX3_init_35 : decode cX3_init 35 = .ok (.aload_n 0, 1) := by decide +kernel
theorem dX3_init_36 : decode cX3_init 36 = .ok (.iconst (-1), 1) := by decide +kernel
theorem dX3_init_37 : decode cX3_init 37 = .ok (.putfield 32, 3) := by decide +kernel
theorem dX3_init_40 : decode cX3_init 40 = .ok (.return_, 1) := by decide +kernel
theorem dX4_init_0 : decode cX4_init 0 = .ok (.aload_n 0, 1) := by decide +kernel
theorem dX4_init_1 : decode cX4_init 1 = .ok (.invokespecial 3, 3) := by decide +kernel
theorem dX4_init_4 : decode cX4_init 4 = .ok (.aload_n 0, 1) := by decide +kernel
theorem dX4_init_5 : decode cX4_init 5 = .ok (.bipush 100, 2) := by decide +kernel
theorem dX4_init_7 : decode cX4_init 7 = .ok (.anewarray 9, 3) := by decide +kernel
theorem dX4_init_10 : decode cX4_init 10 = .ok (.putfield 11, 3) := by decide +kernel
theorem dX4_init_13 : decode cX4_init 13 = .ok (.aload_n 0, 1) := by decide +kernel
theorem dX4_init_14 : decode cX4_init 14 = .ok (.bipush 20, 2) := by decide +kernel
theorem dX4_init_16 : decode cX4_init 16 = .ok (.newarray .int, 2) := by decide +kernel
theorem dX4_init_18 : decode cX4_init 18 = .ok (.putfield 17, 3) := by decide +kernel
theorem dX4_init_21 : decode cX4_init 21 = .ok (.aload_n 0, 1) := by decide +kernel
theorem dX4_init_22 : decode cX4_init 22 = .ok (.new 21, 3) := by decide +kernel
theorem dX4_init_25 : decode cX4_init 25 = .ok (.dup, 1) := by decide +kernel
theorem dX4_init_26 : decode cX4_init 26 = .ok (.invokespecial 23, 3) := by decide +kernel
theorem dX4_init_29 : decode cX4_init 29 = .ok (.putfield 24, 3) := by decide +kernel
theorem dX4_init_32 : decode cX4_init 32 = .ok (.aload_n 0, 1) := by decide +kernel
theorem dX4_init_33 : decode cX4_init 33 = .ok (.new 28, 3) := by decide +kernel
theorem dX4_init_36 : decode cX4_init 36 = .ok (.dup, 1) := by decide +kernel
theorem dX4_init_37 : decode cX4_init 37 = .ok (.invokespecial 30, 3) := by decide +kernel
theorem dX4_init_40 : decode cX4_init 40 = .ok (.putfield 31, 3) := by decide +kernel
theorem dX4_init_43 : decode cX4_init 43 = .ok (.return_, 1) := by decide +kernel
