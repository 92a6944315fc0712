theorem dX7_dryOfMember_0 : decode cX7_dryOfMember 0 = .ok (.iconst 0, 1) := by decide +kernel
theorem dX7_dryOfMember_1 : decode cX7_dryOfMember 1 = .ok (.istore_n 2, 1) := by decide +kernel
theorem dX7_dryOfMember_2 : decode cX7_dryOfMember 2 = .ok (.iload_n 1, 1) := by decide +kernel
theorem dX7_dryOfMember_3 : decode cX7_dryOfMember 3 = .ok (.istore_n 3, 1) := by decide +kernel
theorem dX7_dryOfMember_4 : decode cX7_dryOfMember 4 = .ok (.iload_n 3, 1) := by decide +kernel
theorem dX7_dryOfMember_5 : decode cX7_dryOfMember 5 = .ok (.bipush 60, 2) := by decide +kernel
theorem dX7_dryOfMember_7 : decode cX7_dryOfMember 7 = .ok (.if_icmp .ge 18, 3) := by decide +kernel
theorem dX7_dryOfMember_10 : decode cX7_dryOfMember 10 = .ok (.iload_n 2, 1) := by decide +kernel
theorem dX7_dryOfMember_11 : decode cX7_dryOfMember 11 = .ok (.aload_n 0, 1) := by decide +kernel
theorem dX7_dryOfMember_12 : decode cX7_dryOfMember 12 = .ok (.getfield 15, 3) := by decide +kernel
theorem dX7_dryOfMember_15 : decode cX7_dryOfMember 15 = .ok (.iload_n 3, 1) := by decide +kernel
theorem dX7_dryOfMember_16 : decode cX7_dryOfMember 16 = .ok (.iaload, 1) := by decide +kernel
theorem dX7_dryOfMember_17 : decode cX7_dryOfMember 17 = .ok (.iadd, 1) := by decide +kernel
theorem dX7_dryOfMember_18 : decode cX7_dryOfMember 18 = .ok (.istore_n 2, 1) := by decide +kernel
theorem dX7_dryOfMember_19 : decode cX7_dryOfMember 19 = .ok (.iinc 3 20, 3) := by decide +kernel
theorem dX7_dryOfMember_22 : decode cX7_dryOfMember 22 = .ok (.goto (-18), 3) := by decide +kernel
theorem dX7_dryOfMember_25 : decode cX7_dryOfMember 25 = .ok (.iload_n 2, 1) := by decide +kernel
theorem dX7_dryOfMember_26 : decode cX7_dryOfMember 26 = .ok (.ireturn, 1) := by decide +kernel
theorem dX7_plotsOfMember_0 : decode cX7_plotsOfMember 0 = .ok (.iconst 0, 1) := by decide +kernel
theorem dX7_plotsOfMember_1 : decode cX7_plotsOfMember 1 = .ok (.istore_n 2, 1) := by decide +kernel
theorem dX7_plotsOfMember_2 : decode cX7_plotsOfMember 2 = .ok (.iload_n 1, 1) := by decide +kernel
theorem dX7_plotsOfMember_3 : decode cX7_plotsOfMember 3 = .ok (.istore_n 3, 1) := by decide +kernel
theorem dX7_plotsOfMember_4 : decode cX7_plotsOfMember 4 = .ok (.iload_n 3, 1) := by decide +kernel
theorem dX7_plotsOfMember_5 : decode cX7_plotsOfMember 5 = .ok (.bipush 60, 2) := by decide +kernel
theorem dX7_plotsOfMember_7 : decode cX7_plotsOfMember 7 = .ok (.if_icmp .ge 26, 3) := by decide +kernel
theorem dX7_plotsOfMember_10 : decode cX7_plotsOfMember 10 = .ok (.iload_n 2, 1) := by decide +kernel
theorem dX7_plotsOfMember_11 : decode cX7_plotsOfMember 11 = .ok (.aload_n 0, 1) := by decide +kernel
theorem dX7_plotsOfMember_12 : decode cX7_plotsOfMember 12 = .ok (.getfield 15, 3) := by decide +kernel
theorem dX7_plotsOfMember_15 : decode cX7_plotsOfMember 15 = .ok (.iload_n 3, 1) := by decide +kernel
theorem dX7_plotsOfMember_16 : decode cX7_plotsOfMember 16 = .ok (.iaload, 1) := by decide +kernel
theorem dX7_plotsOfMember_17 : decode cX7_plotsOfMember 17 = .ok (.ifCond .le 7, 3) := by decide +kernel
theorem dX7_plotsOfMember_20 : decode cX7_plotsOfMember 20 = .ok (.iconst 1, 1) := by decide +kernel
theorem dX7_plotsOfMember_21 : decode cX7_plotsOfMember 21 = .ok (.goto 4, 3) := by decide +kernel
theorem dX7_plotsOfMember_24 : decode cX7_plotsOfMember 24 = .ok (.iconst 0, 1) := by decide +kernel
theorem dX7_plotsOfMember_25 : decode cX7_plotsOfMember 25 = .ok (.iadd, 1) := by decide +kernel
theorem dX7_plotsOfMember_26 : decode cX7_plotsOfMember 26 = .ok (.istore_n 2, 1) := by decide +kernel
theorem dX7_plotsOfMember_27 : decode cX7_plotsOfMember 27 = .ok (.iinc 3 20, 3) := by decide +kernel
theorem dX7_plotsOfMember_30 : decode cX7_plotsOfMember 30 = .ok (.goto (-26), 3) := by decide +kernel
theorem dX7_plotsOfMember_33 : decode cX7_plotsOfMember 33 = .ok (.iload_n 2, 1) := by decide +kernel
theorem dX7_plotsOfMember_34 : decode cX7_plotsOfMember 34 = .ok (.ireturn, 1) := by decide +kernel
theorem dX7_plotsInAll_0 : decode cX7_plotsInAll 0 = .ok (.iconst 0, 1) := by decide +kernel
theorem dX7_plotsInAll_1 : decode cX7_plotsInAll 1 = .ok (.istore_n 1, 1) := by decide +kernel
theorem dX7_plotsInAll_2 : decode cX7_plotsInAll 2 = .ok (.iconst 0, 1) := by decide +kernel
theorem dX7_plotsInAll_3 : decode cX7_plotsInAll 3 = .ok (.istore_n 2, 1) := by decide +kernel
theorem dX7_plotsInAll_4 : decode cX7_plotsInAll 4 = .ok (.iload_n 2, 1) := by decide +kernel
theorem dX7_plotsInAll_5 : decode cX7_plotsInAll 5 = .ok (.bipush 60, 2) := by decide +kernel
theorem dX7_plotsInAll_7 : decode cX7_plotsInAll 7 = .ok (.if_icmp .ge 26, 3) := by decide +kernel
theorem dX7_plotsInAll_10 : decode cX7_plotsInAll 10 = .ok (.iload_n 1, 1) := by decide +kernel
theorem dX7_plotsInAll_11 : decode cX7_plotsInAll 11 = .ok (.aload_n 0, 1) := by decide +kernel
theorem dX7_plotsInAll_12 : decode cX7_plotsInAll 12 = .ok (.getfield 15, 3) := by decide +kernel
theorem dX7_plotsInAll_15 : decode cX7_plotsInAll 15 = .ok (.iload_n 2, 1) := by decide +kernel
theorem dX7_plotsInAll_16 : decode cX7_plotsInAll 16 = .ok (.iaload, 1) := by decide +kernel
theorem dX7_plotsInAll_17 : decode cX7_plotsInAll 17 = .ok (.ifCond .le 7, 3) := by decide +kernel
theorem dX7_plotsInAll_20 : decode cX7_plotsInAll 20 = .ok (.iconst 1, 1) := by decide +kernel
theorem dX7_plotsInAll_21 : decode cX7_plotsInAll 21 = .ok (.goto 4, 3) := by decide +kernel
theorem dX7_plotsInAll_24 : decode cX7_plotsInAll 24 = .ok (.iconst 0, 1) := by decide +kernel
theorem dX7_plotsInAll_25 : decode cX7_plotsInAll 25 = .ok (.iadd, 1) := by decide +kernel
theorem dX7_plotsInAll_26 : decode cX7_plotsInAll 26 = .ok (.istore_n 1, 1) := by decide +kernel
theorem dX7_plotsInAll_27 : decode cX7_plotsInAll 27 = .ok (.iinc 2 1, 3) := by decide +kernel
theorem dX7_plotsInAll_30 : decode cX7_plotsInAll 30 = .ok (.goto (-26), 3) := by decide +kernel
theorem dX7_plotsInAll_33 : decode cX7_plotsInAll 33 = .ok (.iload_n 1, 1) := by decide +kernel
theorem dX7_plotsInAll_34 : decode cX7_plotsInAll 34 = .ok (.ireturn, 1) := by decide +kernel
theorem dX7_tell_0 : decode cX7_tell 0 = .ok (.iload_n 1, 1) := by decide +kernel
theorem dX7_tell_1 : decode cX7_tell 1 = .ok (.tableswitch 104 0 8 #[51, 56, 61, 66, 71, 76, 81, 94, 99], 51) := by decide +kernel
theorem dX7_tell_52 : decode cX7_tell 52 = .ok (.aload_n 0, 1) := by decide +kernel
theorem dX7_tell_53 : decode cX7_tell 53 = .ok (.getfield 9, 3) := by decide +kernel
theorem dX7_tell_56 : decode cX7_tell 56 = .ok (.ireturn, 1) := by decide +kernel
theorem dX7_tell_57 : decode cX7_tell 57 = .ok (.aload_n 0, 1) := by decide +kernel
theorem dX7_tell_58 : decode cX7_tell 58 = .ok (.invokevirtual 25, 3) := by decide +kernel
theorem dX7_tell_61 : decode cX7_tell 61 = .ok (.ireturn, 1) := by decide +kernel
theorem dX7_tell_62 : decode cX7_tell 62 = .ok (.aload_n 0, 1) := by decide +kernel
theorem dX7_tell_63 : decode cX7_tell 63 = .ok (.getfield 19, 3) := by decide +kernel
theorem dX7_tell_66 : decode cX7_tell 66 = .ok (.ireturn, 1) := by decide +kernel
theorem dX7_tell_67 : decode cX7_tell 67 = .ok (.aload_n 0, 1) := by decide +kernel
theorem dX7_tell_68 : decode cX7_tell 68 = .ok (.getfield 22, 3) := by decide +kernel
theorem dX7_tell_71 : decode cX7_tell 71 = .ok (.ireturn, 1) := by decide +kernel
theorem dX7_tell_72 : decode cX7_tell 72 = .ok (.aload_n 0, 1) := by decide +kernel
theorem dX7_tell_73 : decode cX7_tell 73 = .ok (.invokevirtual 31, 3) := by decide +kernel
theorem dX7_tell_76 : decode cX7_tell 76 = .ok (.ireturn, 1) := by decide +kernel
theorem dX7_tell_77 : decode cX7_tell 77 = .ok (.aload_n 0, 1) := by decide +kernel
theorem dX7_tell_78 : decode cX7_tell 78 = .ok (.getfield 37, 3) := by decide +kernel
theorem dX7_tell_81 : decode cX7_tell 81 = .ok (.ireturn, 1) := by decide +kernel
theorem dX7_tell_82 : decode cX7_tell 82 = .ok (.aload_n 0, 1) := by decide +kernel
theorem dX7_tell_83 : decode cX7_tell 83 = .ok (.getfield 50, 3) := by decide +kernel
theorem dX7_tell_86 : decode cX7_tell 86 = .ok (.ifCond .eq 7, 3) := by decide +kernel
theorem dX7_tell_89 : decode cX7_tell 89 = .ok (.iconst 1, 1) := by decide +kernel
theorem dX7_tell_90 : decode cX7_tell 90 = .ok (.goto 4, 3) := by decide +kernel
theorem dX7_tell_93 : decode cX7_tell 93 = .ok (.iconst 0, 1) := by decide +kernel
theorem dX7_tell_94 : decode cX7_tell 94 = .ok (.ireturn, 1) := by decide +kernel
theorem dX7_tell_95 : decode cX7_tell 95 = .ok (.aload_n 0, 1) := by decide +kernel
theorem dX7_tell_96 : decode cX7_tell 96 = .ok (.getfield 71, 3) := by decide +kernel
theorem dX7_tell_99 : decode cX7_tell 99 = .ok (.ireturn, 1) := by decide +kernel
theorem dX7_tell_100 : decode cX7_tell 100 = .ok (.aload_n 0, 1) := by decide +kernel
theorem dX7_tell_101 : decode cX7_tell 101 = .ok (.invokevirtual 74, 3) := by decide +kernel
theorem dX7_tell_104 : decode cX7_tell 104 = .ok (.ireturn, 1) := by decide +kernel
theorem dX7_tell_105 : decode cX7_tell 105 = .ok (.iconst (-1), 1) := by decide +kernel
theorem dX7_tell_106 : decode cX7_tell 106 = .ok (.ireturn, 1) := by decide +kernel
theorem dX8_init_0 : decode cX8_init 0 = .ok (.aload_n 0, 1) := by decide +kernel
theorem dX8_init_1 : decode cX8_init 1 = .ok (.invokespecial 1, 3) := by decide +kernel
theorem dX8_init_4 : decode cX8_init 4 = .ok (.aload_n 0, 1) := by decide +kernel
theorem dX8_init_5 : decode cX8_init 5 = .ok (.iload_n 1, 1) := by decide +kernel
theorem dX8_init_6 : decode cX8_init 6 = .ok (.putfield 7, 3) := by decide +kernel
theorem dX8_init_9 : decode cX8_init 9 = .ok (.aload_n 0, 1) := by decide +kernel
theorem dX8_init_10 : decode cX8_init 10 = .ok (.aload_n 2, 1) := by decide +kernel
theorem dX8_init_11 : decode cX8_init 11 = .ok (.putfield 13, 3) := by decide +kernel
theorem dX8_init_14 : decode cX8_init 14 = .ok (.return_, 1) := by decide +kernel
theorem dX9_init_0 : decode cX9_init 0 = .ok (.aload_n 0, 1) := by decide +kernel
theorem dX9_init_1 : decode cX9_init 1 = .ok (.invokespecial 3, 3) := by decide +kernel
theorem dX9_init_4 : decode cX9_init 4 = .ok (.aload_n 0, 1) := by decide +kernel
theorem dX9_init_5 : decode cX9_init 5 = .ok (.bipush 50, 2) := by decide +kernel
theorem dX9_init_7 : decode cX9_init 7 = .ok (.anewarray 9, 3) := by decide +kernel
theorem dX9_init_10 : decode cX9_init 10 = .ok (.putfield 11, 3) := by decide +kernel
theorem dX9_init_13 : decode cX9_init 13 = .ok (.aload_n 0, 1) := by decide +kernel
theorem dX9_init_14 : decode cX9_init 14 = .ok (.new 17, 3) := by decide +kernel
theorem dX9_init_17 : decode cX9_init 17 = .ok (.dup, 1) := by decide +kernel
theorem dX9_init_18 : decode cX9_init 18 = .ok (.invokespecial 19, 3) := by decide +kernel
theorem dX9_init_21 : decode cX9_init 21 = .ok (.putfield 20, 3) := by decide +kernel
theorem dX9_init_24 : decode cX9_init 24 = .ok (.return_, 1) := by decide +kernel
theorem dX9_at_0 : decode cX9_at 0 = .ok (.iload_n 1, 1) := by decide +kernel
theorem dX9_at_1 : decode cX9_at 1 = .ok (.ifCond .lt 20, 3) := by decide +kernel
theorem dX9_at_4 : decode cX9_at 4 = .ok (.iload_n 1, 1) := by decide +kernel
theorem dX9_at_5 : decode cX9_at 5 = .ok (.aload_n 0, 1) := by decide +kernel
theorem dX9_at_6 : decode cX9_at 6 = .ok (.getfield 24, 3) := by decide +kernel
theorem dX9_at_9 : decode cX9_at 9 = .ok (.if_icmp .ge 12, 3) := by decide +kernel
theorem dX9_at_12 : decode cX9_at 12 = .ok (.aload_n 0, 1) := by decide +kernel
theorem dX9_at_13 : decode cX9_at 13 = .ok (.getfield 11, 3) := by decide +kernel
theorem dX9_at_16 : decode cX9_at 16 = .ok (.iload_n 1, 1) := by decide +kernel
theorem dX9_at_17 : decode cX9_at 17 = .ok (.aaload, 1) := by decide +kernel
theorem dX9_at_18 : decode cX9_at 18 = .ok (.goto 4, 3) := by decide +kernel
theorem dX9_at_21 : decode cX9_at 21 = .ok (.aconst_null, 1) := by decide +kernel
theorem dX9_at_22 : decode cX9_at 22 = .ok (.areturn, 1) := by decide +kernel
theorem dX9_add_0 : decode cX9_add 0 = .ok (.aload_n 0, 1) := by decide +kernel
theorem dX9_add_1 : decode cX9_add 1 = .ok (.getfield 24, 3) := by decide +kernel
theorem dX9_add_4 : decode cX9_add 4 = .ok (.aload_n 0, 1) := by decide +kernel
theorem dX9_add_5 : decode cX9_add 5 = .ok (.getfield 11, 3) := by decide +kernel
theorem dX9_add_8 : decode cX9_add 8 = .ok (.arraylength, 1) := by decide +kernel
theorem dX9_add_9 : decode cX9_add 9 = .ok (.if_icmp .lt 5, 3) := by decide +kernel
theorem dX9_add_12 : decode cX9_add 12 = .ok (.iconst (-1), 1) := by decide +kernel
theorem dX9_add_13 : decode cX9_add 13 = .ok (.ireturn, 1) := by decide +kernel
theorem dX9_add_14 : decode cX9_add 14 = .ok (.aload_n 0, 1) := by decide +kernel
theorem dX9_add_15 : decode cX9_add 15 = .ok (.getfield 11, 3) := by decide +kernel
theorem dX9_add_18 : decode cX9_add 18 = .ok (.aload_n 0, 1) := by decide +kernel
theorem dX9_add_19 : decode cX9_add 19 = .ok (.getfield 24, 3) := by decide +kernel
theorem dX9_add_22 : decode cX9_add 22 = .ok (.new 9, 3) := by decide +kernel
theorem dX9_add_25 : decode cX9_add 25 = .ok (.dup, 1) := by decide +kernel
theorem dX9_add_26 : decode cX9_add 26 = .ok (.iload_n 1, 1) := by decide +kernel
theorem dX9_add_27 : decode cX9_add 27 = .ok (.aload_n 2, 1) := by decide +kernel
theorem dX9_add_28 : decode cX9_add 28 = .ok (.invokevirtual 28, 3) := by decide +kernel
theorem dX9_add_31 : decode cX9_add 31 = .ok (.invokespecial 34, 3) := by decide +kernel
theorem dX9_add_34 : decode cX9_add 34 = .ok (.aastore, 1) := by decide +kernel
theorem dX9_add_35 : decode cX9_add 35 = .ok (.aload_n 0, 1) := by decide +kernel
theorem dX9_add_36 : decode cX9_add 36 = .ok (.dup, 1) := by decide +kernel
theorem dX9_add_37 : decode cX9_add 37 = .ok (.getfield 24, 3) := by decide +kernel
theorem dX9_add_40 : decode cX9_add 40 = .ok (.dup_x1, 1) := by decide +kernel
theorem dX9_add_41 : decode cX9_add 41 = .ok (.iconst 1, 1) := by decide +kernel
theorem dX9_add_42 : decode cX9_add 42 = .ok (.iadd, 1) := by decide +kernel
theorem dX9_add_43 : decode cX9_add 43 = .ok (.putfield 24, 3) := by decide +kernel
theorem dX9_add_46 : decode cX9_add 46 = .ok (.ireturn, 1) := by decide +kernel
theorem dX9_inForce_0 : decode cX9_inForce 0 = .ok (.aload_n 0, 1) := by decide +kernel
theorem dX9_inForce_1 : decode cX9_inForce 1 = .ok (.getfield 24, 3) := by decide +kernel
theorem dX9_inForce_4 : decode cX9_inForce 4 = .ok (.iconst 1, 1) := by decide +kernel
theorem dX9_inForce_5 : decode cX9_inForce 5 = .ok (.isub, 1) := by decide +kernel
theorem dX9_inForce_6 : decode cX9_inForce 6 = .ok (.istore_n 2, 1) := by decide +kernel
theorem dX9_inForce_7 : decode cX9_inForce 7 = .ok (.iload_n 2, 1) := by decide +kernel
theorem dX9_inForce_8 : decode cX9_inForce 8 = .ok (.ifCond .lt 36, 3) := by decide +kernel
theorem dX9_inForce_11 : decode cX9_inForce 11 = .ok (.aload_n 0, 1) := by decide +kernel
theorem dX9_inForce_12 : decode cX9_inForce 12 = .ok (.getfield 11, 3) := by decide +kernel
theorem dX9_inForce_15 : decode cX9_inForce 15 = .ok (.iload_n 2, 1) := by decide +kernel
theorem dX9_inForce_16 : decode cX9_inForce 16 = .ok (.aaload, 1) := by decide +kernel
theorem dX9_inForce_17 : decode cX9_inForce 17 = .ok (.getfield 37, 3) := by decide +kernel
theorem dX9_inForce_20 : decode cX9_inForce 20 = .ok (.ifCond .ne 18, 3) := by decide +kernel
theorem dX9_inForce_23 : decode cX9_inForce 23 = .ok (.aload_n 0, 1) := by decide +kernel
theorem dX9_inForce_24 : decode cX9_inForce 24 = .ok (.getfield 11, 3) := by decide +kernel
theorem dX9_inForce_27 : decode cX9_inForce 27 = .ok (.iload_n 2, 1) := by decide +kernel
theorem dX9_inForce_28 : decode cX9_inForce 28 = .ok (.aaload, 1) := by decide +kernel
theorem dX9_inForce_29 : decode cX9_inForce 29 = .ok (.getfield 41, 3) := by decide +kernel
theorem dX9_inForce_32 : decode cX9_inForce 32 = .ok (.iload_n 1, 1) := by decide +kernel
theorem dX9_inForce_33 : decode cX9_inForce 33 = .ok (.if_icmp .gt 5, 3) := by decide +kernel
theorem dX9_inForce_36 : decode cX9_inForce 36 = .ok (.iload_n 2, 1) := by decide +kernel
theorem dX9_inForce_37 : decode cX9_inForce 37 = .ok (.ireturn, 1) := by decide +kernel
theorem dX9_inForce_38 : decode cX9_inForce 38 = .ok (.iinc 2 (-1), 3) := by decide +kernel
theorem dX9_inForce_41 : decode cX9_inForce 41 = .ok (.goto (-34), 3) := by decide +kernel
theorem dX9_inForce_44 : decode cX9_inForce 44 = .ok (.iconst (-1), 1) := by decide +kernel
theorem dX9_inForce_45 : decode cX9_inForce 45 = .ok (.ireturn, 1) := by decide +kernel
theorem dX9_tellOf_0 : decode cX9_tellOf 0 = .ok (.aload_n 0, 1) := by decide +kernel
theorem dX9_tellOf_1 : decode cX9_tellOf 1 = .ok (.iload_n 1, 1) := by decide +kernel
theorem dX9_tellOf_2 : decode cX9_tellOf 2 = .ok (.invokevirtual 44, 3) := by decide +kernel
theorem dX9_tellOf_5 : decode cX9_tellOf 5 = .ok (.astore 5, 2) := by decide +kernel
theorem dX9_tellOf_7 : decode cX9_tellOf 7 = .ok (.aload_n 2, 1) := by decide +kernel
theorem dX9_tellOf_8 : decode cX9_tellOf 8 = .ok (.iload 4, 2) := by decide +kernel
theorem dX9_tellOf_10 : decode cX9_tellOf 10 = .ok (.invokevirtual 48, 3) := by decide +kernel
theorem dX9_tellOf_13 : decode cX9_tellOf 13 = .ok (.istore 6, 2) := by decide +kernel
theorem dX9_tellOf_15 : decode cX9_tellOf 15 = .ok (.aload 5, 2) := by decide +kernel
theorem dX9_tellOf_17 : decode cX9_tellOf 17 = .ok (.ifnonnull 8, 3) := by decide +kernel
theorem dX9_tellOf_20 : decode cX9_tellOf 20 = .ok (.iload 6, 2) := by decide +kernel
theorem dX9_tellOf_22 : decode cX9_tellOf 22 = .ok (.goto 25, 3) := by decide +kernel
theorem dX9_tellOf_25 : decode cX9_tellOf 25 = .ok (.aload_n 0, 1) := by decide +kernel
theorem dX9_tellOf_26 : decode cX9_tellOf 26 = .ok (.getfield 20, 3) := by decide +kernel
theorem dX9_tellOf_29 : decode cX9_tellOf 29 = .ok (.aload 5, 2) := by decide +kernel
theorem dX9_tellOf_31 : decode cX9_tellOf 31 = .ok (.getfield 54, 3) := by decide +kernel
theorem dX9_tellOf_34 : decode cX9_tellOf 34 = .ok (.iload 6, 2) := by decide +kernel
theorem dX9_tellOf_36 : decode cX9_tellOf 36 = .ok (.iload_n 3, 1) := by decide +kernel
theorem dX9_tellOf_37 : decode cX9_tellOf 37 = .ok (.aload_n 2, 1) := by decide +kernel
theorem dX9_tellOf_38 : decode cX9_tellOf 38 = .ok (.iload 4, 2) := by decide +kernel
theorem dX9_tellOf_40 : decode cX9_tellOf 40 = .ok (.invokevirtual 58, 3) := by decide +kernel
theorem dX9_tellOf_43 : decode cX9_tellOf 43 = .ok (.invokevirtual 61, 3) := by decide +kernel
theorem dX9_tellOf_46 : decode cX9_tellOf 46 = .ok (.l2i, 1) := by decide +kernel
theorem dX9_tellOf_47 : decode cX9_tellOf 47 = .ok (.ireturn, 1) := by decide +kernel
theorem dX10_init_0 : decode cX10_init 0 = .ok (.aload_n 0, 1) := by decide +kernel
theorem dX10_init_1 : decode cX10_init 1 = .ok (.invokespecial 1, 3) := by decide +kernel
theorem dX10_init_4 : decode cX10_init 4 = .ok (.aload_n 0, 1) := by decide +kernel
theorem dX10_init_5 : decode cX10_init 5 = .ok (.bipush 100, 2) := by decide +kernel
theorem dX10_init_7 : decode cX10_init 7 = .ok (.anewarray 9, 3) := by decide +kernel
theorem dX10_init_10 : decode cX10_init 10 = .ok (.putfield 11, 3) := by decide +kernel
theorem dX10_init_13 : decode cX10_init 13 = .ok (.aload_n 0, 1) := by decide +kernel
theorem dX10_init_14 : decode cX10_init 14 = .ok (.new 15, 3) := by decide +kernel
theorem dX10_init_17 : decode cX10_init 17 = .ok (.dup, 1) := by decide +kernel
theorem dX10_init_18 : decode cX10_init 18 = .ok (.invokespecial 17, 3) := by decide +kernel
theorem dX10_init_21 : decode cX10_init 21 = .ok (.putfield 18, 3) := by decide +kernel
theorem dX10_init_24 : decode cX10_init 24 = .ok (.aload_n 0, 1) := by decide +kernel
theorem dX10_init_25 : decode cX10_init 25 = .ok (.new 22, 3) := by decide +kernel
theorem dX10_init_28 : decode cX10_init 28 = .ok (.dup, 1) := by decide +kernel
theorem dX10_init_29 : decode cX10_init 29 = .ok (.sipush 200, 3) := by decide +kernel
theorem dX10_init_32 : decode cX10_init 32 = .ok (.invokespecial 24, 3) := by decide +kernel
theorem dX10_init_35 : decode cX10_init 35 = .ok (.putfield 27, 3) := by decide +kernel
theorem dX10_init_38 : decode cX10_init 38 = .ok (.aload_n 0, 1) := by decide +kernel
theorem dX10_init_39 : decode cX10_init 39 = .ok (.new 31, 3) := by decide +kernel
theorem dX10_init_42 : decode cX10_init 42 = .ok (.dup, 1) := by decide +kernel
theorem dX10_init_43 : decode cX10_init 43 = .ok (.invokespecial 33, 3) := by decide +kernel
theorem dX10_init_46 : decode cX10_init 46 = .ok (.putfield 34, 3) := by decide +kernel
theorem dX10_init_49 : decode cX10_init 49 = .ok (.aload_n 0, 1) := by decide +kernel
theorem dX10_init_50 : decode cX10_init 50 = .ok (.new 38, 3) := by decide +kernel
theorem dX10_init_53 : decode cX10_init 53 = .ok (.dup, 1) := by decide +kernel
theorem dX10_init_54 : decode cX10_init 54 = .ok (.invokespecial 40, 3) := by decide +kernel
theorem dX10_init_57 : decode cX10_init 57 = .ok (.putfield 41, 3) := by decide +kernel
theorem dX10_init_60 : decode cX10_init 60 = .ok (.aload_n 0, 1) := by decide +kernel
theorem dX10_init_61 : decode cX10_init 61 = .ok (.new 45, 3) := by decide +kernel
theorem dX10_init_64 : decode cX10_init 64 = .ok (.dup, 1) := by decide +kernel
theorem dX10_init_65 : decode cX10_init 65 = .ok (.invokespecial 47, 3) := by decide +kernel
theorem dX10_init_68 : decode cX10_init 68 = .ok (.putfield 48, 3) := by decide +kernel
theorem dX10_init_71 : decode cX10_init 71 = .ok (.return_, 1) := by decide +kernel
