theorem dX11_expression_0 : decode cX11_expression 0 = .ok (.aload_n 0, 1) := by decide +kernel
theorem dX11_expression_1 : decode cX11_expression 1 = .ok (.invokevirtual 201, 3) := by decide +kernel
theorem dX11_expression_4 : decode cX11_expression 4 = .ok (.aload_n 0, 1) := by decide +kernel
theorem dX11_expression_5 : decode cX11_expression 5 = .ok (.getfield 172, 3) := by decide +kernel
theorem dX11_expression_8 : decode cX11_expression 8 = .ok (.iconst (-1), 1) := by decide +kernel
theorem dX11_expression_9 : decode cX11_expression 9 = .ok (.if_icmp .ne 63, 3) := by decide +kernel
theorem dX11_expression_12 : decode cX11_expression 12 = .ok (.aload_n 0, 1) := by decide +kernel
theorem dX11_expression_13 : decode cX11_expression 13 = .ok (.invokevirtual 178, 3) := by decide +kernel
theorem dX11_expression_16 : decode cX11_expression 16 = .ok (.bipush 43, 2) := by decide +kernel
theorem dX11_expression_18 : decode cX11_expression 18 = .ok (.if_icmp .eq 12, 3) := by decide +kernel
theorem dX11_expression_21 : decode cX11_expression 21 = .ok (.aload_n 0, 1) := by decide +kernel
theorem dX11_expression_22 : decode cX11_expression 22 = .ok (.invokevirtual 178, 3) := by decide +kernel
theorem dX11_expression_25 : decode cX11_expression 25 = .ok (.bipush 45, 2) := by decide +kernel
theorem dX11_expression_27 : decode cX11_expression 27 = .ok (.if_icmp .ne 45, 3) := by decide +kernel
theorem dX11_expression_30 : decode cX11_expression 30 = .ok (.aload_n 0, 1) := by decide +kernel
theorem dX11_expression_31 : decode cX11_expression 31 = .ok (.getfield 42, 3) := by decide +kernel
theorem dX11_expression_34 : decode cX11_expression 34 = .ok (.aload_n 0, 1) := by decide +kernel
theorem dX11_expression_35 : decode cX11_expression 35 = .ok (.getfield 169, 3) := by decide +kernel
theorem dX11_expression_38 : decode cX11_expression 38 = .ok (.iaload, 1) := by decide +kernel
theorem dX11_expression_39 : decode cX11_expression 39 = .ok (.istore_n 1, 1) := by decide +kernel
theorem dX11_expression_40 : decode cX11_expression 40 = .ok (.aload_n 0, 1) := by decide +kernel
theorem dX11_expression_41 : decode cX11_expression 41 = .ok (.dup, 1) := by decide +kernel
theorem dX11_expression_42 : decode cX11_expression 42 = .ok (.getfield 169, 3) := by decide +kernel
theorem dX11_expression_45 : decode cX11_expression 45 = .ok (.iconst 1, 1) := by decide +kernel
theorem dX11_expression_46 : decode cX11_expression 46 = .ok (.iadd, 1) := by decide +kernel
theorem dX11_expression_47 : decode cX11_expression 47 = .ok (.putfield 169, 3) := by decide +kernel
theorem dX11_expression_50 : decode cX11_expression 50 = .ok (.aload_n 0, 1) := by decide +kernel
theorem dX11_expression_51 : decode cX11_expression 51 = .ok (.invokevirtual 201, 3) := by decide +kernel
theorem dX11_expression_54 : decode cX11_expression 54 = .ok (.aload_n 0, 1) := by decide +kernel
theorem dX11_expression_55 : decode cX11_expression 55 = .ok (.iload_n 1, 1) := by decide +kernel
theorem dX11_expression_56 : decode cX11_expression 56 = .ok (.bipush 43, 2) := by decide +kernel
theorem dX11_expression_58 : decode cX11_expression 58 = .ok (.if_icmp .ne 7, 3) := by decide +kernel
theorem dX11_expression_61 : decode cX11_expression 61 = .ok (.iconst 4, 1) := by decide +kernel
theorem dX11_expression_62 : decode cX11_expression 62 = .ok (.goto 4, 3) := by decide +kernel
theorem dX11_expression_65 : decode cX11_expression 65 = .ok (.iconst 5, 1) := by decide +kernel
theorem dX11_expression_66 : decode cX11_expression 66 = .ok (.invokevirtual 185, 3) := by decide +kernel
theorem dX11_expression_69 : decode cX11_expression 69 = .ok (.goto (-65), 3) := by decide +kernel
theorem dX11_expression_72 : decode cX11_expression 72 = .ok (.return_, 1) := by decide +kernel
theorem dX11_fault_0 : decode cX11_fault 0 = .ok (.aload_n 0, 1) := by decide +kernel
theorem dX11_fault_1 : decode cX11_fault 1 = .ok (.iconst 0, 1) := by decide +kernel
theorem dX11_fault_2 : decode cX11_fault 2 = .ok (.putfield 169, 3) := by decide +kernel
theorem dX11_fault_5 : decode cX11_fault 5 = .ok (.aload_n 0, 1) := by decide +kernel
theorem dX11_fault_6 : decode cX11_fault 6 = .ok (.iconst (-1), 1) := by decide +kernel
theorem dX11_fault_7 : decode cX11_fault 7 = .ok (.putfield 172, 3) := by decide +kernel
theorem dX11_fault_10 : decode cX11_fault 10 = .ok (.aload_n 0, 1) := by decide +kernel
theorem dX11_fault_11 : decode cX11_fault 11 = .ok (.iconst 0, 1) := by decide +kernel
theorem dX11_fault_12 : decode cX11_fault 12 = .ok (.putfield 189, 3) := by decide +kernel
theorem dX11_fault_15 : decode cX11_fault 15 = .ok (.aload_n 0, 1) := by decide +kernel
theorem dX11_fault_16 : decode cX11_fault 16 = .ok (.iconst 0, 1) := by decide +kernel
theorem dX11_fault_17 : decode cX11_fault 17 = .ok (.putfield 175, 3) := by decide +kernel
theorem dX11_fault_20 : decode cX11_fault 20 = .ok (.aload_n 0, 1) := by decide +kernel
theorem dX11_fault_21 : decode cX11_fault 21 = .ok (.invokevirtual 192, 3) := by decide +kernel
theorem dX11_fault_24 : decode cX11_fault 24 = .ok (.aload_n 0, 1) := by decide +kernel
theorem dX11_fault_25 : decode cX11_fault 25 = .ok (.getfield 172, 3) := by decide +kernel
theorem dX11_fault_28 : decode cX11_fault 28 = .ok (.iconst (-1), 1) := by decide +kernel
theorem dX11_fault_29 : decode cX11_fault 29 = .ok (.if_icmp .ne 15, 3) := by decide +kernel
theorem dX11_fault_32 : decode cX11_fault 32 = .ok (.aload_n 0, 1) := by decide +kernel
theorem dX11_fault_33 : decode cX11_fault 33 = .ok (.invokevirtual 178, 3) := by decide +kernel
theorem dX11_fault_36 : decode cX11_fault 36 = .ok (.iconst (-1), 1) := by decide +kernel
theorem dX11_fault_37 : decode cX11_fault 37 = .ok (.if_icmp .eq 7, 3) := by decide +kernel
theorem dX11_fault_40 : decode cX11_fault 40 = .ok (.aload_n 0, 1) := by decide +kernel
theorem dX11_fault_41 : decode cX11_fault 41 = .ok (.invokevirtual 195, 3) := by decide +kernel
theorem dX11_fault_44 : decode cX11_fault 44 = .ok (.aload_n 0, 1) := by decide +kernel
theorem dX11_fault_45 : decode cX11_fault 45 = .ok (.bipush 7, 2) := by decide +kernel
theorem dX11_fault_47 : decode cX11_fault 47 = .ok (.invokevirtual 185, 3) := by decide +kernel
theorem dX11_fault_50 : decode cX11_fault 50 = .ok (.aload_n 0, 1) := by decide +kernel
theorem dX11_fault_51 : decode cX11_fault 51 = .ok (.getfield 172, 3) := by decide +kernel
theorem dX11_fault_54 : decode cX11_fault 54 = .ok (.ireturn, 1) := by decide +kernel
theorem dX11_vote_0 : decode cX11_vote 0 = .ok (.iload_n 1, 1) := by decide +kernel
theorem dX11_vote_1 : decode cX11_vote 1 = .ok (.iconst 0, 1) := by decide +kernel
theorem dX11_vote_2 : decode cX11_vote 2 = .ok (.sipush 10000, 3) := by decide +kernel
theorem dX11_vote_5 : decode cX11_vote 5 = .ok (.invokestatic 115, 3) := by decide +kernel
theorem dX11_vote_8 : decode cX11_vote 8 = .ok (.ifCond .eq 20, 3) := by decide +kernel
theorem dX11_vote_11 : decode cX11_vote 11 = .ok (.aload_n 0, 1) := by decide +kernel
theorem dX11_vote_12 : decode cX11_vote 12 = .ok (.getfield 204, 3) := by decide +kernel
theorem dX11_vote_15 : decode cX11_vote 15 = .ok (.bipush 50, 2) := by decide +kernel
theorem dX11_vote_17 : decode cX11_vote 17 = .ok (.if_icmp .eq 11, 3) := by decide +kernel
theorem dX11_vote_20 : decode cX11_vote 20 = .ok (.aload_n 0, 1) := by decide +kernel
theorem dX11_vote_21 : decode cX11_vote 21 = .ok (.invokevirtual 207, 3) := by decide +kernel
theorem dX11_vote_24 : decode cX11_vote 24 = .ok (.iconst (-1), 1) := by decide +kernel
theorem dX11_vote_25 : decode cX11_vote 25 = .ok (.if_icmp .eq 5, 3) := by decide +kernel
theorem dX11_vote_28 : decode cX11_vote 28 = .ok (.iconst (-1), 1) := by decide +kernel
theorem dX11_vote_29 : decode cX11_vote 29 = .ok (.ireturn, 1) := by decide +kernel
theorem dX11_vote_30 : decode cX11_vote 30 = .ok (.iconst 0, 1) := by decide +kernel
theorem dX11_vote_31 : decode cX11_vote 31 = .ok (.istore_n 2, 1) := by decide +kernel
theorem dX11_vote_32 : decode cX11_vote 32 = .ok (.iload_n 2, 1) := by decide +kernel
theorem dX11_vote_33 : decode cX11_vote 33 = .ok (.aload_n 0, 1) := by decide +kernel
theorem dX11_vote_34 : decode cX11_vote 34 = .ok (.getfield 175, 3) := by decide +kernel
theorem dX11_vote_37 : decode cX11_vote 37 = .ok (.if_icmp .ge 30, 3) := by decide +kernel
theorem dX11_vote_40 : decode cX11_vote 40 = .ok (.aload_n 0, 1) := by decide +kernel
theorem dX11_vote_41 : decode cX11_vote 41 = .ok (.getfield 45, 3) := by decide +kernel
theorem dX11_vote_44 : decode cX11_vote 44 = .ok (.sipush 420, 3) := by decide +kernel
theorem dX11_vote_47 : decode cX11_vote 47 = .ok (.aload_n 0, 1) := by decide +kernel
theorem dX11_vote_48 : decode cX11_vote 48 = .ok (.getfield 204, 3) := by decide +kernel
theorem dX11_vote_51 : decode cX11_vote 51 = .ok (.imul, 1) := by decide +kernel
theorem dX11_vote_52 : decode cX11_vote 52 = .ok (.iload_n 2, 1) := by decide +kernel
theorem dX11_vote_53 : decode cX11_vote 53 = .ok (.iadd, 1) := by decide +kernel
theorem dX11_vote_54 : decode cX11_vote 54 = .ok (.aload_n 0, 1) := by decide +kernel
theorem dX11_vote_55 : decode cX11_vote 55 = .ok (.getfield 54, 3) := by decide +kernel
theorem dX11_vote_58 : decode cX11_vote 58 = .ok (.iload_n 2, 1) := by decide +kernel
theorem dX11_vote_59 : decode cX11_vote 59 = .ok (.iaload, 1) := by decide +kernel
theorem dX11_vote_60 : decode cX11_vote 60 = .ok (.iastore, 1) := by decide +kernel
theorem dX11_vote_61 : decode cX11_vote 61 = .ok (.iinc 2 1, 3) := by decide +kernel
theorem dX11_vote_64 : decode cX11_vote 64 = .ok (.goto (-32), 3) := by decide +kernel
theorem dX11_vote_67 : decode cX11_vote 67 = .ok (.aload_n 0, 1) := by decide +kernel
theorem dX11_vote_68 : decode cX11_vote 68 = .ok (.getfield 48, 3) := by decide +kernel
theorem dX11_vote_71 : decode cX11_vote 71 = .ok (.aload_n 0, 1) := by decide +kernel
theorem dX11_vote_72 : decode cX11_vote 72 = .ok (.getfield 204, 3) := by decide +kernel
theorem dX11_vote_75 : decode cX11_vote 75 = .ok (.iload_n 1, 1) := by decide +kernel
theorem dX11_vote_76 : decode cX11_vote 76 = .ok (.iastore, 1) := by decide +kernel
theorem dX11_vote_77 : decode cX11_vote 77 = .ok (.aload_n 0, 1) := by decide +kernel
theorem dX11_vote_78 : decode cX11_vote 78 = .ok (.getfield 51, 3) := by decide +kernel
theorem dX11_vote_81 : decode cX11_vote 81 = .ok (.aload_n 0, 1) := by decide +kernel
theorem dX11_vote_82 : decode cX11_vote 82 = .ok (.getfield 204, 3) := by decide +kernel
theorem dX11_vote_85 : decode cX11_vote 85 = .ok (.iconst 0, 1) := by decide +kernel
theorem dX11_vote_86 : decode cX11_vote 86 = .ok (.bastore, 1) := by decide +kernel
theorem dX11_vote_87 : decode cX11_vote 87 = .ok (.aload_n 0, 1) := by decide +kernel
theorem dX11_vote_88 : decode cX11_vote 88 = .ok (.dup, 1) := by decide +kernel
theorem dX11_vote_89 : decode cX11_vote 89 = .ok (.getfield 204, 3) := by decide +kernel
theorem dX11_vote_92 : decode cX11_vote 92 = .ok (.iconst 1, 1) := by decide +kernel
theorem dX11_vote_93 : decode cX11_vote 93 = .ok (.iadd, 1) := by decide +kernel
theorem dX11_vote_94 : decode cX11_vote 94 = .ok (.putfield 204, 3) := by decide +kernel
theorem dX11_vote_97 : decode cX11_vote 97 = .ok (.aload_n 0, 1) := by decide +kernel
theorem dX11_vote_98 : decode cX11_vote 98 = .ok (.iconst 0, 1) := by decide +kernel
theorem dX11_vote_99 : decode cX11_vote 99 = .ok (.putfield 166, 3) := by decide +kernel
theorem dX11_vote_102 : decode cX11_vote 102 = .ok (.aload_n 0, 1) := by decide +kernel
theorem dX11_vote_103 : decode cX11_vote 103 = .ok (.getfield 204, 3) := by decide +kernel
theorem dX11_vote_106 : decode cX11_vote 106 = .ok (.iconst 1, 1) := by decide +kernel
theorem dX11_vote_107 : decode cX11_vote 107 = .ok (.isub, 1) := by decide +kernel
theorem dX11_vote_108 : decode cX11_vote 108 = .ok (.ireturn, 1) := by decide +kernel
theorem dX11_inForce_0 : decode cX11_inForce 0 = .ok (.aload_n 0, 1) := by decide +kernel
theorem dX11_inForce_1 : decode cX11_inForce 1 = .ok (.getfield 204, 3) := by decide +kernel
theorem dX11_inForce_4 : decode cX11_inForce 4 = .ok (.iconst 1, 1) := by decide +kernel
theorem dX11_inForce_5 : decode cX11_inForce 5 = .ok (.isub, 1) := by decide +kernel
theorem dX11_inForce_6 : decode cX11_inForce 6 = .ok (.istore_n 2, 1) := by decide +kernel
theorem dX11_inForce_7 : decode cX11_inForce 7 = .ok (.iload_n 2, 1) := by decide +kernel
theorem dX11_inForce_8 : decode cX11_inForce 8 = .ok (.ifCond .lt 28, 3) := by decide +kernel
theorem dX11_inForce_11 : decode cX11_inForce 11 = .ok (.aload_n 0, 1) := by decide +kernel
theorem dX11_inForce_12 : decode cX11_inForce 12 = .ok (.getfield 51, 3) := by decide +kernel
theorem dX11_inForce_15 : decode cX11_inForce 15 = .ok (.iload_n 2, 1) := by decide +kernel
theorem dX11_inForce_16 : decode cX11_inForce 16 = .ok (.baload, 1) := by decide +kernel
theorem dX11_inForce_17 : decode cX11_inForce 17 = .ok (.ifCond .ne 13, 3) := by decide +kernel
theorem dX11_inForce_20 : decode cX11_inForce 20 = .ok (.aload_n 0, 1) := by decide +kernel
theorem dX11_inForce_21 : decode cX11_inForce 21 = .ok (.getfield 48, 3) := by decide +kernel
theorem dX11_inForce_24 : decode cX11_inForce 24 = .ok (.iload_n 2, 1) := by decide +kernel
theorem dX11_inForce_25 : decode cX11_inForce 25 = .ok (.iaload, 1) := by decide +kernel
theorem dX11_inForce_26 : decode cX11_inForce 26 = .ok (.iload_n 1, 1) := by decide +kernel
theorem dX11_inForce_27 : decode cX11_inForce 27 = .ok (.if_icmp .le 9, 3) := by decide +kernel
theorem dX11_inForce_30 : decode cX11_inForce 30 = .ok (.iinc 2 (-1), 3) := by decide +kernel
theorem dX11_inForce_33 : decode cX11_inForce 33 = .ok (.goto (-26), 3) := by decide +kernel
theorem dX11_inForce_36 : decode cX11_inForce 36 = .ok (.iload_n 2, 1) := by decide +kernel
theorem dX11_inForce_37 : decode cX11_inForce 37 = .ok (.ireturn, 1) := by decide +kernel
