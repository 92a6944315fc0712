theorem dX10_vote_0 : decode cX10_vote 0 = .ok (.iload_n 1, 1) := by decide +kernel
theorem dX10_vote_1 : decode cX10_vote 1 = .ok (.iconst 0, 1) := by decide +kernel
theorem dX10_vote_2 : decode cX10_vote 2 = .ok (.sipush 10000, 3) := by decide +kernel
theorem dX10_vote_5 : decode cX10_vote 5 = .ok (.invokestatic 61, 3) := by decide +kernel
theorem dX10_vote_8 : decode cX10_vote 8 = .ok (.ifCond .eq 14, 3) := by decide +kernel
theorem dX10_vote_11 : decode cX10_vote 11 = .ok (.aload_n 0, 1) := by decide +kernel
theorem dX10_vote_12 : decode cX10_vote 12 = .ok (.getfield 27, 3) := by decide +kernel
theorem dX10_vote_15 : decode cX10_vote 15 = .ok (.invokevirtual 125, 3) := by decide +kernel
theorem dX10_vote_18 : decode cX10_vote 18 = .ok (.iconst (-1), 1) := by decide +kernel
theorem dX10_vote_19 : decode cX10_vote 19 = .ok (.if_icmp .eq 5, 3) := by decide +kernel
theorem dX10_vote_22 : decode cX10_vote 22 = .ok (.iconst (-1), 1) := by decide +kernel
theorem dX10_vote_23 : decode cX10_vote 23 = .ok (.ireturn, 1) := by decide +kernel
theorem dX10_vote_24 : decode cX10_vote 24 = .ok (.aload_n 0, 1) := by decide +kernel
theorem dX10_vote_25 : decode cX10_vote 25 = .ok (.getfield 34, 3) := by decide +kernel
theorem dX10_vote_28 : decode cX10_vote 28 = .ok (.iload_n 1, 1) := by decide +kernel
theorem dX10_vote_29 : decode cX10_vote 29 = .ok (.aload_n 0, 1) := by decide +kernel
theorem dX10_vote_30 : decode cX10_vote 30 = .ok (.getfield 27, 3) := by decide +kernel
theorem dX10_vote_33 : decode cX10_vote 33 = .ok (.invokevirtual 128, 3) := by decide +kernel
theorem dX10_vote_36 : decode cX10_vote 36 = .ok (.istore_n 2, 1) := by decide +kernel
theorem dX10_vote_37 : decode cX10_vote 37 = .ok (.iload_n 2, 1) := by decide +kernel
theorem dX10_vote_38 : decode cX10_vote 38 = .ok (.iconst (-1), 1) := by decide +kernel
theorem dX10_vote_39 : decode cX10_vote 39 = .ok (.if_icmp .eq 11, 3) := by decide +kernel
theorem dX10_vote_42 : decode cX10_vote 42 = .ok (.aload_n 0, 1) := by decide +kernel
theorem dX10_vote_43 : decode cX10_vote 43 = .ok (.getfield 27, 3) := by decide +kernel
theorem dX10_vote_46 : decode cX10_vote 46 = .ok (.iconst 0, 1) := by decide +kernel
theorem dX10_vote_47 : decode cX10_vote 47 = .ok (.invokevirtual 132, 3) := by decide +kernel
theorem dX10_vote_50 : decode cX10_vote 50 = .ok (.iload_n 2, 1) := by decide +kernel
theorem dX10_vote_51 : decode cX10_vote 51 = .ok (.ireturn, 1) := by decide +kernel
theorem dX10_fault_0 : decode cX10_fault 0 = .ok (.aload_n 0, 1) := by decide +kernel
theorem dX10_fault_1 : decode cX10_fault 1 = .ok (.getfield 27, 3) := by decide +kernel
theorem dX10_fault_4 : decode cX10_fault 4 = .ok (.invokevirtual 125, 3) := by decide +kernel
theorem dX10_fault_7 : decode cX10_fault 7 = .ok (.ireturn, 1) := by decide +kernel
theorem dX10_end_0 : decode cX10_end 0 = .ok (.iload_n 1, 1) := by decide +kernel
theorem dX10_end_1 : decode cX10_end 1 = .ok (.iconst 0, 1) := by decide +kernel
theorem dX10_end_2 : decode cX10_end 2 = .ok (.aload_n 0, 1) := by decide +kernel
theorem dX10_end_3 : decode cX10_end 3 = .ok (.getfield 27, 3) := by decide +kernel
theorem dX10_end_6 : decode cX10_end 6 = .ok (.getfield 119, 3) := by decide +kernel
theorem dX10_end_9 : decode cX10_end 9 = .ok (.invokestatic 61, 3) := by decide +kernel
theorem dX10_end_12 : decode cX10_end 12 = .ok (.ifCond .ne 5, 3) := by decide +kernel
theorem dX10_end_15 : decode cX10_end 15 = .ok (.iconst 0, 1) := by decide +kernel
theorem dX10_end_16 : decode cX10_end 16 = .ok (.ireturn, 1) := by decide +kernel
theorem dX10_end_17 : decode cX10_end 17 = .ok (.aload_n 0, 1) := by decide +kernel
theorem dX10_end_18 : decode cX10_end 18 = .ok (.getfield 27, 3) := by decide +kernel
theorem dX10_end_21 : decode cX10_end 21 = .ok (.iload_n 1, 1) := by decide +kernel
theorem dX10_end_22 : decode cX10_end 22 = .ok (.invokevirtual 132, 3) := by decide +kernel
theorem dX10_end_25 : decode cX10_end 25 = .ok (.iconst 1, 1) := by decide +kernel
theorem dX10_end_26 : decode cX10_end 26 = .ok (.ireturn, 1) := by decide +kernel
theorem dX10_unvote_0 : decode cX10_unvote 0 = .ok (.aload_n 0, 1) := by decide +kernel
theorem dX10_unvote_1 : decode cX10_unvote 1 = .ok (.getfield 34, 3) := by decide +kernel
theorem dX10_unvote_4 : decode cX10_unvote 4 = .ok (.iload_n 1, 1) := by decide +kernel
theorem dX10_unvote_5 : decode cX10_unvote 5 = .ok (.invokevirtual 135, 3) := by decide +kernel
theorem dX10_unvote_8 : decode cX10_unvote 8 = .ok (.astore_n 2, 1) := by decide +kernel
theorem dX10_unvote_9 : decode cX10_unvote 9 = .ok (.aload_n 2, 1) := by decide +kernel
theorem dX10_unvote_10 : decode cX10_unvote 10 = .ok (.ifnull 10, 3) := by decide +kernel
theorem dX10_unvote_13 : decode cX10_unvote 13 = .ok (.aload_n 2, 1) := by decide +kernel
theorem dX10_unvote_14 : decode cX10_unvote 14 = .ok (.getfield 139, 3) := by decide +kernel
theorem dX10_unvote_17 : decode cX10_unvote 17 = .ok (.ifCond .eq 5, 3) := by decide +kernel
theorem dX10_unvote_20 : decode cX10_unvote 20 = .ok (.iconst (-1), 1) := by decide +kernel
theorem dX10_unvote_21 : decode cX10_unvote 21 = .ok (.ireturn, 1) := by decide +kernel
theorem dX10_unvote_22 : decode cX10_unvote 22 = .ok (.aload_n 2, 1) := by decide +kernel
theorem dX10_unvote_23 : decode cX10_unvote 23 = .ok (.iconst 1, 1) := by decide +kernel
theorem dX10_unvote_24 : decode cX10_unvote 24 = .ok (.putfield 139, 3) := by decide +kernel
theorem dX10_unvote_27 : decode cX10_unvote 27 = .ok (.aload_n 0, 1) := by decide +kernel
theorem dX10_unvote_28 : decode cX10_unvote 28 = .ok (.getfield 41, 3) := by decide +kernel
theorem dX10_unvote_31 : decode cX10_unvote 31 = .ok (.iload_n 1, 1) := by decide +kernel
theorem dX10_unvote_32 : decode cX10_unvote 32 = .ok (.aload_n 0, 1) := by decide +kernel
theorem dX10_unvote_33 : decode cX10_unvote 33 = .ok (.getfield 34, 3) := by decide +kernel
theorem dX10_unvote_36 : decode cX10_unvote 36 = .ok (.aload_n 0, 1) := by decide +kernel
theorem dX10_unvote_37 : decode cX10_unvote 37 = .ok (.getfield 99, 3) := by decide +kernel
theorem dX10_unvote_40 : decode cX10_unvote 40 = .ok (.invokevirtual 145, 3) := by decide +kernel
theorem dX10_unvote_43 : decode cX10_unvote 43 = .ok (.ireturn, 1) := by decide +kernel
theorem dX10_premium_0 : decode cX10_premium 0 = .ok (.aload_n 0, 1) := by decide +kernel
theorem dX10_premium_1 : decode cX10_premium 1 = .ok (.iconst 3, 1) := by decide +kernel
theorem dX10_premium_2 : decode cX10_premium 2 = .ok (.iload_n 1, 1) := by decide +kernel
theorem dX10_premium_3 : decode cX10_premium 3 = .ok (.invokevirtual 57, 3) := by decide +kernel
theorem dX10_premium_6 : decode cX10_premium 6 = .ok (.astore_n 3, 1) := by decide +kernel
theorem dX10_premium_7 : decode cX10_premium 7 = .ok (.aload_n 3, 1) := by decide +kernel
theorem dX10_premium_8 : decode cX10_premium 8 = .ok (.ifnull 20, 3) := by decide +kernel
theorem dX10_premium_11 : decode cX10_premium 11 = .ok (.aload_n 3, 1) := by decide +kernel
theorem dX10_premium_12 : decode cX10_premium 12 = .ok (.getfield 112, 3) := by decide +kernel
theorem dX10_premium_15 : decode cX10_premium 15 = .ok (.ifCond .eq 13, 3) := by decide +kernel
theorem dX10_premium_18 : decode cX10_premium 18 = .ok (.iload_n 2, 1) := by decide +kernel
theorem dX10_premium_19 : decode cX10_premium 19 = .ok (.iconst 1, 1) := by decide +kernel
theorem dX10_premium_20 : decode cX10_premium 20 = .ok (.ldc 66, 2) := by decide +kernel
theorem dX10_premium_22 : decode cX10_premium 22 = .ok (.invokestatic 61, 3) := by decide +kernel
theorem dX10_premium_25 : decode cX10_premium 25 = .ok (.ifCond .ne 5, 3) := by decide +kernel
theorem dX10_premium_28 : decode cX10_premium 28 = .ok (.iconst (-1), 1) := by decide +kernel
theorem dX10_premium_29 : decode cX10_premium 29 = .ok (.ireturn, 1) := by decide +kernel
theorem dX10_premium_30 : decode cX10_premium 30 = .ok (.aload_n 0, 1) := by decide +kernel
theorem dX10_premium_31 : decode cX10_premium 31 = .ok (.getfield 41, 3) := by decide +kernel
theorem dX10_premium_34 : decode cX10_premium 34 = .ok (.aload_n 3, 1) := by decide +kernel
theorem dX10_premium_35 : decode cX10_premium 35 = .ok (.iload_n 2, 1) := by decide +kernel
theorem dX10_premium_36 : decode cX10_premium 36 = .ok (.aload_n 0, 1) := by decide +kernel
theorem dX10_premium_37 : decode cX10_premium 37 = .ok (.getfield 34, 3) := by decide +kernel
theorem dX10_premium_40 : decode cX10_premium 40 = .ok (.aload_n 0, 1) := by decide +kernel
theorem dX10_premium_41 : decode cX10_premium 41 = .ok (.getfield 99, 3) := by decide +kernel
theorem dX10_premium_44 : decode cX10_premium 44 = .ok (.invokevirtual 149, 3) := by decide +kernel
theorem dX10_premium_47 : decode cX10_premium 47 = .ok (.ireturn, 1) := by decide +kernel
theorem dX10_part_0 : decode cX10_part 0 = .ok (.aload_n 0, 1) := by decide +kernel
theorem dX10_part_1 : decode cX10_part 1 = .ok (.iload_n 1, 1) := by decide +kernel
theorem dX10_part_2 : decode cX10_part 2 = .ok (.invokevirtual 79, 3) := by decide +kernel
theorem dX10_part_5 : decode cX10_part 5 = .ok (.astore_n 3, 1) := by decide +kernel
theorem dX10_part_6 : decode cX10_part 6 = .ok (.aload_n 3, 1) := by decide +kernel
theorem dX10_part_7 : decode cX10_part 7 = .ok (.ifnull 13, 3) := by decide +kernel
theorem dX10_part_10 : decode cX10_part 10 = .ok (.iload_n 2, 1) := by decide +kernel
theorem dX10_part_11 : decode cX10_part 11 = .ok (.iconst 0, 1) := by decide +kernel
theorem dX10_part_12 : decode cX10_part 12 = .ok (.bipush 59, 2) := by decide +kernel
theorem dX10_part_14 : decode cX10_part 14 = .ok (.invokestatic 61, 3) := by decide +kernel
theorem dX10_part_17 : decode cX10_part 17 = .ok (.ifCond .ne 7, 3) := by decide +kernel
theorem dX10_part_20 : decode cX10_part 20 = .ok (.iconst 0, 1) := by decide +kernel
theorem dX10_part_21 : decode cX10_part 21 = .ok (.goto 9, 3) := by decide +kernel
theorem dX10_part_24 : decode cX10_part 24 = .ok (.aload_n 3, 1) := by decide +kernel
theorem dX10_part_25 : decode cX10_part 25 = .ok (.getfield 152, 3) := by decide +kernel
theorem dX10_part_28 : decode cX10_part 28 = .ok (.iload_n 2, 1) := by decide +kernel
theorem dX10_part_29 : decode cX10_part 29 = .ok (.iaload, 1) := by decide +kernel
theorem dX10_part_30 : decode cX10_part 30 = .ok (.ireturn, 1) := by decide +kernel
theorem dX10_told_0 : decode cX10_told 0 = .ok (.aload_n 0, 1) := by decide +kernel
theorem dX10_told_1 : decode cX10_told 1 = .ok (.iload_n 1, 1) := by decide +kernel
theorem dX10_told_2 : decode cX10_told 2 = .ok (.invokevirtual 79, 3) := by decide +kernel
theorem dX10_told_5 : decode cX10_told 5 = .ok (.astore_n 3, 1) := by decide +kernel
theorem dX10_told_6 : decode cX10_told 6 = .ok (.aload_n 3, 1) := by decide +kernel
theorem dX10_told_7 : decode cX10_told 7 = .ok (.ifnonnull 7, 3) := by decide +kernel
theorem dX10_told_10 : decode cX10_told 10 = .ok (.iconst (-1), 1) := by decide +kernel
theorem dX10_told_11 : decode cX10_told 11 = .ok (.goto 8, 3) := by decide +kernel
theorem dX10_told_14 : decode cX10_told 14 = .ok (.aload_n 3, 1) := by decide +kernel
theorem dX10_told_15 : decode cX10_told 15 = .ok (.iload_n 2, 1) := by decide +kernel
theorem dX10_told_16 : decode cX10_told 16 = .ok (.invokevirtual 156, 3) := by decide +kernel
theorem dX10_told_19 : decode cX10_told 19 = .ok (.ireturn, 1) := by decide +kernel
theorem dX10_coins_0 : decode cX10_coins 0 = .ok (.iload_n 1, 1) := by decide +kernel
theorem dX10_coins_1 : decode cX10_coins 1 = .ok (.iconst 0, 1) := by decide +kernel
theorem dX10_coins_2 : decode cX10_coins 2 = .ok (.bipush 19, 2) := by decide +kernel
theorem dX10_coins_4 : decode cX10_coins 4 = .ok (.invokestatic 61, 3) := by decide +kernel
theorem dX10_coins_7 : decode cX10_coins 7 = .ok (.ifCond .eq 18, 3) := by decide +kernel
theorem dX10_coins_10 : decode cX10_coins 10 = .ok (.aload_n 0, 1) := by decide +kernel
theorem dX10_coins_11 : decode cX10_coins 11 = .ok (.getfield 41, 3) := by decide +kernel
theorem dX10_coins_14 : decode cX10_coins 14 = .ok (.getfield 159, 3) := by decide +kernel
theorem dX10_coins_17 : decode cX10_coins 17 = .ok (.getfield 163, 3) := by decide +kernel
theorem dX10_coins_20 : decode cX10_coins 20 = .ok (.iload_n 1, 1) := by decide +kernel
theorem dX10_coins_21 : decode cX10_coins 21 = .ok (.iaload, 1) := by decide +kernel
theorem dX10_coins_22 : decode cX10_coins 22 = .ok (.goto 4, 3) := by decide +kernel
theorem dX10_coins_25 : decode cX10_coins 25 = .ok (.iconst 0, 1) := by decide +kernel
theorem dX10_coins_26 : decode cX10_coins 26 = .ok (.ireturn, 1) := by decide +kernel
theorem dX10_entry_0 : decode cX10_entry 0 = .ok (.aload_n 0, 1) := by decide +kernel
theorem dX10_entry_1 : decode cX10_entry 1 = .ok (.getfield 41, 3) := by decide +kernel
theorem dX10_entry_4 : decode cX10_entry 4 = .ok (.getfield 159, 3) := by decide +kernel
theorem dX10_entry_7 : decode cX10_entry 7 = .ok (.iload_n 1, 1) := by decide +kernel
theorem dX10_entry_8 : decode cX10_entry 8 = .ok (.iload_n 2, 1) := by decide +kernel
theorem dX10_entry_9 : decode cX10_entry 9 = .ok (.invokevirtual 168, 3) := by decide +kernel
theorem dX10_entry_12 : decode cX10_entry 12 = .ok (.ireturn, 1) := by decide +kernel
theorem dX10_worth_0 : decode cX10_worth 0 = .ok (.aload_n 0, 1) := by decide +kernel
theorem dX10_worth_1 : decode cX10_worth 1 = .ok (.iconst 3, 1) := by decide +kernel
theorem dX10_worth_2 : decode cX10_worth 2 = .ok (.iload_n 2, 1) := by decide +kernel
theorem dX10_worth_3 : decode cX10_worth 3 = .ok (.invokevirtual 57, 3) := by decide +kernel
theorem dX10_worth_6 : decode cX10_worth 6 = .ok (.astore 4, 2) := by decide +kernel
theorem dX10_worth_8 : decode cX10_worth 8 = .ok (.aload 4, 2) := by decide +kernel
theorem dX10_worth_10 : decode cX10_worth 10 = .ok (.ifnull 24, 3) := by decide +kernel
theorem dX10_worth_13 : decode cX10_worth 13 = .ok (.iload_n 1, 1) := by decide +kernel
theorem dX10_worth_14 : decode cX10_worth 14 = .ok (.iconst 0, 1) := by decide +kernel
theorem dX10_worth_15 : decode cX10_worth 15 = .ok (.sipush 10000, 3) := by decide +kernel
theorem dX10_worth_18 : decode cX10_worth 18 = .ok (.invokestatic 61, 3) := by decide +kernel
theorem dX10_worth_21 : decode cX10_worth 21 = .ok (.ifCond .eq 13, 3) := by decide +kernel
theorem dX10_worth_24 : decode cX10_worth 24 = .ok (.iload_n 3, 1) := by decide +kernel
theorem dX10_worth_25 : decode cX10_worth 25 = .ok (.iconst 0, 1) := by decide +kernel
theorem dX10_worth_26 : decode cX10_worth 26 = .ok (.bipush 19, 2) := by decide +kernel
theorem dX10_worth_28 : decode cX10_worth 28 = .ok (.invokestatic 61, 3) := by decide +kernel
theorem dX10_worth_31 : decode cX10_worth 31 = .ok (.ifCond .ne 7, 3) := by decide +kernel
theorem dX10_worth_34 : decode cX10_worth 34 = .ok (.ldc2_w 172, 3) := by decide +kernel
theorem dX10_worth_37 : decode cX10_worth 37 = .ok (.lreturn, 1) := by decide +kernel
theorem dX10_worth_38 : decode cX10_worth 38 = .ok (.aload_n 0, 1) := by decide +kernel
theorem dX10_worth_39 : decode cX10_worth 39 = .ok (.getfield 34, 3) := by decide +kernel
theorem dX10_worth_42 : decode cX10_worth 42 = .ok (.aload_n 0, 1) := by decide +kernel
theorem dX10_worth_43 : decode cX10_worth 43 = .ok (.getfield 34, 3) := by decide +kernel
theorem dX10_worth_46 : decode cX10_worth 46 = .ok (.iload_n 1, 1) := by decide +kernel
theorem dX10_worth_47 : decode cX10_worth 47 = .ok (.invokevirtual 174, 3) := by decide +kernel
theorem dX10_worth_50 : decode cX10_worth 50 = .ok (.aload 4, 2) := by decide +kernel
theorem dX10_worth_52 : decode cX10_worth 52 = .ok (.aload 4, 2) := by decide +kernel
theorem dX10_worth_54 : decode cX10_worth 54 = .ok (.getfield 112, 3) := by decide +kernel
theorem dX10_worth_57 : decode cX10_worth 57 = .ok (.iload_n 3, 1) := by decide +kernel
theorem dX10_worth_58 : decode cX10_worth 58 = .ok (.invokevirtual 177, 3) := by decide +kernel
theorem dX10_worth_61 : decode cX10_worth 61 = .ok (.i2l, 1) := by decide +kernel
theorem dX10_worth_62 : decode cX10_worth 62 = .ok (.lreturn, 1) := by decide +kernel
theorem dX10_force_0 : decode cX10_force 0 = .ok (.iload_n 1, 1) := by decide +kernel
theorem dX10_force_1 : decode cX10_force 1 = .ok (.iconst 0, 1) := by decide +kernel
theorem dX10_force_2 : decode cX10_force 2 = .ok (.sipush 10000, 3) := by decide +kernel
theorem dX10_force_5 : decode cX10_force 5 = .ok (.invokestatic 61, 3) := by decide +kernel
theorem dX10_force_8 : decode cX10_force 8 = .ok (.ifCond .eq 14, 3) := by decide +kernel
theorem dX10_force_11 : decode cX10_force 11 = .ok (.aload_n 0, 1) := by decide +kernel
theorem dX10_force_12 : decode cX10_force 12 = .ok (.getfield 34, 3) := by decide +kernel
theorem dX10_force_15 : decode cX10_force 15 = .ok (.iload_n 1, 1) := by decide +kernel
theorem dX10_force_16 : decode cX10_force 16 = .ok (.invokevirtual 174, 3) := by decide +kernel
theorem dX10_force_19 : decode cX10_force 19 = .ok (.goto 4, 3) := by decide +kernel
theorem dX10_force_22 : decode cX10_force 22 = .ok (.iconst (-1), 1) := by decide +kernel
theorem dX10_force_23 : decode cX10_force 23 = .ok (.ireturn, 1) := by decide +kernel
theorem dX10_voted_0 : decode cX10_voted 0 = .ok (.aload_n 0, 1) := by decide +kernel
theorem dX10_voted_1 : decode cX10_voted 1 = .ok (.getfield 34, 3) := by decide +kernel
theorem dX10_voted_4 : decode cX10_voted 4 = .ok (.iload_n 1, 1) := by decide +kernel
theorem dX10_voted_5 : decode cX10_voted 5 = .ok (.invokevirtual 135, 3) := by decide +kernel
theorem dX10_voted_8 : decode cX10_voted 8 = .ok (.astore_n 3, 1) := by decide +kernel
theorem dX10_voted_9 : decode cX10_voted 9 = .ok (.aload_n 3, 1) := by decide +kernel
theorem dX10_voted_10 : decode cX10_voted 10 = .ok (.ifnonnull 5, 3) := by decide +kernel
theorem dX10_voted_13 : decode cX10_voted 13 = .ok (.iconst (-1), 1) := by decide +kernel
theorem dX10_voted_14 : decode cX10_voted 14 = .ok (.ireturn, 1) := by decide +kernel
theorem dX10_voted_15 : decode cX10_voted 15 = .ok (.iload_n 2, 1) := by decide +kernel
theorem dX10_voted_16 : decode cX10_voted 16 = .ok (.tableswitch 55 0 2 #[28, 33, 46], 28) := by decide +kernel
theorem dX10_voted_44 : decode cX10_voted 44 = .ok (.aload_n 3, 1) := by decide +kernel
theorem dX10_voted_45 : decode cX10_voted 45 = .ok (.getfield 181, 3) := by decide +kernel
theorem dX10_voted_48 : decode cX10_voted 48 = .ok (.ireturn, 1) := by decide +kernel
theorem dX10_voted_49 : decode cX10_voted 49 = .ok (.aload_n 3, 1) := by decide +kernel
theorem dX10_voted_50 : decode cX10_voted 50 = .ok (.getfield 139, 3) := by decide +kernel
theorem dX10_voted_53 : decode cX10_voted 53 = .ok (.ifCond .eq 7, 3) := by decide +kernel
theorem dX10_voted_56 : decode cX10_voted 56 = .ok (.iconst 1, 1) := by decide +kernel
theorem dX10_voted_57 : decode cX10_voted 57 = .ok (.goto 4, 3) := by decide +kernel
theorem dX10_voted_60 : decode cX10_voted 60 = .ok (.iconst 0, 1) := by decide +kernel
theorem dX10_voted_61 : decode cX10_voted 61 = .ok (.ireturn, 1) := by decide +kernel
theorem dX10_voted_62 : decode cX10_voted 62 = .ok (.aload_n 0, 1) := by decide +kernel
theorem dX10_voted_63 : decode cX10_voted 63 = .ok (.getfield 41, 3) := by decide +kernel
theorem dX10_voted_66 : decode cX10_voted 66 = .ok (.iload_n 1, 1) := by decide +kernel
theorem dX10_voted_67 : decode cX10_voted 67 = .ok (.invokevirtual 184, 3) := by decide +kernel
theorem dX10_voted_70 : decode cX10_voted 70 = .ok (.ireturn, 1) := by decide +kernel
theorem dX10_voted_71 : decode cX10_voted 71 = .ok (.iconst (-1), 1) := by decide +kernel
theorem dX10_voted_72 : decode cX10_voted 72 = .ok (.ireturn, 1) := by decide +kernel
theorem dX10_job_0 : decode cX10_job 0 = .ok (.iload_n 1, 1) := by decide +kernel
theorem dX10_job_1 : decode cX10_job 1 = .ok (.ifCond .lt 14, 3) := by decide +kernel
theorem dX10_job_4 : decode cX10_job 4 = .ok (.iload_n 1, 1) := by decide +kernel
theorem dX10_job_5 : decode cX10_job 5 = .ok (.iload_n 2, 1) := by decide +kernel
theorem dX10_job_6 : decode cX10_job 6 = .ok (.if_icmp .gt 9, 3) := by decide +kernel
theorem dX10_job_9 : decode cX10_job 9 = .ok (.iload_n 2, 1) := by decide +kernel
theorem dX10_job_10 : decode cX10_job 10 = .ok (.bipush 60, 2) := by decide +kernel
theorem dX10_job_12 : decode cX10_job 12 = .ok (.if_icmp .lt 5, 3) := by decide +kernel
theorem dX10_job_15 : decode cX10_job 15 = .ok (.iconst (-1), 1) := by decide +kernel
theorem dX10_job_16 : decode cX10_job 16 = .ok (.ireturn, 1) := by decide +kernel
theorem dX10_job_17 : decode cX10_job 17 = .ok (.aload_n 0, 1) := by decide +kernel
theorem dX10_job_18 : decode cX10_job 18 = .ok (.getfield 48, 3) := by decide +kernel
theorem dX10_job_21 : decode cX10_job 21 = .ok (.iload_n 1, 1) := by decide +kernel
theorem dX10_job_22 : decode cX10_job 22 = .ok (.iload_n 2, 1) := by decide +kernel
theorem dX10_job_23 : decode cX10_job 23 = .ok (.invokevirtual 187, 3) := by decide +kernel
theorem dX10_job_26 : decode cX10_job 26 = .ok (.ireturn, 1) := by decide +kernel
theorem dX10_places_0 : decode cX10_places 0 = .ok (.iload_n 1, 1) := by decide +kernel
theorem dX10_places_1 : decode cX10_places 1 = .ok (.iconst 0, 1) := by decide +kernel
theorem dX10_places_2 : decode cX10_places 2 = .ok (.bipush 59, 2) := by decide +kernel
theorem dX10_places_4 : decode cX10_places 4 = .ok (.invokestatic 61, 3) := by decide +kernel
theorem dX10_places_7 : decode cX10_places 7 = .ok (.ifCond .eq 13, 3) := by decide +kernel
theorem dX10_places_10 : decode cX10_places 10 = .ok (.iload_n 2, 1) := by decide +kernel
theorem dX10_places_11 : decode cX10_places 11 = .ok (.iconst 0, 1) := by decide +kernel
theorem dX10_places_12 : decode cX10_places 12 = .ok (.bipush 9, 2) := by decide +kernel
theorem dX10_places_14 : decode cX10_places 14 = .ok (.invokestatic 61, 3) := by decide +kernel
theorem dX10_places_17 : decode cX10_places 17 = .ok (.ifCond .ne 5, 3) := by decide +kernel
theorem dX10_places_20 : decode cX10_places 20 = .ok (.iconst 0, 1) := by decide +kernel
theorem dX10_places_21 : decode cX10_places 21 = .ok (.ireturn, 1) := by decide +kernel
theorem dX10_places_22 : decode cX10_places 22 = .ok (.aload_n 0, 1) := by decide +kernel
theorem dX10_places_23 : decode cX10_places 23 = .ok (.getfield 48, 3) := by decide +kernel
theorem dX10_places_26 : decode cX10_places 26 = .ok (.getfield 189, 3) := by decide +kernel
theorem dX10_places_29 : decode cX10_places 29 = .ok (.iload_n 1, 1) := by decide +kernel
theorem dX10_places_30 : decode cX10_places 30 = .ok (.iload_n 2, 1) := by decide +kernel
theorem dX10_places_31 : decode cX10_places 31 = .ok (.iastore, 1) := by decide +kernel
theorem dX10_places_32 : decode cX10_places 32 = .ok (.iconst 1, 1) := by decide +kernel
theorem dX10_places_33 : decode cX10_places 33 = .ok (.ireturn, 1) := by decide +kernel
