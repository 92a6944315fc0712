theorem dX10_vessel_0 : decode cX10_vessel 0 = .ok (.iload_n 1, 1) := by decide +kernel
theorem dX10_vessel_1 : decode cX10_vessel 1 = .ok (.ifCond .lt 17, 3) := by decide +kernel
theorem dX10_vessel_4 : decode cX10_vessel 4 = .ok (.iload_n 1, 1) := by decide +kernel
theorem dX10_vessel_5 : decode cX10_vessel 5 = .ok (.iconst 3, 1) := by decide +kernel
theorem dX10_vessel_6 : decode cX10_vessel 6 = .ok (.if_icmp .gt 12, 3) := by decide +kernel
theorem dX10_vessel_9 : decode cX10_vessel 9 = .ok (.aload_n 0, 1) := by decide +kernel
theorem dX10_vessel_10 : decode cX10_vessel 10 = .ok (.getfield 52, 3) := by decide +kernel
theorem dX10_vessel_13 : decode cX10_vessel 13 = .ok (.bipush 100, 2) := by decide +kernel
theorem dX10_vessel_15 : decode cX10_vessel 15 = .ok (.if_icmp .lt 5, 3) := by decide +kernel
theorem dX10_vessel_18 : decode cX10_vessel 18 = .ok (.iconst (-1), 1) := by decide +kernel
theorem dX10_vessel_19 : decode cX10_vessel 19 = .ok (.ireturn, 1) := by decide +kernel
theorem dX10_vessel_20 : decode cX10_vessel 20 = .ok (.aload_n 0, 1) := by decide +kernel
theorem dX10_vessel_21 : decode cX10_vessel 21 = .ok (.getfield 11, 3) := by decide +kernel
theorem dX10_vessel_24 : decode cX10_vessel 24 = .ok (.aload_n 0, 1) := by decide +kernel
theorem dX10_vessel_25 : decode cX10_vessel 25 = .ok (.getfield 52, 3) := by decide +kernel
theorem dX10_vessel_28 : decode cX10_vessel 28 = .ok (.new 9, 3) := by decide +kernel
theorem dX10_vessel_31 : decode cX10_vessel 31 = .ok (.dup, 1) := by decide +kernel
theorem dX10_vessel_32 : decode cX10_vessel 32 = .ok (.iload_n 1, 1) := by decide +kernel
theorem dX10_vessel_33 : decode cX10_vessel 33 = .ok (.invokespecial 56, 3) := by decide +kernel
theorem dX10_vessel_36 : decode cX10_vessel 36 = .ok (.aastore, 1) := by decide +kernel
theorem dX10_vessel_37 : decode cX10_vessel 37 = .ok (.aload_n 0, 1) := by decide +kernel
theorem dX10_vessel_38 : decode cX10_vessel 38 = .ok (.dup, 1) := by decide +kernel
theorem dX10_vessel_39 : decode cX10_vessel 39 = .ok (.getfield 52, 3) := by decide +kernel
theorem dX10_vessel_42 : decode cX10_vessel 42 = .ok (.dup_x1, 1) := by decide +kernel
theorem dX10_vessel_43 : decode cX10_vessel 43 = .ok (.iconst 1, 1) := by decide +kernel
theorem dX10_vessel_44 : decode cX10_vessel 44 = .ok (.iadd, 1) := by decide +kernel
theorem dX10_vessel_45 : decode cX10_vessel 45 = .ok (.putfield 52, 3) := by decide +kernel
theorem dX10_vessel_48 : decode cX10_vessel 48 = .ok (.ireturn, 1) := by decide +kernel
theorem dX10_buy_0 : decode cX10_buy 0 = .ok (.aload_n 0, 1) := by decide +kernel
theorem dX10_buy_1 : decode cX10_buy 1 = .ok (.iconst 0, 1) := by decide +kernel
theorem dX10_buy_2 : decode cX10_buy 2 = .ok (.iload_n 1, 1) := by decide +kernel
theorem dX10_buy_3 : decode cX10_buy 3 = .ok (.invokevirtual 57, 3) := by decide +kernel
theorem dX10_buy_6 : decode cX10_buy 6 = .ok (.astore 5, 2) := by decide +kernel
theorem dX10_buy_8 : decode cX10_buy 8 = .ok (.aload 5, 2) := by decide +kernel
theorem dX10_buy_10 : decode cX10_buy 10 = .ok (.ifnull 13, 3) := by decide +kernel
theorem dX10_buy_13 : decode cX10_buy 13 = .ok (.iload_n 2, 1) := by decide +kernel
theorem dX10_buy_14 : decode cX10_buy 14 = .ok (.iconst 0, 1) := by decide +kernel
theorem dX10_buy_15 : decode cX10_buy 15 = .ok (.bipush 59, 2) := by decide +kernel
theorem dX10_buy_17 : decode cX10_buy 17 = .ok (.invokestatic 61, 3) := by decide +kernel
theorem dX10_buy_20 : decode cX10_buy 20 = .ok (.ifCond .ne 5, 3) := by decide +kernel
theorem dX10_buy_23 : decode cX10_buy 23 = .ok (.iconst (-1), 1) := by decide +kernel
theorem dX10_buy_24 : decode cX10_buy 24 = .ok (.ireturn, 1) := by decide +kernel
theorem dX10_buy_25 : decode cX10_buy 25 = .ok (.iload_n 3, 1) := by decide +kernel
theorem dX10_buy_26 : decode cX10_buy 26 = .ok (.iconst 1, 1) := by decide +kernel
theorem dX10_buy_27 : decode cX10_buy 27 = .ok (.ldc 65, 2) := by decide +kernel
theorem dX10_buy_29 : decode cX10_buy 29 = .ok (.invokestatic 61, 3) := by decide +kernel
theorem dX10_buy_32 : decode cX10_buy 32 = .ok (.ifCond .eq 15, 3) := by decide +kernel
theorem dX10_buy_35 : decode cX10_buy 35 = .ok (.iload 4, 2) := by decide +kernel
theorem dX10_buy_37 : decode cX10_buy 37 = .ok (.iconst 0, 1) := by decide +kernel
theorem dX10_buy_38 : decode cX10_buy 38 = .ok (.sipush 900, 3) := by decide +kernel
theorem dX10_buy_41 : decode cX10_buy 41 = .ok (.invokestatic 61, 3) := by decide +kernel
theorem dX10_buy_44 : decode cX10_buy 44 = .ok (.ifCond .ne 5, 3) := by decide +kernel
theorem dX10_buy_47 : decode cX10_buy 47 = .ok (.iconst (-1), 1) := by decide +kernel
theorem dX10_buy_48 : decode cX10_buy 48 = .ok (.ireturn, 1) := by decide +kernel
theorem dX10_buy_49 : decode cX10_buy 49 = .ok (.iload_n 3, 1) := by decide +kernel
theorem dX10_buy_50 : decode cX10_buy 50 = .ok (.ldc 66, 2) := by decide +kernel
theorem dX10_buy_52 : decode cX10_buy 52 = .ok (.aload 5, 2) := by decide +kernel
theorem dX10_buy_54 : decode cX10_buy 54 = .ok (.invokevirtual 67, 3) := by decide +kernel
theorem dX10_buy_57 : decode cX10_buy 57 = .ok (.isub, 1) := by decide +kernel
theorem dX10_buy_58 : decode cX10_buy 58 = .ok (.if_icmp .le 5, 3) := by decide +kernel
theorem dX10_buy_61 : decode cX10_buy 61 = .ok (.iconst (-1), 1) := by decide +kernel
theorem dX10_buy_62 : decode cX10_buy 62 = .ok (.ireturn, 1) := by decide +kernel
theorem dX10_buy_63 : decode cX10_buy 63 = .ok (.iload_n 3, 1) := by decide +kernel
theorem dX10_buy_64 : decode cX10_buy 64 = .ok (.iload 4, 2) := by decide +kernel
theorem dX10_buy_66 : decode cX10_buy 66 = .ok (.imul, 1) := by decide +kernel
theorem dX10_buy_67 : decode cX10_buy 67 = .ok (.sipush 1000, 3) := by decide +kernel
theorem dX10_buy_70 : decode cX10_buy 70 = .ok (.idiv, 1) := by decide +kernel
theorem dX10_buy_71 : decode cX10_buy 71 = .ok (.istore 6, 2) := by decide +kernel
theorem dX10_buy_73 : decode cX10_buy 73 = .ok (.aload 5, 2) := by decide +kernel
theorem dX10_buy_75 : decode cX10_buy 75 = .ok (.iload_n 2, 1) := by decide +kernel
theorem dX10_buy_76 : decode cX10_buy 76 = .ok (.iload_n 3, 1) := by decide +kernel
theorem dX10_buy_77 : decode cX10_buy 77 = .ok (.iload 6, 2) := by decide +kernel
theorem dX10_buy_79 : decode cX10_buy 79 = .ok (.isub, 1) := by decide +kernel
theorem dX10_buy_80 : decode cX10_buy 80 = .ok (.iload 6, 2) := by decide +kernel
theorem dX10_buy_82 : decode cX10_buy 82 = .ok (.invokevirtual 71, 3) := by decide +kernel
theorem dX10_buy_85 : decode cX10_buy 85 = .ok (.aload_n 0, 1) := by decide +kernel
theorem dX10_buy_86 : decode cX10_buy 86 = .ok (.dup, 1) := by decide +kernel
theorem dX10_buy_87 : decode cX10_buy 87 = .ok (.getfield 75, 3) := by decide +kernel
theorem dX10_buy_90 : decode cX10_buy 90 = .ok (.iload_n 3, 1) := by decide +kernel
theorem dX10_buy_91 : decode cX10_buy 91 = .ok (.iload 6, 2) := by decide +kernel
theorem dX10_buy_93 : decode cX10_buy 93 = .ok (.isub, 1) := by decide +kernel
theorem dX10_buy_94 : decode cX10_buy 94 = .ok (.i2l, 1) := by decide +kernel
theorem dX10_buy_95 : decode cX10_buy 95 = .ok (.ladd, 1) := by decide +kernel
theorem dX10_buy_96 : decode cX10_buy 96 = .ok (.putfield 75, 3) := by decide +kernel
theorem dX10_buy_99 : decode cX10_buy 99 = .ok (.aload 5, 2) := by decide +kernel
theorem dX10_buy_101 : decode cX10_buy 101 = .ok (.invokevirtual 67, 3) := by decide +kernel
theorem dX10_buy_104 : decode cX10_buy 104 = .ok (.ireturn, 1) := by decide +kernel
theorem dX10_move_0 : decode cX10_move 0 = .ok (.aload_n 0, 1) := by decide +kernel
theorem dX10_move_1 : decode cX10_move 1 = .ok (.iload_n 1, 1) := by decide +kernel
theorem dX10_move_2 : decode cX10_move 2 = .ok (.invokevirtual 79, 3) := by decide +kernel
theorem dX10_move_5 : decode cX10_move 5 = .ok (.astore 4, 2) := by decide +kernel
theorem dX10_move_7 : decode cX10_move 7 = .ok (.aload_n 0, 1) := by decide +kernel
theorem dX10_move_8 : decode cX10_move 8 = .ok (.iload_n 2, 1) := by decide +kernel
theorem dX10_move_9 : decode cX10_move 9 = .ok (.invokevirtual 79, 3) := by decide +kernel
theorem dX10_move_12 : decode cX10_move 12 = .ok (.astore 5, 2) := by decide +kernel
theorem dX10_move_14 : decode cX10_move 14 = .ok (.aload 4, 2) := by decide +kernel
theorem dX10_move_16 : decode cX10_move 16 = .ok (.ifnull 23, 3) := by decide +kernel
theorem dX10_move_19 : decode cX10_move 19 = .ok (.aload 5, 2) := by decide +kernel
theorem dX10_move_21 : decode cX10_move 21 = .ok (.ifnull 18, 3) := by decide +kernel
theorem dX10_move_24 : decode cX10_move 24 = .ok (.iload_n 1, 1) := by decide +kernel
theorem dX10_move_25 : decode cX10_move 25 = .ok (.iload_n 2, 1) := by decide +kernel
theorem dX10_move_26 : decode cX10_move 26 = .ok (.if_icmp .eq 13, 3) := by decide +kernel
theorem dX10_move_29 : decode cX10_move 29 = .ok (.aload 4, 2) := by decide +kernel
theorem dX10_move_31 : decode cX10_move 31 = .ok (.aload 5, 2) := by decide +kernel
theorem dX10_move_33 : decode cX10_move 33 = .ok (.invokevirtual 83, 3) := by decide +kernel
theorem dX10_move_36 : decode cX10_move 36 = .ok (.ifCond .ne 5, 3) := by decide +kernel
theorem dX10_move_39 : decode cX10_move 39 = .ok (.iconst (-1), 1) := by decide +kernel
theorem dX10_move_40 : decode cX10_move 40 = .ok (.ireturn, 1) := by decide +kernel
theorem dX10_move_41 : decode cX10_move 41 = .ok (.iload_n 3, 1) := by decide +kernel
theorem dX10_move_42 : decode cX10_move 42 = .ok (.iconst 1, 1) := by decide +kernel
theorem dX10_move_43 : decode cX10_move 43 = .ok (.aload 4, 2) := by decide +kernel
theorem dX10_move_45 : decode cX10_move 45 = .ok (.invokevirtual 67, 3) := by decide +kernel
theorem dX10_move_48 : decode cX10_move 48 = .ok (.invokestatic 61, 3) := by decide +kernel
theorem dX10_move_51 : decode cX10_move 51 = .ok (.ifCond .eq 15, 3) := by decide +kernel
theorem dX10_move_54 : decode cX10_move 54 = .ok (.iload_n 3, 1) := by decide +kernel
theorem dX10_move_55 : decode cX10_move 55 = .ok (.ldc 66, 2) := by decide +kernel
theorem dX10_move_57 : decode cX10_move 57 = .ok (.aload 5, 2) := by decide +kernel
theorem dX10_move_59 : decode cX10_move 59 = .ok (.invokevirtual 67, 3) := by decide +kernel
theorem dX10_move_62 : decode cX10_move 62 = .ok (.isub, 1) := by decide +kernel
theorem dX10_move_63 : decode cX10_move 63 = .ok (.if_icmp .le 5, 3) := by decide +kernel
theorem dX10_move_66 : decode cX10_move 66 = .ok (.iconst (-1), 1) := by decide +kernel
theorem dX10_move_67 : decode cX10_move 67 = .ok (.ireturn, 1) := by decide +kernel
theorem dX10_move_68 : decode cX10_move 68 = .ok (.aload 4, 2) := by decide +kernel
theorem dX10_move_70 : decode cX10_move 70 = .ok (.aload 5, 2) := by decide +kernel
theorem dX10_move_72 : decode cX10_move 72 = .ok (.iload_n 3, 1) := by decide +kernel
theorem dX10_move_73 : decode cX10_move 73 = .ok (.aload_n 0, 1) := by decide +kernel
theorem dX10_move_74 : decode cX10_move 74 = .ok (.getfield 18, 3) := by decide +kernel
theorem dX10_move_77 : decode cX10_move 77 = .ok (.invokevirtual 87, 3) := by decide +kernel
theorem dX10_move_80 : decode cX10_move 80 = .ok (.aload 5, 2) := by decide +kernel
theorem dX10_move_82 : decode cX10_move 82 = .ok (.invokevirtual 67, 3) := by decide +kernel
theorem dX10_move_85 : decode cX10_move 85 = .ok (.ireturn, 1) := by decide +kernel
theorem dX10_turn_0 : decode cX10_turn 0 = .ok (.aload_n 0, 1) := by decide +kernel
theorem dX10_turn_1 : decode cX10_turn 1 = .ok (.iconst 1, 1) := by decide +kernel
theorem dX10_turn_2 : decode cX10_turn 2 = .ok (.iload_n 1, 1) := by decide +kernel
theorem dX10_turn_3 : decode cX10_turn 3 = .ok (.invokevirtual 57, 3) := by decide +kernel
theorem dX10_turn_6 : decode cX10_turn 6 = .ok (.iconst 1, 1) := by decide +kernel
theorem dX10_turn_7 : decode cX10_turn 7 = .ok (.invokestatic 91, 3) := by decide +kernel
theorem dX10_turn_10 : decode cX10_turn 10 = .ok (.ireturn, 1) := by decide +kernel
theorem dX10_cover_0 : decode cX10_cover 0 = .ok (.aload_n 0, 1) := by decide +kernel
theorem dX10_cover_1 : decode cX10_cover 1 = .ok (.iconst 2, 1) := by decide +kernel
theorem dX10_cover_2 : decode cX10_cover 2 = .ok (.iload_n 1, 1) := by decide +kernel
theorem dX10_cover_3 : decode cX10_cover 3 = .ok (.invokevirtual 57, 3) := by decide +kernel
theorem dX10_cover_6 : decode cX10_cover 6 = .ok (.iload_n 2, 1) := by decide +kernel
theorem dX10_cover_7 : decode cX10_cover 7 = .ok (.invokestatic 91, 3) := by decide +kernel
theorem dX10_cover_10 : decode cX10_cover 10 = .ok (.ireturn, 1) := by decide +kernel
theorem dX10_day_0 : decode cX10_day 0 = .ok (.iload_n 1, 1) := by decide +kernel
theorem dX10_day_1 : decode cX10_day 1 = .ok (.iconst 0, 1) := by decide +kernel
theorem dX10_day_2 : decode cX10_day 2 = .ok (.bipush 12, 2) := by decide +kernel
theorem dX10_day_4 : decode cX10_day 4 = .ok (.invokestatic 61, 3) := by decide +kernel
theorem dX10_day_7 : decode cX10_day 7 = .ok (.ifCond .ne 5, 3) := by decide +kernel
theorem dX10_day_10 : decode cX10_day 10 = .ok (.iconst (-1), 1) := by decide +kernel
theorem dX10_day_11 : decode cX10_day 11 = .ok (.ireturn, 1) := by decide +kernel
theorem dX10_day_12 : decode cX10_day 12 = .ok (.iconst 0, 1) := by decide +kernel
theorem dX10_day_13 : decode cX10_day 13 = .ok (.istore_n 3, 1) := by decide +kernel
theorem dX10_day_14 : decode cX10_day 14 = .ok (.iload_n 3, 1) := by decide +kernel
theorem dX10_day_15 : decode cX10_day 15 = .ok (.aload_n 0, 1) := by decide +kernel
theorem dX10_day_16 : decode cX10_day 16 = .ok (.getfield 52, 3) := by decide +kernel
theorem dX10_day_19 : decode cX10_day 19 = .ok (.if_icmp .ge 20, 3) := by decide +kernel
theorem dX10_day_22 : decode cX10_day 22 = .ok (.aload_n 0, 1) := by decide +kernel
theorem dX10_day_23 : decode cX10_day 23 = .ok (.getfield 11, 3) := by decide +kernel
theorem dX10_day_26 : decode cX10_day 26 = .ok (.iload_n 3, 1) := by decide +kernel
theorem dX10_day_27 : decode cX10_day 27 = .ok (.aaload, 1) := by decide +kernel
theorem dX10_day_28 : decode cX10_day 28 = .ok (.iload_n 1, 1) := by decide +kernel
theorem dX10_day_29 : decode cX10_day 29 = .ok (.iload_n 2, 1) := by decide +kernel
theorem dX10_day_30 : decode cX10_day 30 = .ok (.invokevirtual 95, 3) := by decide +kernel
theorem dX10_day_33 : decode cX10_day 33 = .ok (.iinc 3 1, 3) := by decide +kernel
theorem dX10_day_36 : decode cX10_day 36 = .ok (.goto (-22), 3) := by decide +kernel
theorem dX10_day_39 : decode cX10_day 39 = .ok (.aload_n 0, 1) := by decide +kernel
theorem dX10_day_40 : decode cX10_day 40 = .ok (.dup, 1) := by decide +kernel
theorem dX10_day_41 : decode cX10_day 41 = .ok (.getfield 99, 3) := by decide +kernel
theorem dX10_day_44 : decode cX10_day 44 = .ok (.iconst 1, 1) := by decide +kernel
theorem dX10_day_45 : decode cX10_day 45 = .ok (.iadd, 1) := by decide +kernel
theorem dX10_day_46 : decode cX10_day 46 = .ok (.putfield 99, 3) := by decide +kernel
theorem dX10_day_49 : decode cX10_day 49 = .ok (.aload_n 0, 1) := by decide +kernel
theorem dX10_day_50 : decode cX10_day 50 = .ok (.getfield 99, 3) := by decide +kernel
theorem dX10_day_53 : decode cX10_day 53 = .ok (.ireturn, 1) := by decide +kernel
theorem dX10_cut_0 : decode cX10_cut 0 = .ok (.aload_n 0, 1) := by decide +kernel
theorem dX10_cut_1 : decode cX10_cut 1 = .ok (.iconst 3, 1) := by decide +kernel
theorem dX10_cut_2 : decode cX10_cut 2 = .ok (.iload_n 1, 1) := by decide +kernel
theorem dX10_cut_3 : decode cX10_cut 3 = .ok (.invokevirtual 57, 3) := by decide +kernel
theorem dX10_cut_6 : decode cX10_cut 6 = .ok (.astore 5, 2) := by decide +kernel
theorem dX10_cut_8 : decode cX10_cut 8 = .ok (.aload 5, 2) := by decide +kernel
theorem dX10_cut_10 : decode cX10_cut 10 = .ok (.ifnull 21, 3) := by decide +kernel
theorem dX10_cut_13 : decode cX10_cut 13 = .ok (.aload 5, 2) := by decide +kernel
theorem dX10_cut_15 : decode cX10_cut 15 = .ok (.invokevirtual 102, 3) := by decide +kernel
theorem dX10_cut_18 : decode cX10_cut 18 = .ok (.ifCond .eq 13, 3) := by decide +kernel
theorem dX10_cut_21 : decode cX10_cut 21 = .ok (.iload_n 2, 1) := by decide +kernel
theorem dX10_cut_22 : decode cX10_cut 22 = .ok (.iload_n 3, 1) := by decide +kernel
theorem dX10_cut_23 : decode cX10_cut 23 = .ok (.iload 4, 2) := by decide +kernel
theorem dX10_cut_25 : decode cX10_cut 25 = .ok (.invokestatic 106, 3) := by decide +kernel
theorem dX10_cut_28 : decode cX10_cut 28 = .ok (.ifCond .ne 5, 3) := by decide +kernel
theorem dX10_cut_31 : decode cX10_cut 31 = .ok (.iconst (-1), 1) := by decide +kernel
theorem dX10_cut_32 : decode cX10_cut 32 = .ok (.ireturn, 1) := by decide +kernel
theorem dX10_cut_33 : decode cX10_cut 33 = .ok (.aload 5, 2) := by decide +kernel
theorem dX10_cut_35 : decode cX10_cut 35 = .ok (.iload_n 2, 1) := by decide +kernel
theorem dX10_cut_36 : decode cX10_cut 36 = .ok (.iload_n 3, 1) := by decide +kernel
theorem dX10_cut_37 : decode cX10_cut 37 = .ok (.iload 4, 2) := by decide +kernel
theorem dX10_cut_39 : decode cX10_cut 39 = .ok (.invokevirtual 109, 3) := by decide +kernel
theorem dX10_cut_42 : decode cX10_cut 42 = .ok (.aload 5, 2) := by decide +kernel
theorem dX10_cut_44 : decode cX10_cut 44 = .ok (.getfield 112, 3) := by decide +kernel
theorem dX10_cut_47 : decode cX10_cut 47 = .ok (.ireturn, 1) := by decide +kernel
theorem dX10_feed_0 : decode cX10_feed 0 = .ok (.iload_n 1, 1) := by decide +kernel
theorem dX10_feed_1 : decode cX10_feed 1 = .ok (.invokestatic 115, 3) := by decide +kernel
theorem dX10_feed_4 : decode cX10_feed 4 = .ok (.iload_n 2, 1) := by decide +kernel
theorem dX10_feed_5 : decode cX10_feed 5 = .ok (.invokestatic 115, 3) := by decide +kernel
theorem dX10_feed_8 : decode cX10_feed 8 = .ok (.iadd, 1) := by decide +kernel
theorem dX10_feed_9 : decode cX10_feed 9 = .ok (.iload_n 3, 1) := by decide +kernel
theorem dX10_feed_10 : decode cX10_feed 10 = .ok (.invokestatic 115, 3) := by decide +kernel
theorem dX10_feed_13 : decode cX10_feed 13 = .ok (.iadd, 1) := by decide +kernel
theorem dX10_feed_14 : decode cX10_feed 14 = .ok (.iload 4, 2) := by decide +kernel
theorem dX10_feed_16 : decode cX10_feed 16 = .ok (.invokestatic 115, 3) := by decide +kernel
theorem dX10_feed_19 : decode cX10_feed 19 = .ok (.iadd, 1) := by decide +kernel
theorem dX10_feed_20 : decode cX10_feed 20 = .ok (.iload 5, 2) := by decide +kernel
theorem dX10_feed_22 : decode cX10_feed 22 = .ok (.invokestatic 115, 3) := by decide +kernel
theorem dX10_feed_25 : decode cX10_feed 25 = .ok (.iadd, 1) := by decide +kernel
theorem dX10_feed_26 : decode cX10_feed 26 = .ok (.istore 6, 2) := by decide +kernel
theorem dX10_feed_28 : decode cX10_feed 28 = .ok (.iload 6, 2) := by decide +kernel
theorem dX10_feed_30 : decode cX10_feed 30 = .ok (.sipush 200, 3) := by decide +kernel
theorem dX10_feed_33 : decode cX10_feed 33 = .ok (.aload_n 0, 1) := by decide +kernel
theorem dX10_feed_34 : decode cX10_feed 34 = .ok (.getfield 27, 3) := by decide +kernel
theorem dX10_feed_37 : decode cX10_feed 37 = .ok (.getfield 119, 3) := by decide +kernel
theorem dX10_feed_40 : decode cX10_feed 40 = .ok (.isub, 1) := by decide +kernel
theorem dX10_feed_41 : decode cX10_feed 41 = .ok (.if_icmp .le 5, 3) := by decide +kernel
theorem dX10_feed_44 : decode cX10_feed 44 = .ok (.iconst (-1), 1) := by decide +kernel
theorem dX10_feed_45 : decode cX10_feed 45 = .ok (.ireturn, 1) := by decide +kernel
theorem dX10_feed_46 : decode cX10_feed 46 = .ok (.aload_n 0, 1) := by decide +kernel
theorem dX10_feed_47 : decode cX10_feed 47 = .ok (.getfield 27, 3) := by decide +kernel
theorem dX10_feed_50 : decode cX10_feed 50 = .ok (.iload_n 1, 1) := by decide +kernel
theorem dX10_feed_51 : decode cX10_feed 51 = .ok (.invokevirtual 122, 3) := by decide +kernel
theorem dX10_feed_54 : decode cX10_feed 54 = .ok (.aload_n 0, 1) := by decide +kernel
theorem dX10_feed_55 : decode cX10_feed 55 = .ok (.getfield 27, 3) := by decide +kernel
theorem dX10_feed_58 : decode cX10_feed 58 = .ok (.iload_n 2, 1) := by decide +kernel
theorem dX10_feed_59 : decode cX10_feed 59 = .ok (.invokevirtual 122, 3) := by decide +kernel
theorem dX10_feed_62 : decode cX10_feed 62 = .ok (.aload_n 0, 1) := by decide +kernel
theorem dX10_feed_63 : decode cX10_feed 63 = .ok (.getfield 27, 3) := by decide +kernel
theorem dX10_feed_66 : decode cX10_feed 66 = .ok (.iload_n 3, 1) := by decide +kernel
theorem dX10_feed_67 : decode cX10_feed 67 = .ok (.invokevirtual 122, 3) := by decide +kernel
theorem dX10_feed_70 : decode cX10_feed 70 = .ok (.aload_n 0, 1) := by decide +kernel
theorem dX10_feed_71 : decode cX10_feed 71 = .ok (.getfield 27, 3) := by decide +kernel
theorem dX10_feed_74 : decode cX10_feed 74 = .ok (.iload 4, 2) := by decide +kernel
theorem dX10_feed_76 : decode cX10_feed 76 = .ok (.invokevirtual 122, 3) := by decide +kernel
theorem dX10_feed_79 : decode cX10_feed 79 = .ok (.aload_n 0, 1) := by decide +kernel
theorem dX10_feed_80 : decode cX10_feed 80 = .ok (.getfield 27, 3) := by decide +kernel
theorem dX10_feed_83 : decode cX10_feed 83 = .ok (.iload 5, 2) := by decide +kernel
theorem dX10_feed_85 : decode cX10_feed 85 = .ok (.invokevirtual 122, 3) := by decide +kernel
theorem dX10_feed_88 : decode cX10_feed 88 = .ok (.aload_n 0, 1) := by decide +kernel
theorem dX10_feed_89 : decode cX10_feed 89 = .ok (.getfield 27, 3) := by decide +kernel
theorem dX10_feed_92 : decode cX10_feed 92 = .ok (.getfield 119, 3) := by decide +kernel
theorem dX10_feed_95 : decode cX10_feed 95 = .ok (.ireturn, 1) := by decide +kernel
