theorem dX11_job_0 : decode cX11_job 0 = .ok (.iload_n 1, 1) := by decide +kernel
theorem dX11_job_1 : decode cX11_job 1 = .ok (.iconst 0, 1) := by decide +kernel
theorem dX11_job_2 : decode cX11_job 2 = .ok (.bipush 59, 2) := by decide +kernel
theorem dX11_job_4 : decode cX11_job 4 = .ok (.invokestatic 115, 3) := by decide +kernel
theorem dX11_job_7 : decode cX11_job 7 = .ok (.ifCond .eq 22, 3) := by decide +kernel
theorem dX11_job_10 : decode cX11_job 10 = .ok (.iload_n 2, 1) := by decide +kernel
theorem dX11_job_11 : decode cX11_job 11 = .ok (.iload_n 1, 1) := by decide +kernel
theorem dX11_job_12 : decode cX11_job 12 = .ok (.bipush 59, 2) := by decide +kernel
theorem dX11_job_14 : decode cX11_job 14 = .ok (.invokestatic 115, 3) := by decide +kernel
theorem dX11_job_17 : decode cX11_job 17 = .ok (.ifCond .eq 12, 3) := by decide +kernel
theorem dX11_job_20 : decode cX11_job 20 = .ok (.aload_n 0, 1) := by decide +kernel
theorem dX11_job_21 : decode cX11_job 21 = .ok (.getfield 245, 3) := by decide +kernel
theorem dX11_job_24 : decode cX11_job 24 = .ok (.bipush 60, 2) := by decide +kernel
theorem dX11_job_26 : decode cX11_job 26 = .ok (.if_icmp .ne 5, 3) := by decide +kernel
theorem dX11_job_29 : decode cX11_job 29 = .ok (.iconst (-1), 1) := by decide +kernel
theorem dX11_job_30 : decode cX11_job 30 = .ok (.ireturn, 1) := by decide +kernel
theorem dX11_job_31 : decode cX11_job 31 = .ok (.aload_n 0, 1) := by decide +kernel
theorem dX11_job_32 : decode cX11_job 32 = .ok (.getfield 99, 3) := by decide +kernel
theorem dX11_job_35 : decode cX11_job 35 = .ok (.aload_n 0, 1) := by decide +kernel
theorem dX11_job_36 : decode cX11_job 36 = .ok (.getfield 245, 3) := by decide +kernel
theorem dX11_job_39 : decode cX11_job 39 = .ok (.iload_n 1, 1) := by decide +kernel
theorem dX11_job_40 : decode cX11_job 40 = .ok (.iastore, 1) := by decide +kernel
theorem dX11_job_41 : decode cX11_job 41 = .ok (.aload_n 0, 1) := by decide +kernel
theorem dX11_job_42 : decode cX11_job 42 = .ok (.getfield 102, 3) := by decide +kernel
theorem dX11_job_45 : decode cX11_job 45 = .ok (.aload_n 0, 1) := by decide +kernel
theorem dX11_job_46 : decode cX11_job 46 = .ok (.getfield 245, 3) := by decide +kernel
theorem dX11_job_49 : decode cX11_job 49 = .ok (.iload_n 2, 1) := by decide +kernel
theorem dX11_job_50 : decode cX11_job 50 = .ok (.iastore, 1) := by decide +kernel
theorem dX11_job_51 : decode cX11_job 51 = .ok (.aload_n 0, 1) := by decide +kernel
theorem dX11_job_52 : decode cX11_job 52 = .ok (.dup, 1) := by decide +kernel
theorem dX11_job_53 : decode cX11_job 53 = .ok (.getfield 245, 3) := by decide +kernel
theorem dX11_job_56 : decode cX11_job 56 = .ok (.iconst 1, 1) := by decide +kernel
theorem dX11_job_57 : decode cX11_job 57 = .ok (.iadd, 1) := by decide +kernel
theorem dX11_job_58 : decode cX11_job 58 = .ok (.putfield 245, 3) := by decide +kernel
theorem dX11_job_61 : decode cX11_job 61 = .ok (.aload_n 0, 1) := by decide +kernel
theorem dX11_job_62 : decode cX11_job 62 = .ok (.getfield 245, 3) := by decide +kernel
theorem dX11_job_65 : decode cX11_job 65 = .ok (.iconst 1, 1) := by decide +kernel
theorem dX11_job_66 : decode cX11_job 66 = .ok (.isub, 1) := by decide +kernel
theorem dX11_job_67 : decode cX11_job 67 = .ok (.ireturn, 1) := by decide +kernel
theorem dX11_places_0 : decode cX11_places 0 = .ok (.iload_n 1, 1) := by decide +kernel
theorem dX11_places_1 : decode cX11_places 1 = .ok (.iconst 0, 1) := by decide +kernel
theorem dX11_places_2 : decode cX11_places 2 = .ok (.bipush 59, 2) := by decide +kernel
theorem dX11_places_4 : decode cX11_places 4 = .ok (.invokestatic 115, 3) := by decide +kernel
theorem dX11_places_7 : decode cX11_places 7 = .ok (.ifCond .eq 13, 3) := by decide +kernel
theorem dX11_places_10 : decode cX11_places 10 = .ok (.iload_n 2, 1) := by decide +kernel
theorem dX11_places_11 : decode cX11_places 11 = .ok (.iconst 0, 1) := by decide +kernel
theorem dX11_places_12 : decode cX11_places 12 = .ok (.bipush 9, 2) := by decide +kernel
theorem dX11_places_14 : decode cX11_places 14 = .ok (.invokestatic 115, 3) := by decide +kernel
theorem dX11_places_17 : decode cX11_places 17 = .ok (.ifCond .ne 5, 3) := by decide +kernel
theorem dX11_places_20 : decode cX11_places 20 = .ok (.iconst 0, 1) := by decide +kernel
theorem dX11_places_21 : decode cX11_places 21 = .ok (.ireturn, 1) := by decide +kernel
theorem dX11_places_22 : decode cX11_places 22 = .ok (.aload_n 0, 1) := by decide +kernel
theorem dX11_places_23 : decode cX11_places 23 = .ok (.getfield 108, 3) := by decide +kernel
theorem dX11_places_26 : decode cX11_places 26 = .ok (.iload_n 1, 1) := by decide +kernel
theorem dX11_places_27 : decode cX11_places 27 = .ok (.iload_n 2, 1) := by decide +kernel
theorem dX11_places_28 : decode cX11_places 28 = .ok (.iastore, 1) := by decide +kernel
theorem dX11_places_29 : decode cX11_places 29 = .ok (.iconst 1, 1) := by decide +kernel
theorem dX11_places_30 : decode cX11_places 30 = .ok (.ireturn, 1) := by decide +kernel
theorem dX11_plans_0 : decode cX11_plans 0 = .ok (.iconst 0, 1) := by decide +kernel
theorem dX11_plans_1 : decode cX11_plans 1 = .ok (.istore_n 1, 1) := by decide +kernel
theorem dX11_plans_2 : decode cX11_plans 2 = .ok (.iload_n 1, 1) := by decide +kernel
theorem dX11_plans_3 : decode cX11_plans 3 = .ok (.aload_n 0, 1) := by decide +kernel
theorem dX11_plans_4 : decode cX11_plans 4 = .ok (.getfield 245, 3) := by decide +kernel
theorem dX11_plans_7 : decode cX11_plans 7 = .ok (.if_icmp .ge 16, 3) := by decide +kernel
theorem dX11_plans_10 : decode cX11_plans 10 = .ok (.aload_n 0, 1) := by decide +kernel
theorem dX11_plans_11 : decode cX11_plans 11 = .ok (.getfield 105, 3) := by decide +kernel
theorem dX11_plans_14 : decode cX11_plans 14 = .ok (.iload_n 1, 1) := by decide +kernel
theorem dX11_plans_15 : decode cX11_plans 15 = .ok (.iconst (-1), 1) := by decide +kernel
theorem dX11_plans_16 : decode cX11_plans 16 = .ok (.iastore, 1) := by decide +kernel
theorem dX11_plans_17 : decode cX11_plans 17 = .ok (.iinc 1 1, 3) := by decide +kernel
theorem dX11_plans_20 : decode cX11_plans 20 = .ok (.goto (-18), 3) := by decide +kernel
theorem dX11_plans_23 : decode cX11_plans 23 = .ok (.iconst 0, 1) := by decide +kernel
theorem dX11_plans_24 : decode cX11_plans 24 = .ok (.istore_n 1, 1) := by decide +kernel
theorem dX11_plans_25 : decode cX11_plans 25 = .ok (.iload_n 1, 1) := by decide +kernel
theorem dX11_plans_26 : decode cX11_plans 26 = .ok (.bipush 60, 2) := by decide +kernel
theorem dX11_plans_28 : decode cX11_plans 28 = .ok (.if_icmp .ge 116, 3) := by decide +kernel
theorem dX11_plans_31 : decode cX11_plans 31 = .ok (.iconst 0, 1) := by decide +kernel
theorem dX11_plans_32 : decode cX11_plans 32 = .ok (.istore_n 2, 1) := by decide +kernel
theorem dX11_plans_33 : decode cX11_plans 33 = .ok (.iload_n 2, 1) := by decide +kernel
theorem dX11_plans_34 : decode cX11_plans 34 = .ok (.aload_n 0, 1) := by decide +kernel
theorem dX11_plans_35 : decode cX11_plans 35 = .ok (.getfield 108, 3) := by decide +kernel
theorem dX11_plans_38 : decode cX11_plans 38 = .ok (.iload_n 1, 1) := by decide +kernel
theorem dX11_plans_39 : decode cX11_plans 39 = .ok (.iaload, 1) := by decide +kernel
theorem dX11_plans_40 : decode cX11_plans 40 = .ok (.if_icmp .ge 98, 3) := by decide +kernel
theorem dX11_plans_43 : decode cX11_plans 43 = .ok (.iconst (-1), 1) := by decide +kernel
theorem dX11_plans_44 : decode cX11_plans 44 = .ok (.istore_n 3, 1) := by decide +kernel
theorem dX11_plans_45 : decode cX11_plans 45 = .ok (.iconst 0, 1) := by decide +kernel
theorem dX11_plans_46 : decode cX11_plans 46 = .ok (.istore 4, 2) := by decide +kernel
theorem dX11_plans_48 : decode cX11_plans 48 = .ok (.iload 4, 2) := by decide +kernel
theorem dX11_plans_50 : decode cX11_plans 50 = .ok (.aload_n 0, 1) := by decide +kernel
theorem dX11_plans_51 : decode cX11_plans 51 = .ok (.getfield 245, 3) := by decide +kernel
theorem dX11_plans_54 : decode cX11_plans 54 = .ok (.if_icmp .ge 66, 3) := by decide +kernel
theorem dX11_plans_57 : decode cX11_plans 57 = .ok (.aload_n 0, 1) := by decide +kernel
theorem dX11_plans_58 : decode cX11_plans 58 = .ok (.getfield 105, 3) := by decide +kernel
theorem dX11_plans_61 : decode cX11_plans 61 = .ok (.iload 4, 2) := by decide +kernel
theorem dX11_plans_63 : decode cX11_plans 63 = .ok (.iaload, 1) := by decide +kernel
theorem dX11_plans_64 : decode cX11_plans 64 = .ok (.iconst (-1), 1) := by decide +kernel
theorem dX11_plans_65 : decode cX11_plans 65 = .ok (.if_icmp .ne 49, 3) := by decide +kernel
theorem dX11_plans_68 : decode cX11_plans 68 = .ok (.aload_n 0, 1) := by decide +kernel
theorem dX11_plans_69 : decode cX11_plans 69 = .ok (.getfield 99, 3) := by decide +kernel
theorem dX11_plans_72 : decode cX11_plans 72 = .ok (.iload 4, 2) := by decide +kernel
theorem dX11_plans_74 : decode cX11_plans 74 = .ok (.iaload, 1) := by decide +kernel
theorem dX11_plans_75 : decode cX11_plans 75 = .ok (.iload_n 1, 1) := by decide +kernel
theorem dX11_plans_76 : decode cX11_plans 76 = .ok (.if_icmp .gt 38, 3) := by decide +kernel
theorem dX11_plans_79 : decode cX11_plans 79 = .ok (.aload_n 0, 1) := by decide +kernel
theorem dX11_plans_80 : decode cX11_plans 80 = .ok (.getfield 102, 3) := by decide +kernel
theorem dX11_plans_83 : decode cX11_plans 83 = .ok (.iload 4, 2) := by decide +kernel
theorem dX11_plans_85 : decode cX11_plans 85 = .ok (.iaload, 1) := by decide +kernel
theorem dX11_plans_86 : decode cX11_plans 86 = .ok (.iload_n 1, 1) := by decide +kernel
theorem dX11_plans_87 : decode cX11_plans 87 = .ok (.if_icmp .lt 27, 3) := by decide +kernel
theorem dX11_plans_90 : decode cX11_plans 90 = .ok (.iload_n 3, 1) := by decide +kernel
theorem dX11_plans_91 : decode cX11_plans 91 = .ok (.iconst (-1), 1) := by decide +kernel
theorem dX11_plans_92 : decode cX11_plans 92 = .ok (.if_icmp .eq 19, 3) := by decide +kernel
theorem dX11_plans_95 : decode cX11_plans 95 = .ok (.aload_n 0, 1) := by decide +kernel
theorem dX11_plans_96 : decode cX11_plans 96 = .ok (.getfield 102, 3) := by decide +kernel
theorem dX11_plans_99 : decode cX11_plans 99 = .ok (.iload 4, 2) := by decide +kernel
theorem dX11_plans_101 : decode cX11_plans 101 = .ok (.iaload, 1) := by decide +kernel
theorem dX11_plans_102 : decode cX11_plans 102 = .ok (.aload_n 0, 1) := by decide +kernel
theorem dX11_plans_103 : decode cX11_plans 103 = .ok (.getfield 102, 3) := by decide +kernel
theorem dX11_plans_106 : decode cX11_plans 106 = .ok (.iload_n 3, 1) := by decide +kernel
theorem dX11_plans_107 : decode cX11_plans 107 = .ok (.iaload, 1) := by decide +kernel
theorem dX11_plans_108 : decode cX11_plans 108 = .ok (.if_icmp .ge 6, 3) := by decide +kernel
theorem dX11_plans_111 : decode cX11_plans 111 = .ok (.iload 4, 2) := by decide +kernel
theorem dX11_plans_113 : decode cX11_plans 113 = .ok (.istore_n 3, 1) := by decide +kernel
theorem dX11_plans_114 : decode cX11_plans 114 = .ok (.iinc 4 1, 3) := by decide +kernel
theorem dX11_plans_117 : decode cX11_plans 117 = .ok (.goto (-69), 3) := by decide +kernel
theorem dX11_plans_120 : decode cX11_plans 120 = .ok (.iload_n 3, 1) := by decide +kernel
theorem dX11_plans_121 : decode cX11_plans 121 = .ok (.iconst (-1), 1) := by decide +kernel
theorem dX11_plans_122 : decode cX11_plans 122 = .ok (.if_icmp .eq 10, 3) := by decide +kernel
theorem dX11_plans_125 : decode cX11_plans 125 = .ok (.aload_n 0, 1) := by decide +kernel
theorem dX11_plans_126 : decode cX11_plans 126 = .ok (.getfield 105, 3) := by decide +kernel
theorem dX11_plans_129 : decode cX11_plans 129 = .ok (.iload_n 3, 1) := by decide +kernel
theorem dX11_plans_130 : decode cX11_plans 130 = .ok (.iload_n 1, 1) := by decide +kernel
theorem dX11_plans_131 : decode cX11_plans 131 = .ok (.iastore, 1) := by decide +kernel
theorem dX11_plans_132 : decode cX11_plans 132 = .ok (.iinc 2 1, 3) := by decide +kernel
theorem dX11_plans_135 : decode cX11_plans 135 = .ok (.goto (-102), 3) := by decide +kernel
theorem dX11_plans_138 : decode cX11_plans 138 = .ok (.iinc 1 1, 3) := by decide +kernel
theorem dX11_plans_141 : decode cX11_plans 141 = .ok (.goto (-116), 3) := by decide +kernel
theorem dX11_plans_144 : decode cX11_plans 144 = .ok (.iconst 0, 1) := by decide +kernel
theorem dX11_plans_145 : decode cX11_plans 145 = .ok (.istore_n 1, 1) := by decide +kernel
theorem dX11_plans_146 : decode cX11_plans 146 = .ok (.iload_n 1, 1) := by decide +kernel
theorem dX11_plans_147 : decode cX11_plans 147 = .ok (.aload_n 0, 1) := by decide +kernel
theorem dX11_plans_148 : decode cX11_plans 148 = .ok (.getfield 245, 3) := by decide +kernel
theorem dX11_plans_151 : decode cX11_plans 151 = .ok (.if_icmp .ge 21, 3) := by decide +kernel
theorem dX11_plans_154 : decode cX11_plans 154 = .ok (.aload_n 0, 1) := by decide +kernel
theorem dX11_plans_155 : decode cX11_plans 155 = .ok (.getfield 105, 3) := by decide +kernel
theorem dX11_plans_158 : decode cX11_plans 158 = .ok (.iload_n 1, 1) := by decide +kernel
theorem dX11_plans_159 : decode cX11_plans 159 = .ok (.iaload, 1) := by decide +kernel
theorem dX11_plans_160 : decode cX11_plans 160 = .ok (.iconst (-1), 1) := by decide +kernel
theorem dX11_plans_161 : decode cX11_plans 161 = .ok (.if_icmp .ne 5, 3) := by decide +kernel
theorem dX11_plans_164 : decode cX11_plans 164 = .ok (.iconst 0, 1) := by decide +kernel
theorem dX11_plans_165 : decode cX11_plans 165 = .ok (.ireturn, 1) := by decide +kernel
theorem dX11_plans_166 : decode cX11_plans 166 = .ok (.iinc 1 1, 3) := by decide +kernel
theorem dX11_plans_169 : decode cX11_plans 169 = .ok (.goto (-23), 3) := by decide +kernel
theorem dX11_plans_172 : decode cX11_plans 172 = .ok (.iconst 1, 1) := by decide +kernel
theorem dX11_plans_173 : decode cX11_plans 173 = .ok (.ireturn, 1) := by decide +kernel
theorem dX11_planned_0 : decode cX11_planned 0 = .ok (.iload_n 1, 1) := by decide +kernel
theorem dX11_planned_1 : decode cX11_planned 1 = .ok (.iconst 0, 1) := by decide +kernel
theorem dX11_planned_2 : decode cX11_planned 2 = .ok (.aload_n 0, 1) := by decide +kernel
theorem dX11_planned_3 : decode cX11_planned 3 = .ok (.getfield 245, 3) := by decide +kernel
theorem dX11_planned_6 : decode cX11_planned 6 = .ok (.iconst 1, 1) := by decide +kernel
theorem dX11_planned_7 : decode cX11_planned 7 = .ok (.isub, 1) := by decide +kernel
theorem dX11_planned_8 : decode cX11_planned 8 = .ok (.invokestatic 115, 3) := by decide +kernel
theorem dX11_planned_11 : decode cX11_planned 11 = .ok (.ifCond .eq 19, 3) := by decide +kernel
theorem dX11_planned_14 : decode cX11_planned 14 = .ok (.aload_n 0, 1) := by decide +kernel
theorem dX11_planned_15 : decode cX11_planned 15 = .ok (.invokevirtual 248, 3) := by decide +kernel
theorem dX11_planned_18 : decode cX11_planned 18 = .ok (.ifCond .eq 12, 3) := by decide +kernel
theorem dX11_planned_21 : decode cX11_planned 21 = .ok (.aload_n 0, 1) := by decide +kernel
theorem dX11_planned_22 : decode cX11_planned 22 = .ok (.getfield 105, 3) := by decide +kernel
theorem dX11_planned_25 : decode cX11_planned 25 = .ok (.iload_n 1, 1) := by decide +kernel
theorem dX11_planned_26 : decode cX11_planned 26 = .ok (.iaload, 1) := by decide +kernel
theorem dX11_planned_27 : decode cX11_planned 27 = .ok (.goto 4, 3) := by decide +kernel
theorem dX11_planned_30 : decode cX11_planned 30 = .ok (.iconst (-1), 1) := by decide +kernel
theorem dX11_planned_31 : decode cX11_planned 31 = .ok (.ireturn, 1) := by decide +kernel
theorem dX11_isTooMany_0 : decode cX11_isTooMany 0 = .ok (.iconst 0, 1) := by decide +kernel
theorem dX11_isTooMany_1 : decode cX11_isTooMany 1 = .ok (.istore_n 3, 1) := by decide +kernel
theorem dX11_isTooMany_2 : decode cX11_isTooMany 2 = .ok (.iconst 0, 1) := by decide +kernel
theorem dX11_isTooMany_3 : decode cX11_isTooMany 3 = .ok (.istore 4, 2) := by decide +kernel
theorem dX11_isTooMany_5 : decode cX11_isTooMany 5 = .ok (.iload 4, 2) := by decide +kernel
theorem dX11_isTooMany_7 : decode cX11_isTooMany 7 = .ok (.aload_n 0, 1) := by decide +kernel
theorem dX11_isTooMany_8 : decode cX11_isTooMany 8 = .ok (.getfield 245, 3) := by decide +kernel
theorem dX11_isTooMany_11 : decode cX11_isTooMany 11 = .ok (.if_icmp .ge 39, 3) := by decide +kernel
theorem dX11_isTooMany_14 : decode cX11_isTooMany 14 = .ok (.iload_n 3, 1) := by decide +kernel
theorem dX11_isTooMany_15 : decode cX11_isTooMany 15 = .ok (.aload_n 0, 1) := by decide +kernel
theorem dX11_isTooMany_16 : decode cX11_isTooMany 16 = .ok (.getfield 99, 3) := by decide +kernel
theorem dX11_isTooMany_19 : decode cX11_isTooMany 19 = .ok (.iload 4, 2) := by decide +kernel
theorem dX11_isTooMany_21 : decode cX11_isTooMany 21 = .ok (.iaload, 1) := by decide +kernel
theorem dX11_isTooMany_22 : decode cX11_isTooMany 22 = .ok (.iload_n 1, 1) := by decide +kernel
theorem dX11_isTooMany_23 : decode cX11_isTooMany 23 = .ok (.if_icmp .lt 18, 3) := by decide +kernel
theorem dX11_isTooMany_26 : decode cX11_isTooMany 26 = .ok (.aload_n 0, 1) := by decide +kernel
theorem dX11_isTooMany_27 : decode cX11_isTooMany 27 = .ok (.getfield 102, 3) := by decide +kernel
theorem dX11_isTooMany_30 : decode cX11_isTooMany 30 = .ok (.iload 4, 2) := by decide +kernel
theorem dX11_isTooMany_32 : decode cX11_isTooMany 32 = .ok (.iaload, 1) := by decide +kernel
theorem dX11_isTooMany_33 : decode cX11_isTooMany 33 = .ok (.iload_n 2, 1) := by decide +kernel
theorem dX11_isTooMany_34 : decode cX11_isTooMany 34 = .ok (.if_icmp .gt 7, 3) := by decide +kernel
theorem dX11_isTooMany_37 : decode cX11_isTooMany 37 = .ok (.iconst 1, 1) := by decide +kernel
theorem dX11_isTooMany_38 : decode cX11_isTooMany 38 = .ok (.goto 4, 3) := by decide +kernel
theorem dX11_isTooMany_41 : decode cX11_isTooMany 41 = .ok (.iconst 0, 1) := by decide +kernel
theorem dX11_isTooMany_42 : decode cX11_isTooMany 42 = .ok (.iadd, 1) := by decide +kernel
theorem dX11_isTooMany_43 : decode cX11_isTooMany 43 = .ok (.istore_n 3, 1) := by decide +kernel
theorem dX11_isTooMany_44 : decode cX11_isTooMany 44 = .ok (.iinc 4 1, 3) := by decide +kernel
theorem dX11_isTooMany_47 : decode cX11_isTooMany 47 = .ok (.goto (-42), 3) := by decide +kernel
theorem dX11_isTooMany_50 : decode cX11_isTooMany 50 = .ok (.iload_n 1, 1) := by decide +kernel
theorem dX11_isTooMany_51 : decode cX11_isTooMany 51 = .ok (.istore 4, 2) := by decide +kernel
theorem dX11_isTooMany_53 : decode cX11_isTooMany 53 = .ok (.iload 4, 2) := by decide +kernel
theorem dX11_isTooMany_55 : decode cX11_isTooMany 55 = .ok (.iload_n 2, 1) := by decide +kernel
theorem dX11_isTooMany_56 : decode cX11_isTooMany 56 = .ok (.if_icmp .gt 19, 3) := by decide +kernel
theorem dX11_isTooMany_59 : decode cX11_isTooMany 59 = .ok (.iload_n 3, 1) := by decide +kernel
theorem dX11_isTooMany_60 : decode cX11_isTooMany 60 = .ok (.aload_n 0, 1) := by decide +kernel
theorem dX11_isTooMany_61 : decode cX11_isTooMany 61 = .ok (.getfield 108, 3) := by decide +kernel
theorem dX11_isTooMany_64 : decode cX11_isTooMany 64 = .ok (.iload 4, 2) := by decide +kernel
theorem dX11_isTooMany_66 : decode cX11_isTooMany 66 = .ok (.iaload, 1) := by decide +kernel
theorem dX11_isTooMany_67 : decode cX11_isTooMany 67 = .ok (.isub, 1) := by decide +kernel
theorem dX11_isTooMany_68 : decode cX11_isTooMany 68 = .ok (.istore_n 3, 1) := by decide +kernel
theorem dX11_isTooMany_69 : decode cX11_isTooMany 69 = .ok (.iinc 4 1, 3) := by decide +kernel
theorem dX11_isTooMany_72 : decode cX11_isTooMany 72 = .ok (.goto (-19), 3) := by decide +kernel
theorem dX11_isTooMany_75 : decode cX11_isTooMany 75 = .ok (.iload_n 3, 1) := by decide +kernel
theorem dX11_isTooMany_76 : decode cX11_isTooMany 76 = .ok (.ifCond .le 7, 3) := by decide +kernel
theorem dX11_isTooMany_79 : decode cX11_isTooMany 79 = .ok (.iconst 1, 1) := by decide +kernel
theorem dX11_isTooMany_80 : decode cX11_isTooMany 80 = .ok (.goto 4, 3) := by decide +kernel
theorem dX11_isTooMany_83 : decode cX11_isTooMany 83 = .ok (.iconst 0, 1) := by decide +kernel
theorem dX11_isTooMany_84 : decode cX11_isTooMany 84 = .ok (.ireturn, 1) := by decide +kernel
theorem dX11_row_0 : decode cX11_row 0 = .ok (.aload_n 0, 1) := by decide +kernel
theorem dX11_row_1 : decode cX11_row 1 = .ok (.invokevirtual 248, 3) := by decide +kernel
theorem dX11_row_4 : decode cX11_row 4 = .ok (.ifCond .eq 5, 3) := by decide +kernel
theorem dX11_row_7 : decode cX11_row 7 = .ok (.iconst (-1), 1) := by decide +kernel
theorem dX11_row_8 : decode cX11_row 8 = .ok (.ireturn, 1) := by decide +kernel
theorem dX11_row_9 : decode cX11_row 9 = .ok (.iconst 0, 1) := by decide +kernel
theorem dX11_row_10 : decode cX11_row 10 = .ok (.istore_n 2, 1) := by decide +kernel
theorem dX11_row_11 : decode cX11_row 11 = .ok (.iload_n 2, 1) := by decide +kernel
theorem dX11_row_12 : decode cX11_row 12 = .ok (.bipush 60, 2) := by decide +kernel
theorem dX11_row_14 : decode cX11_row 14 = .ok (.if_icmp .ge 40, 3) := by decide +kernel
theorem dX11_row_17 : decode cX11_row 17 = .ok (.iload_n 2, 1) := by decide +kernel
theorem dX11_row_18 : decode cX11_row 18 = .ok (.istore_n 3, 1) := by decide +kernel
theorem dX11_row_19 : decode cX11_row 19 = .ok (.iload_n 3, 1) := by decide +kernel
theorem dX11_row_20 : decode cX11_row 20 = .ok (.ifCond .lt 28, 3) := by decide +kernel
theorem dX11_row_23 : decode cX11_row 23 = .ok (.aload_n 0, 1) := by decide +kernel
theorem dX11_row_24 : decode cX11_row 24 = .ok (.iload_n 3, 1) := by decide +kernel
theorem dX11_row_25 : decode cX11_row 25 = .ok (.iload_n 2, 1) := by decide +kernel
theorem dX11_row_26 : decode cX11_row 26 = .ok (.invokevirtual 252, 3) := by decide +kernel
theorem dX11_row_29 : decode cX11_row 29 = .ok (.ifCond .eq 13, 3) := by decide +kernel
theorem dX11_row_32 : decode cX11_row 32 = .ok (.iload_n 1, 1) := by decide +kernel
theorem dX11_row_33 : decode cX11_row 33 = .ok (.ifCond .eq 7, 3) := by decide +kernel
theorem dX11_row_36 : decode cX11_row 36 = .ok (.iload_n 2, 1) := by decide +kernel
theorem dX11_row_37 : decode cX11_row 37 = .ok (.goto 4, 3) := by decide +kernel
theorem dX11_row_40 : decode cX11_row 40 = .ok (.iload_n 3, 1) := by decide +kernel
theorem dX11_row_41 : decode cX11_row 41 = .ok (.ireturn, 1) := by decide +kernel
theorem dX11_row_42 : decode cX11_row 42 = .ok (.iinc 3 (-1), 3) := by decide +kernel
theorem dX11_row_45 : decode cX11_row 45 = .ok (.goto (-26), 3) := by decide +kernel
theorem dX11_row_48 : decode cX11_row 48 = .ok (.iinc 2 1, 3) := by decide +kernel
theorem dX11_row_51 : decode cX11_row 51 = .ok (.goto (-40), 3) := by decide +kernel
theorem dX11_row_54 : decode cX11_row 54 = .ok (.iconst (-1), 1) := by decide +kernel
theorem dX11_row_55 : decode cX11_row 55 = .ok (.ireturn, 1) := by decide +kernel
theorem dX11_clear_0 : decode cX11_clear 0 = .ok (.aload_n 0, 1) := by decide +kernel
theorem dX11_clear_1 : decode cX11_clear 1 = .ok (.iconst 0, 1) := by decide +kernel
theorem dX11_clear_2 : decode cX11_clear 2 = .ok (.putfield 245, 3) := by decide +kernel
theorem dX11_clear_5 : decode cX11_clear 5 = .ok (.return_, 1) := by decide +kernel
