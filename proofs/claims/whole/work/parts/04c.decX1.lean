theorem dX7_rests_123 : decode cX7_rests 123 = .ok (.iload 7, 2) := by decide +kernel
theorem dX7_rests_125 : decode cX7_rests 125 = .ok (.iload_n 1, 1) := by decide +kernel
theorem dX7_rests_126 : decode cX7_rests 126 = .ok (.iload 6, 2) := by decide +kernel
theorem dX7_rests_128 : decode cX7_rests 128 = .ok (.invokevirtual 245, 3) := by decide +kernel
theorem dX7_rests_131 : decode cX7_rests 131 = .ok (.ifCond .eq 28, 3) := by decide +kernel
theorem dX7_rests_134 : decode cX7_rests 134 = .ok (.iinc 4 1, 3) := by decide +kernel
theorem dX7_rests_137 : decode cX7_rests 137 = .ok (.iload 5, 2) := by decide +kernel
theorem dX7_rests_139 : decode cX7_rests 139 = .ok (.bipush (-9), 2) := by decide +kernel
theorem dX7_rests_141 : decode cX7_rests 141 = .ok (.if_icmp .ne 14, 3) := by decide +kernel
theorem dX7_rests_144 : decode cX7_rests 144 = .ok (.bipush 10, 2) := by decide +kernel
theorem dX7_rests_146 : decode cX7_rests 146 = .ok (.iload 6, 2) := by decide +kernel
theorem dX7_rests_148 : decode cX7_rests 148 = .ok (.imul, 1) := by decide +kernel
theorem dX7_rests_149 : decode cX7_rests 149 = .ok (.iload 7, 2) := by decide +kernel
theorem dX7_rests_151 : decode cX7_rests 151 = .ok (.iadd, 1) := by decide +kernel
theorem dX7_rests_152 : decode cX7_rests 152 = .ok (.goto 5, 3) := by decide +kernel
theorem dX7_rests_155 : decode cX7_rests 155 = .ok (.iload 5, 2) := by decide +kernel
theorem dX7_rests_157 : decode cX7_rests 157 = .ok (.istore 5, 2) := by decide +kernel
theorem dX7_rests_159 : decode cX7_rests 159 = .ok (.iinc 7 1, 3) := by decide +kernel
theorem dX7_rests_162 : decode cX7_rests 162 = .ok (.goto (-66), 3) := by decide +kernel
theorem dX7_rests_165 : decode cX7_rests 165 = .ok (.iinc 6 1, 3) := by decide +kernel
theorem dX7_rests_168 : decode cX7_rests 168 = .ok (.goto (-81), 3) := by decide +kernel
theorem dX7_rests_171 : decode cX7_rests 171 = .ok (.iload_n 3, 1) := by decide +kernel
theorem dX7_rests_172 : decode cX7_rests 172 = .ok (.ifCond .ne 8, 3) := by decide +kernel
theorem dX7_rests_175 : decode cX7_rests 175 = .ok (.iload 4, 2) := by decide +kernel
theorem dX7_rests_177 : decode cX7_rests 177 = .ok (.goto 5, 3) := by decide +kernel
theorem dX7_rests_180 : decode cX7_rests 180 = .ok (.iload 5, 2) := by decide +kernel
theorem dX7_rests_182 : decode cX7_rests 182 = .ok (.ireturn, 1) := by decide +kernel
theorem dX7_ebb_0 : decode cX7_ebb 0 = .ok (.iload_n 1, 1) := by decide +kernel
theorem dX7_ebb_1 : decode cX7_ebb 1 = .ok (.ifCond .lt 18, 3) := by decide +kernel
theorem dX7_ebb_4 : decode cX7_ebb 4 = .ok (.iload_n 1, 1) := by decide +kernel
theorem dX7_ebb_5 : decode cX7_ebb 5 = .ok (.iconst 5, 1) := by decide +kernel
theorem dX7_ebb_6 : decode cX7_ebb 6 = .ok (.if_icmp .gt 13, 3) := by decide +kernel
theorem dX7_ebb_9 : decode cX7_ebb 9 = .ok (.iload_n 2, 1) := by decide +kernel
theorem dX7_ebb_10 : decode cX7_ebb 10 = .ok (.ifCond .lt 9, 3) := by decide +kernel
theorem dX7_ebb_13 : decode cX7_ebb 13 = .ok (.iload_n 2, 1) := by decide +kernel
theorem dX7_ebb_14 : decode cX7_ebb 14 = .ok (.bipush 10, 2) := by decide +kernel
theorem dX7_ebb_16 : decode cX7_ebb 16 = .ok (.if_icmp .le 6, 3) := by decide +kernel
theorem dX7_ebb_19 : decode cX7_ebb 19 = .ok (.bipush (-2), 2) := by decide +kernel
theorem dX7_ebb_21 : decode cX7_ebb 21 = .ok (.ireturn, 1) := by decide +kernel
theorem dX7_ebb_22 : decode cX7_ebb 22 = .ok (.iconst 0, 1) := by decide +kernel
theorem dX7_ebb_23 : decode cX7_ebb 23 = .ok (.istore 4, 2) := by decide +kernel
theorem dX7_ebb_25 : decode cX7_ebb 25 = .ok (.iconst 1, 1) := by decide +kernel
theorem dX7_ebb_26 : decode cX7_ebb 26 = .ok (.istore 5, 2) := by decide +kernel
theorem dX7_ebb_28 : decode cX7_ebb 28 = .ok (.iconst 0, 1) := by decide +kernel
theorem dX7_ebb_29 : decode cX7_ebb 29 = .ok (.istore 6, 2) := by decide +kernel
theorem dX7_ebb_31 : decode cX7_ebb 31 = .ok (.iload 6, 2) := by decide +kernel
theorem dX7_ebb_33 : decode cX7_ebb 33 = .ok (.aload_n 0, 1) := by decide +kernel
theorem dX7_ebb_34 : decode cX7_ebb 34 = .ok (.getfield 19, 3) := by decide +kernel
theorem dX7_ebb_37 : decode cX7_ebb 37 = .ok (.getfield 102, 3) := by decide +kernel
theorem dX7_ebb_40 : decode cX7_ebb 40 = .ok (.if_icmp .ge 16, 3) := by decide +kernel
theorem dX7_ebb_43 : decode cX7_ebb 43 = .ok (.iload 5, 2) := by decide +kernel
theorem dX7_ebb_45 : decode cX7_ebb 45 = .ok (.bipush 10, 2) := by decide +kernel
theorem dX7_ebb_47 : decode cX7_ebb 47 = .ok (.imul, 1) := by decide +kernel
theorem dX7_ebb_48 : decode cX7_ebb 48 = .ok (.istore 5, 2) := by decide +kernel
theorem dX7_ebb_50 : decode cX7_ebb 50 = .ok (.iinc 6 1, 3) := by decide +kernel
theorem dX7_ebb_53 : decode cX7_ebb 53 = .ok (.goto (-22), 3) := by decide +kernel
theorem dX7_ebb_56 : decode cX7_ebb 56 = .ok (.iconst 0, 1) := by decide +kernel
theorem dX7_ebb_57 : decode cX7_ebb 57 = .ok (.istore 6, 2) := by decide +kernel
theorem dX7_ebb_59 : decode cX7_ebb 59 = .ok (.iload 6, 2) := by decide +kernel
theorem dX7_ebb_61 : decode cX7_ebb 61 = .ok (.aload_n 0, 1) := by decide +kernel
theorem dX7_ebb_62 : decode cX7_ebb 62 = .ok (.invokevirtual 204, 3) := by decide +kernel
theorem dX7_ebb_65 : decode cX7_ebb 65 = .ok (.if_icmp .gt 34, 3) := by decide +kernel
theorem dX7_ebb_68 : decode cX7_ebb 68 = .ok (.aload_n 0, 1) := by decide +kernel
theorem dX7_ebb_69 : decode cX7_ebb 69 = .ok (.getfield 31, 3) := by decide +kernel
theorem dX7_ebb_72 : decode cX7_ebb 72 = .ok (.iload 6, 2) := by decide +kernel
theorem dX7_ebb_74 : decode cX7_ebb 74 = .ok (.invokevirtual 249, 3) := by decide +kernel
theorem dX7_ebb_77 : decode cX7_ebb 77 = .ok (.iload_n 1, 1) := by decide +kernel
theorem dX7_ebb_78 : decode cX7_ebb 78 = .ok (.if_icmp .lt 15, 3) := by decide +kernel
theorem dX7_ebb_81 : decode cX7_ebb 81 = .ok (.iload 4, 2) := by decide +kernel
theorem dX7_ebb_83 : decode cX7_ebb 83 = .ok (.aload_n 0, 1) := by decide +kernel
theorem dX7_ebb_84 : decode cX7_ebb 84 = .ok (.iload 6, 2) := by decide +kernel
theorem dX7_ebb_86 : decode cX7_ebb 86 = .ok (.iload_n 2, 1) := by decide +kernel
theorem dX7_ebb_87 : decode cX7_ebb 87 = .ok (.invokevirtual 252, 3) := by decide +kernel
theorem dX7_ebb_90 : decode cX7_ebb 90 = .ok (.iadd, 1) := by decide +kernel
theorem dX7_ebb_91 : decode cX7_ebb 91 = .ok (.istore 4, 2) := by decide +kernel
theorem dX7_ebb_93 : decode cX7_ebb 93 = .ok (.iinc 6 1, 3) := by decide +kernel
theorem dX7_ebb_96 : decode cX7_ebb 96 = .ok (.goto (-37), 3) := by decide +kernel
theorem dX7_ebb_99 : decode cX7_ebb 99 = .ok (.iload 4, 2) := by decide +kernel
theorem dX7_ebb_101 : decode cX7_ebb 101 = .ok (.iload 5, 2) := by decide +kernel
theorem dX7_ebb_103 : decode cX7_ebb 103 = .ok (.iload_n 3, 1) := by decide +kernel
theorem dX7_ebb_104 : decode cX7_ebb 104 = .ok (.invokestatic 234, 3) := by decide +kernel
theorem dX7_ebb_107 : decode cX7_ebb 107 = .ok (.ireturn, 1) := by decide +kernel
theorem dX7_seed_0 : decode cX7_seed 0 = .ok (.aload_n 0, 1) := by decide +kernel
theorem dX7_seed_1 : decode cX7_seed 1 = .ok (.getfield 76, 3) := by decide +kernel
theorem dX7_seed_4 : decode cX7_seed 4 = .ok (.lstore_n 3, 1) := by decide +kernel
theorem dX7_seed_5 : decode cX7_seed 5 = .ok (.aload_n 0, 1) := by decide +kernel
theorem dX7_seed_6 : decode cX7_seed 6 = .ok (.lload_n 1, 1) := by decide +kernel
theorem dX7_seed_7 : decode cX7_seed 7 = .ok (.putfield 76, 3) := by decide +kernel
theorem dX7_seed_10 : decode cX7_seed 10 = .ok (.lload_n 3, 1) := by decide +kernel
theorem dX7_seed_11 : decode cX7_seed 11 = .ok (.lreturn, 1) := by decide +kernel
theorem dX7_years_0 : decode cX7_years 0 = .ok (.iload_n 1, 1) := by decide +kernel
theorem dX7_years_1 : decode cX7_years 1 = .ok (.iconst 1, 1) := by decide +kernel
theorem dX7_years_2 : decode cX7_years 2 = .ok (.if_icmp .lt 9, 3) := by decide +kernel
theorem dX7_years_5 : decode cX7_years 5 = .ok (.iload_n 1, 1) := by decide +kernel
theorem dX7_years_6 : decode cX7_years 6 = .ok (.bipush 30, 2) := by decide +kernel
theorem dX7_years_8 : decode cX7_years 8 = .ok (.if_icmp .le 6, 3) := by decide +kernel
theorem dX7_years_11 : decode cX7_years 11 = .ok (.bipush (-2), 2) := by decide +kernel
theorem dX7_years_13 : decode cX7_years 13 = .ok (.ireturn, 1) := by decide +kernel
theorem dX7_years_14 : decode cX7_years 14 = .ok (.aload_n 0, 1) := by decide +kernel
theorem dX7_years_15 : decode cX7_years 15 = .ok (.getfield 35, 3) := by decide +kernel
theorem dX7_years_18 : decode cX7_years 18 = .ok (.aload_n 0, 1) := by decide +kernel
theorem dX7_years_19 : decode cX7_years 19 = .ok (.getfield 31, 3) := by decide +kernel
theorem dX7_years_22 : decode cX7_years 22 = .ok (.invokevirtual 201, 3) := by decide +kernel
theorem dX7_years_25 : decode cX7_years 25 = .ok (.iconst 0, 1) := by decide +kernel
theorem dX7_years_26 : decode cX7_years 26 = .ok (.istore_n 2, 1) := by decide +kernel
theorem dX7_years_27 : decode cX7_years 27 = .ok (.iconst 0, 1) := by decide +kernel
theorem dX7_years_28 : decode cX7_years 28 = .ok (.istore_n 3, 1) := by decide +kernel
theorem dX7_years_29 : decode cX7_years 29 = .ok (.iload_n 3, 1) := by decide +kernel
theorem dX7_years_30 : decode cX7_years 30 = .ok (.iload_n 1, 1) := by decide +kernel
theorem dX7_years_31 : decode cX7_years 31 = .ok (.if_icmp .ge 56, 3) := by decide +kernel
theorem dX7_years_34 : decode cX7_years 34 = .ok (.aload_n 0, 1) := by decide +kernel
theorem dX7_years_35 : decode cX7_years 35 = .ok (.aload_n 0, 1) := by decide +kernel
theorem dX7_years_36 : decode cX7_years 36 = .ok (.getfield 76, 3) := by decide +kernel
theorem dX7_years_39 : decode cX7_years 39 = .ok (.ldc2_w 256, 3) := by decide +kernel
theorem dX7_years_42 : decode cX7_years 42 = .ok (.lmul, 1) := by decide +kernel
theorem dX7_years_43 : decode cX7_years 43 = .ok (.ldc2_w 258, 3) := by decide +kernel
theorem dX7_years_46 : decode cX7_years 46 = .ok (.ladd, 1) := by decide +kernel
theorem dX7_years_47 : decode cX7_years 47 = .ok (.putfield 76, 3) := by decide +kernel
theorem dX7_years_50 : decode cX7_years 50 = .ok (.aload_n 0, 1) := by decide +kernel
theorem dX7_years_51 : decode cX7_years 51 = .ok (.getfield 35, 3) := by decide +kernel
theorem dX7_years_54 : decode cX7_years 54 = .ok (.aload_n 0, 1) := by decide +kernel
theorem dX7_years_55 : decode cX7_years 55 = .ok (.getfield 76, 3) := by decide +kernel
theorem dX7_years_58 : decode cX7_years 58 = .ok (.bipush 33, 2) := by decide +kernel
theorem dX7_years_60 : decode cX7_years 60 = .ok (.lushr, 1) := by decide +kernel
theorem dX7_years_61 : decode cX7_years 61 = .ok (.ldc2_w 260, 3) := by decide +kernel
theorem dX7_years_64 : decode cX7_years 64 = .ok (.lrem, 1) := by decide +kernel
theorem dX7_years_65 : decode cX7_years 65 = .ok (.l2i, 1) := by decide +kernel
theorem dX7_years_66 : decode cX7_years 66 = .ok (.invokevirtual 262, 3) := by decide +kernel
theorem dX7_years_69 : decode cX7_years 69 = .ok (.iload_n 2, 1) := by decide +kernel
theorem dX7_years_70 : decode cX7_years 70 = .ok (.aload_n 0, 1) := by decide +kernel
theorem dX7_years_71 : decode cX7_years 71 = .ok (.getfield 35, 3) := by decide +kernel
theorem dX7_years_74 : decode cX7_years 74 = .ok (.bipush 9, 2) := by decide +kernel
theorem dX7_years_76 : decode cX7_years 76 = .ok (.invokevirtual 179, 3) := by decide +kernel
theorem dX7_years_79 : decode cX7_years 79 = .ok (.iadd, 1) := by decide +kernel
theorem dX7_years_80 : decode cX7_years 80 = .ok (.istore_n 2, 1) := by decide +kernel
theorem dX7_years_81 : decode cX7_years 81 = .ok (.iinc 3 1, 3) := by decide +kernel
theorem dX7_years_84 : decode cX7_years 84 = .ok (.goto (-55), 3) := by decide +kernel
theorem dX7_years_87 : decode cX7_years 87 = .ok (.iload_n 2, 1) := by decide +kernel
theorem dX7_years_88 : decode cX7_years 88 = .ok (.ireturn, 1) := by decide +kernel
theorem dX7_keep_0 : decode cX7_keep 0 = .ok (.iload_n 1, 1) := by decide +kernel
theorem dX7_keep_1 : decode cX7_keep 1 = .ok (.ifCond .lt 8, 3) := by decide +kernel
theorem dX7_keep_4 : decode cX7_keep 4 = .ok (.iload_n 1, 1) := by decide +kernel
theorem dX7_keep_5 : decode cX7_keep 5 = .ok (.iconst 2, 1) := by decide +kernel
theorem dX7_keep_6 : decode cX7_keep 6 = .ok (.if_icmp .lt 5, 3) := by decide +kernel
theorem dX7_keep_9 : decode cX7_keep 9 = .ok (.iconst (-1), 1) := by decide +kernel
theorem dX7_keep_10 : decode cX7_keep 10 = .ok (.ireturn, 1) := by decide +kernel
theorem dX7_keep_11 : decode cX7_keep 11 = .ok (.aload_n 0, 1) := by decide +kernel
theorem dX7_keep_12 : decode cX7_keep 12 = .ok (.getfield 68, 3) := by decide +kernel
theorem dX7_keep_15 : decode cX7_keep 15 = .ok (.iload_n 1, 1) := by decide +kernel
theorem dX7_keep_16 : decode cX7_keep 16 = .ok (.aaload, 1) := by decide +kernel
theorem dX7_keep_17 : decode cX7_keep 17 = .ok (.aload_n 0, 1) := by decide +kernel
theorem dX7_keep_18 : decode cX7_keep 18 = .ok (.getfield 31, 3) := by decide +kernel
theorem dX7_keep_21 : decode cX7_keep 21 = .ok (.invokevirtual 201, 3) := by decide +kernel
theorem dX7_keep_24 : decode cX7_keep 24 = .ok (.aload_n 0, 1) := by decide +kernel
theorem dX7_keep_25 : decode cX7_keep 25 = .ok (.getfield 72, 3) := by decide +kernel
theorem dX7_keep_28 : decode cX7_keep 28 = .ok (.iload_n 1, 1) := by decide +kernel
theorem dX7_keep_29 : decode cX7_keep 29 = .ok (.iconst 1, 1) := by decide +kernel
theorem dX7_keep_30 : decode cX7_keep 30 = .ok (.bastore, 1) := by decide +kernel
theorem dX7_keep_31 : decode cX7_keep 31 = .ok (.aload_n 0, 1) := by decide +kernel
theorem dX7_keep_32 : decode cX7_keep 32 = .ok (.getfield 31, 3) := by decide +kernel
theorem dX7_keep_35 : decode cX7_keep 35 = .ok (.getfield 108, 3) := by decide +kernel
theorem dX7_keep_38 : decode cX7_keep 38 = .ok (.ireturn, 1) := by decide +kernel
theorem dX7_again_0 : decode cX7_again 0 = .ok (.iload_n 1, 1) := by decide +kernel
theorem dX7_again_1 : decode cX7_again 1 = .ok (.ifCond .lt 8, 3) := by decide +kernel
theorem dX7_again_4 : decode cX7_again 4 = .ok (.iload_n 1, 1) := by decide +kernel
theorem dX7_again_5 : decode cX7_again 5 = .ok (.iconst 2, 1) := by decide +kernel
theorem dX7_again_6 : decode cX7_again 6 = .ok (.if_icmp .lt 5, 3) := by decide +kernel
theorem dX7_again_9 : decode cX7_again 9 = .ok (.iconst (-1), 1) := by decide +kernel
theorem dX7_again_10 : decode cX7_again 10 = .ok (.ireturn, 1) := by decide +kernel
theorem dX7_again_11 : decode cX7_again 11 = .ok (.aload_n 0, 1) := by decide +kernel
theorem dX7_again_12 : decode cX7_again 12 = .ok (.getfield 72, 3) := by decide +kernel
theorem dX7_again_15 : decode cX7_again 15 = .ok (.iload_n 1, 1) := by decide +kernel
theorem dX7_again_16 : decode cX7_again 16 = .ok (.baload, 1) := by decide +kernel
theorem dX7_again_17 : decode cX7_again 17 = .ok (.ifCond .ne 6, 3) := by decide +kernel
theorem dX7_again_20 : decode cX7_again 20 = .ok (.bipush (-3), 2) := by decide +kernel
theorem dX7_again_22 : decode cX7_again 22 = .ok (.ireturn, 1) := by decide +kernel
theorem dX7_again_23 : decode cX7_again 23 = .ok (.aload_n 0, 1) := by decide +kernel
theorem dX7_again_24 : decode cX7_again 24 = .ok (.getfield 31, 3) := by decide +kernel
theorem dX7_again_27 : decode cX7_again 27 = .ok (.aload_n 0, 1) := by decide +kernel
theorem dX7_again_28 : decode cX7_again 28 = .ok (.getfield 68, 3) := by decide +kernel
theorem dX7_again_31 : decode cX7_again 31 = .ok (.iload_n 1, 1) := by decide +kernel
theorem dX7_again_32 : decode cX7_again 32 = .ok (.aaload, 1) := by decide +kernel
theorem dX7_again_33 : decode cX7_again 33 = .ok (.invokevirtual 201, 3) := by decide +kernel
theorem dX7_again_36 : decode cX7_again 36 = .ok (.aload_n 0, 1) := by decide +kernel
theorem dX7_again_37 : decode cX7_again 37 = .ok (.getfield 41, 3) := by decide +kernel
theorem dX7_again_40 : decode cX7_again 40 = .ok (.invokevirtual 95, 3) := by decide +kernel
theorem dX7_again_43 : decode cX7_again 43 = .ok (.aload_n 0, 1) := by decide +kernel
theorem dX7_again_44 : decode cX7_again 44 = .ok (.getfield 31, 3) := by decide +kernel
theorem dX7_again_47 : decode cX7_again 47 = .ok (.getfield 108, 3) := by decide +kernel
theorem dX7_again_50 : decode cX7_again 50 = .ok (.ireturn, 1) := by decide +kernel
theorem dX7_isNights_0 : decode cX7_isNights 0 = .ok (.iload_n 0, 1) := by decide +kernel
theorem dX7_isNights_1 : decode cX7_isNights 1 = .ok (.ifCond .lt 13, 3) := by decide +kernel
theorem dX7_isNights_4 : decode cX7_isNights 4 = .ok (.iload_n 0, 1) := by decide +kernel
theorem dX7_isNights_5 : decode cX7_isNights 5 = .ok (.bipush 20, 2) := by decide +kernel
theorem dX7_isNights_7 : decode cX7_isNights 7 = .ok (.if_icmp .gt 7, 3) := by decide +kernel
theorem dX7_isNights_10 : decode cX7_isNights 10 = .ok (.iconst 1, 1) := by decide +kernel
theorem dX7_isNights_11 : decode cX7_isNights 11 = .ok (.goto 4, 3) := by decide +kernel
theorem dX7_isNights_14 : decode cX7_isNights 14 = .ok (.iconst 0, 1) := by decide +kernel
theorem dX7_isNights_15 : decode cX7_isNights 15 = .ok (.ireturn, 1) := by decide +kernel
theorem dX7_lookAhead_0 : decode cX7_lookAhead 0 = .ok (.aload_n 0, 1) := by decide +kernel
theorem dX7_lookAhead_1 : decode cX7_lookAhead 1 = .ok (.getfield 35, 3) := by decide +kernel
theorem dX7_lookAhead_4 : decode cX7_lookAhead 4 = .ok (.aload_n 0, 1) := by decide +kernel
theorem dX7_lookAhead_5 : decode cX7_lookAhead 5 = .ok (.getfield 31, 3) := by decide +kernel
theorem dX7_lookAhead_8 : decode cX7_lookAhead 8 = .ok (.invokevirtual 201, 3) := by decide +kernel
theorem dX7_lookAhead_11 : decode cX7_lookAhead 11 = .ok (.iconst 0, 1) := by decide +kernel
theorem dX7_lookAhead_12 : decode cX7_lookAhead 12 = .ok (.istore_n 2, 1) := by decide +kernel
theorem dX7_lookAhead_13 : decode cX7_lookAhead 13 = .ok (.iload_n 2, 1) := by decide +kernel
theorem dX7_lookAhead_14 : decode cX7_lookAhead 14 = .ok (.iload_n 1, 1) := by decide +kernel
theorem dX7_lookAhead_15 : decode cX7_lookAhead 15 = .ok (.if_icmp .ge 17, 3) := by decide +kernel
theorem dX7_lookAhead_18 : decode cX7_lookAhead 18 = .ok (.aload_n 0, 1) := by decide +kernel
theorem dX7_lookAhead_19 : decode cX7_lookAhead 19 = .ok (.getfield 35, 3) := by decide +kernel
theorem dX7_lookAhead_22 : decode cX7_lookAhead 22 = .ok (.invokevirtual 172, 3) := by decide +kernel
theorem dX7_lookAhead_25 : decode cX7_lookAhead 25 = .ok (.pop, 1) := by decide +kernel
theorem dX7_lookAhead_26 : decode cX7_lookAhead 26 = .ok (.iinc 2 1, 3) := by decide +kernel
theorem dX7_lookAhead_29 : decode cX7_lookAhead 29 = .ok (.goto (-16), 3) := by decide +kernel
theorem dX7_lookAhead_32 : decode cX7_lookAhead 32 = .ok (.return_, 1) := by decide +kernel
theorem dX7_withoutLast_0 : decode cX7_withoutLast 0 = .ok (.lload_n 0, 1) := by decide +kernel
theorem dX7_withoutLast_1 : decode cX7_withoutLast 1 = .ok (.lstore_n 3, 1) := by decide +kernel
theorem dX7_withoutLast_2 : decode cX7_withoutLast 2 = .ok (.iconst 0, 1) := by decide +kernel
theorem dX7_withoutLast_3 : decode cX7_withoutLast 3 = .ok (.istore 5, 2) := by decide +kernel
theorem dX7_withoutLast_5 : decode cX7_withoutLast 5 = .ok (.iload 5, 2) := by decide +kernel
theorem dX7_withoutLast_7 : decode cX7_withoutLast 7 = .ok (.iload_n 2, 1) := by decide +kernel
theorem dX7_withoutLast_8 : decode cX7_withoutLast 8 = .ok (.if_icmp .ge 15, 3) := by decide +kernel
theorem dX7_withoutLast_11 : decode cX7_withoutLast 11 = .ok (.lload_n 3, 1) := by decide +kernel
theorem dX7_withoutLast_12 : decode cX7_withoutLast 12 = .ok (.ldc2_w 221, 3) := by decide +kernel
theorem dX7_withoutLast_15 : decode cX7_withoutLast 15 = .ok (.ldiv, 1) := by decide +kernel
theorem dX7_withoutLast_16 : decode cX7_withoutLast 16 = .ok (.lstore_n 3, 1) := by decide +kernel
theorem dX7_withoutLast_17 : decode cX7_withoutLast 17 = .ok (.iinc 5 1, 3) := by decide +kernel
theorem dX7_withoutLast_20 : decode cX7_withoutLast 20 = .ok (.goto (-15), 3) := by decide +kernel
theorem dX7_withoutLast_23 : decode cX7_withoutLast 23 = .ok (.lload_n 3, 1) := by decide +kernel
theorem dX7_withoutLast_24 : decode cX7_withoutLast 24 = .ok (.lreturn, 1) := by decide +kernel
theorem dX7_allBerths_0 : decode cX7_allBerths 0 = .ok (.iconst 1, 1) := by decide +kernel
theorem dX7_allBerths_1 : decode cX7_allBerths 1 = .ok (.aload_n 0, 1) := by decide +kernel
theorem dX7_allBerths_2 : decode cX7_allBerths 2 = .ok (.getfield 19, 3) := by decide +kernel
theorem dX7_allBerths_5 : decode cX7_allBerths 5 = .ok (.getfield 102, 3) := by decide +kernel
theorem dX7_allBerths_8 : decode cX7_allBerths 8 = .ok (.ishl, 1) := by decide +kernel
theorem dX7_allBerths_9 : decode cX7_allBerths 9 = .ok (.iconst 1, 1) := by decide +kernel
theorem dX7_allBerths_10 : decode cX7_allBerths 10 = .ok (.isub, 1) := by decide +kernel
theorem dX7_allBerths_11 : decode cX7_allBerths 11 = .ok (.ireturn, 1) := by decide +kernel
theorem dX7_weightOf_0 : decode cX7_weightOf 0 = .ok (.iconst 1, 1) := by decide +kernel
theorem dX7_weightOf_1 : decode cX7_weightOf 1 = .ok (.istore_n 3, 1) := by decide +kernel
theorem dX7_weightOf_2 : decode cX7_weightOf 2 = .ok (.iconst 0, 1) := by decide +kernel
theorem dX7_weightOf_3 : decode cX7_weightOf 3 = .ok (.istore 4, 2) := by decide +kernel
theorem dX7_weightOf_5 : decode cX7_weightOf 5 = .ok (.iload 4, 2) := by decide +kernel
theorem dX7_weightOf_7 : decode cX7_weightOf 7 = .ok (.aload_n 0, 1) := by decide +kernel
theorem dX7_weightOf_8 : decode cX7_weightOf 8 = .ok (.getfield 19, 3) := by decide +kernel
theorem dX7_weightOf_11 : decode cX7_weightOf 11 = .ok (.getfield 102, 3) := by decide +kernel
theorem dX7_weightOf_14 : decode cX7_weightOf 14 = .ok (.if_icmp .ge 30, 3) := by decide +kernel
theorem dX7_weightOf_17 : decode cX7_weightOf 17 = .ok (.iload_n 3, 1) := by decide +kernel
theorem dX7_weightOf_18 : decode cX7_weightOf 18 = .ok (.iload_n 1, 1) := by decide +kernel
theorem dX7_weightOf_19 : decode cX7_weightOf 19 = .ok (.iload 4, 2) := by decide +kernel
theorem dX7_weightOf_21 : decode cX7_weightOf 21 = .ok (.ishr, 1) := by decide +kernel
theorem dX7_weightOf_22 : decode cX7_weightOf 22 = .ok (.iconst 1, 1) := by decide +kernel
theorem dX7_weightOf_23 : decode cX7_weightOf 23 = .ok (.iand, 1) := by decide +kernel
theorem dX7_weightOf_24 : decode cX7_weightOf 24 = .ok (.iconst 1, 1) := by decide +kernel
theorem dX7_weightOf_25 : decode cX7_weightOf 25 = .ok (.if_icmp .ne 7, 3) := by decide +kernel
theorem dX7_weightOf_28 : decode cX7_weightOf 28 = .ok (.iload_n 2, 1) := by decide +kernel
theorem dX7_weightOf_29 : decode cX7_weightOf 29 = .ok (.goto 7, 3) := by decide +kernel
theorem dX7_weightOf_32 : decode cX7_weightOf 32 = .ok (.bipush 10, 2) := by decide +kernel
theorem dX7_weightOf_34 : decode cX7_weightOf 34 = .ok (.iload_n 2, 1) := by decide +kernel
theorem dX7_weightOf_35 : decode cX7_weightOf 35 = .ok (.isub, 1) := by decide +kernel
theorem dX7_weightOf_36 : decode cX7_weightOf 36 = .ok (.imul, 1) := by decide +kernel
theorem dX7_weightOf_37 : decode cX7_weightOf 37 = .ok (.istore_n 3, 1) := by decide +kernel
theorem dX7_weightOf_38 : decode cX7_weightOf 38 = .ok (.iinc 4 1, 3) := by decide +kernel
theorem dX7_weightOf_41 : decode cX7_weightOf 41 = .ok (.goto (-36), 3) := by decide +kernel
theorem dX7_weightOf_44 : decode cX7_weightOf 44 = .ok (.iload_n 3, 1) := by decide +kernel
theorem dX7_weightOf_45 : decode cX7_weightOf 45 = .ok (.ireturn, 1) := by decide +kernel
theorem dX7_part_0 : decode cX7_part 0 = .ok (.iload_n 0, 1) := by decide +kernel
theorem dX7_part_1 : decode cX7_part 1 = .ok (.invokestatic 265, 3) := by decide +kernel
theorem dX7_part_4 : decode cX7_part 4 = .ok (.iload_n 1, 1) := by decide +kernel
theorem dX7_part_5 : decode cX7_part 5 = .ok (.invokestatic 270, 3) := by decide +kernel
theorem dX7_part_8 : decode cX7_part 8 = .ok (.istore_n 3, 1) := by decide +kernel
theorem dX7_part_9 : decode cX7_part 9 = .ok (.iload_n 3, 1) := by decide +kernel
theorem dX7_part_10 : decode cX7_part 10 = .ok (.ifCond .ne 5, 3) := by decide +kernel
theorem dX7_part_13 : decode cX7_part 13 = .ok (.iconst 0, 1) := by decide +kernel
theorem dX7_part_14 : decode cX7_part 14 = .ok (.ireturn, 1) := by decide +kernel
theorem dX7_part_15 : decode cX7_part 15 = .ok (.iload_n 2, 1) := by decide +kernel
theorem dX7_part_16 : decode cX7_part 16 = .ok (.ifCond .eq 9, 3) := by decide +kernel
theorem dX7_part_19 : decode cX7_part 19 = .ok (.iload_n 0, 1) := by decide +kernel
theorem dX7_part_20 : decode cX7_part 20 = .ok (.iload_n 3, 1) := by decide +kernel
theorem dX7_part_21 : decode cX7_part 21 = .ok (.idiv, 1) := by decide +kernel
theorem dX7_part_22 : decode cX7_part 22 = .ok (.goto 6, 3) := by decide +kernel
theorem dX7_part_25 : decode cX7_part 25 = .ok (.iload_n 1, 1) := by decide +kernel
theorem dX7_part_26 : decode cX7_part 26 = .ok (.iload_n 3, 1) := by decide +kernel
theorem dX7_part_27 : decode cX7_part 27 = .ok (.idiv, 1) := by decide +kernel
theorem dX7_part_28 : decode cX7_part 28 = .ok (.ireturn, 1) := by decide +kernel
theorem dX7_commonDivisor_0 : decode cX7_commonDivisor 0 = .ok (.iload_n 0, 1) := by decide +kernel
theorem dX7_commonDivisor_1 : decode cX7_commonDivisor 1 = .ok (.istore_n 2, 1) := by decide +kernel
theorem dX7_commonDivisor_2 : decode cX7_commonDivisor 2 = .ok (.iload_n 1, 1) := by decide +kernel
theorem dX7_commonDivisor_3 : decode cX7_commonDivisor 3 = .ok (.istore_n 3, 1) := by decide +kernel
theorem dX7_commonDivisor_4 : decode cX7_commonDivisor 4 = .ok (.iconst 0, 1) := by decide +kernel
theorem dX7_commonDivisor_5 : decode cX7_commonDivisor 5 = .ok (.istore 4, 2) := by decide +kernel
theorem dX7_commonDivisor_7 : decode cX7_commonDivisor 7 = .ok (.iload 4, 2) := by decide +kernel
theorem dX7_commonDivisor_9 : decode cX7_commonDivisor 9 = .ok (.bipush 64, 2) := by decide +kernel
theorem dX7_commonDivisor_11 : decode cX7_commonDivisor 11 = .ok (.if_icmp .ge 23, 3) := by decide +kernel
theorem dX7_commonDivisor_14 : decode cX7_commonDivisor 14 = .ok (.iload_n 3, 1) := by decide +kernel
theorem dX7_commonDivisor_15 : decode cX7_commonDivisor 15 = .ok (.ifCond .eq 19, 3) := by decide +kernel
theorem dX7_commonDivisor_18 : decode cX7_commonDivisor 18 = .ok (.iload_n 2, 1) := by decide +kernel
theorem dX7_commonDivisor_19 : decode cX7_commonDivisor 19 = .ok (.iload_n 3, 1) := by decide +kernel
theorem dX7_commonDivisor_20 : decode cX7_commonDivisor 20 = .ok (.irem, 1) := by decide +kernel
theorem dX7_commonDivisor_21 : decode cX7_commonDivisor 21 = .ok (.istore 5, 2) := by decide +kernel
theorem dX7_commonDivisor_23 : decode cX7_commonDivisor 23 = .ok (.iload_n 3, 1) := by decide +kernel
theorem dX7_commonDivisor_24 : decode cX7_commonDivisor 24 = .ok (.istore_n 2, 1) := by decide +kernel
theorem dX7_commonDivisor_25 : decode cX7_commonDivisor 25 = .ok (.iload 5, 2) := by decide +kernel
theorem dX7_commonDivisor_27 : decode cX7_commonDivisor 27 = .ok (.istore_n 3, 1) := by decide +kernel
theorem dX7_commonDivisor_28 : decode cX7_commonDivisor 28 = .ok (.iinc 4 1, 3) := by decide +kernel
theorem dX7_commonDivisor_31 : decode cX7_commonDivisor 31 = .ok (.goto (-24), 3) := by decide +kernel
theorem dX7_commonDivisor_34 : decode cX7_commonDivisor 34 = .ok (.iload_n 2, 1) := by decide +kernel
theorem dX7_commonDivisor_35 : decode cX7_commonDivisor 35 = .ok (.ireturn, 1) := by decide +kernel
