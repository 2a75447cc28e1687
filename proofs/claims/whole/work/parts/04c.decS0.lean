theorem dX0_remember_0 : decode cX0_remember 0 = .ok (.aload_n 0, 1) := by decide +kernel
theorem dX0_remember_1 : decode cX0_remember 1 = .ok (.getfield 11, 3) := by decide +kernel
theorem dX0_remember_4 : decode cX0_remember 4 = .ok (.aload_n 0, 1) := by decide +kernel
theorem dX0_remember_5 : decode cX0_remember 5 = .ok (.getfield 17, 3) := by decide +kernel
theorem dX0_remember_8 : decode cX0_remember 8 = .ok (.aaload, 1) := by decide +kernel
theorem dX0_remember_9 : decode cX0_remember 9 = .ok (.aload_n 1, 1) := by decide +kernel
theorem dX0_remember_10 : decode cX0_remember 10 = .ok (.invokevirtual 27, 3) := by decide +kernel
theorem dX0_remember_13 : decode cX0_remember 13 = .ok (.aload_n 0, 1) := by decide +kernel
theorem dX0_remember_14 : decode cX0_remember 14 = .ok (.aload_n 0, 1) := by decide +kernel
theorem dX0_remember_15 : decode cX0_remember 15 = .ok (.getfield 17, 3) := by decide +kernel
theorem dX0_remember_18 : decode cX0_remember 18 = .ok (.iconst 1, 1) := by decide +kernel
theorem dX0_remember_19 : decode cX0_remember 19 = .ok (.iadd, 1) := by decide +kernel
theorem dX0_remember_20 : decode cX0_remember 20 = .ok (.bipush 14, 2) := by decide +kernel
theorem dX0_remember_22 : decode cX0_remember 22 = .ok (.irem, 1) := by decide +kernel
theorem dX0_remember_23 : decode cX0_remember 23 = .ok (.putfield 17, 3) := by decide +kernel
theorem dX0_remember_26 : decode cX0_remember 26 = .ok (.aload_n 0, 1) := by decide +kernel
theorem dX0_remember_27 : decode cX0_remember 27 = .ok (.bipush 14, 2) := by decide +kernel
theorem dX0_remember_29 : decode cX0_remember 29 = .ok (.aload_n 0, 1) := by decide +kernel
theorem dX0_remember_30 : decode cX0_remember 30 = .ok (.getfield 21, 3) := by decide +kernel
theorem dX0_remember_33 : decode cX0_remember 33 = .ok (.iconst 1, 1) := by decide +kernel
theorem dX0_remember_34 : decode cX0_remember 34 = .ok (.iadd, 1) := by decide +kernel
theorem dX0_remember_35 : decode cX0_remember 35 = .ok (.invokestatic 31, 3) := by decide +kernel
theorem dX0_remember_38 : decode cX0_remember 38 = .ok (.putfield 21, 3) := by decide +kernel
theorem dX0_remember_41 : decode cX0_remember 41 = .ok (.return_, 1) := by decide +kernel
theorem dX0_takeBack_0 : decode cX0_takeBack 0 = .ok (.aload_n 0, 1) := by decide +kernel
theorem dX0_takeBack_1 : decode cX0_takeBack 1 = .ok (.aload_n 0, 1) := by decide +kernel
theorem dX0_takeBack_2 : decode cX0_takeBack 2 = .ok (.getfield 17, 3) := by decide +kernel
theorem dX0_takeBack_5 : decode cX0_takeBack 5 = .ok (.bipush 14, 2) := by decide +kernel
theorem dX0_takeBack_7 : decode cX0_takeBack 7 = .ok (.iadd, 1) := by decide +kernel
theorem dX0_takeBack_8 : decode cX0_takeBack 8 = .ok (.iconst 1, 1) := by decide +kernel
theorem dX0_takeBack_9 : decode cX0_takeBack 9 = .ok (.isub, 1) := by decide +kernel
theorem dX0_takeBack_10 : decode cX0_takeBack 10 = .ok (.bipush 14, 2) := by decide +kernel
theorem dX0_takeBack_12 : decode cX0_takeBack 12 = .ok (.irem, 1) := by decide +kernel
theorem dX0_takeBack_13 : decode cX0_takeBack 13 = .ok (.putfield 17, 3) := by decide +kernel
theorem dX0_takeBack_16 : decode cX0_takeBack 16 = .ok (.aload_n 0, 1) := by decide +kernel
theorem dX0_takeBack_17 : decode cX0_takeBack 17 = .ok (.dup, 1) := by decide +kernel
theorem dX0_takeBack_18 : decode cX0_takeBack 18 = .ok (.getfield 21, 3) := by decide +kernel
theorem dX0_takeBack_21 : decode cX0_takeBack 21 = .ok (.iconst 1, 1) := by decide +kernel
theorem dX0_takeBack_22 : decode cX0_takeBack 22 = .ok (.isub, 1) := by decide +kernel
theorem dX0_takeBack_23 : decode cX0_takeBack 23 = .ok (.putfield 21, 3) := by decide +kernel
theorem dX0_takeBack_26 : decode cX0_takeBack 26 = .ok (.aload_n 1, 1) := by decide +kernel
theorem dX0_takeBack_27 : decode cX0_takeBack 27 = .ok (.aload_n 0, 1) := by decide +kernel
theorem dX0_takeBack_28 : decode cX0_takeBack 28 = .ok (.getfield 11, 3) := by decide +kernel
theorem dX0_takeBack_31 : decode cX0_takeBack 31 = .ok (.aload_n 0, 1) := by decide +kernel
theorem dX0_takeBack_32 : decode cX0_takeBack 32 = .ok (.getfield 17, 3) := by decide +kernel
theorem dX0_takeBack_35 : decode cX0_takeBack 35 = .ok (.aaload, 1) := by decide +kernel
theorem dX0_takeBack_36 : decode cX0_takeBack 36 = .ok (.invokevirtual 27, 3) := by decide +kernel
theorem dX0_takeBack_39 : decode cX0_takeBack 39 = .ok (.return_, 1) := by decide +kernel
theorem dX0_forget_0 : decode cX0_forget 0 = .ok (.aload_n 0, 1) := by decide +kernel
theorem dX0_forget_1 : decode cX0_forget 1 = .ok (.iconst 0, 1) := by decide +kernel
theorem dX0_forget_2 : decode cX0_forget 2 = .ok (.putfield 21, 3) := by decide +kernel
theorem dX0_forget_5 : decode cX0_forget 5 = .ok (.return_, 1) := by decide +kernel
theorem dX1_isContent_0 : decode cX1_isContent 0 = .ok (.aload_n 0, 1) := by decide +kernel
theorem dX1_isContent_1 : decode cX1_isContent 1 = .ok (.iload_n 1, 1) := by decide +kernel
theorem dX1_isContent_2 : decode cX1_isContent 2 = .ok (.iload_n 2, 1) := by decide +kernel
theorem dX1_isContent_3 : decode cX1_isContent 3 = .ok (.iload_n 3, 1) := by decide +kernel
theorem dX1_isContent_4 : decode cX1_isContent 4 = .ok (.iload 4, 2) := by decide +kernel
theorem dX1_isContent_6 : decode cX1_isContent 6 = .ok (.invokevirtual 19, 3) := by decide +kernel
theorem dX1_isContent_9 : decode cX1_isContent 9 = .ok (.istore 5, 2) := by decide +kernel
theorem dX1_isContent_11 : decode cX1_isContent 11 = .ok (.iconst 0, 1) := by decide +kernel
theorem dX1_isContent_12 : decode cX1_isContent 12 = .ok (.istore 6, 2) := by decide +kernel
theorem dX1_isContent_14 : decode cX1_isContent 14 = .ok (.iload 6, 2) := by decide +kernel
theorem dX1_isContent_16 : decode cX1_isContent 16 = .ok (.iconst 5, 1) := by decide +kernel
theorem dX1_isContent_17 : decode cX1_isContent 17 = .ok (.if_icmp .ge 26, 3) := by decide +kernel
theorem dX1_isContent_20 : decode cX1_isContent 20 = .ok (.aload_n 0, 1) := by decide +kernel
theorem dX1_isContent_21 : decode cX1_isContent 21 = .ok (.iload_n 1, 1) := by decide +kernel
theorem dX1_isContent_22 : decode cX1_isContent 22 = .ok (.iload 6, 2) := by decide +kernel
theorem dX1_isContent_24 : decode cX1_isContent 24 = .ok (.iload_n 3, 1) := by decide +kernel
theorem dX1_isContent_25 : decode cX1_isContent 25 = .ok (.iload 4, 2) := by decide +kernel
theorem dX1_isContent_27 : decode cX1_isContent 27 = .ok (.invokevirtual 19, 3) := by decide +kernel
theorem dX1_isContent_30 : decode cX1_isContent 30 = .ok (.iload 5, 2) := by decide +kernel
theorem dX1_isContent_32 : decode cX1_isContent 32 = .ok (.if_icmp .le 5, 3) := by decide +kernel
theorem dX1_isContent_35 : decode cX1_isContent 35 = .ok (.iconst 0, 1) := by decide +kernel
theorem dX1_isContent_36 : decode cX1_isContent 36 = .ok (.ireturn, 1) := by decide +kernel
theorem dX1_isContent_37 : decode cX1_isContent 37 = .ok (.iinc 6 1, 3) := by decide +kernel
theorem dX1_isContent_40 : decode cX1_isContent 40 = .ok (.goto (-26), 3) := by decide +kernel
theorem dX1_isContent_43 : decode cX1_isContent 43 = .ok (.iconst 1, 1) := by decide +kernel
theorem dX1_isContent_44 : decode cX1_isContent 44 = .ok (.ireturn, 1) := by decide +kernel
theorem dX1_gain_0 : decode cX1_gain 0 = .ok (.aload_n 0, 1) := by decide +kernel
theorem dX1_gain_1 : decode cX1_gain 1 = .ok (.iload_n 1, 1) := by decide +kernel
theorem dX1_gain_2 : decode cX1_gain 2 = .ok (.iload_n 2, 1) := by decide +kernel
theorem dX1_gain_3 : decode cX1_gain 3 = .ok (.invokevirtual 23, 3) := by decide +kernel
theorem dX1_gain_6 : decode cX1_gain 6 = .ok (.istore 5, 2) := by decide +kernel
theorem dX1_gain_8 : decode cX1_gain 8 = .ok (.aload_n 0, 1) := by decide +kernel
theorem dX1_gain_9 : decode cX1_gain 9 = .ok (.iload_n 3, 1) := by decide +kernel
theorem dX1_gain_10 : decode cX1_gain 10 = .ok (.iload 4, 2) := by decide +kernel
theorem dX1_gain_12 : decode cX1_gain 12 = .ok (.invokevirtual 23, 3) := by decide +kernel
theorem dX1_gain_15 : decode cX1_gain 15 = .ok (.istore 6, 2) := by decide +kernel
theorem dX1_gain_17 : decode cX1_gain 17 = .ok (.iload 5, 2) := by decide +kernel
theorem dX1_gain_19 : decode cX1_gain 19 = .ok (.iconst 4, 1) := by decide +kernel
theorem dX1_gain_20 : decode cX1_gain 20 = .ok (.if_icmp .ne 5, 3) := by decide +kernel
theorem dX1_gain_23 : decode cX1_gain 23 = .ok (.iconst 0, 1) := by decide +kernel
theorem dX1_gain_24 : decode cX1_gain 24 = .ok (.ireturn, 1) := by decide +kernel
theorem dX1_gain_25 : decode cX1_gain 25 = .ok (.iload 5, 2) := by decide +kernel
theorem dX1_gain_27 : decode cX1_gain 27 = .ok (.iload 6, 2) := by decide +kernel
theorem dX1_gain_29 : decode cX1_gain 29 = .ok (.if_icmp .ne 18, 3) := by decide +kernel
theorem dX1_gain_32 : decode cX1_gain 32 = .ok (.aload_n 0, 1) := by decide +kernel
theorem dX1_gain_33 : decode cX1_gain 33 = .ok (.getfield 15, 3) := by decide +kernel
theorem dX1_gain_36 : decode cX1_gain 36 = .ok (.iload 5, 2) := by decide +kernel
theorem dX1_gain_38 : decode cX1_gain 38 = .ok (.invokevirtual 27, 3) := by decide +kernel
theorem dX1_gain_41 : decode cX1_gain 41 = .ok (.iconst 1, 1) := by decide +kernel
theorem dX1_gain_42 : decode cX1_gain 42 = .ok (.if_icmp .ne 5, 3) := by decide +kernel
theorem dX1_gain_45 : decode cX1_gain 45 = .ok (.iconst (-1), 1) := by decide +kernel
theorem dX1_gain_46 : decode cX1_gain 46 = .ok (.ireturn, 1) := by decide +kernel
theorem dX1_gain_47 : decode cX1_gain 47 = .ok (.aload_n 0, 1) := by decide +kernel
theorem dX1_gain_48 : decode cX1_gain 48 = .ok (.getfield 15, 3) := by decide +kernel
theorem dX1_gain_51 : decode cX1_gain 51 = .ok (.getfield 33, 3) := by decide +kernel
theorem dX1_gain_54 : decode cX1_gain 54 = .ok (.iload_n 1, 1) := by decide +kernel
theorem dX1_gain_55 : decode cX1_gain 55 = .ok (.iload 5, 2) := by decide +kernel
theorem dX1_gain_57 : decode cX1_gain 57 = .ok (.iastore, 1) := by decide +kernel
theorem dX1_gain_58 : decode cX1_gain 58 = .ok (.aload_n 0, 1) := by decide +kernel
theorem dX1_gain_59 : decode cX1_gain 59 = .ok (.getfield 15, 3) := by decide +kernel
theorem dX1_gain_62 : decode cX1_gain 62 = .ok (.getfield 33, 3) := by decide +kernel
theorem dX1_gain_65 : decode cX1_gain 65 = .ok (.iload_n 3, 1) := by decide +kernel
theorem dX1_gain_66 : decode cX1_gain 66 = .ok (.iload 6, 2) := by decide +kernel
theorem dX1_gain_68 : decode cX1_gain 68 = .ok (.iconst 4, 1) := by decide +kernel
theorem dX1_gain_69 : decode cX1_gain 69 = .ok (.if_icmp .ne 8, 3) := by decide +kernel
theorem dX1_gain_72 : decode cX1_gain 72 = .ok (.bipush 8, 2) := by decide +kernel
theorem dX1_gain_74 : decode cX1_gain 74 = .ok (.goto 5, 3) := by decide +kernel
theorem dX1_gain_77 : decode cX1_gain 77 = .ok (.iload 6, 2) := by decide +kernel
theorem dX1_gain_79 : decode cX1_gain 79 = .ok (.iastore, 1) := by decide +kernel
theorem dX1_gain_80 : decode cX1_gain 80 = .ok (.aload_n 0, 1) := by decide +kernel
theorem dX1_gain_81 : decode cX1_gain 81 = .ok (.getfield 15, 3) := by decide +kernel
theorem dX1_gain_84 : decode cX1_gain 84 = .ok (.iload 5, 2) := by decide +kernel
theorem dX1_gain_86 : decode cX1_gain 86 = .ok (.aload_n 0, 1) := by decide +kernel
theorem dX1_gain_87 : decode cX1_gain 87 = .ok (.getfield 15, 3) := by decide +kernel
theorem dX1_gain_90 : decode cX1_gain 90 = .ok (.invokevirtual 37, 3) := by decide +kernel
theorem dX1_gain_93 : decode cX1_gain 93 = .ok (.invokevirtual 41, 3) := by decide +kernel
theorem dX1_gain_96 : decode cX1_gain 96 = .ok (.istore 7, 2) := by decide +kernel
theorem dX1_gain_98 : decode cX1_gain 98 = .ok (.aload_n 0, 1) := by decide +kernel
theorem dX1_gain_99 : decode cX1_gain 99 = .ok (.getfield 15, 3) := by decide +kernel
theorem dX1_gain_102 : decode cX1_gain 102 = .ok (.getfield 33, 3) := by decide +kernel
theorem dX1_gain_105 : decode cX1_gain 105 = .ok (.iload_n 1, 1) := by decide +kernel
theorem dX1_gain_106 : decode cX1_gain 106 = .ok (.bipush 8, 2) := by decide +kernel
theorem dX1_gain_108 : decode cX1_gain 108 = .ok (.iastore, 1) := by decide +kernel
theorem dX1_gain_109 : decode cX1_gain 109 = .ok (.aload_n 0, 1) := by decide +kernel
theorem dX1_gain_110 : decode cX1_gain 110 = .ok (.getfield 15, 3) := by decide +kernel
theorem dX1_gain_113 : decode cX1_gain 113 = .ok (.getfield 33, 3) := by decide +kernel
theorem dX1_gain_116 : decode cX1_gain 116 = .ok (.iload_n 3, 1) := by decide +kernel
theorem dX1_gain_117 : decode cX1_gain 117 = .ok (.bipush 8, 2) := by decide +kernel
theorem dX1_gain_119 : decode cX1_gain 119 = .ok (.iastore, 1) := by decide +kernel
theorem dX1_gain_120 : decode cX1_gain 120 = .ok (.iload 7, 2) := by decide +kernel
theorem dX1_gain_122 : decode cX1_gain 122 = .ok (.iload_n 1, 1) := by decide +kernel
theorem dX1_gain_123 : decode cX1_gain 123 = .ok (.ishr, 1) := by decide +kernel
theorem dX1_gain_124 : decode cX1_gain 124 = .ok (.iconst 1, 1) := by decide +kernel
theorem dX1_gain_125 : decode cX1_gain 125 = .ok (.iand, 1) := by decide +kernel
theorem dX1_gain_126 : decode cX1_gain 126 = .ok (.iconst 1, 1) := by decide +kernel
theorem dX1_gain_127 : decode cX1_gain 127 = .ok (.if_icmp .ne 7, 3) := by decide +kernel
theorem dX1_gain_130 : decode cX1_gain 130 = .ok (.iconst 3, 1) := by decide +kernel
theorem dX1_gain_131 : decode cX1_gain 131 = .ok (.goto 5, 3) := by decide +kernel
theorem dX1_gain_134 : decode cX1_gain 134 = .ok (.bipush (-2), 2) := by decide +kernel
theorem dX1_gain_136 : decode cX1_gain 136 = .ok (.ireturn, 1) := by decide +kernel
theorem dX1_berthChosen_0 : decode cX1_berthChosen 0 = .ok (.aload_n 0, 1) := by decide +kernel
theorem dX1_berthChosen_1 : decode cX1_berthChosen 1 = .ok (.getfield 9, 3) := by decide +kernel
theorem dX1_berthChosen_4 : decode cX1_berthChosen 4 = .ok (.iload_n 2, 1) := by decide +kernel
theorem dX1_berthChosen_5 : decode cX1_berthChosen 5 = .ok (.invokevirtual 44, 3) := by decide +kernel
theorem dX1_berthChosen_8 : decode cX1_berthChosen 8 = .ok (.ifCond .eq 19, 3) := by decide +kernel
theorem dX1_berthChosen_11 : decode cX1_berthChosen 11 = .ok (.aload_n 0, 1) := by decide +kernel
theorem dX1_berthChosen_12 : decode cX1_berthChosen 12 = .ok (.getfield 15, 3) := by decide +kernel
theorem dX1_berthChosen_15 : decode cX1_berthChosen 15 = .ok (.iload_n 1, 1) := by decide +kernel
theorem dX1_berthChosen_16 : decode cX1_berthChosen 16 = .ok (.iload_n 2, 1) := by decide +kernel
theorem dX1_berthChosen_17 : decode cX1_berthChosen 17 = .ok (.invokevirtual 50, 3) := by decide +kernel
theorem dX1_berthChosen_20 : decode cX1_berthChosen 20 = .ok (.ifCond .eq 7, 3) := by decide +kernel
theorem dX1_berthChosen_23 : decode cX1_berthChosen 23 = .ok (.iload_n 2, 1) := by decide +kernel
theorem dX1_berthChosen_24 : decode cX1_berthChosen 24 = .ok (.goto 4, 3) := by decide +kernel
theorem dX1_berthChosen_27 : decode cX1_berthChosen 27 = .ok (.iconst 4, 1) := by decide +kernel
theorem dX1_berthChosen_28 : decode cX1_berthChosen 28 = .ok (.ireturn, 1) := by decide +kernel
theorem dX3_search_0 : decode cX3_search 0 = .ok (.aload_n 0, 1) := by decide +kernel
theorem dX3_search_1 : decode cX3_search 1 = .ok (.getfield 25, 3) := by decide +kernel
theorem dX3_search_4 : decode cX3_search 4 = .ok (.aload_n 1, 1) := by decide +kernel
theorem dX3_search_5 : decode cX3_search 5 = .ok (.invokevirtual 29, 3) := by decide +kernel
theorem dX3_search_8 : decode cX3_search 8 = .ok (.aload_n 0, 1) := by decide +kernel
theorem dX3_search_9 : decode cX3_search 9 = .ok (.iload_n 2, 1) := by decide +kernel
theorem dX3_search_10 : decode cX3_search 10 = .ok (.putfield 9, 3) := by decide +kernel
theorem dX3_search_13 : decode cX3_search 13 = .ok (.aload_n 0, 1) := by decide +kernel
theorem dX3_search_14 : decode cX3_search 14 = .ok (.bipush (-9), 2) := by decide +kernel
theorem dX3_search_16 : decode cX3_search 16 = .ok (.putfield 15, 3) := by decide +kernel
theorem dX3_search_19 : decode cX3_search 19 = .ok (.aload_n 0, 1) := by decide +kernel
theorem dX3_search_20 : decode cX3_search 20 = .ok (.iconst 0, 1) := by decide +kernel
theorem dX3_search_21 : decode cX3_search 21 = .ok (.putfield 18, 3) := by decide +kernel
theorem dX3_search_24 : decode cX3_search 24 = .ok (.aload_n 0, 1) := by decide +kernel
theorem dX3_search_25 : decode cX3_search 25 = .ok (.iconst 0, 1) := by decide +kernel
theorem dX3_search_26 : decode cX3_search 26 = .ok (.iconst 0, 1) := by decide +kernel
theorem dX3_search_27 : decode cX3_search 27 = .ok (.aload_n 0, 1) := by decide +kernel
theorem dX3_search_28 : decode cX3_search 28 = .ok (.getfield 21, 3) := by decide +kernel
theorem dX3_search_31 : decode cX3_search 31 = .ok (.getfield 35, 3) := by decide +kernel
theorem dX3_search_34 : decode cX3_search 34 = .ok (.aload_n 1, 1) := by decide +kernel
theorem dX3_search_35 : decode cX3_search 35 = .ok (.bipush 9, 2) := by decide +kernel
theorem dX3_search_37 : decode cX3_search 37 = .ok (.invokevirtual 40, 3) := by decide +kernel
theorem dX3_search_40 : decode cX3_search 40 = .ok (.isub, 1) := by decide +kernel
theorem dX3_search_41 : decode cX3_search 41 = .ok (.invokevirtual 44, 3) := by decide +kernel
theorem dX3_search_44 : decode cX3_search 44 = .ok (.aload_n 0, 1) := by decide +kernel
theorem dX3_search_45 : decode cX3_search 45 = .ok (.getfield 15, 3) := by decide +kernel
theorem dX3_search_48 : decode cX3_search 48 = .ok (.ireturn, 1) := by decide +kernel
theorem dX3_choose_0 : decode cX3_choose 0 = .ok (.iload_n 3, 1) := by decide +kernel
theorem dX3_choose_1 : decode cX3_choose 1 = .ok (.aload_n 0, 1) := by decide +kernel
theorem dX3_choose_2 : decode cX3_choose 2 = .ok (.getfield 15, 3) := by decide +kernel
theorem dX3_choose_5 : decode cX3_choose 5 = .ok (.if_icmp .gt 4, 3) := by decide +kernel
theorem dX3_choose_8 : decode cX3_choose 8 = .ok (.return_, 1) := by decide +kernel
theorem dX3_choose_9 : decode cX3_choose 9 = .ok (.iload_n 1, 1) := by decide +kernel
theorem dX3_choose_10 : decode cX3_choose 10 = .ok (.aload_n 0, 1) := by decide +kernel
theorem dX3_choose_11 : decode cX3_choose 11 = .ok (.getfield 21, 3) := by decide +kernel
theorem dX3_choose_14 : decode cX3_choose 14 = .ok (.getfield 35, 3) := by decide +kernel
theorem dX3_choose_17 : decode cX3_choose 17 = .ok (.if_icmp .lt 9, 3) := by decide +kernel
theorem dX3_choose_20 : decode cX3_choose 20 = .ok (.aload_n 0, 1) := by decide +kernel
theorem dX3_choose_21 : decode cX3_choose 21 = .ok (.iload_n 2, 1) := by decide +kernel
theorem dX3_choose_22 : decode cX3_choose 22 = .ok (.invokevirtual 48, 3) := by decide +kernel
theorem dX3_choose_25 : decode cX3_choose 25 = .ok (.return_, 1) := by decide +kernel
theorem dX3_choose_26 : decode cX3_choose 26 = .ok (.aload_n 0, 1) := by decide +kernel
theorem dX3_choose_27 : decode cX3_choose 27 = .ok (.getfield 25, 3) := by decide +kernel
theorem dX3_choose_30 : decode cX3_choose 30 = .ok (.iload_n 1, 1) := by decide +kernel
theorem dX3_choose_31 : decode cX3_choose 31 = .ok (.invokevirtual 52, 3) := by decide +kernel
theorem dX3_choose_34 : decode cX3_choose 34 = .ok (.ifCond .ne 13, 3) := by decide +kernel
theorem dX3_choose_37 : decode cX3_choose 37 = .ok (.aload_n 0, 1) := by decide +kernel
theorem dX3_choose_38 : decode cX3_choose 38 = .ok (.iload_n 1, 1) := by decide +kernel
theorem dX3_choose_39 : decode cX3_choose 39 = .ok (.iconst 1, 1) := by decide +kernel
theorem dX3_choose_40 : decode cX3_choose 40 = .ok (.iadd, 1) := by decide +kernel
theorem dX3_choose_41 : decode cX3_choose 41 = .ok (.iload_n 2, 1) := by decide +kernel
theorem dX3_choose_42 : decode cX3_choose 42 = .ok (.iload_n 3, 1) := by decide +kernel
theorem dX3_choose_43 : decode cX3_choose 43 = .ok (.invokevirtual 44, 3) := by decide +kernel
theorem dX3_choose_46 : decode cX3_choose 46 = .ok (.return_, 1) := by decide +kernel
theorem dX3_choose_47 : decode cX3_choose 47 = .ok (.aload_n 0, 1) := by decide +kernel
theorem dX3_choose_48 : decode cX3_choose 48 = .ok (.iload_n 1, 1) := by decide +kernel
theorem dX3_choose_49 : decode cX3_choose 49 = .ok (.iconst 1, 1) := by decide +kernel
theorem dX3_choose_50 : decode cX3_choose 50 = .ok (.iadd, 1) := by decide +kernel
theorem dX3_choose_51 : decode cX3_choose 51 = .ok (.bipush 10, 2) := by decide +kernel
theorem dX3_choose_53 : decode cX3_choose 53 = .ok (.iload_n 2, 1) := by decide +kernel
theorem dX3_choose_54 : decode cX3_choose 54 = .ok (.imul, 1) := by decide +kernel
theorem dX3_choose_55 : decode cX3_choose 55 = .ok (.iload_n 3, 1) := by decide +kernel
theorem dX3_choose_56 : decode cX3_choose 56 = .ok (.iconst 1, 1) := by decide +kernel
theorem dX3_choose_57 : decode cX3_choose 57 = .ok (.isub, 1) := by decide +kernel
theorem dX3_choose_58 : decode cX3_choose 58 = .ok (.invokevirtual 44, 3) := by decide +kernel
theorem dX3_choose_61 : decode cX3_choose 61 = .ok (.iconst 0, 1) := by decide +kernel
theorem dX3_choose_62 : decode cX3_choose 62 = .ok (.istore 4, 2) := by decide +kernel
theorem dX3_choose_64 : decode cX3_choose 64 = .ok (.iload 4, 2) := by decide +kernel
theorem dX3_choose_66 : decode cX3_choose 66 = .ok (.aload_n 0, 1) := by decide +kernel
theorem dX3_choose_67 : decode cX3_choose 67 = .ok (.getfield 21, 3) := by decide +kernel
theorem dX3_choose_70 : decode cX3_choose 70 = .ok (.getfield 56, 3) := by decide +kernel
theorem dX3_choose_73 : decode cX3_choose 73 = .ok (.if_icmp .ge 58, 3) := by decide +kernel
theorem dX3_choose_76 : decode cX3_choose 76 = .ok (.aload_n 0, 1) := by decide +kernel
theorem dX3_choose_77 : decode cX3_choose 77 = .ok (.iload_n 1, 1) := by decide +kernel
theorem dX3_choose_78 : decode cX3_choose 78 = .ok (.iload 4, 2) := by decide +kernel
theorem dX3_choose_80 : decode cX3_choose 80 = .ok (.invokevirtual 59, 3) := by decide +kernel
theorem dX3_choose_83 : decode cX3_choose 83 = .ok (.ifCond .eq 42, 3) := by decide +kernel
theorem dX3_choose_86 : decode cX3_choose 86 = .ok (.aload_n 0, 1) := by decide +kernel
theorem dX3_choose_87 : decode cX3_choose 87 = .ok (.getfield 25, 3) := by decide +kernel
theorem dX3_choose_90 : decode cX3_choose 90 = .ok (.getfield 63, 3) := by decide +kernel
theorem dX3_choose_93 : decode cX3_choose 93 = .ok (.iload_n 1, 1) := by decide +kernel
theorem dX3_choose_94 : decode cX3_choose 94 = .ok (.iload 4, 2) := by decide +kernel
theorem dX3_choose_96 : decode cX3_choose 96 = .ok (.iastore, 1) := by decide +kernel
theorem dX3_choose_97 : decode cX3_choose 97 = .ok (.aload_n 0, 1) := by decide +kernel
theorem dX3_choose_98 : decode cX3_choose 98 = .ok (.iload_n 1, 1) := by decide +kernel
theorem dX3_choose_99 : decode cX3_choose 99 = .ok (.iconst 1, 1) := by decide +kernel
theorem dX3_choose_100 : decode cX3_choose 100 = .ok (.iadd, 1) := by decide +kernel
theorem dX3_choose_101 : decode cX3_choose 101 = .ok (.bipush 10, 2) := by decide +kernel
theorem dX3_choose_103 : decode cX3_choose 103 = .ok (.iload_n 2, 1) := by decide +kernel
theorem dX3_choose_104 : decode cX3_choose 104 = .ok (.imul, 1) := by decide +kernel
theorem dX3_choose_105 : decode cX3_choose 105 = .ok (.iload 4, 2) := by decide +kernel
theorem dX3_choose_107 : decode cX3_choose 107 = .ok (.iadd, 1) := by decide +kernel
theorem dX3_choose_108 : decode cX3_choose 108 = .ok (.iconst 1, 1) := by decide +kernel
theorem dX3_choose_109 : decode cX3_choose 109 = .ok (.iadd, 1) := by decide +kernel
theorem dX3_choose_110 : decode cX3_choose 110 = .ok (.iload_n 3, 1) := by decide +kernel
theorem dX3_choose_111 : decode cX3_choose 111 = .ok (.invokevirtual 44, 3) := by decide +kernel
theorem dX3_choose_114 : decode cX3_choose 114 = .ok (.aload_n 0, 1) := by decide +kernel
theorem dX3_choose_115 : decode cX3_choose 115 = .ok (.getfield 25, 3) := by decide +kernel
theorem dX3_choose_118 : decode cX3_choose 118 = .ok (.getfield 63, 3) := by decide +kernel
theorem dX3_choose_121 : decode cX3_choose 121 = .ok (.iload_n 1, 1) := by decide +kernel
theorem dX3_choose_122 : decode cX3_choose 122 = .ok (.bipush 8, 2) := by decide +kernel
theorem dX3_choose_124 : decode cX3_choose 124 = .ok (.iastore, 1) := by decide +kernel
theorem dX3_choose_125 : decode cX3_choose 125 = .ok (.iinc 4 1, 3) := by decide +kernel
theorem dX3_choose_128 : decode cX3_choose 128 = .ok (.goto (-64), 3) := by decide +kernel
theorem dX3_choose_131 : decode cX3_choose 131 = .ok (.return_, 1) := by decide +kernel
theorem dX3_isWorthwhile_0 : decode cX3_isWorthwhile 0 = .ok (.aload_n 0, 1) := by decide +kernel
theorem dX3_isWorthwhile_1 : decode cX3_isWorthwhile 1 = .ok (.getfield 9, 3) := by decide +kernel
theorem dX3_isWorthwhile_4 : decode cX3_isWorthwhile 4 = .ok (.iload_n 2, 1) := by decide +kernel
theorem dX3_isWorthwhile_5 : decode cX3_isWorthwhile 5 = .ok (.ishr, 1) := by decide +kernel
theorem dX3_isWorthwhile_6 : decode cX3_isWorthwhile 6 = .ok (.iconst 1, 1) := by decide +kernel
theorem dX3_isWorthwhile_7 : decode cX3_isWorthwhile 7 = .ok (.iand, 1) := by decide +kernel
theorem dX3_isWorthwhile_8 : decode cX3_isWorthwhile 8 = .ok (.iconst 1, 1) := by decide +kernel
theorem dX3_isWorthwhile_9 : decode cX3_isWorthwhile 9 = .ok (.if_icmp .ne 39, 3) := by decide +kernel
theorem dX3_isWorthwhile_12 : decode cX3_isWorthwhile 12 = .ok (.aload_n 0, 1) := by decide +kernel
theorem dX3_isWorthwhile_13 : decode cX3_isWorthwhile 13 = .ok (.getfield 25, 3) := by decide +kernel
theorem dX3_isWorthwhile_16 : decode cX3_isWorthwhile 16 = .ok (.iload_n 1, 1) := by decide +kernel
theorem dX3_isWorthwhile_17 : decode cX3_isWorthwhile 17 = .ok (.iload_n 2, 1) := by decide +kernel
theorem dX3_isWorthwhile_18 : decode cX3_isWorthwhile 18 = .ok (.invokevirtual 67, 3) := by decide +kernel
theorem dX3_isWorthwhile_21 : decode cX3_isWorthwhile 21 = .ok (.ifCond .eq 27, 3) := by decide +kernel
theorem dX3_isWorthwhile_24 : decode cX3_isWorthwhile 24 = .ok (.aload_n 0, 1) := by decide +kernel
theorem dX3_isWorthwhile_25 : decode cX3_isWorthwhile 25 = .ok (.getfield 25, 3) := by decide +kernel
theorem dX3_isWorthwhile_28 : decode cX3_isWorthwhile 28 = .ok (.getfield 70, 3) := by decide +kernel
theorem dX3_isWorthwhile_31 : decode cX3_isWorthwhile 31 = .ok (.iload_n 1, 1) := by decide +kernel
theorem dX3_isWorthwhile_32 : decode cX3_isWorthwhile 32 = .ok (.iaload, 1) := by decide +kernel
theorem dX3_isWorthwhile_33 : decode cX3_isWorthwhile 33 = .ok (.aload_n 0, 1) := by decide +kernel
theorem dX3_isWorthwhile_34 : decode cX3_isWorthwhile 34 = .ok (.getfield 25, 3) := by decide +kernel
theorem dX3_isWorthwhile_37 : decode cX3_isWorthwhile 37 = .ok (.iload_n 2, 1) := by decide +kernel
theorem dX3_isWorthwhile_38 : decode cX3_isWorthwhile 38 = .ok (.invokevirtual 73, 3) := by decide +kernel
theorem dX3_isWorthwhile_41 : decode cX3_isWorthwhile 41 = .ok (.if_icmp .gt 7, 3) := by decide +kernel
theorem dX3_isWorthwhile_44 : decode cX3_isWorthwhile 44 = .ok (.iconst 1, 1) := by decide +kernel
theorem dX3_isWorthwhile_45 : decode cX3_isWorthwhile 45 = .ok (.goto 4, 3) := by decide +kernel
theorem dX3_isWorthwhile_48 : decode cX3_isWorthwhile 48 = .ok (.iconst 0, 1) := by decide +kernel
theorem dX3_isWorthwhile_49 : decode cX3_isWorthwhile 49 = .ok (.ireturn, 1) := by decide +kernel
theorem dX3_weigh_0 : decode cX3_weigh 0 = .ok (.iconst 0, 1) := by decide +kernel
theorem dX3_weigh_1 : decode cX3_weigh 1 = .ok (.istore_n 2, 1) := by decide +kernel
theorem dX3_weigh_2 : decode cX3_weigh 2 = .ok (.iconst 0, 1) := by decide +kernel
theorem dX3_weigh_3 : decode cX3_weigh 3 = .ok (.istore_n 3, 1) := by decide +kernel
theorem dX3_weigh_4 : decode cX3_weigh 4 = .ok (.iload_n 3, 1) := by decide +kernel
theorem dX3_weigh_5 : decode cX3_weigh 5 = .ok (.aload_n 0, 1) := by decide +kernel
theorem dX3_weigh_6 : decode cX3_weigh 6 = .ok (.getfield 21, 3) := by decide +kernel
theorem dX3_weigh_9 : decode cX3_weigh 9 = .ok (.getfield 56, 3) := by decide +kernel
theorem dX3_weigh_12 : decode cX3_weigh 12 = .ok (.if_icmp .ge 42, 3) := by decide +kernel
theorem dX3_weigh_15 : decode cX3_weigh 15 = .ok (.aload_n 0, 1) := by decide +kernel
theorem dX3_weigh_16 : decode cX3_weigh 16 = .ok (.getfield 9, 3) := by decide +kernel
theorem dX3_weigh_19 : decode cX3_weigh 19 = .ok (.iload_n 3, 1) := by decide +kernel
theorem dX3_weigh_20 : decode cX3_weigh 20 = .ok (.ishr, 1) := by decide +kernel
theorem dX3_weigh_21 : decode cX3_weigh 21 = .ok (.iconst 1, 1) := by decide +kernel
theorem dX3_weigh_22 : decode cX3_weigh 22 = .ok (.iand, 1) := by decide +kernel
theorem dX3_weigh_23 : decode cX3_weigh 23 = .ok (.iconst 1, 1) := by decide +kernel
theorem dX3_weigh_24 : decode cX3_weigh 24 = .ok (.if_icmp .ne 24, 3) := by decide +kernel
theorem dX3_weigh_27 : decode cX3_weigh 27 = .ok (.iload_n 2, 1) := by decide +kernel
theorem dX3_weigh_28 : decode cX3_weigh 28 = .ok (.aload_n 0, 1) := by decide +kernel
theorem dX3_weigh_29 : decode cX3_weigh 29 = .ok (.getfield 25, 3) := by decide +kernel
theorem dX3_weigh_32 : decode cX3_weigh 32 = .ok (.iload_n 3, 1) := by decide +kernel
theorem dX3_weigh_33 : decode cX3_weigh 33 = .ok (.aload_n 0, 1) := by decide +kernel
theorem dX3_weigh_34 : decode cX3_weigh 34 = .ok (.getfield 25, 3) := by decide +kernel
theorem dX3_weigh_37 : decode cX3_weigh 37 = .ok (.invokevirtual 76, 3) := by decide +kernel
theorem dX3_weigh_40 : decode cX3_weigh 40 = .ok (.invokevirtual 80, 3) := by decide +kernel
theorem dX3_weigh_43 : decode cX3_weigh 43 = .ok (.invokestatic 84, 3) := by decide +kernel
theorem dX3_weigh_46 : decode cX3_weigh 46 = .ok (.iadd, 1) := by decide +kernel
theorem dX3_weigh_47 : decode cX3_weigh 47 = .ok (.istore_n 2, 1) := by decide +kernel
theorem dX3_weigh_48 : decode cX3_weigh 48 = .ok (.iinc 3 1, 3) := by decide +kernel
theorem dX3_weigh_51 : decode cX3_weigh 51 = .ok (.goto (-47), 3) := by decide +kernel
theorem dX3_weigh_54 : decode cX3_weigh 54 = .ok (.iload_n 2, 1) := by decide +kernel
theorem dX3_weigh_55 : decode cX3_weigh 55 = .ok (.aload_n 0, 1) := by decide +kernel
theorem dX3_weigh_56 : decode cX3_weigh 56 = .ok (.getfield 15, 3) := by decide +kernel
theorem dX3_weigh_59 : decode cX3_weigh 59 = .ok (.if_icmp .le 13, 3) := by decide +kernel
theorem dX3_weigh_62 : decode cX3_weigh 62 = .ok (.aload_n 0, 1) := by decide +kernel
theorem dX3_weigh_63 : decode cX3_weigh 63 = .ok (.iload_n 2, 1) := by decide +kernel
theorem dX3_weigh_64 : decode cX3_weigh 64 = .ok (.putfield 15, 3) := by decide +kernel
theorem dX3_weigh_67 : decode cX3_weigh 67 = .ok (.aload_n 0, 1) := by decide +kernel
theorem dX3_weigh_68 : decode cX3_weigh 68 = .ok (.iload_n 1, 1) := by decide +kernel
theorem dX3_weigh_69 : decode cX3_weigh 69 = .ok (.putfield 18, 3) := by decide +kernel
theorem dX3_weigh_72 : decode cX3_weigh 72 = .ok (.return_, 1) := by decide +kernel
theorem dX4_add_0 : decode cX4_add 0 = .ok (.aload_n 0, 1) := by decide +kernel
theorem dX4_add_1 : decode cX4_add 1 = .ok (.getfield 22, 3) := by decide +kernel
theorem dX4_add_4 : decode cX4_add 4 = .ok (.bipush 6, 2) := by decide +kernel
theorem dX4_add_6 : decode cX4_add 6 = .ok (.if_icmp .lt 6, 3) := by decide +kernel
theorem dX4_add_9 : decode cX4_add 9 = .ok (.bipush (-4), 2) := by decide +kernel
theorem dX4_add_11 : decode cX4_add 11 = .ok (.ireturn, 1) := by decide +kernel
theorem dX4_add_12 : decode cX4_add 12 = .ok (.aload_n 0, 1) := by decide +kernel
theorem dX4_add_13 : decode cX4_add 13 = .ok (.getfield 9, 3) := by decide +kernel
theorem dX4_add_16 : decode cX4_add 16 = .ok (.aload_n 0, 1) := by decide +kernel
theorem dX4_add_17 : decode cX4_add 17 = .ok (.getfield 22, 3) := by decide +kernel
theorem dX4_add_20 : decode cX4_add 20 = .ok (.iload_n 1, 1) := by decide +kernel
theorem dX4_add_21 : decode cX4_add 21 = .ok (.iastore, 1) := by decide +kernel
theorem dX4_add_22 : decode cX4_add 22 = .ok (.aload_n 0, 1) := by decide +kernel
theorem dX4_add_23 : decode cX4_add 23 = .ok (.getfield 15, 3) := by decide +kernel
theorem dX4_add_26 : decode cX4_add 26 = .ok (.aload_n 0, 1) := by decide +kernel
theorem dX4_add_27 : decode cX4_add 27 = .ok (.getfield 22, 3) := by decide +kernel
theorem dX4_add_30 : decode cX4_add 30 = .ok (.iload_n 2, 1) := by decide +kernel
theorem dX4_add_31 : decode cX4_add 31 = .ok (.iastore, 1) := by decide +kernel
theorem dX4_add_32 : decode cX4_add 32 = .ok (.aload_n 0, 1) := by decide +kernel
theorem dX4_add_33 : decode cX4_add 33 = .ok (.getfield 18, 3) := by decide +kernel
theorem dX4_add_36 : decode cX4_add 36 = .ok (.aload_n 0, 1) := by decide +kernel
theorem dX4_add_37 : decode cX4_add 37 = .ok (.getfield 22, 3) := by decide +kernel
theorem dX4_add_40 : decode cX4_add 40 = .ok (.iload_n 3, 1) := by decide +kernel
theorem dX4_add_41 : decode cX4_add 41 = .ok (.bastore, 1) := by decide +kernel
theorem dX4_add_42 : decode cX4_add 42 = .ok (.aload_n 0, 1) := by decide +kernel
theorem dX4_add_43 : decode cX4_add 43 = .ok (.dup, 1) := by decide +kernel
theorem dX4_add_44 : decode cX4_add 44 = .ok (.getfield 22, 3) := by decide +kernel
theorem dX4_add_47 : decode cX4_add 47 = .ok (.iconst 1, 1) := by decide +kernel
theorem dX4_add_48 : decode cX4_add 48 = .ok (.iadd, 1) := by decide +kernel
theorem dX4_add_49 : decode cX4_add 49 = .ok (.putfield 22, 3) := by decide +kernel
theorem dX4_add_52 : decode cX4_add 52 = .ok (.aload_n 0, 1) := by decide +kernel
theorem dX4_add_53 : decode cX4_add 53 = .ok (.getfield 22, 3) := by decide +kernel
theorem dX4_add_56 : decode cX4_add 56 = .ok (.ireturn, 1) := by decide +kernel
theorem dX4_empty_0 : decode cX4_empty 0 = .ok (.aload_n 0, 1) := by decide +kernel
theorem dX4_empty_1 : decode cX4_empty 1 = .ok (.getfield 22, 3) := by decide +kernel
theorem dX4_empty_4 : decode cX4_empty 4 = .ok (.istore_n 1, 1) := by decide +kernel
theorem dX4_empty_5 : decode cX4_empty 5 = .ok (.aload_n 0, 1) := by decide +kernel
theorem dX4_empty_6 : decode cX4_empty 6 = .ok (.iconst 0, 1) := by decide +kernel
theorem dX4_empty_7 : decode cX4_empty 7 = .ok (.putfield 22, 3) := by decide +kernel
theorem dX4_empty_10 : decode cX4_empty 10 = .ok (.iload_n 1, 1) := by decide +kernel
theorem dX4_empty_11 : decode cX4_empty 11 = .ok (.ireturn, 1) := by decide +kernel
theorem dX4_agrees_0 : decode cX4_agrees 0 = .ok (.iconst 0, 1) := by decide +kernel
theorem dX4_agrees_1 : decode cX4_agrees 1 = .ok (.istore 4, 2) := by decide +kernel
theorem dX4_agrees_3 : decode cX4_agrees 3 = .ok (.iload 4, 2) := by decide +kernel
theorem dX4_agrees_5 : decode cX4_agrees 5 = .ok (.aload_n 0, 1) := by decide +kernel
theorem dX4_agrees_6 : decode cX4_agrees 6 = .ok (.getfield 22, 3) := by decide +kernel
theorem dX4_agrees_9 : decode cX4_agrees 9 = .ok (.if_icmp .ge 79, 3) := by decide +kernel
theorem dX4_agrees_12 : decode cX4_agrees 12 = .ok (.iload_n 1, 1) := by decide +kernel
theorem dX4_agrees_13 : decode cX4_agrees 13 = .ok (.iconst 3, 1) := by decide +kernel
theorem dX4_agrees_14 : decode cX4_agrees 14 = .ok (.if_icmp .ne 20, 3) := by decide +kernel
theorem dX4_agrees_17 : decode cX4_agrees 17 = .ok (.bipush 9, 2) := by decide +kernel
theorem dX4_agrees_19 : decode cX4_agrees 19 = .ok (.iload_n 2, 1) := by decide +kernel
theorem dX4_agrees_20 : decode cX4_agrees 20 = .ok (.aload_n 0, 1) := by decide +kernel
theorem dX4_agrees_21 : decode cX4_agrees 21 = .ok (.getfield 15, 3) := by decide +kernel
theorem dX4_agrees_24 : decode cX4_agrees 24 = .ok (.iload 4, 2) := by decide +kernel
theorem dX4_agrees_26 : decode cX4_agrees 26 = .ok (.iaload, 1) := by decide +kernel
theorem dX4_agrees_27 : decode cX4_agrees 27 = .ok (.iadd, 1) := by decide +kernel
theorem dX4_agrees_28 : decode cX4_agrees 28 = .ok (.invokestatic 26, 3) := by decide +kernel
theorem dX4_agrees_31 : decode cX4_agrees 31 = .ok (.goto 4, 3) := by decide +kernel
theorem dX4_agrees_34 : decode cX4_agrees 34 = .ok (.iload_n 2, 1) := by decide +kernel
theorem dX4_agrees_35 : decode cX4_agrees 35 = .ok (.istore 5, 2) := by decide +kernel
theorem dX4_agrees_37 : decode cX4_agrees 37 = .ok (.aload_n 0, 1) := by decide +kernel
theorem dX4_agrees_38 : decode cX4_agrees 38 = .ok (.getfield 9, 3) := by decide +kernel
theorem dX4_agrees_41 : decode cX4_agrees 41 = .ok (.iload 4, 2) := by decide +kernel
theorem dX4_agrees_43 : decode cX4_agrees 43 = .ok (.iaload, 1) := by decide +kernel
theorem dX4_agrees_44 : decode cX4_agrees 44 = .ok (.iload 5, 2) := by decide +kernel
theorem dX4_agrees_46 : decode cX4_agrees 46 = .ok (.aload_n 3, 1) := by decide +kernel
theorem dX4_agrees_47 : decode cX4_agrees 47 = .ok (.aload_n 0, 1) := by decide +kernel
theorem dX4_agrees_48 : decode cX4_agrees 48 = .ok (.getfield 15, 3) := by decide +kernel
theorem dX4_agrees_51 : decode cX4_agrees 51 = .ok (.iload 4, 2) := by decide +kernel
theorem dX4_agrees_53 : decode cX4_agrees 53 = .ok (.iaload, 1) := by decide +kernel
theorem dX4_agrees_54 : decode cX4_agrees 54 = .ok (.invokevirtual 32, 3) := by decide +kernel
theorem dX4_agrees_57 : decode cX4_agrees 57 = .ok (.iadd, 1) := by decide +kernel
theorem dX4_agrees_58 : decode cX4_agrees 58 = .ok (.if_icmp .le 7, 3) := by decide +kernel
theorem dX4_agrees_61 : decode cX4_agrees 61 = .ok (.iconst 1, 1) := by decide +kernel
theorem dX4_agrees_62 : decode cX4_agrees 62 = .ok (.goto 4, 3) := by decide +kernel
theorem dX4_agrees_65 : decode cX4_agrees 65 = .ok (.iconst 0, 1) := by decide +kernel
theorem dX4_agrees_66 : decode cX4_agrees 66 = .ok (.istore 6, 2) := by decide +kernel
theorem dX4_agrees_68 : decode cX4_agrees 68 = .ok (.iload 6, 2) := by decide +kernel
theorem dX4_agrees_70 : decode cX4_agrees 70 = .ok (.aload_n 0, 1) := by decide +kernel
theorem dX4_agrees_71 : decode cX4_agrees 71 = .ok (.getfield 18, 3) := by decide +kernel
theorem dX4_agrees_74 : decode cX4_agrees 74 = .ok (.iload 4, 2) := by decide +kernel
theorem dX4_agrees_76 : decode cX4_agrees 76 = .ok (.baload, 1) := by decide +kernel
theorem dX4_agrees_77 : decode cX4_agrees 77 = .ok (.if_icmp .eq 5, 3) := by decide +kernel
theorem dX4_agrees_80 : decode cX4_agrees 80 = .ok (.iconst 0, 1) := by decide +kernel
theorem dX4_agrees_81 : decode cX4_agrees 81 = .ok (.ireturn, 1) := by decide +kernel
theorem dX4_agrees_82 : decode cX4_agrees 82 = .ok (.iinc 4 1, 3) := by decide +kernel
theorem dX4_agrees_85 : decode cX4_agrees 85 = .ok (.goto (-82), 3) := by decide +kernel
theorem dX4_agrees_88 : decode cX4_agrees 88 = .ok (.iconst 1, 1) := by decide +kernel
theorem dX4_agrees_89 : decode cX4_agrees 89 = .ok (.ireturn, 1) := by decide +kernel
theorem dX5_add_0 : decode cX5_add 0 = .ok (.aload_n 0, 1) := by decide +kernel
theorem dX5_add_1 : decode cX5_add 1 = .ok (.getfield 15, 3) := by decide +kernel
theorem dX5_add_4 : decode cX5_add 4 = .ok (.bipush 48, 2) := by decide +kernel
theorem dX5_add_6 : decode cX5_add 6 = .ok (.if_icmp .lt 6, 3) := by decide +kernel
theorem dX5_add_9 : decode cX5_add 9 = .ok (.bipush (-4), 2) := by decide +kernel
theorem dX5_add_11 : decode cX5_add 11 = .ok (.ireturn, 1) := by decide +kernel
theorem dX5_add_12 : decode cX5_add 12 = .ok (.aload_n 0, 1) := by decide +kernel
theorem dX5_add_13 : decode cX5_add 13 = .ok (.getfield 9, 3) := by decide +kernel
theorem dX5_add_16 : decode cX5_add 16 = .ok (.aload_n 0, 1) := by decide +kernel
theorem dX5_add_17 : decode cX5_add 17 = .ok (.getfield 15, 3) := by decide +kernel
theorem dX5_add_20 : decode cX5_add 20 = .ok (.iload_n 1, 1) := by decide +kernel
theorem dX5_add_21 : decode cX5_add 21 = .ok (.iastore, 1) := by decide +kernel
theorem dX5_add_22 : decode cX5_add 22 = .ok (.aload_n 0, 1) := by decide +kernel
theorem dX5_add_23 : decode cX5_add 23 = .ok (.dup, 1) := by decide +kernel
theorem dX5_add_24 : decode cX5_add 24 = .ok (.getfield 15, 3) := by decide +kernel
theorem dX5_add_27 : decode cX5_add 27 = .ok (.iconst 1, 1) := by decide +kernel
theorem dX5_add_28 : decode cX5_add 28 = .ok (.iadd, 1) := by decide +kernel
theorem dX5_add_29 : decode cX5_add 29 = .ok (.putfield 15, 3) := by decide +kernel
theorem dX5_add_32 : decode cX5_add 32 = .ok (.aload_n 0, 1) := by decide +kernel
theorem dX5_add_33 : decode cX5_add 33 = .ok (.getfield 15, 3) := by decide +kernel
theorem dX5_add_36 : decode cX5_add 36 = .ok (.ireturn, 1) := by decide +kernel
theorem dX5_empty_0 : decode cX5_empty 0 = .ok (.aload_n 0, 1) := by decide +kernel
theorem dX5_empty_1 : decode cX5_empty 1 = .ok (.getfield 15, 3) := by decide +kernel
theorem dX5_empty_4 : decode cX5_empty 4 = .ok (.istore_n 1, 1) := by decide +kernel
theorem dX5_empty_5 : decode cX5_empty 5 = .ok (.aload_n 0, 1) := by decide +kernel
theorem dX5_empty_6 : decode cX5_empty 6 = .ok (.iconst 0, 1) := by decide +kernel
theorem dX5_empty_7 : decode cX5_empty 7 = .ok (.putfield 15, 3) := by decide +kernel
theorem dX5_empty_10 : decode cX5_empty 10 = .ok (.iload_n 1, 1) := by decide +kernel
theorem dX5_empty_11 : decode cX5_empty 11 = .ok (.ireturn, 1) := by decide +kernel
theorem dX5_tell_0 : decode cX5_tell 0 = .ok (.aload_n 1, 1) := by decide +kernel
theorem dX5_tell_1 : decode cX5_tell 1 = .ok (.invokevirtual 19, 3) := by decide +kernel
theorem dX5_tell_4 : decode cX5_tell 4 = .ok (.iconst 0, 1) := by decide +kernel
theorem dX5_tell_5 : decode cX5_tell 5 = .ok (.istore_n 2, 1) := by decide +kernel
theorem dX5_tell_6 : decode cX5_tell 6 = .ok (.iload_n 2, 1) := by decide +kernel
theorem dX5_tell_7 : decode cX5_tell 7 = .ok (.aload_n 0, 1) := by decide +kernel
theorem dX5_tell_8 : decode cX5_tell 8 = .ok (.getfield 15, 3) := by decide +kernel
theorem dX5_tell_11 : decode cX5_tell 11 = .ok (.if_icmp .ge 24, 3) := by decide +kernel
theorem dX5_tell_14 : decode cX5_tell 14 = .ok (.aload_n 1, 1) := by decide +kernel
theorem dX5_tell_15 : decode cX5_tell 15 = .ok (.aload_n 0, 1) := by decide +kernel
theorem dX5_tell_16 : decode cX5_tell 16 = .ok (.getfield 9, 3) := by decide +kernel
theorem dX5_tell_19 : decode cX5_tell 19 = .ok (.iload_n 2, 1) := by decide +kernel
theorem dX5_tell_20 : decode cX5_tell 20 = .ok (.iaload, 1) := by decide +kernel
theorem dX5_tell_21 : decode cX5_tell 21 = .ok (.invokevirtual 24, 3) := by decide +kernel
theorem dX5_tell_24 : decode cX5_tell 24 = .ok (.ifCond .ne 5, 3) := by decide +kernel
theorem dX5_tell_27 : decode cX5_tell 27 = .ok (.iload_n 2, 1) := by decide +kernel
theorem dX5_tell_28 : decode cX5_tell 28 = .ok (.ireturn, 1) := by decide +kernel
theorem dX5_tell_29 : decode cX5_tell 29 = .ok (.iinc 2 1, 3) := by decide +kernel
theorem dX5_tell_32 : decode cX5_tell 32 = .ok (.goto (-26), 3) := by decide +kernel
theorem dX5_tell_35 : decode cX5_tell 35 = .ok (.aload_n 1, 1) := by decide +kernel
theorem dX5_tell_36 : decode cX5_tell 36 = .ok (.invokevirtual 28, 3) := by decide +kernel
theorem dX5_tell_39 : decode cX5_tell 39 = .ok (.ifCond .eq 8, 3) := by decide +kernel
theorem dX5_tell_42 : decode cX5_tell 42 = .ok (.bipush (-9), 2) := by decide +kernel
theorem dX5_tell_44 : decode cX5_tell 44 = .ok (.goto 7, 3) := by decide +kernel
theorem dX5_tell_47 : decode cX5_tell 47 = .ok (.aload_n 0, 1) := by decide +kernel
theorem dX5_tell_48 : decode cX5_tell 48 = .ok (.getfield 15, 3) := by decide +kernel
theorem dX5_tell_51 : decode cX5_tell 51 = .ok (.ireturn, 1) := by decide +kernel
