theorem dX8_fitsThen_6 : decode cX8_fitsThen 6 = .ok (.getfield 66, 3) := by decide +kernel
theorem dX8_fitsThen_9 : decode cX8_fitsThen 9 = .ok (.if_icmp .ge 53, 3) := by decide +kernel
theorem dX8_fitsThen_12 : decode cX8_fitsThen 12 = .ok (.iload_n 2, 1) := by decide +kernel
theorem dX8_fitsThen_13 : decode cX8_fitsThen 13 = .ok (.aload_n 0, 1) := by decide +kernel
theorem dX8_fitsThen_14 : decode cX8_fitsThen 14 = .ok (.aload_n 0, 1) := by decide +kernel
theorem dX8_fitsThen_15 : decode cX8_fitsThen 15 = .ok (.getfield 34, 3) := by decide +kernel
theorem dX8_fitsThen_18 : decode cX8_fitsThen 18 = .ok (.iload_n 1, 1) := by decide +kernel
theorem dX8_fitsThen_19 : decode cX8_fitsThen 19 = .ok (.iload_n 3, 1) := by decide +kernel
theorem dX8_fitsThen_20 : decode cX8_fitsThen 20 = .ok (.invokevirtual 138, 3) := by decide +kernel
theorem dX8_fitsThen_23 : decode cX8_fitsThen 23 = .ok (.ifCond .eq 30, 3) := by decide +kernel
theorem dX8_fitsThen_26 : decode cX8_fitsThen 26 = .ok (.aload_n 0, 1) := by decide +kernel
theorem dX8_fitsThen_27 : decode cX8_fitsThen 27 = .ok (.aload_n 0, 1) := by decide +kernel
theorem dX8_fitsThen_28 : decode cX8_fitsThen 28 = .ok (.getfield 34, 3) := by decide +kernel
theorem dX8_fitsThen_31 : decode cX8_fitsThen 31 = .ok (.iload_n 3, 1) := by decide +kernel
theorem dX8_fitsThen_32 : decode cX8_fitsThen 32 = .ok (.invokevirtual 148, 3) := by decide +kernel
theorem dX8_fitsThen_35 : decode cX8_fitsThen 35 = .ok (.aload_n 0, 1) := by decide +kernel
theorem dX8_fitsThen_36 : decode cX8_fitsThen 36 = .ok (.getfield 34, 3) := by decide +kernel
theorem dX8_fitsThen_39 : decode cX8_fitsThen 39 = .ok (.bipush 10, 2) := by decide +kernel
theorem dX8_fitsThen_41 : decode cX8_fitsThen 41 = .ok (.iload_n 1, 1) := by decide +kernel
theorem dX8_fitsThen_42 : decode cX8_fitsThen 42 = .ok (.iadd, 1) := by decide +kernel
theorem dX8_fitsThen_43 : decode cX8_fitsThen 43 = .ok (.iaload, 1) := by decide +kernel
theorem dX8_fitsThen_44 : decode cX8_fitsThen 44 = .ok (.if_icmp .lt 9, 3) := by decide +kernel
theorem dX8_fitsThen_47 : decode cX8_fitsThen 47 = .ok (.iconst 1, 1) := by decide +kernel
theorem dX8_fitsThen_48 : decode cX8_fitsThen 48 = .ok (.iload_n 3, 1) := by decide +kernel
theorem dX8_fitsThen_49 : decode cX8_fitsThen 49 = .ok (.ishl, 1) := by decide +kernel
theorem dX8_fitsThen_50 : decode cX8_fitsThen 50 = .ok (.goto 4, 3) := by decide +kernel
theorem dX8_fitsThen_53 : decode cX8_fitsThen 53 = .ok (.iconst 0, 1) := by decide +kernel
theorem dX8_fitsThen_54 : decode cX8_fitsThen 54 = .ok (.ior, 1) := by decide +kernel
theorem dX8_fitsThen_55 : decode cX8_fitsThen 55 = .ok (.istore_n 2, 1) := by decide +kernel
theorem dX8_fitsThen_56 : decode cX8_fitsThen 56 = .ok (.iinc 3 1, 3) := by decide +kernel
theorem dX8_fitsThen_59 : decode cX8_fitsThen 59 = .ok (.goto (-55), 3) := by decide +kernel
theorem dX8_fitsThen_62 : decode cX8_fitsThen 62 = .ok (.iload_n 2, 1) := by decide +kernel
theorem dX8_fitsThen_63 : decode cX8_fitsThen 63 = .ok (.ireturn, 1) := by decide +kernel
theorem dX8_fits_0 : decode cX8_fits 0 = .ok (.aload_n 0, 1) := by decide +kernel
theorem dX8_fits_1 : decode cX8_fits 1 = .ok (.iconst 0, 1) := by decide +kernel
theorem dX8_fits_2 : decode cX8_fits 2 = .ok (.putfield 62, 3) := by decide +kernel
theorem dX8_fits_5 : decode cX8_fits 5 = .ok (.aload_n 0, 1) := by decide +kernel
theorem dX8_fits_6 : decode cX8_fits 6 = .ok (.iload_n 1, 1) := by decide +kernel
theorem dX8_fits_7 : decode cX8_fits 7 = .ok (.invokevirtual 178, 3) := by decide +kernel
theorem dX8_fits_10 : decode cX8_fits 10 = .ok (.ifCond .eq 5, 3) := by decide +kernel
theorem dX8_fits_13 : decode cX8_fits 13 = .ok (.iconst (-1), 1) := by decide +kernel
theorem dX8_fits_14 : decode cX8_fits 14 = .ok (.ireturn, 1) := by decide +kernel
theorem dX8_fits_15 : decode cX8_fits 15 = .ok (.iload_n 2, 1) := by decide +kernel
theorem dX8_fits_16 : decode cX8_fits 16 = .ok (.i2l, 1) := by decide +kernel
theorem dX8_fits_17 : decode cX8_fits 17 = .ok (.lconst 0, 1) := by decide +kernel
theorem dX8_fits_18 : decode cX8_fits 18 = .ok (.ldc2_w 194, 3) := by decide +kernel
theorem dX8_fits_21 : decode cX8_fits 21 = .ok (.invokestatic 69, 3) := by decide +kernel
theorem dX8_fits_24 : decode cX8_fits 24 = .ok (.ifCond .ne 6, 3) := by decide +kernel
theorem dX8_fits_27 : decode cX8_fits 27 = .ok (.bipush (-2), 2) := by decide +kernel
theorem dX8_fits_29 : decode cX8_fits 29 = .ok (.ireturn, 1) := by decide +kernel
theorem dX8_fits_30 : decode cX8_fits 30 = .ok (.aload_n 0, 1) := by decide +kernel
theorem dX8_fits_31 : decode cX8_fits 31 = .ok (.iload_n 2, 1) := by decide +kernel
theorem dX8_fits_32 : decode cX8_fits 32 = .ok (.invokevirtual 196, 3) := by decide +kernel
theorem dX8_fits_35 : decode cX8_fits 35 = .ok (.aload_n 0, 1) := by decide +kernel
theorem dX8_fits_36 : decode cX8_fits 36 = .ok (.iload_n 1, 1) := by decide +kernel
theorem dX8_fits_37 : decode cX8_fits 37 = .ok (.invokevirtual 200, 3) := by decide +kernel
theorem dX8_fits_40 : decode cX8_fits 40 = .ok (.ireturn, 1) := by decide +kernel
theorem dX8_soonest_0 : decode cX8_soonest 0 = .ok (.aload_n 0, 1) := by decide +kernel
theorem dX8_soonest_1 : decode cX8_soonest 1 = .ok (.iconst 0, 1) := by decide +kernel
theorem dX8_soonest_2 : decode cX8_soonest 2 = .ok (.putfield 62, 3) := by decide +kernel
theorem dX8_soonest_5 : decode cX8_soonest 5 = .ok (.aload_n 0, 1) := by decide +kernel
theorem dX8_soonest_6 : decode cX8_soonest 6 = .ok (.iload_n 1, 1) := by decide +kernel
theorem dX8_soonest_7 : decode cX8_soonest 7 = .ok (.invokevirtual 178, 3) := by decide +kernel
theorem dX8_soonest_10 : decode cX8_soonest 10 = .ok (.ifCond .eq 5, 3) := by decide +kernel
theorem dX8_soonest_13 : decode cX8_soonest 13 = .ok (.iconst (-1), 1) := by decide +kernel
theorem dX8_soonest_14 : decode cX8_soonest 14 = .ok (.ireturn, 1) := by decide +kernel
theorem dX8_soonest_15 : decode cX8_soonest 15 = .ok (.aload_n 0, 1) := by decide +kernel
theorem dX8_soonest_16 : decode cX8_soonest 16 = .ok (.getfield 31, 3) := by decide +kernel
theorem dX8_soonest_19 : decode cX8_soonest 19 = .ok (.iload_n 1, 1) := by decide +kernel
theorem dX8_soonest_20 : decode cX8_soonest 20 = .ok (.iaload, 1) := by decide +kernel
theorem dX8_soonest_21 : decode cX8_soonest 21 = .ok (.bipush 9, 2) := by decide +kernel
theorem dX8_soonest_23 : decode cX8_soonest 23 = .ok (.if_icmp .ne 6, 3) := by decide +kernel
theorem dX8_soonest_26 : decode cX8_soonest 26 = .ok (.bipush (-3), 2) := by decide +kernel
theorem dX8_soonest_28 : decode cX8_soonest 28 = .ok (.ireturn, 1) := by decide +kernel
theorem dX8_soonest_29 : decode cX8_soonest 29 = .ok (.aload_n 0, 1) := by decide +kernel
theorem dX8_soonest_30 : decode cX8_soonest 30 = .ok (.iconst 0, 1) := by decide +kernel
theorem dX8_soonest_31 : decode cX8_soonest 31 = .ok (.invokevirtual 196, 3) := by decide +kernel
theorem dX8_soonest_34 : decode cX8_soonest 34 = .ok (.iconst 0, 1) := by decide +kernel
theorem dX8_soonest_35 : decode cX8_soonest 35 = .ok (.istore_n 2, 1) := by decide +kernel
theorem dX8_soonest_36 : decode cX8_soonest 36 = .ok (.iload_n 2, 1) := by decide +kernel
theorem dX8_soonest_37 : decode cX8_soonest 37 = .ok (.bipush 20, 2) := by decide +kernel
theorem dX8_soonest_39 : decode cX8_soonest 39 = .ok (.if_icmp .gt 28, 3) := by decide +kernel
theorem dX8_soonest_42 : decode cX8_soonest 42 = .ok (.aload_n 0, 1) := by decide +kernel
theorem dX8_soonest_43 : decode cX8_soonest 43 = .ok (.iload_n 1, 1) := by decide +kernel
theorem dX8_soonest_44 : decode cX8_soonest 44 = .ok (.invokevirtual 200, 3) := by decide +kernel
theorem dX8_soonest_47 : decode cX8_soonest 47 = .ok (.ifCond .eq 5, 3) := by decide +kernel
theorem dX8_soonest_50 : decode cX8_soonest 50 = .ok (.iload_n 2, 1) := by decide +kernel
theorem dX8_soonest_51 : decode cX8_soonest 51 = .ok (.ireturn, 1) := by decide +kernel
theorem dX8_soonest_52 : decode cX8_soonest 52 = .ok (.aload_n 0, 1) := by decide +kernel
theorem dX8_soonest_53 : decode cX8_soonest 53 = .ok (.aload_n 0, 1) := by decide +kernel
theorem dX8_soonest_54 : decode cX8_soonest 54 = .ok (.getfield 34, 3) := by decide +kernel
theorem dX8_soonest_57 : decode cX8_soonest 57 = .ok (.invokevirtual 184, 3) := by decide +kernel
theorem dX8_soonest_60 : decode cX8_soonest 60 = .ok (.pop, 1) := by decide +kernel
theorem dX8_soonest_61 : decode cX8_soonest 61 = .ok (.iinc 2 1, 3) := by decide +kernel
theorem dX8_soonest_64 : decode cX8_soonest 64 = .ok (.goto (-28), 3) := by decide +kernel
theorem dX8_soonest_67 : decode cX8_soonest 67 = .ok (.bipush (-9), 2) := by decide +kernel
theorem dX8_soonest_69 : decode cX8_soonest 69 = .ok (.ireturn, 1) := by decide +kernel
theorem dX8_berthsBy_0 : decode cX8_berthsBy 0 = .ok (.iload_n 2, 1) := by decide +kernel
theorem dX8_berthsBy_1 : decode cX8_berthsBy 1 = .ok (.istore_n 3, 1) := by decide +kernel
theorem dX8_berthsBy_2 : decode cX8_berthsBy 2 = .ok (.aload_n 0, 1) := by decide +kernel
theorem dX8_berthsBy_3 : decode cX8_berthsBy 3 = .ok (.iconst 0, 1) := by decide +kernel
theorem dX8_berthsBy_4 : decode cX8_berthsBy 4 = .ok (.putfield 203, 3) := by decide +kernel
theorem dX8_berthsBy_7 : decode cX8_berthsBy 7 = .ok (.iconst 0, 1) := by decide +kernel
theorem dX8_berthsBy_8 : decode cX8_berthsBy 8 = .ok (.istore 4, 2) := by decide +kernel
theorem dX8_berthsBy_10 : decode cX8_berthsBy 10 = .ok (.iload 4, 2) := by decide +kernel
theorem dX8_berthsBy_12 : decode cX8_berthsBy 12 = .ok (.aload_n 0, 1) := by decide +kernel
theorem dX8_berthsBy_13 : decode cX8_berthsBy 13 = .ok (.getfield 73, 3) := by decide +kernel
theorem dX8_berthsBy_16 : decode cX8_berthsBy 16 = .ok (.if_icmp .ge 93, 3) := by decide +kernel
theorem dX8_berthsBy_19 : decode cX8_berthsBy 19 = .ok (.aload_n 0, 1) := by decide +kernel
theorem dX8_berthsBy_20 : decode cX8_berthsBy 20 = .ok (.getfield 31, 3) := by decide +kernel
theorem dX8_berthsBy_23 : decode cX8_berthsBy 23 = .ok (.iload 4, 2) := by decide +kernel
theorem dX8_berthsBy_25 : decode cX8_berthsBy 25 = .ok (.iaload, 1) := by decide +kernel
theorem dX8_berthsBy_26 : decode cX8_berthsBy 26 = .ok (.bipush 8, 2) := by decide +kernel
theorem dX8_berthsBy_28 : decode cX8_berthsBy 28 = .ok (.if_icmp .ne 75, 3) := by decide +kernel
theorem dX8_berthsBy_31 : decode cX8_berthsBy 31 = .ok (.iinc 3 (-1), 3) := by decide +kernel
theorem dX8_berthsBy_34 : decode cX8_berthsBy 34 = .ok (.iload_n 1, 1) := by decide +kernel
theorem dX8_berthsBy_35 : decode cX8_berthsBy 35 = .ok (.iconst 5, 1) := by decide +kernel
theorem dX8_berthsBy_36 : decode cX8_berthsBy 36 = .ok (.iload_n 3, 1) := by decide +kernel
theorem dX8_berthsBy_37 : decode cX8_berthsBy 37 = .ok (.invokestatic 206, 3) := by decide +kernel
theorem dX8_berthsBy_40 : decode cX8_berthsBy 40 = .ok (.idiv, 1) := by decide +kernel
theorem dX8_berthsBy_41 : decode cX8_berthsBy 41 = .ok (.iconst 5, 1) := by decide +kernel
theorem dX8_berthsBy_42 : decode cX8_berthsBy 42 = .ok (.irem, 1) := by decide +kernel
theorem dX8_berthsBy_43 : decode cX8_berthsBy 43 = .ok (.iconst 1, 1) := by decide +kernel
theorem dX8_berthsBy_44 : decode cX8_berthsBy 44 = .ok (.isub, 1) := by decide +kernel
theorem dX8_berthsBy_45 : decode cX8_berthsBy 45 = .ok (.istore 5, 2) := by decide +kernel
theorem dX8_berthsBy_47 : decode cX8_berthsBy 47 = .ok (.aload_n 0, 1) := by decide +kernel
theorem dX8_berthsBy_48 : decode cX8_berthsBy 48 = .ok (.bipush 10, 2) := by decide +kernel
theorem dX8_berthsBy_50 : decode cX8_berthsBy 50 = .ok (.aload_n 0, 1) := by decide +kernel
theorem dX8_berthsBy_51 : decode cX8_berthsBy 51 = .ok (.getfield 203, 3) := by decide +kernel
theorem dX8_berthsBy_54 : decode cX8_berthsBy 54 = .ok (.imul, 1) := by decide +kernel
theorem dX8_berthsBy_55 : decode cX8_berthsBy 55 = .ok (.iload 5, 2) := by decide +kernel
theorem dX8_berthsBy_57 : decode cX8_berthsBy 57 = .ok (.iadd, 1) := by decide +kernel
theorem dX8_berthsBy_58 : decode cX8_berthsBy 58 = .ok (.iconst 1, 1) := by decide +kernel
theorem dX8_berthsBy_59 : decode cX8_berthsBy 59 = .ok (.iadd, 1) := by decide +kernel
theorem dX8_berthsBy_60 : decode cX8_berthsBy 60 = .ok (.putfield 203, 3) := by decide +kernel
theorem dX8_berthsBy_63 : decode cX8_berthsBy 63 = .ok (.iload 5, 2) := by decide +kernel
theorem dX8_berthsBy_65 : decode cX8_berthsBy 65 = .ok (.ifCond .lt 38, 3) := by decide +kernel
theorem dX8_berthsBy_68 : decode cX8_berthsBy 68 = .ok (.aload_n 0, 1) := by decide +kernel
theorem dX8_berthsBy_69 : decode cX8_berthsBy 69 = .ok (.iload 5, 2) := by decide +kernel
theorem dX8_berthsBy_71 : decode cX8_berthsBy 71 = .ok (.invokevirtual 174, 3) := by decide +kernel
theorem dX8_berthsBy_74 : decode cX8_berthsBy 74 = .ok (.ifCond .ne 18, 3) := by decide +kernel
theorem dX8_berthsBy_77 : decode cX8_berthsBy 77 = .ok (.aload_n 0, 1) := by decide +kernel
theorem dX8_berthsBy_78 : decode cX8_berthsBy 78 = .ok (.aload_n 0, 1) := by decide +kernel
theorem dX8_berthsBy_79 : decode cX8_berthsBy 79 = .ok (.getfield 34, 3) := by decide +kernel
theorem dX8_berthsBy_82 : decode cX8_berthsBy 82 = .ok (.iload 4, 2) := by decide +kernel
theorem dX8_berthsBy_84 : decode cX8_berthsBy 84 = .ok (.iload 5, 2) := by decide +kernel
theorem dX8_berthsBy_86 : decode cX8_berthsBy 86 = .ok (.invokevirtual 145, 3) := by decide +kernel
theorem dX8_berthsBy_89 : decode cX8_berthsBy 89 = .ok (.ifCond .ne 5, 3) := by decide +kernel
theorem dX8_berthsBy_92 : decode cX8_berthsBy 92 = .ok (.iconst 0, 1) := by decide +kernel
theorem dX8_berthsBy_93 : decode cX8_berthsBy 93 = .ok (.ireturn, 1) := by decide +kernel
theorem dX8_berthsBy_94 : decode cX8_berthsBy 94 = .ok (.aload_n 0, 1) := by decide +kernel
theorem dX8_berthsBy_95 : decode cX8_berthsBy 95 = .ok (.getfield 34, 3) := by decide +kernel
theorem dX8_berthsBy_98 : decode cX8_berthsBy 98 = .ok (.iload 4, 2) := by decide +kernel
theorem dX8_berthsBy_100 : decode cX8_berthsBy 100 = .ok (.iload 5, 2) := by decide +kernel
theorem dX8_berthsBy_102 : decode cX8_berthsBy 102 = .ok (.iastore, 1) := by decide +kernel
theorem dX8_berthsBy_103 : decode cX8_berthsBy 103 = .ok (.iinc 4 1, 3) := by decide +kernel
theorem dX8_berthsBy_106 : decode cX8_berthsBy 106 = .ok (.goto (-96), 3) := by decide +kernel
theorem dX8_berthsBy_109 : decode cX8_berthsBy 109 = .ok (.iconst 1, 1) := by decide +kernel
theorem dX8_berthsBy_110 : decode cX8_berthsBy 110 = .ok (.ireturn, 1) := by decide +kernel
theorem dX8_findPlan_0 : decode cX8_findPlan 0 = .ok (.aload_n 0, 1) := by decide +kernel
theorem dX8_findPlan_1 : decode cX8_findPlan 1 = .ok (.aload_n 0, 1) := by decide +kernel
theorem dX8_findPlan_2 : decode cX8_findPlan 2 = .ok (.getfield 31, 3) := by decide +kernel
theorem dX8_findPlan_5 : decode cX8_findPlan 5 = .ok (.bipush 8, 2) := by decide +kernel
theorem dX8_findPlan_7 : decode cX8_findPlan 7 = .ok (.invokevirtual 131, 3) := by decide +kernel
theorem dX8_findPlan_10 : decode cX8_findPlan 10 = .ok (.invokestatic 142, 3) := by decide +kernel
theorem dX8_findPlan_13 : decode cX8_findPlan 13 = .ok (.istore_n 1, 1) := by decide +kernel
theorem dX8_findPlan_14 : decode cX8_findPlan 14 = .ok (.bipush (-9), 2) := by decide +kernel
theorem dX8_findPlan_16 : decode cX8_findPlan 16 = .ok (.istore_n 2, 1) := by decide +kernel
theorem dX8_findPlan_17 : decode cX8_findPlan 17 = .ok (.iconst 0, 1) := by decide +kernel
theorem dX8_findPlan_18 : decode cX8_findPlan 18 = .ok (.istore_n 3, 1) := by decide +kernel
theorem dX8_findPlan_19 : decode cX8_findPlan 19 = .ok (.iconst 0, 1) := by decide +kernel
theorem dX8_findPlan_20 : decode cX8_findPlan 20 = .ok (.istore 4, 2) := by decide +kernel
theorem dX8_findPlan_22 : decode cX8_findPlan 22 = .ok (.iload 4, 2) := by decide +kernel
theorem dX8_findPlan_24 : decode cX8_findPlan 24 = .ok (.iconst 5, 1) := by decide +kernel
theorem dX8_findPlan_25 : decode cX8_findPlan 25 = .ok (.iload_n 1, 1) := by decide +kernel
theorem dX8_findPlan_26 : decode cX8_findPlan 26 = .ok (.invokestatic 206, 3) := by decide +kernel
theorem dX8_findPlan_29 : decode cX8_findPlan 29 = .ok (.if_icmp .ge 64, 3) := by decide +kernel
theorem dX8_findPlan_32 : decode cX8_findPlan 32 = .ok (.aload_n 0, 1) := by decide +kernel
theorem dX8_findPlan_33 : decode cX8_findPlan 33 = .ok (.invokevirtual 191, 3) := by decide +kernel
theorem dX8_findPlan_36 : decode cX8_findPlan 36 = .ok (.aload_n 0, 1) := by decide +kernel
theorem dX8_findPlan_37 : decode cX8_findPlan 37 = .ok (.iload 4, 2) := by decide +kernel
theorem dX8_findPlan_39 : decode cX8_findPlan 39 = .ok (.iload_n 1, 1) := by decide +kernel
theorem dX8_findPlan_40 : decode cX8_findPlan 40 = .ok (.invokevirtual 209, 3) := by decide +kernel
theorem dX8_findPlan_43 : decode cX8_findPlan 43 = .ok (.ifCond .eq 44, 3) := by decide +kernel
theorem dX8_findPlan_46 : decode cX8_findPlan 46 = .ok (.aload_n 0, 1) := by decide +kernel
theorem dX8_findPlan_47 : decode cX8_findPlan 47 = .ok (.aload_n 0, 1) := by decide +kernel
theorem dX8_findPlan_48 : decode cX8_findPlan 48 = .ok (.getfield 34, 3) := by decide +kernel
theorem dX8_findPlan_51 : decode cX8_findPlan 51 = .ok (.invokevirtual 154, 3) := by decide +kernel
theorem dX8_findPlan_54 : decode cX8_findPlan 54 = .ok (.invokestatic 142, 3) := by decide +kernel
theorem dX8_findPlan_57 : decode cX8_findPlan 57 = .ok (.istore 5, 2) := by decide +kernel
theorem dX8_findPlan_59 : decode cX8_findPlan 59 = .ok (.iload 5, 2) := by decide +kernel
theorem dX8_findPlan_61 : decode cX8_findPlan 61 = .ok (.iload_n 2, 1) := by decide +kernel
theorem dX8_findPlan_62 : decode cX8_findPlan 62 = .ok (.if_icmp .le 10, 3) := by decide +kernel
theorem dX8_findPlan_65 : decode cX8_findPlan 65 = .ok (.aload_n 0, 1) := by decide +kernel
theorem dX8_findPlan_66 : decode cX8_findPlan 66 = .ok (.getfield 203, 3) := by decide +kernel
theorem dX8_findPlan_69 : decode cX8_findPlan 69 = .ok (.goto 4, 3) := by decide +kernel
theorem dX8_findPlan_72 : decode cX8_findPlan 72 = .ok (.iload_n 3, 1) := by decide +kernel
theorem dX8_findPlan_73 : decode cX8_findPlan 73 = .ok (.istore_n 3, 1) := by decide +kernel
theorem dX8_findPlan_74 : decode cX8_findPlan 74 = .ok (.iload 5, 2) := by decide +kernel
theorem dX8_findPlan_76 : decode cX8_findPlan 76 = .ok (.iload_n 2, 1) := by decide +kernel
theorem dX8_findPlan_77 : decode cX8_findPlan 77 = .ok (.if_icmp .le 8, 3) := by decide +kernel
theorem dX8_findPlan_80 : decode cX8_findPlan 80 = .ok (.iload 5, 2) := by decide +kernel
theorem dX8_findPlan_82 : decode cX8_findPlan 82 = .ok (.goto 4, 3) := by decide +kernel
theorem dX8_findPlan_85 : decode cX8_findPlan 85 = .ok (.iload_n 2, 1) := by decide +kernel
theorem dX8_findPlan_86 : decode cX8_findPlan 86 = .ok (.istore_n 2, 1) := by decide +kernel
theorem dX8_findPlan_87 : decode cX8_findPlan 87 = .ok (.iinc 4 1, 3) := by decide +kernel
theorem dX8_findPlan_90 : decode cX8_findPlan 90 = .ok (.goto (-68), 3) := by decide +kernel
theorem dX8_findPlan_93 : decode cX8_findPlan 93 = .ok (.aload_n 0, 1) := by decide +kernel
theorem dX8_findPlan_94 : decode cX8_findPlan 94 = .ok (.iload_n 3, 1) := by decide +kernel
theorem dX8_findPlan_95 : decode cX8_findPlan 95 = .ok (.putfield 203, 3) := by decide +kernel
theorem dX8_findPlan_98 : decode cX8_findPlan 98 = .ok (.iload_n 2, 1) := by decide +kernel
theorem dX8_findPlan_99 : decode cX8_findPlan 99 = .ok (.ireturn, 1) := by decide +kernel
theorem dX8_plan_0 : decode cX8_plan 0 = .ok (.aload_n 0, 1) := by decide +kernel
theorem dX8_plan_1 : decode cX8_plan 1 = .ok (.iconst 0, 1) := by decide +kernel
theorem dX8_plan_2 : decode cX8_plan 2 = .ok (.putfield 62, 3) := by decide +kernel
theorem dX8_plan_5 : decode cX8_plan 5 = .ok (.aload_n 0, 1) := by decide +kernel
theorem dX8_plan_6 : decode cX8_plan 6 = .ok (.invokevirtual 171, 3) := by decide +kernel
theorem dX8_plan_9 : decode cX8_plan 9 = .ok (.aload_n 0, 1) := by decide +kernel
theorem dX8_plan_10 : decode cX8_plan 10 = .ok (.aload_n 0, 1) := by decide +kernel
theorem dX8_plan_11 : decode cX8_plan 11 = .ok (.invokevirtual 212, 3) := by decide +kernel
theorem dX8_plan_14 : decode cX8_plan 14 = .ok (.putfield 215, 3) := by decide +kernel
theorem dX8_plan_17 : decode cX8_plan 17 = .ok (.iload_n 1, 1) := by decide +kernel
theorem dX8_plan_18 : decode cX8_plan 18 = .ok (.ifCond .eq 10, 3) := by decide +kernel
theorem dX8_plan_21 : decode cX8_plan 21 = .ok (.aload_n 0, 1) := by decide +kernel
theorem dX8_plan_22 : decode cX8_plan 22 = .ok (.getfield 203, 3) := by decide +kernel
theorem dX8_plan_25 : decode cX8_plan 25 = .ok (.goto 7, 3) := by decide +kernel
theorem dX8_plan_28 : decode cX8_plan 28 = .ok (.aload_n 0, 1) := by decide +kernel
theorem dX8_plan_29 : decode cX8_plan 29 = .ok (.getfield 215, 3) := by decide +kernel
theorem dX8_plan_32 : decode cX8_plan 32 = .ok (.ireturn, 1) := by decide +kernel
theorem dX8_longPower_0 : decode cX8_longPower 0 = .ok (.lconst 1, 1) := by decide +kernel
theorem dX8_longPower_1 : decode cX8_longPower 1 = .ok (.lstore_n 3, 1) := by decide +kernel
theorem dX8_longPower_2 : decode cX8_longPower 2 = .ok (.iconst 0, 1) := by decide +kernel
theorem dX8_longPower_3 : decode cX8_longPower 3 = .ok (.istore 5, 2) := by decide +kernel
theorem dX8_longPower_5 : decode cX8_longPower 5 = .ok (.iload 5, 2) := by decide +kernel
theorem dX8_longPower_7 : decode cX8_longPower 7 = .ok (.iload_n 2, 1) := by decide +kernel
theorem dX8_longPower_8 : decode cX8_longPower 8 = .ok (.if_icmp .ge 13, 3) := by decide +kernel
theorem dX8_longPower_11 : decode cX8_longPower 11 = .ok (.lload_n 3, 1) := by decide +kernel
theorem dX8_longPower_12 : decode cX8_longPower 12 = .ok (.lload_n 0, 1) := by decide +kernel
theorem dX8_longPower_13 : decode cX8_longPower 13 = .ok (.lmul, 1) := by decide +kernel
theorem dX8_longPower_14 : decode cX8_longPower 14 = .ok (.lstore_n 3, 1) := by decide +kernel
theorem dX8_longPower_15 : decode cX8_longPower 15 = .ok (.iinc 5 1, 3) := by decide +kernel
theorem dX8_longPower_18 : decode cX8_longPower 18 = .ok (.goto (-13), 3) := by decide +kernel
theorem dX8_longPower_21 : decode cX8_longPower 21 = .ok (.lload_n 3, 1) := by decide +kernel
theorem dX8_longPower_22 : decode cX8_longPower 22 = .ok (.lreturn, 1) := by decide +kernel
theorem dX8_does_0 : decode cX8_does 0 = .ok (.iload_n 1, 1) := by decide +kernel
theorem dX8_does_1 : decode cX8_does 1 = .ok (.bipush 100, 2) := by decide +kernel
theorem dX8_does_3 : decode cX8_does 3 = .ok (.idiv, 1) := by decide +kernel
theorem dX8_does_4 : decode cX8_does 4 = .ok (.istore_n 2, 1) := by decide +kernel
theorem dX8_does_5 : decode cX8_does 5 = .ok (.iload_n 1, 1) := by decide +kernel
theorem dX8_does_6 : decode cX8_does 6 = .ok (.bipush 10, 2) := by decide +kernel
theorem dX8_does_8 : decode cX8_does 8 = .ok (.idiv, 1) := by decide +kernel
theorem dX8_does_9 : decode cX8_does 9 = .ok (.bipush 10, 2) := by decide +kernel
theorem dX8_does_11 : decode cX8_does 11 = .ok (.irem, 1) := by decide +kernel
theorem dX8_does_12 : decode cX8_does 12 = .ok (.istore_n 3, 1) := by decide +kernel
theorem dX8_does_13 : decode cX8_does 13 = .ok (.iload_n 1, 1) := by decide +kernel
theorem dX8_does_14 : decode cX8_does 14 = .ok (.bipush 10, 2) := by decide +kernel
theorem dX8_does_16 : decode cX8_does 16 = .ok (.irem, 1) := by decide +kernel
theorem dX8_does_17 : decode cX8_does 17 = .ok (.istore 4, 2) := by decide +kernel
theorem dX8_does_19 : decode cX8_does 19 = .ok (.iload_n 1, 1) := by decide +kernel
theorem dX8_does_20 : decode cX8_does 20 = .ok (.ifCond .ne 14, 3) := by decide +kernel
theorem dX8_does_23 : decode cX8_does 23 = .ok (.aload_n 0, 1) := by decide +kernel
theorem dX8_does_24 : decode cX8_does 24 = .ok (.aload_n 0, 1) := by decide +kernel
theorem dX8_does_25 : decode cX8_does 25 = .ok (.getfield 34, 3) := by decide +kernel
theorem dX8_does_28 : decode cX8_does 28 = .ok (.invokevirtual 184, 3) := by decide +kernel
theorem dX8_does_31 : decode cX8_does 31 = .ok (.pop, 1) := by decide +kernel
theorem dX8_does_32 : decode cX8_does 32 = .ok (.iconst 1, 1) := by decide +kernel
theorem dX8_does_33 : decode cX8_does 33 = .ok (.ireturn, 1) := by decide +kernel
theorem dX8_does_34 : decode cX8_does 34 = .ok (.iload_n 2, 1) := by decide +kernel
theorem dX8_does_35 : decode cX8_does 35 = .ok (.iconst 1, 1) := by decide +kernel
theorem dX8_does_36 : decode cX8_does 36 = .ok (.if_icmp .ne 68, 3) := by decide +kernel
theorem dX8_does_39 : decode cX8_does 39 = .ok (.aload_n 0, 1) := by decide +kernel
theorem dX8_does_40 : decode cX8_does 40 = .ok (.iload_n 3, 1) := by decide +kernel
theorem dX8_does_41 : decode cX8_does 41 = .ok (.invokevirtual 178, 3) := by decide +kernel
theorem dX8_does_44 : decode cX8_does 44 = .ok (.ifCond .ne 41, 3) := by decide +kernel
theorem dX8_does_47 : decode cX8_does 47 = .ok (.aload_n 0, 1) := by decide +kernel
theorem dX8_does_48 : decode cX8_does 48 = .ok (.iload 4, 2) := by decide +kernel
theorem dX8_does_50 : decode cX8_does 50 = .ok (.invokevirtual 174, 3) := by decide +kernel
theorem dX8_does_53 : decode cX8_does 53 = .ok (.ifCond .ne 32, 3) := by decide +kernel
theorem dX8_does_56 : decode cX8_does 56 = .ok (.aload_n 0, 1) := by decide +kernel
theorem dX8_does_57 : decode cX8_does 57 = .ok (.getfield 34, 3) := by decide +kernel
theorem dX8_does_60 : decode cX8_does 60 = .ok (.iload_n 3, 1) := by decide +kernel
theorem dX8_does_61 : decode cX8_does 61 = .ok (.iaload, 1) := by decide +kernel
theorem dX8_does_62 : decode cX8_does 62 = .ok (.bipush 8, 2) := by decide +kernel
theorem dX8_does_64 : decode cX8_does 64 = .ok (.if_icmp .ne 21, 3) := by decide +kernel
theorem dX8_does_67 : decode cX8_does 67 = .ok (.aload_n 0, 1) := by decide +kernel
theorem dX8_does_68 : decode cX8_does 68 = .ok (.aload_n 0, 1) := by decide +kernel
theorem dX8_does_69 : decode cX8_does 69 = .ok (.getfield 34, 3) := by decide +kernel
theorem dX8_does_72 : decode cX8_does 72 = .ok (.iload_n 3, 1) := by decide +kernel
theorem dX8_does_73 : decode cX8_does 73 = .ok (.iload 4, 2) := by decide +kernel
theorem dX8_does_75 : decode cX8_does 75 = .ok (.invokevirtual 145, 3) := by decide +kernel
theorem dX8_does_78 : decode cX8_does 78 = .ok (.ifCond .eq 7, 3) := by decide +kernel
theorem dX8_does_81 : decode cX8_does 81 = .ok (.iconst 1, 1) := by decide +kernel
theorem dX8_does_82 : decode cX8_does 82 = .ok (.goto 4, 3) := by decide +kernel
theorem dX8_does_85 : decode cX8_does 85 = .ok (.iconst 0, 1) := by decide +kernel
theorem dX8_does_86 : decode cX8_does 86 = .ok (.istore 5, 2) := by decide +kernel
theorem dX8_does_88 : decode cX8_does 88 = .ok (.iload 5, 2) := by decide +kernel
theorem dX8_does_90 : decode cX8_does 90 = .ok (.ifCond .eq 11, 3) := by decide +kernel
theorem dX8_does_93 : decode cX8_does 93 = .ok (.aload_n 0, 1) := by decide +kernel
theorem dX8_does_94 : decode cX8_does 94 = .ok (.getfield 34, 3) := by decide +kernel
theorem dX8_does_97 : decode cX8_does 97 = .ok (.iload_n 3, 1) := by decide +kernel
theorem dX8_does_98 : decode cX8_does 98 = .ok (.iload 4, 2) := by decide +kernel
theorem dX8_does_100 : decode cX8_does 100 = .ok (.iastore, 1) := by decide +kernel
theorem dX8_does_101 : decode cX8_does 101 = .ok (.iload 5, 2) := by decide +kernel
theorem dX8_does_103 : decode cX8_does 103 = .ok (.ireturn, 1) := by decide +kernel
theorem dX8_does_104 : decode cX8_does 104 = .ok (.iload_n 2, 1) := by decide +kernel
theorem dX8_does_105 : decode cX8_does 105 = .ok (.iconst 2, 1) := by decide +kernel
theorem dX8_does_106 : decode cX8_does 106 = .ok (.if_icmp .ne 51, 3) := by decide +kernel
theorem dX8_does_109 : decode cX8_does 109 = .ok (.iload_n 3, 1) := by decide +kernel
theorem dX8_does_110 : decode cX8_does 110 = .ok (.ifCond .ne 27, 3) := by decide +kernel
theorem dX8_does_113 : decode cX8_does 113 = .ok (.aload_n 0, 1) := by decide +kernel
theorem dX8_does_114 : decode cX8_does 114 = .ok (.iload 4, 2) := by decide +kernel
theorem dX8_does_116 : decode cX8_does 116 = .ok (.invokevirtual 178, 3) := by decide +kernel
theorem dX8_does_119 : decode cX8_does 119 = .ok (.ifCond .ne 18, 3) := by decide +kernel
theorem dX8_does_122 : decode cX8_does 122 = .ok (.aload_n 0, 1) := by decide +kernel
theorem dX8_does_123 : decode cX8_does 123 = .ok (.getfield 34, 3) := by decide +kernel
theorem dX8_does_126 : decode cX8_does 126 = .ok (.iload 4, 2) := by decide +kernel
theorem dX8_does_128 : decode cX8_does 128 = .ok (.iaload, 1) := by decide +kernel
theorem dX8_does_129 : decode cX8_does 129 = .ok (.iconst 4, 1) := by decide +kernel
theorem dX8_does_130 : decode cX8_does 130 = .ok (.if_icmp .ge 7, 3) := by decide +kernel
theorem dX8_does_133 : decode cX8_does 133 = .ok (.iconst 1, 1) := by decide +kernel
theorem dX8_does_134 : decode cX8_does 134 = .ok (.goto 4, 3) := by decide +kernel
theorem dX8_does_137 : decode cX8_does 137 = .ok (.iconst 0, 1) := by decide +kernel
theorem dX8_does_138 : decode cX8_does 138 = .ok (.istore 5, 2) := by decide +kernel
theorem dX8_does_140 : decode cX8_does 140 = .ok (.iload 5, 2) := by decide +kernel
theorem dX8_does_142 : decode cX8_does 142 = .ok (.ifCond .eq 12, 3) := by decide +kernel
theorem dX8_does_145 : decode cX8_does 145 = .ok (.aload_n 0, 1) := by decide +kernel
theorem dX8_does_146 : decode cX8_does 146 = .ok (.getfield 34, 3) := by decide +kernel
theorem dX8_does_149 : decode cX8_does 149 = .ok (.iload 4, 2) := by decide +kernel
theorem dX8_does_151 : decode cX8_does 151 = .ok (.invokestatic 187, 3) := by decide +kernel
theorem dX8_does_154 : decode cX8_does 154 = .ok (.iload 5, 2) := by decide +kernel
theorem dX8_does_156 : decode cX8_does 156 = .ok (.ireturn, 1) := by decide +kernel
theorem dX8_does_157 : decode cX8_does 157 = .ok (.iload_n 2, 1) := by decide +kernel
theorem dX8_does_158 : decode cX8_does 158 = .ok (.iconst 3, 1) := by decide +kernel
theorem dX8_does_159 : decode cX8_does 159 = .ok (.if_icmp .ne 34, 3) := by decide +kernel
theorem dX8_does_162 : decode cX8_does 162 = .ok (.iload_n 3, 1) := by decide +kernel
theorem dX8_does_163 : decode cX8_does 163 = .ok (.ifCond .ne 28, 3) := by decide +kernel
theorem dX8_does_166 : decode cX8_does 166 = .ok (.aload_n 0, 1) := by decide +kernel
theorem dX8_does_167 : decode cX8_does 167 = .ok (.iload 4, 2) := by decide +kernel
theorem dX8_does_169 : decode cX8_does 169 = .ok (.invokevirtual 178, 3) := by decide +kernel
theorem dX8_does_172 : decode cX8_does 172 = .ok (.ifCond .ne 19, 3) := by decide +kernel
theorem dX8_does_175 : decode cX8_does 175 = .ok (.aload_n 0, 1) := by decide +kernel
theorem dX8_does_176 : decode cX8_does 176 = .ok (.getfield 34, 3) := by decide +kernel
theorem dX8_does_179 : decode cX8_does 179 = .ok (.iload 4, 2) := by decide +kernel
theorem dX8_does_181 : decode cX8_does 181 = .ok (.iaload, 1) := by decide +kernel
theorem dX8_does_182 : decode cX8_does 182 = .ok (.bipush 9, 2) := by decide +kernel
theorem dX8_does_184 : decode cX8_does 184 = .ok (.if_icmp .ne 7, 3) := by decide +kernel
theorem dX8_does_187 : decode cX8_does 187 = .ok (.iconst 1, 1) := by decide +kernel
theorem dX8_does_188 : decode cX8_does 188 = .ok (.goto 4, 3) := by decide +kernel
theorem dX8_does_191 : decode cX8_does 191 = .ok (.iconst 0, 1) := by decide +kernel
theorem dX8_does_192 : decode cX8_does 192 = .ok (.ireturn, 1) := by decide +kernel
theorem dX8_does_193 : decode cX8_does 193 = .ok (.iload_n 2, 1) := by decide +kernel
theorem dX8_does_194 : decode cX8_does 194 = .ok (.iconst 4, 1) := by decide +kernel
theorem dX8_does_195 : decode cX8_does 195 = .ok (.if_icmp .ne 31, 3) := by decide +kernel
theorem dX8_does_198 : decode cX8_does 198 = .ok (.aload_n 0, 1) := by decide +kernel
theorem dX8_does_199 : decode cX8_does 199 = .ok (.iload_n 3, 1) := by decide +kernel
theorem dX8_does_200 : decode cX8_does 200 = .ok (.invokevirtual 178, 3) := by decide +kernel
theorem dX8_does_203 : decode cX8_does 203 = .ok (.ifCond .ne 23, 3) := by decide +kernel
theorem dX8_does_206 : decode cX8_does 206 = .ok (.aload_n 0, 1) := by decide +kernel
theorem dX8_does_207 : decode cX8_does 207 = .ok (.iload 4, 2) := by decide +kernel
theorem dX8_does_209 : decode cX8_does 209 = .ok (.invokevirtual 174, 3) := by decide +kernel
theorem dX8_does_212 : decode cX8_does 212 = .ok (.ifCond .ne 14, 3) := by decide +kernel
theorem dX8_does_215 : decode cX8_does 215 = .ok (.aload_n 0, 1) := by decide +kernel
theorem dX8_does_216 : decode cX8_does 216 = .ok (.getfield 34, 3) := by decide +kernel
theorem dX8_does_219 : decode cX8_does 219 = .ok (.iload_n 3, 1) := by decide +kernel
theorem dX8_does_220 : decode cX8_does 220 = .ok (.iaload, 1) := by decide +kernel
theorem dX8_does_221 : decode cX8_does 221 = .ok (.iload 4, 2) := by decide +kernel
theorem dX8_does_223 : decode cX8_does 223 = .ok (.if_icmp .eq 30, 3) := by decide +kernel
theorem dX8_does_226 : decode cX8_does 226 = .ok (.iload_n 2, 1) := by decide +kernel
theorem dX8_does_227 : decode cX8_does 227 = .ok (.iconst 5, 1) := by decide +kernel
theorem dX8_does_228 : decode cX8_does 228 = .ok (.if_icmp .ne 29, 3) := by decide +kernel
theorem dX8_does_231 : decode cX8_does 231 = .ok (.aload_n 0, 1) := by decide +kernel
theorem dX8_does_232 : decode cX8_does 232 = .ok (.iload_n 3, 1) := by decide +kernel
theorem dX8_does_233 : decode cX8_does 233 = .ok (.invokevirtual 174, 3) := by decide +kernel
theorem dX8_does_236 : decode cX8_does 236 = .ok (.ifCond .ne 21, 3) := by decide +kernel
theorem dX8_does_239 : decode cX8_does 239 = .ok (.aload_n 0, 1) := by decide +kernel
theorem dX8_does_240 : decode cX8_does 240 = .ok (.getfield 34, 3) := by decide +kernel
theorem dX8_does_243 : decode cX8_does 243 = .ok (.bipush 19, 2) := by decide +kernel
theorem dX8_does_245 : decode cX8_does 245 = .ok (.iload_n 3, 1) := by decide +kernel
theorem dX8_does_246 : decode cX8_does 246 = .ok (.iadd, 1) := by decide +kernel
theorem dX8_does_247 : decode cX8_does 247 = .ok (.iaload, 1) := by decide +kernel
theorem dX8_does_248 : decode cX8_does 248 = .ok (.iload 4, 2) := by decide +kernel
theorem dX8_does_250 : decode cX8_does 250 = .ok (.if_icmp .lt 7, 3) := by decide +kernel
theorem dX8_does_253 : decode cX8_does 253 = .ok (.iconst 1, 1) := by decide +kernel
theorem dX8_does_254 : decode cX8_does 254 = .ok (.goto 4, 3) := by decide +kernel
theorem dX8_does_257 : decode cX8_does 257 = .ok (.iconst 0, 1) := by decide +kernel
theorem dX8_does_258 : decode cX8_does 258 = .ok (.ireturn, 1) := by decide +kernel
theorem dX8_judge_0 : decode cX8_judge 0 = .ok (.aload_n 0, 1) := by decide +kernel
theorem dX8_judge_1 : decode cX8_judge 1 = .ok (.iconst 0, 1) := by decide +kernel
theorem dX8_judge_2 : decode cX8_judge 2 = .ok (.putfield 62, 3) := by decide +kernel
theorem dX8_judge_5 : decode cX8_judge 5 = .ok (.iload_n 1, 1) := by decide +kernel
theorem dX8_judge_6 : decode cX8_judge 6 = .ok (.i2l, 1) := by decide +kernel
theorem dX8_judge_7 : decode cX8_judge 7 = .ok (.lconst 1, 1) := by decide +kernel
theorem dX8_judge_8 : decode cX8_judge 8 = .ok (.ldc2_w 218, 3) := by decide +kernel
theorem dX8_judge_11 : decode cX8_judge 11 = .ok (.invokestatic 69, 3) := by decide +kernel
theorem dX8_judge_14 : decode cX8_judge 14 = .ok (.ifCond .eq 20, 3) := by decide +kernel
theorem dX8_judge_17 : decode cX8_judge 17 = .ok (.lload_n 2, 1) := by decide +kernel
theorem dX8_judge_18 : decode cX8_judge 18 = .ok (.lconst 0, 1) := by decide +kernel
theorem dX8_judge_19 : decode cX8_judge 19 = .ok (.ldc2_w 220, 3) := by decide +kernel
theorem dX8_judge_22 : decode cX8_judge 22 = .ok (.iload_n 1, 1) := by decide +kernel
theorem dX8_judge_23 : decode cX8_judge 23 = .ok (.invokestatic 222, 3) := by decide +kernel
theorem dX8_judge_26 : decode cX8_judge 26 = .ok (.lconst 1, 1) := by decide +kernel
theorem dX8_judge_27 : decode cX8_judge 27 = .ok (.lsub, 1) := by decide +kernel
theorem dX8_judge_28 : decode cX8_judge 28 = .ok (.invokestatic 69, 3) := by decide +kernel
theorem dX8_judge_31 : decode cX8_judge 31 = .ok (.ifCond .ne 6, 3) := by decide +kernel
theorem dX8_judge_34 : decode cX8_judge 34 = .ok (.bipush (-2), 2) := by decide +kernel
theorem dX8_judge_36 : decode cX8_judge 36 = .ok (.ireturn, 1) := by decide +kernel
theorem dX8_judge_37 : decode cX8_judge 37 = .ok (.aload_n 0, 1) := by decide +kernel
theorem dX8_judge_38 : decode cX8_judge 38 = .ok (.iconst 0, 1) := by decide +kernel
theorem dX8_judge_39 : decode cX8_judge 39 = .ok (.invokevirtual 196, 3) := by decide +kernel
theorem dX8_judge_42 : decode cX8_judge 42 = .ok (.iconst 0, 1) := by decide +kernel
theorem dX8_judge_43 : decode cX8_judge 43 = .ok (.istore 4, 2) := by decide +kernel
theorem dX8_judge_45 : decode cX8_judge 45 = .ok (.iload 4, 2) := by decide +kernel
theorem dX8_judge_47 : decode cX8_judge 47 = .ok (.iload_n 1, 1) := by decide +kernel
theorem dX8_judge_48 : decode cX8_judge 48 = .ok (.if_icmp .ge 38, 3) := by decide +kernel
theorem dX8_judge_51 : decode cX8_judge 51 = .ok (.aload_n 0, 1) := by decide +kernel
theorem dX8_judge_52 : decode cX8_judge 52 = .ok (.lload_n 2, 1) := by decide +kernel
theorem dX8_judge_53 : decode cX8_judge 53 = .ok (.ldc2_w 220, 3) := by decide +kernel
theorem dX8_judge_56 : decode cX8_judge 56 = .ok (.iload_n 1, 1) := by decide +kernel
theorem dX8_judge_57 : decode cX8_judge 57 = .ok (.iconst 1, 1) := by decide +kernel
theorem dX8_judge_58 : decode cX8_judge 58 = .ok (.isub, 1) := by decide +kernel
theorem dX8_judge_59 : decode cX8_judge 59 = .ok (.iload 4, 2) := by decide +kernel
theorem dX8_judge_61 : decode cX8_judge 61 = .ok (.isub, 1) := by decide +kernel
theorem dX8_judge_62 : decode cX8_judge 62 = .ok (.invokestatic 222, 3) := by decide +kernel
theorem dX8_judge_65 : decode cX8_judge 65 = .ok (.ldiv, 1) := by decide +kernel
theorem dX8_judge_66 : decode cX8_judge 66 = .ok (.ldc2_w 220, 3) := by decide +kernel
theorem dX8_judge_69 : decode cX8_judge 69 = .ok (.lrem, 1) := by decide +kernel
theorem dX8_judge_70 : decode cX8_judge 70 = .ok (.l2i, 1) := by decide +kernel
theorem dX8_judge_71 : decode cX8_judge 71 = .ok (.invokevirtual 226, 3) := by decide +kernel
theorem dX8_judge_74 : decode cX8_judge 74 = .ok (.ifCond .ne 6, 3) := by decide +kernel
theorem dX8_judge_77 : decode cX8_judge 77 = .ok (.iload 4, 2) := by decide +kernel
theorem dX8_judge_79 : decode cX8_judge 79 = .ok (.ireturn, 1) := by decide +kernel
theorem dX8_judge_80 : decode cX8_judge 80 = .ok (.iinc 4 1, 3) := by decide +kernel
theorem dX8_judge_83 : decode cX8_judge 83 = .ok (.goto (-38), 3) := by decide +kernel
theorem dX8_judge_86 : decode cX8_judge 86 = .ok (.bipush (-9), 2) := by decide +kernel
theorem dX8_judge_88 : decode cX8_judge 88 = .ok (.ireturn, 1) := by decide +kernel
theorem dX8_ways_0 : decode cX8_ways 0 = .ok (.iconst 1, 1) := by decide +kernel
theorem dX8_ways_1 : decode cX8_ways 1 = .ok (.istore_n 1, 1) := by decide +kernel
theorem dX8_ways_2 : decode cX8_ways 2 = .ok (.iconst 2, 1) := by decide +kernel
theorem dX8_ways_3 : decode cX8_ways 3 = .ok (.istore_n 2, 1) := by decide +kernel
theorem dX8_ways_4 : decode cX8_ways 4 = .ok (.iload_n 2, 1) := by decide +kernel
theorem dX8_ways_5 : decode cX8_ways 5 = .ok (.iload_n 0, 1) := by decide +kernel
theorem dX8_ways_6 : decode cX8_ways 6 = .ok (.if_icmp .gt 13, 3) := by decide +kernel
theorem dX8_ways_9 : decode cX8_ways 9 = .ok (.iload_n 1, 1) := by decide +kernel
theorem dX8_ways_10 : decode cX8_ways 10 = .ok (.iload_n 2, 1) := by decide +kernel
theorem dX8_ways_11 : decode cX8_ways 11 = .ok (.imul, 1) := by decide +kernel
theorem dX8_ways_12 : decode cX8_ways 12 = .ok (.istore_n 1, 1) := by decide +kernel
theorem dX8_ways_13 : decode cX8_ways 13 = .ok (.iinc 2 1, 3) := by decide +kernel
theorem dX8_ways_16 : decode cX8_ways 16 = .ok (.goto (-12), 3) := by decide +kernel
theorem dX8_ways_19 : decode cX8_ways 19 = .ok (.iload_n 1, 1) := by decide +kernel
theorem dX8_ways_20 : decode cX8_ways 20 = .ok (.ireturn, 1) := by decide +kernel
theorem dX8_divisor_0 : decode cX8_divisor 0 = .ok (.iload_n 0, 1) := by decide +kernel
theorem dX8_divisor_1 : decode cX8_divisor 1 = .ok (.ifCond .ge 8, 3) := by decide +kernel
theorem dX8_divisor_4 : decode cX8_divisor 4 = .ok (.iload_n 0, 1) := by decide +kernel
theorem dX8_divisor_5 : decode cX8_divisor 5 = .ok (.ineg, 1) := by decide +kernel
theorem dX8_divisor_6 : decode cX8_divisor 6 = .ok (.goto 4, 3) := by decide +kernel
theorem dX8_divisor_9 : decode cX8_divisor 9 = .ok (.iload_n 0, 1) := by decide +kernel
theorem dX8_divisor_10 : decode cX8_divisor 10 = .ok (.istore_n 2, 1) := by decide +kernel
theorem dX8_divisor_11 : decode cX8_divisor 11 = .ok (.iload_n 1, 1) := by decide +kernel
theorem dX8_divisor_12 : decode cX8_divisor 12 = .ok (.istore_n 3, 1) := by decide +kernel
theorem dX8_divisor_13 : decode cX8_divisor 13 = .ok (.iload_n 3, 1) := by decide +kernel
theorem dX8_divisor_14 : decode cX8_divisor 14 = .ok (.ifCond .eq 16, 3) := by decide +kernel
theorem dX8_divisor_17 : decode cX8_divisor 17 = .ok (.iload_n 2, 1) := by decide +kernel
theorem dX8_divisor_18 : decode cX8_divisor 18 = .ok (.iload_n 3, 1) := by decide +kernel
theorem dX8_divisor_19 : decode cX8_divisor 19 = .ok (.irem, 1) := by decide +kernel
theorem dX8_divisor_20 : decode cX8_divisor 20 = .ok (.istore 4, 2) := by decide +kernel
theorem dX8_divisor_22 : decode cX8_divisor 22 = .ok (.iload_n 3, 1) := by decide +kernel
theorem dX8_divisor_23 : decode cX8_divisor 23 = .ok (.istore_n 2, 1) := by decide +kernel
theorem dX8_divisor_24 : decode cX8_divisor 24 = .ok (.iload 4, 2) := by decide +kernel
theorem dX8_divisor_26 : decode cX8_divisor 26 = .ok (.istore_n 3, 1) := by decide +kernel
theorem dX8_divisor_27 : decode cX8_divisor 27 = .ok (.goto (-14), 3) := by decide +kernel
theorem dX8_divisor_30 : decode cX8_divisor 30 = .ok (.iload_n 2, 1) := by decide +kernel
theorem dX8_divisor_31 : decode cX8_divisor 31 = .ok (.ireturn, 1) := by decide +kernel
theorem dX8_fraction_0 : decode cX8_fraction 0 = .ok (.iload_n 0, 1) := by decide +kernel
theorem dX8_fraction_1 : decode cX8_fraction 1 = .ok (.iload_n 1, 1) := by decide +kernel
theorem dX8_fraction_2 : decode cX8_fraction 2 = .ok (.invokestatic 229, 3) := by decide +kernel
theorem dX8_fraction_5 : decode cX8_fraction 5 = .ok (.istore_n 3, 1) := by decide +kernel
theorem dX8_fraction_6 : decode cX8_fraction 6 = .ok (.iload_n 2, 1) := by decide +kernel
theorem dX8_fraction_7 : decode cX8_fraction 7 = .ok (.ifCond .eq 9, 3) := by decide +kernel
theorem dX8_fraction_10 : decode cX8_fraction 10 = .ok (.iload_n 0, 1) := by decide +kernel
theorem dX8_fraction_11 : decode cX8_fraction 11 = .ok (.iload_n 3, 1) := by decide +kernel
theorem dX8_fraction_12 : decode cX8_fraction 12 = .ok (.idiv, 1) := by decide +kernel
theorem dX8_fraction_13 : decode cX8_fraction 13 = .ok (.goto 6, 3) := by decide +kernel
theorem dX8_fraction_16 : decode cX8_fraction 16 = .ok (.iload_n 1, 1) := by decide +kernel
theorem dX8_fraction_17 : decode cX8_fraction 17 = .ok (.iload_n 3, 1) := by decide +kernel
theorem dX8_fraction_18 : decode cX8_fraction 18 = .ok (.idiv, 1) := by decide +kernel
theorem dX8_fraction_19 : decode cX8_fraction 19 = .ok (.ireturn, 1) := by decide +kernel
theorem dX8_share_0 : decode cX8_share 0 = .ok (.aload_n 0, 1) := by decide +kernel
theorem dX8_share_1 : decode cX8_share 1 = .ok (.iconst 0, 1) := by decide +kernel
theorem dX8_share_2 : decode cX8_share 2 = .ok (.putfield 62, 3) := by decide +kernel
theorem dX8_share_5 : decode cX8_share 5 = .ok (.aload_n 0, 1) := by decide +kernel
theorem dX8_share_6 : decode cX8_share 6 = .ok (.iload_n 1, 1) := by decide +kernel
theorem dX8_share_7 : decode cX8_share 7 = .ok (.invokevirtual 174, 3) := by decide +kernel
theorem dX8_share_10 : decode cX8_share 10 = .ok (.ifCond .eq 5, 3) := by decide +kernel
theorem dX8_share_13 : decode cX8_share 13 = .ok (.iconst (-1), 1) := by decide +kernel
theorem dX8_share_14 : decode cX8_share 14 = .ok (.ireturn, 1) := by decide +kernel
theorem dX8_share_15 : decode cX8_share 15 = .ok (.aload_n 0, 1) := by decide +kernel
theorem dX8_share_16 : decode cX8_share 16 = .ok (.invokevirtual 171, 3) := by decide +kernel
theorem dX8_share_19 : decode cX8_share 19 = .ok (.iconst 0, 1) := by decide +kernel
theorem dX8_share_20 : decode cX8_share 20 = .ok (.istore_n 3, 1) := by decide +kernel
theorem dX8_share_21 : decode cX8_share 21 = .ok (.iload_n 3, 1) := by decide +kernel
theorem dX8_share_22 : decode cX8_share 22 = .ok (.iconst 1, 1) := by decide +kernel
theorem dX8_share_23 : decode cX8_share 23 = .ok (.aload_n 0, 1) := by decide +kernel
theorem dX8_share_24 : decode cX8_share 24 = .ok (.getfield 66, 3) := by decide +kernel
theorem dX8_share_27 : decode cX8_share 27 = .ok (.ishl, 1) := by decide +kernel
theorem dX8_share_28 : decode cX8_share 28 = .ok (.if_icmp .ge 24, 3) := by decide +kernel
theorem dX8_share_31 : decode cX8_share 31 = .ok (.aload_n 0, 1) := by decide +kernel
theorem dX8_share_32 : decode cX8_share 32 = .ok (.iload_n 3, 1) := by decide +kernel
theorem dX8_share_33 : decode cX8_share 33 = .ok (.putfield 135, 3) := by decide +kernel
theorem dX8_share_36 : decode cX8_share 36 = .ok (.aload_n 0, 1) := by decide +kernel
theorem dX8_share_37 : decode cX8_share 37 = .ok (.getfield 59, 3) := by decide +kernel
theorem dX8_share_40 : decode cX8_share 40 = .ok (.iload_n 3, 1) := by decide +kernel
theorem dX8_share_41 : decode cX8_share 41 = .ok (.aload_n 0, 1) := by decide +kernel
theorem dX8_share_42 : decode cX8_share 42 = .ok (.invokevirtual 212, 3) := by decide +kernel
theorem dX8_share_45 : decode cX8_share 45 = .ok (.iastore, 1) := by decide +kernel
theorem dX8_share_46 : decode cX8_share 46 = .ok (.iinc 3 1, 3) := by decide +kernel
theorem dX8_share_49 : decode cX8_share 49 = .ok (.goto (-28), 3) := by decide +kernel
theorem dX8_share_52 : decode cX8_share 52 = .ok (.aload_n 0, 1) := by decide +kernel
theorem dX8_share_53 : decode cX8_share 53 = .ok (.bipush 15, 2) := by decide +kernel
theorem dX8_share_55 : decode cX8_share 55 = .ok (.putfield 135, 3) := by decide +kernel
theorem dX8_share_58 : decode cX8_share 58 = .ok (.iconst 0, 1) := by decide +kernel
theorem dX8_share_59 : decode cX8_share 59 = .ok (.istore_n 3, 1) := by decide +kernel
theorem dX8_share_60 : decode cX8_share 60 = .ok (.iconst 0, 1) := by decide +kernel
theorem dX8_share_61 : decode cX8_share 61 = .ok (.istore 4, 2) := by decide +kernel
theorem dX8_share_63 : decode cX8_share 63 = .ok (.iload 4, 2) := by decide +kernel
theorem dX8_share_65 : decode cX8_share 65 = .ok (.iconst 1, 1) := by decide +kernel
theorem dX8_share_66 : decode cX8_share 66 = .ok (.aload_n 0, 1) := by decide +kernel
theorem dX8_share_67 : decode cX8_share 67 = .ok (.getfield 66, 3) := by decide +kernel
theorem dX8_share_70 : decode cX8_share 70 = .ok (.ishl, 1) := by decide +kernel
theorem dX8_share_71 : decode cX8_share 71 = .ok (.if_icmp .ge 66, 3) := by decide +kernel
theorem dX8_share_74 : decode cX8_share 74 = .ok (.iload 4, 2) := by decide +kernel
theorem dX8_share_76 : decode cX8_share 76 = .ok (.iload_n 1, 1) := by decide +kernel
theorem dX8_share_77 : decode cX8_share 77 = .ok (.invokestatic 123, 3) := by decide +kernel
theorem dX8_share_80 : decode cX8_share 80 = .ok (.ifCond .ne 51, 3) := by decide +kernel
theorem dX8_share_83 : decode cX8_share 83 = .ok (.iload 4, 2) := by decide +kernel
theorem dX8_share_85 : decode cX8_share 85 = .ok (.invokestatic 142, 3) := by decide +kernel
theorem dX8_share_88 : decode cX8_share 88 = .ok (.istore 5, 2) := by decide +kernel
theorem dX8_share_90 : decode cX8_share 90 = .ok (.iload_n 3, 1) := by decide +kernel
theorem dX8_share_91 : decode cX8_share 91 = .ok (.iload 5, 2) := by decide +kernel
theorem dX8_share_93 : decode cX8_share 93 = .ok (.invokestatic 232, 3) := by decide +kernel
theorem dX8_share_96 : decode cX8_share 96 = .ok (.aload_n 0, 1) := by decide +kernel
theorem dX8_share_97 : decode cX8_share 97 = .ok (.getfield 66, 3) := by decide +kernel
theorem dX8_share_100 : decode cX8_share 100 = .ok (.iconst 1, 1) := by decide +kernel
theorem dX8_share_101 : decode cX8_share 101 = .ok (.isub, 1) := by decide +kernel
theorem dX8_share_102 : decode cX8_share 102 = .ok (.iload 5, 2) := by decide +kernel
theorem dX8_share_104 : decode cX8_share 104 = .ok (.isub, 1) := by decide +kernel
theorem dX8_share_105 : decode cX8_share 105 = .ok (.invokestatic 232, 3) := by decide +kernel
theorem dX8_share_108 : decode cX8_share 108 = .ok (.imul, 1) := by decide +kernel
theorem dX8_share_109 : decode cX8_share 109 = .ok (.aload_n 0, 1) := by decide +kernel
theorem dX8_share_110 : decode cX8_share 110 = .ok (.getfield 59, 3) := by decide +kernel
theorem dX8_share_113 : decode cX8_share 113 = .ok (.iload 4, 2) := by decide +kernel
theorem dX8_share_115 : decode cX8_share 115 = .ok (.iconst 1, 1) := by decide +kernel
theorem dX8_share_116 : decode cX8_share 116 = .ok (.iload_n 1, 1) := by decide +kernel
theorem dX8_share_117 : decode cX8_share 117 = .ok (.ishl, 1) := by decide +kernel
theorem dX8_share_118 : decode cX8_share 118 = .ok (.ior, 1) := by decide +kernel
theorem dX8_share_119 : decode cX8_share 119 = .ok (.iaload, 1) := by decide +kernel
theorem dX8_share_120 : decode cX8_share 120 = .ok (.aload_n 0, 1) := by decide +kernel
theorem dX8_share_121 : decode cX8_share 121 = .ok (.getfield 59, 3) := by decide +kernel
theorem dX8_share_124 : decode cX8_share 124 = .ok (.iload 4, 2) := by decide +kernel
theorem dX8_share_126 : decode cX8_share 126 = .ok (.iaload, 1) := by decide +kernel
theorem dX8_share_127 : decode cX8_share 127 = .ok (.isub, 1) := by decide +kernel
theorem dX8_share_128 : decode cX8_share 128 = .ok (.imul, 1) := by decide +kernel
theorem dX8_share_129 : decode cX8_share 129 = .ok (.iadd, 1) := by decide +kernel
theorem dX8_share_130 : decode cX8_share 130 = .ok (.istore_n 3, 1) := by decide +kernel
theorem dX8_share_131 : decode cX8_share 131 = .ok (.iinc 4 1, 3) := by decide +kernel
theorem dX8_share_134 : decode cX8_share 134 = .ok (.goto (-71), 3) := by decide +kernel
theorem dX8_share_137 : decode cX8_share 137 = .ok (.iload_n 3, 1) := by decide +kernel
theorem dX8_share_138 : decode cX8_share 138 = .ok (.aload_n 0, 1) := by decide +kernel
theorem dX8_share_139 : decode cX8_share 139 = .ok (.getfield 66, 3) := by decide +kernel
theorem dX8_share_142 : decode cX8_share 142 = .ok (.invokestatic 232, 3) := by decide +kernel
theorem dX8_share_145 : decode cX8_share 145 = .ok (.iload_n 2, 1) := by decide +kernel
theorem dX8_share_146 : decode cX8_share 146 = .ok (.invokestatic 235, 3) := by decide +kernel
theorem dX8_share_149 : decode cX8_share 149 = .ok (.ireturn, 1) := by decide +kernel
theorem dX8_sound_0 : decode cX8_sound 0 = .ok (.aload_n 0, 1) := by decide +kernel
theorem dX8_sound_1 : decode cX8_sound 1 = .ok (.iconst 0, 1) := by decide +kernel
theorem dX8_sound_2 : decode cX8_sound 2 = .ok (.putfield 62, 3) := by decide +kernel
theorem dX8_sound_5 : decode cX8_sound 5 = .ok (.iload_n 1, 1) := by decide +kernel
theorem dX8_sound_6 : decode cX8_sound 6 = .ok (.i2l, 1) := by decide +kernel
theorem dX8_sound_7 : decode cX8_sound 7 = .ok (.lconst 1, 1) := by decide +kernel
theorem dX8_sound_8 : decode cX8_sound 8 = .ok (.ldc2_w 239, 3) := by decide +kernel
theorem dX8_sound_11 : decode cX8_sound 11 = .ok (.invokestatic 69, 3) := by decide +kernel
theorem dX8_sound_14 : decode cX8_sound 14 = .ok (.ifCond .eq 25, 3) := by decide +kernel
theorem dX8_sound_17 : decode cX8_sound 17 = .ok (.iload_n 2, 1) := by decide +kernel
theorem dX8_sound_18 : decode cX8_sound 18 = .ok (.i2l, 1) := by decide +kernel
theorem dX8_sound_19 : decode cX8_sound 19 = .ok (.lconst 0, 1) := by decide +kernel
theorem dX8_sound_20 : decode cX8_sound 20 = .ok (.ldc2_w 239, 3) := by decide +kernel
theorem dX8_sound_23 : decode cX8_sound 23 = .ok (.invokestatic 69, 3) := by decide +kernel
theorem dX8_sound_26 : decode cX8_sound 26 = .ok (.ifCond .eq 13, 3) := by decide +kernel
theorem dX8_sound_29 : decode cX8_sound 29 = .ok (.iload_n 3, 1) := by decide +kernel
theorem dX8_sound_30 : decode cX8_sound 30 = .ok (.i2l, 1) := by decide +kernel
theorem dX8_sound_31 : decode cX8_sound 31 = .ok (.lconst 0, 1) := by decide +kernel
theorem dX8_sound_32 : decode cX8_sound 32 = .ok (.lconst 1, 1) := by decide +kernel
theorem dX8_sound_33 : decode cX8_sound 33 = .ok (.invokestatic 69, 3) := by decide +kernel
theorem dX8_sound_36 : decode cX8_sound 36 = .ok (.ifCond .ne 6, 3) := by decide +kernel
theorem dX8_sound_39 : decode cX8_sound 39 = .ok (.bipush (-2), 2) := by decide +kernel
theorem dX8_sound_41 : decode cX8_sound 41 = .ok (.ireturn, 1) := by decide +kernel
theorem dX8_sound_42 : decode cX8_sound 42 = .ok (.aload_n 0, 1) := by decide +kernel
theorem dX8_sound_43 : decode cX8_sound 43 = .ok (.getfield 168, 3) := by decide +kernel
theorem dX8_sound_46 : decode cX8_sound 46 = .ok (.bipush 6, 2) := by decide +kernel
theorem dX8_sound_48 : decode cX8_sound 48 = .ok (.if_icmp .ne 6, 3) := by decide +kernel
theorem dX8_sound_51 : decode cX8_sound 51 = .ok (.bipush (-4), 2) := by decide +kernel
theorem dX8_sound_53 : decode cX8_sound 53 = .ok (.ireturn, 1) := by decide +kernel
theorem dX8_sound_54 : decode cX8_sound 54 = .ok (.aload_n 0, 1) := by decide +kernel
theorem dX8_sound_55 : decode cX8_sound 55 = .ok (.getfield 47, 3) := by decide +kernel
theorem dX8_sound_58 : decode cX8_sound 58 = .ok (.aload_n 0, 1) := by decide +kernel
theorem dX8_sound_59 : decode cX8_sound 59 = .ok (.getfield 168, 3) := by decide +kernel
theorem dX8_sound_62 : decode cX8_sound 62 = .ok (.iload_n 1, 1) := by decide +kernel
theorem dX8_sound_63 : decode cX8_sound 63 = .ok (.iastore, 1) := by decide +kernel
theorem dX8_sound_64 : decode cX8_sound 64 = .ok (.aload_n 0, 1) := by decide +kernel
theorem dX8_sound_65 : decode cX8_sound 65 = .ok (.getfield 50, 3) := by decide +kernel
theorem dX8_sound_68 : decode cX8_sound 68 = .ok (.aload_n 0, 1) := by decide +kernel
theorem dX8_sound_69 : decode cX8_sound 69 = .ok (.getfield 168, 3) := by decide +kernel
theorem dX8_sound_72 : decode cX8_sound 72 = .ok (.iload_n 2, 1) := by decide +kernel
theorem dX8_sound_73 : decode cX8_sound 73 = .ok (.iastore, 1) := by decide +kernel
theorem dX8_sound_74 : decode cX8_sound 74 = .ok (.aload_n 0, 1) := by decide +kernel
theorem dX8_sound_75 : decode cX8_sound 75 = .ok (.getfield 53, 3) := by decide +kernel
theorem dX8_sound_78 : decode cX8_sound 78 = .ok (.aload_n 0, 1) := by decide +kernel
theorem dX8_sound_79 : decode cX8_sound 79 = .ok (.getfield 168, 3) := by decide +kernel
theorem dX8_sound_82 : decode cX8_sound 82 = .ok (.iload_n 3, 1) := by decide +kernel
theorem dX8_sound_83 : decode cX8_sound 83 = .ok (.iastore, 1) := by decide +kernel
theorem dX8_sound_84 : decode cX8_sound 84 = .ok (.aload_n 0, 1) := by decide +kernel
theorem dX8_sound_85 : decode cX8_sound 85 = .ok (.dup, 1) := by decide +kernel
theorem dX8_sound_86 : decode cX8_sound 86 = .ok (.getfield 168, 3) := by decide +kernel
theorem dX8_sound_89 : decode cX8_sound 89 = .ok (.iconst 1, 1) := by decide +kernel
theorem dX8_sound_90 : decode cX8_sound 90 = .ok (.iadd, 1) := by decide +kernel
theorem dX8_sound_91 : decode cX8_sound 91 = .ok (.putfield 168, 3) := by decide +kernel
theorem dX8_sound_94 : decode cX8_sound 94 = .ok (.aload_n 0, 1) := by decide +kernel
theorem dX8_sound_95 : decode cX8_sound 95 = .ok (.getfield 168, 3) := by decide +kernel
theorem dX8_sound_98 : decode cX8_sound 98 = .ok (.ireturn, 1) := by decide +kernel
theorem dX8_unsound_0 : decode cX8_unsound 0 = .ok (.aload_n 0, 1) := by decide +kernel
theorem dX8_unsound_1 : decode cX8_unsound 1 = .ok (.iconst 0, 1) := by decide +kernel
theorem dX8_unsound_2 : decode cX8_unsound 2 = .ok (.putfield 62, 3) := by decide +kernel
theorem dX8_unsound_5 : decode cX8_unsound 5 = .ok (.aload_n 0, 1) := by decide +kernel
theorem dX8_unsound_6 : decode cX8_unsound 6 = .ok (.getfield 168, 3) := by decide +kernel
theorem dX8_unsound_9 : decode cX8_unsound 9 = .ok (.istore_n 1, 1) := by decide +kernel
theorem dX8_unsound_10 : decode cX8_unsound 10 = .ok (.aload_n 0, 1) := by decide +kernel
theorem dX8_unsound_11 : decode cX8_unsound 11 = .ok (.iconst 0, 1) := by decide +kernel
theorem dX8_unsound_12 : decode cX8_unsound 12 = .ok (.putfield 168, 3) := by decide +kernel
theorem dX8_unsound_15 : decode cX8_unsound 15 = .ok (.iload_n 1, 1) := by decide +kernel
theorem dX8_unsound_16 : decode cX8_unsound 16 = .ok (.ireturn, 1) := by decide +kernel
theorem dX8_explains_0 : decode cX8_explains 0 = .ok (.iconst 1, 1) := by decide +kernel
theorem dX8_explains_1 : decode cX8_explains 1 = .ok (.istore_n 3, 1) := by decide +kernel
theorem dX8_explains_2 : decode cX8_explains 2 = .ok (.iconst 0, 1) := by decide +kernel
theorem dX8_explains_3 : decode cX8_explains 3 = .ok (.istore 4, 2) := by decide +kernel
theorem dX8_explains_5 : decode cX8_explains 5 = .ok (.iload 4, 2) := by decide +kernel
theorem dX8_explains_7 : decode cX8_explains 7 = .ok (.aload_n 0, 1) := by decide +kernel
theorem dX8_explains_8 : decode cX8_explains 8 = .ok (.getfield 168, 3) := by decide +kernel
theorem dX8_explains_11 : decode cX8_explains 11 = .ok (.if_icmp .ge 102, 3) := by decide +kernel
theorem dX8_explains_14 : decode cX8_explains 14 = .ok (.iload_n 2, 1) := by decide +kernel
theorem dX8_explains_15 : decode cX8_explains 15 = .ok (.ifCond .eq 15, 3) := by decide +kernel
theorem dX8_explains_18 : decode cX8_explains 18 = .ok (.iload_n 1, 1) := by decide +kernel
theorem dX8_explains_19 : decode cX8_explains 19 = .ok (.aload_n 0, 1) := by decide +kernel
theorem dX8_explains_20 : decode cX8_explains 20 = .ok (.getfield 50, 3) := by decide +kernel
theorem dX8_explains_23 : decode cX8_explains 23 = .ok (.iload 4, 2) := by decide +kernel
theorem dX8_explains_25 : decode cX8_explains 25 = .ok (.iaload, 1) := by decide +kernel
theorem dX8_explains_26 : decode cX8_explains 26 = .ok (.iadd, 1) := by decide +kernel
theorem dX8_explains_27 : decode cX8_explains 27 = .ok (.goto 4, 3) := by decide +kernel
theorem dX8_explains_30 : decode cX8_explains 30 = .ok (.iload_n 1, 1) := by decide +kernel
theorem dX8_explains_31 : decode cX8_explains 31 = .ok (.istore 5, 2) := by decide +kernel
theorem dX8_explains_33 : decode cX8_explains 33 = .ok (.iload 5, 2) := by decide +kernel
theorem dX8_explains_35 : decode cX8_explains 35 = .ok (.bipush 9, 2) := by decide +kernel
theorem dX8_explains_37 : decode cX8_explains 37 = .ok (.if_icmp .le 8, 3) := by decide +kernel
theorem dX8_explains_40 : decode cX8_explains 40 = .ok (.bipush 9, 2) := by decide +kernel
theorem dX8_explains_42 : decode cX8_explains 42 = .ok (.goto 5, 3) := by decide +kernel
theorem dX8_explains_45 : decode cX8_explains 45 = .ok (.iload 5, 2) := by decide +kernel
theorem dX8_explains_47 : decode cX8_explains 47 = .ok (.istore 5, 2) := by decide +kernel
theorem dX8_explains_49 : decode cX8_explains 49 = .ok (.iload_n 3, 1) := by decide +kernel
theorem dX8_explains_50 : decode cX8_explains 50 = .ok (.ifCond .eq 55, 3) := by decide +kernel
theorem dX8_explains_53 : decode cX8_explains 53 = .ok (.aload_n 0, 1) := by decide +kernel
theorem dX8_explains_54 : decode cX8_explains 54 = .ok (.getfield 47, 3) := by decide +kernel
theorem dX8_explains_57 : decode cX8_explains 57 = .ok (.iload 4, 2) := by decide +kernel
theorem dX8_explains_59 : decode cX8_explains 59 = .ok (.iaload, 1) := by decide +kernel
theorem dX8_explains_60 : decode cX8_explains 60 = .ok (.iload 5, 2) := by decide +kernel
theorem dX8_explains_62 : decode cX8_explains 62 = .ok (.aload_n 0, 1) := by decide +kernel
theorem dX8_explains_63 : decode cX8_explains 63 = .ok (.aload_n 0, 1) := by decide +kernel
theorem dX8_explains_64 : decode cX8_explains 64 = .ok (.getfield 50, 3) := by decide +kernel
theorem dX8_explains_67 : decode cX8_explains 67 = .ok (.iload 4, 2) := by decide +kernel
theorem dX8_explains_69 : decode cX8_explains 69 = .ok (.iaload, 1) := by decide +kernel
theorem dX8_explains_70 : decode cX8_explains 70 = .ok (.invokevirtual 127, 3) := by decide +kernel
theorem dX8_explains_73 : decode cX8_explains 73 = .ok (.iadd, 1) := by decide +kernel
theorem dX8_explains_74 : decode cX8_explains 74 = .ok (.if_icmp .le 7, 3) := by decide +kernel
theorem dX8_explains_77 : decode cX8_explains 77 = .ok (.iconst 1, 1) := by decide +kernel
theorem dX8_explains_78 : decode cX8_explains 78 = .ok (.goto 4, 3) := by decide +kernel
theorem dX8_explains_81 : decode cX8_explains 81 = .ok (.iconst 0, 1) := by decide +kernel
theorem dX8_explains_82 : decode cX8_explains 82 = .ok (.aload_n 0, 1) := by decide +kernel
theorem dX8_explains_83 : decode cX8_explains 83 = .ok (.getfield 53, 3) := by decide +kernel
theorem dX8_explains_86 : decode cX8_explains 86 = .ok (.iload 4, 2) := by decide +kernel
theorem dX8_explains_88 : decode cX8_explains 88 = .ok (.iaload, 1) := by decide +kernel
theorem dX8_explains_89 : decode cX8_explains 89 = .ok (.iconst 1, 1) := by decide +kernel
theorem dX8_explains_90 : decode cX8_explains 90 = .ok (.if_icmp .ne 7, 3) := by decide +kernel
theorem dX8_explains_93 : decode cX8_explains 93 = .ok (.iconst 1, 1) := by decide +kernel
theorem dX8_explains_94 : decode cX8_explains 94 = .ok (.goto 4, 3) := by decide +kernel
theorem dX8_explains_97 : decode cX8_explains 97 = .ok (.iconst 0, 1) := by decide +kernel
theorem dX8_explains_98 : decode cX8_explains 98 = .ok (.if_icmp .ne 7, 3) := by decide +kernel
theorem dX8_explains_101 : decode cX8_explains 101 = .ok (.iconst 1, 1) := by decide +kernel
theorem dX8_explains_102 : decode cX8_explains 102 = .ok (.goto 4, 3) := by decide +kernel
theorem dX8_explains_105 : decode cX8_explains 105 = .ok (.iconst 0, 1) := by decide +kernel
theorem dX8_explains_106 : decode cX8_explains 106 = .ok (.istore_n 3, 1) := by decide +kernel
theorem dX8_explains_107 : decode cX8_explains 107 = .ok (.iinc 4 1, 3) := by decide +kernel
theorem dX8_explains_110 : decode cX8_explains 110 = .ok (.goto (-105), 3) := by decide +kernel
theorem dX8_explains_113 : decode cX8_explains 113 = .ok (.iload_n 3, 1) := by decide +kernel
