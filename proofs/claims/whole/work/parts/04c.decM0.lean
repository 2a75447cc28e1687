theorem dX8_in_0 : decode cX8_in 0 = .ok (.lload_n 0, 1) := by decide +kernel
theorem dX8_in_1 : decode cX8_in 1 = .ok (.lload_n 2, 1) := by decide +kernel
theorem dX8_in_2 : decode cX8_in 2 = .ok (.lcmp, 1) := by decide +kernel
theorem dX8_in_3 : decode cX8_in 3 = .ok (.ifCond .lt 14, 3) := by decide +kernel
theorem dX8_in_6 : decode cX8_in 6 = .ok (.lload_n 0, 1) := by decide +kernel
theorem dX8_in_7 : decode cX8_in 7 = .ok (.lload 4, 2) := by decide +kernel
theorem dX8_in_9 : decode cX8_in 9 = .ok (.lcmp, 1) := by decide +kernel
theorem dX8_in_10 : decode cX8_in 10 = .ok (.ifCond .gt 7, 3) := by decide +kernel
theorem dX8_in_13 : decode cX8_in 13 = .ok (.iconst 1, 1) := by decide +kernel
theorem dX8_in_14 : decode cX8_in 14 = .ok (.goto 4, 3) := by decide +kernel
theorem dX8_in_17 : decode cX8_in 17 = .ok (.iconst 0, 1) := by decide +kernel
theorem dX8_in_18 : decode cX8_in 18 = .ok (.ireturn, 1) := by decide +kernel
theorem dX8_has_0 : decode cX8_has 0 = .ok (.iload_n 0, 1) := by decide +kernel
theorem dX8_has_1 : decode cX8_has 1 = .ok (.iload_n 1, 1) := by decide +kernel
theorem dX8_has_2 : decode cX8_has 2 = .ok (.ishr, 1) := by decide +kernel
theorem dX8_has_3 : decode cX8_has 3 = .ok (.iconst 1, 1) := by decide +kernel
theorem dX8_has_4 : decode cX8_has 4 = .ok (.iand, 1) := by decide +kernel
theorem dX8_has_5 : decode cX8_has 5 = .ok (.iconst 1, 1) := by decide +kernel
theorem dX8_has_6 : decode cX8_has 6 = .ok (.if_icmp .ne 7, 3) := by decide +kernel
theorem dX8_has_9 : decode cX8_has 9 = .ok (.iconst 1, 1) := by decide +kernel
theorem dX8_has_10 : decode cX8_has 10 = .ok (.goto 4, 3) := by decide +kernel
theorem dX8_has_13 : decode cX8_has 13 = .ok (.iconst 0, 1) := by decide +kernel
theorem dX8_has_14 : decode cX8_has 14 = .ok (.ireturn, 1) := by decide +kernel
theorem dX8_many_0 : decode cX8_many 0 = .ok (.iconst 0, 1) := by decide +kernel
theorem dX8_many_1 : decode cX8_many 1 = .ok (.istore_n 1, 1) := by decide +kernel
theorem dX8_many_2 : decode cX8_many 2 = .ok (.iconst 0, 1) := by decide +kernel
theorem dX8_many_3 : decode cX8_many 3 = .ok (.istore_n 2, 1) := by decide +kernel
theorem dX8_many_4 : decode cX8_many 4 = .ok (.iload_n 2, 1) := by decide +kernel
theorem dX8_many_5 : decode cX8_many 5 = .ok (.iconst 5, 1) := by decide +kernel
theorem dX8_many_6 : decode cX8_many 6 = .ok (.if_icmp .ge 17, 3) := by decide +kernel
theorem dX8_many_9 : decode cX8_many 9 = .ok (.iload_n 1, 1) := by decide +kernel
theorem dX8_many_10 : decode cX8_many 10 = .ok (.iload_n 0, 1) := by decide +kernel
theorem dX8_many_11 : decode cX8_many 11 = .ok (.iload_n 2, 1) := by decide +kernel
theorem dX8_many_12 : decode cX8_many 12 = .ok (.ishr, 1) := by decide +kernel
theorem dX8_many_13 : decode cX8_many 13 = .ok (.iconst 1, 1) := by decide +kernel
theorem dX8_many_14 : decode cX8_many 14 = .ok (.iand, 1) := by decide +kernel
theorem dX8_many_15 : decode cX8_many 15 = .ok (.iadd, 1) := by decide +kernel
theorem dX8_many_16 : decode cX8_many 16 = .ok (.istore_n 1, 1) := by decide +kernel
theorem dX8_many_17 : decode cX8_many 17 = .ok (.iinc 2 1, 3) := by decide +kernel
theorem dX8_many_20 : decode cX8_many 20 = .ok (.goto (-16), 3) := by decide +kernel
theorem dX8_many_23 : decode cX8_many 23 = .ok (.iload_n 1, 1) := by decide +kernel
theorem dX8_many_24 : decode cX8_many 24 = .ok (.ireturn, 1) := by decide +kernel
theorem dX8_power_0 : decode cX8_power 0 = .ok (.iconst 1, 1) := by decide +kernel
theorem dX8_power_1 : decode cX8_power 1 = .ok (.istore_n 2, 1) := by decide +kernel
theorem dX8_power_2 : decode cX8_power 2 = .ok (.iconst 0, 1) := by decide +kernel
theorem dX8_power_3 : decode cX8_power 3 = .ok (.istore_n 3, 1) := by decide +kernel
theorem dX8_power_4 : decode cX8_power 4 = .ok (.iload_n 3, 1) := by decide +kernel
theorem dX8_power_5 : decode cX8_power 5 = .ok (.iload_n 1, 1) := by decide +kernel
theorem dX8_power_6 : decode cX8_power 6 = .ok (.if_icmp .ge 13, 3) := by decide +kernel
theorem dX8_power_9 : decode cX8_power 9 = .ok (.iload_n 2, 1) := by decide +kernel
theorem dX8_power_10 : decode cX8_power 10 = .ok (.iload_n 0, 1) := by decide +kernel
theorem dX8_power_11 : decode cX8_power 11 = .ok (.imul, 1) := by decide +kernel
theorem dX8_power_12 : decode cX8_power 12 = .ok (.istore_n 2, 1) := by decide +kernel
theorem dX8_power_13 : decode cX8_power 13 = .ok (.iinc 3 1, 3) := by decide +kernel
theorem dX8_power_16 : decode cX8_power 16 = .ok (.goto (-12), 3) := by decide +kernel
theorem dX8_power_19 : decode cX8_power 19 = .ok (.iload_n 2, 1) := by decide +kernel
theorem dX8_power_20 : decode cX8_power 20 = .ok (.ireturn, 1) := by decide +kernel
theorem dX8_noBerth_0 : decode cX8_noBerth 0 = .ok (.iload_n 1, 1) := by decide +kernel
theorem dX8_noBerth_1 : decode cX8_noBerth 1 = .ok (.i2l, 1) := by decide +kernel
theorem dX8_noBerth_2 : decode cX8_noBerth 2 = .ok (.lconst 0, 1) := by decide +kernel
theorem dX8_noBerth_3 : decode cX8_noBerth 3 = .ok (.aload_n 0, 1) := by decide +kernel
theorem dX8_noBerth_4 : decode cX8_noBerth 4 = .ok (.getfield 66, 3) := by decide +kernel
theorem dX8_noBerth_7 : decode cX8_noBerth 7 = .ok (.iconst 1, 1) := by decide +kernel
theorem dX8_noBerth_8 : decode cX8_noBerth 8 = .ok (.isub, 1) := by decide +kernel
theorem dX8_noBerth_9 : decode cX8_noBerth 9 = .ok (.i2l, 1) := by decide +kernel
theorem dX8_noBerth_10 : decode cX8_noBerth 10 = .ok (.invokestatic 69, 3) := by decide +kernel
theorem dX8_noBerth_13 : decode cX8_noBerth 13 = .ok (.ifCond .ne 7, 3) := by decide +kernel
theorem dX8_noBerth_16 : decode cX8_noBerth 16 = .ok (.iconst 1, 1) := by decide +kernel
theorem dX8_noBerth_17 : decode cX8_noBerth 17 = .ok (.goto 4, 3) := by decide +kernel
theorem dX8_noBerth_20 : decode cX8_noBerth 20 = .ok (.iconst 0, 1) := by decide +kernel
theorem dX8_noBerth_21 : decode cX8_noBerth 21 = .ok (.ireturn, 1) := by decide +kernel
theorem dX8_noDream_0 : decode cX8_noDream 0 = .ok (.iload_n 1, 1) := by decide +kernel
theorem dX8_noDream_1 : decode cX8_noDream 1 = .ok (.i2l, 1) := by decide +kernel
theorem dX8_noDream_2 : decode cX8_noDream 2 = .ok (.lconst 0, 1) := by decide +kernel
theorem dX8_noDream_3 : decode cX8_noDream 3 = .ok (.aload_n 0, 1) := by decide +kernel
theorem dX8_noDream_4 : decode cX8_noDream 4 = .ok (.getfield 73, 3) := by decide +kernel
theorem dX8_noDream_7 : decode cX8_noDream 7 = .ok (.iconst 1, 1) := by decide +kernel
theorem dX8_noDream_8 : decode cX8_noDream 8 = .ok (.isub, 1) := by decide +kernel
theorem dX8_noDream_9 : decode cX8_noDream 9 = .ok (.i2l, 1) := by decide +kernel
theorem dX8_noDream_10 : decode cX8_noDream 10 = .ok (.invokestatic 69, 3) := by decide +kernel
theorem dX8_noDream_13 : decode cX8_noDream 13 = .ok (.ifCond .ne 7, 3) := by decide +kernel
theorem dX8_noDream_16 : decode cX8_noDream 16 = .ok (.iconst 1, 1) := by decide +kernel
theorem dX8_noDream_17 : decode cX8_noDream 17 = .ok (.goto 4, 3) := by decide +kernel
theorem dX8_noDream_20 : decode cX8_noDream 20 = .ok (.iconst 0, 1) := by decide +kernel
theorem dX8_noDream_21 : decode cX8_noDream 21 = .ok (.ireturn, 1) := by decide +kernel
theorem dX8_write_0 : decode cX8_write 0 = .ok (.aload_n 0, 1) := by decide +kernel
theorem dX8_write_1 : decode cX8_write 1 = .ok (.iconst 0, 1) := by decide +kernel
theorem dX8_write_2 : decode cX8_write 2 = .ok (.putfield 62, 3) := by decide +kernel
theorem dX8_write_5 : decode cX8_write 5 = .ok (.iload_n 1, 1) := by decide +kernel
theorem dX8_write_6 : decode cX8_write 6 = .ok (.i2l, 1) := by decide +kernel
theorem dX8_write_7 : decode cX8_write 7 = .ok (.lconst 0, 1) := by decide +kernel
theorem dX8_write_8 : decode cX8_write 8 = .ok (.ldc2_w 76, 3) := by decide +kernel
theorem dX8_write_11 : decode cX8_write 11 = .ok (.invokestatic 69, 3) := by decide +kernel
theorem dX8_write_14 : decode cX8_write 14 = .ok (.ifCond .ne 6, 3) := by decide +kernel
theorem dX8_write_17 : decode cX8_write 17 = .ok (.bipush (-2), 2) := by decide +kernel
theorem dX8_write_19 : decode cX8_write 19 = .ok (.ireturn, 1) := by decide +kernel
theorem dX8_write_20 : decode cX8_write 20 = .ok (.aload_n 0, 1) := by decide +kernel
theorem dX8_write_21 : decode cX8_write 21 = .ok (.getfield 78, 3) := by decide +kernel
theorem dX8_write_24 : decode cX8_write 24 = .ok (.bipush 48, 2) := by decide +kernel
theorem dX8_write_26 : decode cX8_write 26 = .ok (.if_icmp .ne 6, 3) := by decide +kernel
theorem dX8_write_29 : decode cX8_write 29 = .ok (.bipush (-4), 2) := by decide +kernel
theorem dX8_write_31 : decode cX8_write 31 = .ok (.ireturn, 1) := by decide +kernel
theorem dX8_write_32 : decode cX8_write 32 = .ok (.aload_n 0, 1) := by decide +kernel
theorem dX8_write_33 : decode cX8_write 33 = .ok (.getfield 7, 3) := by decide +kernel
theorem dX8_write_36 : decode cX8_write 36 = .ok (.aload_n 0, 1) := by decide +kernel
theorem dX8_write_37 : decode cX8_write 37 = .ok (.getfield 78, 3) := by decide +kernel
theorem dX8_write_40 : decode cX8_write 40 = .ok (.iload_n 1, 1) := by decide +kernel
theorem dX8_write_41 : decode cX8_write 41 = .ok (.iastore, 1) := by decide +kernel
theorem dX8_write_42 : decode cX8_write 42 = .ok (.aload_n 0, 1) := by decide +kernel
theorem dX8_write_43 : decode cX8_write 43 = .ok (.dup, 1) := by decide +kernel
theorem dX8_write_44 : decode cX8_write 44 = .ok (.getfield 78, 3) := by decide +kernel
theorem dX8_write_47 : decode cX8_write 47 = .ok (.iconst 1, 1) := by decide +kernel
theorem dX8_write_48 : decode cX8_write 48 = .ok (.iadd, 1) := by decide +kernel
theorem dX8_write_49 : decode cX8_write 49 = .ok (.putfield 78, 3) := by decide +kernel
theorem dX8_write_52 : decode cX8_write 52 = .ok (.aload_n 0, 1) := by decide +kernel
theorem dX8_write_53 : decode cX8_write 53 = .ok (.getfield 78, 3) := by decide +kernel
theorem dX8_write_56 : decode cX8_write 56 = .ok (.ireturn, 1) := by decide +kernel
theorem dX8_wipe_0 : decode cX8_wipe 0 = .ok (.aload_n 0, 1) := by decide +kernel
theorem dX8_wipe_1 : decode cX8_wipe 1 = .ok (.iconst 0, 1) := by decide +kernel
theorem dX8_wipe_2 : decode cX8_wipe 2 = .ok (.putfield 62, 3) := by decide +kernel
theorem dX8_wipe_5 : decode cX8_wipe 5 = .ok (.aload_n 0, 1) := by decide +kernel
theorem dX8_wipe_6 : decode cX8_wipe 6 = .ok (.getfield 78, 3) := by decide +kernel
theorem dX8_wipe_9 : decode cX8_wipe 9 = .ok (.istore_n 1, 1) := by decide +kernel
theorem dX8_wipe_10 : decode cX8_wipe 10 = .ok (.aload_n 0, 1) := by decide +kernel
theorem dX8_wipe_11 : decode cX8_wipe 11 = .ok (.iconst 0, 1) := by decide +kernel
theorem dX8_wipe_12 : decode cX8_wipe 12 = .ok (.putfield 78, 3) := by decide +kernel
theorem dX8_wipe_15 : decode cX8_wipe 15 = .ok (.iload_n 1, 1) := by decide +kernel
theorem dX8_wipe_16 : decode cX8_wipe 16 = .ok (.ireturn, 1) := by decide +kernel
theorem dX8_figure_0 : decode cX8_figure 0 = .ok (.aload_n 0, 1) := by decide +kernel
theorem dX8_figure_1 : decode cX8_figure 1 = .ok (.getfield 81, 3) := by decide +kernel
theorem dX8_figure_4 : decode cX8_figure 4 = .ok (.aload_n 0, 1) := by decide +kernel
theorem dX8_figure_5 : decode cX8_figure 5 = .ok (.getfield 78, 3) := by decide +kernel
theorem dX8_figure_8 : decode cX8_figure 8 = .ok (.if_icmp .eq 26, 3) := by decide +kernel
theorem dX8_figure_11 : decode cX8_figure 11 = .ok (.aload_n 0, 1) := by decide +kernel
theorem dX8_figure_12 : decode cX8_figure 12 = .ok (.getfield 7, 3) := by decide +kernel
theorem dX8_figure_15 : decode cX8_figure 15 = .ok (.aload_n 0, 1) := by decide +kernel
theorem dX8_figure_16 : decode cX8_figure 16 = .ok (.getfield 81, 3) := by decide +kernel
theorem dX8_figure_19 : decode cX8_figure 19 = .ok (.iaload, 1) := by decide +kernel
theorem dX8_figure_20 : decode cX8_figure 20 = .ok (.bipush 48, 2) := by decide +kernel
theorem dX8_figure_22 : decode cX8_figure 22 = .ok (.isub, 1) := by decide +kernel
theorem dX8_figure_23 : decode cX8_figure 23 = .ok (.i2l, 1) := by decide +kernel
theorem dX8_figure_24 : decode cX8_figure 24 = .ok (.iload_n 1, 1) := by decide +kernel
theorem dX8_figure_25 : decode cX8_figure 25 = .ok (.i2l, 1) := by decide +kernel
theorem dX8_figure_26 : decode cX8_figure 26 = .ok (.iload_n 2, 1) := by decide +kernel
theorem dX8_figure_27 : decode cX8_figure 27 = .ok (.i2l, 1) := by decide +kernel
theorem dX8_figure_28 : decode cX8_figure 28 = .ok (.invokestatic 69, 3) := by decide +kernel
theorem dX8_figure_31 : decode cX8_figure 31 = .ok (.ifCond .ne 6, 3) := by decide +kernel
theorem dX8_figure_34 : decode cX8_figure 34 = .ok (.bipush (-9), 2) := by decide +kernel
theorem dX8_figure_36 : decode cX8_figure 36 = .ok (.ireturn, 1) := by decide +kernel
theorem dX8_figure_37 : decode cX8_figure 37 = .ok (.aload_n 0, 1) := by decide +kernel
theorem dX8_figure_38 : decode cX8_figure 38 = .ok (.dup, 1) := by decide +kernel
theorem dX8_figure_39 : decode cX8_figure 39 = .ok (.getfield 81, 3) := by decide +kernel
theorem dX8_figure_42 : decode cX8_figure 42 = .ok (.iconst 1, 1) := by decide +kernel
theorem dX8_figure_43 : decode cX8_figure 43 = .ok (.iadd, 1) := by decide +kernel
theorem dX8_figure_44 : decode cX8_figure 44 = .ok (.putfield 81, 3) := by decide +kernel
theorem dX8_figure_47 : decode cX8_figure 47 = .ok (.aload_n 0, 1) := by decide +kernel
theorem dX8_figure_48 : decode cX8_figure 48 = .ok (.getfield 7, 3) := by decide +kernel
theorem dX8_figure_51 : decode cX8_figure 51 = .ok (.aload_n 0, 1) := by decide +kernel
theorem dX8_figure_52 : decode cX8_figure 52 = .ok (.getfield 81, 3) := by decide +kernel
theorem dX8_figure_55 : decode cX8_figure 55 = .ok (.iconst 1, 1) := by decide +kernel
theorem dX8_figure_56 : decode cX8_figure 56 = .ok (.isub, 1) := by decide +kernel
theorem dX8_figure_57 : decode cX8_figure 57 = .ok (.iaload, 1) := by decide +kernel
theorem dX8_figure_58 : decode cX8_figure 58 = .ok (.bipush 48, 2) := by decide +kernel
theorem dX8_figure_60 : decode cX8_figure 60 = .ok (.isub, 1) := by decide +kernel
theorem dX8_figure_61 : decode cX8_figure 61 = .ok (.ireturn, 1) := by decide +kernel
theorem dX8_readOneTide_0 : decode cX8_readOneTide 0 = .ok (.aload_n 0, 1) := by decide +kernel
theorem dX8_readOneTide_1 : decode cX8_readOneTide 1 = .ok (.iconst 0, 1) := by decide +kernel
theorem dX8_readOneTide_2 : decode cX8_readOneTide 2 = .ok (.bipush 9, 2) := by decide +kernel
theorem dX8_readOneTide_4 : decode cX8_readOneTide 4 = .ok (.invokevirtual 84, 3) := by decide +kernel
theorem dX8_readOneTide_7 : decode cX8_readOneTide 7 = .ok (.istore_n 1, 1) := by decide +kernel
theorem dX8_readOneTide_8 : decode cX8_readOneTide 8 = .ok (.iload_n 1, 1) := by decide +kernel
theorem dX8_readOneTide_9 : decode cX8_readOneTide 9 = .ok (.bipush (-9), 2) := by decide +kernel
theorem dX8_readOneTide_11 : decode cX8_readOneTide 11 = .ok (.if_icmp .ne 5, 3) := by decide +kernel
theorem dX8_readOneTide_14 : decode cX8_readOneTide 14 = .ok (.iconst 0, 1) := by decide +kernel
theorem dX8_readOneTide_15 : decode cX8_readOneTide 15 = .ok (.ireturn, 1) := by decide +kernel
theorem dX8_readOneTide_16 : decode cX8_readOneTide 16 = .ok (.aload_n 0, 1) := by decide +kernel
theorem dX8_readOneTide_17 : decode cX8_readOneTide 17 = .ok (.getfield 22, 3) := by decide +kernel
theorem dX8_readOneTide_20 : decode cX8_readOneTide 20 = .ok (.aload_n 0, 1) := by decide +kernel
theorem dX8_readOneTide_21 : decode cX8_readOneTide 21 = .ok (.getfield 88, 3) := by decide +kernel
theorem dX8_readOneTide_24 : decode cX8_readOneTide 24 = .ok (.iload_n 1, 1) := by decide +kernel
theorem dX8_readOneTide_25 : decode cX8_readOneTide 25 = .ok (.iastore, 1) := by decide +kernel
theorem dX8_readOneTide_26 : decode cX8_readOneTide 26 = .ok (.aload_n 0, 1) := by decide +kernel
theorem dX8_readOneTide_27 : decode cX8_readOneTide 27 = .ok (.dup, 1) := by decide +kernel
theorem dX8_readOneTide_28 : decode cX8_readOneTide 28 = .ok (.getfield 88, 3) := by decide +kernel
theorem dX8_readOneTide_31 : decode cX8_readOneTide 31 = .ok (.iconst 1, 1) := by decide +kernel
theorem dX8_readOneTide_32 : decode cX8_readOneTide 32 = .ok (.iadd, 1) := by decide +kernel
theorem dX8_readOneTide_33 : decode cX8_readOneTide 33 = .ok (.putfield 88, 3) := by decide +kernel
theorem dX8_readOneTide_36 : decode cX8_readOneTide 36 = .ok (.iconst 1, 1) := by decide +kernel
theorem dX8_readOneTide_37 : decode cX8_readOneTide 37 = .ok (.ireturn, 1) := by decide +kernel
theorem dX8_readOneBerth_0 : decode cX8_readOneBerth 0 = .ok (.aload_n 0, 1) := by decide +kernel
theorem dX8_readOneBerth_1 : decode cX8_readOneBerth 1 = .ok (.iconst 0, 1) := by decide +kernel
theorem dX8_readOneBerth_2 : decode cX8_readOneBerth 2 = .ok (.bipush 9, 2) := by decide +kernel
theorem dX8_readOneBerth_4 : decode cX8_readOneBerth 4 = .ok (.invokevirtual 84, 3) := by decide +kernel
theorem dX8_readOneBerth_7 : decode cX8_readOneBerth 7 = .ok (.istore_n 1, 1) := by decide +kernel
theorem dX8_readOneBerth_8 : decode cX8_readOneBerth 8 = .ok (.iload_n 1, 1) := by decide +kernel
theorem dX8_readOneBerth_9 : decode cX8_readOneBerth 9 = .ok (.bipush (-9), 2) := by decide +kernel
theorem dX8_readOneBerth_11 : decode cX8_readOneBerth 11 = .ok (.if_icmp .ne 8, 3) := by decide +kernel
theorem dX8_readOneBerth_14 : decode cX8_readOneBerth 14 = .ok (.bipush (-9), 2) := by decide +kernel
theorem dX8_readOneBerth_16 : decode cX8_readOneBerth 16 = .ok (.goto 9, 3) := by decide +kernel
theorem dX8_readOneBerth_19 : decode cX8_readOneBerth 19 = .ok (.aload_n 0, 1) := by decide +kernel
theorem dX8_readOneBerth_20 : decode cX8_readOneBerth 20 = .ok (.iconst 0, 1) := by decide +kernel
theorem dX8_readOneBerth_21 : decode cX8_readOneBerth 21 = .ok (.iconst 3, 1) := by decide +kernel
theorem dX8_readOneBerth_22 : decode cX8_readOneBerth 22 = .ok (.invokevirtual 84, 3) := by decide +kernel
theorem dX8_readOneBerth_25 : decode cX8_readOneBerth 25 = .ok (.istore_n 2, 1) := by decide +kernel
theorem dX8_readOneBerth_26 : decode cX8_readOneBerth 26 = .ok (.iload_n 2, 1) := by decide +kernel
theorem dX8_readOneBerth_27 : decode cX8_readOneBerth 27 = .ok (.bipush (-9), 2) := by decide +kernel
theorem dX8_readOneBerth_29 : decode cX8_readOneBerth 29 = .ok (.if_icmp .ne 5, 3) := by decide +kernel
theorem dX8_readOneBerth_32 : decode cX8_readOneBerth 32 = .ok (.iconst 0, 1) := by decide +kernel
theorem dX8_readOneBerth_33 : decode cX8_readOneBerth 33 = .ok (.ireturn, 1) := by decide +kernel
theorem dX8_readOneBerth_34 : decode cX8_readOneBerth 34 = .ok (.aload_n 0, 1) := by decide +kernel
theorem dX8_readOneBerth_35 : decode cX8_readOneBerth 35 = .ok (.getfield 25, 3) := by decide +kernel
theorem dX8_readOneBerth_38 : decode cX8_readOneBerth 38 = .ok (.iconst 2, 1) := by decide +kernel
theorem dX8_readOneBerth_39 : decode cX8_readOneBerth 39 = .ok (.aload_n 0, 1) := by decide +kernel
theorem dX8_readOneBerth_40 : decode cX8_readOneBerth 40 = .ok (.getfield 91, 3) := by decide +kernel
theorem dX8_readOneBerth_43 : decode cX8_readOneBerth 43 = .ok (.imul, 1) := by decide +kernel
theorem dX8_readOneBerth_44 : decode cX8_readOneBerth 44 = .ok (.iload_n 1, 1) := by decide +kernel
theorem dX8_readOneBerth_45 : decode cX8_readOneBerth 45 = .ok (.iastore, 1) := by decide +kernel
theorem dX8_readOneBerth_46 : decode cX8_readOneBerth 46 = .ok (.aload_n 0, 1) := by decide +kernel
theorem dX8_readOneBerth_47 : decode cX8_readOneBerth 47 = .ok (.getfield 25, 3) := by decide +kernel
theorem dX8_readOneBerth_50 : decode cX8_readOneBerth 50 = .ok (.iconst 2, 1) := by decide +kernel
theorem dX8_readOneBerth_51 : decode cX8_readOneBerth 51 = .ok (.aload_n 0, 1) := by decide +kernel
theorem dX8_readOneBerth_52 : decode cX8_readOneBerth 52 = .ok (.getfield 91, 3) := by decide +kernel
theorem dX8_readOneBerth_55 : decode cX8_readOneBerth 55 = .ok (.imul, 1) := by decide +kernel
theorem dX8_readOneBerth_56 : decode cX8_readOneBerth 56 = .ok (.iconst 1, 1) := by decide +kernel
theorem dX8_readOneBerth_57 : decode cX8_readOneBerth 57 = .ok (.iadd, 1) := by decide +kernel
theorem dX8_readOneBerth_58 : decode cX8_readOneBerth 58 = .ok (.iload_n 2, 1) := by decide +kernel
theorem dX8_readOneBerth_59 : decode cX8_readOneBerth 59 = .ok (.iastore, 1) := by decide +kernel
theorem dX8_readOneBerth_60 : decode cX8_readOneBerth 60 = .ok (.aload_n 0, 1) := by decide +kernel
theorem dX8_readOneBerth_61 : decode cX8_readOneBerth 61 = .ok (.dup, 1) := by decide +kernel
theorem dX8_readOneBerth_62 : decode cX8_readOneBerth 62 = .ok (.getfield 91, 3) := by decide +kernel
theorem dX8_readOneBerth_65 : decode cX8_readOneBerth 65 = .ok (.iconst 1, 1) := by decide +kernel
theorem dX8_readOneBerth_66 : decode cX8_readOneBerth 66 = .ok (.iadd, 1) := by decide +kernel
theorem dX8_readOneBerth_67 : decode cX8_readOneBerth 67 = .ok (.putfield 91, 3) := by decide +kernel
theorem dX8_readOneBerth_70 : decode cX8_readOneBerth 70 = .ok (.iconst 1, 1) := by decide +kernel
theorem dX8_readOneBerth_71 : decode cX8_readOneBerth 71 = .ok (.ireturn, 1) := by decide +kernel
theorem dX8_readOneDream_0 : decode cX8_readOneDream 0 = .ok (.aload_n 0, 1) := by decide +kernel
theorem dX8_readOneDream_1 : decode cX8_readOneDream 1 = .ok (.iconst 1, 1) := by decide +kernel
theorem dX8_readOneDream_2 : decode cX8_readOneDream 2 = .ok (.bipush 9, 2) := by decide +kernel
theorem dX8_readOneDream_4 : decode cX8_readOneDream 4 = .ok (.invokevirtual 84, 3) := by decide +kernel
theorem dX8_readOneDream_7 : decode cX8_readOneDream 7 = .ok (.istore_n 1, 1) := by decide +kernel
theorem dX8_readOneDream_8 : decode cX8_readOneDream 8 = .ok (.iload_n 1, 1) := by decide +kernel
theorem dX8_readOneDream_9 : decode cX8_readOneDream 9 = .ok (.bipush (-9), 2) := by decide +kernel
theorem dX8_readOneDream_11 : decode cX8_readOneDream 11 = .ok (.if_icmp .ne 8, 3) := by decide +kernel
theorem dX8_readOneDream_14 : decode cX8_readOneDream 14 = .ok (.bipush (-9), 2) := by decide +kernel
theorem dX8_readOneDream_16 : decode cX8_readOneDream 16 = .ok (.goto 9, 3) := by decide +kernel
theorem dX8_readOneDream_19 : decode cX8_readOneDream 19 = .ok (.aload_n 0, 1) := by decide +kernel
theorem dX8_readOneDream_20 : decode cX8_readOneDream 20 = .ok (.iconst 0, 1) := by decide +kernel
theorem dX8_readOneDream_21 : decode cX8_readOneDream 21 = .ok (.iconst 3, 1) := by decide +kernel
theorem dX8_readOneDream_22 : decode cX8_readOneDream 22 = .ok (.invokevirtual 84, 3) := by decide +kernel
theorem dX8_readOneDream_25 : decode cX8_readOneDream 25 = .ok (.istore_n 2, 1) := by decide +kernel
theorem dX8_readOneDream_26 : decode cX8_readOneDream 26 = .ok (.iload_n 2, 1) := by decide +kernel
theorem dX8_readOneDream_27 : decode cX8_readOneDream 27 = .ok (.bipush (-9), 2) := by decide +kernel
theorem dX8_readOneDream_29 : decode cX8_readOneDream 29 = .ok (.if_icmp .ne 5, 3) := by decide +kernel
theorem dX8_readOneDream_32 : decode cX8_readOneDream 32 = .ok (.iconst 0, 1) := by decide +kernel
theorem dX8_readOneDream_33 : decode cX8_readOneDream 33 = .ok (.ireturn, 1) := by decide +kernel
theorem dX8_readOneDream_34 : decode cX8_readOneDream 34 = .ok (.aload_n 0, 1) := by decide +kernel
theorem dX8_readOneDream_35 : decode cX8_readOneDream 35 = .ok (.getfield 28, 3) := by decide +kernel
theorem dX8_readOneDream_38 : decode cX8_readOneDream 38 = .ok (.iconst 2, 1) := by decide +kernel
theorem dX8_readOneDream_39 : decode cX8_readOneDream 39 = .ok (.aload_n 0, 1) := by decide +kernel
theorem dX8_readOneDream_40 : decode cX8_readOneDream 40 = .ok (.getfield 94, 3) := by decide +kernel
theorem dX8_readOneDream_43 : decode cX8_readOneDream 43 = .ok (.imul, 1) := by decide +kernel
theorem dX8_readOneDream_44 : decode cX8_readOneDream 44 = .ok (.iload_n 1, 1) := by decide +kernel
theorem dX8_readOneDream_45 : decode cX8_readOneDream 45 = .ok (.iastore, 1) := by decide +kernel
theorem dX8_readOneDream_46 : decode cX8_readOneDream 46 = .ok (.aload_n 0, 1) := by decide +kernel
theorem dX8_readOneDream_47 : decode cX8_readOneDream 47 = .ok (.getfield 28, 3) := by decide +kernel
theorem dX8_readOneDream_50 : decode cX8_readOneDream 50 = .ok (.iconst 2, 1) := by decide +kernel
theorem dX8_readOneDream_51 : decode cX8_readOneDream 51 = .ok (.aload_n 0, 1) := by decide +kernel
theorem dX8_readOneDream_52 : decode cX8_readOneDream 52 = .ok (.getfield 94, 3) := by decide +kernel
theorem dX8_readOneDream_55 : decode cX8_readOneDream 55 = .ok (.imul, 1) := by decide +kernel
theorem dX8_readOneDream_56 : decode cX8_readOneDream 56 = .ok (.iconst 1, 1) := by decide +kernel
theorem dX8_readOneDream_57 : decode cX8_readOneDream 57 = .ok (.iadd, 1) := by decide +kernel
theorem dX8_readOneDream_58 : decode cX8_readOneDream 58 = .ok (.iload_n 2, 1) := by decide +kernel
theorem dX8_readOneDream_59 : decode cX8_readOneDream 59 = .ok (.iastore, 1) := by decide +kernel
theorem dX8_readOneDream_60 : decode cX8_readOneDream 60 = .ok (.aload_n 0, 1) := by decide +kernel
theorem dX8_readOneDream_61 : decode cX8_readOneDream 61 = .ok (.dup, 1) := by decide +kernel
theorem dX8_readOneDream_62 : decode cX8_readOneDream 62 = .ok (.getfield 94, 3) := by decide +kernel
theorem dX8_readOneDream_65 : decode cX8_readOneDream 65 = .ok (.iconst 1, 1) := by decide +kernel
theorem dX8_readOneDream_66 : decode cX8_readOneDream 66 = .ok (.iadd, 1) := by decide +kernel
theorem dX8_readOneDream_67 : decode cX8_readOneDream 67 = .ok (.putfield 94, 3) := by decide +kernel
theorem dX8_readOneDream_70 : decode cX8_readOneDream 70 = .ok (.iconst 1, 1) := by decide +kernel
theorem dX8_readOneDream_71 : decode cX8_readOneDream 71 = .ok (.ireturn, 1) := by decide +kernel
theorem dX8_readThing_0 : decode cX8_readThing 0 = .ok (.aload_n 0, 1) := by decide +kernel
theorem dX8_readThing_1 : decode cX8_readThing 1 = .ok (.getfield 7, 3) := by decide +kernel
theorem dX8_readThing_4 : decode cX8_readThing 4 = .ok (.aload_n 0, 1) := by decide +kernel
theorem dX8_readThing_5 : decode cX8_readThing 5 = .ok (.getfield 81, 3) := by decide +kernel
theorem dX8_readThing_8 : decode cX8_readThing 8 = .ok (.iaload, 1) := by decide +kernel
theorem dX8_readThing_9 : decode cX8_readThing 9 = .ok (.istore_n 1, 1) := by decide +kernel
theorem dX8_readThing_10 : decode cX8_readThing 10 = .ok (.aload_n 0, 1) := by decide +kernel
theorem dX8_readThing_11 : decode cX8_readThing 11 = .ok (.dup, 1) := by decide +kernel
theorem dX8_readThing_12 : decode cX8_readThing 12 = .ok (.getfield 81, 3) := by decide +kernel
theorem dX8_readThing_15 : decode cX8_readThing 15 = .ok (.iconst 1, 1) := by decide +kernel
theorem dX8_readThing_16 : decode cX8_readThing 16 = .ok (.iadd, 1) := by decide +kernel
theorem dX8_readThing_17 : decode cX8_readThing 17 = .ok (.putfield 81, 3) := by decide +kernel
theorem dX8_readThing_20 : decode cX8_readThing 20 = .ok (.iload_n 1, 1) := by decide +kernel
theorem dX8_readThing_21 : decode cX8_readThing 21 = .ok (.bipush 84, 2) := by decide +kernel
theorem dX8_readThing_23 : decode cX8_readThing 23 = .ok (.if_icmp .ne 16, 3) := by decide +kernel
theorem dX8_readThing_26 : decode cX8_readThing 26 = .ok (.aload_n 0, 1) := by decide +kernel
theorem dX8_readThing_27 : decode cX8_readThing 27 = .ok (.getfield 88, 3) := by decide +kernel
theorem dX8_readThing_30 : decode cX8_readThing 30 = .ok (.iconst 4, 1) := by decide +kernel
theorem dX8_readThing_31 : decode cX8_readThing 31 = .ok (.if_icmp .ge 8, 3) := by decide +kernel
theorem dX8_readThing_34 : decode cX8_readThing 34 = .ok (.aload_n 0, 1) := by decide +kernel
theorem dX8_readThing_35 : decode cX8_readThing 35 = .ok (.invokevirtual 97, 3) := by decide +kernel
theorem dX8_readThing_38 : decode cX8_readThing 38 = .ok (.ireturn, 1) := by decide +kernel
theorem dX8_readThing_39 : decode cX8_readThing 39 = .ok (.iload_n 1, 1) := by decide +kernel
theorem dX8_readThing_40 : decode cX8_readThing 40 = .ok (.bipush 66, 2) := by decide +kernel
theorem dX8_readThing_42 : decode cX8_readThing 42 = .ok (.if_icmp .ne 16, 3) := by decide +kernel
theorem dX8_readThing_45 : decode cX8_readThing 45 = .ok (.aload_n 0, 1) := by decide +kernel
theorem dX8_readThing_46 : decode cX8_readThing 46 = .ok (.getfield 91, 3) := by decide +kernel
theorem dX8_readThing_49 : decode cX8_readThing 49 = .ok (.iconst 4, 1) := by decide +kernel
theorem dX8_readThing_50 : decode cX8_readThing 50 = .ok (.if_icmp .ge 8, 3) := by decide +kernel
theorem dX8_readThing_53 : decode cX8_readThing 53 = .ok (.aload_n 0, 1) := by decide +kernel
theorem dX8_readThing_54 : decode cX8_readThing 54 = .ok (.invokevirtual 101, 3) := by decide +kernel
theorem dX8_readThing_57 : decode cX8_readThing 57 = .ok (.ireturn, 1) := by decide +kernel
theorem dX8_readThing_58 : decode cX8_readThing 58 = .ok (.iload_n 1, 1) := by decide +kernel
theorem dX8_readThing_59 : decode cX8_readThing 59 = .ok (.bipush 68, 2) := by decide +kernel
theorem dX8_readThing_61 : decode cX8_readThing 61 = .ok (.if_icmp .ne 16, 3) := by decide +kernel
theorem dX8_readThing_64 : decode cX8_readThing 64 = .ok (.aload_n 0, 1) := by decide +kernel
theorem dX8_readThing_65 : decode cX8_readThing 65 = .ok (.getfield 94, 3) := by decide +kernel
theorem dX8_readThing_68 : decode cX8_readThing 68 = .ok (.iconst 5, 1) := by decide +kernel
theorem dX8_readThing_69 : decode cX8_readThing 69 = .ok (.if_icmp .ge 8, 3) := by decide +kernel
theorem dX8_readThing_72 : decode cX8_readThing 72 = .ok (.aload_n 0, 1) := by decide +kernel
theorem dX8_readThing_73 : decode cX8_readThing 73 = .ok (.invokevirtual 104, 3) := by decide +kernel
theorem dX8_readThing_76 : decode cX8_readThing 76 = .ok (.ireturn, 1) := by decide +kernel
theorem dX8_readThing_77 : decode cX8_readThing 77 = .ok (.aload_n 0, 1) := by decide +kernel
theorem dX8_readThing_78 : decode cX8_readThing 78 = .ok (.dup, 1) := by decide +kernel
theorem dX8_readThing_79 : decode cX8_readThing 79 = .ok (.getfield 81, 3) := by decide +kernel
theorem dX8_readThing_82 : decode cX8_readThing 82 = .ok (.iconst 1, 1) := by decide +kernel
theorem dX8_readThing_83 : decode cX8_readThing 83 = .ok (.isub, 1) := by decide +kernel
theorem dX8_readThing_84 : decode cX8_readThing 84 = .ok (.putfield 81, 3) := by decide +kernel
theorem dX8_readThing_87 : decode cX8_readThing 87 = .ok (.iconst 0, 1) := by decide +kernel
theorem dX8_readThing_88 : decode cX8_readThing 88 = .ok (.ireturn, 1) := by decide +kernel
theorem dX8_readPort_0 : decode cX8_readPort 0 = .ok (.aload_n 0, 1) := by decide +kernel
theorem dX8_readPort_1 : decode cX8_readPort 1 = .ok (.iconst 0, 1) := by decide +kernel
theorem dX8_readPort_2 : decode cX8_readPort 2 = .ok (.putfield 81, 3) := by decide +kernel
theorem dX8_readPort_5 : decode cX8_readPort 5 = .ok (.aload_n 0, 1) := by decide +kernel
theorem dX8_readPort_6 : decode cX8_readPort 6 = .ok (.iconst 0, 1) := by decide +kernel
theorem dX8_readPort_7 : decode cX8_readPort 7 = .ok (.putfield 88, 3) := by decide +kernel
theorem dX8_readPort_10 : decode cX8_readPort 10 = .ok (.aload_n 0, 1) := by decide +kernel
theorem dX8_readPort_11 : decode cX8_readPort 11 = .ok (.iconst 0, 1) := by decide +kernel
theorem dX8_readPort_12 : decode cX8_readPort 12 = .ok (.putfield 91, 3) := by decide +kernel
theorem dX8_readPort_15 : decode cX8_readPort 15 = .ok (.aload_n 0, 1) := by decide +kernel
theorem dX8_readPort_16 : decode cX8_readPort 16 = .ok (.iconst 0, 1) := by decide +kernel
theorem dX8_readPort_17 : decode cX8_readPort 17 = .ok (.putfield 94, 3) := by decide +kernel
theorem dX8_readPort_20 : decode cX8_readPort 20 = .ok (.aload_n 0, 1) := by decide +kernel
theorem dX8_readPort_21 : decode cX8_readPort 21 = .ok (.getfield 78, 3) := by decide +kernel
theorem dX8_readPort_24 : decode cX8_readPort 24 = .ok (.ifCond .eq 14, 3) := by decide +kernel
theorem dX8_readPort_27 : decode cX8_readPort 27 = .ok (.aload_n 0, 1) := by decide +kernel
theorem dX8_readPort_28 : decode cX8_readPort 28 = .ok (.getfield 7, 3) := by decide +kernel
theorem dX8_readPort_31 : decode cX8_readPort 31 = .ok (.iconst 0, 1) := by decide +kernel
theorem dX8_readPort_32 : decode cX8_readPort 32 = .ok (.iaload, 1) := by decide +kernel
theorem dX8_readPort_33 : decode cX8_readPort 33 = .ok (.bipush 72, 2) := by decide +kernel
theorem dX8_readPort_35 : decode cX8_readPort 35 = .ok (.if_icmp .eq 5, 3) := by decide +kernel
theorem dX8_readPort_38 : decode cX8_readPort 38 = .ok (.iconst 0, 1) := by decide +kernel
theorem dX8_readPort_39 : decode cX8_readPort 39 = .ok (.ireturn, 1) := by decide +kernel
theorem dX8_readPort_40 : decode cX8_readPort 40 = .ok (.aload_n 0, 1) := by decide +kernel
theorem dX8_readPort_41 : decode cX8_readPort 41 = .ok (.iconst 1, 1) := by decide +kernel
theorem dX8_readPort_42 : decode cX8_readPort 42 = .ok (.putfield 81, 3) := by decide +kernel
theorem dX8_readPort_45 : decode cX8_readPort 45 = .ok (.aload_n 0, 1) := by decide +kernel
theorem dX8_readPort_46 : decode cX8_readPort 46 = .ok (.getfield 81, 3) := by decide +kernel
theorem dX8_readPort_49 : decode cX8_readPort 49 = .ok (.aload_n 0, 1) := by decide +kernel
theorem dX8_readPort_50 : decode cX8_readPort 50 = .ok (.getfield 78, 3) := by decide +kernel
theorem dX8_readPort_53 : decode cX8_readPort 53 = .ok (.if_icmp .ge 15, 3) := by decide +kernel
theorem dX8_readPort_56 : decode cX8_readPort 56 = .ok (.aload_n 0, 1) := by decide +kernel
theorem dX8_readPort_57 : decode cX8_readPort 57 = .ok (.invokevirtual 107, 3) := by decide +kernel
theorem dX8_readPort_60 : decode cX8_readPort 60 = .ok (.ifCond .ne (-15), 3) := by decide +kernel
theorem dX8_readPort_63 : decode cX8_readPort 63 = .ok (.aload_n 0, 1) := by decide +kernel
theorem dX8_readPort_64 : decode cX8_readPort 64 = .ok (.getfield 81, 3) := by decide +kernel
theorem dX8_readPort_67 : decode cX8_readPort 67 = .ok (.ireturn, 1) := by decide +kernel
theorem dX8_readPort_68 : decode cX8_readPort 68 = .ok (.bipush (-9), 2) := by decide +kernel
theorem dX8_readPort_70 : decode cX8_readPort 70 = .ok (.ireturn, 1) := by decide +kernel
theorem dX8_fault_0 : decode cX8_fault 0 = .ok (.aload_n 0, 1) := by decide +kernel
theorem dX8_fault_1 : decode cX8_fault 1 = .ok (.iconst 0, 1) := by decide +kernel
theorem dX8_fault_2 : decode cX8_fault 2 = .ok (.putfield 62, 3) := by decide +kernel
theorem dX8_fault_5 : decode cX8_fault 5 = .ok (.aload_n 0, 1) := by decide +kernel
theorem dX8_fault_6 : decode cX8_fault 6 = .ok (.invokevirtual 110, 3) := by decide +kernel
theorem dX8_fault_9 : decode cX8_fault 9 = .ok (.ireturn, 1) := by decide +kernel
theorem dX8_port_0 : decode cX8_port 0 = .ok (.aload_n 0, 1) := by decide +kernel
theorem dX8_port_1 : decode cX8_port 1 = .ok (.iconst 0, 1) := by decide +kernel
theorem dX8_port_2 : decode cX8_port 2 = .ok (.putfield 62, 3) := by decide +kernel
theorem dX8_port_5 : decode cX8_port 5 = .ok (.aload_n 0, 1) := by decide +kernel
theorem dX8_port_6 : decode cX8_port 6 = .ok (.invokevirtual 110, 3) := by decide +kernel
theorem dX8_port_9 : decode cX8_port 9 = .ok (.bipush (-9), 2) := by decide +kernel
theorem dX8_port_11 : decode cX8_port 11 = .ok (.if_icmp .eq 6, 3) := by decide +kernel
theorem dX8_port_14 : decode cX8_port 14 = .ok (.bipush (-3), 2) := by decide +kernel
theorem dX8_port_16 : decode cX8_port 16 = .ok (.ireturn, 1) := by decide +kernel
theorem dX8_port_17 : decode cX8_port 17 = .ok (.aload_n 0, 1) := by decide +kernel
theorem dX8_port_18 : decode cX8_port 18 = .ok (.aload_n 0, 1) := by decide +kernel
theorem dX8_port_19 : decode cX8_port 19 = .ok (.getfield 88, 3) := by decide +kernel
theorem dX8_port_22 : decode cX8_port 22 = .ok (.putfield 114, 3) := by decide +kernel
theorem dX8_port_25 : decode cX8_port 25 = .ok (.aload_n 0, 1) := by decide +kernel
theorem dX8_port_26 : decode cX8_port 26 = .ok (.aload_n 0, 1) := by decide +kernel
theorem dX8_port_27 : decode cX8_port 27 = .ok (.getfield 91, 3) := by decide +kernel
theorem dX8_port_30 : decode cX8_port 30 = .ok (.putfield 66, 3) := by decide +kernel
theorem dX8_port_33 : decode cX8_port 33 = .ok (.aload_n 0, 1) := by decide +kernel
theorem dX8_port_34 : decode cX8_port 34 = .ok (.aload_n 0, 1) := by decide +kernel
theorem dX8_port_35 : decode cX8_port 35 = .ok (.getfield 94, 3) := by decide +kernel
theorem dX8_port_38 : decode cX8_port 38 = .ok (.putfield 73, 3) := by decide +kernel
theorem dX8_port_41 : decode cX8_port 41 = .ok (.iconst 0, 1) := by decide +kernel
theorem dX8_port_42 : decode cX8_port 42 = .ok (.istore_n 1, 1) := by decide +kernel
theorem dX8_port_43 : decode cX8_port 43 = .ok (.iload_n 1, 1) := by decide +kernel
theorem dX8_port_44 : decode cX8_port 44 = .ok (.bipush 24, 2) := by decide +kernel
theorem dX8_port_46 : decode cX8_port 46 = .ok (.if_icmp .ge 16, 3) := by decide +kernel
theorem dX8_port_49 : decode cX8_port 49 = .ok (.aload_n 0, 1) := by decide +kernel
theorem dX8_port_50 : decode cX8_port 50 = .ok (.getfield 31, 3) := by decide +kernel
theorem dX8_port_53 : decode cX8_port 53 = .ok (.iload_n 1, 1) := by decide +kernel
theorem dX8_port_54 : decode cX8_port 54 = .ok (.iconst 0, 1) := by decide +kernel
theorem dX8_port_55 : decode cX8_port 55 = .ok (.iastore, 1) := by decide +kernel
theorem dX8_port_56 : decode cX8_port 56 = .ok (.iinc 1 1, 3) := by decide +kernel
theorem dX8_port_59 : decode cX8_port 59 = .ok (.goto (-16), 3) := by decide +kernel
theorem dX8_port_62 : decode cX8_port 62 = .ok (.iconst 0, 1) := by decide +kernel
theorem dX8_port_63 : decode cX8_port 63 = .ok (.istore_n 1, 1) := by decide +kernel
theorem dX8_port_64 : decode cX8_port 64 = .ok (.iload_n 1, 1) := by decide +kernel
theorem dX8_port_65 : decode cX8_port 65 = .ok (.aload_n 0, 1) := by decide +kernel
theorem dX8_port_66 : decode cX8_port 66 = .ok (.getfield 114, 3) := by decide +kernel
theorem dX8_port_69 : decode cX8_port 69 = .ok (.if_icmp .ge 21, 3) := by decide +kernel
theorem dX8_port_72 : decode cX8_port 72 = .ok (.aload_n 0, 1) := by decide +kernel
theorem dX8_port_73 : decode cX8_port 73 = .ok (.getfield 13, 3) := by decide +kernel
theorem dX8_port_76 : decode cX8_port 76 = .ok (.iload_n 1, 1) := by decide +kernel
theorem dX8_port_77 : decode cX8_port 77 = .ok (.aload_n 0, 1) := by decide +kernel
theorem dX8_port_78 : decode cX8_port 78 = .ok (.getfield 22, 3) := by decide +kernel
theorem dX8_port_81 : decode cX8_port 81 = .ok (.iload_n 1, 1) := by decide +kernel
theorem dX8_port_82 : decode cX8_port 82 = .ok (.iaload, 1) := by decide +kernel
theorem dX8_port_83 : decode cX8_port 83 = .ok (.iastore, 1) := by decide +kernel
theorem dX8_port_84 : decode cX8_port 84 = .ok (.iinc 1 1, 3) := by decide +kernel
theorem dX8_port_87 : decode cX8_port 87 = .ok (.goto (-23), 3) := by decide +kernel
theorem dX8_port_90 : decode cX8_port 90 = .ok (.iconst 0, 1) := by decide +kernel
theorem dX8_port_91 : decode cX8_port 91 = .ok (.istore_n 1, 1) := by decide +kernel
theorem dX8_port_92 : decode cX8_port 92 = .ok (.iload_n 1, 1) := by decide +kernel
theorem dX8_port_93 : decode cX8_port 93 = .ok (.aload_n 0, 1) := by decide +kernel
theorem dX8_port_94 : decode cX8_port 94 = .ok (.getfield 66, 3) := by decide +kernel
theorem dX8_port_97 : decode cX8_port 97 = .ok (.if_icmp .ge 42, 3) := by decide +kernel
theorem dX8_port_100 : decode cX8_port 100 = .ok (.aload_n 0, 1) := by decide +kernel
theorem dX8_port_101 : decode cX8_port 101 = .ok (.getfield 31, 3) := by decide +kernel
theorem dX8_port_104 : decode cX8_port 104 = .ok (.bipush 15, 2) := by decide +kernel
theorem dX8_port_106 : decode cX8_port 106 = .ok (.iload_n 1, 1) := by decide +kernel
theorem dX8_port_107 : decode cX8_port 107 = .ok (.iadd, 1) := by decide +kernel
theorem dX8_port_108 : decode cX8_port 108 = .ok (.aload_n 0, 1) := by decide +kernel
theorem dX8_port_109 : decode cX8_port 109 = .ok (.getfield 25, 3) := by decide +kernel
theorem dX8_port_112 : decode cX8_port 112 = .ok (.iconst 2, 1) := by decide +kernel
theorem dX8_port_113 : decode cX8_port 113 = .ok (.iload_n 1, 1) := by decide +kernel
theorem dX8_port_114 : decode cX8_port 114 = .ok (.imul, 1) := by decide +kernel
theorem dX8_port_115 : decode cX8_port 115 = .ok (.iaload, 1) := by decide +kernel
theorem dX8_port_116 : decode cX8_port 116 = .ok (.iastore, 1) := by decide +kernel
theorem dX8_port_117 : decode cX8_port 117 = .ok (.aload_n 0, 1) := by decide +kernel
theorem dX8_port_118 : decode cX8_port 118 = .ok (.getfield 16, 3) := by decide +kernel
theorem dX8_port_121 : decode cX8_port 121 = .ok (.iload_n 1, 1) := by decide +kernel
theorem dX8_port_122 : decode cX8_port 122 = .ok (.aload_n 0, 1) := by decide +kernel
theorem dX8_port_123 : decode cX8_port 123 = .ok (.getfield 25, 3) := by decide +kernel
theorem dX8_port_126 : decode cX8_port 126 = .ok (.iconst 2, 1) := by decide +kernel
theorem dX8_port_127 : decode cX8_port 127 = .ok (.iload_n 1, 1) := by decide +kernel
theorem dX8_port_128 : decode cX8_port 128 = .ok (.imul, 1) := by decide +kernel
theorem dX8_port_129 : decode cX8_port 129 = .ok (.iconst 1, 1) := by decide +kernel
theorem dX8_port_130 : decode cX8_port 130 = .ok (.iadd, 1) := by decide +kernel
theorem dX8_port_131 : decode cX8_port 131 = .ok (.iaload, 1) := by decide +kernel
theorem dX8_port_132 : decode cX8_port 132 = .ok (.iastore, 1) := by decide +kernel
theorem dX8_port_133 : decode cX8_port 133 = .ok (.iinc 1 1, 3) := by decide +kernel
theorem dX8_port_136 : decode cX8_port 136 = .ok (.goto (-44), 3) := by decide +kernel
theorem dX8_port_139 : decode cX8_port 139 = .ok (.iconst 0, 1) := by decide +kernel
theorem dX8_port_140 : decode cX8_port 140 = .ok (.istore_n 1, 1) := by decide +kernel
theorem dX8_port_141 : decode cX8_port 141 = .ok (.iload_n 1, 1) := by decide +kernel
theorem dX8_port_142 : decode cX8_port 142 = .ok (.aload_n 0, 1) := by decide +kernel
theorem dX8_port_143 : decode cX8_port 143 = .ok (.getfield 73, 3) := by decide +kernel
theorem dX8_port_146 : decode cX8_port 146 = .ok (.if_icmp .ge 50, 3) := by decide +kernel
theorem dX8_port_149 : decode cX8_port 149 = .ok (.aload_n 0, 1) := by decide +kernel
theorem dX8_port_150 : decode cX8_port 150 = .ok (.getfield 31, 3) := by decide +kernel
theorem dX8_port_153 : decode cX8_port 153 = .ok (.iload_n 1, 1) := by decide +kernel
theorem dX8_port_154 : decode cX8_port 154 = .ok (.bipush 8, 2) := by decide +kernel
theorem dX8_port_156 : decode cX8_port 156 = .ok (.iastore, 1) := by decide +kernel
theorem dX8_port_157 : decode cX8_port 157 = .ok (.aload_n 0, 1) := by decide +kernel
theorem dX8_port_158 : decode cX8_port 158 = .ok (.getfield 31, 3) := by decide +kernel
theorem dX8_port_161 : decode cX8_port 161 = .ok (.bipush 10, 2) := by decide +kernel
theorem dX8_port_163 : decode cX8_port 163 = .ok (.iload_n 1, 1) := by decide +kernel
theorem dX8_port_164 : decode cX8_port 164 = .ok (.iadd, 1) := by decide +kernel
theorem dX8_port_165 : decode cX8_port 165 = .ok (.aload_n 0, 1) := by decide +kernel
theorem dX8_port_166 : decode cX8_port 166 = .ok (.getfield 28, 3) := by decide +kernel
theorem dX8_port_169 : decode cX8_port 169 = .ok (.iconst 2, 1) := by decide +kernel
theorem dX8_port_170 : decode cX8_port 170 = .ok (.iload_n 1, 1) := by decide +kernel
theorem dX8_port_171 : decode cX8_port 171 = .ok (.imul, 1) := by decide +kernel
theorem dX8_port_172 : decode cX8_port 172 = .ok (.iaload, 1) := by decide +kernel
theorem dX8_port_173 : decode cX8_port 173 = .ok (.iastore, 1) := by decide +kernel
theorem dX8_port_174 : decode cX8_port 174 = .ok (.aload_n 0, 1) := by decide +kernel
theorem dX8_port_175 : decode cX8_port 175 = .ok (.getfield 19, 3) := by decide +kernel
theorem dX8_port_178 : decode cX8_port 178 = .ok (.iload_n 1, 1) := by decide +kernel
theorem dX8_port_179 : decode cX8_port 179 = .ok (.aload_n 0, 1) := by decide +kernel
theorem dX8_port_180 : decode cX8_port 180 = .ok (.getfield 28, 3) := by decide +kernel
theorem dX8_port_183 : decode cX8_port 183 = .ok (.iconst 2, 1) := by decide +kernel
theorem dX8_port_184 : decode cX8_port 184 = .ok (.iload_n 1, 1) := by decide +kernel
theorem dX8_port_185 : decode cX8_port 185 = .ok (.imul, 1) := by decide +kernel
theorem dX8_port_186 : decode cX8_port 186 = .ok (.iconst 1, 1) := by decide +kernel
theorem dX8_port_187 : decode cX8_port 187 = .ok (.iadd, 1) := by decide +kernel
theorem dX8_port_188 : decode cX8_port 188 = .ok (.iaload, 1) := by decide +kernel
theorem dX8_port_189 : decode cX8_port 189 = .ok (.iastore, 1) := by decide +kernel
theorem dX8_port_190 : decode cX8_port 190 = .ok (.iinc 1 1, 3) := by decide +kernel
theorem dX8_port_193 : decode cX8_port 193 = .ok (.goto (-52), 3) := by decide +kernel
theorem dX8_port_196 : decode cX8_port 196 = .ok (.aload_n 0, 1) := by decide +kernel
theorem dX8_port_197 : decode cX8_port 197 = .ok (.iconst 0, 1) := by decide +kernel
theorem dX8_port_198 : decode cX8_port 198 = .ok (.putfield 117, 3) := by decide +kernel
theorem dX8_port_201 : decode cX8_port 201 = .ok (.aload_n 0, 1) := by decide +kernel
theorem dX8_port_202 : decode cX8_port 202 = .ok (.getfield 43, 3) := by decide +kernel
theorem dX8_port_205 : decode cX8_port 205 = .ok (.iconst 0, 1) := by decide +kernel
theorem dX8_port_206 : decode cX8_port 206 = .ok (.iconst 0, 1) := by decide +kernel
theorem dX8_port_207 : decode cX8_port 207 = .ok (.bastore, 1) := by decide +kernel
theorem dX8_port_208 : decode cX8_port 208 = .ok (.aload_n 0, 1) := by decide +kernel
theorem dX8_port_209 : decode cX8_port 209 = .ok (.getfield 43, 3) := by decide +kernel
theorem dX8_port_212 : decode cX8_port 212 = .ok (.iconst 1, 1) := by decide +kernel
theorem dX8_port_213 : decode cX8_port 213 = .ok (.iconst 0, 1) := by decide +kernel
theorem dX8_port_214 : decode cX8_port 214 = .ok (.bastore, 1) := by decide +kernel
theorem dX8_port_215 : decode cX8_port 215 = .ok (.bipush 100, 2) := by decide +kernel
theorem dX8_port_217 : decode cX8_port 217 = .ok (.aload_n 0, 1) := by decide +kernel
theorem dX8_port_218 : decode cX8_port 218 = .ok (.getfield 114, 3) := by decide +kernel
theorem dX8_port_221 : decode cX8_port 221 = .ok (.imul, 1) := by decide +kernel
theorem dX8_port_222 : decode cX8_port 222 = .ok (.bipush 10, 2) := by decide +kernel
theorem dX8_port_224 : decode cX8_port 224 = .ok (.aload_n 0, 1) := by decide +kernel
theorem dX8_port_225 : decode cX8_port 225 = .ok (.getfield 66, 3) := by decide +kernel
theorem dX8_port_228 : decode cX8_port 228 = .ok (.imul, 1) := by decide +kernel
theorem dX8_port_229 : decode cX8_port 229 = .ok (.iadd, 1) := by decide +kernel
theorem dX8_port_230 : decode cX8_port 230 = .ok (.aload_n 0, 1) := by decide +kernel
theorem dX8_port_231 : decode cX8_port 231 = .ok (.getfield 73, 3) := by decide +kernel
theorem dX8_port_234 : decode cX8_port 234 = .ok (.iadd, 1) := by decide +kernel
theorem dX8_port_235 : decode cX8_port 235 = .ok (.ireturn, 1) := by decide +kernel
theorem dX8_tideOf_0 : decode cX8_tideOf 0 = .ok (.aload_n 0, 1) := by decide +kernel
theorem dX8_tideOf_1 : decode cX8_tideOf 1 = .ok (.getfield 114, 3) := by decide +kernel
theorem dX8_tideOf_4 : decode cX8_tideOf 4 = .ok (.ifCond .ne 7, 3) := by decide +kernel
theorem dX8_tideOf_7 : decode cX8_tideOf 7 = .ok (.iconst 0, 1) := by decide +kernel
theorem dX8_tideOf_8 : decode cX8_tideOf 8 = .ok (.goto 14, 3) := by decide +kernel
theorem dX8_tideOf_11 : decode cX8_tideOf 11 = .ok (.aload_n 0, 1) := by decide +kernel
theorem dX8_tideOf_12 : decode cX8_tideOf 12 = .ok (.getfield 13, 3) := by decide +kernel
theorem dX8_tideOf_15 : decode cX8_tideOf 15 = .ok (.iload_n 1, 1) := by decide +kernel
theorem dX8_tideOf_16 : decode cX8_tideOf 16 = .ok (.aload_n 0, 1) := by decide +kernel
theorem dX8_tideOf_17 : decode cX8_tideOf 17 = .ok (.getfield 114, 3) := by decide +kernel
theorem dX8_tideOf_20 : decode cX8_tideOf 20 = .ok (.irem, 1) := by decide +kernel
theorem dX8_tideOf_21 : decode cX8_tideOf 21 = .ok (.iaload, 1) := by decide +kernel
theorem dX8_tideOf_22 : decode cX8_tideOf 22 = .ok (.ireturn, 1) := by decide +kernel
theorem dX8_waterOf_0 : decode cX8_waterOf 0 = .ok (.aload_n 1, 1) := by decide +kernel
theorem dX8_waterOf_1 : decode cX8_waterOf 1 = .ok (.bipush 15, 2) := by decide +kernel
theorem dX8_waterOf_3 : decode cX8_waterOf 3 = .ok (.iload_n 2, 1) := by decide +kernel
theorem dX8_waterOf_4 : decode cX8_waterOf 4 = .ok (.iadd, 1) := by decide +kernel
theorem dX8_waterOf_5 : decode cX8_waterOf 5 = .ok (.iaload, 1) := by decide +kernel
theorem dX8_waterOf_6 : decode cX8_waterOf 6 = .ok (.aload_n 0, 1) := by decide +kernel
theorem dX8_waterOf_7 : decode cX8_waterOf 7 = .ok (.getfield 120, 3) := by decide +kernel
theorem dX8_waterOf_10 : decode cX8_waterOf 10 = .ok (.iload_n 2, 1) := by decide +kernel
theorem dX8_waterOf_11 : decode cX8_waterOf 11 = .ok (.invokestatic 123, 3) := by decide +kernel
theorem dX8_waterOf_14 : decode cX8_waterOf 14 = .ok (.ifCond .eq 7, 3) := by decide +kernel
theorem dX8_waterOf_17 : decode cX8_waterOf 17 = .ok (.iconst 0, 1) := by decide +kernel
theorem dX8_waterOf_18 : decode cX8_waterOf 18 = .ok (.goto 11, 3) := by decide +kernel
theorem dX8_waterOf_21 : decode cX8_waterOf 21 = .ok (.aload_n 0, 1) := by decide +kernel
theorem dX8_waterOf_22 : decode cX8_waterOf 22 = .ok (.aload_n 1, 1) := by decide +kernel
theorem dX8_waterOf_23 : decode cX8_waterOf 23 = .ok (.bipush 23, 2) := by decide +kernel
theorem dX8_waterOf_25 : decode cX8_waterOf 25 = .ok (.iaload, 1) := by decide +kernel
theorem dX8_waterOf_26 : decode cX8_waterOf 26 = .ok (.invokevirtual 127, 3) := by decide +kernel
theorem dX8_waterOf_29 : decode cX8_waterOf 29 = .ok (.iadd, 1) := by decide +kernel
theorem dX8_waterOf_30 : decode cX8_waterOf 30 = .ok (.ireturn, 1) := by decide +kernel
theorem dX8_dreamsAt_0 : decode cX8_dreamsAt 0 = .ok (.iconst 0, 1) := by decide +kernel
theorem dX8_dreamsAt_1 : decode cX8_dreamsAt 1 = .ok (.istore_n 3, 1) := by decide +kernel
theorem dX8_dreamsAt_2 : decode cX8_dreamsAt 2 = .ok (.iconst 0, 1) := by decide +kernel
theorem dX8_dreamsAt_3 : decode cX8_dreamsAt 3 = .ok (.istore 4, 2) := by decide +kernel
theorem dX8_dreamsAt_5 : decode cX8_dreamsAt 5 = .ok (.iload 4, 2) := by decide +kernel
theorem dX8_dreamsAt_7 : decode cX8_dreamsAt 7 = .ok (.aload_n 0, 1) := by decide +kernel
theorem dX8_dreamsAt_8 : decode cX8_dreamsAt 8 = .ok (.getfield 73, 3) := by decide +kernel
theorem dX8_dreamsAt_11 : decode cX8_dreamsAt 11 = .ok (.if_icmp .ge 28, 3) := by decide +kernel
theorem dX8_dreamsAt_14 : decode cX8_dreamsAt 14 = .ok (.iload_n 3, 1) := by decide +kernel
theorem dX8_dreamsAt_15 : decode cX8_dreamsAt 15 = .ok (.aload_n 1, 1) := by decide +kernel
theorem dX8_dreamsAt_16 : decode cX8_dreamsAt 16 = .ok (.iload 4, 2) := by decide +kernel
theorem dX8_dreamsAt_18 : decode cX8_dreamsAt 18 = .ok (.iaload, 1) := by decide +kernel
theorem dX8_dreamsAt_19 : decode cX8_dreamsAt 19 = .ok (.iload_n 2, 1) := by decide +kernel
theorem dX8_dreamsAt_20 : decode cX8_dreamsAt 20 = .ok (.if_icmp .ne 10, 3) := by decide +kernel
theorem dX8_dreamsAt_23 : decode cX8_dreamsAt 23 = .ok (.iconst 1, 1) := by decide +kernel
theorem dX8_dreamsAt_24 : decode cX8_dreamsAt 24 = .ok (.iload 4, 2) := by decide +kernel
theorem dX8_dreamsAt_26 : decode cX8_dreamsAt 26 = .ok (.ishl, 1) := by decide +kernel
theorem dX8_dreamsAt_27 : decode cX8_dreamsAt 27 = .ok (.goto 4, 3) := by decide +kernel
theorem dX8_dreamsAt_30 : decode cX8_dreamsAt 30 = .ok (.iconst 0, 1) := by decide +kernel
theorem dX8_dreamsAt_31 : decode cX8_dreamsAt 31 = .ok (.ior, 1) := by decide +kernel
theorem dX8_dreamsAt_32 : decode cX8_dreamsAt 32 = .ok (.istore_n 3, 1) := by decide +kernel
theorem dX8_dreamsAt_33 : decode cX8_dreamsAt 33 = .ok (.iinc 4 1, 3) := by decide +kernel
theorem dX8_dreamsAt_36 : decode cX8_dreamsAt 36 = .ok (.goto (-31), 3) := by decide +kernel
theorem dX8_dreamsAt_39 : decode cX8_dreamsAt 39 = .ok (.iload_n 3, 1) := by decide +kernel
theorem dX8_dreamsAt_40 : decode cX8_dreamsAt 40 = .ok (.ireturn, 1) := by decide +kernel
theorem dX8_berthed_0 : decode cX8_berthed 0 = .ok (.iconst 0, 1) := by decide +kernel
theorem dX8_berthed_1 : decode cX8_berthed 1 = .ok (.istore_n 2, 1) := by decide +kernel
theorem dX8_berthed_2 : decode cX8_berthed 2 = .ok (.iconst 0, 1) := by decide +kernel
theorem dX8_berthed_3 : decode cX8_berthed 3 = .ok (.istore_n 3, 1) := by decide +kernel
theorem dX8_berthed_4 : decode cX8_berthed 4 = .ok (.iload_n 3, 1) := by decide +kernel
theorem dX8_berthed_5 : decode cX8_berthed 5 = .ok (.aload_n 0, 1) := by decide +kernel
theorem dX8_berthed_6 : decode cX8_berthed 6 = .ok (.getfield 66, 3) := by decide +kernel
theorem dX8_berthed_9 : decode cX8_berthed 9 = .ok (.if_icmp .ge 18, 3) := by decide +kernel
theorem dX8_berthed_12 : decode cX8_berthed 12 = .ok (.iload_n 2, 1) := by decide +kernel
theorem dX8_berthed_13 : decode cX8_berthed 13 = .ok (.aload_n 0, 1) := by decide +kernel
theorem dX8_berthed_14 : decode cX8_berthed 14 = .ok (.aload_n 1, 1) := by decide +kernel
theorem dX8_berthed_15 : decode cX8_berthed 15 = .ok (.iload_n 3, 1) := by decide +kernel
theorem dX8_berthed_16 : decode cX8_berthed 16 = .ok (.invokevirtual 131, 3) := by decide +kernel
theorem dX8_berthed_19 : decode cX8_berthed 19 = .ok (.ior, 1) := by decide +kernel
theorem dX8_berthed_20 : decode cX8_berthed 20 = .ok (.istore_n 2, 1) := by decide +kernel
theorem dX8_berthed_21 : decode cX8_berthed 21 = .ok (.iinc 3 1, 3) := by decide +kernel
theorem dX8_berthed_24 : decode cX8_berthed 24 = .ok (.goto (-20), 3) := by decide +kernel
theorem dX8_berthed_27 : decode cX8_berthed 27 = .ok (.iload_n 2, 1) := by decide +kernel
theorem dX8_berthed_28 : decode cX8_berthed 28 = .ok (.ireturn, 1) := by decide +kernel
theorem dX8_suits_0 : decode cX8_suits 0 = .ok (.aload_n 0, 1) := by decide +kernel
theorem dX8_suits_1 : decode cX8_suits 1 = .ok (.getfield 16, 3) := by decide +kernel
theorem dX8_suits_4 : decode cX8_suits 4 = .ok (.iload_n 3, 1) := by decide +kernel
theorem dX8_suits_5 : decode cX8_suits 5 = .ok (.iaload, 1) := by decide +kernel
theorem dX8_suits_6 : decode cX8_suits 6 = .ok (.iconst 1, 1) := by decide +kernel
theorem dX8_suits_7 : decode cX8_suits 7 = .ok (.if_icmp .ne 23, 3) := by decide +kernel
theorem dX8_suits_10 : decode cX8_suits 10 = .ok (.aload_n 1, 1) := by decide +kernel
theorem dX8_suits_11 : decode cX8_suits 11 = .ok (.bipush 10, 2) := by decide +kernel
theorem dX8_suits_13 : decode cX8_suits 13 = .ok (.iload_n 2, 1) := by decide +kernel
theorem dX8_suits_14 : decode cX8_suits 14 = .ok (.iadd, 1) := by decide +kernel
theorem dX8_suits_15 : decode cX8_suits 15 = .ok (.iaload, 1) := by decide +kernel
theorem dX8_suits_16 : decode cX8_suits 16 = .ok (.iconst 3, 1) := by decide +kernel
theorem dX8_suits_17 : decode cX8_suits 17 = .ok (.if_icmp .gt 17, 3) := by decide +kernel
theorem dX8_suits_20 : decode cX8_suits 20 = .ok (.aload_n 0, 1) := by decide +kernel
theorem dX8_suits_21 : decode cX8_suits 21 = .ok (.getfield 19, 3) := by decide +kernel
theorem dX8_suits_24 : decode cX8_suits 24 = .ok (.iload_n 2, 1) := by decide +kernel
theorem dX8_suits_25 : decode cX8_suits 25 = .ok (.iaload, 1) := by decide +kernel
theorem dX8_suits_26 : decode cX8_suits 26 = .ok (.iconst 1, 1) := by decide +kernel
theorem dX8_suits_27 : decode cX8_suits 27 = .ok (.if_icmp .eq 7, 3) := by decide +kernel
theorem dX8_suits_30 : decode cX8_suits 30 = .ok (.iconst 1, 1) := by decide +kernel
theorem dX8_suits_31 : decode cX8_suits 31 = .ok (.goto 4, 3) := by decide +kernel
theorem dX8_suits_34 : decode cX8_suits 34 = .ok (.iconst 0, 1) := by decide +kernel
theorem dX8_suits_35 : decode cX8_suits 35 = .ok (.ireturn, 1) := by decide +kernel
theorem dX8_canBe_0 : decode cX8_canBe 0 = .ok (.aload_n 0, 1) := by decide +kernel
theorem dX8_canBe_1 : decode cX8_canBe 1 = .ok (.getfield 135, 3) := by decide +kernel
theorem dX8_canBe_4 : decode cX8_canBe 4 = .ok (.iload_n 3, 1) := by decide +kernel
theorem dX8_canBe_5 : decode cX8_canBe 5 = .ok (.invokestatic 123, 3) := by decide +kernel
theorem dX8_canBe_8 : decode cX8_canBe 8 = .ok (.ifCond .eq 44, 3) := by decide +kernel
theorem dX8_canBe_11 : decode cX8_canBe 11 = .ok (.aload_n 0, 1) := by decide +kernel
theorem dX8_canBe_12 : decode cX8_canBe 12 = .ok (.aload_n 1, 1) := by decide +kernel
theorem dX8_canBe_13 : decode cX8_canBe 13 = .ok (.iload_n 2, 1) := by decide +kernel
theorem dX8_canBe_14 : decode cX8_canBe 14 = .ok (.iload_n 3, 1) := by decide +kernel
theorem dX8_canBe_15 : decode cX8_canBe 15 = .ok (.invokevirtual 138, 3) := by decide +kernel
theorem dX8_canBe_18 : decode cX8_canBe 18 = .ok (.ifCond .eq 34, 3) := by decide +kernel
theorem dX8_canBe_21 : decode cX8_canBe 21 = .ok (.aload_n 0, 1) := by decide +kernel
theorem dX8_canBe_22 : decode cX8_canBe 22 = .ok (.aload_n 1, 1) := by decide +kernel
theorem dX8_canBe_23 : decode cX8_canBe 23 = .ok (.iload_n 3, 1) := by decide +kernel
theorem dX8_canBe_24 : decode cX8_canBe 24 = .ok (.invokevirtual 131, 3) := by decide +kernel
theorem dX8_canBe_27 : decode cX8_canBe 27 = .ok (.invokestatic 142, 3) := by decide +kernel
theorem dX8_canBe_30 : decode cX8_canBe 30 = .ok (.aload_n 0, 1) := by decide +kernel
theorem dX8_canBe_31 : decode cX8_canBe 31 = .ok (.getfield 16, 3) := by decide +kernel
theorem dX8_canBe_34 : decode cX8_canBe 34 = .ok (.iload_n 3, 1) := by decide +kernel
theorem dX8_canBe_35 : decode cX8_canBe 35 = .ok (.iaload, 1) := by decide +kernel
theorem dX8_canBe_36 : decode cX8_canBe 36 = .ok (.iconst 2, 1) := by decide +kernel
theorem dX8_canBe_37 : decode cX8_canBe 37 = .ok (.if_icmp .ne 7, 3) := by decide +kernel
theorem dX8_canBe_40 : decode cX8_canBe 40 = .ok (.iconst 2, 1) := by decide +kernel
theorem dX8_canBe_41 : decode cX8_canBe 41 = .ok (.goto 4, 3) := by decide +kernel
theorem dX8_canBe_44 : decode cX8_canBe 44 = .ok (.iconst 1, 1) := by decide +kernel
theorem dX8_canBe_45 : decode cX8_canBe 45 = .ok (.if_icmp .ge 7, 3) := by decide +kernel
theorem dX8_canBe_48 : decode cX8_canBe 48 = .ok (.iconst 1, 1) := by decide +kernel
theorem dX8_canBe_49 : decode cX8_canBe 49 = .ok (.goto 4, 3) := by decide +kernel
theorem dX8_canBe_52 : decode cX8_canBe 52 = .ok (.iconst 0, 1) := by decide +kernel
theorem dX8_canBe_53 : decode cX8_canBe 53 = .ok (.ireturn, 1) := by decide +kernel
theorem dX8_mayBe_0 : decode cX8_mayBe 0 = .ok (.iconst 0, 1) := by decide +kernel
theorem dX8_mayBe_1 : decode cX8_mayBe 1 = .ok (.istore_n 3, 1) := by decide +kernel
theorem dX8_mayBe_2 : decode cX8_mayBe 2 = .ok (.iconst 0, 1) := by decide +kernel
theorem dX8_mayBe_3 : decode cX8_mayBe 3 = .ok (.istore 4, 2) := by decide +kernel
theorem dX8_mayBe_5 : decode cX8_mayBe 5 = .ok (.iload 4, 2) := by decide +kernel
theorem dX8_mayBe_7 : decode cX8_mayBe 7 = .ok (.aload_n 0, 1) := by decide +kernel
theorem dX8_mayBe_8 : decode cX8_mayBe 8 = .ok (.getfield 66, 3) := by decide +kernel
theorem dX8_mayBe_11 : decode cX8_mayBe 11 = .ok (.if_icmp .ge 31, 3) := by decide +kernel
theorem dX8_mayBe_14 : decode cX8_mayBe 14 = .ok (.iload_n 3, 1) := by decide +kernel
theorem dX8_mayBe_15 : decode cX8_mayBe 15 = .ok (.aload_n 0, 1) := by decide +kernel
theorem dX8_mayBe_16 : decode cX8_mayBe 16 = .ok (.aload_n 1, 1) := by decide +kernel
theorem dX8_mayBe_17 : decode cX8_mayBe 17 = .ok (.iload_n 2, 1) := by decide +kernel
theorem dX8_mayBe_18 : decode cX8_mayBe 18 = .ok (.iload 4, 2) := by decide +kernel
theorem dX8_mayBe_20 : decode cX8_mayBe 20 = .ok (.invokevirtual 145, 3) := by decide +kernel
theorem dX8_mayBe_23 : decode cX8_mayBe 23 = .ok (.ifCond .eq 10, 3) := by decide +kernel
theorem dX8_mayBe_26 : decode cX8_mayBe 26 = .ok (.iconst 1, 1) := by decide +kernel
theorem dX8_mayBe_27 : decode cX8_mayBe 27 = .ok (.iload 4, 2) := by decide +kernel
theorem dX8_mayBe_29 : decode cX8_mayBe 29 = .ok (.ishl, 1) := by decide +kernel
theorem dX8_mayBe_30 : decode cX8_mayBe 30 = .ok (.goto 4, 3) := by decide +kernel
theorem dX8_mayBe_33 : decode cX8_mayBe 33 = .ok (.iconst 0, 1) := by decide +kernel
theorem dX8_mayBe_34 : decode cX8_mayBe 34 = .ok (.ior, 1) := by decide +kernel
theorem dX8_mayBe_35 : decode cX8_mayBe 35 = .ok (.istore_n 3, 1) := by decide +kernel
theorem dX8_mayBe_36 : decode cX8_mayBe 36 = .ok (.iinc 4 1, 3) := by decide +kernel
theorem dX8_mayBe_39 : decode cX8_mayBe 39 = .ok (.goto (-34), 3) := by decide +kernel
theorem dX8_mayBe_42 : decode cX8_mayBe 42 = .ok (.iload_n 3, 1) := by decide +kernel
theorem dX8_mayBe_43 : decode cX8_mayBe 43 = .ok (.ireturn, 1) := by decide +kernel
theorem dX8_goSleep_0 : decode cX8_goSleep 0 = .ok (.iconst 0, 1) := by decide +kernel
theorem dX8_goSleep_1 : decode cX8_goSleep 1 = .ok (.istore_n 2, 1) := by decide +kernel
theorem dX8_goSleep_2 : decode cX8_goSleep 2 = .ok (.iconst 0, 1) := by decide +kernel
theorem dX8_goSleep_3 : decode cX8_goSleep 3 = .ok (.istore_n 3, 1) := by decide +kernel
theorem dX8_goSleep_4 : decode cX8_goSleep 4 = .ok (.iload_n 3, 1) := by decide +kernel
theorem dX8_goSleep_5 : decode cX8_goSleep 5 = .ok (.aload_n 0, 1) := by decide +kernel
theorem dX8_goSleep_6 : decode cX8_goSleep 6 = .ok (.getfield 73, 3) := by decide +kernel
theorem dX8_goSleep_9 : decode cX8_goSleep 9 = .ok (.if_icmp .ge 145, 3) := by decide +kernel
theorem dX8_goSleep_12 : decode cX8_goSleep 12 = .ok (.aload_n 1, 1) := by decide +kernel
theorem dX8_goSleep_13 : decode cX8_goSleep 13 = .ok (.iload_n 3, 1) := by decide +kernel
theorem dX8_goSleep_14 : decode cX8_goSleep 14 = .ok (.iaload, 1) := by decide +kernel
theorem dX8_goSleep_15 : decode cX8_goSleep 15 = .ok (.istore 4, 2) := by decide +kernel
theorem dX8_goSleep_17 : decode cX8_goSleep 17 = .ok (.iload 4, 2) := by decide +kernel
theorem dX8_goSleep_19 : decode cX8_goSleep 19 = .ok (.iconst 4, 1) := by decide +kernel
theorem dX8_goSleep_20 : decode cX8_goSleep 20 = .ok (.if_icmp .ge 128, 3) := by decide +kernel
theorem dX8_goSleep_23 : decode cX8_goSleep 23 = .ok (.aload_n 0, 1) := by decide +kernel
theorem dX8_goSleep_24 : decode cX8_goSleep 24 = .ok (.getfield 135, 3) := by decide +kernel
theorem dX8_goSleep_27 : decode cX8_goSleep 27 = .ok (.iload 4, 2) := by decide +kernel
theorem dX8_goSleep_29 : decode cX8_goSleep 29 = .ok (.invokestatic 123, 3) := by decide +kernel
theorem dX8_goSleep_32 : decode cX8_goSleep 32 = .ok (.ifCond .eq 116, 3) := by decide +kernel
theorem dX8_goSleep_35 : decode cX8_goSleep 35 = .ok (.aload_n 1, 1) := by decide +kernel
theorem dX8_goSleep_36 : decode cX8_goSleep 36 = .ok (.bipush 10, 2) := by decide +kernel
theorem dX8_goSleep_38 : decode cX8_goSleep 38 = .ok (.iload_n 3, 1) := by decide +kernel
theorem dX8_goSleep_39 : decode cX8_goSleep 39 = .ok (.iadd, 1) := by decide +kernel
theorem dX8_goSleep_40 : decode cX8_goSleep 40 = .ok (.iaload, 1) := by decide +kernel
