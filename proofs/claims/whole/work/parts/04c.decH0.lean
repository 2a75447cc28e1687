theorem dX2_begin_0 : decode cX2_begin 0 = .ok (.iconst 0, 1) := by decide +kernel
theorem dX2_begin_1 : decode cX2_begin 1 = .ok (.istore_n 1, 1) := by decide +kernel
theorem dX2_begin_2 : decode cX2_begin 2 = .ok (.iload_n 1, 1) := by decide +kernel
theorem dX2_begin_3 : decode cX2_begin 3 = .ok (.iconst 5, 1) := by decide +kernel
theorem dX2_begin_4 : decode cX2_begin 4 = .ok (.if_icmp .ge 39, 3) := by decide +kernel
theorem dX2_begin_7 : decode cX2_begin 7 = .ok (.aload_n 0, 1) := by decide +kernel
theorem dX2_begin_8 : decode cX2_begin 8 = .ok (.getfield 9, 3) := by decide +kernel
theorem dX2_begin_11 : decode cX2_begin 11 = .ok (.iload_n 1, 1) := by decide +kernel
theorem dX2_begin_12 : decode cX2_begin 12 = .ok (.bipush 8, 2) := by decide +kernel
theorem dX2_begin_14 : decode cX2_begin 14 = .ok (.iastore, 1) := by decide +kernel
theorem dX2_begin_15 : decode cX2_begin 15 = .ok (.aload_n 0, 1) := by decide +kernel
theorem dX2_begin_16 : decode cX2_begin 16 = .ok (.getfield 15, 3) := by decide +kernel
theorem dX2_begin_19 : decode cX2_begin 19 = .ok (.iload_n 1, 1) := by decide +kernel
theorem dX2_begin_20 : decode cX2_begin 20 = .ok (.iconst 0, 1) := by decide +kernel
theorem dX2_begin_21 : decode cX2_begin 21 = .ok (.iastore, 1) := by decide +kernel
theorem dX2_begin_22 : decode cX2_begin 22 = .ok (.aload_n 0, 1) := by decide +kernel
theorem dX2_begin_23 : decode cX2_begin 23 = .ok (.getfield 18, 3) := by decide +kernel
theorem dX2_begin_26 : decode cX2_begin 26 = .ok (.iload_n 1, 1) := by decide +kernel
theorem dX2_begin_27 : decode cX2_begin 27 = .ok (.aload_n 0, 1) := by decide +kernel
theorem dX2_begin_28 : decode cX2_begin 28 = .ok (.getfield 31, 3) := by decide +kernel
theorem dX2_begin_31 : decode cX2_begin 31 = .ok (.getfield 35, 3) := by decide +kernel
theorem dX2_begin_34 : decode cX2_begin 34 = .ok (.iload_n 1, 1) := by decide +kernel
theorem dX2_begin_35 : decode cX2_begin 35 = .ok (.iaload, 1) := by decide +kernel
theorem dX2_begin_36 : decode cX2_begin 36 = .ok (.iastore, 1) := by decide +kernel
theorem dX2_begin_37 : decode cX2_begin 37 = .ok (.iinc 1 1, 3) := by decide +kernel
theorem dX2_begin_40 : decode cX2_begin 40 = .ok (.goto (-38), 3) := by decide +kernel
theorem dX2_begin_43 : decode cX2_begin 43 = .ok (.iconst 0, 1) := by decide +kernel
theorem dX2_begin_44 : decode cX2_begin 44 = .ok (.istore_n 1, 1) := by decide +kernel
theorem dX2_begin_45 : decode cX2_begin 45 = .ok (.iload_n 1, 1) := by decide +kernel
theorem dX2_begin_46 : decode cX2_begin 46 = .ok (.iconst 4, 1) := by decide +kernel
theorem dX2_begin_47 : decode cX2_begin 47 = .ok (.if_icmp .ge 31, 3) := by decide +kernel
theorem dX2_begin_50 : decode cX2_begin 50 = .ok (.aload_n 0, 1) := by decide +kernel
theorem dX2_begin_51 : decode cX2_begin 51 = .ok (.getfield 21, 3) := by decide +kernel
theorem dX2_begin_54 : decode cX2_begin 54 = .ok (.iload_n 1, 1) := by decide +kernel
theorem dX2_begin_55 : decode cX2_begin 55 = .ok (.aload_n 0, 1) := by decide +kernel
theorem dX2_begin_56 : decode cX2_begin 56 = .ok (.getfield 31, 3) := by decide +kernel
theorem dX2_begin_59 : decode cX2_begin 59 = .ok (.getfield 38, 3) := by decide +kernel
theorem dX2_begin_62 : decode cX2_begin 62 = .ok (.iload_n 1, 1) := by decide +kernel
theorem dX2_begin_63 : decode cX2_begin 63 = .ok (.iaload, 1) := by decide +kernel
theorem dX2_begin_64 : decode cX2_begin 64 = .ok (.iastore, 1) := by decide +kernel
theorem dX2_begin_65 : decode cX2_begin 65 = .ok (.aload_n 0, 1) := by decide +kernel
theorem dX2_begin_66 : decode cX2_begin 66 = .ok (.getfield 24, 3) := by decide +kernel
theorem dX2_begin_69 : decode cX2_begin 69 = .ok (.iload_n 1, 1) := by decide +kernel
theorem dX2_begin_70 : decode cX2_begin 70 = .ok (.iconst 0, 1) := by decide +kernel
theorem dX2_begin_71 : decode cX2_begin 71 = .ok (.iastore, 1) := by decide +kernel
theorem dX2_begin_72 : decode cX2_begin 72 = .ok (.iinc 1 1, 3) := by decide +kernel
theorem dX2_begin_75 : decode cX2_begin 75 = .ok (.goto (-30), 3) := by decide +kernel
theorem dX2_begin_78 : decode cX2_begin 78 = .ok (.aload_n 0, 1) := by decide +kernel
theorem dX2_begin_79 : decode cX2_begin 79 = .ok (.iconst 0, 1) := by decide +kernel
theorem dX2_begin_80 : decode cX2_begin 80 = .ok (.putfield 27, 3) := by decide +kernel
theorem dX2_begin_83 : decode cX2_begin 83 = .ok (.return_, 1) := by decide +kernel
theorem dX2_becomes_0 : decode cX2_becomes 0 = .ok (.aload_n 1, 1) := by decide +kernel
theorem dX2_becomes_1 : decode cX2_becomes 1 = .ok (.getfield 9, 3) := by decide +kernel
theorem dX2_becomes_4 : decode cX2_becomes 4 = .ok (.iconst 0, 1) := by decide +kernel
theorem dX2_becomes_5 : decode cX2_becomes 5 = .ok (.aload_n 0, 1) := by decide +kernel
theorem dX2_becomes_6 : decode cX2_becomes 6 = .ok (.getfield 9, 3) := by decide +kernel
theorem dX2_becomes_9 : decode cX2_becomes 9 = .ok (.iconst 0, 1) := by decide +kernel
theorem dX2_becomes_10 : decode cX2_becomes 10 = .ok (.iconst 5, 1) := by decide +kernel
theorem dX2_becomes_11 : decode cX2_becomes 11 = .ok (.invokestatic 39, 3) := by decide +kernel
theorem dX2_becomes_14 : decode cX2_becomes 14 = .ok (.aload_n 1, 1) := by decide +kernel
theorem dX2_becomes_15 : decode cX2_becomes 15 = .ok (.getfield 15, 3) := by decide +kernel
theorem dX2_becomes_18 : decode cX2_becomes 18 = .ok (.iconst 0, 1) := by decide +kernel
theorem dX2_becomes_19 : decode cX2_becomes 19 = .ok (.aload_n 0, 1) := by decide +kernel
theorem dX2_becomes_20 : decode cX2_becomes 20 = .ok (.getfield 15, 3) := by decide +kernel
theorem dX2_becomes_23 : decode cX2_becomes 23 = .ok (.iconst 0, 1) := by decide +kernel
theorem dX2_becomes_24 : decode cX2_becomes 24 = .ok (.iconst 5, 1) := by decide +kernel
theorem dX2_becomes_25 : decode cX2_becomes 25 = .ok (.invokestatic 39, 3) := by decide +kernel
theorem dX2_becomes_28 : decode cX2_becomes 28 = .ok (.aload_n 1, 1) := by decide +kernel
theorem dX2_becomes_29 : decode cX2_becomes 29 = .ok (.getfield 18, 3) := by decide +kernel
theorem dX2_becomes_32 : decode cX2_becomes 32 = .ok (.iconst 0, 1) := by decide +kernel
theorem dX2_becomes_33 : decode cX2_becomes 33 = .ok (.aload_n 0, 1) := by decide +kernel
theorem dX2_becomes_34 : decode cX2_becomes 34 = .ok (.getfield 18, 3) := by decide +kernel
theorem dX2_becomes_37 : decode cX2_becomes 37 = .ok (.iconst 0, 1) := by decide +kernel
theorem dX2_becomes_38 : decode cX2_becomes 38 = .ok (.iconst 5, 1) := by decide +kernel
theorem dX2_becomes_39 : decode cX2_becomes 39 = .ok (.invokestatic 39, 3) := by decide +kernel
theorem dX2_becomes_42 : decode cX2_becomes 42 = .ok (.aload_n 1, 1) := by decide +kernel
theorem dX2_becomes_43 : decode cX2_becomes 43 = .ok (.getfield 21, 3) := by decide +kernel
theorem dX2_becomes_46 : decode cX2_becomes 46 = .ok (.iconst 0, 1) := by decide +kernel
theorem dX2_becomes_47 : decode cX2_becomes 47 = .ok (.aload_n 0, 1) := by decide +kernel
theorem dX2_becomes_48 : decode cX2_becomes 48 = .ok (.getfield 21, 3) := by decide +kernel
theorem dX2_becomes_51 : decode cX2_becomes 51 = .ok (.iconst 0, 1) := by decide +kernel
theorem dX2_becomes_52 : decode cX2_becomes 52 = .ok (.iconst 4, 1) := by decide +kernel
theorem dX2_becomes_53 : decode cX2_becomes 53 = .ok (.invokestatic 39, 3) := by decide +kernel
theorem dX2_becomes_56 : decode cX2_becomes 56 = .ok (.aload_n 1, 1) := by decide +kernel
theorem dX2_becomes_57 : decode cX2_becomes 57 = .ok (.getfield 24, 3) := by decide +kernel
theorem dX2_becomes_60 : decode cX2_becomes 60 = .ok (.iconst 0, 1) := by decide +kernel
theorem dX2_becomes_61 : decode cX2_becomes 61 = .ok (.aload_n 0, 1) := by decide +kernel
theorem dX2_becomes_62 : decode cX2_becomes 62 = .ok (.getfield 24, 3) := by decide +kernel
theorem dX2_becomes_65 : decode cX2_becomes 65 = .ok (.iconst 0, 1) := by decide +kernel
theorem dX2_becomes_66 : decode cX2_becomes 66 = .ok (.iconst 4, 1) := by decide +kernel
theorem dX2_becomes_67 : decode cX2_becomes 67 = .ok (.invokestatic 39, 3) := by decide +kernel
theorem dX2_becomes_70 : decode cX2_becomes 70 = .ok (.aload_n 0, 1) := by decide +kernel
theorem dX2_becomes_71 : decode cX2_becomes 71 = .ok (.aload_n 1, 1) := by decide +kernel
theorem dX2_becomes_72 : decode cX2_becomes 72 = .ok (.getfield 27, 3) := by decide +kernel
theorem dX2_becomes_75 : decode cX2_becomes 75 = .ok (.putfield 27, 3) := by decide +kernel
theorem dX2_becomes_78 : decode cX2_becomes 78 = .ok (.return_, 1) := by decide +kernel
theorem dX2_tide_0 : decode cX2_tide 0 = .ok (.aload_n 0, 1) := by decide +kernel
theorem dX2_tide_1 : decode cX2_tide 1 = .ok (.getfield 31, 3) := by decide +kernel
theorem dX2_tide_4 : decode cX2_tide 4 = .ok (.aload_n 0, 1) := by decide +kernel
theorem dX2_tide_5 : decode cX2_tide 5 = .ok (.getfield 27, 3) := by decide +kernel
theorem dX2_tide_8 : decode cX2_tide 8 = .ok (.invokevirtual 45, 3) := by decide +kernel
theorem dX2_tide_11 : decode cX2_tide 11 = .ok (.ireturn, 1) := by decide +kernel
theorem dX2_water_0 : decode cX2_water 0 = .ok (.aload_n 0, 1) := by decide +kernel
theorem dX2_water_1 : decode cX2_water 1 = .ok (.getfield 21, 3) := by decide +kernel
theorem dX2_water_4 : decode cX2_water 4 = .ok (.iload_n 1, 1) := by decide +kernel
theorem dX2_water_5 : decode cX2_water 5 = .ok (.iaload, 1) := by decide +kernel
theorem dX2_water_6 : decode cX2_water 6 = .ok (.aload_n 0, 1) := by decide +kernel
theorem dX2_water_7 : decode cX2_water 7 = .ok (.invokevirtual 49, 3) := by decide +kernel
theorem dX2_water_10 : decode cX2_water 10 = .ok (.iadd, 1) := by decide +kernel
theorem dX2_water_11 : decode cX2_water 11 = .ok (.ireturn, 1) := by decide +kernel
theorem dX2_liesOff_0 : decode cX2_liesOff 0 = .ok (.aload_n 0, 1) := by decide +kernel
theorem dX2_liesOff_1 : decode cX2_liesOff 1 = .ok (.getfield 9, 3) := by decide +kernel
theorem dX2_liesOff_4 : decode cX2_liesOff 4 = .ok (.iload_n 1, 1) := by decide +kernel
theorem dX2_liesOff_5 : decode cX2_liesOff 5 = .ok (.iaload, 1) := by decide +kernel
theorem dX2_liesOff_6 : decode cX2_liesOff 6 = .ok (.bipush 8, 2) := by decide +kernel
theorem dX2_liesOff_8 : decode cX2_liesOff 8 = .ok (.if_icmp .ne 7, 3) := by decide +kernel
theorem dX2_liesOff_11 : decode cX2_liesOff 11 = .ok (.iconst 1, 1) := by decide +kernel
theorem dX2_liesOff_12 : decode cX2_liesOff 12 = .ok (.goto 4, 3) := by decide +kernel
theorem dX2_liesOff_15 : decode cX2_liesOff 15 = .ok (.iconst 0, 1) := by decide +kernel
theorem dX2_liesOff_16 : decode cX2_liesOff 16 = .ok (.ireturn, 1) := by decide +kernel
theorem dX2_isBerthed_0 : decode cX2_isBerthed 0 = .ok (.aload_n 0, 1) := by decide +kernel
theorem dX2_isBerthed_1 : decode cX2_isBerthed 1 = .ok (.getfield 9, 3) := by decide +kernel
theorem dX2_isBerthed_4 : decode cX2_isBerthed 4 = .ok (.iload_n 1, 1) := by decide +kernel
theorem dX2_isBerthed_5 : decode cX2_isBerthed 5 = .ok (.iaload, 1) := by decide +kernel
theorem dX2_isBerthed_6 : decode cX2_isBerthed 6 = .ok (.iconst 4, 1) := by decide +kernel
theorem dX2_isBerthed_7 : decode cX2_isBerthed 7 = .ok (.if_icmp .ge 7, 3) := by decide +kernel
theorem dX2_isBerthed_10 : decode cX2_isBerthed 10 = .ok (.iconst 1, 1) := by decide +kernel
theorem dX2_isBerthed_11 : decode cX2_isBerthed 11 = .ok (.goto 4, 3) := by decide +kernel
theorem dX2_isBerthed_14 : decode cX2_isBerthed 14 = .ok (.iconst 0, 1) := by decide +kernel
theorem dX2_isBerthed_15 : decode cX2_isBerthed 15 = .ok (.ireturn, 1) := by decide +kernel
theorem dX2_dreamsAt_0 : decode cX2_dreamsAt 0 = .ok (.iconst 0, 1) := by decide +kernel
theorem dX2_dreamsAt_1 : decode cX2_dreamsAt 1 = .ok (.istore_n 2, 1) := by decide +kernel
theorem dX2_dreamsAt_2 : decode cX2_dreamsAt 2 = .ok (.iconst 0, 1) := by decide +kernel
theorem dX2_dreamsAt_3 : decode cX2_dreamsAt 3 = .ok (.istore_n 3, 1) := by decide +kernel
theorem dX2_dreamsAt_4 : decode cX2_dreamsAt 4 = .ok (.iload_n 3, 1) := by decide +kernel
theorem dX2_dreamsAt_5 : decode cX2_dreamsAt 5 = .ok (.aload_n 0, 1) := by decide +kernel
theorem dX2_dreamsAt_6 : decode cX2_dreamsAt 6 = .ok (.getfield 31, 3) := by decide +kernel
theorem dX2_dreamsAt_9 : decode cX2_dreamsAt 9 = .ok (.getfield 53, 3) := by decide +kernel
theorem dX2_dreamsAt_12 : decode cX2_dreamsAt 12 = .ok (.if_icmp .ge 25, 3) := by decide +kernel
theorem dX2_dreamsAt_15 : decode cX2_dreamsAt 15 = .ok (.aload_n 0, 1) := by decide +kernel
theorem dX2_dreamsAt_16 : decode cX2_dreamsAt 16 = .ok (.getfield 9, 3) := by decide +kernel
theorem dX2_dreamsAt_19 : decode cX2_dreamsAt 19 = .ok (.iload_n 3, 1) := by decide +kernel
theorem dX2_dreamsAt_20 : decode cX2_dreamsAt 20 = .ok (.iaload, 1) := by decide +kernel
theorem dX2_dreamsAt_21 : decode cX2_dreamsAt 21 = .ok (.iload_n 1, 1) := by decide +kernel
theorem dX2_dreamsAt_22 : decode cX2_dreamsAt 22 = .ok (.if_icmp .ne 9, 3) := by decide +kernel
theorem dX2_dreamsAt_25 : decode cX2_dreamsAt 25 = .ok (.iload_n 2, 1) := by decide +kernel
theorem dX2_dreamsAt_26 : decode cX2_dreamsAt 26 = .ok (.iconst 1, 1) := by decide +kernel
theorem dX2_dreamsAt_27 : decode cX2_dreamsAt 27 = .ok (.iload_n 3, 1) := by decide +kernel
theorem dX2_dreamsAt_28 : decode cX2_dreamsAt 28 = .ok (.ishl, 1) := by decide +kernel
theorem dX2_dreamsAt_29 : decode cX2_dreamsAt 29 = .ok (.ior, 1) := by decide +kernel
theorem dX2_dreamsAt_30 : decode cX2_dreamsAt 30 = .ok (.istore_n 2, 1) := by decide +kernel
theorem dX2_dreamsAt_31 : decode cX2_dreamsAt 31 = .ok (.iinc 3 1, 3) := by decide +kernel
theorem dX2_dreamsAt_34 : decode cX2_dreamsAt 34 = .ok (.goto (-30), 3) := by decide +kernel
theorem dX2_dreamsAt_37 : decode cX2_dreamsAt 37 = .ok (.iload_n 2, 1) := by decide +kernel
theorem dX2_dreamsAt_38 : decode cX2_dreamsAt 38 = .ok (.ireturn, 1) := by decide +kernel
theorem dX2_countAt_0 : decode cX2_countAt 0 = .ok (.aload_n 0, 1) := by decide +kernel
theorem dX2_countAt_1 : decode cX2_countAt 1 = .ok (.iload_n 1, 1) := by decide +kernel
theorem dX2_countAt_2 : decode cX2_countAt 2 = .ok (.invokevirtual 56, 3) := by decide +kernel
theorem dX2_countAt_5 : decode cX2_countAt 5 = .ok (.invokestatic 59, 3) := by decide +kernel
theorem dX2_countAt_8 : decode cX2_countAt 8 = .ok (.ireturn, 1) := by decide +kernel
theorem dX2_dreamsBerthed_0 : decode cX2_dreamsBerthed 0 = .ok (.iconst 0, 1) := by decide +kernel
theorem dX2_dreamsBerthed_1 : decode cX2_dreamsBerthed 1 = .ok (.istore_n 1, 1) := by decide +kernel
theorem dX2_dreamsBerthed_2 : decode cX2_dreamsBerthed 2 = .ok (.iconst 0, 1) := by decide +kernel
theorem dX2_dreamsBerthed_3 : decode cX2_dreamsBerthed 3 = .ok (.istore_n 2, 1) := by decide +kernel
theorem dX2_dreamsBerthed_4 : decode cX2_dreamsBerthed 4 = .ok (.iload_n 2, 1) := by decide +kernel
theorem dX2_dreamsBerthed_5 : decode cX2_dreamsBerthed 5 = .ok (.aload_n 0, 1) := by decide +kernel
theorem dX2_dreamsBerthed_6 : decode cX2_dreamsBerthed 6 = .ok (.getfield 31, 3) := by decide +kernel
theorem dX2_dreamsBerthed_9 : decode cX2_dreamsBerthed 9 = .ok (.getfield 64, 3) := by decide +kernel
theorem dX2_dreamsBerthed_12 : decode cX2_dreamsBerthed 12 = .ok (.if_icmp .ge 17, 3) := by decide +kernel
theorem dX2_dreamsBerthed_15 : decode cX2_dreamsBerthed 15 = .ok (.iload_n 1, 1) := by decide +kernel
theorem dX2_dreamsBerthed_16 : decode cX2_dreamsBerthed 16 = .ok (.aload_n 0, 1) := by decide +kernel
theorem dX2_dreamsBerthed_17 : decode cX2_dreamsBerthed 17 = .ok (.iload_n 2, 1) := by decide +kernel
theorem dX2_dreamsBerthed_18 : decode cX2_dreamsBerthed 18 = .ok (.invokevirtual 56, 3) := by decide +kernel
theorem dX2_dreamsBerthed_21 : decode cX2_dreamsBerthed 21 = .ok (.ior, 1) := by decide +kernel
theorem dX2_dreamsBerthed_22 : decode cX2_dreamsBerthed 22 = .ok (.istore_n 1, 1) := by decide +kernel
theorem dX2_dreamsBerthed_23 : decode cX2_dreamsBerthed 23 = .ok (.iinc 2 1, 3) := by decide +kernel
theorem dX2_dreamsBerthed_26 : decode cX2_dreamsBerthed 26 = .ok (.goto (-22), 3) := by decide +kernel
theorem dX2_dreamsBerthed_29 : decode cX2_dreamsBerthed 29 = .ok (.iload_n 1, 1) := by decide +kernel
theorem dX2_dreamsBerthed_30 : decode cX2_dreamsBerthed 30 = .ok (.ireturn, 1) := by decide +kernel
theorem dX2_wokeInAll_0 : decode cX2_wokeInAll 0 = .ok (.iconst 0, 1) := by decide +kernel
theorem dX2_wokeInAll_1 : decode cX2_wokeInAll 1 = .ok (.istore_n 1, 1) := by decide +kernel
theorem dX2_wokeInAll_2 : decode cX2_wokeInAll 2 = .ok (.iconst 0, 1) := by decide +kernel
theorem dX2_wokeInAll_3 : decode cX2_wokeInAll 3 = .ok (.istore_n 2, 1) := by decide +kernel
theorem dX2_wokeInAll_4 : decode cX2_wokeInAll 4 = .ok (.iload_n 2, 1) := by decide +kernel
theorem dX2_wokeInAll_5 : decode cX2_wokeInAll 5 = .ok (.aload_n 0, 1) := by decide +kernel
theorem dX2_wokeInAll_6 : decode cX2_wokeInAll 6 = .ok (.getfield 31, 3) := by decide +kernel
theorem dX2_wokeInAll_9 : decode cX2_wokeInAll 9 = .ok (.getfield 64, 3) := by decide +kernel
theorem dX2_wokeInAll_12 : decode cX2_wokeInAll 12 = .ok (.if_icmp .ge 18, 3) := by decide +kernel
theorem dX2_wokeInAll_15 : decode cX2_wokeInAll 15 = .ok (.iload_n 1, 1) := by decide +kernel
theorem dX2_wokeInAll_16 : decode cX2_wokeInAll 16 = .ok (.aload_n 0, 1) := by decide +kernel
theorem dX2_wokeInAll_17 : decode cX2_wokeInAll 17 = .ok (.getfield 24, 3) := by decide +kernel
theorem dX2_wokeInAll_20 : decode cX2_wokeInAll 20 = .ok (.iload_n 2, 1) := by decide +kernel
theorem dX2_wokeInAll_21 : decode cX2_wokeInAll 21 = .ok (.iaload, 1) := by decide +kernel
theorem dX2_wokeInAll_22 : decode cX2_wokeInAll 22 = .ok (.iadd, 1) := by decide +kernel
theorem dX2_wokeInAll_23 : decode cX2_wokeInAll 23 = .ok (.istore_n 1, 1) := by decide +kernel
theorem dX2_wokeInAll_24 : decode cX2_wokeInAll 24 = .ok (.iinc 2 1, 3) := by decide +kernel
theorem dX2_wokeInAll_27 : decode cX2_wokeInAll 27 = .ok (.goto (-23), 3) := by decide +kernel
theorem dX2_wokeInAll_30 : decode cX2_wokeInAll 30 = .ok (.iload_n 1, 1) := by decide +kernel
theorem dX2_wokeInAll_31 : decode cX2_wokeInAll 31 = .ok (.ireturn, 1) := by decide +kernel
theorem dX2_roomIn_0 : decode cX2_roomIn 0 = .ok (.aload_n 0, 1) := by decide +kernel
theorem dX2_roomIn_1 : decode cX2_roomIn 1 = .ok (.getfield 31, 3) := by decide +kernel
theorem dX2_roomIn_4 : decode cX2_roomIn 4 = .ok (.getfield 67, 3) := by decide +kernel
theorem dX2_roomIn_7 : decode cX2_roomIn 7 = .ok (.iload_n 1, 1) := by decide +kernel
theorem dX2_roomIn_8 : decode cX2_roomIn 8 = .ok (.iaload, 1) := by decide +kernel
theorem dX2_roomIn_9 : decode cX2_roomIn 9 = .ok (.iconst 2, 1) := by decide +kernel
theorem dX2_roomIn_10 : decode cX2_roomIn 10 = .ok (.if_icmp .ne 7, 3) := by decide +kernel
theorem dX2_roomIn_13 : decode cX2_roomIn 13 = .ok (.iconst 2, 1) := by decide +kernel
theorem dX2_roomIn_14 : decode cX2_roomIn 14 = .ok (.goto 4, 3) := by decide +kernel
theorem dX2_roomIn_17 : decode cX2_roomIn 17 = .ok (.iconst 1, 1) := by decide +kernel
theorem dX2_roomIn_18 : decode cX2_roomIn 18 = .ok (.istore_n 2, 1) := by decide +kernel
theorem dX2_roomIn_19 : decode cX2_roomIn 19 = .ok (.iconst 0, 1) := by decide +kernel
theorem dX2_roomIn_20 : decode cX2_roomIn 20 = .ok (.istore_n 3, 1) := by decide +kernel
theorem dX2_roomIn_21 : decode cX2_roomIn 21 = .ok (.iload_n 3, 1) := by decide +kernel
theorem dX2_roomIn_22 : decode cX2_roomIn 22 = .ok (.aload_n 0, 1) := by decide +kernel
theorem dX2_roomIn_23 : decode cX2_roomIn 23 = .ok (.getfield 31, 3) := by decide +kernel
theorem dX2_roomIn_26 : decode cX2_roomIn 26 = .ok (.getfield 53, 3) := by decide +kernel
theorem dX2_roomIn_29 : decode cX2_roomIn 29 = .ok (.if_icmp .ge 22, 3) := by decide +kernel
theorem dX2_roomIn_32 : decode cX2_roomIn 32 = .ok (.aload_n 0, 1) := by decide +kernel
theorem dX2_roomIn_33 : decode cX2_roomIn 33 = .ok (.getfield 9, 3) := by decide +kernel
theorem dX2_roomIn_36 : decode cX2_roomIn 36 = .ok (.iload_n 3, 1) := by decide +kernel
theorem dX2_roomIn_37 : decode cX2_roomIn 37 = .ok (.iaload, 1) := by decide +kernel
theorem dX2_roomIn_38 : decode cX2_roomIn 38 = .ok (.iload_n 1, 1) := by decide +kernel
theorem dX2_roomIn_39 : decode cX2_roomIn 39 = .ok (.if_icmp .ne 6, 3) := by decide +kernel
theorem dX2_roomIn_42 : decode cX2_roomIn 42 = .ok (.iinc 2 (-1), 3) := by decide +kernel
theorem dX2_roomIn_45 : decode cX2_roomIn 45 = .ok (.iinc 3 1, 3) := by decide +kernel
theorem dX2_roomIn_48 : decode cX2_roomIn 48 = .ok (.goto (-27), 3) := by decide +kernel
theorem dX2_roomIn_51 : decode cX2_roomIn 51 = .ok (.iload_n 2, 1) := by decide +kernel
theorem dX2_roomIn_52 : decode cX2_roomIn 52 = .ok (.ireturn, 1) := by decide +kernel
theorem dX2_suits_0 : decode cX2_suits 0 = .ok (.aload_n 0, 1) := by decide +kernel
theorem dX2_suits_1 : decode cX2_suits 1 = .ok (.getfield 31, 3) := by decide +kernel
theorem dX2_suits_4 : decode cX2_suits 4 = .ok (.getfield 67, 3) := by decide +kernel
theorem dX2_suits_7 : decode cX2_suits 7 = .ok (.iload_n 2, 1) := by decide +kernel
theorem dX2_suits_8 : decode cX2_suits 8 = .ok (.iaload, 1) := by decide +kernel
theorem dX2_suits_9 : decode cX2_suits 9 = .ok (.iconst 1, 1) := by decide +kernel
theorem dX2_suits_10 : decode cX2_suits 10 = .ok (.if_icmp .eq 5, 3) := by decide +kernel
theorem dX2_suits_13 : decode cX2_suits 13 = .ok (.iconst 1, 1) := by decide +kernel
theorem dX2_suits_14 : decode cX2_suits 14 = .ok (.ireturn, 1) := by decide +kernel
theorem dX2_suits_15 : decode cX2_suits 15 = .ok (.aload_n 0, 1) := by decide +kernel
theorem dX2_suits_16 : decode cX2_suits 16 = .ok (.getfield 18, 3) := by decide +kernel
theorem dX2_suits_19 : decode cX2_suits 19 = .ok (.iload_n 1, 1) := by decide +kernel
theorem dX2_suits_20 : decode cX2_suits 20 = .ok (.iaload, 1) := by decide +kernel
theorem dX2_suits_21 : decode cX2_suits 21 = .ok (.iconst 3, 1) := by decide +kernel
theorem dX2_suits_22 : decode cX2_suits 22 = .ok (.if_icmp .gt 20, 3) := by decide +kernel
theorem dX2_suits_25 : decode cX2_suits 25 = .ok (.aload_n 0, 1) := by decide +kernel
theorem dX2_suits_26 : decode cX2_suits 26 = .ok (.getfield 31, 3) := by decide +kernel
theorem dX2_suits_29 : decode cX2_suits 29 = .ok (.getfield 70, 3) := by decide +kernel
theorem dX2_suits_32 : decode cX2_suits 32 = .ok (.iload_n 1, 1) := by decide +kernel
theorem dX2_suits_33 : decode cX2_suits 33 = .ok (.iaload, 1) := by decide +kernel
theorem dX2_suits_34 : decode cX2_suits 34 = .ok (.iconst 1, 1) := by decide +kernel
theorem dX2_suits_35 : decode cX2_suits 35 = .ok (.if_icmp .eq 7, 3) := by decide +kernel
theorem dX2_suits_38 : decode cX2_suits 38 = .ok (.iconst 1, 1) := by decide +kernel
theorem dX2_suits_39 : decode cX2_suits 39 = .ok (.goto 4, 3) := by decide +kernel
theorem dX2_suits_42 : decode cX2_suits 42 = .ok (.iconst 0, 1) := by decide +kernel
theorem dX2_suits_43 : decode cX2_suits 43 = .ok (.ireturn, 1) := by decide +kernel
theorem dX2_canBe_0 : decode cX2_canBe 0 = .ok (.aload_n 0, 1) := by decide +kernel
theorem dX2_canBe_1 : decode cX2_canBe 1 = .ok (.iload_n 1, 1) := by decide +kernel
theorem dX2_canBe_2 : decode cX2_canBe 2 = .ok (.iload_n 2, 1) := by decide +kernel
theorem dX2_canBe_3 : decode cX2_canBe 3 = .ok (.invokevirtual 73, 3) := by decide +kernel
theorem dX2_canBe_6 : decode cX2_canBe 6 = .ok (.ifCond .eq 15, 3) := by decide +kernel
theorem dX2_canBe_9 : decode cX2_canBe 9 = .ok (.aload_n 0, 1) := by decide +kernel
theorem dX2_canBe_10 : decode cX2_canBe 10 = .ok (.iload_n 2, 1) := by decide +kernel
theorem dX2_canBe_11 : decode cX2_canBe 11 = .ok (.invokevirtual 77, 3) := by decide +kernel
theorem dX2_canBe_14 : decode cX2_canBe 14 = .ok (.ifCond .le 7, 3) := by decide +kernel
theorem dX2_canBe_17 : decode cX2_canBe 17 = .ok (.iconst 1, 1) := by decide +kernel
theorem dX2_canBe_18 : decode cX2_canBe 18 = .ok (.goto 4, 3) := by decide +kernel
theorem dX2_canBe_21 : decode cX2_canBe 21 = .ok (.iconst 0, 1) := by decide +kernel
theorem dX2_canBe_22 : decode cX2_canBe 22 = .ok (.ireturn, 1) := by decide +kernel
theorem dX2_berthsOpenTo_0 : decode cX2_berthsOpenTo 0 = .ok (.iconst 0, 1) := by decide +kernel
theorem dX2_berthsOpenTo_1 : decode cX2_berthsOpenTo 1 = .ok (.istore_n 2, 1) := by decide +kernel
theorem dX2_berthsOpenTo_2 : decode cX2_berthsOpenTo 2 = .ok (.iconst 0, 1) := by decide +kernel
theorem dX2_berthsOpenTo_3 : decode cX2_berthsOpenTo 3 = .ok (.istore_n 3, 1) := by decide +kernel
theorem dX2_berthsOpenTo_4 : decode cX2_berthsOpenTo 4 = .ok (.iload_n 3, 1) := by decide +kernel
theorem dX2_berthsOpenTo_5 : decode cX2_berthsOpenTo 5 = .ok (.aload_n 0, 1) := by decide +kernel
theorem dX2_berthsOpenTo_6 : decode cX2_berthsOpenTo 6 = .ok (.getfield 31, 3) := by decide +kernel
theorem dX2_berthsOpenTo_9 : decode cX2_berthsOpenTo 9 = .ok (.getfield 64, 3) := by decide +kernel
theorem dX2_berthsOpenTo_12 : decode cX2_berthsOpenTo 12 = .ok (.if_icmp .ge 24, 3) := by decide +kernel
theorem dX2_berthsOpenTo_15 : decode cX2_berthsOpenTo 15 = .ok (.aload_n 0, 1) := by decide +kernel
theorem dX2_berthsOpenTo_16 : decode cX2_berthsOpenTo 16 = .ok (.iload_n 1, 1) := by decide +kernel
theorem dX2_berthsOpenTo_17 : decode cX2_berthsOpenTo 17 = .ok (.iload_n 3, 1) := by decide +kernel
theorem dX2_berthsOpenTo_18 : decode cX2_berthsOpenTo 18 = .ok (.invokevirtual 80, 3) := by decide +kernel
theorem dX2_berthsOpenTo_21 : decode cX2_berthsOpenTo 21 = .ok (.ifCond .eq 9, 3) := by decide +kernel
theorem dX2_berthsOpenTo_24 : decode cX2_berthsOpenTo 24 = .ok (.iload_n 2, 1) := by decide +kernel
theorem dX2_berthsOpenTo_25 : decode cX2_berthsOpenTo 25 = .ok (.iconst 1, 1) := by decide +kernel
theorem dX2_berthsOpenTo_26 : decode cX2_berthsOpenTo 26 = .ok (.iload_n 3, 1) := by decide +kernel
theorem dX2_berthsOpenTo_27 : decode cX2_berthsOpenTo 27 = .ok (.ishl, 1) := by decide +kernel
theorem dX2_berthsOpenTo_28 : decode cX2_berthsOpenTo 28 = .ok (.ior, 1) := by decide +kernel
theorem dX2_berthsOpenTo_29 : decode cX2_berthsOpenTo 29 = .ok (.istore_n 2, 1) := by decide +kernel
theorem dX2_berthsOpenTo_30 : decode cX2_berthsOpenTo 30 = .ok (.iinc 3 1, 3) := by decide +kernel
theorem dX2_berthsOpenTo_33 : decode cX2_berthsOpenTo 33 = .ok (.goto (-29), 3) := by decide +kernel
theorem dX2_berthsOpenTo_36 : decode cX2_berthsOpenTo 36 = .ok (.iload_n 2, 1) := by decide +kernel
theorem dX2_berthsOpenTo_37 : decode cX2_berthsOpenTo 37 = .ok (.ireturn, 1) := by decide +kernel
theorem dX2_berthsFitFor_0 : decode cX2_berthsFitFor 0 = .ok (.iconst 0, 1) := by decide +kernel
theorem dX2_berthsFitFor_1 : decode cX2_berthsFitFor 1 = .ok (.istore_n 2, 1) := by decide +kernel
theorem dX2_berthsFitFor_2 : decode cX2_berthsFitFor 2 = .ok (.iconst 0, 1) := by decide +kernel
theorem dX2_berthsFitFor_3 : decode cX2_berthsFitFor 3 = .ok (.istore_n 3, 1) := by decide +kernel
theorem dX2_berthsFitFor_4 : decode cX2_berthsFitFor 4 = .ok (.iload_n 3, 1) := by decide +kernel
theorem dX2_berthsFitFor_5 : decode cX2_berthsFitFor 5 = .ok (.aload_n 0, 1) := by decide +kernel
theorem dX2_berthsFitFor_6 : decode cX2_berthsFitFor 6 = .ok (.getfield 31, 3) := by decide +kernel
theorem dX2_berthsFitFor_9 : decode cX2_berthsFitFor 9 = .ok (.getfield 64, 3) := by decide +kernel
theorem dX2_berthsFitFor_12 : decode cX2_berthsFitFor 12 = .ok (.if_icmp .ge 38, 3) := by decide +kernel
theorem dX2_berthsFitFor_15 : decode cX2_berthsFitFor 15 = .ok (.aload_n 0, 1) := by decide +kernel
theorem dX2_berthsFitFor_16 : decode cX2_berthsFitFor 16 = .ok (.iload_n 1, 1) := by decide +kernel
theorem dX2_berthsFitFor_17 : decode cX2_berthsFitFor 17 = .ok (.iload_n 3, 1) := by decide +kernel
theorem dX2_berthsFitFor_18 : decode cX2_berthsFitFor 18 = .ok (.invokevirtual 73, 3) := by decide +kernel
theorem dX2_berthsFitFor_21 : decode cX2_berthsFitFor 21 = .ok (.ifCond .eq 23, 3) := by decide +kernel
theorem dX2_berthsFitFor_24 : decode cX2_berthsFitFor 24 = .ok (.aload_n 0, 1) := by decide +kernel
theorem dX2_berthsFitFor_25 : decode cX2_berthsFitFor 25 = .ok (.getfield 18, 3) := by decide +kernel
theorem dX2_berthsFitFor_28 : decode cX2_berthsFitFor 28 = .ok (.iload_n 1, 1) := by decide +kernel
theorem dX2_berthsFitFor_29 : decode cX2_berthsFitFor 29 = .ok (.iaload, 1) := by decide +kernel
theorem dX2_berthsFitFor_30 : decode cX2_berthsFitFor 30 = .ok (.aload_n 0, 1) := by decide +kernel
theorem dX2_berthsFitFor_31 : decode cX2_berthsFitFor 31 = .ok (.iload_n 3, 1) := by decide +kernel
theorem dX2_berthsFitFor_32 : decode cX2_berthsFitFor 32 = .ok (.invokevirtual 83, 3) := by decide +kernel
theorem dX2_berthsFitFor_35 : decode cX2_berthsFitFor 35 = .ok (.if_icmp .gt 9, 3) := by decide +kernel
theorem dX2_berthsFitFor_38 : decode cX2_berthsFitFor 38 = .ok (.iload_n 2, 1) := by decide +kernel
theorem dX2_berthsFitFor_39 : decode cX2_berthsFitFor 39 = .ok (.iconst 1, 1) := by decide +kernel
theorem dX2_berthsFitFor_40 : decode cX2_berthsFitFor 40 = .ok (.iload_n 3, 1) := by decide +kernel
theorem dX2_berthsFitFor_41 : decode cX2_berthsFitFor 41 = .ok (.ishl, 1) := by decide +kernel
theorem dX2_berthsFitFor_42 : decode cX2_berthsFitFor 42 = .ok (.ior, 1) := by decide +kernel
theorem dX2_berthsFitFor_43 : decode cX2_berthsFitFor 43 = .ok (.istore_n 2, 1) := by decide +kernel
theorem dX2_berthsFitFor_44 : decode cX2_berthsFitFor 44 = .ok (.iinc 3 1, 3) := by decide +kernel
theorem dX2_berthsFitFor_47 : decode cX2_berthsFitFor 47 = .ok (.goto (-43), 3) := by decide +kernel
theorem dX2_berthsFitFor_50 : decode cX2_berthsFitFor 50 = .ok (.iload_n 2, 1) := by decide +kernel
theorem dX2_berthsFitFor_51 : decode cX2_berthsFitFor 51 = .ok (.ireturn, 1) := by decide +kernel
theorem dX2_canMoor_0 : decode cX2_canMoor 0 = .ok (.aload_n 0, 1) := by decide +kernel
theorem dX2_canMoor_1 : decode cX2_canMoor 1 = .ok (.getfield 31, 3) := by decide +kernel
theorem dX2_canMoor_4 : decode cX2_canMoor 4 = .ok (.iload_n 1, 1) := by decide +kernel
theorem dX2_canMoor_5 : decode cX2_canMoor 5 = .ok (.invokevirtual 86, 3) := by decide +kernel
theorem dX2_canMoor_8 : decode cX2_canMoor 8 = .ok (.ifCond .eq 35, 3) := by decide +kernel
theorem dX2_canMoor_11 : decode cX2_canMoor 11 = .ok (.aload_n 0, 1) := by decide +kernel
theorem dX2_canMoor_12 : decode cX2_canMoor 12 = .ok (.getfield 31, 3) := by decide +kernel
theorem dX2_canMoor_15 : decode cX2_canMoor 15 = .ok (.iload_n 2, 1) := by decide +kernel
theorem dX2_canMoor_16 : decode cX2_canMoor 16 = .ok (.invokevirtual 90, 3) := by decide +kernel
theorem dX2_canMoor_19 : decode cX2_canMoor 19 = .ok (.ifCond .eq 24, 3) := by decide +kernel
theorem dX2_canMoor_22 : decode cX2_canMoor 22 = .ok (.aload_n 0, 1) := by decide +kernel
theorem dX2_canMoor_23 : decode cX2_canMoor 23 = .ok (.iload_n 1, 1) := by decide +kernel
theorem dX2_canMoor_24 : decode cX2_canMoor 24 = .ok (.invokevirtual 93, 3) := by decide +kernel
theorem dX2_canMoor_27 : decode cX2_canMoor 27 = .ok (.ifCond .eq 16, 3) := by decide +kernel
theorem dX2_canMoor_30 : decode cX2_canMoor 30 = .ok (.aload_n 0, 1) := by decide +kernel
theorem dX2_canMoor_31 : decode cX2_canMoor 31 = .ok (.iload_n 1, 1) := by decide +kernel
theorem dX2_canMoor_32 : decode cX2_canMoor 32 = .ok (.iload_n 2, 1) := by decide +kernel
theorem dX2_canMoor_33 : decode cX2_canMoor 33 = .ok (.invokevirtual 80, 3) := by decide +kernel
theorem dX2_canMoor_36 : decode cX2_canMoor 36 = .ok (.ifCond .eq 7, 3) := by decide +kernel
theorem dX2_canMoor_39 : decode cX2_canMoor 39 = .ok (.iconst 1, 1) := by decide +kernel
theorem dX2_canMoor_40 : decode cX2_canMoor 40 = .ok (.goto 4, 3) := by decide +kernel
theorem dX2_canMoor_43 : decode cX2_canMoor 43 = .ok (.iconst 0, 1) := by decide +kernel
theorem dX2_canMoor_44 : decode cX2_canMoor 44 = .ok (.ireturn, 1) := by decide +kernel
theorem dX2_canTow_0 : decode cX2_canTow 0 = .ok (.aload_n 0, 1) := by decide +kernel
theorem dX2_canTow_1 : decode cX2_canTow 1 = .ok (.getfield 31, 3) := by decide +kernel
theorem dX2_canTow_4 : decode cX2_canTow 4 = .ok (.iload_n 1, 1) := by decide +kernel
theorem dX2_canTow_5 : decode cX2_canTow 5 = .ok (.invokevirtual 86, 3) := by decide +kernel
theorem dX2_canTow_8 : decode cX2_canTow 8 = .ok (.ifCond .eq 15, 3) := by decide +kernel
theorem dX2_canTow_11 : decode cX2_canTow 11 = .ok (.aload_n 0, 1) := by decide +kernel
theorem dX2_canTow_12 : decode cX2_canTow 12 = .ok (.iload_n 1, 1) := by decide +kernel
theorem dX2_canTow_13 : decode cX2_canTow 13 = .ok (.invokevirtual 96, 3) := by decide +kernel
theorem dX2_canTow_16 : decode cX2_canTow 16 = .ok (.ifCond .eq 7, 3) := by decide +kernel
theorem dX2_canTow_19 : decode cX2_canTow 19 = .ok (.iconst 1, 1) := by decide +kernel
theorem dX2_canTow_20 : decode cX2_canTow 20 = .ok (.goto 4, 3) := by decide +kernel
theorem dX2_canTow_23 : decode cX2_canTow 23 = .ok (.iconst 0, 1) := by decide +kernel
theorem dX2_canTow_24 : decode cX2_canTow 24 = .ok (.ireturn, 1) := by decide +kernel
theorem dX2_towOut_0 : decode cX2_towOut 0 = .ok (.aload_n 0, 1) := by decide +kernel
theorem dX2_towOut_1 : decode cX2_towOut 1 = .ok (.getfield 9, 3) := by decide +kernel
theorem dX2_towOut_4 : decode cX2_towOut 4 = .ok (.iload_n 1, 1) := by decide +kernel
theorem dX2_towOut_5 : decode cX2_towOut 5 = .ok (.bipush 8, 2) := by decide +kernel
theorem dX2_towOut_7 : decode cX2_towOut 7 = .ok (.iastore, 1) := by decide +kernel
theorem dX2_towOut_8 : decode cX2_towOut 8 = .ok (.aload_n 0, 1) := by decide +kernel
theorem dX2_towOut_9 : decode cX2_towOut 9 = .ok (.getfield 15, 3) := by decide +kernel
theorem dX2_towOut_12 : decode cX2_towOut 12 = .ok (.iload_n 1, 1) := by decide +kernel
theorem dX2_towOut_13 : decode cX2_towOut 13 = .ok (.iconst 0, 1) := by decide +kernel
theorem dX2_towOut_14 : decode cX2_towOut 14 = .ok (.iastore, 1) := by decide +kernel
theorem dX2_towOut_15 : decode cX2_towOut 15 = .ok (.return_, 1) := by decide +kernel
theorem dX2_dreamtIn_0 : decode cX2_dreamtIn 0 = .ok (.iconst 0, 1) := by decide +kernel
theorem dX2_dreamtIn_1 : decode cX2_dreamtIn 1 = .ok (.istore_n 3, 1) := by decide +kernel
theorem dX2_dreamtIn_2 : decode cX2_dreamtIn 2 = .ok (.aload_n 0, 1) := by decide +kernel
theorem dX2_dreamtIn_3 : decode cX2_dreamtIn 3 = .ok (.getfield 21, 3) := by decide +kernel
theorem dX2_dreamtIn_6 : decode cX2_dreamtIn 6 = .ok (.iload_n 1, 1) := by decide +kernel
theorem dX2_dreamtIn_7 : decode cX2_dreamtIn 7 = .ok (.iaload, 1) := by decide +kernel
theorem dX2_dreamtIn_8 : decode cX2_dreamtIn 8 = .ok (.istore 4, 2) := by decide +kernel
theorem dX2_dreamtIn_10 : decode cX2_dreamtIn 10 = .ok (.iconst 0, 1) := by decide +kernel
theorem dX2_dreamtIn_11 : decode cX2_dreamtIn 11 = .ok (.istore 5, 2) := by decide +kernel
theorem dX2_dreamtIn_13 : decode cX2_dreamtIn 13 = .ok (.iload 5, 2) := by decide +kernel
theorem dX2_dreamtIn_15 : decode cX2_dreamtIn 15 = .ok (.aload_n 0, 1) := by decide +kernel
theorem dX2_dreamtIn_16 : decode cX2_dreamtIn 16 = .ok (.getfield 31, 3) := by decide +kernel
theorem dX2_dreamtIn_19 : decode cX2_dreamtIn 19 = .ok (.getfield 53, 3) := by decide +kernel
theorem dX2_dreamtIn_22 : decode cX2_dreamtIn 22 = .ok (.if_icmp .ge 54, 3) := by decide +kernel
theorem dX2_dreamtIn_25 : decode cX2_dreamtIn 25 = .ok (.aload_n 0, 1) := by decide +kernel
theorem dX2_dreamtIn_26 : decode cX2_dreamtIn 26 = .ok (.getfield 9, 3) := by decide +kernel
theorem dX2_dreamtIn_29 : decode cX2_dreamtIn 29 = .ok (.iload 5, 2) := by decide +kernel
theorem dX2_dreamtIn_31 : decode cX2_dreamtIn 31 = .ok (.iaload, 1) := by decide +kernel
theorem dX2_dreamtIn_32 : decode cX2_dreamtIn 32 = .ok (.iload_n 1, 1) := by decide +kernel
theorem dX2_dreamtIn_33 : decode cX2_dreamtIn 33 = .ok (.if_icmp .ne 37, 3) := by decide +kernel
theorem dX2_dreamtIn_36 : decode cX2_dreamtIn 36 = .ok (.aload_n 0, 1) := by decide +kernel
theorem dX2_dreamtIn_37 : decode cX2_dreamtIn 37 = .ok (.getfield 18, 3) := by decide +kernel
theorem dX2_dreamtIn_40 : decode cX2_dreamtIn 40 = .ok (.iload 5, 2) := by decide +kernel
theorem dX2_dreamtIn_42 : decode cX2_dreamtIn 42 = .ok (.iaload, 1) := by decide +kernel
theorem dX2_dreamtIn_43 : decode cX2_dreamtIn 43 = .ok (.iload 4, 2) := by decide +kernel
theorem dX2_dreamtIn_45 : decode cX2_dreamtIn 45 = .ok (.iload_n 2, 1) := by decide +kernel
theorem dX2_dreamtIn_46 : decode cX2_dreamtIn 46 = .ok (.iadd, 1) := by decide +kernel
theorem dX2_dreamtIn_47 : decode cX2_dreamtIn 47 = .ok (.if_icmp .gt 13, 3) := by decide +kernel
theorem dX2_dreamtIn_50 : decode cX2_dreamtIn 50 = .ok (.iload_n 3, 1) := by decide +kernel
theorem dX2_dreamtIn_51 : decode cX2_dreamtIn 51 = .ok (.iconst 1, 1) := by decide +kernel
theorem dX2_dreamtIn_52 : decode cX2_dreamtIn 52 = .ok (.iload 5, 2) := by decide +kernel
theorem dX2_dreamtIn_54 : decode cX2_dreamtIn 54 = .ok (.ishl, 1) := by decide +kernel
theorem dX2_dreamtIn_55 : decode cX2_dreamtIn 55 = .ok (.ior, 1) := by decide +kernel
theorem dX2_dreamtIn_56 : decode cX2_dreamtIn 56 = .ok (.istore_n 3, 1) := by decide +kernel
theorem dX2_dreamtIn_57 : decode cX2_dreamtIn 57 = .ok (.goto 13, 3) := by decide +kernel
theorem dX2_dreamtIn_60 : decode cX2_dreamtIn 60 = .ok (.aload_n 0, 1) := by decide +kernel
theorem dX2_dreamtIn_61 : decode cX2_dreamtIn 61 = .ok (.iload 4, 2) := by decide +kernel
theorem dX2_dreamtIn_63 : decode cX2_dreamtIn 63 = .ok (.iload 5, 2) := by decide +kernel
theorem dX2_dreamtIn_65 : decode cX2_dreamtIn 65 = .ok (.invokevirtual 99, 3) := by decide +kernel
theorem dX2_dreamtIn_68 : decode cX2_dreamtIn 68 = .ok (.istore 4, 2) := by decide +kernel
theorem dX2_dreamtIn_70 : decode cX2_dreamtIn 70 = .ok (.iinc 5 1, 3) := by decide +kernel
theorem dX2_dreamtIn_73 : decode cX2_dreamtIn 73 = .ok (.goto (-60), 3) := by decide +kernel
theorem dX2_dreamtIn_76 : decode cX2_dreamtIn 76 = .ok (.iload_n 3, 1) := by decide +kernel
theorem dX2_dreamtIn_77 : decode cX2_dreamtIn 77 = .ok (.ireturn, 1) := by decide +kernel
theorem dX2_spoilt_0 : decode cX2_spoilt 0 = .ok (.aload_n 0, 1) := by decide +kernel
theorem dX2_spoilt_1 : decode cX2_spoilt 1 = .ok (.getfield 31, 3) := by decide +kernel
theorem dX2_spoilt_4 : decode cX2_spoilt 4 = .ok (.getfield 70, 3) := by decide +kernel
theorem dX2_spoilt_7 : decode cX2_spoilt 7 = .ok (.iload_n 2, 1) := by decide +kernel
theorem dX2_spoilt_8 : decode cX2_spoilt 8 = .ok (.iaload, 1) := by decide +kernel
theorem dX2_spoilt_9 : decode cX2_spoilt 9 = .ok (.iconst 3, 1) := by decide +kernel
theorem dX2_spoilt_10 : decode cX2_spoilt 10 = .ok (.if_icmp .ne 13, 3) := by decide +kernel
theorem dX2_spoilt_13 : decode cX2_spoilt 13 = .ok (.iconst 0, 1) := by decide +kernel
theorem dX2_spoilt_14 : decode cX2_spoilt 14 = .ok (.iload_n 1, 1) := by decide +kernel
theorem dX2_spoilt_15 : decode cX2_spoilt 15 = .ok (.iconst 1, 1) := by decide +kernel
theorem dX2_spoilt_16 : decode cX2_spoilt 16 = .ok (.isub, 1) := by decide +kernel
theorem dX2_spoilt_17 : decode cX2_spoilt 17 = .ok (.invokestatic 103, 3) := by decide +kernel
theorem dX2_spoilt_20 : decode cX2_spoilt 20 = .ok (.goto 4, 3) := by decide +kernel
theorem dX2_spoilt_23 : decode cX2_spoilt 23 = .ok (.iload_n 1, 1) := by decide +kernel
theorem dX2_spoilt_24 : decode cX2_spoilt 24 = .ok (.ireturn, 1) := by decide +kernel
theorem dX2_dreamtIfFailed_0 : decode cX2_dreamtIfFailed 0 = .ok (.iconst 0, 1) := by decide +kernel
theorem dX2_dreamtIfFailed_1 : decode cX2_dreamtIfFailed 1 = .ok (.istore_n 2, 1) := by decide +kernel
theorem dX2_dreamtIfFailed_2 : decode cX2_dreamtIfFailed 2 = .ok (.iconst 0, 1) := by decide +kernel
theorem dX2_dreamtIfFailed_3 : decode cX2_dreamtIfFailed 3 = .ok (.istore_n 3, 1) := by decide +kernel
theorem dX2_dreamtIfFailed_4 : decode cX2_dreamtIfFailed 4 = .ok (.iload_n 3, 1) := by decide +kernel
theorem dX2_dreamtIfFailed_5 : decode cX2_dreamtIfFailed 5 = .ok (.aload_n 0, 1) := by decide +kernel
theorem dX2_dreamtIfFailed_6 : decode cX2_dreamtIfFailed 6 = .ok (.getfield 31, 3) := by decide +kernel
theorem dX2_dreamtIfFailed_9 : decode cX2_dreamtIfFailed 9 = .ok (.getfield 64, 3) := by decide +kernel
theorem dX2_dreamtIfFailed_12 : decode cX2_dreamtIfFailed 12 = .ok (.if_icmp .ge 41, 3) := by decide +kernel
theorem dX2_dreamtIfFailed_15 : decode cX2_dreamtIfFailed 15 = .ok (.iload_n 1, 1) := by decide +kernel
theorem dX2_dreamtIfFailed_16 : decode cX2_dreamtIfFailed 16 = .ok (.iload_n 3, 1) := by decide +kernel
theorem dX2_dreamtIfFailed_17 : decode cX2_dreamtIfFailed 17 = .ok (.ishr, 1) := by decide +kernel
theorem dX2_dreamtIfFailed_18 : decode cX2_dreamtIfFailed 18 = .ok (.iconst 1, 1) := by decide +kernel
theorem dX2_dreamtIfFailed_19 : decode cX2_dreamtIfFailed 19 = .ok (.iand, 1) := by decide +kernel
theorem dX2_dreamtIfFailed_20 : decode cX2_dreamtIfFailed 20 = .ok (.iconst 1, 1) := by decide +kernel
theorem dX2_dreamtIfFailed_21 : decode cX2_dreamtIfFailed 21 = .ok (.if_icmp .ne 7, 3) := by decide +kernel
theorem dX2_dreamtIfFailed_24 : decode cX2_dreamtIfFailed 24 = .ok (.iconst 0, 1) := by decide +kernel
theorem dX2_dreamtIfFailed_25 : decode cX2_dreamtIfFailed 25 = .ok (.goto 7, 3) := by decide +kernel
theorem dX2_dreamtIfFailed_28 : decode cX2_dreamtIfFailed 28 = .ok (.aload_n 0, 1) := by decide +kernel
theorem dX2_dreamtIfFailed_29 : decode cX2_dreamtIfFailed 29 = .ok (.invokevirtual 49, 3) := by decide +kernel
theorem dX2_dreamtIfFailed_32 : decode cX2_dreamtIfFailed 32 = .ok (.istore 4, 2) := by decide +kernel
theorem dX2_dreamtIfFailed_34 : decode cX2_dreamtIfFailed 34 = .ok (.iload_n 2, 1) := by decide +kernel
theorem dX2_dreamtIfFailed_35 : decode cX2_dreamtIfFailed 35 = .ok (.aload_n 0, 1) := by decide +kernel
theorem dX2_dreamtIfFailed_36 : decode cX2_dreamtIfFailed 36 = .ok (.iload_n 3, 1) := by decide +kernel
theorem dX2_dreamtIfFailed_37 : decode cX2_dreamtIfFailed 37 = .ok (.iload 4, 2) := by decide +kernel
theorem dX2_dreamtIfFailed_39 : decode cX2_dreamtIfFailed 39 = .ok (.invokevirtual 108, 3) := by decide +kernel
theorem dX2_dreamtIfFailed_42 : decode cX2_dreamtIfFailed 42 = .ok (.invokestatic 59, 3) := by decide +kernel
theorem dX2_dreamtIfFailed_45 : decode cX2_dreamtIfFailed 45 = .ok (.iadd, 1) := by decide +kernel
theorem dX2_dreamtIfFailed_46 : decode cX2_dreamtIfFailed 46 = .ok (.istore_n 2, 1) := by decide +kernel
theorem dX2_dreamtIfFailed_47 : decode cX2_dreamtIfFailed 47 = .ok (.iinc 3 1, 3) := by decide +kernel
theorem dX2_dreamtIfFailed_50 : decode cX2_dreamtIfFailed 50 = .ok (.goto (-46), 3) := by decide +kernel
theorem dX2_dreamtIfFailed_53 : decode cX2_dreamtIfFailed 53 = .ok (.iload_n 2, 1) := by decide +kernel
theorem dX2_dreamtIfFailed_54 : decode cX2_dreamtIfFailed 54 = .ok (.ireturn, 1) := by decide +kernel
theorem dX2_passNight_0 : decode cX2_passNight 0 = .ok (.iconst 0, 1) := by decide +kernel
theorem dX2_passNight_1 : decode cX2_passNight 1 = .ok (.istore_n 1, 1) := by decide +kernel
theorem dX2_passNight_2 : decode cX2_passNight 2 = .ok (.aload_n 0, 1) := by decide +kernel
theorem dX2_passNight_3 : decode cX2_passNight 3 = .ok (.invokevirtual 49, 3) := by decide +kernel
theorem dX2_passNight_6 : decode cX2_passNight 6 = .ok (.istore_n 2, 1) := by decide +kernel
theorem dX2_passNight_7 : decode cX2_passNight 7 = .ok (.iconst 0, 1) := by decide +kernel
theorem dX2_passNight_8 : decode cX2_passNight 8 = .ok (.istore_n 3, 1) := by decide +kernel
theorem dX2_passNight_9 : decode cX2_passNight 9 = .ok (.iload_n 3, 1) := by decide +kernel
theorem dX2_passNight_10 : decode cX2_passNight 10 = .ok (.aload_n 0, 1) := by decide +kernel
theorem dX2_passNight_11 : decode cX2_passNight 11 = .ok (.getfield 31, 3) := by decide +kernel
theorem dX2_passNight_14 : decode cX2_passNight 14 = .ok (.getfield 64, 3) := by decide +kernel
theorem dX2_passNight_17 : decode cX2_passNight 17 = .ok (.if_icmp .ge 32, 3) := by decide +kernel
theorem dX2_passNight_20 : decode cX2_passNight 20 = .ok (.aload_n 0, 1) := by decide +kernel
theorem dX2_passNight_21 : decode cX2_passNight 21 = .ok (.iload_n 3, 1) := by decide +kernel
theorem dX2_passNight_22 : decode cX2_passNight 22 = .ok (.iload_n 2, 1) := by decide +kernel
theorem dX2_passNight_23 : decode cX2_passNight 23 = .ok (.invokevirtual 108, 3) := by decide +kernel
theorem dX2_passNight_26 : decode cX2_passNight 26 = .ok (.istore 4, 2) := by decide +kernel
theorem dX2_passNight_28 : decode cX2_passNight 28 = .ok (.iload_n 1, 1) := by decide +kernel
theorem dX2_passNight_29 : decode cX2_passNight 29 = .ok (.iload 4, 2) := by decide +kernel
theorem dX2_passNight_31 : decode cX2_passNight 31 = .ok (.invokestatic 59, 3) := by decide +kernel
theorem dX2_passNight_34 : decode cX2_passNight 34 = .ok (.iadd, 1) := by decide +kernel
theorem dX2_passNight_35 : decode cX2_passNight 35 = .ok (.istore_n 1, 1) := by decide +kernel
theorem dX2_passNight_36 : decode cX2_passNight 36 = .ok (.aload_n 0, 1) := by decide +kernel
theorem dX2_passNight_37 : decode cX2_passNight 37 = .ok (.iload_n 3, 1) := by decide +kernel
theorem dX2_passNight_38 : decode cX2_passNight 38 = .ok (.iload 4, 2) := by decide +kernel
theorem dX2_passNight_40 : decode cX2_passNight 40 = .ok (.invokevirtual 111, 3) := by decide +kernel
theorem dX2_passNight_43 : decode cX2_passNight 43 = .ok (.iinc 3 1, 3) := by decide +kernel
theorem dX2_passNight_46 : decode cX2_passNight 46 = .ok (.goto (-37), 3) := by decide +kernel
theorem dX2_passNight_49 : decode cX2_passNight 49 = .ok (.aload_n 0, 1) := by decide +kernel
theorem dX2_passNight_50 : decode cX2_passNight 50 = .ok (.invokevirtual 115, 3) := by decide +kernel
theorem dX2_passNight_53 : decode cX2_passNight 53 = .ok (.aload_n 0, 1) := by decide +kernel
theorem dX2_passNight_54 : decode cX2_passNight 54 = .ok (.invokevirtual 118, 3) := by decide +kernel
theorem dX2_passNight_57 : decode cX2_passNight 57 = .ok (.aload_n 0, 1) := by decide +kernel
theorem dX2_passNight_58 : decode cX2_passNight 58 = .ok (.invokevirtual 121, 3) := by decide +kernel
theorem dX2_passNight_61 : decode cX2_passNight 61 = .ok (.aload_n 0, 1) := by decide +kernel
theorem dX2_passNight_62 : decode cX2_passNight 62 = .ok (.dup, 1) := by decide +kernel
theorem dX2_passNight_63 : decode cX2_passNight 63 = .ok (.getfield 27, 3) := by decide +kernel
theorem dX2_passNight_66 : decode cX2_passNight 66 = .ok (.iconst 1, 1) := by decide +kernel
theorem dX2_passNight_67 : decode cX2_passNight 67 = .ok (.iadd, 1) := by decide +kernel
theorem dX2_passNight_68 : decode cX2_passNight 68 = .ok (.putfield 27, 3) := by decide +kernel
theorem dX2_passNight_71 : decode cX2_passNight 71 = .ok (.iload_n 1, 1) := by decide +kernel
theorem dX2_passNight_72 : decode cX2_passNight 72 = .ok (.ireturn, 1) := by decide +kernel
theorem dX2_sleepIn_0 : decode cX2_sleepIn 0 = .ok (.iconst 0, 1) := by decide +kernel
theorem dX2_sleepIn_1 : decode cX2_sleepIn 1 = .ok (.istore_n 3, 1) := by decide +kernel
theorem dX2_sleepIn_2 : decode cX2_sleepIn 2 = .ok (.iload_n 3, 1) := by decide +kernel
theorem dX2_sleepIn_3 : decode cX2_sleepIn 3 = .ok (.aload_n 0, 1) := by decide +kernel
theorem dX2_sleepIn_4 : decode cX2_sleepIn 4 = .ok (.getfield 31, 3) := by decide +kernel
theorem dX2_sleepIn_7 : decode cX2_sleepIn 7 = .ok (.getfield 53, 3) := by decide +kernel
theorem dX2_sleepIn_10 : decode cX2_sleepIn 10 = .ok (.if_icmp .ge 66, 3) := by decide +kernel
theorem dX2_sleepIn_13 : decode cX2_sleepIn 13 = .ok (.aload_n 0, 1) := by decide +kernel
theorem dX2_sleepIn_14 : decode cX2_sleepIn 14 = .ok (.getfield 9, 3) := by decide +kernel
theorem dX2_sleepIn_17 : decode cX2_sleepIn 17 = .ok (.iload_n 3, 1) := by decide +kernel
theorem dX2_sleepIn_18 : decode cX2_sleepIn 18 = .ok (.iaload, 1) := by decide +kernel
theorem dX2_sleepIn_19 : decode cX2_sleepIn 19 = .ok (.iload_n 1, 1) := by decide +kernel
theorem dX2_sleepIn_20 : decode cX2_sleepIn 20 = .ok (.if_icmp .ne 50, 3) := by decide +kernel
theorem dX2_sleepIn_23 : decode cX2_sleepIn 23 = .ok (.iload_n 2, 1) := by decide +kernel
theorem dX2_sleepIn_24 : decode cX2_sleepIn 24 = .ok (.iload_n 3, 1) := by decide +kernel
theorem dX2_sleepIn_25 : decode cX2_sleepIn 25 = .ok (.ishr, 1) := by decide +kernel
theorem dX2_sleepIn_26 : decode cX2_sleepIn 26 = .ok (.iconst 1, 1) := by decide +kernel
theorem dX2_sleepIn_27 : decode cX2_sleepIn 27 = .ok (.iand, 1) := by decide +kernel
theorem dX2_sleepIn_28 : decode cX2_sleepIn 28 = .ok (.iconst 1, 1) := by decide +kernel
theorem dX2_sleepIn_29 : decode cX2_sleepIn 29 = .ok (.if_icmp .ne 14, 3) := by decide +kernel
theorem dX2_sleepIn_32 : decode cX2_sleepIn 32 = .ok (.aload_n 0, 1) := by decide +kernel
theorem dX2_sleepIn_33 : decode cX2_sleepIn 33 = .ok (.getfield 9, 3) := by decide +kernel
theorem dX2_sleepIn_36 : decode cX2_sleepIn 36 = .ok (.iload_n 3, 1) := by decide +kernel
theorem dX2_sleepIn_37 : decode cX2_sleepIn 37 = .ok (.bipush 9, 2) := by decide +kernel
theorem dX2_sleepIn_39 : decode cX2_sleepIn 39 = .ok (.iastore, 1) := by decide +kernel
theorem dX2_sleepIn_40 : decode cX2_sleepIn 40 = .ok (.goto 30, 3) := by decide +kernel
theorem dX2_sleepIn_43 : decode cX2_sleepIn 43 = .ok (.aload_n 0, 1) := by decide +kernel
theorem dX2_sleepIn_44 : decode cX2_sleepIn 44 = .ok (.getfield 24, 3) := by decide +kernel
theorem dX2_sleepIn_47 : decode cX2_sleepIn 47 = .ok (.iload_n 1, 1) := by decide +kernel
theorem dX2_sleepIn_48 : decode cX2_sleepIn 48 = .ok (.dup2, 1) := by decide +kernel
theorem dX2_sleepIn_49 : decode cX2_sleepIn 49 = .ok (.iaload, 1) := by decide +kernel
theorem dX2_sleepIn_50 : decode cX2_sleepIn 50 = .ok (.iconst 1, 1) := by decide +kernel
theorem dX2_sleepIn_51 : decode cX2_sleepIn 51 = .ok (.iadd, 1) := by decide +kernel
theorem dX2_sleepIn_52 : decode cX2_sleepIn 52 = .ok (.iastore, 1) := by decide +kernel
theorem dX2_sleepIn_53 : decode cX2_sleepIn 53 = .ok (.aload_n 0, 1) := by decide +kernel
theorem dX2_sleepIn_54 : decode cX2_sleepIn 54 = .ok (.getfield 21, 3) := by decide +kernel
theorem dX2_sleepIn_57 : decode cX2_sleepIn 57 = .ok (.iload_n 1, 1) := by decide +kernel
theorem dX2_sleepIn_58 : decode cX2_sleepIn 58 = .ok (.aload_n 0, 1) := by decide +kernel
theorem dX2_sleepIn_59 : decode cX2_sleepIn 59 = .ok (.aload_n 0, 1) := by decide +kernel
theorem dX2_sleepIn_60 : decode cX2_sleepIn 60 = .ok (.getfield 21, 3) := by decide +kernel
theorem dX2_sleepIn_63 : decode cX2_sleepIn 63 = .ok (.iload_n 1, 1) := by decide +kernel
theorem dX2_sleepIn_64 : decode cX2_sleepIn 64 = .ok (.iaload, 1) := by decide +kernel
theorem dX2_sleepIn_65 : decode cX2_sleepIn 65 = .ok (.iload_n 3, 1) := by decide +kernel
theorem dX2_sleepIn_66 : decode cX2_sleepIn 66 = .ok (.invokevirtual 99, 3) := by decide +kernel
theorem dX2_sleepIn_69 : decode cX2_sleepIn 69 = .ok (.iastore, 1) := by decide +kernel
theorem dX2_sleepIn_70 : decode cX2_sleepIn 70 = .ok (.iinc 3 1, 3) := by decide +kernel
theorem dX2_sleepIn_73 : decode cX2_sleepIn 73 = .ok (.goto (-71), 3) := by decide +kernel
theorem dX2_sleepIn_76 : decode cX2_sleepIn 76 = .ok (.return_, 1) := by decide +kernel
theorem dX2_lieOffLonger_0 : decode cX2_lieOffLonger 0 = .ok (.iconst 0, 1) := by decide +kernel
theorem dX2_lieOffLonger_1 : decode cX2_lieOffLonger 1 = .ok (.istore_n 1, 1) := by decide +kernel
theorem dX2_lieOffLonger_2 : decode cX2_lieOffLonger 2 = .ok (.iload_n 1, 1) := by decide +kernel
theorem dX2_lieOffLonger_3 : decode cX2_lieOffLonger 3 = .ok (.aload_n 0, 1) := by decide +kernel
theorem dX2_lieOffLonger_4 : decode cX2_lieOffLonger 4 = .ok (.getfield 31, 3) := by decide +kernel
theorem dX2_lieOffLonger_7 : decode cX2_lieOffLonger 7 = .ok (.getfield 53, 3) := by decide +kernel
theorem dX2_lieOffLonger_10 : decode cX2_lieOffLonger 10 = .ok (.if_icmp .ge 59, 3) := by decide +kernel
theorem dX2_lieOffLonger_13 : decode cX2_lieOffLonger 13 = .ok (.aload_n 0, 1) := by decide +kernel
theorem dX2_lieOffLonger_14 : decode cX2_lieOffLonger 14 = .ok (.iload_n 1, 1) := by decide +kernel
theorem dX2_lieOffLonger_15 : decode cX2_lieOffLonger 15 = .ok (.invokevirtual 93, 3) := by decide +kernel
theorem dX2_lieOffLonger_18 : decode cX2_lieOffLonger 18 = .ok (.ifCond .eq 45, 3) := by decide +kernel
theorem dX2_lieOffLonger_21 : decode cX2_lieOffLonger 21 = .ok (.aload_n 0, 1) := by decide +kernel
theorem dX2_lieOffLonger_22 : decode cX2_lieOffLonger 22 = .ok (.getfield 15, 3) := by decide +kernel
theorem dX2_lieOffLonger_25 : decode cX2_lieOffLonger 25 = .ok (.iload_n 1, 1) := by decide +kernel
theorem dX2_lieOffLonger_26 : decode cX2_lieOffLonger 26 = .ok (.dup2, 1) := by decide +kernel
theorem dX2_lieOffLonger_27 : decode cX2_lieOffLonger 27 = .ok (.iaload, 1) := by decide +kernel
theorem dX2_lieOffLonger_28 : decode cX2_lieOffLonger 28 = .ok (.iconst 1, 1) := by decide +kernel
theorem dX2_lieOffLonger_29 : decode cX2_lieOffLonger 29 = .ok (.iadd, 1) := by decide +kernel
theorem dX2_lieOffLonger_30 : decode cX2_lieOffLonger 30 = .ok (.iastore, 1) := by decide +kernel
theorem dX2_lieOffLonger_31 : decode cX2_lieOffLonger 31 = .ok (.aload_n 0, 1) := by decide +kernel
theorem dX2_lieOffLonger_32 : decode cX2_lieOffLonger 32 = .ok (.getfield 31, 3) := by decide +kernel
theorem dX2_lieOffLonger_35 : decode cX2_lieOffLonger 35 = .ok (.getfield 70, 3) := by decide +kernel
theorem dX2_lieOffLonger_38 : decode cX2_lieOffLonger 38 = .ok (.iload_n 1, 1) := by decide +kernel
theorem dX2_lieOffLonger_39 : decode cX2_lieOffLonger 39 = .ok (.iaload, 1) := by decide +kernel
theorem dX2_lieOffLonger_40 : decode cX2_lieOffLonger 40 = .ok (.iconst 2, 1) := by decide +kernel
theorem dX2_lieOffLonger_41 : decode cX2_lieOffLonger 41 = .ok (.if_icmp .ne 22, 3) := by decide +kernel
theorem dX2_lieOffLonger_44 : decode cX2_lieOffLonger 44 = .ok (.aload_n 0, 1) := by decide +kernel
theorem dX2_lieOffLonger_45 : decode cX2_lieOffLonger 45 = .ok (.getfield 18, 3) := by decide +kernel
theorem dX2_lieOffLonger_48 : decode cX2_lieOffLonger 48 = .ok (.iload_n 1, 1) := by decide +kernel
theorem dX2_lieOffLonger_49 : decode cX2_lieOffLonger 49 = .ok (.bipush 9, 2) := by decide +kernel
theorem dX2_lieOffLonger_51 : decode cX2_lieOffLonger 51 = .ok (.aload_n 0, 1) := by decide +kernel
theorem dX2_lieOffLonger_52 : decode cX2_lieOffLonger 52 = .ok (.getfield 18, 3) := by decide +kernel
theorem dX2_lieOffLonger_55 : decode cX2_lieOffLonger 55 = .ok (.iload_n 1, 1) := by decide +kernel
theorem dX2_lieOffLonger_56 : decode cX2_lieOffLonger 56 = .ok (.iaload, 1) := by decide +kernel
theorem dX2_lieOffLonger_57 : decode cX2_lieOffLonger 57 = .ok (.iconst 1, 1) := by decide +kernel
theorem dX2_lieOffLonger_58 : decode cX2_lieOffLonger 58 = .ok (.iadd, 1) := by decide +kernel
theorem dX2_lieOffLonger_59 : decode cX2_lieOffLonger 59 = .ok (.invokestatic 124, 3) := by decide +kernel
theorem dX2_lieOffLonger_62 : decode cX2_lieOffLonger 62 = .ok (.iastore, 1) := by decide +kernel
theorem dX2_lieOffLonger_63 : decode cX2_lieOffLonger 63 = .ok (.iinc 1 1, 3) := by decide +kernel
theorem dX2_lieOffLonger_66 : decode cX2_lieOffLonger 66 = .ok (.goto (-64), 3) := by decide +kernel
theorem dX2_lieOffLonger_69 : decode cX2_lieOffLonger 69 = .ok (.return_, 1) := by decide +kernel
theorem dX2_bringNightmares_0 : decode cX2_bringNightmares 0 = .ok (.iconst 0, 1) := by decide +kernel
theorem dX2_bringNightmares_1 : decode cX2_bringNightmares 1 = .ok (.istore_n 1, 1) := by decide +kernel
theorem dX2_bringNightmares_2 : decode cX2_bringNightmares 2 = .ok (.iload_n 1, 1) := by decide +kernel
theorem dX2_bringNightmares_3 : decode cX2_bringNightmares 3 = .ok (.aload_n 0, 1) := by decide +kernel
theorem dX2_bringNightmares_4 : decode cX2_bringNightmares 4 = .ok (.getfield 31, 3) := by decide +kernel
theorem dX2_bringNightmares_7 : decode cX2_bringNightmares 7 = .ok (.getfield 53, 3) := by decide +kernel
theorem dX2_bringNightmares_10 : decode cX2_bringNightmares 10 = .ok (.if_icmp .ge 45, 3) := by decide +kernel
theorem dX2_bringNightmares_13 : decode cX2_bringNightmares 13 = .ok (.aload_n 0, 1) := by decide +kernel
theorem dX2_bringNightmares_14 : decode cX2_bringNightmares 14 = .ok (.getfield 31, 3) := by decide +kernel
theorem dX2_bringNightmares_17 : decode cX2_bringNightmares 17 = .ok (.getfield 70, 3) := by decide +kernel
theorem dX2_bringNightmares_20 : decode cX2_bringNightmares 20 = .ok (.iload_n 1, 1) := by decide +kernel
theorem dX2_bringNightmares_21 : decode cX2_bringNightmares 21 = .ok (.iaload, 1) := by decide +kernel
theorem dX2_bringNightmares_22 : decode cX2_bringNightmares 22 = .ok (.iconst 1, 1) := by decide +kernel
theorem dX2_bringNightmares_23 : decode cX2_bringNightmares 23 = .ok (.if_icmp .ne 26, 3) := by decide +kernel
theorem dX2_bringNightmares_26 : decode cX2_bringNightmares 26 = .ok (.aload_n 0, 1) := by decide +kernel
theorem dX2_bringNightmares_27 : decode cX2_bringNightmares 27 = .ok (.iload_n 1, 1) := by decide +kernel
theorem dX2_bringNightmares_28 : decode cX2_bringNightmares 28 = .ok (.invokevirtual 93, 3) := by decide +kernel
theorem dX2_bringNightmares_31 : decode cX2_bringNightmares 31 = .ok (.ifCond .eq 18, 3) := by decide +kernel
theorem dX2_bringNightmares_34 : decode cX2_bringNightmares 34 = .ok (.aload_n 0, 1) := by decide +kernel
theorem dX2_bringNightmares_35 : decode cX2_bringNightmares 35 = .ok (.getfield 15, 3) := by decide +kernel
theorem dX2_bringNightmares_38 : decode cX2_bringNightmares 38 = .ok (.iload_n 1, 1) := by decide +kernel
theorem dX2_bringNightmares_39 : decode cX2_bringNightmares 39 = .ok (.iaload, 1) := by decide +kernel
theorem dX2_bringNightmares_40 : decode cX2_bringNightmares 40 = .ok (.iconst 3, 1) := by decide +kernel
theorem dX2_bringNightmares_41 : decode cX2_bringNightmares 41 = .ok (.if_icmp .lt 8, 3) := by decide +kernel
theorem dX2_bringNightmares_44 : decode cX2_bringNightmares 44 = .ok (.aload_n 0, 1) := by decide +kernel
theorem dX2_bringNightmares_45 : decode cX2_bringNightmares 45 = .ok (.iload_n 1, 1) := by decide +kernel
theorem dX2_bringNightmares_46 : decode cX2_bringNightmares 46 = .ok (.invokevirtual 127, 3) := by decide +kernel
theorem dX2_bringNightmares_49 : decode cX2_bringNightmares 49 = .ok (.iinc 1 1, 3) := by decide +kernel
theorem dX2_bringNightmares_52 : decode cX2_bringNightmares 52 = .ok (.goto (-50), 3) := by decide +kernel
theorem dX2_bringNightmares_55 : decode cX2_bringNightmares 55 = .ok (.return_, 1) := by decide +kernel
theorem dX2_moorInLeast_0 : decode cX2_moorInLeast 0 = .ok (.iconst 0, 1) := by decide +kernel
theorem dX2_moorInLeast_1 : decode cX2_moorInLeast 1 = .ok (.istore_n 2, 1) := by decide +kernel
theorem dX2_moorInLeast_2 : decode cX2_moorInLeast 2 = .ok (.iload_n 2, 1) := by decide +kernel
theorem dX2_moorInLeast_3 : decode cX2_moorInLeast 3 = .ok (.aload_n 0, 1) := by decide +kernel
theorem dX2_moorInLeast_4 : decode cX2_moorInLeast 4 = .ok (.getfield 31, 3) := by decide +kernel
theorem dX2_moorInLeast_7 : decode cX2_moorInLeast 7 = .ok (.getfield 64, 3) := by decide +kernel
theorem dX2_moorInLeast_10 : decode cX2_moorInLeast 10 = .ok (.if_icmp .ge 26, 3) := by decide +kernel
theorem dX2_moorInLeast_13 : decode cX2_moorInLeast 13 = .ok (.aload_n 0, 1) := by decide +kernel
theorem dX2_moorInLeast_14 : decode cX2_moorInLeast 14 = .ok (.iload_n 1, 1) := by decide +kernel
theorem dX2_moorInLeast_15 : decode cX2_moorInLeast 15 = .ok (.iload_n 2, 1) := by decide +kernel
theorem dX2_moorInLeast_16 : decode cX2_moorInLeast 16 = .ok (.invokevirtual 80, 3) := by decide +kernel
theorem dX2_moorInLeast_19 : decode cX2_moorInLeast 19 = .ok (.ifCond .eq 11, 3) := by decide +kernel
theorem dX2_moorInLeast_22 : decode cX2_moorInLeast 22 = .ok (.aload_n 0, 1) := by decide +kernel
theorem dX2_moorInLeast_23 : decode cX2_moorInLeast 23 = .ok (.getfield 9, 3) := by decide +kernel
theorem dX2_moorInLeast_26 : decode cX2_moorInLeast 26 = .ok (.iload_n 1, 1) := by decide +kernel
theorem dX2_moorInLeast_27 : decode cX2_moorInLeast 27 = .ok (.iload_n 2, 1) := by decide +kernel
theorem dX2_moorInLeast_28 : decode cX2_moorInLeast 28 = .ok (.iastore, 1) := by decide +kernel
theorem dX2_moorInLeast_29 : decode cX2_moorInLeast 29 = .ok (.return_, 1) := by decide +kernel
theorem dX2_moorInLeast_30 : decode cX2_moorInLeast 30 = .ok (.iinc 2 1, 3) := by decide +kernel
theorem dX2_moorInLeast_33 : decode cX2_moorInLeast 33 = .ok (.goto (-31), 3) := by decide +kernel
theorem dX2_moorInLeast_36 : decode cX2_moorInLeast 36 = .ok (.return_, 1) := by decide +kernel
theorem dX2_dredge_0 : decode cX2_dredge 0 = .ok (.iconst 0, 1) := by decide +kernel
theorem dX2_dredge_1 : decode cX2_dredge 1 = .ok (.istore_n 1, 1) := by decide +kernel
theorem dX2_dredge_2 : decode cX2_dredge 2 = .ok (.iload_n 1, 1) := by decide +kernel
theorem dX2_dredge_3 : decode cX2_dredge 3 = .ok (.aload_n 0, 1) := by decide +kernel
theorem dX2_dredge_4 : decode cX2_dredge 4 = .ok (.getfield 31, 3) := by decide +kernel
theorem dX2_dredge_7 : decode cX2_dredge 7 = .ok (.getfield 64, 3) := by decide +kernel
theorem dX2_dredge_10 : decode cX2_dredge 10 = .ok (.if_icmp .ge 41, 3) := by decide +kernel
theorem dX2_dredge_13 : decode cX2_dredge 13 = .ok (.aload_n 0, 1) := by decide +kernel
theorem dX2_dredge_14 : decode cX2_dredge 14 = .ok (.getfield 31, 3) := by decide +kernel
theorem dX2_dredge_17 : decode cX2_dredge 17 = .ok (.getfield 67, 3) := by decide +kernel
theorem dX2_dredge_20 : decode cX2_dredge 20 = .ok (.iload_n 1, 1) := by decide +kernel
theorem dX2_dredge_21 : decode cX2_dredge 21 = .ok (.iaload, 1) := by decide +kernel
theorem dX2_dredge_22 : decode cX2_dredge 22 = .ok (.iconst 3, 1) := by decide +kernel
theorem dX2_dredge_23 : decode cX2_dredge 23 = .ok (.if_icmp .ne 22, 3) := by decide +kernel
theorem dX2_dredge_26 : decode cX2_dredge 26 = .ok (.aload_n 0, 1) := by decide +kernel
theorem dX2_dredge_27 : decode cX2_dredge 27 = .ok (.getfield 21, 3) := by decide +kernel
theorem dX2_dredge_30 : decode cX2_dredge 30 = .ok (.iload_n 1, 1) := by decide +kernel
theorem dX2_dredge_31 : decode cX2_dredge 31 = .ok (.bipush 9, 2) := by decide +kernel
theorem dX2_dredge_33 : decode cX2_dredge 33 = .ok (.aload_n 0, 1) := by decide +kernel
theorem dX2_dredge_34 : decode cX2_dredge 34 = .ok (.getfield 21, 3) := by decide +kernel
theorem dX2_dredge_37 : decode cX2_dredge 37 = .ok (.iload_n 1, 1) := by decide +kernel
theorem dX2_dredge_38 : decode cX2_dredge 38 = .ok (.iaload, 1) := by decide +kernel
theorem dX2_dredge_39 : decode cX2_dredge 39 = .ok (.iconst 1, 1) := by decide +kernel
theorem dX2_dredge_40 : decode cX2_dredge 40 = .ok (.iadd, 1) := by decide +kernel
theorem dX2_dredge_41 : decode cX2_dredge 41 = .ok (.invokestatic 124, 3) := by decide +kernel
theorem dX2_dredge_44 : decode cX2_dredge 44 = .ok (.iastore, 1) := by decide +kernel
theorem dX2_dredge_45 : decode cX2_dredge 45 = .ok (.iinc 1 1, 3) := by decide +kernel
theorem dX2_dredge_48 : decode cX2_dredge 48 = .ok (.goto (-46), 3) := by decide +kernel
theorem dX2_dredge_51 : decode cX2_dredge 51 = .ok (.return_, 1) := by decide +kernel
theorem dX2_does_0 : decode cX2_does 0 = .ok (.iload_n 1, 1) := by decide +kernel
theorem dX2_does_1 : decode cX2_does 1 = .ok (.bipush 10, 2) := by decide +kernel
theorem dX2_does_3 : decode cX2_does 3 = .ok (.idiv, 1) := by decide +kernel
theorem dX2_does_4 : decode cX2_does 4 = .ok (.bipush 10, 2) := by decide +kernel
theorem dX2_does_6 : decode cX2_does 6 = .ok (.irem, 1) := by decide +kernel
theorem dX2_does_7 : decode cX2_does 7 = .ok (.istore_n 2, 1) := by decide +kernel
theorem dX2_does_8 : decode cX2_does 8 = .ok (.iload_n 1, 1) := by decide +kernel
theorem dX2_does_9 : decode cX2_does 9 = .ok (.bipush 10, 2) := by decide +kernel
theorem dX2_does_11 : decode cX2_does 11 = .ok (.irem, 1) := by decide +kernel
theorem dX2_does_12 : decode cX2_does 12 = .ok (.istore_n 3, 1) := by decide +kernel
theorem dX2_does_13 : decode cX2_does 13 = .ok (.iload_n 1, 1) := by decide +kernel
theorem dX2_does_14 : decode cX2_does 14 = .ok (.bipush 100, 2) := by decide +kernel
theorem dX2_does_16 : decode cX2_does 16 = .ok (.idiv, 1) := by decide +kernel
theorem dX2_does_17 : decode cX2_does 17 = .ok (.tableswitch 174 0 5 #[39, 52, 59, 77, 109, 147], 39) := by decide +kernel
theorem dX2_does_56 : decode cX2_does 56 = .ok (.iload_n 1, 1) := by decide +kernel
theorem dX2_does_57 : decode cX2_does 57 = .ok (.ifCond .eq 5, 3) := by decide +kernel
theorem dX2_does_60 : decode cX2_does 60 = .ok (.iconst 0, 1) := by decide +kernel
theorem dX2_does_61 : decode cX2_does 61 = .ok (.ireturn, 1) := by decide +kernel
theorem dX2_does_62 : decode cX2_does 62 = .ok (.aload_n 0, 1) := by decide +kernel
theorem dX2_does_63 : decode cX2_does 63 = .ok (.invokevirtual 131, 3) := by decide +kernel
theorem dX2_does_66 : decode cX2_does 66 = .ok (.pop, 1) := by decide +kernel
theorem dX2_does_67 : decode cX2_does 67 = .ok (.iconst 1, 1) := by decide +kernel
theorem dX2_does_68 : decode cX2_does 68 = .ok (.ireturn, 1) := by decide +kernel
theorem dX2_does_69 : decode cX2_does 69 = .ok (.aload_n 0, 1) := by decide +kernel
theorem dX2_does_70 : decode cX2_does 70 = .ok (.iload_n 2, 1) := by decide +kernel
theorem dX2_does_71 : decode cX2_does 71 = .ok (.iload_n 3, 1) := by decide +kernel
theorem dX2_does_72 : decode cX2_does 72 = .ok (.invokevirtual 134, 3) := by decide +kernel
