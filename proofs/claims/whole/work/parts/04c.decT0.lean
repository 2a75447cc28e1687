theorem dX6_beginAnew_0 : decode cX6_beginAnew 0 = .ok (.aload_n 0, 1) := by decide +kernel
theorem dX6_beginAnew_1 : decode cX6_beginAnew 1 = .ok (.iconst 0, 1) := by decide +kernel
theorem dX6_beginAnew_2 : decode cX6_beginAnew 2 = .ok (.putfield 27, 3) := by decide +kernel
theorem dX6_beginAnew_5 : decode cX6_beginAnew 5 = .ok (.aload_n 0, 1) := by decide +kernel
theorem dX6_beginAnew_6 : decode cX6_beginAnew 6 = .ok (.iconst 0, 1) := by decide +kernel
theorem dX6_beginAnew_7 : decode cX6_beginAnew 7 = .ok (.putfield 31, 3) := by decide +kernel
theorem dX6_beginAnew_10 : decode cX6_beginAnew 10 = .ok (.aload_n 0, 1) := by decide +kernel
theorem dX6_beginAnew_11 : decode cX6_beginAnew 11 = .ok (.iconst 0, 1) := by decide +kernel
theorem dX6_beginAnew_12 : decode cX6_beginAnew 12 = .ok (.putfield 34, 3) := by decide +kernel
theorem dX6_beginAnew_15 : decode cX6_beginAnew 15 = .ok (.aload_n 0, 1) := by decide +kernel
theorem dX6_beginAnew_16 : decode cX6_beginAnew 16 = .ok (.iconst 0, 1) := by decide +kernel
theorem dX6_beginAnew_17 : decode cX6_beginAnew 17 = .ok (.putfield 37, 3) := by decide +kernel
theorem dX6_beginAnew_20 : decode cX6_beginAnew 20 = .ok (.aload_n 0, 1) := by decide +kernel
theorem dX6_beginAnew_21 : decode cX6_beginAnew 21 = .ok (.bipush (-9), 2) := by decide +kernel
theorem dX6_beginAnew_23 : decode cX6_beginAnew 23 = .ok (.putfield 40, 3) := by decide +kernel
theorem dX6_beginAnew_26 : decode cX6_beginAnew 26 = .ok (.return_, 1) := by decide +kernel
theorem dX6_mayEnd_0 : decode cX6_mayEnd 0 = .ok (.aload_n 0, 1) := by decide +kernel
theorem dX6_mayEnd_1 : decode cX6_mayEnd 1 = .ok (.getfield 37, 3) := by decide +kernel
theorem dX6_mayEnd_4 : decode cX6_mayEnd 4 = .ok (.iconst 1, 1) := by decide +kernel
theorem dX6_mayEnd_5 : decode cX6_mayEnd 5 = .ok (.if_icmp .ne 7, 3) := by decide +kernel
theorem dX6_mayEnd_8 : decode cX6_mayEnd 8 = .ok (.iconst 1, 1) := by decide +kernel
theorem dX6_mayEnd_9 : decode cX6_mayEnd 9 = .ok (.goto 4, 3) := by decide +kernel
theorem dX6_mayEnd_12 : decode cX6_mayEnd 12 = .ok (.iconst 0, 1) := by decide +kernel
theorem dX6_mayEnd_13 : decode cX6_mayEnd 13 = .ok (.ireturn, 1) := by decide +kernel
theorem dX6_hasBerth_0 : decode cX6_hasBerth 0 = .ok (.iload_n 1, 1) := by decide +kernel
theorem dX6_hasBerth_1 : decode cX6_hasBerth 1 = .ok (.ifCond .lt 15, 3) := by decide +kernel
theorem dX6_hasBerth_4 : decode cX6_hasBerth 4 = .ok (.iload_n 1, 1) := by decide +kernel
theorem dX6_hasBerth_5 : decode cX6_hasBerth 5 = .ok (.aload_n 0, 1) := by decide +kernel
theorem dX6_hasBerth_6 : decode cX6_hasBerth 6 = .ok (.getfield 31, 3) := by decide +kernel
theorem dX6_hasBerth_9 : decode cX6_hasBerth 9 = .ok (.if_icmp .ge 7, 3) := by decide +kernel
theorem dX6_hasBerth_12 : decode cX6_hasBerth 12 = .ok (.iconst 1, 1) := by decide +kernel
theorem dX6_hasBerth_13 : decode cX6_hasBerth 13 = .ok (.goto 4, 3) := by decide +kernel
theorem dX6_hasBerth_16 : decode cX6_hasBerth 16 = .ok (.iconst 0, 1) := by decide +kernel
theorem dX6_hasBerth_17 : decode cX6_hasBerth 17 = .ok (.ireturn, 1) := by decide +kernel
theorem dX6_hasDream_0 : decode cX6_hasDream 0 = .ok (.iload_n 1, 1) := by decide +kernel
theorem dX6_hasDream_1 : decode cX6_hasDream 1 = .ok (.ifCond .lt 15, 3) := by decide +kernel
theorem dX6_hasDream_4 : decode cX6_hasDream 4 = .ok (.iload_n 1, 1) := by decide +kernel
theorem dX6_hasDream_5 : decode cX6_hasDream 5 = .ok (.aload_n 0, 1) := by decide +kernel
theorem dX6_hasDream_6 : decode cX6_hasDream 6 = .ok (.getfield 34, 3) := by decide +kernel
theorem dX6_hasDream_9 : decode cX6_hasDream 9 = .ok (.if_icmp .ge 7, 3) := by decide +kernel
theorem dX6_hasDream_12 : decode cX6_hasDream 12 = .ok (.iconst 1, 1) := by decide +kernel
theorem dX6_hasDream_13 : decode cX6_hasDream 13 = .ok (.goto 4, 3) := by decide +kernel
theorem dX6_hasDream_16 : decode cX6_hasDream 16 = .ok (.iconst 0, 1) := by decide +kernel
theorem dX6_hasDream_17 : decode cX6_hasDream 17 = .ok (.ireturn, 1) := by decide +kernel
theorem dX6_tideOn_0 : decode cX6_tideOn 0 = .ok (.aload_n 0, 1) := by decide +kernel
theorem dX6_tideOn_1 : decode cX6_tideOn 1 = .ok (.getfield 27, 3) := by decide +kernel
theorem dX6_tideOn_4 : decode cX6_tideOn 4 = .ok (.ifCond .ne 7, 3) := by decide +kernel
theorem dX6_tideOn_7 : decode cX6_tideOn 7 = .ok (.iconst 0, 1) := by decide +kernel
theorem dX6_tideOn_8 : decode cX6_tideOn 8 = .ok (.goto 16, 3) := by decide +kernel
theorem dX6_tideOn_11 : decode cX6_tideOn 11 = .ok (.aload_n 0, 1) := by decide +kernel
theorem dX6_tideOn_12 : decode cX6_tideOn 12 = .ok (.getfield 9, 3) := by decide +kernel
theorem dX6_tideOn_15 : decode cX6_tideOn 15 = .ok (.iload_n 1, 1) := by decide +kernel
theorem dX6_tideOn_16 : decode cX6_tideOn 16 = .ok (.aload_n 0, 1) := by decide +kernel
theorem dX6_tideOn_17 : decode cX6_tideOn 17 = .ok (.getfield 27, 3) := by decide +kernel
theorem dX6_tideOn_20 : decode cX6_tideOn 20 = .ok (.invokestatic 43, 3) := by decide +kernel
theorem dX6_tideOn_23 : decode cX6_tideOn 23 = .ok (.iaload, 1) := by decide +kernel
theorem dX6_tideOn_24 : decode cX6_tideOn 24 = .ok (.ireturn, 1) := by decide +kernel
theorem dX6_hears_0 : decode cX6_hears 0 = .ok (.aload_n 0, 1) := by decide +kernel
theorem dX6_hears_1 : decode cX6_hears 1 = .ok (.getfield 37, 3) := by decide +kernel
theorem dX6_hears_4 : decode cX6_hears 4 = .ok (.ifCond .ne 20, 3) := by decide +kernel
theorem dX6_hears_7 : decode cX6_hears 7 = .ok (.aload_n 0, 1) := by decide +kernel
theorem dX6_hears_8 : decode cX6_hears 8 = .ok (.iconst 1, 1) := by decide +kernel
theorem dX6_hears_9 : decode cX6_hears 9 = .ok (.putfield 37, 3) := by decide +kernel
theorem dX6_hears_12 : decode cX6_hears 12 = .ok (.iload_n 1, 1) := by decide +kernel
theorem dX6_hears_13 : decode cX6_hears 13 = .ok (.bipush 72, 2) := by decide +kernel
theorem dX6_hears_15 : decode cX6_hears 15 = .ok (.if_icmp .ne 7, 3) := by decide +kernel
theorem dX6_hears_18 : decode cX6_hears 18 = .ok (.iconst 1, 1) := by decide +kernel
theorem dX6_hears_19 : decode cX6_hears 19 = .ok (.goto 4, 3) := by decide +kernel
theorem dX6_hears_22 : decode cX6_hears 22 = .ok (.iconst 0, 1) := by decide +kernel
theorem dX6_hears_23 : decode cX6_hears 23 = .ok (.ireturn, 1) := by decide +kernel
theorem dX6_hears_24 : decode cX6_hears 24 = .ok (.aload_n 0, 1) := by decide +kernel
theorem dX6_hears_25 : decode cX6_hears 25 = .ok (.getfield 37, 3) := by decide +kernel
theorem dX6_hears_28 : decode cX6_hears 28 = .ok (.iconst 1, 1) := by decide +kernel
theorem dX6_hears_29 : decode cX6_hears 29 = .ok (.if_icmp .ne 20, 3) := by decide +kernel
theorem dX6_hears_32 : decode cX6_hears 32 = .ok (.aload_n 0, 1) := by decide +kernel
theorem dX6_hears_33 : decode cX6_hears 33 = .ok (.iload_n 1, 1) := by decide +kernel
theorem dX6_hears_34 : decode cX6_hears 34 = .ok (.putfield 37, 3) := by decide +kernel
theorem dX6_hears_37 : decode cX6_hears 37 = .ok (.aload_n 0, 1) := by decide +kernel
theorem dX6_hears_38 : decode cX6_hears 38 = .ok (.bipush (-9), 2) := by decide +kernel
theorem dX6_hears_40 : decode cX6_hears 40 = .ok (.putfield 40, 3) := by decide +kernel
theorem dX6_hears_43 : decode cX6_hears 43 = .ok (.aload_n 0, 1) := by decide +kernel
theorem dX6_hears_44 : decode cX6_hears 44 = .ok (.iload_n 1, 1) := by decide +kernel
theorem dX6_hears_45 : decode cX6_hears 45 = .ok (.invokevirtual 49, 3) := by decide +kernel
theorem dX6_hears_48 : decode cX6_hears 48 = .ok (.ireturn, 1) := by decide +kernel
theorem dX6_hears_49 : decode cX6_hears 49 = .ok (.iload_n 1, 1) := by decide +kernel
theorem dX6_hears_50 : decode cX6_hears 50 = .ok (.bipush 48, 2) := by decide +kernel
theorem dX6_hears_52 : decode cX6_hears 52 = .ok (.if_icmp .lt 9, 3) := by decide +kernel
theorem dX6_hears_55 : decode cX6_hears 55 = .ok (.iload_n 1, 1) := by decide +kernel
theorem dX6_hears_56 : decode cX6_hears 56 = .ok (.bipush 57, 2) := by decide +kernel
theorem dX6_hears_58 : decode cX6_hears 58 = .ok (.if_icmp .le 5, 3) := by decide +kernel
theorem dX6_hears_61 : decode cX6_hears 61 = .ok (.iconst 0, 1) := by decide +kernel
theorem dX6_hears_62 : decode cX6_hears 62 = .ok (.ireturn, 1) := by decide +kernel
theorem dX6_hears_63 : decode cX6_hears 63 = .ok (.aload_n 0, 1) := by decide +kernel
theorem dX6_hears_64 : decode cX6_hears 64 = .ok (.getfield 40, 3) := by decide +kernel
theorem dX6_hears_67 : decode cX6_hears 67 = .ok (.bipush (-9), 2) := by decide +kernel
theorem dX6_hears_69 : decode cX6_hears 69 = .ok (.if_icmp .ne 14, 3) := by decide +kernel
theorem dX6_hears_72 : decode cX6_hears 72 = .ok (.aload_n 0, 1) := by decide +kernel
theorem dX6_hears_73 : decode cX6_hears 73 = .ok (.iload_n 1, 1) := by decide +kernel
theorem dX6_hears_74 : decode cX6_hears 74 = .ok (.bipush 48, 2) := by decide +kernel
theorem dX6_hears_76 : decode cX6_hears 76 = .ok (.isub, 1) := by decide +kernel
theorem dX6_hears_77 : decode cX6_hears 77 = .ok (.invokevirtual 53, 3) := by decide +kernel
theorem dX6_hears_80 : decode cX6_hears 80 = .ok (.goto 11, 3) := by decide +kernel
theorem dX6_hears_83 : decode cX6_hears 83 = .ok (.aload_n 0, 1) := by decide +kernel
theorem dX6_hears_84 : decode cX6_hears 84 = .ok (.iload_n 1, 1) := by decide +kernel
theorem dX6_hears_85 : decode cX6_hears 85 = .ok (.bipush 48, 2) := by decide +kernel
theorem dX6_hears_87 : decode cX6_hears 87 = .ok (.isub, 1) := by decide +kernel
theorem dX6_hears_88 : decode cX6_hears 88 = .ok (.invokevirtual 56, 3) := by decide +kernel
theorem dX6_hears_91 : decode cX6_hears 91 = .ok (.ireturn, 1) := by decide +kernel
theorem dX6_hasRoomFor_0 : decode cX6_hasRoomFor 0 = .ok (.iload_n 1, 1) := by decide +kernel
theorem dX6_hasRoomFor_1 : decode cX6_hasRoomFor 1 = .ok (.lookupswitch 77 #[(66, 49), (68, 63), (84, 35)], 35) := by decide +kernel
theorem dX6_hasRoomFor_36 : decode cX6_hasRoomFor 36 = .ok (.aload_n 0, 1) := by decide +kernel
theorem dX6_hasRoomFor_37 : decode cX6_hasRoomFor 37 = .ok (.getfield 27, 3) := by decide +kernel
theorem dX6_hasRoomFor_40 : decode cX6_hasRoomFor 40 = .ok (.iconst 4, 1) := by decide +kernel
theorem dX6_hasRoomFor_41 : decode cX6_hasRoomFor 41 = .ok (.if_icmp .ge 7, 3) := by decide +kernel
theorem dX6_hasRoomFor_44 : decode cX6_hasRoomFor 44 = .ok (.iconst 1, 1) := by decide +kernel
theorem dX6_hasRoomFor_45 : decode cX6_hasRoomFor 45 = .ok (.goto 4, 3) := by decide +kernel
theorem dX6_hasRoomFor_48 : decode cX6_hasRoomFor 48 = .ok (.iconst 0, 1) := by decide +kernel
theorem dX6_hasRoomFor_49 : decode cX6_hasRoomFor 49 = .ok (.ireturn, 1) := by decide +kernel
theorem dX6_hasRoomFor_50 : decode cX6_hasRoomFor 50 = .ok (.aload_n 0, 1) := by decide +kernel
theorem dX6_hasRoomFor_51 : decode cX6_hasRoomFor 51 = .ok (.getfield 31, 3) := by decide +kernel
theorem dX6_hasRoomFor_54 : decode cX6_hasRoomFor 54 = .ok (.iconst 4, 1) := by decide +kernel
theorem dX6_hasRoomFor_55 : decode cX6_hasRoomFor 55 = .ok (.if_icmp .ge 7, 3) := by decide +kernel
theorem dX6_hasRoomFor_58 : decode cX6_hasRoomFor 58 = .ok (.iconst 1, 1) := by decide +kernel
theorem dX6_hasRoomFor_59 : decode cX6_hasRoomFor 59 = .ok (.goto 4, 3) := by decide +kernel
theorem dX6_hasRoomFor_62 : decode cX6_hasRoomFor 62 = .ok (.iconst 0, 1) := by decide +kernel
theorem dX6_hasRoomFor_63 : decode cX6_hasRoomFor 63 = .ok (.ireturn, 1) := by decide +kernel
theorem dX6_hasRoomFor_64 : decode cX6_hasRoomFor 64 = .ok (.aload_n 0, 1) := by decide +kernel
theorem dX6_hasRoomFor_65 : decode cX6_hasRoomFor 65 = .ok (.getfield 34, 3) := by decide +kernel
theorem dX6_hasRoomFor_68 : decode cX6_hasRoomFor 68 = .ok (.iconst 5, 1) := by decide +kernel
theorem dX6_hasRoomFor_69 : decode cX6_hasRoomFor 69 = .ok (.if_icmp .ge 7, 3) := by decide +kernel
theorem dX6_hasRoomFor_72 : decode cX6_hasRoomFor 72 = .ok (.iconst 1, 1) := by decide +kernel
theorem dX6_hasRoomFor_73 : decode cX6_hasRoomFor 73 = .ok (.goto 4, 3) := by decide +kernel
theorem dX6_hasRoomFor_76 : decode cX6_hasRoomFor 76 = .ok (.iconst 0, 1) := by decide +kernel
theorem dX6_hasRoomFor_77 : decode cX6_hasRoomFor 77 = .ok (.ireturn, 1) := by decide +kernel
theorem dX6_hasRoomFor_78 : decode cX6_hasRoomFor 78 = .ok (.iconst 0, 1) := by decide +kernel
theorem dX6_hasRoomFor_79 : decode cX6_hasRoomFor 79 = .ok (.ireturn, 1) := by decide +kernel
theorem dX6_hearsFirst_0 : decode cX6_hearsFirst 0 = .ok (.aload_n 0, 1) := by decide +kernel
theorem dX6_hearsFirst_1 : decode cX6_hearsFirst 1 = .ok (.getfield 37, 3) := by decide +kernel
theorem dX6_hearsFirst_4 : decode cX6_hearsFirst 4 = .ok (.bipush 68, 2) := by decide +kernel
theorem dX6_hearsFirst_6 : decode cX6_hearsFirst 6 = .ok (.if_icmp .ne 9, 3) := by decide +kernel
theorem dX6_hearsFirst_9 : decode cX6_hearsFirst 9 = .ok (.iload_n 1, 1) := by decide +kernel
theorem dX6_hearsFirst_10 : decode cX6_hearsFirst 10 = .ok (.ifCond .ne 5, 3) := by decide +kernel
theorem dX6_hearsFirst_13 : decode cX6_hearsFirst 13 = .ok (.iconst 0, 1) := by decide +kernel
theorem dX6_hearsFirst_14 : decode cX6_hearsFirst 14 = .ok (.ireturn, 1) := by decide +kernel
theorem dX6_hearsFirst_15 : decode cX6_hearsFirst 15 = .ok (.aload_n 0, 1) := by decide +kernel
theorem dX6_hearsFirst_16 : decode cX6_hearsFirst 16 = .ok (.getfield 37, 3) := by decide +kernel
theorem dX6_hearsFirst_19 : decode cX6_hearsFirst 19 = .ok (.bipush 84, 2) := by decide +kernel
theorem dX6_hearsFirst_21 : decode cX6_hearsFirst 21 = .ok (.if_icmp .ne 31, 3) := by decide +kernel
theorem dX6_hearsFirst_24 : decode cX6_hearsFirst 24 = .ok (.aload_n 0, 1) := by decide +kernel
theorem dX6_hearsFirst_25 : decode cX6_hearsFirst 25 = .ok (.getfield 9, 3) := by decide +kernel
theorem dX6_hearsFirst_28 : decode cX6_hearsFirst 28 = .ok (.aload_n 0, 1) := by decide +kernel
theorem dX6_hearsFirst_29 : decode cX6_hearsFirst 29 = .ok (.getfield 27, 3) := by decide +kernel
theorem dX6_hearsFirst_32 : decode cX6_hearsFirst 32 = .ok (.iload_n 1, 1) := by decide +kernel
theorem dX6_hearsFirst_33 : decode cX6_hearsFirst 33 = .ok (.iastore, 1) := by decide +kernel
theorem dX6_hearsFirst_34 : decode cX6_hearsFirst 34 = .ok (.aload_n 0, 1) := by decide +kernel
theorem dX6_hearsFirst_35 : decode cX6_hearsFirst 35 = .ok (.dup, 1) := by decide +kernel
theorem dX6_hearsFirst_36 : decode cX6_hearsFirst 36 = .ok (.getfield 27, 3) := by decide +kernel
theorem dX6_hearsFirst_39 : decode cX6_hearsFirst 39 = .ok (.iconst 1, 1) := by decide +kernel
theorem dX6_hearsFirst_40 : decode cX6_hearsFirst 40 = .ok (.iadd, 1) := by decide +kernel
theorem dX6_hearsFirst_41 : decode cX6_hearsFirst 41 = .ok (.putfield 27, 3) := by decide +kernel
theorem dX6_hearsFirst_44 : decode cX6_hearsFirst 44 = .ok (.aload_n 0, 1) := by decide +kernel
theorem dX6_hearsFirst_45 : decode cX6_hearsFirst 45 = .ok (.iconst 1, 1) := by decide +kernel
theorem dX6_hearsFirst_46 : decode cX6_hearsFirst 46 = .ok (.putfield 37, 3) := by decide +kernel
theorem dX6_hearsFirst_49 : decode cX6_hearsFirst 49 = .ok (.goto 8, 3) := by decide +kernel
theorem dX6_hearsFirst_52 : decode cX6_hearsFirst 52 = .ok (.aload_n 0, 1) := by decide +kernel
theorem dX6_hearsFirst_53 : decode cX6_hearsFirst 53 = .ok (.iload_n 1, 1) := by decide +kernel
theorem dX6_hearsFirst_54 : decode cX6_hearsFirst 54 = .ok (.putfield 40, 3) := by decide +kernel
theorem dX6_hearsFirst_57 : decode cX6_hearsFirst 57 = .ok (.iconst 1, 1) := by decide +kernel
theorem dX6_hearsFirst_58 : decode cX6_hearsFirst 58 = .ok (.ireturn, 1) := by decide +kernel
theorem dX6_hearsKind_0 : decode cX6_hearsKind 0 = .ok (.iload_n 1, 1) := by decide +kernel
theorem dX6_hearsKind_1 : decode cX6_hearsKind 1 = .ok (.iconst 3, 1) := by decide +kernel
theorem dX6_hearsKind_2 : decode cX6_hearsKind 2 = .ok (.if_icmp .le 5, 3) := by decide +kernel
theorem dX6_hearsKind_5 : decode cX6_hearsKind 5 = .ok (.iconst 0, 1) := by decide +kernel
theorem dX6_hearsKind_6 : decode cX6_hearsKind 6 = .ok (.ireturn, 1) := by decide +kernel
theorem dX6_hearsKind_7 : decode cX6_hearsKind 7 = .ok (.aload_n 0, 1) := by decide +kernel
theorem dX6_hearsKind_8 : decode cX6_hearsKind 8 = .ok (.getfield 37, 3) := by decide +kernel
theorem dX6_hearsKind_11 : decode cX6_hearsKind 11 = .ok (.bipush 66, 2) := by decide +kernel
theorem dX6_hearsKind_13 : decode cX6_hearsKind 13 = .ok (.if_icmp .ne 39, 3) := by decide +kernel
theorem dX6_hearsKind_16 : decode cX6_hearsKind 16 = .ok (.aload_n 0, 1) := by decide +kernel
theorem dX6_hearsKind_17 : decode cX6_hearsKind 17 = .ok (.getfield 15, 3) := by decide +kernel
theorem dX6_hearsKind_20 : decode cX6_hearsKind 20 = .ok (.aload_n 0, 1) := by decide +kernel
theorem dX6_hearsKind_21 : decode cX6_hearsKind 21 = .ok (.getfield 31, 3) := by decide +kernel
theorem dX6_hearsKind_24 : decode cX6_hearsKind 24 = .ok (.aload_n 0, 1) := by decide +kernel
theorem dX6_hearsKind_25 : decode cX6_hearsKind 25 = .ok (.getfield 40, 3) := by decide +kernel
theorem dX6_hearsKind_28 : decode cX6_hearsKind 28 = .ok (.iastore, 1) := by decide +kernel
theorem dX6_hearsKind_29 : decode cX6_hearsKind 29 = .ok (.aload_n 0, 1) := by decide +kernel
theorem dX6_hearsKind_30 : decode cX6_hearsKind 30 = .ok (.getfield 18, 3) := by decide +kernel
theorem dX6_hearsKind_33 : decode cX6_hearsKind 33 = .ok (.aload_n 0, 1) := by decide +kernel
theorem dX6_hearsKind_34 : decode cX6_hearsKind 34 = .ok (.getfield 31, 3) := by decide +kernel
theorem dX6_hearsKind_37 : decode cX6_hearsKind 37 = .ok (.iload_n 1, 1) := by decide +kernel
theorem dX6_hearsKind_38 : decode cX6_hearsKind 38 = .ok (.iastore, 1) := by decide +kernel
theorem dX6_hearsKind_39 : decode cX6_hearsKind 39 = .ok (.aload_n 0, 1) := by decide +kernel
theorem dX6_hearsKind_40 : decode cX6_hearsKind 40 = .ok (.dup, 1) := by decide +kernel
theorem dX6_hearsKind_41 : decode cX6_hearsKind 41 = .ok (.getfield 31, 3) := by decide +kernel
theorem dX6_hearsKind_44 : decode cX6_hearsKind 44 = .ok (.iconst 1, 1) := by decide +kernel
theorem dX6_hearsKind_45 : decode cX6_hearsKind 45 = .ok (.iadd, 1) := by decide +kernel
theorem dX6_hearsKind_46 : decode cX6_hearsKind 46 = .ok (.putfield 31, 3) := by decide +kernel
theorem dX6_hearsKind_49 : decode cX6_hearsKind 49 = .ok (.goto 36, 3) := by decide +kernel
theorem dX6_hearsKind_52 : decode cX6_hearsKind 52 = .ok (.aload_n 0, 1) := by decide +kernel
theorem dX6_hearsKind_53 : decode cX6_hearsKind 53 = .ok (.getfield 21, 3) := by decide +kernel
theorem dX6_hearsKind_56 : decode cX6_hearsKind 56 = .ok (.aload_n 0, 1) := by decide +kernel
theorem dX6_hearsKind_57 : decode cX6_hearsKind 57 = .ok (.getfield 34, 3) := by decide +kernel
theorem dX6_hearsKind_60 : decode cX6_hearsKind 60 = .ok (.aload_n 0, 1) := by decide +kernel
theorem dX6_hearsKind_61 : decode cX6_hearsKind 61 = .ok (.getfield 40, 3) := by decide +kernel
theorem dX6_hearsKind_64 : decode cX6_hearsKind 64 = .ok (.iastore, 1) := by decide +kernel
theorem dX6_hearsKind_65 : decode cX6_hearsKind 65 = .ok (.aload_n 0, 1) := by decide +kernel
theorem dX6_hearsKind_66 : decode cX6_hearsKind 66 = .ok (.getfield 24, 3) := by decide +kernel
theorem dX6_hearsKind_69 : decode cX6_hearsKind 69 = .ok (.aload_n 0, 1) := by decide +kernel
theorem dX6_hearsKind_70 : decode cX6_hearsKind 70 = .ok (.getfield 34, 3) := by decide +kernel
theorem dX6_hearsKind_73 : decode cX6_hearsKind 73 = .ok (.iload_n 1, 1) := by decide +kernel
theorem dX6_hearsKind_74 : decode cX6_hearsKind 74 = .ok (.iastore, 1) := by decide +kernel
theorem dX6_hearsKind_75 : decode cX6_hearsKind 75 = .ok (.aload_n 0, 1) := by decide +kernel
theorem dX6_hearsKind_76 : decode cX6_hearsKind 76 = .ok (.dup, 1) := by decide +kernel
theorem dX6_hearsKind_77 : decode cX6_hearsKind 77 = .ok (.getfield 34, 3) := by decide +kernel
theorem dX6_hearsKind_80 : decode cX6_hearsKind 80 = .ok (.iconst 1, 1) := by decide +kernel
theorem dX6_hearsKind_81 : decode cX6_hearsKind 81 = .ok (.iadd, 1) := by decide +kernel
theorem dX6_hearsKind_82 : decode cX6_hearsKind 82 = .ok (.putfield 34, 3) := by decide +kernel
theorem dX6_hearsKind_85 : decode cX6_hearsKind 85 = .ok (.aload_n 0, 1) := by decide +kernel
theorem dX6_hearsKind_86 : decode cX6_hearsKind 86 = .ok (.iconst 1, 1) := by decide +kernel
theorem dX6_hearsKind_87 : decode cX6_hearsKind 87 = .ok (.putfield 37, 3) := by decide +kernel
theorem dX6_hearsKind_90 : decode cX6_hearsKind 90 = .ok (.iconst 1, 1) := by decide +kernel
theorem dX6_hearsKind_91 : decode cX6_hearsKind 91 = .ok (.ireturn, 1) := by decide +kernel
