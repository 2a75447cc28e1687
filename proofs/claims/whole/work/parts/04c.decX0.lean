theorem dX7_write_0 : decode cX7_write 0 = .ok (.iload_n 1, 1) := by decide +kernel
theorem dX7_write_1 : decode cX7_write 1 = .ok (.ifCond .lt 10, 3) := by decide +kernel
theorem dX7_write_4 : decode cX7_write 4 = .ok (.iload_n 1, 1) := by decide +kernel
theorem dX7_write_5 : decode cX7_write 5 = .ok (.sipush 255, 3) := by decide +kernel
theorem dX7_write_8 : decode cX7_write 8 = .ok (.if_icmp .le 6, 3) := by decide +kernel
theorem dX7_write_11 : decode cX7_write 11 = .ok (.bipush (-2), 2) := by decide +kernel
theorem dX7_write_13 : decode cX7_write 13 = .ok (.ireturn, 1) := by decide +kernel
theorem dX7_write_14 : decode cX7_write 14 = .ok (.aload_n 0, 1) := by decide +kernel
theorem dX7_write_15 : decode cX7_write 15 = .ok (.getfield 10, 3) := by decide +kernel
theorem dX7_write_18 : decode cX7_write 18 = .ok (.iload_n 1, 1) := by decide +kernel
theorem dX7_write_19 : decode cX7_write 19 = .ok (.invokevirtual 80, 3) := by decide +kernel
theorem dX7_write_22 : decode cX7_write 22 = .ok (.ireturn, 1) := by decide +kernel
theorem dX7_wipe_0 : decode cX7_wipe 0 = .ok (.aload_n 0, 1) := by decide +kernel
theorem dX7_wipe_1 : decode cX7_wipe 1 = .ok (.getfield 10, 3) := by decide +kernel
theorem dX7_wipe_4 : decode cX7_wipe 4 = .ok (.invokevirtual 84, 3) := by decide +kernel
theorem dX7_wipe_7 : decode cX7_wipe 7 = .ok (.ireturn, 1) := by decide +kernel
theorem dX7_fault_0 : decode cX7_fault 0 = .ok (.aload_n 0, 1) := by decide +kernel
theorem dX7_fault_1 : decode cX7_fault 1 = .ok (.getfield 10, 3) := by decide +kernel
theorem dX7_fault_4 : decode cX7_fault 4 = .ok (.aload_n 0, 1) := by decide +kernel
theorem dX7_fault_5 : decode cX7_fault 5 = .ok (.getfield 23, 3) := by decide +kernel
theorem dX7_fault_8 : decode cX7_fault 8 = .ok (.invokevirtual 88, 3) := by decide +kernel
theorem dX7_fault_11 : decode cX7_fault 11 = .ok (.ireturn, 1) := by decide +kernel
theorem dX7_port_0 : decode cX7_port 0 = .ok (.aload_n 0, 1) := by decide +kernel
theorem dX7_port_1 : decode cX7_port 1 = .ok (.getfield 10, 3) := by decide +kernel
theorem dX7_port_4 : decode cX7_port 4 = .ok (.aload_n 0, 1) := by decide +kernel
theorem dX7_port_5 : decode cX7_port 5 = .ok (.getfield 23, 3) := by decide +kernel
theorem dX7_port_8 : decode cX7_port 8 = .ok (.invokevirtual 88, 3) := by decide +kernel
theorem dX7_port_11 : decode cX7_port 11 = .ok (.bipush (-9), 2) := by decide +kernel
theorem dX7_port_13 : decode cX7_port 13 = .ok (.if_icmp .eq 6, 3) := by decide +kernel
theorem dX7_port_16 : decode cX7_port 16 = .ok (.bipush (-3), 2) := by decide +kernel
theorem dX7_port_18 : decode cX7_port 18 = .ok (.ireturn, 1) := by decide +kernel
theorem dX7_port_19 : decode cX7_port 19 = .ok (.aload_n 0, 1) := by decide +kernel
theorem dX7_port_20 : decode cX7_port 20 = .ok (.getfield 10, 3) := by decide +kernel
theorem dX7_port_23 : decode cX7_port 23 = .ok (.aload_n 0, 1) := by decide +kernel
theorem dX7_port_24 : decode cX7_port 24 = .ok (.getfield 19, 3) := by decide +kernel
theorem dX7_port_27 : decode cX7_port 27 = .ok (.invokevirtual 88, 3) := by decide +kernel
theorem dX7_port_30 : decode cX7_port 30 = .ok (.pop, 1) := by decide +kernel
theorem dX7_port_31 : decode cX7_port 31 = .ok (.aload_n 0, 1) := by decide +kernel
theorem dX7_port_32 : decode cX7_port 32 = .ok (.getfield 31, 3) := by decide +kernel
theorem dX7_port_35 : decode cX7_port 35 = .ok (.invokevirtual 92, 3) := by decide +kernel
theorem dX7_port_38 : decode cX7_port 38 = .ok (.aload_n 0, 1) := by decide +kernel
theorem dX7_port_39 : decode cX7_port 39 = .ok (.getfield 41, 3) := by decide +kernel
theorem dX7_port_42 : decode cX7_port 42 = .ok (.invokevirtual 95, 3) := by decide +kernel
theorem dX7_port_45 : decode cX7_port 45 = .ok (.iconst 0, 1) := by decide +kernel
theorem dX7_port_46 : decode cX7_port 46 = .ok (.istore_n 1, 1) := by decide +kernel
theorem dX7_port_47 : decode cX7_port 47 = .ok (.iload_n 1, 1) := by decide +kernel
theorem dX7_port_48 : decode cX7_port 48 = .ok (.iconst 2, 1) := by decide +kernel
theorem dX7_port_49 : decode cX7_port 49 = .ok (.if_icmp .ge 16, 3) := by decide +kernel
theorem dX7_port_52 : decode cX7_port 52 = .ok (.aload_n 0, 1) := by decide +kernel
theorem dX7_port_53 : decode cX7_port 53 = .ok (.getfield 72, 3) := by decide +kernel
theorem dX7_port_56 : decode cX7_port 56 = .ok (.iload_n 1, 1) := by decide +kernel
theorem dX7_port_57 : decode cX7_port 57 = .ok (.iconst 0, 1) := by decide +kernel
theorem dX7_port_58 : decode cX7_port 58 = .ok (.bastore, 1) := by decide +kernel
theorem dX7_port_59 : decode cX7_port 59 = .ok (.iinc 1 1, 3) := by decide +kernel
theorem dX7_port_62 : decode cX7_port 62 = .ok (.goto (-15), 3) := by decide +kernel
theorem dX7_port_65 : decode cX7_port 65 = .ok (.bipush 100, 2) := by decide +kernel
theorem dX7_port_67 : decode cX7_port 67 = .ok (.aload_n 0, 1) := by decide +kernel
theorem dX7_port_68 : decode cX7_port 68 = .ok (.getfield 19, 3) := by decide +kernel
theorem dX7_port_71 : decode cX7_port 71 = .ok (.getfield 98, 3) := by decide +kernel
theorem dX7_port_74 : decode cX7_port 74 = .ok (.imul, 1) := by decide +kernel
theorem dX7_port_75 : decode cX7_port 75 = .ok (.bipush 10, 2) := by decide +kernel
theorem dX7_port_77 : decode cX7_port 77 = .ok (.aload_n 0, 1) := by decide +kernel
theorem dX7_port_78 : decode cX7_port 78 = .ok (.getfield 19, 3) := by decide +kernel
theorem dX7_port_81 : decode cX7_port 81 = .ok (.getfield 102, 3) := by decide +kernel
theorem dX7_port_84 : decode cX7_port 84 = .ok (.imul, 1) := by decide +kernel
theorem dX7_port_85 : decode cX7_port 85 = .ok (.iadd, 1) := by decide +kernel
theorem dX7_port_86 : decode cX7_port 86 = .ok (.aload_n 0, 1) := by decide +kernel
theorem dX7_port_87 : decode cX7_port 87 = .ok (.getfield 19, 3) := by decide +kernel
theorem dX7_port_90 : decode cX7_port 90 = .ok (.getfield 105, 3) := by decide +kernel
theorem dX7_port_93 : decode cX7_port 93 = .ok (.iadd, 1) := by decide +kernel
theorem dX7_port_94 : decode cX7_port 94 = .ok (.ireturn, 1) := by decide +kernel
theorem dX7_about_0 : decode cX7_about 0 = .ok (.iload_n 1, 1) := by decide +kernel
theorem dX7_about_1 : decode cX7_about 1 = .ok (.tableswitch 163 0 11 #[63, 71, 79, 87, 95, 103, 113, 121, 131, 139, 147, 155], 63) := by decide +kernel
theorem dX7_about_64 : decode cX7_about 64 = .ok (.aload_n 0, 1) := by decide +kernel
theorem dX7_about_65 : decode cX7_about 65 = .ok (.getfield 19, 3) := by decide +kernel
theorem dX7_about_68 : decode cX7_about 68 = .ok (.getfield 98, 3) := by decide +kernel
theorem dX7_about_71 : decode cX7_about 71 = .ok (.ireturn, 1) := by decide +kernel
theorem dX7_about_72 : decode cX7_about 72 = .ok (.aload_n 0, 1) := by decide +kernel
theorem dX7_about_73 : decode cX7_about 73 = .ok (.getfield 19, 3) := by decide +kernel
theorem dX7_about_76 : decode cX7_about 76 = .ok (.getfield 102, 3) := by decide +kernel
theorem dX7_about_79 : decode cX7_about 79 = .ok (.ireturn, 1) := by decide +kernel
theorem dX7_about_80 : decode cX7_about 80 = .ok (.aload_n 0, 1) := by decide +kernel
theorem dX7_about_81 : decode cX7_about 81 = .ok (.getfield 19, 3) := by decide +kernel
theorem dX7_about_84 : decode cX7_about 84 = .ok (.getfield 105, 3) := by decide +kernel
theorem dX7_about_87 : decode cX7_about 87 = .ok (.ireturn, 1) := by decide +kernel
theorem dX7_about_88 : decode cX7_about 88 = .ok (.aload_n 0, 1) := by decide +kernel
theorem dX7_about_89 : decode cX7_about 89 = .ok (.getfield 31, 3) := by decide +kernel
theorem dX7_about_92 : decode cX7_about 92 = .ok (.getfield 108, 3) := by decide +kernel
theorem dX7_about_95 : decode cX7_about 95 = .ok (.ireturn, 1) := by decide +kernel
theorem dX7_about_96 : decode cX7_about 96 = .ok (.aload_n 0, 1) := by decide +kernel
theorem dX7_about_97 : decode cX7_about 97 = .ok (.getfield 31, 3) := by decide +kernel
theorem dX7_about_100 : decode cX7_about 100 = .ok (.invokevirtual 111, 3) := by decide +kernel
theorem dX7_about_103 : decode cX7_about 103 = .ok (.ireturn, 1) := by decide +kernel
theorem dX7_about_104 : decode cX7_about 104 = .ok (.aload_n 0, 1) := by decide +kernel
theorem dX7_about_105 : decode cX7_about 105 = .ok (.getfield 31, 3) := by decide +kernel
theorem dX7_about_108 : decode cX7_about 108 = .ok (.bipush 8, 2) := by decide +kernel
theorem dX7_about_110 : decode cX7_about 110 = .ok (.invokevirtual 114, 3) := by decide +kernel
theorem dX7_about_113 : decode cX7_about 113 = .ok (.ireturn, 1) := by decide +kernel
theorem dX7_about_114 : decode cX7_about 114 = .ok (.aload_n 0, 1) := by decide +kernel
theorem dX7_about_115 : decode cX7_about 115 = .ok (.getfield 31, 3) := by decide +kernel
theorem dX7_about_118 : decode cX7_about 118 = .ok (.invokevirtual 117, 3) := by decide +kernel
theorem dX7_about_121 : decode cX7_about 121 = .ok (.ireturn, 1) := by decide +kernel
theorem dX7_about_122 : decode cX7_about 122 = .ok (.aload_n 0, 1) := by decide +kernel
theorem dX7_about_123 : decode cX7_about 123 = .ok (.getfield 31, 3) := by decide +kernel
theorem dX7_about_126 : decode cX7_about 126 = .ok (.bipush 9, 2) := by decide +kernel
theorem dX7_about_128 : decode cX7_about 128 = .ok (.invokevirtual 114, 3) := by decide +kernel
theorem dX7_about_131 : decode cX7_about 131 = .ok (.ireturn, 1) := by decide +kernel
theorem dX7_about_132 : decode cX7_about 132 = .ok (.aload_n 0, 1) := by decide +kernel
theorem dX7_about_133 : decode cX7_about 133 = .ok (.getfield 31, 3) := by decide +kernel
theorem dX7_about_136 : decode cX7_about 136 = .ok (.invokevirtual 120, 3) := by decide +kernel
theorem dX7_about_139 : decode cX7_about 139 = .ok (.ireturn, 1) := by decide +kernel
theorem dX7_about_140 : decode cX7_about 140 = .ok (.aload_n 0, 1) := by decide +kernel
theorem dX7_about_141 : decode cX7_about 141 = .ok (.getfield 41, 3) := by decide +kernel
theorem dX7_about_144 : decode cX7_about 144 = .ok (.getfield 123, 3) := by decide +kernel
theorem dX7_about_147 : decode cX7_about 147 = .ok (.ireturn, 1) := by decide +kernel
theorem dX7_about_148 : decode cX7_about 148 = .ok (.aload_n 0, 1) := by decide +kernel
theorem dX7_about_149 : decode cX7_about 149 = .ok (.getfield 48, 3) := by decide +kernel
theorem dX7_about_152 : decode cX7_about 152 = .ok (.getfield 126, 3) := by decide +kernel
theorem dX7_about_155 : decode cX7_about 155 = .ok (.ireturn, 1) := by decide +kernel
theorem dX7_about_156 : decode cX7_about 156 = .ok (.aload_n 0, 1) := by decide +kernel
theorem dX7_about_157 : decode cX7_about 157 = .ok (.getfield 10, 3) := by decide +kernel
theorem dX7_about_160 : decode cX7_about 160 = .ok (.getfield 127, 3) := by decide +kernel
theorem dX7_about_163 : decode cX7_about 163 = .ok (.ireturn, 1) := by decide +kernel
theorem dX7_about_164 : decode cX7_about 164 = .ok (.bipush (-2), 2) := by decide +kernel
theorem dX7_about_166 : decode cX7_about 166 = .ok (.ireturn, 1) := by decide +kernel
theorem dX7_berth_0 : decode cX7_berth 0 = .ok (.aload_n 0, 1) := by decide +kernel
theorem dX7_berth_1 : decode cX7_berth 1 = .ok (.getfield 19, 3) := by decide +kernel
theorem dX7_berth_4 : decode cX7_berth 4 = .ok (.iload_n 1, 1) := by decide +kernel
theorem dX7_berth_5 : decode cX7_berth 5 = .ok (.invokevirtual 130, 3) := by decide +kernel
theorem dX7_berth_8 : decode cX7_berth 8 = .ok (.ifCond .ne 5, 3) := by decide +kernel
theorem dX7_berth_11 : decode cX7_berth 11 = .ok (.iconst (-1), 1) := by decide +kernel
theorem dX7_berth_12 : decode cX7_berth 12 = .ok (.ireturn, 1) := by decide +kernel
theorem dX7_berth_13 : decode cX7_berth 13 = .ok (.iload_n 2, 1) := by decide +kernel
theorem dX7_berth_14 : decode cX7_berth 14 = .ok (.tableswitch 82 0 4 #[34, 44, 54, 63, 72], 34) := by decide +kernel
theorem dX7_berth_48 : decode cX7_berth 48 = .ok (.aload_n 0, 1) := by decide +kernel
theorem dX7_berth_49 : decode cX7_berth 49 = .ok (.getfield 31, 3) := by decide +kernel
theorem dX7_berth_52 : decode cX7_berth 52 = .ok (.getfield 134, 3) := by decide +kernel
theorem dX7_berth_55 : decode cX7_berth 55 = .ok (.iload_n 1, 1) := by decide +kernel
theorem dX7_berth_56 : decode cX7_berth 56 = .ok (.iaload, 1) := by decide +kernel
theorem dX7_berth_57 : decode cX7_berth 57 = .ok (.ireturn, 1) := by decide +kernel
theorem dX7_berth_58 : decode cX7_berth 58 = .ok (.aload_n 0, 1) := by decide +kernel
theorem dX7_berth_59 : decode cX7_berth 59 = .ok (.getfield 19, 3) := by decide +kernel
theorem dX7_berth_62 : decode cX7_berth 62 = .ok (.getfield 138, 3) := by decide +kernel
theorem dX7_berth_65 : decode cX7_berth 65 = .ok (.iload_n 1, 1) := by decide +kernel
theorem dX7_berth_66 : decode cX7_berth 66 = .ok (.iaload, 1) := by decide +kernel
theorem dX7_berth_67 : decode cX7_berth 67 = .ok (.ireturn, 1) := by decide +kernel
theorem dX7_berth_68 : decode cX7_berth 68 = .ok (.aload_n 0, 1) := by decide +kernel
theorem dX7_berth_69 : decode cX7_berth 69 = .ok (.getfield 31, 3) := by decide +kernel
theorem dX7_berth_72 : decode cX7_berth 72 = .ok (.iload_n 1, 1) := by decide +kernel
theorem dX7_berth_73 : decode cX7_berth 73 = .ok (.invokevirtual 141, 3) := by decide +kernel
theorem dX7_berth_76 : decode cX7_berth 76 = .ok (.ireturn, 1) := by decide +kernel
theorem dX7_berth_77 : decode cX7_berth 77 = .ok (.aload_n 0, 1) := by decide +kernel
theorem dX7_berth_78 : decode cX7_berth 78 = .ok (.getfield 31, 3) := by decide +kernel
theorem dX7_berth_81 : decode cX7_berth 81 = .ok (.iload_n 1, 1) := by decide +kernel
theorem dX7_berth_82 : decode cX7_berth 82 = .ok (.invokevirtual 114, 3) := by decide +kernel
theorem dX7_berth_85 : decode cX7_berth 85 = .ok (.ireturn, 1) := by decide +kernel
theorem dX7_berth_86 : decode cX7_berth 86 = .ok (.aload_n 0, 1) := by decide +kernel
theorem dX7_berth_87 : decode cX7_berth 87 = .ok (.getfield 31, 3) := by decide +kernel
theorem dX7_berth_90 : decode cX7_berth 90 = .ok (.getfield 144, 3) := by decide +kernel
theorem dX7_berth_93 : decode cX7_berth 93 = .ok (.iload_n 1, 1) := by decide +kernel
theorem dX7_berth_94 : decode cX7_berth 94 = .ok (.iaload, 1) := by decide +kernel
theorem dX7_berth_95 : decode cX7_berth 95 = .ok (.ireturn, 1) := by decide +kernel
theorem dX7_berth_96 : decode cX7_berth 96 = .ok (.bipush (-2), 2) := by decide +kernel
theorem dX7_berth_98 : decode cX7_berth 98 = .ok (.ireturn, 1) := by decide +kernel
theorem dX7_dream_0 : decode cX7_dream 0 = .ok (.aload_n 0, 1) := by decide +kernel
theorem dX7_dream_1 : decode cX7_dream 1 = .ok (.getfield 19, 3) := by decide +kernel
theorem dX7_dream_4 : decode cX7_dream 4 = .ok (.iload_n 1, 1) := by decide +kernel
theorem dX7_dream_5 : decode cX7_dream 5 = .ok (.invokevirtual 147, 3) := by decide +kernel
theorem dX7_dream_8 : decode cX7_dream 8 = .ok (.ifCond .ne 5, 3) := by decide +kernel
theorem dX7_dream_11 : decode cX7_dream 11 = .ok (.iconst (-1), 1) := by decide +kernel
theorem dX7_dream_12 : decode cX7_dream 12 = .ok (.ireturn, 1) := by decide +kernel
theorem dX7_dream_13 : decode cX7_dream 13 = .ok (.iload_n 2, 1) := by decide +kernel
theorem dX7_dream_14 : decode cX7_dream 14 = .ok (.tableswitch 114 0 4 #[34, 44, 54, 64, 90], 34) := by decide +kernel
theorem dX7_dream_48 : decode cX7_dream 48 = .ok (.aload_n 0, 1) := by decide +kernel
theorem dX7_dream_49 : decode cX7_dream 49 = .ok (.getfield 31, 3) := by decide +kernel
theorem dX7_dream_52 : decode cX7_dream 52 = .ok (.getfield 150, 3) := by decide +kernel
theorem dX7_dream_55 : decode cX7_dream 55 = .ok (.iload_n 1, 1) := by decide +kernel
theorem dX7_dream_56 : decode cX7_dream 56 = .ok (.iaload, 1) := by decide +kernel
theorem dX7_dream_57 : decode cX7_dream 57 = .ok (.ireturn, 1) := by decide +kernel
theorem dX7_dream_58 : decode cX7_dream 58 = .ok (.aload_n 0, 1) := by decide +kernel
theorem dX7_dream_59 : decode cX7_dream 59 = .ok (.getfield 19, 3) := by decide +kernel
theorem dX7_dream_62 : decode cX7_dream 62 = .ok (.getfield 153, 3) := by decide +kernel
theorem dX7_dream_65 : decode cX7_dream 65 = .ok (.iload_n 1, 1) := by decide +kernel
theorem dX7_dream_66 : decode cX7_dream 66 = .ok (.iaload, 1) := by decide +kernel
theorem dX7_dream_67 : decode cX7_dream 67 = .ok (.ireturn, 1) := by decide +kernel
theorem dX7_dream_68 : decode cX7_dream 68 = .ok (.aload_n 0, 1) := by decide +kernel
theorem dX7_dream_69 : decode cX7_dream 69 = .ok (.getfield 31, 3) := by decide +kernel
theorem dX7_dream_72 : decode cX7_dream 72 = .ok (.getfield 156, 3) := by decide +kernel
theorem dX7_dream_75 : decode cX7_dream 75 = .ok (.iload_n 1, 1) := by decide +kernel
theorem dX7_dream_76 : decode cX7_dream 76 = .ok (.iaload, 1) := by decide +kernel
theorem dX7_dream_77 : decode cX7_dream 77 = .ok (.ireturn, 1) := by decide +kernel
theorem dX7_dream_78 : decode cX7_dream 78 = .ok (.aload_n 0, 1) := by decide +kernel
theorem dX7_dream_79 : decode cX7_dream 79 = .ok (.getfield 31, 3) := by decide +kernel
theorem dX7_dream_82 : decode cX7_dream 82 = .ok (.iload_n 1, 1) := by decide +kernel
theorem dX7_dream_83 : decode cX7_dream 83 = .ok (.invokevirtual 159, 3) := by decide +kernel
theorem dX7_dream_86 : decode cX7_dream 86 = .ok (.ifCond .eq 15, 3) := by decide +kernel
theorem dX7_dream_89 : decode cX7_dream 89 = .ok (.aload_n 0, 1) := by decide +kernel
theorem dX7_dream_90 : decode cX7_dream 90 = .ok (.getfield 31, 3) := by decide +kernel
theorem dX7_dream_93 : decode cX7_dream 93 = .ok (.getfield 162, 3) := by decide +kernel
theorem dX7_dream_96 : decode cX7_dream 96 = .ok (.iload_n 1, 1) := by decide +kernel
theorem dX7_dream_97 : decode cX7_dream 97 = .ok (.iaload, 1) := by decide +kernel
theorem dX7_dream_98 : decode cX7_dream 98 = .ok (.goto 5, 3) := by decide +kernel
theorem dX7_dream_101 : decode cX7_dream 101 = .ok (.bipush (-9), 2) := by decide +kernel
theorem dX7_dream_103 : decode cX7_dream 103 = .ok (.ireturn, 1) := by decide +kernel
theorem dX7_dream_104 : decode cX7_dream 104 = .ok (.aload_n 0, 1) := by decide +kernel
theorem dX7_dream_105 : decode cX7_dream 105 = .ok (.getfield 31, 3) := by decide +kernel
theorem dX7_dream_108 : decode cX7_dream 108 = .ok (.iload_n 1, 1) := by decide +kernel
theorem dX7_dream_109 : decode cX7_dream 109 = .ok (.invokevirtual 159, 3) := by decide +kernel
theorem dX7_dream_112 : decode cX7_dream 112 = .ok (.ifCond .eq 14, 3) := by decide +kernel
theorem dX7_dream_115 : decode cX7_dream 115 = .ok (.aload_n 0, 1) := by decide +kernel
theorem dX7_dream_116 : decode cX7_dream 116 = .ok (.getfield 31, 3) := by decide +kernel
theorem dX7_dream_119 : decode cX7_dream 119 = .ok (.iload_n 1, 1) := by decide +kernel
theorem dX7_dream_120 : decode cX7_dream 120 = .ok (.invokevirtual 165, 3) := by decide +kernel
theorem dX7_dream_123 : decode cX7_dream 123 = .ok (.goto 4, 3) := by decide +kernel
theorem dX7_dream_126 : decode cX7_dream 126 = .ok (.iconst 0, 1) := by decide +kernel
theorem dX7_dream_127 : decode cX7_dream 127 = .ok (.ireturn, 1) := by decide +kernel
theorem dX7_dream_128 : decode cX7_dream 128 = .ok (.bipush (-2), 2) := by decide +kernel
theorem dX7_dream_130 : decode cX7_dream 130 = .ok (.ireturn, 1) := by decide +kernel
theorem dX7_night_0 : decode cX7_night 0 = .ok (.aload_n 0, 1) := by decide +kernel
theorem dX7_night_1 : decode cX7_night 1 = .ok (.getfield 41, 3) := by decide +kernel
theorem dX7_night_4 : decode cX7_night 4 = .ok (.aload_n 0, 1) := by decide +kernel
theorem dX7_night_5 : decode cX7_night 5 = .ok (.getfield 31, 3) := by decide +kernel
theorem dX7_night_8 : decode cX7_night 8 = .ok (.invokevirtual 168, 3) := by decide +kernel
theorem dX7_night_11 : decode cX7_night 11 = .ok (.aload_n 0, 1) := by decide +kernel
theorem dX7_night_12 : decode cX7_night 12 = .ok (.getfield 31, 3) := by decide +kernel
theorem dX7_night_15 : decode cX7_night 15 = .ok (.invokevirtual 172, 3) := by decide +kernel
theorem dX7_night_18 : decode cX7_night 18 = .ok (.ireturn, 1) := by decide +kernel
theorem dX7_moor_0 : decode cX7_moor 0 = .ok (.aload_n 0, 1) := by decide +kernel
theorem dX7_moor_1 : decode cX7_moor 1 = .ok (.getfield 19, 3) := by decide +kernel
theorem dX7_moor_4 : decode cX7_moor 4 = .ok (.iload_n 1, 1) := by decide +kernel
theorem dX7_moor_5 : decode cX7_moor 5 = .ok (.invokevirtual 147, 3) := by decide +kernel
theorem dX7_moor_8 : decode cX7_moor 8 = .ok (.ifCond .eq 14, 3) := by decide +kernel
theorem dX7_moor_11 : decode cX7_moor 11 = .ok (.aload_n 0, 1) := by decide +kernel
theorem dX7_moor_12 : decode cX7_moor 12 = .ok (.getfield 19, 3) := by decide +kernel
theorem dX7_moor_15 : decode cX7_moor 15 = .ok (.iload_n 2, 1) := by decide +kernel
theorem dX7_moor_16 : decode cX7_moor 16 = .ok (.invokevirtual 130, 3) := by decide +kernel
theorem dX7_moor_19 : decode cX7_moor 19 = .ok (.ifCond .ne 5, 3) := by decide +kernel
theorem dX7_moor_22 : decode cX7_moor 22 = .ok (.iconst (-1), 1) := by decide +kernel
theorem dX7_moor_23 : decode cX7_moor 23 = .ok (.ireturn, 1) := by decide +kernel
theorem dX7_moor_24 : decode cX7_moor 24 = .ok (.aload_n 0, 1) := by decide +kernel
theorem dX7_moor_25 : decode cX7_moor 25 = .ok (.getfield 31, 3) := by decide +kernel
theorem dX7_moor_28 : decode cX7_moor 28 = .ok (.iload_n 1, 1) := by decide +kernel
theorem dX7_moor_29 : decode cX7_moor 29 = .ok (.iload_n 2, 1) := by decide +kernel
theorem dX7_moor_30 : decode cX7_moor 30 = .ok (.invokevirtual 175, 3) := by decide +kernel
theorem dX7_moor_33 : decode cX7_moor 33 = .ok (.ifCond .ne 6, 3) := by decide +kernel
theorem dX7_moor_36 : decode cX7_moor 36 = .ok (.bipush (-3), 2) := by decide +kernel
theorem dX7_moor_38 : decode cX7_moor 38 = .ok (.ireturn, 1) := by decide +kernel
theorem dX7_moor_39 : decode cX7_moor 39 = .ok (.aload_n 0, 1) := by decide +kernel
theorem dX7_moor_40 : decode cX7_moor 40 = .ok (.getfield 41, 3) := by decide +kernel
theorem dX7_moor_43 : decode cX7_moor 43 = .ok (.aload_n 0, 1) := by decide +kernel
theorem dX7_moor_44 : decode cX7_moor 44 = .ok (.getfield 31, 3) := by decide +kernel
theorem dX7_moor_47 : decode cX7_moor 47 = .ok (.invokevirtual 168, 3) := by decide +kernel
theorem dX7_moor_50 : decode cX7_moor 50 = .ok (.aload_n 0, 1) := by decide +kernel
theorem dX7_moor_51 : decode cX7_moor 51 = .ok (.getfield 31, 3) := by decide +kernel
theorem dX7_moor_54 : decode cX7_moor 54 = .ok (.getfield 156, 3) := by decide +kernel
theorem dX7_moor_57 : decode cX7_moor 57 = .ok (.iload_n 1, 1) := by decide +kernel
theorem dX7_moor_58 : decode cX7_moor 58 = .ok (.iload_n 2, 1) := by decide +kernel
theorem dX7_moor_59 : decode cX7_moor 59 = .ok (.iastore, 1) := by decide +kernel
theorem dX7_moor_60 : decode cX7_moor 60 = .ok (.aload_n 0, 1) := by decide +kernel
theorem dX7_moor_61 : decode cX7_moor 61 = .ok (.getfield 31, 3) := by decide +kernel
theorem dX7_moor_64 : decode cX7_moor 64 = .ok (.iload_n 2, 1) := by decide +kernel
theorem dX7_moor_65 : decode cX7_moor 65 = .ok (.invokevirtual 179, 3) := by decide +kernel
theorem dX7_moor_68 : decode cX7_moor 68 = .ok (.ireturn, 1) := by decide +kernel
theorem dX7_tow_0 : decode cX7_tow 0 = .ok (.aload_n 0, 1) := by decide +kernel
theorem dX7_tow_1 : decode cX7_tow 1 = .ok (.getfield 19, 3) := by decide +kernel
theorem dX7_tow_4 : decode cX7_tow 4 = .ok (.iload_n 1, 1) := by decide +kernel
theorem dX7_tow_5 : decode cX7_tow 5 = .ok (.invokevirtual 147, 3) := by decide +kernel
theorem dX7_tow_8 : decode cX7_tow 8 = .ok (.ifCond .ne 5, 3) := by decide +kernel
theorem dX7_tow_11 : decode cX7_tow 11 = .ok (.iconst (-1), 1) := by decide +kernel
theorem dX7_tow_12 : decode cX7_tow 12 = .ok (.ireturn, 1) := by decide +kernel
theorem dX7_tow_13 : decode cX7_tow 13 = .ok (.aload_n 0, 1) := by decide +kernel
theorem dX7_tow_14 : decode cX7_tow 14 = .ok (.getfield 31, 3) := by decide +kernel
theorem dX7_tow_17 : decode cX7_tow 17 = .ok (.iload_n 1, 1) := by decide +kernel
theorem dX7_tow_18 : decode cX7_tow 18 = .ok (.invokevirtual 182, 3) := by decide +kernel
theorem dX7_tow_21 : decode cX7_tow 21 = .ok (.ifCond .ne 6, 3) := by decide +kernel
theorem dX7_tow_24 : decode cX7_tow 24 = .ok (.bipush (-3), 2) := by decide +kernel
theorem dX7_tow_26 : decode cX7_tow 26 = .ok (.ireturn, 1) := by decide +kernel
theorem dX7_tow_27 : decode cX7_tow 27 = .ok (.aload_n 0, 1) := by decide +kernel
theorem dX7_tow_28 : decode cX7_tow 28 = .ok (.getfield 41, 3) := by decide +kernel
theorem dX7_tow_31 : decode cX7_tow 31 = .ok (.aload_n 0, 1) := by decide +kernel
theorem dX7_tow_32 : decode cX7_tow 32 = .ok (.getfield 31, 3) := by decide +kernel
theorem dX7_tow_35 : decode cX7_tow 35 = .ok (.invokevirtual 168, 3) := by decide +kernel
theorem dX7_tow_38 : decode cX7_tow 38 = .ok (.aload_n 0, 1) := by decide +kernel
theorem dX7_tow_39 : decode cX7_tow 39 = .ok (.getfield 31, 3) := by decide +kernel
theorem dX7_tow_42 : decode cX7_tow 42 = .ok (.getfield 156, 3) := by decide +kernel
theorem dX7_tow_45 : decode cX7_tow 45 = .ok (.iload_n 1, 1) := by decide +kernel
theorem dX7_tow_46 : decode cX7_tow 46 = .ok (.iaload, 1) := by decide +kernel
theorem dX7_tow_47 : decode cX7_tow 47 = .ok (.istore_n 2, 1) := by decide +kernel
theorem dX7_tow_48 : decode cX7_tow 48 = .ok (.aload_n 0, 1) := by decide +kernel
theorem dX7_tow_49 : decode cX7_tow 49 = .ok (.getfield 31, 3) := by decide +kernel
theorem dX7_tow_52 : decode cX7_tow 52 = .ok (.iload_n 1, 1) := by decide +kernel
theorem dX7_tow_53 : decode cX7_tow 53 = .ok (.invokevirtual 185, 3) := by decide +kernel
theorem dX7_tow_56 : decode cX7_tow 56 = .ok (.iload_n 2, 1) := by decide +kernel
theorem dX7_tow_57 : decode cX7_tow 57 = .ok (.ireturn, 1) := by decide +kernel
theorem dX7_undo_0 : decode cX7_undo 0 = .ok (.aload_n 0, 1) := by decide +kernel
theorem dX7_undo_1 : decode cX7_undo 1 = .ok (.getfield 41, 3) := by decide +kernel
theorem dX7_undo_4 : decode cX7_undo 4 = .ok (.getfield 123, 3) := by decide +kernel
theorem dX7_undo_7 : decode cX7_undo 7 = .ok (.ifCond .ne 6, 3) := by decide +kernel
theorem dX7_undo_10 : decode cX7_undo 10 = .ok (.bipush (-3), 2) := by decide +kernel
theorem dX7_undo_12 : decode cX7_undo 12 = .ok (.ireturn, 1) := by decide +kernel
theorem dX7_undo_13 : decode cX7_undo 13 = .ok (.aload_n 0, 1) := by decide +kernel
theorem dX7_undo_14 : decode cX7_undo 14 = .ok (.getfield 41, 3) := by decide +kernel
theorem dX7_undo_17 : decode cX7_undo 17 = .ok (.aload_n 0, 1) := by decide +kernel
theorem dX7_undo_18 : decode cX7_undo 18 = .ok (.getfield 31, 3) := by decide +kernel
theorem dX7_undo_21 : decode cX7_undo 21 = .ok (.invokevirtual 189, 3) := by decide +kernel
theorem dX7_undo_24 : decode cX7_undo 24 = .ok (.aload_n 0, 1) := by decide +kernel
theorem dX7_undo_25 : decode cX7_undo 25 = .ok (.getfield 41, 3) := by decide +kernel
theorem dX7_undo_28 : decode cX7_undo 28 = .ok (.getfield 123, 3) := by decide +kernel
theorem dX7_undo_31 : decode cX7_undo 31 = .ok (.ireturn, 1) := by decide +kernel
theorem dX7_later_0 : decode cX7_later 0 = .ok (.aload_n 0, 1) := by decide +kernel
theorem dX7_later_1 : decode cX7_later 1 = .ok (.getfield 19, 3) := by decide +kernel
theorem dX7_later_4 : decode cX7_later 4 = .ok (.iload_n 1, 1) := by decide +kernel
theorem dX7_later_5 : decode cX7_later 5 = .ok (.invokevirtual 147, 3) := by decide +kernel
theorem dX7_later_8 : decode cX7_later 8 = .ok (.ifCond .ne 5, 3) := by decide +kernel
theorem dX7_later_11 : decode cX7_later 11 = .ok (.iconst (-1), 1) := by decide +kernel
theorem dX7_later_12 : decode cX7_later 12 = .ok (.ireturn, 1) := by decide +kernel
theorem dX7_later_13 : decode cX7_later 13 = .ok (.iload_n 2, 1) := by decide +kernel
theorem dX7_later_14 : decode cX7_later 14 = .ok (.invokestatic 192, 3) := by decide +kernel
theorem dX7_later_17 : decode cX7_later 17 = .ok (.ifCond .ne 6, 3) := by decide +kernel
theorem dX7_later_20 : decode cX7_later 20 = .ok (.bipush (-2), 2) := by decide +kernel
theorem dX7_later_22 : decode cX7_later 22 = .ok (.ireturn, 1) := by decide +kernel
theorem dX7_later_23 : decode cX7_later 23 = .ok (.aload_n 0, 1) := by decide +kernel
theorem dX7_later_24 : decode cX7_later 24 = .ok (.iload_n 2, 1) := by decide +kernel
theorem dX7_later_25 : decode cX7_later 25 = .ok (.invokevirtual 195, 3) := by decide +kernel
theorem dX7_later_28 : decode cX7_later 28 = .ok (.aload_n 0, 1) := by decide +kernel
theorem dX7_later_29 : decode cX7_later 29 = .ok (.getfield 35, 3) := by decide +kernel
theorem dX7_later_32 : decode cX7_later 32 = .ok (.getfield 156, 3) := by decide +kernel
theorem dX7_later_35 : decode cX7_later 35 = .ok (.iload_n 1, 1) := by decide +kernel
theorem dX7_later_36 : decode cX7_later 36 = .ok (.iaload, 1) := by decide +kernel
theorem dX7_later_37 : decode cX7_later 37 = .ok (.ireturn, 1) := by decide +kernel
theorem dX7_wakes_0 : decode cX7_wakes 0 = .ok (.aload_n 0, 1) := by decide +kernel
theorem dX7_wakes_1 : decode cX7_wakes 1 = .ok (.getfield 19, 3) := by decide +kernel
theorem dX7_wakes_4 : decode cX7_wakes 4 = .ok (.iload_n 1, 1) := by decide +kernel
theorem dX7_wakes_5 : decode cX7_wakes 5 = .ok (.invokevirtual 130, 3) := by decide +kernel
theorem dX7_wakes_8 : decode cX7_wakes 8 = .ok (.ifCond .ne 5, 3) := by decide +kernel
theorem dX7_wakes_11 : decode cX7_wakes 11 = .ok (.iconst (-1), 1) := by decide +kernel
theorem dX7_wakes_12 : decode cX7_wakes 12 = .ok (.ireturn, 1) := by decide +kernel
theorem dX7_wakes_13 : decode cX7_wakes 13 = .ok (.iload_n 2, 1) := by decide +kernel
theorem dX7_wakes_14 : decode cX7_wakes 14 = .ok (.invokestatic 192, 3) := by decide +kernel
theorem dX7_wakes_17 : decode cX7_wakes 17 = .ok (.ifCond .ne 6, 3) := by decide +kernel
theorem dX7_wakes_20 : decode cX7_wakes 20 = .ok (.bipush (-2), 2) := by decide +kernel
theorem dX7_wakes_22 : decode cX7_wakes 22 = .ok (.ireturn, 1) := by decide +kernel
theorem dX7_wakes_23 : decode cX7_wakes 23 = .ok (.aload_n 0, 1) := by decide +kernel
theorem dX7_wakes_24 : decode cX7_wakes 24 = .ok (.iload_n 2, 1) := by decide +kernel
theorem dX7_wakes_25 : decode cX7_wakes 25 = .ok (.invokevirtual 195, 3) := by decide +kernel
theorem dX7_wakes_28 : decode cX7_wakes 28 = .ok (.aload_n 0, 1) := by decide +kernel
theorem dX7_wakes_29 : decode cX7_wakes 29 = .ok (.getfield 35, 3) := by decide +kernel
theorem dX7_wakes_32 : decode cX7_wakes 32 = .ok (.getfield 144, 3) := by decide +kernel
theorem dX7_wakes_35 : decode cX7_wakes 35 = .ok (.iload_n 1, 1) := by decide +kernel
theorem dX7_wakes_36 : decode cX7_wakes 36 = .ok (.iaload, 1) := by decide +kernel
theorem dX7_wakes_37 : decode cX7_wakes 37 = .ok (.ireturn, 1) := by decide +kernel
theorem dX7_fits_0 : decode cX7_fits 0 = .ok (.aload_n 0, 1) := by decide +kernel
theorem dX7_fits_1 : decode cX7_fits 1 = .ok (.getfield 19, 3) := by decide +kernel
theorem dX7_fits_4 : decode cX7_fits 4 = .ok (.iload_n 1, 1) := by decide +kernel
theorem dX7_fits_5 : decode cX7_fits 5 = .ok (.invokevirtual 147, 3) := by decide +kernel
theorem dX7_fits_8 : decode cX7_fits 8 = .ok (.ifCond .ne 5, 3) := by decide +kernel
theorem dX7_fits_11 : decode cX7_fits 11 = .ok (.iconst (-1), 1) := by decide +kernel
theorem dX7_fits_12 : decode cX7_fits 12 = .ok (.ireturn, 1) := by decide +kernel
theorem dX7_fits_13 : decode cX7_fits 13 = .ok (.iload_n 2, 1) := by decide +kernel
theorem dX7_fits_14 : decode cX7_fits 14 = .ok (.invokestatic 192, 3) := by decide +kernel
theorem dX7_fits_17 : decode cX7_fits 17 = .ok (.ifCond .ne 6, 3) := by decide +kernel
theorem dX7_fits_20 : decode cX7_fits 20 = .ok (.bipush (-2), 2) := by decide +kernel
theorem dX7_fits_22 : decode cX7_fits 22 = .ok (.ireturn, 1) := by decide +kernel
theorem dX7_fits_23 : decode cX7_fits 23 = .ok (.aload_n 0, 1) := by decide +kernel
theorem dX7_fits_24 : decode cX7_fits 24 = .ok (.iload_n 2, 1) := by decide +kernel
theorem dX7_fits_25 : decode cX7_fits 25 = .ok (.invokevirtual 195, 3) := by decide +kernel
theorem dX7_fits_28 : decode cX7_fits 28 = .ok (.aload_n 0, 1) := by decide +kernel
theorem dX7_fits_29 : decode cX7_fits 29 = .ok (.getfield 35, 3) := by decide +kernel
theorem dX7_fits_32 : decode cX7_fits 32 = .ok (.iload_n 1, 1) := by decide +kernel
theorem dX7_fits_33 : decode cX7_fits 33 = .ok (.invokevirtual 198, 3) := by decide +kernel
theorem dX7_fits_36 : decode cX7_fits 36 = .ok (.ireturn, 1) := by decide +kernel
theorem dX7_soonest_0 : decode cX7_soonest 0 = .ok (.aload_n 0, 1) := by decide +kernel
theorem dX7_soonest_1 : decode cX7_soonest 1 = .ok (.getfield 19, 3) := by decide +kernel
theorem dX7_soonest_4 : decode cX7_soonest 4 = .ok (.iload_n 1, 1) := by decide +kernel
theorem dX7_soonest_5 : decode cX7_soonest 5 = .ok (.invokevirtual 147, 3) := by decide +kernel
theorem dX7_soonest_8 : decode cX7_soonest 8 = .ok (.ifCond .ne 5, 3) := by decide +kernel
theorem dX7_soonest_11 : decode cX7_soonest 11 = .ok (.iconst (-1), 1) := by decide +kernel
theorem dX7_soonest_12 : decode cX7_soonest 12 = .ok (.ireturn, 1) := by decide +kernel
theorem dX7_soonest_13 : decode cX7_soonest 13 = .ok (.aload_n 0, 1) := by decide +kernel
theorem dX7_soonest_14 : decode cX7_soonest 14 = .ok (.getfield 31, 3) := by decide +kernel
theorem dX7_soonest_17 : decode cX7_soonest 17 = .ok (.getfield 156, 3) := by decide +kernel
theorem dX7_soonest_20 : decode cX7_soonest 20 = .ok (.iload_n 1, 1) := by decide +kernel
theorem dX7_soonest_21 : decode cX7_soonest 21 = .ok (.iaload, 1) := by decide +kernel
theorem dX7_soonest_22 : decode cX7_soonest 22 = .ok (.bipush 9, 2) := by decide +kernel
theorem dX7_soonest_24 : decode cX7_soonest 24 = .ok (.if_icmp .ne 6, 3) := by decide +kernel
theorem dX7_soonest_27 : decode cX7_soonest 27 = .ok (.bipush (-3), 2) := by decide +kernel
theorem dX7_soonest_29 : decode cX7_soonest 29 = .ok (.ireturn, 1) := by decide +kernel
theorem dX7_soonest_30 : decode cX7_soonest 30 = .ok (.aload_n 0, 1) := by decide +kernel
theorem dX7_soonest_31 : decode cX7_soonest 31 = .ok (.getfield 35, 3) := by decide +kernel
theorem dX7_soonest_34 : decode cX7_soonest 34 = .ok (.aload_n 0, 1) := by decide +kernel
theorem dX7_soonest_35 : decode cX7_soonest 35 = .ok (.getfield 31, 3) := by decide +kernel
theorem dX7_soonest_38 : decode cX7_soonest 38 = .ok (.invokevirtual 201, 3) := by decide +kernel
theorem dX7_soonest_41 : decode cX7_soonest 41 = .ok (.iconst 0, 1) := by decide +kernel
theorem dX7_soonest_42 : decode cX7_soonest 42 = .ok (.istore_n 2, 1) := by decide +kernel
theorem dX7_soonest_43 : decode cX7_soonest 43 = .ok (.iload_n 2, 1) := by decide +kernel
theorem dX7_soonest_44 : decode cX7_soonest 44 = .ok (.bipush 20, 2) := by decide +kernel
theorem dX7_soonest_46 : decode cX7_soonest 46 = .ok (.if_icmp .gt 30, 3) := by decide +kernel
theorem dX7_soonest_49 : decode cX7_soonest 49 = .ok (.aload_n 0, 1) := by decide +kernel
theorem dX7_soonest_50 : decode cX7_soonest 50 = .ok (.getfield 35, 3) := by decide +kernel
theorem dX7_soonest_53 : decode cX7_soonest 53 = .ok (.iload_n 1, 1) := by decide +kernel
theorem dX7_soonest_54 : decode cX7_soonest 54 = .ok (.invokevirtual 198, 3) := by decide +kernel
theorem dX7_soonest_57 : decode cX7_soonest 57 = .ok (.ifCond .eq 5, 3) := by decide +kernel
theorem dX7_soonest_60 : decode cX7_soonest 60 = .ok (.iload_n 2, 1) := by decide +kernel
theorem dX7_soonest_61 : decode cX7_soonest 61 = .ok (.ireturn, 1) := by decide +kernel
theorem dX7_soonest_62 : decode cX7_soonest 62 = .ok (.aload_n 0, 1) := by decide +kernel
theorem dX7_soonest_63 : decode cX7_soonest 63 = .ok (.getfield 35, 3) := by decide +kernel
theorem dX7_soonest_66 : decode cX7_soonest 66 = .ok (.invokevirtual 172, 3) := by decide +kernel
theorem dX7_soonest_69 : decode cX7_soonest 69 = .ok (.pop, 1) := by decide +kernel
theorem dX7_soonest_70 : decode cX7_soonest 70 = .ok (.iinc 2 1, 3) := by decide +kernel
theorem dX7_soonest_73 : decode cX7_soonest 73 = .ok (.goto (-30), 3) := by decide +kernel
theorem dX7_soonest_76 : decode cX7_soonest 76 = .ok (.bipush (-9), 2) := by decide +kernel
theorem dX7_soonest_78 : decode cX7_soonest 78 = .ok (.ireturn, 1) := by decide +kernel
theorem dX7_plan_0 : decode cX7_plan 0 = .ok (.aload_n 0, 1) := by decide +kernel
theorem dX7_plan_1 : decode cX7_plan 1 = .ok (.getfield 57, 3) := by decide +kernel
theorem dX7_plan_4 : decode cX7_plan 4 = .ok (.aload_n 0, 1) := by decide +kernel
theorem dX7_plan_5 : decode cX7_plan 5 = .ok (.getfield 31, 3) := by decide +kernel
theorem dX7_plan_8 : decode cX7_plan 8 = .ok (.aload_n 0, 1) := by decide +kernel
theorem dX7_plan_9 : decode cX7_plan 9 = .ok (.invokevirtual 204, 3) := by decide +kernel
theorem dX7_plan_12 : decode cX7_plan 12 = .ok (.invokevirtual 207, 3) := by decide +kernel
theorem dX7_plan_15 : decode cX7_plan 15 = .ok (.pop, 1) := by decide +kernel
theorem dX7_plan_16 : decode cX7_plan 16 = .ok (.iload_n 1, 1) := by decide +kernel
theorem dX7_plan_17 : decode cX7_plan 17 = .ok (.ifCond .eq 13, 3) := by decide +kernel
theorem dX7_plan_20 : decode cX7_plan 20 = .ok (.aload_n 0, 1) := by decide +kernel
theorem dX7_plan_21 : decode cX7_plan 21 = .ok (.getfield 57, 3) := by decide +kernel
theorem dX7_plan_24 : decode cX7_plan 24 = .ok (.getfield 211, 3) := by decide +kernel
theorem dX7_plan_27 : decode cX7_plan 27 = .ok (.goto 10, 3) := by decide +kernel
theorem dX7_plan_30 : decode cX7_plan 30 = .ok (.aload_n 0, 1) := by decide +kernel
theorem dX7_plan_31 : decode cX7_plan 31 = .ok (.getfield 57, 3) := by decide +kernel
theorem dX7_plan_34 : decode cX7_plan 34 = .ok (.getfield 214, 3) := by decide +kernel
theorem dX7_plan_37 : decode cX7_plan 37 = .ok (.ireturn, 1) := by decide +kernel
theorem dX7_judge_0 : decode cX7_judge 0 = .ok (.iload_n 1, 1) := by decide +kernel
theorem dX7_judge_1 : decode cX7_judge 1 = .ok (.iconst 1, 1) := by decide +kernel
theorem dX7_judge_2 : decode cX7_judge 2 = .ok (.if_icmp .lt 14, 3) := by decide +kernel
theorem dX7_judge_5 : decode cX7_judge 5 = .ok (.iload_n 1, 1) := by decide +kernel
theorem dX7_judge_6 : decode cX7_judge 6 = .ok (.iconst 4, 1) := by decide +kernel
theorem dX7_judge_7 : decode cX7_judge 7 = .ok (.if_icmp .gt 9, 3) := by decide +kernel
theorem dX7_judge_10 : decode cX7_judge 10 = .ok (.lload_n 2, 1) := by decide +kernel
theorem dX7_judge_11 : decode cX7_judge 11 = .ok (.lconst 0, 1) := by decide +kernel
theorem dX7_judge_12 : decode cX7_judge 12 = .ok (.lcmp, 1) := by decide +kernel
theorem dX7_judge_13 : decode cX7_judge 13 = .ok (.ifCond .ge 6, 3) := by decide +kernel
theorem dX7_judge_16 : decode cX7_judge 16 = .ok (.bipush (-2), 2) := by decide +kernel
theorem dX7_judge_18 : decode cX7_judge 18 = .ok (.ireturn, 1) := by decide +kernel
theorem dX7_judge_19 : decode cX7_judge 19 = .ok (.lload_n 2, 1) := by decide +kernel
theorem dX7_judge_20 : decode cX7_judge 20 = .ok (.iload_n 1, 1) := by decide +kernel
theorem dX7_judge_21 : decode cX7_judge 21 = .ok (.invokestatic 217, 3) := by decide +kernel
theorem dX7_judge_24 : decode cX7_judge 24 = .ok (.lconst 0, 1) := by decide +kernel
theorem dX7_judge_25 : decode cX7_judge 25 = .ok (.lcmp, 1) := by decide +kernel
theorem dX7_judge_26 : decode cX7_judge 26 = .ok (.ifCond .eq 6, 3) := by decide +kernel
theorem dX7_judge_29 : decode cX7_judge 29 = .ok (.bipush (-2), 2) := by decide +kernel
theorem dX7_judge_31 : decode cX7_judge 31 = .ok (.ireturn, 1) := by decide +kernel
theorem dX7_judge_32 : decode cX7_judge 32 = .ok (.aload_n 0, 1) := by decide +kernel
theorem dX7_judge_33 : decode cX7_judge 33 = .ok (.getfield 35, 3) := by decide +kernel
theorem dX7_judge_36 : decode cX7_judge 36 = .ok (.aload_n 0, 1) := by decide +kernel
theorem dX7_judge_37 : decode cX7_judge 37 = .ok (.getfield 31, 3) := by decide +kernel
theorem dX7_judge_40 : decode cX7_judge 40 = .ok (.invokevirtual 201, 3) := by decide +kernel
theorem dX7_judge_43 : decode cX7_judge 43 = .ok (.iconst 0, 1) := by decide +kernel
theorem dX7_judge_44 : decode cX7_judge 44 = .ok (.istore 4, 2) := by decide +kernel
theorem dX7_judge_46 : decode cX7_judge 46 = .ok (.iload 4, 2) := by decide +kernel
theorem dX7_judge_48 : decode cX7_judge 48 = .ok (.iload_n 1, 1) := by decide +kernel
theorem dX7_judge_49 : decode cX7_judge 49 = .ok (.if_icmp .ge 37, 3) := by decide +kernel
theorem dX7_judge_52 : decode cX7_judge 52 = .ok (.aload_n 0, 1) := by decide +kernel
theorem dX7_judge_53 : decode cX7_judge 53 = .ok (.getfield 35, 3) := by decide +kernel
theorem dX7_judge_56 : decode cX7_judge 56 = .ok (.lload_n 2, 1) := by decide +kernel
theorem dX7_judge_57 : decode cX7_judge 57 = .ok (.iload_n 1, 1) := by decide +kernel
theorem dX7_judge_58 : decode cX7_judge 58 = .ok (.iconst 1, 1) := by decide +kernel
theorem dX7_judge_59 : decode cX7_judge 59 = .ok (.isub, 1) := by decide +kernel
theorem dX7_judge_60 : decode cX7_judge 60 = .ok (.iload 4, 2) := by decide +kernel
theorem dX7_judge_62 : decode cX7_judge 62 = .ok (.isub, 1) := by decide +kernel
theorem dX7_judge_63 : decode cX7_judge 63 = .ok (.invokestatic 217, 3) := by decide +kernel
theorem dX7_judge_66 : decode cX7_judge 66 = .ok (.ldc2_w 221, 3) := by decide +kernel
theorem dX7_judge_69 : decode cX7_judge 69 = .ok (.lrem, 1) := by decide +kernel
theorem dX7_judge_70 : decode cX7_judge 70 = .ok (.l2i, 1) := by decide +kernel
theorem dX7_judge_71 : decode cX7_judge 71 = .ok (.invokevirtual 223, 3) := by decide +kernel
theorem dX7_judge_74 : decode cX7_judge 74 = .ok (.ifCond .ne 6, 3) := by decide +kernel
theorem dX7_judge_77 : decode cX7_judge 77 = .ok (.iload 4, 2) := by decide +kernel
theorem dX7_judge_79 : decode cX7_judge 79 = .ok (.ireturn, 1) := by decide +kernel
theorem dX7_judge_80 : decode cX7_judge 80 = .ok (.iinc 4 1, 3) := by decide +kernel
theorem dX7_judge_83 : decode cX7_judge 83 = .ok (.goto (-37), 3) := by decide +kernel
theorem dX7_judge_86 : decode cX7_judge 86 = .ok (.bipush (-9), 2) := by decide +kernel
theorem dX7_judge_88 : decode cX7_judge 88 = .ok (.ireturn, 1) := by decide +kernel
theorem dX7_share_0 : decode cX7_share 0 = .ok (.aload_n 0, 1) := by decide +kernel
theorem dX7_share_1 : decode cX7_share 1 = .ok (.getfield 19, 3) := by decide +kernel
theorem dX7_share_4 : decode cX7_share 4 = .ok (.iload_n 1, 1) := by decide +kernel
theorem dX7_share_5 : decode cX7_share 5 = .ok (.invokevirtual 130, 3) := by decide +kernel
theorem dX7_share_8 : decode cX7_share 8 = .ok (.ifCond .ne 5, 3) := by decide +kernel
theorem dX7_share_11 : decode cX7_share 11 = .ok (.iconst (-1), 1) := by decide +kernel
theorem dX7_share_12 : decode cX7_share 12 = .ok (.ireturn, 1) := by decide +kernel
theorem dX7_share_13 : decode cX7_share 13 = .ok (.iconst 0, 1) := by decide +kernel
theorem dX7_share_14 : decode cX7_share 14 = .ok (.istore_n 3, 1) := by decide +kernel
theorem dX7_share_15 : decode cX7_share 15 = .ok (.iconst 0, 1) := by decide +kernel
theorem dX7_share_16 : decode cX7_share 16 = .ok (.istore 4, 2) := by decide +kernel
theorem dX7_share_18 : decode cX7_share 18 = .ok (.iload 4, 2) := by decide +kernel
theorem dX7_share_20 : decode cX7_share 20 = .ok (.aload_n 0, 1) := by decide +kernel
theorem dX7_share_21 : decode cX7_share 21 = .ok (.invokevirtual 204, 3) := by decide +kernel
theorem dX7_share_24 : decode cX7_share 24 = .ok (.if_icmp .gt 87, 3) := by decide +kernel
theorem dX7_share_27 : decode cX7_share 27 = .ok (.iload 4, 2) := by decide +kernel
theorem dX7_share_29 : decode cX7_share 29 = .ok (.iload_n 1, 1) := by decide +kernel
theorem dX7_share_30 : decode cX7_share 30 = .ok (.ishr, 1) := by decide +kernel
theorem dX7_share_31 : decode cX7_share 31 = .ok (.iconst 1, 1) := by decide +kernel
theorem dX7_share_32 : decode cX7_share 32 = .ok (.iand, 1) := by decide +kernel
theorem dX7_share_33 : decode cX7_share 33 = .ok (.ifCond .ne 72, 3) := by decide +kernel
theorem dX7_share_36 : decode cX7_share 36 = .ok (.iload 4, 2) := by decide +kernel
theorem dX7_share_38 : decode cX7_share 38 = .ok (.invokestatic 226, 3) := by decide +kernel
theorem dX7_share_41 : decode cX7_share 41 = .ok (.istore 5, 2) := by decide +kernel
theorem dX7_share_43 : decode cX7_share 43 = .ok (.getstatic 231, 3) := by decide +kernel
theorem dX7_share_46 : decode cX7_share 46 = .ok (.iload 5, 2) := by decide +kernel
theorem dX7_share_48 : decode cX7_share 48 = .ok (.iaload, 1) := by decide +kernel
theorem dX7_share_49 : decode cX7_share 49 = .ok (.getstatic 231, 3) := by decide +kernel
theorem dX7_share_52 : decode cX7_share 52 = .ok (.aload_n 0, 1) := by decide +kernel
theorem dX7_share_53 : decode cX7_share 53 = .ok (.getfield 19, 3) := by decide +kernel
theorem dX7_share_56 : decode cX7_share 56 = .ok (.getfield 102, 3) := by decide +kernel
theorem dX7_share_59 : decode cX7_share 59 = .ok (.iconst 1, 1) := by decide +kernel
theorem dX7_share_60 : decode cX7_share 60 = .ok (.isub, 1) := by decide +kernel
theorem dX7_share_61 : decode cX7_share 61 = .ok (.iload 5, 2) := by decide +kernel
theorem dX7_share_63 : decode cX7_share 63 = .ok (.isub, 1) := by decide +kernel
theorem dX7_share_64 : decode cX7_share 64 = .ok (.iaload, 1) := by decide +kernel
theorem dX7_share_65 : decode cX7_share 65 = .ok (.imul, 1) := by decide +kernel
theorem dX7_share_66 : decode cX7_share 66 = .ok (.istore 6, 2) := by decide +kernel
theorem dX7_share_68 : decode cX7_share 68 = .ok (.iload_n 3, 1) := by decide +kernel
theorem dX7_share_69 : decode cX7_share 69 = .ok (.iload 6, 2) := by decide +kernel
theorem dX7_share_71 : decode cX7_share 71 = .ok (.aload_n 0, 1) := by decide +kernel
theorem dX7_share_72 : decode cX7_share 72 = .ok (.getfield 57, 3) := by decide +kernel
theorem dX7_share_75 : decode cX7_share 75 = .ok (.aload_n 0, 1) := by decide +kernel
theorem dX7_share_76 : decode cX7_share 76 = .ok (.getfield 31, 3) := by decide +kernel
theorem dX7_share_79 : decode cX7_share 79 = .ok (.iload 4, 2) := by decide +kernel
theorem dX7_share_81 : decode cX7_share 81 = .ok (.iconst 1, 1) := by decide +kernel
theorem dX7_share_82 : decode cX7_share 82 = .ok (.iload_n 1, 1) := by decide +kernel
theorem dX7_share_83 : decode cX7_share 83 = .ok (.ishl, 1) := by decide +kernel
theorem dX7_share_84 : decode cX7_share 84 = .ok (.ior, 1) := by decide +kernel
theorem dX7_share_85 : decode cX7_share 85 = .ok (.invokevirtual 207, 3) := by decide +kernel
theorem dX7_share_88 : decode cX7_share 88 = .ok (.aload_n 0, 1) := by decide +kernel
theorem dX7_share_89 : decode cX7_share 89 = .ok (.getfield 57, 3) := by decide +kernel
theorem dX7_share_92 : decode cX7_share 92 = .ok (.aload_n 0, 1) := by decide +kernel
theorem dX7_share_93 : decode cX7_share 93 = .ok (.getfield 31, 3) := by decide +kernel
theorem dX7_share_96 : decode cX7_share 96 = .ok (.iload 4, 2) := by decide +kernel
theorem dX7_share_98 : decode cX7_share 98 = .ok (.invokevirtual 207, 3) := by decide +kernel
theorem dX7_share_101 : decode cX7_share 101 = .ok (.isub, 1) := by decide +kernel
theorem dX7_share_102 : decode cX7_share 102 = .ok (.imul, 1) := by decide +kernel
theorem dX7_share_103 : decode cX7_share 103 = .ok (.iadd, 1) := by decide +kernel
theorem dX7_share_104 : decode cX7_share 104 = .ok (.istore_n 3, 1) := by decide +kernel
theorem dX7_share_105 : decode cX7_share 105 = .ok (.iinc 4 1, 3) := by decide +kernel
theorem dX7_share_108 : decode cX7_share 108 = .ok (.goto (-90), 3) := by decide +kernel
theorem dX7_share_111 : decode cX7_share 111 = .ok (.iload_n 3, 1) := by decide +kernel
theorem dX7_share_112 : decode cX7_share 112 = .ok (.getstatic 231, 3) := by decide +kernel
theorem dX7_share_115 : decode cX7_share 115 = .ok (.aload_n 0, 1) := by decide +kernel
theorem dX7_share_116 : decode cX7_share 116 = .ok (.getfield 19, 3) := by decide +kernel
theorem dX7_share_119 : decode cX7_share 119 = .ok (.getfield 102, 3) := by decide +kernel
theorem dX7_share_122 : decode cX7_share 122 = .ok (.iaload, 1) := by decide +kernel
theorem dX7_share_123 : decode cX7_share 123 = .ok (.iload_n 2, 1) := by decide +kernel
theorem dX7_share_124 : decode cX7_share 124 = .ok (.invokestatic 234, 3) := by decide +kernel
theorem dX7_share_127 : decode cX7_share 127 = .ok (.ireturn, 1) := by decide +kernel
theorem dX7_sound_0 : decode cX7_sound 0 = .ok (.iload_n 1, 1) := by decide +kernel
theorem dX7_sound_1 : decode cX7_sound 1 = .ok (.iconst 1, 1) := by decide +kernel
theorem dX7_sound_2 : decode cX7_sound 2 = .ok (.if_icmp .lt 28, 3) := by decide +kernel
theorem dX7_sound_5 : decode cX7_sound 5 = .ok (.iload_n 1, 1) := by decide +kernel
theorem dX7_sound_6 : decode cX7_sound 6 = .ok (.bipush 9, 2) := by decide +kernel
theorem dX7_sound_8 : decode cX7_sound 8 = .ok (.if_icmp .gt 22, 3) := by decide +kernel
theorem dX7_sound_11 : decode cX7_sound 11 = .ok (.iload_n 2, 1) := by decide +kernel
theorem dX7_sound_12 : decode cX7_sound 12 = .ok (.ifCond .lt 18, 3) := by decide +kernel
theorem dX7_sound_15 : decode cX7_sound 15 = .ok (.iload_n 2, 1) := by decide +kernel
theorem dX7_sound_16 : decode cX7_sound 16 = .ok (.bipush 9, 2) := by decide +kernel
theorem dX7_sound_18 : decode cX7_sound 18 = .ok (.if_icmp .gt 12, 3) := by decide +kernel
theorem dX7_sound_21 : decode cX7_sound 21 = .ok (.iload_n 3, 1) := by decide +kernel
theorem dX7_sound_22 : decode cX7_sound 22 = .ok (.ifCond .lt 8, 3) := by decide +kernel
theorem dX7_sound_25 : decode cX7_sound 25 = .ok (.iload_n 3, 1) := by decide +kernel
theorem dX7_sound_26 : decode cX7_sound 26 = .ok (.iconst 1, 1) := by decide +kernel
theorem dX7_sound_27 : decode cX7_sound 27 = .ok (.if_icmp .le 6, 3) := by decide +kernel
theorem dX7_sound_30 : decode cX7_sound 30 = .ok (.bipush (-2), 2) := by decide +kernel
theorem dX7_sound_32 : decode cX7_sound 32 = .ok (.ireturn, 1) := by decide +kernel
theorem dX7_sound_33 : decode cX7_sound 33 = .ok (.aload_n 0, 1) := by decide +kernel
theorem dX7_sound_34 : decode cX7_sound 34 = .ok (.getfield 48, 3) := by decide +kernel
theorem dX7_sound_37 : decode cX7_sound 37 = .ok (.iload_n 1, 1) := by decide +kernel
theorem dX7_sound_38 : decode cX7_sound 38 = .ok (.iload_n 2, 1) := by decide +kernel
theorem dX7_sound_39 : decode cX7_sound 39 = .ok (.iload_n 3, 1) := by decide +kernel
theorem dX7_sound_40 : decode cX7_sound 40 = .ok (.iconst 1, 1) := by decide +kernel
theorem dX7_sound_41 : decode cX7_sound 41 = .ok (.if_icmp .ne 7, 3) := by decide +kernel
theorem dX7_sound_44 : decode cX7_sound 44 = .ok (.iconst 1, 1) := by decide +kernel
theorem dX7_sound_45 : decode cX7_sound 45 = .ok (.goto 4, 3) := by decide +kernel
theorem dX7_sound_48 : decode cX7_sound 48 = .ok (.iconst 0, 1) := by decide +kernel
theorem dX7_sound_49 : decode cX7_sound 49 = .ok (.invokevirtual 238, 3) := by decide +kernel
theorem dX7_sound_52 : decode cX7_sound 52 = .ok (.ireturn, 1) := by decide +kernel
theorem dX7_unsound_0 : decode cX7_unsound 0 = .ok (.aload_n 0, 1) := by decide +kernel
theorem dX7_unsound_1 : decode cX7_unsound 1 = .ok (.getfield 48, 3) := by decide +kernel
theorem dX7_unsound_4 : decode cX7_unsound 4 = .ok (.invokevirtual 240, 3) := by decide +kernel
theorem dX7_unsound_7 : decode cX7_unsound 7 = .ok (.ireturn, 1) := by decide +kernel
theorem dX7_depths_0 : decode cX7_depths 0 = .ok (.iload_n 1, 1) := by decide +kernel
theorem dX7_depths_1 : decode cX7_depths 1 = .ok (.ifCond .lt 8, 3) := by decide +kernel
theorem dX7_depths_4 : decode cX7_depths 4 = .ok (.iload_n 1, 1) := by decide +kernel
theorem dX7_depths_5 : decode cX7_depths 5 = .ok (.iconst 1, 1) := by decide +kernel
theorem dX7_depths_6 : decode cX7_depths 6 = .ok (.if_icmp .le 6, 3) := by decide +kernel
theorem dX7_depths_9 : decode cX7_depths 9 = .ok (.bipush (-2), 2) := by decide +kernel
theorem dX7_depths_11 : decode cX7_depths 11 = .ok (.ireturn, 1) := by decide +kernel
theorem dX7_depths_12 : decode cX7_depths 12 = .ok (.iconst 0, 1) := by decide +kernel
theorem dX7_depths_13 : decode cX7_depths 13 = .ok (.istore_n 2, 1) := by decide +kernel
theorem dX7_depths_14 : decode cX7_depths 14 = .ok (.bipush (-9), 2) := by decide +kernel
theorem dX7_depths_16 : decode cX7_depths 16 = .ok (.istore_n 3, 1) := by decide +kernel
theorem dX7_depths_17 : decode cX7_depths 17 = .ok (.iconst 0, 1) := by decide +kernel
theorem dX7_depths_18 : decode cX7_depths 18 = .ok (.istore 4, 2) := by decide +kernel
theorem dX7_depths_20 : decode cX7_depths 20 = .ok (.iload 4, 2) := by decide +kernel
theorem dX7_depths_22 : decode cX7_depths 22 = .ok (.iconst 3, 1) := by decide +kernel
theorem dX7_depths_23 : decode cX7_depths 23 = .ok (.if_icmp .gt 65, 3) := by decide +kernel
theorem dX7_depths_26 : decode cX7_depths 26 = .ok (.iconst 0, 1) := by decide +kernel
theorem dX7_depths_27 : decode cX7_depths 27 = .ok (.istore 5, 2) := by decide +kernel
theorem dX7_depths_29 : decode cX7_depths 29 = .ok (.iload 5, 2) := by decide +kernel
theorem dX7_depths_31 : decode cX7_depths 31 = .ok (.bipush 9, 2) := by decide +kernel
theorem dX7_depths_33 : decode cX7_depths 33 = .ok (.if_icmp .gt 49, 3) := by decide +kernel
theorem dX7_depths_36 : decode cX7_depths 36 = .ok (.aload_n 0, 1) := by decide +kernel
theorem dX7_depths_37 : decode cX7_depths 37 = .ok (.getfield 48, 3) := by decide +kernel
theorem dX7_depths_40 : decode cX7_depths 40 = .ok (.iload 4, 2) := by decide +kernel
theorem dX7_depths_42 : decode cX7_depths 42 = .ok (.iload 5, 2) := by decide +kernel
theorem dX7_depths_44 : decode cX7_depths 44 = .ok (.aload_n 0, 1) := by decide +kernel
theorem dX7_depths_45 : decode cX7_depths 45 = .ok (.getfield 19, 3) := by decide +kernel
theorem dX7_depths_48 : decode cX7_depths 48 = .ok (.invokevirtual 241, 3) := by decide +kernel
theorem dX7_depths_51 : decode cX7_depths 51 = .ok (.ifCond .eq 25, 3) := by decide +kernel
theorem dX7_depths_54 : decode cX7_depths 54 = .ok (.iinc 2 1, 3) := by decide +kernel
theorem dX7_depths_57 : decode cX7_depths 57 = .ok (.iload_n 3, 1) := by decide +kernel
theorem dX7_depths_58 : decode cX7_depths 58 = .ok (.bipush (-9), 2) := by decide +kernel
theorem dX7_depths_60 : decode cX7_depths 60 = .ok (.if_icmp .ne 14, 3) := by decide +kernel
theorem dX7_depths_63 : decode cX7_depths 63 = .ok (.bipush 10, 2) := by decide +kernel
theorem dX7_depths_65 : decode cX7_depths 65 = .ok (.iload 4, 2) := by decide +kernel
theorem dX7_depths_67 : decode cX7_depths 67 = .ok (.imul, 1) := by decide +kernel
theorem dX7_depths_68 : decode cX7_depths 68 = .ok (.iload 5, 2) := by decide +kernel
theorem dX7_depths_70 : decode cX7_depths 70 = .ok (.iadd, 1) := by decide +kernel
theorem dX7_depths_71 : decode cX7_depths 71 = .ok (.goto 4, 3) := by decide +kernel
theorem dX7_depths_74 : decode cX7_depths 74 = .ok (.iload_n 3, 1) := by decide +kernel
theorem dX7_depths_75 : decode cX7_depths 75 = .ok (.istore_n 3, 1) := by decide +kernel
theorem dX7_depths_76 : decode cX7_depths 76 = .ok (.iinc 5 1, 3) := by decide +kernel
theorem dX7_depths_79 : decode cX7_depths 79 = .ok (.goto (-50), 3) := by decide +kernel
theorem dX7_depths_82 : decode cX7_depths 82 = .ok (.iinc 4 3, 3) := by decide +kernel
theorem dX7_depths_85 : decode cX7_depths 85 = .ok (.goto (-65), 3) := by decide +kernel
theorem dX7_depths_88 : decode cX7_depths 88 = .ok (.iload_n 1, 1) := by decide +kernel
theorem dX7_depths_89 : decode cX7_depths 89 = .ok (.ifCond .ne 7, 3) := by decide +kernel
theorem dX7_depths_92 : decode cX7_depths 92 = .ok (.iload_n 2, 1) := by decide +kernel
theorem dX7_depths_93 : decode cX7_depths 93 = .ok (.goto 4, 3) := by decide +kernel
theorem dX7_depths_96 : decode cX7_depths 96 = .ok (.iload_n 3, 1) := by decide +kernel
theorem dX7_depths_97 : decode cX7_depths 97 = .ok (.ireturn, 1) := by decide +kernel
theorem dX7_rests_0 : decode cX7_rests 0 = .ok (.aload_n 0, 1) := by decide +kernel
theorem dX7_rests_1 : decode cX7_rests 1 = .ok (.getfield 19, 3) := by decide +kernel
theorem dX7_rests_4 : decode cX7_rests 4 = .ok (.iload_n 1, 1) := by decide +kernel
theorem dX7_rests_5 : decode cX7_rests 5 = .ok (.invokevirtual 147, 3) := by decide +kernel
theorem dX7_rests_8 : decode cX7_rests 8 = .ok (.ifCond .eq 14, 3) := by decide +kernel
theorem dX7_rests_11 : decode cX7_rests 11 = .ok (.aload_n 0, 1) := by decide +kernel
theorem dX7_rests_12 : decode cX7_rests 12 = .ok (.getfield 19, 3) := by decide +kernel
theorem dX7_rests_15 : decode cX7_rests 15 = .ok (.iload_n 2, 1) := by decide +kernel
theorem dX7_rests_16 : decode cX7_rests 16 = .ok (.invokevirtual 147, 3) := by decide +kernel
theorem dX7_rests_19 : decode cX7_rests 19 = .ok (.ifCond .ne 5, 3) := by decide +kernel
theorem dX7_rests_22 : decode cX7_rests 22 = .ok (.iconst (-1), 1) := by decide +kernel
theorem dX7_rests_23 : decode cX7_rests 23 = .ok (.ireturn, 1) := by decide +kernel
theorem dX7_rests_24 : decode cX7_rests 24 = .ok (.iload_n 1, 1) := by decide +kernel
theorem dX7_rests_25 : decode cX7_rests 25 = .ok (.iload_n 2, 1) := by decide +kernel
theorem dX7_rests_26 : decode cX7_rests 26 = .ok (.if_icmp .eq 12, 3) := by decide +kernel
theorem dX7_rests_29 : decode cX7_rests 29 = .ok (.iload_n 3, 1) := by decide +kernel
theorem dX7_rests_30 : decode cX7_rests 30 = .ok (.ifCond .lt 8, 3) := by decide +kernel
theorem dX7_rests_33 : decode cX7_rests 33 = .ok (.iload_n 3, 1) := by decide +kernel
theorem dX7_rests_34 : decode cX7_rests 34 = .ok (.iconst 1, 1) := by decide +kernel
theorem dX7_rests_35 : decode cX7_rests 35 = .ok (.if_icmp .le 6, 3) := by decide +kernel
theorem dX7_rests_38 : decode cX7_rests 38 = .ok (.bipush (-2), 2) := by decide +kernel
theorem dX7_rests_40 : decode cX7_rests 40 = .ok (.ireturn, 1) := by decide +kernel
theorem dX7_rests_41 : decode cX7_rests 41 = .ok (.aload_n 0, 1) := by decide +kernel
theorem dX7_rests_42 : decode cX7_rests 42 = .ok (.getfield 31, 3) := by decide +kernel
theorem dX7_rests_45 : decode cX7_rests 45 = .ok (.iload_n 1, 1) := by decide +kernel
theorem dX7_rests_46 : decode cX7_rests 46 = .ok (.invokevirtual 159, 3) := by decide +kernel
theorem dX7_rests_49 : decode cX7_rests 49 = .ok (.ifCond .eq 14, 3) := by decide +kernel
theorem dX7_rests_52 : decode cX7_rests 52 = .ok (.aload_n 0, 1) := by decide +kernel
theorem dX7_rests_53 : decode cX7_rests 53 = .ok (.getfield 31, 3) := by decide +kernel
theorem dX7_rests_56 : decode cX7_rests 56 = .ok (.iload_n 2, 1) := by decide +kernel
theorem dX7_rests_57 : decode cX7_rests 57 = .ok (.invokevirtual 159, 3) := by decide +kernel
theorem dX7_rests_60 : decode cX7_rests 60 = .ok (.ifCond .ne 6, 3) := by decide +kernel
theorem dX7_rests_63 : decode cX7_rests 63 = .ok (.bipush (-3), 2) := by decide +kernel
theorem dX7_rests_65 : decode cX7_rests 65 = .ok (.ireturn, 1) := by decide +kernel
theorem dX7_rests_66 : decode cX7_rests 66 = .ok (.aload_n 0, 1) := by decide +kernel
theorem dX7_rests_67 : decode cX7_rests 67 = .ok (.getfield 35, 3) := by decide +kernel
theorem dX7_rests_70 : decode cX7_rests 70 = .ok (.aload_n 0, 1) := by decide +kernel
theorem dX7_rests_71 : decode cX7_rests 71 = .ok (.getfield 31, 3) := by decide +kernel
theorem dX7_rests_74 : decode cX7_rests 74 = .ok (.invokevirtual 201, 3) := by decide +kernel
theorem dX7_rests_77 : decode cX7_rests 77 = .ok (.iconst 0, 1) := by decide +kernel
theorem dX7_rests_78 : decode cX7_rests 78 = .ok (.istore 4, 2) := by decide +kernel
theorem dX7_rests_80 : decode cX7_rests 80 = .ok (.bipush (-9), 2) := by decide +kernel
theorem dX7_rests_82 : decode cX7_rests 82 = .ok (.istore 5, 2) := by decide +kernel
theorem dX7_rests_84 : decode cX7_rests 84 = .ok (.iconst 0, 1) := by decide +kernel
theorem dX7_rests_85 : decode cX7_rests 85 = .ok (.istore 6, 2) := by decide +kernel
theorem dX7_rests_87 : decode cX7_rests 87 = .ok (.iload 6, 2) := by decide +kernel
theorem dX7_rests_89 : decode cX7_rests 89 = .ok (.iconst 5, 1) := by decide +kernel
theorem dX7_rests_90 : decode cX7_rests 90 = .ok (.if_icmp .ge 81, 3) := by decide +kernel
theorem dX7_rests_93 : decode cX7_rests 93 = .ok (.iconst 0, 1) := by decide +kernel
theorem dX7_rests_94 : decode cX7_rests 94 = .ok (.istore 7, 2) := by decide +kernel
theorem dX7_rests_96 : decode cX7_rests 96 = .ok (.iload 7, 2) := by decide +kernel
theorem dX7_rests_98 : decode cX7_rests 98 = .ok (.iconst 5, 1) := by decide +kernel
theorem dX7_rests_99 : decode cX7_rests 99 = .ok (.if_icmp .ge 66, 3) := by decide +kernel
theorem dX7_rests_102 : decode cX7_rests 102 = .ok (.aload_n 0, 1) := by decide +kernel
theorem dX7_rests_103 : decode cX7_rests 103 = .ok (.getfield 64, 3) := by decide +kernel
theorem dX7_rests_106 : decode cX7_rests 106 = .ok (.iload_n 1, 1) := by decide +kernel
theorem dX7_rests_107 : decode cX7_rests 107 = .ok (.iload 6, 2) := by decide +kernel
theorem dX7_rests_109 : decode cX7_rests 109 = .ok (.iload_n 2, 1) := by decide +kernel
theorem dX7_rests_110 : decode cX7_rests 110 = .ok (.iload 7, 2) := by decide +kernel
theorem dX7_rests_112 : decode cX7_rests 112 = .ok (.invokevirtual 245, 3) := by decide +kernel
theorem dX7_rests_115 : decode cX7_rests 115 = .ok (.ifCond .eq 44, 3) := by decide +kernel
theorem dX7_rests_118 : decode cX7_rests 118 = .ok (.aload_n 0, 1) := by decide +kernel
theorem dX7_rests_119 : decode cX7_rests 119 = .ok (.getfield 64, 3) := by decide +kernel
theorem dX7_rests_122 : decode cX7_rests 122 = .ok (.iload_n 2, 1) := by decide +kernel
