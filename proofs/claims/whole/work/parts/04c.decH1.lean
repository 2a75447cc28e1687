theorem dX2_does_75 : decode cX2_does 75 = .ok (.ireturn, 1) := by decide +kernel
theorem dX2_does_76 : decode cX2_does 76 = .ok (.iload_n 2, 1) := by decide +kernel
theorem dX2_does_77 : decode cX2_does 77 = .ok (.ifCond .ne 15, 3) := by decide +kernel
theorem dX2_does_80 : decode cX2_does 80 = .ok (.aload_n 0, 1) := by decide +kernel
theorem dX2_does_81 : decode cX2_does 81 = .ok (.iload_n 3, 1) := by decide +kernel
theorem dX2_does_82 : decode cX2_does 82 = .ok (.invokevirtual 137, 3) := by decide +kernel
theorem dX2_does_85 : decode cX2_does 85 = .ok (.ifCond .eq 7, 3) := by decide +kernel
theorem dX2_does_88 : decode cX2_does 88 = .ok (.iconst 1, 1) := by decide +kernel
theorem dX2_does_89 : decode cX2_does 89 = .ok (.goto 4, 3) := by decide +kernel
theorem dX2_does_92 : decode cX2_does 92 = .ok (.iconst 0, 1) := by decide +kernel
theorem dX2_does_93 : decode cX2_does 93 = .ok (.ireturn, 1) := by decide +kernel
theorem dX2_does_94 : decode cX2_does 94 = .ok (.iload_n 2, 1) := by decide +kernel
theorem dX2_does_95 : decode cX2_does 95 = .ok (.ifCond .ne 29, 3) := by decide +kernel
theorem dX2_does_98 : decode cX2_does 98 = .ok (.aload_n 0, 1) := by decide +kernel
theorem dX2_does_99 : decode cX2_does 99 = .ok (.getfield 31, 3) := by decide +kernel
theorem dX2_does_102 : decode cX2_does 102 = .ok (.iload_n 3, 1) := by decide +kernel
theorem dX2_does_103 : decode cX2_does 103 = .ok (.invokevirtual 86, 3) := by decide +kernel
theorem dX2_does_106 : decode cX2_does 106 = .ok (.ifCond .eq 18, 3) := by decide +kernel
theorem dX2_does_109 : decode cX2_does 109 = .ok (.aload_n 0, 1) := by decide +kernel
theorem dX2_does_110 : decode cX2_does 110 = .ok (.getfield 9, 3) := by decide +kernel
theorem dX2_does_113 : decode cX2_does 113 = .ok (.iload_n 3, 1) := by decide +kernel
theorem dX2_does_114 : decode cX2_does 114 = .ok (.iaload, 1) := by decide +kernel
theorem dX2_does_115 : decode cX2_does 115 = .ok (.bipush 9, 2) := by decide +kernel
theorem dX2_does_117 : decode cX2_does 117 = .ok (.if_icmp .ne 7, 3) := by decide +kernel
theorem dX2_does_120 : decode cX2_does 120 = .ok (.iconst 1, 1) := by decide +kernel
theorem dX2_does_121 : decode cX2_does 121 = .ok (.goto 4, 3) := by decide +kernel
theorem dX2_does_124 : decode cX2_does 124 = .ok (.iconst 0, 1) := by decide +kernel
theorem dX2_does_125 : decode cX2_does 125 = .ok (.ireturn, 1) := by decide +kernel
theorem dX2_does_126 : decode cX2_does 126 = .ok (.aload_n 0, 1) := by decide +kernel
theorem dX2_does_127 : decode cX2_does 127 = .ok (.getfield 31, 3) := by decide +kernel
theorem dX2_does_130 : decode cX2_does 130 = .ok (.iload_n 2, 1) := by decide +kernel
theorem dX2_does_131 : decode cX2_does 131 = .ok (.invokevirtual 86, 3) := by decide +kernel
theorem dX2_does_134 : decode cX2_does 134 = .ok (.ifCond .eq 28, 3) := by decide +kernel
theorem dX2_does_137 : decode cX2_does 137 = .ok (.aload_n 0, 1) := by decide +kernel
theorem dX2_does_138 : decode cX2_does 138 = .ok (.getfield 31, 3) := by decide +kernel
theorem dX2_does_141 : decode cX2_does 141 = .ok (.iload_n 3, 1) := by decide +kernel
theorem dX2_does_142 : decode cX2_does 142 = .ok (.invokevirtual 90, 3) := by decide +kernel
theorem dX2_does_145 : decode cX2_does 145 = .ok (.ifCond .eq 17, 3) := by decide +kernel
theorem dX2_does_148 : decode cX2_does 148 = .ok (.aload_n 0, 1) := by decide +kernel
theorem dX2_does_149 : decode cX2_does 149 = .ok (.getfield 9, 3) := by decide +kernel
theorem dX2_does_152 : decode cX2_does 152 = .ok (.iload_n 2, 1) := by decide +kernel
theorem dX2_does_153 : decode cX2_does 153 = .ok (.iaload, 1) := by decide +kernel
theorem dX2_does_154 : decode cX2_does 154 = .ok (.iload_n 3, 1) := by decide +kernel
theorem dX2_does_155 : decode cX2_does 155 = .ok (.if_icmp .ne 7, 3) := by decide +kernel
theorem dX2_does_158 : decode cX2_does 158 = .ok (.iconst 1, 1) := by decide +kernel
theorem dX2_does_159 : decode cX2_does 159 = .ok (.goto 4, 3) := by decide +kernel
theorem dX2_does_162 : decode cX2_does 162 = .ok (.iconst 0, 1) := by decide +kernel
theorem dX2_does_163 : decode cX2_does 163 = .ok (.ireturn, 1) := by decide +kernel
theorem dX2_does_164 : decode cX2_does 164 = .ok (.aload_n 0, 1) := by decide +kernel
theorem dX2_does_165 : decode cX2_does 165 = .ok (.getfield 31, 3) := by decide +kernel
theorem dX2_does_168 : decode cX2_does 168 = .ok (.iload_n 2, 1) := by decide +kernel
theorem dX2_does_169 : decode cX2_does 169 = .ok (.invokevirtual 90, 3) := by decide +kernel
theorem dX2_does_172 : decode cX2_does 172 = .ok (.ifCond .eq 17, 3) := by decide +kernel
theorem dX2_does_175 : decode cX2_does 175 = .ok (.aload_n 0, 1) := by decide +kernel
theorem dX2_does_176 : decode cX2_does 176 = .ok (.getfield 24, 3) := by decide +kernel
theorem dX2_does_179 : decode cX2_does 179 = .ok (.iload_n 2, 1) := by decide +kernel
theorem dX2_does_180 : decode cX2_does 180 = .ok (.iaload, 1) := by decide +kernel
theorem dX2_does_181 : decode cX2_does 181 = .ok (.iload_n 3, 1) := by decide +kernel
theorem dX2_does_182 : decode cX2_does 182 = .ok (.if_icmp .lt 7, 3) := by decide +kernel
theorem dX2_does_185 : decode cX2_does 185 = .ok (.iconst 1, 1) := by decide +kernel
theorem dX2_does_186 : decode cX2_does 186 = .ok (.goto 4, 3) := by decide +kernel
theorem dX2_does_189 : decode cX2_does 189 = .ok (.iconst 0, 1) := by decide +kernel
theorem dX2_does_190 : decode cX2_does 190 = .ok (.ireturn, 1) := by decide +kernel
theorem dX2_does_191 : decode cX2_does 191 = .ok (.iconst 0, 1) := by decide +kernel
theorem dX2_does_192 : decode cX2_does 192 = .ok (.ireturn, 1) := by decide +kernel
theorem dX2_drift_0 : decode cX2_drift 0 = .ok (.iload_n 1, 1) := by decide +kernel
theorem dX2_drift_1 : decode cX2_drift 1 = .ok (.bipush 20, 2) := by decide +kernel
theorem dX2_drift_3 : decode cX2_drift 3 = .ok (.if_icmp .ge 17, 3) := by decide +kernel
theorem dX2_drift_6 : decode cX2_drift 6 = .ok (.aload_n 0, 1) := by decide +kernel
theorem dX2_drift_7 : decode cX2_drift 7 = .ok (.iload_n 1, 1) := by decide +kernel
theorem dX2_drift_8 : decode cX2_drift 8 = .ok (.iconst 4, 1) := by decide +kernel
theorem dX2_drift_9 : decode cX2_drift 9 = .ok (.idiv, 1) := by decide +kernel
theorem dX2_drift_10 : decode cX2_drift 10 = .ok (.iload_n 1, 1) := by decide +kernel
theorem dX2_drift_11 : decode cX2_drift 11 = .ok (.iconst 4, 1) := by decide +kernel
theorem dX2_drift_12 : decode cX2_drift 12 = .ok (.irem, 1) := by decide +kernel
theorem dX2_drift_13 : decode cX2_drift 13 = .ok (.invokevirtual 134, 3) := by decide +kernel
theorem dX2_drift_16 : decode cX2_drift 16 = .ok (.pop, 1) := by decide +kernel
theorem dX2_drift_17 : decode cX2_drift 17 = .ok (.goto 26, 3) := by decide +kernel
theorem dX2_drift_20 : decode cX2_drift 20 = .ok (.iload_n 1, 1) := by decide +kernel
theorem dX2_drift_21 : decode cX2_drift 21 = .ok (.bipush 25, 2) := by decide +kernel
theorem dX2_drift_23 : decode cX2_drift 23 = .ok (.if_icmp .ge 15, 3) := by decide +kernel
theorem dX2_drift_26 : decode cX2_drift 26 = .ok (.aload_n 0, 1) := by decide +kernel
theorem dX2_drift_27 : decode cX2_drift 27 = .ok (.iload_n 1, 1) := by decide +kernel
theorem dX2_drift_28 : decode cX2_drift 28 = .ok (.bipush 20, 2) := by decide +kernel
theorem dX2_drift_30 : decode cX2_drift 30 = .ok (.isub, 1) := by decide +kernel
theorem dX2_drift_31 : decode cX2_drift 31 = .ok (.invokevirtual 137, 3) := by decide +kernel
theorem dX2_drift_34 : decode cX2_drift 34 = .ok (.pop, 1) := by decide +kernel
theorem dX2_drift_35 : decode cX2_drift 35 = .ok (.goto 8, 3) := by decide +kernel
theorem dX2_drift_38 : decode cX2_drift 38 = .ok (.aload_n 0, 1) := by decide +kernel
theorem dX2_drift_39 : decode cX2_drift 39 = .ok (.invokevirtual 131, 3) := by decide +kernel
theorem dX2_drift_42 : decode cX2_drift 42 = .ok (.pop, 1) := by decide +kernel
theorem dX2_drift_43 : decode cX2_drift 43 = .ok (.return_, 1) := by decide +kernel
theorem dX2_moors_0 : decode cX2_moors 0 = .ok (.aload_n 0, 1) := by decide +kernel
theorem dX2_moors_1 : decode cX2_moors 1 = .ok (.iload_n 1, 1) := by decide +kernel
theorem dX2_moors_2 : decode cX2_moors 2 = .ok (.iload_n 2, 1) := by decide +kernel
theorem dX2_moors_3 : decode cX2_moors 3 = .ok (.invokevirtual 140, 3) := by decide +kernel
theorem dX2_moors_6 : decode cX2_moors 6 = .ok (.ifCond .ne 5, 3) := by decide +kernel
theorem dX2_moors_9 : decode cX2_moors 9 = .ok (.iconst 0, 1) := by decide +kernel
theorem dX2_moors_10 : decode cX2_moors 10 = .ok (.ireturn, 1) := by decide +kernel
theorem dX2_moors_11 : decode cX2_moors 11 = .ok (.aload_n 0, 1) := by decide +kernel
theorem dX2_moors_12 : decode cX2_moors 12 = .ok (.getfield 9, 3) := by decide +kernel
theorem dX2_moors_15 : decode cX2_moors 15 = .ok (.iload_n 1, 1) := by decide +kernel
theorem dX2_moors_16 : decode cX2_moors 16 = .ok (.iload_n 2, 1) := by decide +kernel
theorem dX2_moors_17 : decode cX2_moors 17 = .ok (.iastore, 1) := by decide +kernel
theorem dX2_moors_18 : decode cX2_moors 18 = .ok (.iconst 1, 1) := by decide +kernel
theorem dX2_moors_19 : decode cX2_moors 19 = .ok (.ireturn, 1) := by decide +kernel
theorem dX2_tows_0 : decode cX2_tows 0 = .ok (.aload_n 0, 1) := by decide +kernel
theorem dX2_tows_1 : decode cX2_tows 1 = .ok (.iload_n 1, 1) := by decide +kernel
theorem dX2_tows_2 : decode cX2_tows 2 = .ok (.invokevirtual 143, 3) := by decide +kernel
theorem dX2_tows_5 : decode cX2_tows 5 = .ok (.ifCond .ne 5, 3) := by decide +kernel
theorem dX2_tows_8 : decode cX2_tows 8 = .ok (.iconst 0, 1) := by decide +kernel
theorem dX2_tows_9 : decode cX2_tows 9 = .ok (.ireturn, 1) := by decide +kernel
theorem dX2_tows_10 : decode cX2_tows 10 = .ok (.aload_n 0, 1) := by decide +kernel
theorem dX2_tows_11 : decode cX2_tows 11 = .ok (.iload_n 1, 1) := by decide +kernel
theorem dX2_tows_12 : decode cX2_tows 12 = .ok (.invokevirtual 146, 3) := by decide +kernel
theorem dX2_tows_15 : decode cX2_tows 15 = .ok (.iconst 1, 1) := by decide +kernel
theorem dX2_tows_16 : decode cX2_tows 16 = .ok (.ireturn, 1) := by decide +kernel
