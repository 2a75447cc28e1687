theorem dX8_goSleep_41 : decode cX8_goSleep 41 = .ok (.aload_n 0, 1) := by decide +kernel
theorem dX8_goSleep_42 : decode cX8_goSleep 42 = .ok (.aload_n 1, 1) := by decide +kernel
theorem dX8_goSleep_43 : decode cX8_goSleep 43 = .ok (.iload 4, 2) := by decide +kernel
theorem dX8_goSleep_45 : decode cX8_goSleep 45 = .ok (.invokevirtual 148, 3) := by decide +kernel
theorem dX8_goSleep_48 : decode cX8_goSleep 48 = .ok (.if_icmp .gt 7, 3) := by decide +kernel
theorem dX8_goSleep_51 : decode cX8_goSleep 51 = .ok (.iconst 1, 1) := by decide +kernel
theorem dX8_goSleep_52 : decode cX8_goSleep 52 = .ok (.goto 4, 3) := by decide +kernel
theorem dX8_goSleep_55 : decode cX8_goSleep 55 = .ok (.iconst 0, 1) := by decide +kernel
theorem dX8_goSleep_56 : decode cX8_goSleep 56 = .ok (.istore 5, 2) := by decide +kernel
theorem dX8_goSleep_58 : decode cX8_goSleep 58 = .ok (.iload_n 2, 1) := by decide +kernel
theorem dX8_goSleep_59 : decode cX8_goSleep 59 = .ok (.iload 5, 2) := by decide +kernel
theorem dX8_goSleep_61 : decode cX8_goSleep 61 = .ok (.ifCond .eq 9, 3) := by decide +kernel
theorem dX8_goSleep_64 : decode cX8_goSleep 64 = .ok (.iconst 1, 1) := by decide +kernel
theorem dX8_goSleep_65 : decode cX8_goSleep 65 = .ok (.iload_n 3, 1) := by decide +kernel
theorem dX8_goSleep_66 : decode cX8_goSleep 66 = .ok (.ishl, 1) := by decide +kernel
theorem dX8_goSleep_67 : decode cX8_goSleep 67 = .ok (.goto 4, 3) := by decide +kernel
theorem dX8_goSleep_70 : decode cX8_goSleep 70 = .ok (.iconst 0, 1) := by decide +kernel
theorem dX8_goSleep_71 : decode cX8_goSleep 71 = .ok (.ior, 1) := by decide +kernel
theorem dX8_goSleep_72 : decode cX8_goSleep 72 = .ok (.istore_n 2, 1) := by decide +kernel
theorem dX8_goSleep_73 : decode cX8_goSleep 73 = .ok (.aload_n 1, 1) := by decide +kernel
theorem dX8_goSleep_74 : decode cX8_goSleep 74 = .ok (.iload_n 3, 1) := by decide +kernel
theorem dX8_goSleep_75 : decode cX8_goSleep 75 = .ok (.iload 5, 2) := by decide +kernel
theorem dX8_goSleep_77 : decode cX8_goSleep 77 = .ok (.ifCond .eq 8, 3) := by decide +kernel
theorem dX8_goSleep_80 : decode cX8_goSleep 80 = .ok (.bipush 9, 2) := by decide +kernel
theorem dX8_goSleep_82 : decode cX8_goSleep 82 = .ok (.goto 5, 3) := by decide +kernel
theorem dX8_goSleep_85 : decode cX8_goSleep 85 = .ok (.iload 4, 2) := by decide +kernel
theorem dX8_goSleep_87 : decode cX8_goSleep 87 = .ok (.iastore, 1) := by decide +kernel
theorem dX8_goSleep_88 : decode cX8_goSleep 88 = .ok (.aload_n 1, 1) := by decide +kernel
theorem dX8_goSleep_89 : decode cX8_goSleep 89 = .ok (.bipush 19, 2) := by decide +kernel
theorem dX8_goSleep_91 : decode cX8_goSleep 91 = .ok (.iload 4, 2) := by decide +kernel
theorem dX8_goSleep_93 : decode cX8_goSleep 93 = .ok (.iadd, 1) := by decide +kernel
theorem dX8_goSleep_94 : decode cX8_goSleep 94 = .ok (.dup2, 1) := by decide +kernel
theorem dX8_goSleep_95 : decode cX8_goSleep 95 = .ok (.iaload, 1) := by decide +kernel
theorem dX8_goSleep_96 : decode cX8_goSleep 96 = .ok (.iload 5, 2) := by decide +kernel
theorem dX8_goSleep_98 : decode cX8_goSleep 98 = .ok (.ifCond .eq 7, 3) := by decide +kernel
theorem dX8_goSleep_101 : decode cX8_goSleep 101 = .ok (.iconst 0, 1) := by decide +kernel
theorem dX8_goSleep_102 : decode cX8_goSleep 102 = .ok (.goto 4, 3) := by decide +kernel
theorem dX8_goSleep_105 : decode cX8_goSleep 105 = .ok (.iconst 1, 1) := by decide +kernel
theorem dX8_goSleep_106 : decode cX8_goSleep 106 = .ok (.iadd, 1) := by decide +kernel
theorem dX8_goSleep_107 : decode cX8_goSleep 107 = .ok (.iastore, 1) := by decide +kernel
theorem dX8_goSleep_108 : decode cX8_goSleep 108 = .ok (.aload_n 1, 1) := by decide +kernel
theorem dX8_goSleep_109 : decode cX8_goSleep 109 = .ok (.bipush 15, 2) := by decide +kernel
theorem dX8_goSleep_111 : decode cX8_goSleep 111 = .ok (.iload 4, 2) := by decide +kernel
theorem dX8_goSleep_113 : decode cX8_goSleep 113 = .ok (.iadd, 1) := by decide +kernel
theorem dX8_goSleep_114 : decode cX8_goSleep 114 = .ok (.dup2, 1) := by decide +kernel
theorem dX8_goSleep_115 : decode cX8_goSleep 115 = .ok (.iaload, 1) := by decide +kernel
theorem dX8_goSleep_116 : decode cX8_goSleep 116 = .ok (.iload 5, 2) := by decide +kernel
theorem dX8_goSleep_118 : decode cX8_goSleep 118 = .ok (.ifCond .ne 27, 3) := by decide +kernel
theorem dX8_goSleep_121 : decode cX8_goSleep 121 = .ok (.aload_n 0, 1) := by decide +kernel
theorem dX8_goSleep_122 : decode cX8_goSleep 122 = .ok (.getfield 19, 3) := by decide +kernel
theorem dX8_goSleep_125 : decode cX8_goSleep 125 = .ok (.iload_n 3, 1) := by decide +kernel
theorem dX8_goSleep_126 : decode cX8_goSleep 126 = .ok (.iaload, 1) := by decide +kernel
theorem dX8_goSleep_127 : decode cX8_goSleep 127 = .ok (.iconst 3, 1) := by decide +kernel
theorem dX8_goSleep_128 : decode cX8_goSleep 128 = .ok (.if_icmp .ne 17, 3) := by decide +kernel
theorem dX8_goSleep_131 : decode cX8_goSleep 131 = .ok (.aload_n 1, 1) := by decide +kernel
theorem dX8_goSleep_132 : decode cX8_goSleep 132 = .ok (.bipush 15, 2) := by decide +kernel
theorem dX8_goSleep_134 : decode cX8_goSleep 134 = .ok (.iload 4, 2) := by decide +kernel
theorem dX8_goSleep_136 : decode cX8_goSleep 136 = .ok (.iadd, 1) := by decide +kernel
theorem dX8_goSleep_137 : decode cX8_goSleep 137 = .ok (.iaload, 1) := by decide +kernel
theorem dX8_goSleep_138 : decode cX8_goSleep 138 = .ok (.ifCond .le 7, 3) := by decide +kernel
theorem dX8_goSleep_141 : decode cX8_goSleep 141 = .ok (.iconst 1, 1) := by decide +kernel
theorem dX8_goSleep_142 : decode cX8_goSleep 142 = .ok (.goto 4, 3) := by decide +kernel
theorem dX8_goSleep_145 : decode cX8_goSleep 145 = .ok (.iconst 0, 1) := by decide +kernel
theorem dX8_goSleep_146 : decode cX8_goSleep 146 = .ok (.isub, 1) := by decide +kernel
theorem dX8_goSleep_147 : decode cX8_goSleep 147 = .ok (.iastore, 1) := by decide +kernel
theorem dX8_goSleep_148 : decode cX8_goSleep 148 = .ok (.iinc 3 1, 3) := by decide +kernel
theorem dX8_goSleep_151 : decode cX8_goSleep 151 = .ok (.goto (-147), 3) := by decide +kernel
theorem dX8_goSleep_154 : decode cX8_goSleep 154 = .ok (.iload_n 2, 1) := by decide +kernel
theorem dX8_goSleep_155 : decode cX8_goSleep 155 = .ok (.ireturn, 1) := by decide +kernel
theorem dX8_goWait_0 : decode cX8_goWait 0 = .ok (.iconst 0, 1) := by decide +kernel
theorem dX8_goWait_1 : decode cX8_goWait 1 = .ok (.istore_n 2, 1) := by decide +kernel
theorem dX8_goWait_2 : decode cX8_goWait 2 = .ok (.iload_n 2, 1) := by decide +kernel
theorem dX8_goWait_3 : decode cX8_goWait 3 = .ok (.aload_n 0, 1) := by decide +kernel
theorem dX8_goWait_4 : decode cX8_goWait 4 = .ok (.getfield 73, 3) := by decide +kernel
theorem dX8_goWait_7 : decode cX8_goWait 7 = .ok (.if_icmp .ge 79, 3) := by decide +kernel
theorem dX8_goWait_10 : decode cX8_goWait 10 = .ok (.aload_n 1, 1) := by decide +kernel
theorem dX8_goWait_11 : decode cX8_goWait 11 = .ok (.iload_n 2, 1) := by decide +kernel
theorem dX8_goWait_12 : decode cX8_goWait 12 = .ok (.iaload, 1) := by decide +kernel
theorem dX8_goWait_13 : decode cX8_goWait 13 = .ok (.bipush 8, 2) := by decide +kernel
theorem dX8_goWait_15 : decode cX8_goWait 15 = .ok (.if_icmp .ne 7, 3) := by decide +kernel
theorem dX8_goWait_18 : decode cX8_goWait 18 = .ok (.iconst 1, 1) := by decide +kernel
theorem dX8_goWait_19 : decode cX8_goWait 19 = .ok (.goto 4, 3) := by decide +kernel
theorem dX8_goWait_22 : decode cX8_goWait 22 = .ok (.iconst 0, 1) := by decide +kernel
theorem dX8_goWait_23 : decode cX8_goWait 23 = .ok (.istore_n 3, 1) := by decide +kernel
theorem dX8_goWait_24 : decode cX8_goWait 24 = .ok (.aload_n 1, 1) := by decide +kernel
theorem dX8_goWait_25 : decode cX8_goWait 25 = .ok (.iconst 5, 1) := by decide +kernel
theorem dX8_goWait_26 : decode cX8_goWait 26 = .ok (.iload_n 2, 1) := by decide +kernel
theorem dX8_goWait_27 : decode cX8_goWait 27 = .ok (.iadd, 1) := by decide +kernel
theorem dX8_goWait_28 : decode cX8_goWait 28 = .ok (.dup2, 1) := by decide +kernel
theorem dX8_goWait_29 : decode cX8_goWait 29 = .ok (.iaload, 1) := by decide +kernel
theorem dX8_goWait_30 : decode cX8_goWait 30 = .ok (.iload_n 3, 1) := by decide +kernel
theorem dX8_goWait_31 : decode cX8_goWait 31 = .ok (.ifCond .eq 7, 3) := by decide +kernel
theorem dX8_goWait_34 : decode cX8_goWait 34 = .ok (.iconst 1, 1) := by decide +kernel
theorem dX8_goWait_35 : decode cX8_goWait 35 = .ok (.goto 4, 3) := by decide +kernel
theorem dX8_goWait_38 : decode cX8_goWait 38 = .ok (.iconst 0, 1) := by decide +kernel
theorem dX8_goWait_39 : decode cX8_goWait 39 = .ok (.iadd, 1) := by decide +kernel
theorem dX8_goWait_40 : decode cX8_goWait 40 = .ok (.iastore, 1) := by decide +kernel
theorem dX8_goWait_41 : decode cX8_goWait 41 = .ok (.aload_n 1, 1) := by decide +kernel
theorem dX8_goWait_42 : decode cX8_goWait 42 = .ok (.bipush 10, 2) := by decide +kernel
theorem dX8_goWait_44 : decode cX8_goWait 44 = .ok (.iload_n 2, 1) := by decide +kernel
theorem dX8_goWait_45 : decode cX8_goWait 45 = .ok (.iadd, 1) := by decide +kernel
theorem dX8_goWait_46 : decode cX8_goWait 46 = .ok (.dup2, 1) := by decide +kernel
theorem dX8_goWait_47 : decode cX8_goWait 47 = .ok (.iaload, 1) := by decide +kernel
theorem dX8_goWait_48 : decode cX8_goWait 48 = .ok (.iload_n 3, 1) := by decide +kernel
theorem dX8_goWait_49 : decode cX8_goWait 49 = .ok (.ifCond .eq 28, 3) := by decide +kernel
theorem dX8_goWait_52 : decode cX8_goWait 52 = .ok (.aload_n 0, 1) := by decide +kernel
theorem dX8_goWait_53 : decode cX8_goWait 53 = .ok (.getfield 19, 3) := by decide +kernel
theorem dX8_goWait_56 : decode cX8_goWait 56 = .ok (.iload_n 2, 1) := by decide +kernel
theorem dX8_goWait_57 : decode cX8_goWait 57 = .ok (.iaload, 1) := by decide +kernel
theorem dX8_goWait_58 : decode cX8_goWait 58 = .ok (.iconst 2, 1) := by decide +kernel
theorem dX8_goWait_59 : decode cX8_goWait 59 = .ok (.if_icmp .ne 18, 3) := by decide +kernel
theorem dX8_goWait_62 : decode cX8_goWait 62 = .ok (.aload_n 1, 1) := by decide +kernel
theorem dX8_goWait_63 : decode cX8_goWait 63 = .ok (.bipush 10, 2) := by decide +kernel
theorem dX8_goWait_65 : decode cX8_goWait 65 = .ok (.iload_n 2, 1) := by decide +kernel
theorem dX8_goWait_66 : decode cX8_goWait 66 = .ok (.iadd, 1) := by decide +kernel
theorem dX8_goWait_67 : decode cX8_goWait 67 = .ok (.iaload, 1) := by decide +kernel
theorem dX8_goWait_68 : decode cX8_goWait 68 = .ok (.bipush 9, 2) := by decide +kernel
theorem dX8_goWait_70 : decode cX8_goWait 70 = .ok (.if_icmp .ge 7, 3) := by decide +kernel
theorem dX8_goWait_73 : decode cX8_goWait 73 = .ok (.iconst 1, 1) := by decide +kernel
theorem dX8_goWait_74 : decode cX8_goWait 74 = .ok (.goto 4, 3) := by decide +kernel
theorem dX8_goWait_77 : decode cX8_goWait 77 = .ok (.iconst 0, 1) := by decide +kernel
theorem dX8_goWait_78 : decode cX8_goWait 78 = .ok (.iadd, 1) := by decide +kernel
theorem dX8_goWait_79 : decode cX8_goWait 79 = .ok (.iastore, 1) := by decide +kernel
theorem dX8_goWait_80 : decode cX8_goWait 80 = .ok (.iinc 2 1, 3) := by decide +kernel
theorem dX8_goWait_83 : decode cX8_goWait 83 = .ok (.goto (-81), 3) := by decide +kernel
theorem dX8_goWait_86 : decode cX8_goWait 86 = .ok (.iconst 0, 1) := by decide +kernel
theorem dX8_goWait_87 : decode cX8_goWait 87 = .ok (.istore_n 2, 1) := by decide +kernel
theorem dX8_goWait_88 : decode cX8_goWait 88 = .ok (.iload_n 2, 1) := by decide +kernel
theorem dX8_goWait_89 : decode cX8_goWait 89 = .ok (.aload_n 0, 1) := by decide +kernel
theorem dX8_goWait_90 : decode cX8_goWait 90 = .ok (.getfield 73, 3) := by decide +kernel
theorem dX8_goWait_93 : decode cX8_goWait 93 = .ok (.if_icmp .ge 93, 3) := by decide +kernel
theorem dX8_goWait_96 : decode cX8_goWait 96 = .ok (.aload_n 1, 1) := by decide +kernel
theorem dX8_goWait_97 : decode cX8_goWait 97 = .ok (.iload_n 2, 1) := by decide +kernel
theorem dX8_goWait_98 : decode cX8_goWait 98 = .ok (.iaload, 1) := by decide +kernel
theorem dX8_goWait_99 : decode cX8_goWait 99 = .ok (.bipush 8, 2) := by decide +kernel
theorem dX8_goWait_101 : decode cX8_goWait 101 = .ok (.if_icmp .ne 26, 3) := by decide +kernel
theorem dX8_goWait_104 : decode cX8_goWait 104 = .ok (.aload_n 0, 1) := by decide +kernel
theorem dX8_goWait_105 : decode cX8_goWait 105 = .ok (.getfield 19, 3) := by decide +kernel
theorem dX8_goWait_108 : decode cX8_goWait 108 = .ok (.iload_n 2, 1) := by decide +kernel
theorem dX8_goWait_109 : decode cX8_goWait 109 = .ok (.iaload, 1) := by decide +kernel
theorem dX8_goWait_110 : decode cX8_goWait 110 = .ok (.iconst 1, 1) := by decide +kernel
theorem dX8_goWait_111 : decode cX8_goWait 111 = .ok (.if_icmp .ne 16, 3) := by decide +kernel
theorem dX8_goWait_114 : decode cX8_goWait 114 = .ok (.aload_n 1, 1) := by decide +kernel
theorem dX8_goWait_115 : decode cX8_goWait 115 = .ok (.iconst 5, 1) := by decide +kernel
theorem dX8_goWait_116 : decode cX8_goWait 116 = .ok (.iload_n 2, 1) := by decide +kernel
theorem dX8_goWait_117 : decode cX8_goWait 117 = .ok (.iadd, 1) := by decide +kernel
theorem dX8_goWait_118 : decode cX8_goWait 118 = .ok (.iaload, 1) := by decide +kernel
theorem dX8_goWait_119 : decode cX8_goWait 119 = .ok (.iconst 3, 1) := by decide +kernel
theorem dX8_goWait_120 : decode cX8_goWait 120 = .ok (.if_icmp .lt 7, 3) := by decide +kernel
theorem dX8_goWait_123 : decode cX8_goWait 123 = .ok (.iconst 1, 1) := by decide +kernel
theorem dX8_goWait_124 : decode cX8_goWait 124 = .ok (.goto 4, 3) := by decide +kernel
theorem dX8_goWait_127 : decode cX8_goWait 127 = .ok (.iconst 0, 1) := by decide +kernel
theorem dX8_goWait_128 : decode cX8_goWait 128 = .ok (.istore_n 3, 1) := by decide +kernel
theorem dX8_goWait_129 : decode cX8_goWait 129 = .ok (.iload_n 3, 1) := by decide +kernel
theorem dX8_goWait_130 : decode cX8_goWait 130 = .ok (.ifCond .eq 12, 3) := by decide +kernel
theorem dX8_goWait_133 : decode cX8_goWait 133 = .ok (.aload_n 0, 1) := by decide +kernel
theorem dX8_goWait_134 : decode cX8_goWait 134 = .ok (.aload_n 1, 1) := by decide +kernel
theorem dX8_goWait_135 : decode cX8_goWait 135 = .ok (.iload_n 2, 1) := by decide +kernel
theorem dX8_goWait_136 : decode cX8_goWait 136 = .ok (.invokevirtual 151, 3) := by decide +kernel
theorem dX8_goWait_139 : decode cX8_goWait 139 = .ok (.goto 4, 3) := by decide +kernel
theorem dX8_goWait_142 : decode cX8_goWait 142 = .ok (.iconst 0, 1) := by decide +kernel
theorem dX8_goWait_143 : decode cX8_goWait 143 = .ok (.istore 4, 2) := by decide +kernel
theorem dX8_goWait_145 : decode cX8_goWait 145 = .ok (.iconst 3, 1) := by decide +kernel
theorem dX8_goWait_146 : decode cX8_goWait 146 = .ok (.istore 5, 2) := by decide +kernel
theorem dX8_goWait_148 : decode cX8_goWait 148 = .ok (.iload 5, 2) := by decide +kernel
theorem dX8_goWait_150 : decode cX8_goWait 150 = .ok (.ifCond .lt 30, 3) := by decide +kernel
theorem dX8_goWait_153 : decode cX8_goWait 153 = .ok (.aload_n 1, 1) := by decide +kernel
theorem dX8_goWait_154 : decode cX8_goWait 154 = .ok (.iload_n 2, 1) := by decide +kernel
theorem dX8_goWait_155 : decode cX8_goWait 155 = .ok (.iload 4, 2) := by decide +kernel
theorem dX8_goWait_157 : decode cX8_goWait 157 = .ok (.iload 5, 2) := by decide +kernel
theorem dX8_goWait_159 : decode cX8_goWait 159 = .ok (.invokestatic 123, 3) := by decide +kernel
theorem dX8_goWait_162 : decode cX8_goWait 162 = .ok (.ifCond .eq 8, 3) := by decide +kernel
theorem dX8_goWait_165 : decode cX8_goWait 165 = .ok (.iload 5, 2) := by decide +kernel
theorem dX8_goWait_167 : decode cX8_goWait 167 = .ok (.goto 6, 3) := by decide +kernel
theorem dX8_goWait_170 : decode cX8_goWait 170 = .ok (.aload_n 1, 1) := by decide +kernel
theorem dX8_goWait_171 : decode cX8_goWait 171 = .ok (.iload_n 2, 1) := by decide +kernel
theorem dX8_goWait_172 : decode cX8_goWait 172 = .ok (.iaload, 1) := by decide +kernel
theorem dX8_goWait_173 : decode cX8_goWait 173 = .ok (.iastore, 1) := by decide +kernel
theorem dX8_goWait_174 : decode cX8_goWait 174 = .ok (.iinc 5 (-1), 3) := by decide +kernel
theorem dX8_goWait_177 : decode cX8_goWait 177 = .ok (.goto (-29), 3) := by decide +kernel
theorem dX8_goWait_180 : decode cX8_goWait 180 = .ok (.iinc 2 1, 3) := by decide +kernel
theorem dX8_goWait_183 : decode cX8_goWait 183 = .ok (.goto (-95), 3) := by decide +kernel
theorem dX8_goWait_186 : decode cX8_goWait 186 = .ok (.return_, 1) := by decide +kernel
theorem dX8_goNight_0 : decode cX8_goNight 0 = .ok (.aload_n 0, 1) := by decide +kernel
theorem dX8_goNight_1 : decode cX8_goNight 1 = .ok (.aload_n 1, 1) := by decide +kernel
theorem dX8_goNight_2 : decode cX8_goNight 2 = .ok (.invokevirtual 154, 3) := by decide +kernel
theorem dX8_goNight_5 : decode cX8_goNight 5 = .ok (.istore_n 2, 1) := by decide +kernel
theorem dX8_goNight_6 : decode cX8_goNight 6 = .ok (.aload_n 0, 1) := by decide +kernel
theorem dX8_goNight_7 : decode cX8_goNight 7 = .ok (.aload_n 1, 1) := by decide +kernel
theorem dX8_goNight_8 : decode cX8_goNight 8 = .ok (.invokevirtual 158, 3) := by decide +kernel
theorem dX8_goNight_11 : decode cX8_goNight 11 = .ok (.iconst 0, 1) := by decide +kernel
theorem dX8_goNight_12 : decode cX8_goNight 12 = .ok (.istore_n 3, 1) := by decide +kernel
theorem dX8_goNight_13 : decode cX8_goNight 13 = .ok (.iload_n 3, 1) := by decide +kernel
theorem dX8_goNight_14 : decode cX8_goNight 14 = .ok (.aload_n 0, 1) := by decide +kernel
theorem dX8_goNight_15 : decode cX8_goNight 15 = .ok (.getfield 66, 3) := by decide +kernel
theorem dX8_goNight_18 : decode cX8_goNight 18 = .ok (.if_icmp .ge 44, 3) := by decide +kernel
theorem dX8_goNight_21 : decode cX8_goNight 21 = .ok (.aload_n 1, 1) := by decide +kernel
theorem dX8_goNight_22 : decode cX8_goNight 22 = .ok (.bipush 15, 2) := by decide +kernel
theorem dX8_goNight_24 : decode cX8_goNight 24 = .ok (.iload_n 3, 1) := by decide +kernel
theorem dX8_goNight_25 : decode cX8_goNight 25 = .ok (.iadd, 1) := by decide +kernel
theorem dX8_goNight_26 : decode cX8_goNight 26 = .ok (.dup2, 1) := by decide +kernel
theorem dX8_goNight_27 : decode cX8_goNight 27 = .ok (.iaload, 1) := by decide +kernel
theorem dX8_goNight_28 : decode cX8_goNight 28 = .ok (.aload_n 0, 1) := by decide +kernel
theorem dX8_goNight_29 : decode cX8_goNight 29 = .ok (.getfield 16, 3) := by decide +kernel
theorem dX8_goNight_32 : decode cX8_goNight 32 = .ok (.iload_n 3, 1) := by decide +kernel
theorem dX8_goNight_33 : decode cX8_goNight 33 = .ok (.iaload, 1) := by decide +kernel
theorem dX8_goNight_34 : decode cX8_goNight 34 = .ok (.iconst 3, 1) := by decide +kernel
theorem dX8_goNight_35 : decode cX8_goNight 35 = .ok (.if_icmp .ne 18, 3) := by decide +kernel
theorem dX8_goNight_38 : decode cX8_goNight 38 = .ok (.aload_n 1, 1) := by decide +kernel
theorem dX8_goNight_39 : decode cX8_goNight 39 = .ok (.bipush 15, 2) := by decide +kernel
theorem dX8_goNight_41 : decode cX8_goNight 41 = .ok (.iload_n 3, 1) := by decide +kernel
theorem dX8_goNight_42 : decode cX8_goNight 42 = .ok (.iadd, 1) := by decide +kernel
theorem dX8_goNight_43 : decode cX8_goNight 43 = .ok (.iaload, 1) := by decide +kernel
theorem dX8_goNight_44 : decode cX8_goNight 44 = .ok (.bipush 9, 2) := by decide +kernel
theorem dX8_goNight_46 : decode cX8_goNight 46 = .ok (.if_icmp .ge 7, 3) := by decide +kernel
theorem dX8_goNight_49 : decode cX8_goNight 49 = .ok (.iconst 1, 1) := by decide +kernel
theorem dX8_goNight_50 : decode cX8_goNight 50 = .ok (.goto 4, 3) := by decide +kernel
theorem dX8_goNight_53 : decode cX8_goNight 53 = .ok (.iconst 0, 1) := by decide +kernel
theorem dX8_goNight_54 : decode cX8_goNight 54 = .ok (.iadd, 1) := by decide +kernel
theorem dX8_goNight_55 : decode cX8_goNight 55 = .ok (.iastore, 1) := by decide +kernel
theorem dX8_goNight_56 : decode cX8_goNight 56 = .ok (.iinc 3 1, 3) := by decide +kernel
theorem dX8_goNight_59 : decode cX8_goNight 59 = .ok (.goto (-46), 3) := by decide +kernel
theorem dX8_goNight_62 : decode cX8_goNight 62 = .ok (.aload_n 1, 1) := by decide +kernel
theorem dX8_goNight_63 : decode cX8_goNight 63 = .ok (.bipush 23, 2) := by decide +kernel
theorem dX8_goNight_65 : decode cX8_goNight 65 = .ok (.dup2, 1) := by decide +kernel
theorem dX8_goNight_66 : decode cX8_goNight 66 = .ok (.iaload, 1) := by decide +kernel
theorem dX8_goNight_67 : decode cX8_goNight 67 = .ok (.iconst 1, 1) := by decide +kernel
theorem dX8_goNight_68 : decode cX8_goNight 68 = .ok (.iadd, 1) := by decide +kernel
theorem dX8_goNight_69 : decode cX8_goNight 69 = .ok (.iastore, 1) := by decide +kernel
theorem dX8_goNight_70 : decode cX8_goNight 70 = .ok (.iload_n 2, 1) := by decide +kernel
theorem dX8_goNight_71 : decode cX8_goNight 71 = .ok (.invokestatic 142, 3) := by decide +kernel
theorem dX8_goNight_74 : decode cX8_goNight 74 = .ok (.ireturn, 1) := by decide +kernel
theorem dX8_woke_0 : decode cX8_woke 0 = .ok (.iconst 0, 1) := by decide +kernel
theorem dX8_woke_1 : decode cX8_woke 1 = .ok (.istore_n 1, 1) := by decide +kernel
theorem dX8_woke_2 : decode cX8_woke 2 = .ok (.iconst 0, 1) := by decide +kernel
theorem dX8_woke_3 : decode cX8_woke 3 = .ok (.istore_n 2, 1) := by decide +kernel
theorem dX8_woke_4 : decode cX8_woke 4 = .ok (.iload_n 2, 1) := by decide +kernel
theorem dX8_woke_5 : decode cX8_woke 5 = .ok (.aload_n 0, 1) := by decide +kernel
theorem dX8_woke_6 : decode cX8_woke 6 = .ok (.getfield 66, 3) := by decide +kernel
theorem dX8_woke_9 : decode cX8_woke 9 = .ok (.if_icmp .ge 21, 3) := by decide +kernel
theorem dX8_woke_12 : decode cX8_woke 12 = .ok (.iload_n 1, 1) := by decide +kernel
theorem dX8_woke_13 : decode cX8_woke 13 = .ok (.aload_n 0, 1) := by decide +kernel
theorem dX8_woke_14 : decode cX8_woke 14 = .ok (.getfield 31, 3) := by decide +kernel
theorem dX8_woke_17 : decode cX8_woke 17 = .ok (.bipush 19, 2) := by decide +kernel
theorem dX8_woke_19 : decode cX8_woke 19 = .ok (.iload_n 2, 1) := by decide +kernel
theorem dX8_woke_20 : decode cX8_woke 20 = .ok (.iadd, 1) := by decide +kernel
theorem dX8_woke_21 : decode cX8_woke 21 = .ok (.iaload, 1) := by decide +kernel
theorem dX8_woke_22 : decode cX8_woke 22 = .ok (.iadd, 1) := by decide +kernel
theorem dX8_woke_23 : decode cX8_woke 23 = .ok (.istore_n 1, 1) := by decide +kernel
theorem dX8_woke_24 : decode cX8_woke 24 = .ok (.iinc 2 1, 3) := by decide +kernel
theorem dX8_woke_27 : decode cX8_woke 27 = .ok (.goto (-23), 3) := by decide +kernel
theorem dX8_woke_30 : decode cX8_woke 30 = .ok (.iload_n 1, 1) := by decide +kernel
theorem dX8_woke_31 : decode cX8_woke 31 = .ok (.ireturn, 1) := by decide +kernel
theorem dX8_plainly_0 : decode cX8_plainly 0 = .ok (.aload_n 0, 1) := by decide +kernel
theorem dX8_plainly_1 : decode cX8_plainly 1 = .ok (.bipush 15, 2) := by decide +kernel
theorem dX8_plainly_3 : decode cX8_plainly 3 = .ok (.putfield 135, 3) := by decide +kernel
theorem dX8_plainly_6 : decode cX8_plainly 6 = .ok (.aload_n 0, 1) := by decide +kernel
theorem dX8_plainly_7 : decode cX8_plainly 7 = .ok (.iconst 0, 1) := by decide +kernel
theorem dX8_plainly_8 : decode cX8_plainly 8 = .ok (.putfield 120, 3) := by decide +kernel
theorem dX8_plainly_11 : decode cX8_plainly 11 = .ok (.return_, 1) := by decide +kernel
theorem dX8_about_0 : decode cX8_about 0 = .ok (.aload_n 0, 1) := by decide +kernel
theorem dX8_about_1 : decode cX8_about 1 = .ok (.iconst 0, 1) := by decide +kernel
theorem dX8_about_2 : decode cX8_about 2 = .ok (.putfield 62, 3) := by decide +kernel
theorem dX8_about_5 : decode cX8_about 5 = .ok (.iload_n 1, 1) := by decide +kernel
theorem dX8_about_6 : decode cX8_about 6 = .ok (.tableswitch 148 0 11 #[62, 67, 72, 77, 85, 97, 108, 117, 128, 133, 138, 143], 62) := by decide +kernel
theorem dX8_about_68 : decode cX8_about 68 = .ok (.aload_n 0, 1) := by decide +kernel
theorem dX8_about_69 : decode cX8_about 69 = .ok (.getfield 114, 3) := by decide +kernel
theorem dX8_about_72 : decode cX8_about 72 = .ok (.ireturn, 1) := by decide +kernel
theorem dX8_about_73 : decode cX8_about 73 = .ok (.aload_n 0, 1) := by decide +kernel
theorem dX8_about_74 : decode cX8_about 74 = .ok (.getfield 66, 3) := by decide +kernel
theorem dX8_about_77 : decode cX8_about 77 = .ok (.ireturn, 1) := by decide +kernel
theorem dX8_about_78 : decode cX8_about 78 = .ok (.aload_n 0, 1) := by decide +kernel
theorem dX8_about_79 : decode cX8_about 79 = .ok (.getfield 73, 3) := by decide +kernel
theorem dX8_about_82 : decode cX8_about 82 = .ok (.ireturn, 1) := by decide +kernel
theorem dX8_about_83 : decode cX8_about 83 = .ok (.aload_n 0, 1) := by decide +kernel
theorem dX8_about_84 : decode cX8_about 84 = .ok (.getfield 31, 3) := by decide +kernel
theorem dX8_about_87 : decode cX8_about 87 = .ok (.bipush 23, 2) := by decide +kernel
theorem dX8_about_89 : decode cX8_about 89 = .ok (.iaload, 1) := by decide +kernel
theorem dX8_about_90 : decode cX8_about 90 = .ok (.ireturn, 1) := by decide +kernel
theorem dX8_about_91 : decode cX8_about 91 = .ok (.aload_n 0, 1) := by decide +kernel
theorem dX8_about_92 : decode cX8_about 92 = .ok (.aload_n 0, 1) := by decide +kernel
theorem dX8_about_93 : decode cX8_about 93 = .ok (.getfield 31, 3) := by decide +kernel
theorem dX8_about_96 : decode cX8_about 96 = .ok (.bipush 23, 2) := by decide +kernel
theorem dX8_about_98 : decode cX8_about 98 = .ok (.iaload, 1) := by decide +kernel
theorem dX8_about_99 : decode cX8_about 99 = .ok (.invokevirtual 127, 3) := by decide +kernel
theorem dX8_about_102 : decode cX8_about 102 = .ok (.ireturn, 1) := by decide +kernel
theorem dX8_about_103 : decode cX8_about 103 = .ok (.aload_n 0, 1) := by decide +kernel
theorem dX8_about_104 : decode cX8_about 104 = .ok (.aload_n 0, 1) := by decide +kernel
theorem dX8_about_105 : decode cX8_about 105 = .ok (.getfield 31, 3) := by decide +kernel
theorem dX8_about_108 : decode cX8_about 108 = .ok (.bipush 8, 2) := by decide +kernel
theorem dX8_about_110 : decode cX8_about 110 = .ok (.invokevirtual 131, 3) := by decide +kernel
theorem dX8_about_113 : decode cX8_about 113 = .ok (.ireturn, 1) := by decide +kernel
theorem dX8_about_114 : decode cX8_about 114 = .ok (.aload_n 0, 1) := by decide +kernel
theorem dX8_about_115 : decode cX8_about 115 = .ok (.aload_n 0, 1) := by decide +kernel
theorem dX8_about_116 : decode cX8_about 116 = .ok (.getfield 31, 3) := by decide +kernel
theorem dX8_about_119 : decode cX8_about 119 = .ok (.invokevirtual 162, 3) := by decide +kernel
theorem dX8_about_122 : decode cX8_about 122 = .ok (.ireturn, 1) := by decide +kernel
theorem dX8_about_123 : decode cX8_about 123 = .ok (.aload_n 0, 1) := by decide +kernel
theorem dX8_about_124 : decode cX8_about 124 = .ok (.aload_n 0, 1) := by decide +kernel
theorem dX8_about_125 : decode cX8_about 125 = .ok (.getfield 31, 3) := by decide +kernel
theorem dX8_about_128 : decode cX8_about 128 = .ok (.bipush 9, 2) := by decide +kernel
theorem dX8_about_130 : decode cX8_about 130 = .ok (.invokevirtual 131, 3) := by decide +kernel
theorem dX8_about_133 : decode cX8_about 133 = .ok (.ireturn, 1) := by decide +kernel
theorem dX8_about_134 : decode cX8_about 134 = .ok (.aload_n 0, 1) := by decide +kernel
theorem dX8_about_135 : decode cX8_about 135 = .ok (.invokevirtual 165, 3) := by decide +kernel
theorem dX8_about_138 : decode cX8_about 138 = .ok (.ireturn, 1) := by decide +kernel
theorem dX8_about_139 : decode cX8_about 139 = .ok (.aload_n 0, 1) := by decide +kernel
theorem dX8_about_140 : decode cX8_about 140 = .ok (.getfield 117, 3) := by decide +kernel
theorem dX8_about_143 : decode cX8_about 143 = .ok (.ireturn, 1) := by decide +kernel
theorem dX8_about_144 : decode cX8_about 144 = .ok (.aload_n 0, 1) := by decide +kernel
theorem dX8_about_145 : decode cX8_about 145 = .ok (.getfield 168, 3) := by decide +kernel
theorem dX8_about_148 : decode cX8_about 148 = .ok (.ireturn, 1) := by decide +kernel
theorem dX8_about_149 : decode cX8_about 149 = .ok (.aload_n 0, 1) := by decide +kernel
theorem dX8_about_150 : decode cX8_about 150 = .ok (.getfield 78, 3) := by decide +kernel
theorem dX8_about_153 : decode cX8_about 153 = .ok (.ireturn, 1) := by decide +kernel
theorem dX8_about_154 : decode cX8_about 154 = .ok (.bipush (-2), 2) := by decide +kernel
theorem dX8_about_156 : decode cX8_about 156 = .ok (.ireturn, 1) := by decide +kernel
theorem dX8_berth_0 : decode cX8_berth 0 = .ok (.aload_n 0, 1) := by decide +kernel
theorem dX8_berth_1 : decode cX8_berth 1 = .ok (.iconst 0, 1) := by decide +kernel
theorem dX8_berth_2 : decode cX8_berth 2 = .ok (.putfield 62, 3) := by decide +kernel
theorem dX8_berth_5 : decode cX8_berth 5 = .ok (.aload_n 0, 1) := by decide +kernel
theorem dX8_berth_6 : decode cX8_berth 6 = .ok (.invokevirtual 171, 3) := by decide +kernel
theorem dX8_berth_9 : decode cX8_berth 9 = .ok (.aload_n 0, 1) := by decide +kernel
theorem dX8_berth_10 : decode cX8_berth 10 = .ok (.iload_n 1, 1) := by decide +kernel
theorem dX8_berth_11 : decode cX8_berth 11 = .ok (.invokevirtual 174, 3) := by decide +kernel
theorem dX8_berth_14 : decode cX8_berth 14 = .ok (.ifCond .eq 5, 3) := by decide +kernel
theorem dX8_berth_17 : decode cX8_berth 17 = .ok (.iconst (-1), 1) := by decide +kernel
theorem dX8_berth_18 : decode cX8_berth 18 = .ok (.ireturn, 1) := by decide +kernel
theorem dX8_berth_19 : decode cX8_berth 19 = .ok (.iload_n 2, 1) := by decide +kernel
theorem dX8_berth_20 : decode cX8_berth 20 = .ok (.tableswitch 83 0 4 #[36, 46, 53, 63, 73], 36) := by decide +kernel
theorem dX8_berth_56 : decode cX8_berth 56 = .ok (.aload_n 0, 1) := by decide +kernel
theorem dX8_berth_57 : decode cX8_berth 57 = .ok (.getfield 31, 3) := by decide +kernel
theorem dX8_berth_60 : decode cX8_berth 60 = .ok (.bipush 15, 2) := by decide +kernel
theorem dX8_berth_62 : decode cX8_berth 62 = .ok (.iload_n 1, 1) := by decide +kernel
theorem dX8_berth_63 : decode cX8_berth 63 = .ok (.iadd, 1) := by decide +kernel
theorem dX8_berth_64 : decode cX8_berth 64 = .ok (.iaload, 1) := by decide +kernel
theorem dX8_berth_65 : decode cX8_berth 65 = .ok (.ireturn, 1) := by decide +kernel
theorem dX8_berth_66 : decode cX8_berth 66 = .ok (.aload_n 0, 1) := by decide +kernel
theorem dX8_berth_67 : decode cX8_berth 67 = .ok (.getfield 16, 3) := by decide +kernel
theorem dX8_berth_70 : decode cX8_berth 70 = .ok (.iload_n 1, 1) := by decide +kernel
theorem dX8_berth_71 : decode cX8_berth 71 = .ok (.iaload, 1) := by decide +kernel
theorem dX8_berth_72 : decode cX8_berth 72 = .ok (.ireturn, 1) := by decide +kernel
theorem dX8_berth_73 : decode cX8_berth 73 = .ok (.aload_n 0, 1) := by decide +kernel
theorem dX8_berth_74 : decode cX8_berth 74 = .ok (.aload_n 0, 1) := by decide +kernel
theorem dX8_berth_75 : decode cX8_berth 75 = .ok (.getfield 31, 3) := by decide +kernel
theorem dX8_berth_78 : decode cX8_berth 78 = .ok (.iload_n 1, 1) := by decide +kernel
theorem dX8_berth_79 : decode cX8_berth 79 = .ok (.invokevirtual 148, 3) := by decide +kernel
theorem dX8_berth_82 : decode cX8_berth 82 = .ok (.ireturn, 1) := by decide +kernel
theorem dX8_berth_83 : decode cX8_berth 83 = .ok (.aload_n 0, 1) := by decide +kernel
theorem dX8_berth_84 : decode cX8_berth 84 = .ok (.aload_n 0, 1) := by decide +kernel
theorem dX8_berth_85 : decode cX8_berth 85 = .ok (.getfield 31, 3) := by decide +kernel
theorem dX8_berth_88 : decode cX8_berth 88 = .ok (.iload_n 1, 1) := by decide +kernel
theorem dX8_berth_89 : decode cX8_berth 89 = .ok (.invokevirtual 131, 3) := by decide +kernel
theorem dX8_berth_92 : decode cX8_berth 92 = .ok (.ireturn, 1) := by decide +kernel
theorem dX8_berth_93 : decode cX8_berth 93 = .ok (.aload_n 0, 1) := by decide +kernel
theorem dX8_berth_94 : decode cX8_berth 94 = .ok (.getfield 31, 3) := by decide +kernel
theorem dX8_berth_97 : decode cX8_berth 97 = .ok (.bipush 19, 2) := by decide +kernel
theorem dX8_berth_99 : decode cX8_berth 99 = .ok (.iload_n 1, 1) := by decide +kernel
theorem dX8_berth_100 : decode cX8_berth 100 = .ok (.iadd, 1) := by decide +kernel
theorem dX8_berth_101 : decode cX8_berth 101 = .ok (.iaload, 1) := by decide +kernel
theorem dX8_berth_102 : decode cX8_berth 102 = .ok (.ireturn, 1) := by decide +kernel
theorem dX8_berth_103 : decode cX8_berth 103 = .ok (.bipush (-2), 2) := by decide +kernel
theorem dX8_berth_105 : decode cX8_berth 105 = .ok (.ireturn, 1) := by decide +kernel
theorem dX8_dream_0 : decode cX8_dream 0 = .ok (.aload_n 0, 1) := by decide +kernel
theorem dX8_dream_1 : decode cX8_dream 1 = .ok (.iconst 0, 1) := by decide +kernel
theorem dX8_dream_2 : decode cX8_dream 2 = .ok (.putfield 62, 3) := by decide +kernel
theorem dX8_dream_5 : decode cX8_dream 5 = .ok (.aload_n 0, 1) := by decide +kernel
theorem dX8_dream_6 : decode cX8_dream 6 = .ok (.invokevirtual 171, 3) := by decide +kernel
theorem dX8_dream_9 : decode cX8_dream 9 = .ok (.aload_n 0, 1) := by decide +kernel
theorem dX8_dream_10 : decode cX8_dream 10 = .ok (.iload_n 1, 1) := by decide +kernel
theorem dX8_dream_11 : decode cX8_dream 11 = .ok (.invokevirtual 178, 3) := by decide +kernel
theorem dX8_dream_14 : decode cX8_dream 14 = .ok (.ifCond .eq 5, 3) := by decide +kernel
theorem dX8_dream_17 : decode cX8_dream 17 = .ok (.iconst (-1), 1) := by decide +kernel
theorem dX8_dream_18 : decode cX8_dream 18 = .ok (.ireturn, 1) := by decide +kernel
theorem dX8_dream_19 : decode cX8_dream 19 = .ok (.iload_n 2, 1) := by decide +kernel
theorem dX8_dream_20 : decode cX8_dream 20 = .ok (.tableswitch 110 0 4 #[36, 46, 53, 60, 85], 36) := by decide +kernel
theorem dX8_dream_56 : decode cX8_dream 56 = .ok (.aload_n 0, 1) := by decide +kernel
theorem dX8_dream_57 : decode cX8_dream 57 = .ok (.getfield 31, 3) := by decide +kernel
theorem dX8_dream_60 : decode cX8_dream 60 = .ok (.bipush 10, 2) := by decide +kernel
theorem dX8_dream_62 : decode cX8_dream 62 = .ok (.iload_n 1, 1) := by decide +kernel
theorem dX8_dream_63 : decode cX8_dream 63 = .ok (.iadd, 1) := by decide +kernel
theorem dX8_dream_64 : decode cX8_dream 64 = .ok (.iaload, 1) := by decide +kernel
theorem dX8_dream_65 : decode cX8_dream 65 = .ok (.ireturn, 1) := by decide +kernel
theorem dX8_dream_66 : decode cX8_dream 66 = .ok (.aload_n 0, 1) := by decide +kernel
theorem dX8_dream_67 : decode cX8_dream 67 = .ok (.getfield 19, 3) := by decide +kernel
theorem dX8_dream_70 : decode cX8_dream 70 = .ok (.iload_n 1, 1) := by decide +kernel
theorem dX8_dream_71 : decode cX8_dream 71 = .ok (.iaload, 1) := by decide +kernel
theorem dX8_dream_72 : decode cX8_dream 72 = .ok (.ireturn, 1) := by decide +kernel
theorem dX8_dream_73 : decode cX8_dream 73 = .ok (.aload_n 0, 1) := by decide +kernel
theorem dX8_dream_74 : decode cX8_dream 74 = .ok (.getfield 31, 3) := by decide +kernel
theorem dX8_dream_77 : decode cX8_dream 77 = .ok (.iload_n 1, 1) := by decide +kernel
theorem dX8_dream_78 : decode cX8_dream 78 = .ok (.iaload, 1) := by decide +kernel
theorem dX8_dream_79 : decode cX8_dream 79 = .ok (.ireturn, 1) := by decide +kernel
theorem dX8_dream_80 : decode cX8_dream 80 = .ok (.aload_n 0, 1) := by decide +kernel
theorem dX8_dream_81 : decode cX8_dream 81 = .ok (.getfield 31, 3) := by decide +kernel
theorem dX8_dream_84 : decode cX8_dream 84 = .ok (.iload_n 1, 1) := by decide +kernel
theorem dX8_dream_85 : decode cX8_dream 85 = .ok (.iaload, 1) := by decide +kernel
theorem dX8_dream_86 : decode cX8_dream 86 = .ok (.bipush 8, 2) := by decide +kernel
theorem dX8_dream_88 : decode cX8_dream 88 = .ok (.if_icmp .ne 14, 3) := by decide +kernel
theorem dX8_dream_91 : decode cX8_dream 91 = .ok (.aload_n 0, 1) := by decide +kernel
theorem dX8_dream_92 : decode cX8_dream 92 = .ok (.getfield 31, 3) := by decide +kernel
theorem dX8_dream_95 : decode cX8_dream 95 = .ok (.iconst 5, 1) := by decide +kernel
theorem dX8_dream_96 : decode cX8_dream 96 = .ok (.iload_n 1, 1) := by decide +kernel
theorem dX8_dream_97 : decode cX8_dream 97 = .ok (.iadd, 1) := by decide +kernel
theorem dX8_dream_98 : decode cX8_dream 98 = .ok (.iaload, 1) := by decide +kernel
theorem dX8_dream_99 : decode cX8_dream 99 = .ok (.goto 5, 3) := by decide +kernel
theorem dX8_dream_102 : decode cX8_dream 102 = .ok (.bipush (-9), 2) := by decide +kernel
theorem dX8_dream_104 : decode cX8_dream 104 = .ok (.ireturn, 1) := by decide +kernel
theorem dX8_dream_105 : decode cX8_dream 105 = .ok (.aload_n 0, 1) := by decide +kernel
theorem dX8_dream_106 : decode cX8_dream 106 = .ok (.getfield 31, 3) := by decide +kernel
theorem dX8_dream_109 : decode cX8_dream 109 = .ok (.iload_n 1, 1) := by decide +kernel
theorem dX8_dream_110 : decode cX8_dream 110 = .ok (.iaload, 1) := by decide +kernel
theorem dX8_dream_111 : decode cX8_dream 111 = .ok (.bipush 8, 2) := by decide +kernel
theorem dX8_dream_113 : decode cX8_dream 113 = .ok (.if_icmp .ne 15, 3) := by decide +kernel
theorem dX8_dream_116 : decode cX8_dream 116 = .ok (.aload_n 0, 1) := by decide +kernel
theorem dX8_dream_117 : decode cX8_dream 117 = .ok (.aload_n 0, 1) := by decide +kernel
theorem dX8_dream_118 : decode cX8_dream 118 = .ok (.getfield 31, 3) := by decide +kernel
theorem dX8_dream_121 : decode cX8_dream 121 = .ok (.iload_n 1, 1) := by decide +kernel
theorem dX8_dream_122 : decode cX8_dream 122 = .ok (.invokevirtual 151, 3) := by decide +kernel
theorem dX8_dream_125 : decode cX8_dream 125 = .ok (.goto 4, 3) := by decide +kernel
theorem dX8_dream_128 : decode cX8_dream 128 = .ok (.iconst 0, 1) := by decide +kernel
theorem dX8_dream_129 : decode cX8_dream 129 = .ok (.ireturn, 1) := by decide +kernel
theorem dX8_dream_130 : decode cX8_dream 130 = .ok (.bipush (-2), 2) := by decide +kernel
theorem dX8_dream_132 : decode cX8_dream 132 = .ok (.ireturn, 1) := by decide +kernel
theorem dX8_note_0 : decode cX8_note 0 = .ok (.aload_n 0, 1) := by decide +kernel
theorem dX8_note_1 : decode cX8_note 1 = .ok (.getfield 117, 3) := by decide +kernel
theorem dX8_note_4 : decode cX8_note 4 = .ok (.bipush 14, 2) := by decide +kernel
theorem dX8_note_6 : decode cX8_note 6 = .ok (.if_icmp .ne 43, 3) := by decide +kernel
theorem dX8_note_9 : decode cX8_note 9 = .ok (.iconst 0, 1) := by decide +kernel
theorem dX8_note_10 : decode cX8_note 10 = .ok (.istore_n 1, 1) := by decide +kernel
theorem dX8_note_11 : decode cX8_note 11 = .ok (.iload_n 1, 1) := by decide +kernel
theorem dX8_note_12 : decode cX8_note 12 = .ok (.sipush 312, 3) := by decide +kernel
theorem dX8_note_15 : decode cX8_note 15 = .ok (.if_icmp .ge 24, 3) := by decide +kernel
theorem dX8_note_18 : decode cX8_note 18 = .ok (.aload_n 0, 1) := by decide +kernel
theorem dX8_note_19 : decode cX8_note 19 = .ok (.getfield 37, 3) := by decide +kernel
theorem dX8_note_22 : decode cX8_note 22 = .ok (.iload_n 1, 1) := by decide +kernel
theorem dX8_note_23 : decode cX8_note 23 = .ok (.aload_n 0, 1) := by decide +kernel
theorem dX8_note_24 : decode cX8_note 24 = .ok (.getfield 37, 3) := by decide +kernel
theorem dX8_note_27 : decode cX8_note 27 = .ok (.iload_n 1, 1) := by decide +kernel
theorem dX8_note_28 : decode cX8_note 28 = .ok (.bipush 24, 2) := by decide +kernel
theorem dX8_note_30 : decode cX8_note 30 = .ok (.iadd, 1) := by decide +kernel
theorem dX8_note_31 : decode cX8_note 31 = .ok (.iaload, 1) := by decide +kernel
theorem dX8_note_32 : decode cX8_note 32 = .ok (.iastore, 1) := by decide +kernel
theorem dX8_note_33 : decode cX8_note 33 = .ok (.iinc 1 1, 3) := by decide +kernel
theorem dX8_note_36 : decode cX8_note 36 = .ok (.goto (-25), 3) := by decide +kernel
theorem dX8_note_39 : decode cX8_note 39 = .ok (.aload_n 0, 1) := by decide +kernel
theorem dX8_note_40 : decode cX8_note 40 = .ok (.dup, 1) := by decide +kernel
theorem dX8_note_41 : decode cX8_note 41 = .ok (.getfield 117, 3) := by decide +kernel
theorem dX8_note_44 : decode cX8_note 44 = .ok (.iconst 1, 1) := by decide +kernel
theorem dX8_note_45 : decode cX8_note 45 = .ok (.isub, 1) := by decide +kernel
theorem dX8_note_46 : decode cX8_note 46 = .ok (.putfield 117, 3) := by decide +kernel
theorem dX8_note_49 : decode cX8_note 49 = .ok (.iconst 0, 1) := by decide +kernel
theorem dX8_note_50 : decode cX8_note 50 = .ok (.istore_n 1, 1) := by decide +kernel
theorem dX8_note_51 : decode cX8_note 51 = .ok (.iload_n 1, 1) := by decide +kernel
theorem dX8_note_52 : decode cX8_note 52 = .ok (.bipush 24, 2) := by decide +kernel
theorem dX8_note_54 : decode cX8_note 54 = .ok (.if_icmp .ge 29, 3) := by decide +kernel
theorem dX8_note_57 : decode cX8_note 57 = .ok (.aload_n 0, 1) := by decide +kernel
theorem dX8_note_58 : decode cX8_note 58 = .ok (.getfield 37, 3) := by decide +kernel
theorem dX8_note_61 : decode cX8_note 61 = .ok (.bipush 24, 2) := by decide +kernel
theorem dX8_note_63 : decode cX8_note 63 = .ok (.aload_n 0, 1) := by decide +kernel
theorem dX8_note_64 : decode cX8_note 64 = .ok (.getfield 117, 3) := by decide +kernel
theorem dX8_note_67 : decode cX8_note 67 = .ok (.imul, 1) := by decide +kernel
theorem dX8_note_68 : decode cX8_note 68 = .ok (.iload_n 1, 1) := by decide +kernel
theorem dX8_note_69 : decode cX8_note 69 = .ok (.iadd, 1) := by decide +kernel
theorem dX8_note_70 : decode cX8_note 70 = .ok (.aload_n 0, 1) := by decide +kernel
theorem dX8_note_71 : decode cX8_note 71 = .ok (.getfield 31, 3) := by decide +kernel
theorem dX8_note_74 : decode cX8_note 74 = .ok (.iload_n 1, 1) := by decide +kernel
theorem dX8_note_75 : decode cX8_note 75 = .ok (.iaload, 1) := by decide +kernel
theorem dX8_note_76 : decode cX8_note 76 = .ok (.iastore, 1) := by decide +kernel
theorem dX8_note_77 : decode cX8_note 77 = .ok (.iinc 1 1, 3) := by decide +kernel
theorem dX8_note_80 : decode cX8_note 80 = .ok (.goto (-29), 3) := by decide +kernel
theorem dX8_note_83 : decode cX8_note 83 = .ok (.aload_n 0, 1) := by decide +kernel
theorem dX8_note_84 : decode cX8_note 84 = .ok (.dup, 1) := by decide +kernel
theorem dX8_note_85 : decode cX8_note 85 = .ok (.getfield 117, 3) := by decide +kernel
theorem dX8_note_88 : decode cX8_note 88 = .ok (.iconst 1, 1) := by decide +kernel
theorem dX8_note_89 : decode cX8_note 89 = .ok (.iadd, 1) := by decide +kernel
theorem dX8_note_90 : decode cX8_note 90 = .ok (.putfield 117, 3) := by decide +kernel
theorem dX8_note_93 : decode cX8_note 93 = .ok (.return_, 1) := by decide +kernel
theorem dX8_night_0 : decode cX8_night 0 = .ok (.aload_n 0, 1) := by decide +kernel
theorem dX8_night_1 : decode cX8_night 1 = .ok (.iconst 0, 1) := by decide +kernel
theorem dX8_night_2 : decode cX8_night 2 = .ok (.putfield 62, 3) := by decide +kernel
theorem dX8_night_5 : decode cX8_night 5 = .ok (.aload_n 0, 1) := by decide +kernel
theorem dX8_night_6 : decode cX8_night 6 = .ok (.invokevirtual 171, 3) := by decide +kernel
theorem dX8_night_9 : decode cX8_night 9 = .ok (.aload_n 0, 1) := by decide +kernel
theorem dX8_night_10 : decode cX8_night 10 = .ok (.invokevirtual 181, 3) := by decide +kernel
theorem dX8_night_13 : decode cX8_night 13 = .ok (.aload_n 0, 1) := by decide +kernel
theorem dX8_night_14 : decode cX8_night 14 = .ok (.aload_n 0, 1) := by decide +kernel
theorem dX8_night_15 : decode cX8_night 15 = .ok (.getfield 31, 3) := by decide +kernel
theorem dX8_night_18 : decode cX8_night 18 = .ok (.invokevirtual 184, 3) := by decide +kernel
theorem dX8_night_21 : decode cX8_night 21 = .ok (.ireturn, 1) := by decide +kernel
theorem dX8_moor_0 : decode cX8_moor 0 = .ok (.aload_n 0, 1) := by decide +kernel
theorem dX8_moor_1 : decode cX8_moor 1 = .ok (.iconst 0, 1) := by decide +kernel
theorem dX8_moor_2 : decode cX8_moor 2 = .ok (.putfield 62, 3) := by decide +kernel
theorem dX8_moor_5 : decode cX8_moor 5 = .ok (.aload_n 0, 1) := by decide +kernel
theorem dX8_moor_6 : decode cX8_moor 6 = .ok (.invokevirtual 171, 3) := by decide +kernel
theorem dX8_moor_9 : decode cX8_moor 9 = .ok (.aload_n 0, 1) := by decide +kernel
theorem dX8_moor_10 : decode cX8_moor 10 = .ok (.iload_n 1, 1) := by decide +kernel
theorem dX8_moor_11 : decode cX8_moor 11 = .ok (.invokevirtual 178, 3) := by decide +kernel
theorem dX8_moor_14 : decode cX8_moor 14 = .ok (.ifCond .ne 11, 3) := by decide +kernel
theorem dX8_moor_17 : decode cX8_moor 17 = .ok (.aload_n 0, 1) := by decide +kernel
theorem dX8_moor_18 : decode cX8_moor 18 = .ok (.iload_n 2, 1) := by decide +kernel
theorem dX8_moor_19 : decode cX8_moor 19 = .ok (.invokevirtual 174, 3) := by decide +kernel
theorem dX8_moor_22 : decode cX8_moor 22 = .ok (.ifCond .eq 5, 3) := by decide +kernel
theorem dX8_moor_25 : decode cX8_moor 25 = .ok (.iconst (-1), 1) := by decide +kernel
theorem dX8_moor_26 : decode cX8_moor 26 = .ok (.ireturn, 1) := by decide +kernel
theorem dX8_moor_27 : decode cX8_moor 27 = .ok (.aload_n 0, 1) := by decide +kernel
theorem dX8_moor_28 : decode cX8_moor 28 = .ok (.getfield 31, 3) := by decide +kernel
theorem dX8_moor_31 : decode cX8_moor 31 = .ok (.iload_n 1, 1) := by decide +kernel
theorem dX8_moor_32 : decode cX8_moor 32 = .ok (.iaload, 1) := by decide +kernel
theorem dX8_moor_33 : decode cX8_moor 33 = .ok (.bipush 8, 2) := by decide +kernel
theorem dX8_moor_35 : decode cX8_moor 35 = .ok (.if_icmp .ne 16, 3) := by decide +kernel
theorem dX8_moor_38 : decode cX8_moor 38 = .ok (.aload_n 0, 1) := by decide +kernel
theorem dX8_moor_39 : decode cX8_moor 39 = .ok (.aload_n 0, 1) := by decide +kernel
theorem dX8_moor_40 : decode cX8_moor 40 = .ok (.getfield 31, 3) := by decide +kernel
theorem dX8_moor_43 : decode cX8_moor 43 = .ok (.iload_n 1, 1) := by decide +kernel
theorem dX8_moor_44 : decode cX8_moor 44 = .ok (.iload_n 2, 1) := by decide +kernel
theorem dX8_moor_45 : decode cX8_moor 45 = .ok (.invokevirtual 145, 3) := by decide +kernel
theorem dX8_moor_48 : decode cX8_moor 48 = .ok (.ifCond .ne 6, 3) := by decide +kernel
theorem dX8_moor_51 : decode cX8_moor 51 = .ok (.bipush (-3), 2) := by decide +kernel
theorem dX8_moor_53 : decode cX8_moor 53 = .ok (.ireturn, 1) := by decide +kernel
theorem dX8_moor_54 : decode cX8_moor 54 = .ok (.aload_n 0, 1) := by decide +kernel
theorem dX8_moor_55 : decode cX8_moor 55 = .ok (.invokevirtual 181, 3) := by decide +kernel
theorem dX8_moor_58 : decode cX8_moor 58 = .ok (.aload_n 0, 1) := by decide +kernel
theorem dX8_moor_59 : decode cX8_moor 59 = .ok (.getfield 31, 3) := by decide +kernel
theorem dX8_moor_62 : decode cX8_moor 62 = .ok (.iload_n 1, 1) := by decide +kernel
theorem dX8_moor_63 : decode cX8_moor 63 = .ok (.iload_n 2, 1) := by decide +kernel
theorem dX8_moor_64 : decode cX8_moor 64 = .ok (.iastore, 1) := by decide +kernel
theorem dX8_moor_65 : decode cX8_moor 65 = .ok (.aload_n 0, 1) := by decide +kernel
theorem dX8_moor_66 : decode cX8_moor 66 = .ok (.aload_n 0, 1) := by decide +kernel
theorem dX8_moor_67 : decode cX8_moor 67 = .ok (.getfield 31, 3) := by decide +kernel
theorem dX8_moor_70 : decode cX8_moor 70 = .ok (.iload_n 2, 1) := by decide +kernel
theorem dX8_moor_71 : decode cX8_moor 71 = .ok (.invokevirtual 131, 3) := by decide +kernel
theorem dX8_moor_74 : decode cX8_moor 74 = .ok (.invokestatic 142, 3) := by decide +kernel
theorem dX8_moor_77 : decode cX8_moor 77 = .ok (.ireturn, 1) := by decide +kernel
theorem dX8_goTow_0 : decode cX8_goTow 0 = .ok (.aload_n 0, 1) := by decide +kernel
theorem dX8_goTow_1 : decode cX8_goTow 1 = .ok (.iload_n 1, 1) := by decide +kernel
theorem dX8_goTow_2 : decode cX8_goTow 2 = .ok (.bipush 8, 2) := by decide +kernel
theorem dX8_goTow_4 : decode cX8_goTow 4 = .ok (.iastore, 1) := by decide +kernel
theorem dX8_goTow_5 : decode cX8_goTow 5 = .ok (.aload_n 0, 1) := by decide +kernel
theorem dX8_goTow_6 : decode cX8_goTow 6 = .ok (.iconst 5, 1) := by decide +kernel
theorem dX8_goTow_7 : decode cX8_goTow 7 = .ok (.iload_n 1, 1) := by decide +kernel
theorem dX8_goTow_8 : decode cX8_goTow 8 = .ok (.iadd, 1) := by decide +kernel
theorem dX8_goTow_9 : decode cX8_goTow 9 = .ok (.iconst 0, 1) := by decide +kernel
theorem dX8_goTow_10 : decode cX8_goTow 10 = .ok (.iastore, 1) := by decide +kernel
theorem dX8_goTow_11 : decode cX8_goTow 11 = .ok (.return_, 1) := by decide +kernel
theorem dX8_tow_0 : decode cX8_tow 0 = .ok (.aload_n 0, 1) := by decide +kernel
theorem dX8_tow_1 : decode cX8_tow 1 = .ok (.iconst 0, 1) := by decide +kernel
theorem dX8_tow_2 : decode cX8_tow 2 = .ok (.putfield 62, 3) := by decide +kernel
theorem dX8_tow_5 : decode cX8_tow 5 = .ok (.aload_n 0, 1) := by decide +kernel
theorem dX8_tow_6 : decode cX8_tow 6 = .ok (.iload_n 1, 1) := by decide +kernel
theorem dX8_tow_7 : decode cX8_tow 7 = .ok (.invokevirtual 178, 3) := by decide +kernel
theorem dX8_tow_10 : decode cX8_tow 10 = .ok (.ifCond .eq 5, 3) := by decide +kernel
theorem dX8_tow_13 : decode cX8_tow 13 = .ok (.iconst (-1), 1) := by decide +kernel
theorem dX8_tow_14 : decode cX8_tow 14 = .ok (.ireturn, 1) := by decide +kernel
theorem dX8_tow_15 : decode cX8_tow 15 = .ok (.aload_n 0, 1) := by decide +kernel
theorem dX8_tow_16 : decode cX8_tow 16 = .ok (.getfield 31, 3) := by decide +kernel
theorem dX8_tow_19 : decode cX8_tow 19 = .ok (.iload_n 1, 1) := by decide +kernel
theorem dX8_tow_20 : decode cX8_tow 20 = .ok (.iaload, 1) := by decide +kernel
theorem dX8_tow_21 : decode cX8_tow 21 = .ok (.istore_n 2, 1) := by decide +kernel
theorem dX8_tow_22 : decode cX8_tow 22 = .ok (.iload_n 2, 1) := by decide +kernel
theorem dX8_tow_23 : decode cX8_tow 23 = .ok (.iconst 4, 1) := by decide +kernel
theorem dX8_tow_24 : decode cX8_tow 24 = .ok (.if_icmp .lt 6, 3) := by decide +kernel
theorem dX8_tow_27 : decode cX8_tow 27 = .ok (.bipush (-3), 2) := by decide +kernel
theorem dX8_tow_29 : decode cX8_tow 29 = .ok (.ireturn, 1) := by decide +kernel
theorem dX8_tow_30 : decode cX8_tow 30 = .ok (.aload_n 0, 1) := by decide +kernel
theorem dX8_tow_31 : decode cX8_tow 31 = .ok (.invokevirtual 181, 3) := by decide +kernel
theorem dX8_tow_34 : decode cX8_tow 34 = .ok (.aload_n 0, 1) := by decide +kernel
theorem dX8_tow_35 : decode cX8_tow 35 = .ok (.getfield 31, 3) := by decide +kernel
theorem dX8_tow_38 : decode cX8_tow 38 = .ok (.iload_n 1, 1) := by decide +kernel
theorem dX8_tow_39 : decode cX8_tow 39 = .ok (.invokestatic 187, 3) := by decide +kernel
theorem dX8_tow_42 : decode cX8_tow 42 = .ok (.iload_n 2, 1) := by decide +kernel
theorem dX8_tow_43 : decode cX8_tow 43 = .ok (.ireturn, 1) := by decide +kernel
theorem dX8_undo_0 : decode cX8_undo 0 = .ok (.aload_n 0, 1) := by decide +kernel
theorem dX8_undo_1 : decode cX8_undo 1 = .ok (.iconst 0, 1) := by decide +kernel
theorem dX8_undo_2 : decode cX8_undo 2 = .ok (.putfield 62, 3) := by decide +kernel
theorem dX8_undo_5 : decode cX8_undo 5 = .ok (.aload_n 0, 1) := by decide +kernel
theorem dX8_undo_6 : decode cX8_undo 6 = .ok (.getfield 117, 3) := by decide +kernel
theorem dX8_undo_9 : decode cX8_undo 9 = .ok (.ifCond .ne 6, 3) := by decide +kernel
theorem dX8_undo_12 : decode cX8_undo 12 = .ok (.bipush (-3), 2) := by decide +kernel
theorem dX8_undo_14 : decode cX8_undo 14 = .ok (.ireturn, 1) := by decide +kernel
theorem dX8_undo_15 : decode cX8_undo 15 = .ok (.aload_n 0, 1) := by decide +kernel
theorem dX8_undo_16 : decode cX8_undo 16 = .ok (.dup, 1) := by decide +kernel
theorem dX8_undo_17 : decode cX8_undo 17 = .ok (.getfield 117, 3) := by decide +kernel
theorem dX8_undo_20 : decode cX8_undo 20 = .ok (.iconst 1, 1) := by decide +kernel
theorem dX8_undo_21 : decode cX8_undo 21 = .ok (.isub, 1) := by decide +kernel
theorem dX8_undo_22 : decode cX8_undo 22 = .ok (.putfield 117, 3) := by decide +kernel
theorem dX8_undo_25 : decode cX8_undo 25 = .ok (.iconst 0, 1) := by decide +kernel
theorem dX8_undo_26 : decode cX8_undo 26 = .ok (.istore_n 1, 1) := by decide +kernel
theorem dX8_undo_27 : decode cX8_undo 27 = .ok (.iload_n 1, 1) := by decide +kernel
theorem dX8_undo_28 : decode cX8_undo 28 = .ok (.bipush 24, 2) := by decide +kernel
theorem dX8_undo_30 : decode cX8_undo 30 = .ok (.if_icmp .ge 29, 3) := by decide +kernel
theorem dX8_undo_33 : decode cX8_undo 33 = .ok (.aload_n 0, 1) := by decide +kernel
theorem dX8_undo_34 : decode cX8_undo 34 = .ok (.getfield 31, 3) := by decide +kernel
theorem dX8_undo_37 : decode cX8_undo 37 = .ok (.iload_n 1, 1) := by decide +kernel
theorem dX8_undo_38 : decode cX8_undo 38 = .ok (.aload_n 0, 1) := by decide +kernel
theorem dX8_undo_39 : decode cX8_undo 39 = .ok (.getfield 37, 3) := by decide +kernel
theorem dX8_undo_42 : decode cX8_undo 42 = .ok (.bipush 24, 2) := by decide +kernel
theorem dX8_undo_44 : decode cX8_undo 44 = .ok (.aload_n 0, 1) := by decide +kernel
theorem dX8_undo_45 : decode cX8_undo 45 = .ok (.getfield 117, 3) := by decide +kernel
theorem dX8_undo_48 : decode cX8_undo 48 = .ok (.imul, 1) := by decide +kernel
theorem dX8_undo_49 : decode cX8_undo 49 = .ok (.iload_n 1, 1) := by decide +kernel
theorem dX8_undo_50 : decode cX8_undo 50 = .ok (.iadd, 1) := by decide +kernel
theorem dX8_undo_51 : decode cX8_undo 51 = .ok (.iaload, 1) := by decide +kernel
theorem dX8_undo_52 : decode cX8_undo 52 = .ok (.iastore, 1) := by decide +kernel
theorem dX8_undo_53 : decode cX8_undo 53 = .ok (.iinc 1 1, 3) := by decide +kernel
theorem dX8_undo_56 : decode cX8_undo 56 = .ok (.goto (-29), 3) := by decide +kernel
theorem dX8_undo_59 : decode cX8_undo 59 = .ok (.aload_n 0, 1) := by decide +kernel
theorem dX8_undo_60 : decode cX8_undo 60 = .ok (.getfield 117, 3) := by decide +kernel
theorem dX8_undo_63 : decode cX8_undo 63 = .ok (.ireturn, 1) := by decide +kernel
theorem dX8_begin_0 : decode cX8_begin 0 = .ok (.iconst 0, 1) := by decide +kernel
theorem dX8_begin_1 : decode cX8_begin 1 = .ok (.istore_n 1, 1) := by decide +kernel
theorem dX8_begin_2 : decode cX8_begin 2 = .ok (.iload_n 1, 1) := by decide +kernel
theorem dX8_begin_3 : decode cX8_begin 3 = .ok (.bipush 24, 2) := by decide +kernel
theorem dX8_begin_5 : decode cX8_begin 5 = .ok (.if_icmp .ge 21, 3) := by decide +kernel
theorem dX8_begin_8 : decode cX8_begin 8 = .ok (.aload_n 0, 1) := by decide +kernel
theorem dX8_begin_9 : decode cX8_begin 9 = .ok (.getfield 34, 3) := by decide +kernel
theorem dX8_begin_12 : decode cX8_begin 12 = .ok (.iload_n 1, 1) := by decide +kernel
theorem dX8_begin_13 : decode cX8_begin 13 = .ok (.aload_n 0, 1) := by decide +kernel
theorem dX8_begin_14 : decode cX8_begin 14 = .ok (.getfield 31, 3) := by decide +kernel
theorem dX8_begin_17 : decode cX8_begin 17 = .ok (.iload_n 1, 1) := by decide +kernel
theorem dX8_begin_18 : decode cX8_begin 18 = .ok (.iaload, 1) := by decide +kernel
theorem dX8_begin_19 : decode cX8_begin 19 = .ok (.iastore, 1) := by decide +kernel
theorem dX8_begin_20 : decode cX8_begin 20 = .ok (.iinc 1 1, 3) := by decide +kernel
theorem dX8_begin_23 : decode cX8_begin 23 = .ok (.goto (-21), 3) := by decide +kernel
theorem dX8_begin_26 : decode cX8_begin 26 = .ok (.return_, 1) := by decide +kernel
theorem dX8_goNights_0 : decode cX8_goNights 0 = .ok (.aload_n 0, 1) := by decide +kernel
theorem dX8_goNights_1 : decode cX8_goNights 1 = .ok (.invokevirtual 171, 3) := by decide +kernel
theorem dX8_goNights_4 : decode cX8_goNights 4 = .ok (.aload_n 0, 1) := by decide +kernel
theorem dX8_goNights_5 : decode cX8_goNights 5 = .ok (.invokevirtual 191, 3) := by decide +kernel
theorem dX8_goNights_8 : decode cX8_goNights 8 = .ok (.iconst 0, 1) := by decide +kernel
theorem dX8_goNights_9 : decode cX8_goNights 9 = .ok (.istore_n 2, 1) := by decide +kernel
theorem dX8_goNights_10 : decode cX8_goNights 10 = .ok (.iload_n 2, 1) := by decide +kernel
theorem dX8_goNights_11 : decode cX8_goNights 11 = .ok (.iload_n 1, 1) := by decide +kernel
theorem dX8_goNights_12 : decode cX8_goNights 12 = .ok (.if_icmp .ge 18, 3) := by decide +kernel
theorem dX8_goNights_15 : decode cX8_goNights 15 = .ok (.aload_n 0, 1) := by decide +kernel
theorem dX8_goNights_16 : decode cX8_goNights 16 = .ok (.aload_n 0, 1) := by decide +kernel
theorem dX8_goNights_17 : decode cX8_goNights 17 = .ok (.getfield 34, 3) := by decide +kernel
theorem dX8_goNights_20 : decode cX8_goNights 20 = .ok (.invokevirtual 184, 3) := by decide +kernel
theorem dX8_goNights_23 : decode cX8_goNights 23 = .ok (.pop, 1) := by decide +kernel
theorem dX8_goNights_24 : decode cX8_goNights 24 = .ok (.iinc 2 1, 3) := by decide +kernel
theorem dX8_goNights_27 : decode cX8_goNights 27 = .ok (.goto (-17), 3) := by decide +kernel
theorem dX8_goNights_30 : decode cX8_goNights 30 = .ok (.return_, 1) := by decide +kernel
theorem dX8_later_0 : decode cX8_later 0 = .ok (.aload_n 0, 1) := by decide +kernel
theorem dX8_later_1 : decode cX8_later 1 = .ok (.iconst 0, 1) := by decide +kernel
theorem dX8_later_2 : decode cX8_later 2 = .ok (.putfield 62, 3) := by decide +kernel
theorem dX8_later_5 : decode cX8_later 5 = .ok (.aload_n 0, 1) := by decide +kernel
theorem dX8_later_6 : decode cX8_later 6 = .ok (.iload_n 1, 1) := by decide +kernel
theorem dX8_later_7 : decode cX8_later 7 = .ok (.invokevirtual 178, 3) := by decide +kernel
theorem dX8_later_10 : decode cX8_later 10 = .ok (.ifCond .eq 5, 3) := by decide +kernel
theorem dX8_later_13 : decode cX8_later 13 = .ok (.iconst (-1), 1) := by decide +kernel
theorem dX8_later_14 : decode cX8_later 14 = .ok (.ireturn, 1) := by decide +kernel
theorem dX8_later_15 : decode cX8_later 15 = .ok (.iload_n 2, 1) := by decide +kernel
theorem dX8_later_16 : decode cX8_later 16 = .ok (.i2l, 1) := by decide +kernel
theorem dX8_later_17 : decode cX8_later 17 = .ok (.lconst 0, 1) := by decide +kernel
theorem dX8_later_18 : decode cX8_later 18 = .ok (.ldc2_w 194, 3) := by decide +kernel
theorem dX8_later_21 : decode cX8_later 21 = .ok (.invokestatic 69, 3) := by decide +kernel
theorem dX8_later_24 : decode cX8_later 24 = .ok (.ifCond .ne 6, 3) := by decide +kernel
theorem dX8_later_27 : decode cX8_later 27 = .ok (.bipush (-2), 2) := by decide +kernel
theorem dX8_later_29 : decode cX8_later 29 = .ok (.ireturn, 1) := by decide +kernel
theorem dX8_later_30 : decode cX8_later 30 = .ok (.aload_n 0, 1) := by decide +kernel
theorem dX8_later_31 : decode cX8_later 31 = .ok (.iload_n 2, 1) := by decide +kernel
theorem dX8_later_32 : decode cX8_later 32 = .ok (.invokevirtual 196, 3) := by decide +kernel
theorem dX8_later_35 : decode cX8_later 35 = .ok (.aload_n 0, 1) := by decide +kernel
theorem dX8_later_36 : decode cX8_later 36 = .ok (.getfield 34, 3) := by decide +kernel
theorem dX8_later_39 : decode cX8_later 39 = .ok (.iload_n 1, 1) := by decide +kernel
theorem dX8_later_40 : decode cX8_later 40 = .ok (.iaload, 1) := by decide +kernel
theorem dX8_later_41 : decode cX8_later 41 = .ok (.ireturn, 1) := by decide +kernel
theorem dX8_wakes_0 : decode cX8_wakes 0 = .ok (.aload_n 0, 1) := by decide +kernel
theorem dX8_wakes_1 : decode cX8_wakes 1 = .ok (.iconst 0, 1) := by decide +kernel
theorem dX8_wakes_2 : decode cX8_wakes 2 = .ok (.putfield 62, 3) := by decide +kernel
theorem dX8_wakes_5 : decode cX8_wakes 5 = .ok (.aload_n 0, 1) := by decide +kernel
theorem dX8_wakes_6 : decode cX8_wakes 6 = .ok (.iload_n 1, 1) := by decide +kernel
theorem dX8_wakes_7 : decode cX8_wakes 7 = .ok (.invokevirtual 174, 3) := by decide +kernel
theorem dX8_wakes_10 : decode cX8_wakes 10 = .ok (.ifCond .eq 5, 3) := by decide +kernel
theorem dX8_wakes_13 : decode cX8_wakes 13 = .ok (.iconst (-1), 1) := by decide +kernel
theorem dX8_wakes_14 : decode cX8_wakes 14 = .ok (.ireturn, 1) := by decide +kernel
theorem dX8_wakes_15 : decode cX8_wakes 15 = .ok (.iload_n 2, 1) := by decide +kernel
theorem dX8_wakes_16 : decode cX8_wakes 16 = .ok (.i2l, 1) := by decide +kernel
theorem dX8_wakes_17 : decode cX8_wakes 17 = .ok (.lconst 0, 1) := by decide +kernel
theorem dX8_wakes_18 : decode cX8_wakes 18 = .ok (.ldc2_w 194, 3) := by decide +kernel
theorem dX8_wakes_21 : decode cX8_wakes 21 = .ok (.invokestatic 69, 3) := by decide +kernel
theorem dX8_wakes_24 : decode cX8_wakes 24 = .ok (.ifCond .ne 6, 3) := by decide +kernel
theorem dX8_wakes_27 : decode cX8_wakes 27 = .ok (.bipush (-2), 2) := by decide +kernel
theorem dX8_wakes_29 : decode cX8_wakes 29 = .ok (.ireturn, 1) := by decide +kernel
theorem dX8_wakes_30 : decode cX8_wakes 30 = .ok (.aload_n 0, 1) := by decide +kernel
theorem dX8_wakes_31 : decode cX8_wakes 31 = .ok (.iload_n 2, 1) := by decide +kernel
theorem dX8_wakes_32 : decode cX8_wakes 32 = .ok (.invokevirtual 196, 3) := by decide +kernel
theorem dX8_wakes_35 : decode cX8_wakes 35 = .ok (.aload_n 0, 1) := by decide +kernel
theorem dX8_wakes_36 : decode cX8_wakes 36 = .ok (.getfield 34, 3) := by decide +kernel
theorem dX8_wakes_39 : decode cX8_wakes 39 = .ok (.bipush 19, 2) := by decide +kernel
theorem dX8_wakes_41 : decode cX8_wakes 41 = .ok (.iload_n 1, 1) := by decide +kernel
theorem dX8_wakes_42 : decode cX8_wakes 42 = .ok (.iadd, 1) := by decide +kernel
theorem dX8_wakes_43 : decode cX8_wakes 43 = .ok (.iaload, 1) := by decide +kernel
theorem dX8_wakes_44 : decode cX8_wakes 44 = .ok (.ireturn, 1) := by decide +kernel
theorem dX8_fitsThen_0 : decode cX8_fitsThen 0 = .ok (.iconst 0, 1) := by decide +kernel
theorem dX8_fitsThen_1 : decode cX8_fitsThen 1 = .ok (.istore_n 2, 1) := by decide +kernel
theorem dX8_fitsThen_2 : decode cX8_fitsThen 2 = .ok (.iconst 0, 1) := by decide +kernel
theorem dX8_fitsThen_3 : decode cX8_fitsThen 3 = .ok (.istore_n 3, 1) := by decide +kernel
theorem dX8_fitsThen_4 : decode cX8_fitsThen 4 = .ok (.iload_n 3, 1) := by decide +kernel
theorem dX8_fitsThen_5 : decode cX8_fitsThen 5 = .ok (.aload_n 0, 1) := by decide +kernel
