theorem dX8_explains_114 : decode cX8_explains 114 = .ok (.ireturn, 1) := by decide +kernel
theorem dX8_depths_0 : decode cX8_depths 0 = .ok (.aload_n 0, 1) := by decide +kernel
theorem dX8_depths_1 : decode cX8_depths 1 = .ok (.iconst 0, 1) := by decide +kernel
theorem dX8_depths_2 : decode cX8_depths 2 = .ok (.putfield 62, 3) := by decide +kernel
theorem dX8_depths_5 : decode cX8_depths 5 = .ok (.iload_n 1, 1) := by decide +kernel
theorem dX8_depths_6 : decode cX8_depths 6 = .ok (.i2l, 1) := by decide +kernel
theorem dX8_depths_7 : decode cX8_depths 7 = .ok (.lconst 0, 1) := by decide +kernel
theorem dX8_depths_8 : decode cX8_depths 8 = .ok (.lconst 1, 1) := by decide +kernel
theorem dX8_depths_9 : decode cX8_depths 9 = .ok (.invokestatic 69, 3) := by decide +kernel
theorem dX8_depths_12 : decode cX8_depths 12 = .ok (.ifCond .ne 6, 3) := by decide +kernel
theorem dX8_depths_15 : decode cX8_depths 15 = .ok (.bipush (-2), 2) := by decide +kernel
theorem dX8_depths_17 : decode cX8_depths 17 = .ok (.ireturn, 1) := by decide +kernel
theorem dX8_depths_18 : decode cX8_depths 18 = .ok (.aload_n 0, 1) := by decide +kernel
theorem dX8_depths_19 : decode cX8_depths 19 = .ok (.iconst 0, 1) := by decide +kernel
theorem dX8_depths_20 : decode cX8_depths 20 = .ok (.putfield 241, 3) := by decide +kernel
theorem dX8_depths_23 : decode cX8_depths 23 = .ok (.aload_n 0, 1) := by decide +kernel
theorem dX8_depths_24 : decode cX8_depths 24 = .ok (.bipush (-9), 2) := by decide +kernel
theorem dX8_depths_26 : decode cX8_depths 26 = .ok (.putfield 244, 3) := by decide +kernel
theorem dX8_depths_29 : decode cX8_depths 29 = .ok (.iconst 0, 1) := by decide +kernel
theorem dX8_depths_30 : decode cX8_depths 30 = .ok (.istore_n 2, 1) := by decide +kernel
theorem dX8_depths_31 : decode cX8_depths 31 = .ok (.iload_n 2, 1) := by decide +kernel
theorem dX8_depths_32 : decode cX8_depths 32 = .ok (.bipush 20, 2) := by decide +kernel
theorem dX8_depths_34 : decode cX8_depths 34 = .ok (.if_icmp .ge 81, 3) := by decide +kernel
theorem dX8_depths_37 : decode cX8_depths 37 = .ok (.aload_n 0, 1) := by decide +kernel
theorem dX8_depths_38 : decode cX8_depths 38 = .ok (.iload_n 2, 1) := by decide +kernel
theorem dX8_depths_39 : decode cX8_depths 39 = .ok (.bipush 10, 2) := by decide +kernel
theorem dX8_depths_41 : decode cX8_depths 41 = .ok (.irem, 1) := by decide +kernel
theorem dX8_depths_42 : decode cX8_depths 42 = .ok (.iload_n 2, 1) := by decide +kernel
theorem dX8_depths_43 : decode cX8_depths 43 = .ok (.bipush 9, 2) := by decide +kernel
theorem dX8_depths_45 : decode cX8_depths 45 = .ok (.if_icmp .le 7, 3) := by decide +kernel
theorem dX8_depths_48 : decode cX8_depths 48 = .ok (.iconst 1, 1) := by decide +kernel
theorem dX8_depths_49 : decode cX8_depths 49 = .ok (.goto 4, 3) := by decide +kernel
theorem dX8_depths_52 : decode cX8_depths 52 = .ok (.iconst 0, 1) := by decide +kernel
theorem dX8_depths_53 : decode cX8_depths 53 = .ok (.invokevirtual 247, 3) := by decide +kernel
theorem dX8_depths_56 : decode cX8_depths 56 = .ok (.istore_n 3, 1) := by decide +kernel
theorem dX8_depths_57 : decode cX8_depths 57 = .ok (.aload_n 0, 1) := by decide +kernel
theorem dX8_depths_58 : decode cX8_depths 58 = .ok (.iload_n 3, 1) := by decide +kernel
theorem dX8_depths_59 : decode cX8_depths 59 = .ok (.ifCond .eq 25, 3) := by decide +kernel
theorem dX8_depths_62 : decode cX8_depths 62 = .ok (.aload_n 0, 1) := by decide +kernel
theorem dX8_depths_63 : decode cX8_depths 63 = .ok (.getfield 241, 3) := by decide +kernel
theorem dX8_depths_66 : decode cX8_depths 66 = .ok (.ifCond .ne 18, 3) := by decide +kernel
theorem dX8_depths_69 : decode cX8_depths 69 = .ok (.iload_n 2, 1) := by decide +kernel
theorem dX8_depths_70 : decode cX8_depths 70 = .ok (.bipush 10, 2) := by decide +kernel
theorem dX8_depths_72 : decode cX8_depths 72 = .ok (.idiv, 1) := by decide +kernel
theorem dX8_depths_73 : decode cX8_depths 73 = .ok (.bipush 30, 2) := by decide +kernel
theorem dX8_depths_75 : decode cX8_depths 75 = .ok (.imul, 1) := by decide +kernel
theorem dX8_depths_76 : decode cX8_depths 76 = .ok (.iload_n 2, 1) := by decide +kernel
theorem dX8_depths_77 : decode cX8_depths 77 = .ok (.bipush 10, 2) := by decide +kernel
theorem dX8_depths_79 : decode cX8_depths 79 = .ok (.irem, 1) := by decide +kernel
theorem dX8_depths_80 : decode cX8_depths 80 = .ok (.iadd, 1) := by decide +kernel
theorem dX8_depths_81 : decode cX8_depths 81 = .ok (.goto 7, 3) := by decide +kernel
theorem dX8_depths_84 : decode cX8_depths 84 = .ok (.aload_n 0, 1) := by decide +kernel
theorem dX8_depths_85 : decode cX8_depths 85 = .ok (.getfield 244, 3) := by decide +kernel
theorem dX8_depths_88 : decode cX8_depths 88 = .ok (.putfield 244, 3) := by decide +kernel
theorem dX8_depths_91 : decode cX8_depths 91 = .ok (.aload_n 0, 1) := by decide +kernel
theorem dX8_depths_92 : decode cX8_depths 92 = .ok (.dup, 1) := by decide +kernel
theorem dX8_depths_93 : decode cX8_depths 93 = .ok (.getfield 241, 3) := by decide +kernel
theorem dX8_depths_96 : decode cX8_depths 96 = .ok (.iload_n 3, 1) := by decide +kernel
theorem dX8_depths_97 : decode cX8_depths 97 = .ok (.ifCond .eq 7, 3) := by decide +kernel
theorem dX8_depths_100 : decode cX8_depths 100 = .ok (.iconst 1, 1) := by decide +kernel
theorem dX8_depths_101 : decode cX8_depths 101 = .ok (.goto 4, 3) := by decide +kernel
theorem dX8_depths_104 : decode cX8_depths 104 = .ok (.iconst 0, 1) := by decide +kernel
theorem dX8_depths_105 : decode cX8_depths 105 = .ok (.iadd, 1) := by decide +kernel
theorem dX8_depths_106 : decode cX8_depths 106 = .ok (.putfield 241, 3) := by decide +kernel
theorem dX8_depths_109 : decode cX8_depths 109 = .ok (.iinc 2 1, 3) := by decide +kernel
theorem dX8_depths_112 : decode cX8_depths 112 = .ok (.goto (-81), 3) := by decide +kernel
theorem dX8_depths_115 : decode cX8_depths 115 = .ok (.iload_n 1, 1) := by decide +kernel
theorem dX8_depths_116 : decode cX8_depths 116 = .ok (.ifCond .ne 10, 3) := by decide +kernel
theorem dX8_depths_119 : decode cX8_depths 119 = .ok (.aload_n 0, 1) := by decide +kernel
theorem dX8_depths_120 : decode cX8_depths 120 = .ok (.getfield 241, 3) := by decide +kernel
theorem dX8_depths_123 : decode cX8_depths 123 = .ok (.goto 7, 3) := by decide +kernel
theorem dX8_depths_126 : decode cX8_depths 126 = .ok (.aload_n 0, 1) := by decide +kernel
theorem dX8_depths_127 : decode cX8_depths 127 = .ok (.getfield 244, 3) := by decide +kernel
theorem dX8_depths_130 : decode cX8_depths 130 = .ok (.ireturn, 1) := by decide +kernel
theorem dX8_chosen_0 : decode cX8_chosen 0 = .ok (.aload_n 0, 1) := by decide +kernel
theorem dX8_chosen_1 : decode cX8_chosen 1 = .ok (.iload_n 2, 1) := by decide +kernel
theorem dX8_chosen_2 : decode cX8_chosen 2 = .ok (.invokevirtual 174, 3) := by decide +kernel
theorem dX8_chosen_5 : decode cX8_chosen 5 = .ok (.ifCond .ne 16, 3) := by decide +kernel
theorem dX8_chosen_8 : decode cX8_chosen 8 = .ok (.aload_n 0, 1) := by decide +kernel
theorem dX8_chosen_9 : decode cX8_chosen 9 = .ok (.aload_n 0, 1) := by decide +kernel
theorem dX8_chosen_10 : decode cX8_chosen 10 = .ok (.getfield 31, 3) := by decide +kernel
theorem dX8_chosen_13 : decode cX8_chosen 13 = .ok (.iload_n 1, 1) := by decide +kernel
theorem dX8_chosen_14 : decode cX8_chosen 14 = .ok (.iload_n 2, 1) := by decide +kernel
theorem dX8_chosen_15 : decode cX8_chosen 15 = .ok (.invokevirtual 145, 3) := by decide +kernel
theorem dX8_chosen_18 : decode cX8_chosen 18 = .ok (.ifCond .ne 8, 3) := by decide +kernel
theorem dX8_chosen_21 : decode cX8_chosen 21 = .ok (.bipush (-9), 2) := by decide +kernel
theorem dX8_chosen_23 : decode cX8_chosen 23 = .ok (.goto 4, 3) := by decide +kernel
theorem dX8_chosen_26 : decode cX8_chosen 26 = .ok (.iload_n 2, 1) := by decide +kernel
theorem dX8_chosen_27 : decode cX8_chosen 27 = .ok (.ireturn, 1) := by decide +kernel
theorem dX8_layGains_0 : decode cX8_layGains 0 = .ok (.aload_n 0, 1) := by decide +kernel
theorem dX8_layGains_1 : decode cX8_layGains 1 = .ok (.iload_n 1, 1) := by decide +kernel
theorem dX8_layGains_2 : decode cX8_layGains 2 = .ok (.iload_n 3, 1) := by decide +kernel
theorem dX8_layGains_3 : decode cX8_layGains 3 = .ok (.iconst 5, 1) := by decide +kernel
theorem dX8_layGains_4 : decode cX8_layGains 4 = .ok (.idiv, 1) := by decide +kernel
theorem dX8_layGains_5 : decode cX8_layGains 5 = .ok (.invokevirtual 251, 3) := by decide +kernel
theorem dX8_layGains_8 : decode cX8_layGains 8 = .ok (.istore 4, 2) := by decide +kernel
theorem dX8_layGains_10 : decode cX8_layGains 10 = .ok (.aload_n 0, 1) := by decide +kernel
theorem dX8_layGains_11 : decode cX8_layGains 11 = .ok (.iload_n 2, 1) := by decide +kernel
theorem dX8_layGains_12 : decode cX8_layGains 12 = .ok (.iload_n 3, 1) := by decide +kernel
theorem dX8_layGains_13 : decode cX8_layGains 13 = .ok (.iconst 5, 1) := by decide +kernel
theorem dX8_layGains_14 : decode cX8_layGains 14 = .ok (.irem, 1) := by decide +kernel
theorem dX8_layGains_15 : decode cX8_layGains 15 = .ok (.invokevirtual 251, 3) := by decide +kernel
theorem dX8_layGains_18 : decode cX8_layGains 18 = .ok (.istore 5, 2) := by decide +kernel
theorem dX8_layGains_20 : decode cX8_layGains 20 = .ok (.aload_n 0, 1) := by decide +kernel
theorem dX8_layGains_21 : decode cX8_layGains 21 = .ok (.invokevirtual 191, 3) := by decide +kernel
theorem dX8_layGains_24 : decode cX8_layGains 24 = .ok (.iload 4, 2) := by decide +kernel
theorem dX8_layGains_26 : decode cX8_layGains 26 = .ok (.bipush (-9), 2) := by decide +kernel
theorem dX8_layGains_28 : decode cX8_layGains 28 = .ok (.if_icmp .ne 7, 3) := by decide +kernel
theorem dX8_layGains_31 : decode cX8_layGains 31 = .ok (.iconst 0, 1) := by decide +kernel
theorem dX8_layGains_32 : decode cX8_layGains 32 = .ok (.goto 33, 3) := by decide +kernel
theorem dX8_layGains_35 : decode cX8_layGains 35 = .ok (.aload_n 0, 1) := by decide +kernel
theorem dX8_layGains_36 : decode cX8_layGains 36 = .ok (.getfield 16, 3) := by decide +kernel
theorem dX8_layGains_39 : decode cX8_layGains 39 = .ok (.iload 4, 2) := by decide +kernel
theorem dX8_layGains_41 : decode cX8_layGains 41 = .ok (.iaload, 1) := by decide +kernel
theorem dX8_layGains_42 : decode cX8_layGains 42 = .ok (.iconst 2, 1) := by decide +kernel
theorem dX8_layGains_43 : decode cX8_layGains 43 = .ok (.if_icmp .ne 7, 3) := by decide +kernel
theorem dX8_layGains_46 : decode cX8_layGains 46 = .ok (.iconst 2, 1) := by decide +kernel
theorem dX8_layGains_47 : decode cX8_layGains 47 = .ok (.goto 4, 3) := by decide +kernel
theorem dX8_layGains_50 : decode cX8_layGains 50 = .ok (.iconst 1, 1) := by decide +kernel
theorem dX8_layGains_51 : decode cX8_layGains 51 = .ok (.aload_n 0, 1) := by decide +kernel
theorem dX8_layGains_52 : decode cX8_layGains 52 = .ok (.aload_n 0, 1) := by decide +kernel
theorem dX8_layGains_53 : decode cX8_layGains 53 = .ok (.getfield 31, 3) := by decide +kernel
theorem dX8_layGains_56 : decode cX8_layGains 56 = .ok (.iload 4, 2) := by decide +kernel
theorem dX8_layGains_58 : decode cX8_layGains 58 = .ok (.invokevirtual 131, 3) := by decide +kernel
theorem dX8_layGains_61 : decode cX8_layGains 61 = .ok (.invokestatic 142, 3) := by decide +kernel
theorem dX8_layGains_64 : decode cX8_layGains 64 = .ok (.isub, 1) := by decide +kernel
theorem dX8_layGains_65 : decode cX8_layGains 65 = .ok (.istore 6, 2) := by decide +kernel
theorem dX8_layGains_67 : decode cX8_layGains 67 = .ok (.iload 4, 2) := by decide +kernel
theorem dX8_layGains_69 : decode cX8_layGains 69 = .ok (.bipush (-9), 2) := by decide +kernel
theorem dX8_layGains_71 : decode cX8_layGains 71 = .ok (.if_icmp .eq 20, 3) := by decide +kernel
theorem dX8_layGains_74 : decode cX8_layGains 74 = .ok (.iload 4, 2) := by decide +kernel
theorem dX8_layGains_76 : decode cX8_layGains 76 = .ok (.iload 5, 2) := by decide +kernel
theorem dX8_layGains_78 : decode cX8_layGains 78 = .ok (.if_icmp .ne 13, 3) := by decide +kernel
theorem dX8_layGains_81 : decode cX8_layGains 81 = .ok (.iload 6, 2) := by decide +kernel
theorem dX8_layGains_83 : decode cX8_layGains 83 = .ok (.iconst 2, 1) := by decide +kernel
theorem dX8_layGains_84 : decode cX8_layGains 84 = .ok (.if_icmp .ge 7, 3) := by decide +kernel
theorem dX8_layGains_87 : decode cX8_layGains 87 = .ok (.iconst 1, 1) := by decide +kernel
theorem dX8_layGains_88 : decode cX8_layGains 88 = .ok (.goto 4, 3) := by decide +kernel
theorem dX8_layGains_91 : decode cX8_layGains 91 = .ok (.iconst 0, 1) := by decide +kernel
theorem dX8_layGains_92 : decode cX8_layGains 92 = .ok (.istore 7, 2) := by decide +kernel
theorem dX8_layGains_94 : decode cX8_layGains 94 = .ok (.iload 4, 2) := by decide +kernel
theorem dX8_layGains_96 : decode cX8_layGains 96 = .ok (.bipush (-9), 2) := by decide +kernel
theorem dX8_layGains_98 : decode cX8_layGains 98 = .ok (.if_icmp .eq 16, 3) := by decide +kernel
theorem dX8_layGains_101 : decode cX8_layGains 101 = .ok (.iload 7, 2) := by decide +kernel
theorem dX8_layGains_103 : decode cX8_layGains 103 = .ok (.ifCond .ne 11, 3) := by decide +kernel
theorem dX8_layGains_106 : decode cX8_layGains 106 = .ok (.aload_n 0, 1) := by decide +kernel
theorem dX8_layGains_107 : decode cX8_layGains 107 = .ok (.getfield 34, 3) := by decide +kernel
theorem dX8_layGains_110 : decode cX8_layGains 110 = .ok (.iload_n 1, 1) := by decide +kernel
theorem dX8_layGains_111 : decode cX8_layGains 111 = .ok (.iload 4, 2) := by decide +kernel
theorem dX8_layGains_113 : decode cX8_layGains 113 = .ok (.iastore, 1) := by decide +kernel
theorem dX8_layGains_114 : decode cX8_layGains 114 = .ok (.iload 5, 2) := by decide +kernel
theorem dX8_layGains_116 : decode cX8_layGains 116 = .ok (.bipush (-9), 2) := by decide +kernel
theorem dX8_layGains_118 : decode cX8_layGains 118 = .ok (.if_icmp .eq 16, 3) := by decide +kernel
theorem dX8_layGains_121 : decode cX8_layGains 121 = .ok (.iload 7, 2) := by decide +kernel
theorem dX8_layGains_123 : decode cX8_layGains 123 = .ok (.ifCond .ne 11, 3) := by decide +kernel
theorem dX8_layGains_126 : decode cX8_layGains 126 = .ok (.aload_n 0, 1) := by decide +kernel
theorem dX8_layGains_127 : decode cX8_layGains 127 = .ok (.getfield 34, 3) := by decide +kernel
theorem dX8_layGains_130 : decode cX8_layGains 130 = .ok (.iload_n 2, 1) := by decide +kernel
theorem dX8_layGains_131 : decode cX8_layGains 131 = .ok (.iload 5, 2) := by decide +kernel
theorem dX8_layGains_133 : decode cX8_layGains 133 = .ok (.iastore, 1) := by decide +kernel
theorem dX8_layGains_134 : decode cX8_layGains 134 = .ok (.aload_n 0, 1) := by decide +kernel
theorem dX8_layGains_135 : decode cX8_layGains 135 = .ok (.aload_n 0, 1) := by decide +kernel
theorem dX8_layGains_136 : decode cX8_layGains 136 = .ok (.getfield 34, 3) := by decide +kernel
theorem dX8_layGains_139 : decode cX8_layGains 139 = .ok (.invokevirtual 154, 3) := by decide +kernel
theorem dX8_layGains_142 : decode cX8_layGains 142 = .ok (.istore 8, 2) := by decide +kernel
theorem dX8_layGains_144 : decode cX8_layGains 144 = .ok (.aload_n 0, 1) := by decide +kernel
theorem dX8_layGains_145 : decode cX8_layGains 145 = .ok (.getfield 56, 3) := by decide +kernel
theorem dX8_layGains_148 : decode cX8_layGains 148 = .ok (.iconst 2, 1) := by decide +kernel
theorem dX8_layGains_149 : decode cX8_layGains 149 = .ok (.iload_n 3, 1) := by decide +kernel
theorem dX8_layGains_150 : decode cX8_layGains 150 = .ok (.imul, 1) := by decide +kernel
theorem dX8_layGains_151 : decode cX8_layGains 151 = .ok (.iload 7, 2) := by decide +kernel
theorem dX8_layGains_153 : decode cX8_layGains 153 = .ok (.ifCond .eq 7, 3) := by decide +kernel
theorem dX8_layGains_156 : decode cX8_layGains 156 = .ok (.iconst (-1), 1) := by decide +kernel
theorem dX8_layGains_157 : decode cX8_layGains 157 = .ok (.goto 29, 3) := by decide +kernel
theorem dX8_layGains_160 : decode cX8_layGains 160 = .ok (.iload 8, 2) := by decide +kernel
theorem dX8_layGains_162 : decode cX8_layGains 162 = .ok (.iload_n 1, 1) := by decide +kernel
theorem dX8_layGains_163 : decode cX8_layGains 163 = .ok (.invokestatic 123, 3) := by decide +kernel
theorem dX8_layGains_166 : decode cX8_layGains 166 = .ok (.ifCond .eq 7, 3) := by decide +kernel
theorem dX8_layGains_169 : decode cX8_layGains 169 = .ok (.iconst 3, 1) := by decide +kernel
theorem dX8_layGains_170 : decode cX8_layGains 170 = .ok (.goto 16, 3) := by decide +kernel
theorem dX8_layGains_173 : decode cX8_layGains 173 = .ok (.iload 4, 2) := by decide +kernel
theorem dX8_layGains_175 : decode cX8_layGains 175 = .ok (.bipush (-9), 2) := by decide +kernel
theorem dX8_layGains_177 : decode cX8_layGains 177 = .ok (.if_icmp .eq 8, 3) := by decide +kernel
theorem dX8_layGains_180 : decode cX8_layGains 180 = .ok (.bipush (-2), 2) := by decide +kernel
theorem dX8_layGains_182 : decode cX8_layGains 182 = .ok (.goto 4, 3) := by decide +kernel
theorem dX8_layGains_185 : decode cX8_layGains 185 = .ok (.iconst 0, 1) := by decide +kernel
theorem dX8_layGains_186 : decode cX8_layGains 186 = .ok (.iastore, 1) := by decide +kernel
theorem dX8_layGains_187 : decode cX8_layGains 187 = .ok (.aload_n 0, 1) := by decide +kernel
theorem dX8_layGains_188 : decode cX8_layGains 188 = .ok (.getfield 56, 3) := by decide +kernel
theorem dX8_layGains_191 : decode cX8_layGains 191 = .ok (.iconst 2, 1) := by decide +kernel
theorem dX8_layGains_192 : decode cX8_layGains 192 = .ok (.iload_n 3, 1) := by decide +kernel
theorem dX8_layGains_193 : decode cX8_layGains 193 = .ok (.imul, 1) := by decide +kernel
theorem dX8_layGains_194 : decode cX8_layGains 194 = .ok (.iconst 1, 1) := by decide +kernel
theorem dX8_layGains_195 : decode cX8_layGains 195 = .ok (.iadd, 1) := by decide +kernel
theorem dX8_layGains_196 : decode cX8_layGains 196 = .ok (.iload 7, 2) := by decide +kernel
theorem dX8_layGains_198 : decode cX8_layGains 198 = .ok (.ifCond .eq 7, 3) := by decide +kernel
theorem dX8_layGains_201 : decode cX8_layGains 201 = .ok (.iconst (-1), 1) := by decide +kernel
theorem dX8_layGains_202 : decode cX8_layGains 202 = .ok (.goto 29, 3) := by decide +kernel
theorem dX8_layGains_205 : decode cX8_layGains 205 = .ok (.iload 8, 2) := by decide +kernel
theorem dX8_layGains_207 : decode cX8_layGains 207 = .ok (.iload_n 2, 1) := by decide +kernel
theorem dX8_layGains_208 : decode cX8_layGains 208 = .ok (.invokestatic 123, 3) := by decide +kernel
theorem dX8_layGains_211 : decode cX8_layGains 211 = .ok (.ifCond .eq 7, 3) := by decide +kernel
theorem dX8_layGains_214 : decode cX8_layGains 214 = .ok (.iconst 3, 1) := by decide +kernel
theorem dX8_layGains_215 : decode cX8_layGains 215 = .ok (.goto 16, 3) := by decide +kernel
theorem dX8_layGains_218 : decode cX8_layGains 218 = .ok (.iload 5, 2) := by decide +kernel
theorem dX8_layGains_220 : decode cX8_layGains 220 = .ok (.bipush (-9), 2) := by decide +kernel
theorem dX8_layGains_222 : decode cX8_layGains 222 = .ok (.if_icmp .eq 8, 3) := by decide +kernel
theorem dX8_layGains_225 : decode cX8_layGains 225 = .ok (.bipush (-2), 2) := by decide +kernel
theorem dX8_layGains_227 : decode cX8_layGains 227 = .ok (.goto 4, 3) := by decide +kernel
theorem dX8_layGains_230 : decode cX8_layGains 230 = .ok (.iconst 0, 1) := by decide +kernel
theorem dX8_layGains_231 : decode cX8_layGains 231 = .ok (.iastore, 1) := by decide +kernel
theorem dX8_layGains_232 : decode cX8_layGains 232 = .ok (.return_, 1) := by decide +kernel
theorem dX8_rests_0 : decode cX8_rests 0 = .ok (.aload_n 0, 1) := by decide +kernel
theorem dX8_rests_1 : decode cX8_rests 1 = .ok (.iconst 0, 1) := by decide +kernel
theorem dX8_rests_2 : decode cX8_rests 2 = .ok (.putfield 62, 3) := by decide +kernel
theorem dX8_rests_5 : decode cX8_rests 5 = .ok (.aload_n 0, 1) := by decide +kernel
theorem dX8_rests_6 : decode cX8_rests 6 = .ok (.invokevirtual 171, 3) := by decide +kernel
theorem dX8_rests_9 : decode cX8_rests 9 = .ok (.aload_n 0, 1) := by decide +kernel
theorem dX8_rests_10 : decode cX8_rests 10 = .ok (.iload_n 1, 1) := by decide +kernel
theorem dX8_rests_11 : decode cX8_rests 11 = .ok (.invokevirtual 178, 3) := by decide +kernel
theorem dX8_rests_14 : decode cX8_rests 14 = .ok (.ifCond .ne 11, 3) := by decide +kernel
theorem dX8_rests_17 : decode cX8_rests 17 = .ok (.aload_n 0, 1) := by decide +kernel
theorem dX8_rests_18 : decode cX8_rests 18 = .ok (.iload_n 2, 1) := by decide +kernel
theorem dX8_rests_19 : decode cX8_rests 19 = .ok (.invokevirtual 178, 3) := by decide +kernel
theorem dX8_rests_22 : decode cX8_rests 22 = .ok (.ifCond .eq 5, 3) := by decide +kernel
theorem dX8_rests_25 : decode cX8_rests 25 = .ok (.iconst (-1), 1) := by decide +kernel
theorem dX8_rests_26 : decode cX8_rests 26 = .ok (.ireturn, 1) := by decide +kernel
theorem dX8_rests_27 : decode cX8_rests 27 = .ok (.iload_n 1, 1) := by decide +kernel
theorem dX8_rests_28 : decode cX8_rests 28 = .ok (.iload_n 2, 1) := by decide +kernel
theorem dX8_rests_29 : decode cX8_rests 29 = .ok (.if_icmp .eq 13, 3) := by decide +kernel
theorem dX8_rests_32 : decode cX8_rests 32 = .ok (.iload_n 3, 1) := by decide +kernel
theorem dX8_rests_33 : decode cX8_rests 33 = .ok (.i2l, 1) := by decide +kernel
theorem dX8_rests_34 : decode cX8_rests 34 = .ok (.lconst 0, 1) := by decide +kernel
theorem dX8_rests_35 : decode cX8_rests 35 = .ok (.lconst 1, 1) := by decide +kernel
theorem dX8_rests_36 : decode cX8_rests 36 = .ok (.invokestatic 69, 3) := by decide +kernel
theorem dX8_rests_39 : decode cX8_rests 39 = .ok (.ifCond .ne 6, 3) := by decide +kernel
theorem dX8_rests_42 : decode cX8_rests 42 = .ok (.bipush (-2), 2) := by decide +kernel
theorem dX8_rests_44 : decode cX8_rests 44 = .ok (.ireturn, 1) := by decide +kernel
theorem dX8_rests_45 : decode cX8_rests 45 = .ok (.aload_n 0, 1) := by decide +kernel
theorem dX8_rests_46 : decode cX8_rests 46 = .ok (.getfield 31, 3) := by decide +kernel
theorem dX8_rests_49 : decode cX8_rests 49 = .ok (.iload_n 1, 1) := by decide +kernel
theorem dX8_rests_50 : decode cX8_rests 50 = .ok (.iaload, 1) := by decide +kernel
theorem dX8_rests_51 : decode cX8_rests 51 = .ok (.bipush 8, 2) := by decide +kernel
theorem dX8_rests_53 : decode cX8_rests 53 = .ok (.if_icmp .ne 14, 3) := by decide +kernel
theorem dX8_rests_56 : decode cX8_rests 56 = .ok (.aload_n 0, 1) := by decide +kernel
theorem dX8_rests_57 : decode cX8_rests 57 = .ok (.getfield 31, 3) := by decide +kernel
theorem dX8_rests_60 : decode cX8_rests 60 = .ok (.iload_n 2, 1) := by decide +kernel
theorem dX8_rests_61 : decode cX8_rests 61 = .ok (.iaload, 1) := by decide +kernel
theorem dX8_rests_62 : decode cX8_rests 62 = .ok (.bipush 8, 2) := by decide +kernel
theorem dX8_rests_64 : decode cX8_rests 64 = .ok (.if_icmp .eq 6, 3) := by decide +kernel
theorem dX8_rests_67 : decode cX8_rests 67 = .ok (.bipush (-3), 2) := by decide +kernel
theorem dX8_rests_69 : decode cX8_rests 69 = .ok (.ireturn, 1) := by decide +kernel
theorem dX8_rests_70 : decode cX8_rests 70 = .ok (.iconst 0, 1) := by decide +kernel
theorem dX8_rests_71 : decode cX8_rests 71 = .ok (.istore 4, 2) := by decide +kernel
theorem dX8_rests_73 : decode cX8_rests 73 = .ok (.iload 4, 2) := by decide +kernel
theorem dX8_rests_75 : decode cX8_rests 75 = .ok (.bipush 25, 2) := by decide +kernel
theorem dX8_rests_77 : decode cX8_rests 77 = .ok (.if_icmp .ge 17, 3) := by decide +kernel
theorem dX8_rests_80 : decode cX8_rests 80 = .ok (.aload_n 0, 1) := by decide +kernel
theorem dX8_rests_81 : decode cX8_rests 81 = .ok (.iload_n 1, 1) := by decide +kernel
theorem dX8_rests_82 : decode cX8_rests 82 = .ok (.iload_n 2, 1) := by decide +kernel
theorem dX8_rests_83 : decode cX8_rests 83 = .ok (.iload 4, 2) := by decide +kernel
theorem dX8_rests_85 : decode cX8_rests 85 = .ok (.invokevirtual 254, 3) := by decide +kernel
theorem dX8_rests_88 : decode cX8_rests 88 = .ok (.iinc 4 1, 3) := by decide +kernel
theorem dX8_rests_91 : decode cX8_rests 91 = .ok (.goto (-18), 3) := by decide +kernel
theorem dX8_rests_94 : decode cX8_rests 94 = .ok (.aload_n 0, 1) := by decide +kernel
theorem dX8_rests_95 : decode cX8_rests 95 = .ok (.iconst 0, 1) := by decide +kernel
theorem dX8_rests_96 : decode cX8_rests 96 = .ok (.putfield 258, 3) := by decide +kernel
theorem dX8_rests_99 : decode cX8_rests 99 = .ok (.aload_n 0, 1) := by decide +kernel
theorem dX8_rests_100 : decode cX8_rests 100 = .ok (.bipush (-9), 2) := by decide +kernel
theorem dX8_rests_102 : decode cX8_rests 102 = .ok (.putfield 261, 3) := by decide +kernel
theorem dX8_rests_105 : decode cX8_rests 105 = .ok (.iconst 0, 1) := by decide +kernel
theorem dX8_rests_106 : decode cX8_rests 106 = .ok (.istore 4, 2) := by decide +kernel
theorem dX8_rests_108 : decode cX8_rests 108 = .ok (.iload 4, 2) := by decide +kernel
theorem dX8_rests_110 : decode cX8_rests 110 = .ok (.bipush 25, 2) := by decide +kernel
theorem dX8_rests_112 : decode cX8_rests 112 = .ok (.if_icmp .ge 154, 3) := by decide +kernel
theorem dX8_rests_115 : decode cX8_rests 115 = .ok (.iconst 1, 1) := by decide +kernel
theorem dX8_rests_116 : decode cX8_rests 116 = .ok (.istore 5, 2) := by decide +kernel
theorem dX8_rests_118 : decode cX8_rests 118 = .ok (.iconst 0, 1) := by decide +kernel
theorem dX8_rests_119 : decode cX8_rests 119 = .ok (.istore 6, 2) := by decide +kernel
theorem dX8_rests_121 : decode cX8_rests 121 = .ok (.iload 6, 2) := by decide +kernel
theorem dX8_rests_123 : decode cX8_rests 123 = .ok (.iconst 5, 1) := by decide +kernel
theorem dX8_rests_124 : decode cX8_rests 124 = .ok (.if_icmp .ge 82, 3) := by decide +kernel
theorem dX8_rests_127 : decode cX8_rests 127 = .ok (.iload 5, 2) := by decide +kernel
theorem dX8_rests_129 : decode cX8_rests 129 = .ok (.ifCond .eq 68, 3) := by decide +kernel
theorem dX8_rests_132 : decode cX8_rests 132 = .ok (.aload_n 0, 1) := by decide +kernel
theorem dX8_rests_133 : decode cX8_rests 133 = .ok (.getfield 56, 3) := by decide +kernel
theorem dX8_rests_136 : decode cX8_rests 136 = .ok (.iconst 2, 1) := by decide +kernel
theorem dX8_rests_137 : decode cX8_rests 137 = .ok (.iconst 5, 1) := by decide +kernel
theorem dX8_rests_138 : decode cX8_rests 138 = .ok (.iload 6, 2) := by decide +kernel
theorem dX8_rests_140 : decode cX8_rests 140 = .ok (.imul, 1) := by decide +kernel
theorem dX8_rests_141 : decode cX8_rests 141 = .ok (.iload 4, 2) := by decide +kernel
theorem dX8_rests_143 : decode cX8_rests 143 = .ok (.iconst 5, 1) := by decide +kernel
theorem dX8_rests_144 : decode cX8_rests 144 = .ok (.irem, 1) := by decide +kernel
theorem dX8_rests_145 : decode cX8_rests 145 = .ok (.iadd, 1) := by decide +kernel
theorem dX8_rests_146 : decode cX8_rests 146 = .ok (.imul, 1) := by decide +kernel
theorem dX8_rests_147 : decode cX8_rests 147 = .ok (.iaload, 1) := by decide +kernel
theorem dX8_rests_148 : decode cX8_rests 148 = .ok (.aload_n 0, 1) := by decide +kernel
theorem dX8_rests_149 : decode cX8_rests 149 = .ok (.getfield 56, 3) := by decide +kernel
theorem dX8_rests_152 : decode cX8_rests 152 = .ok (.iconst 2, 1) := by decide +kernel
theorem dX8_rests_153 : decode cX8_rests 153 = .ok (.iload 4, 2) := by decide +kernel
theorem dX8_rests_155 : decode cX8_rests 155 = .ok (.imul, 1) := by decide +kernel
theorem dX8_rests_156 : decode cX8_rests 156 = .ok (.iaload, 1) := by decide +kernel
theorem dX8_rests_157 : decode cX8_rests 157 = .ok (.if_icmp .gt 40, 3) := by decide +kernel
theorem dX8_rests_160 : decode cX8_rests 160 = .ok (.aload_n 0, 1) := by decide +kernel
theorem dX8_rests_161 : decode cX8_rests 161 = .ok (.getfield 56, 3) := by decide +kernel
theorem dX8_rests_164 : decode cX8_rests 164 = .ok (.iconst 2, 1) := by decide +kernel
theorem dX8_rests_165 : decode cX8_rests 165 = .ok (.iload 4, 2) := by decide +kernel
theorem dX8_rests_167 : decode cX8_rests 167 = .ok (.iload 4, 2) := by decide +kernel
theorem dX8_rests_169 : decode cX8_rests 169 = .ok (.iconst 5, 1) := by decide +kernel
theorem dX8_rests_170 : decode cX8_rests 170 = .ok (.irem, 1) := by decide +kernel
theorem dX8_rests_171 : decode cX8_rests 171 = .ok (.isub, 1) := by decide +kernel
theorem dX8_rests_172 : decode cX8_rests 172 = .ok (.iload 6, 2) := by decide +kernel
theorem dX8_rests_174 : decode cX8_rests 174 = .ok (.iadd, 1) := by decide +kernel
theorem dX8_rests_175 : decode cX8_rests 175 = .ok (.imul, 1) := by decide +kernel
theorem dX8_rests_176 : decode cX8_rests 176 = .ok (.iconst 1, 1) := by decide +kernel
theorem dX8_rests_177 : decode cX8_rests 177 = .ok (.iadd, 1) := by decide +kernel
theorem dX8_rests_178 : decode cX8_rests 178 = .ok (.iaload, 1) := by decide +kernel
theorem dX8_rests_179 : decode cX8_rests 179 = .ok (.aload_n 0, 1) := by decide +kernel
theorem dX8_rests_180 : decode cX8_rests 180 = .ok (.getfield 56, 3) := by decide +kernel
theorem dX8_rests_183 : decode cX8_rests 183 = .ok (.iconst 2, 1) := by decide +kernel
theorem dX8_rests_184 : decode cX8_rests 184 = .ok (.iload 4, 2) := by decide +kernel
theorem dX8_rests_186 : decode cX8_rests 186 = .ok (.imul, 1) := by decide +kernel
theorem dX8_rests_187 : decode cX8_rests 187 = .ok (.iconst 1, 1) := by decide +kernel
theorem dX8_rests_188 : decode cX8_rests 188 = .ok (.iadd, 1) := by decide +kernel
theorem dX8_rests_189 : decode cX8_rests 189 = .ok (.iaload, 1) := by decide +kernel
theorem dX8_rests_190 : decode cX8_rests 190 = .ok (.if_icmp .gt 7, 3) := by decide +kernel
theorem dX8_rests_193 : decode cX8_rests 193 = .ok (.iconst 1, 1) := by decide +kernel
theorem dX8_rests_194 : decode cX8_rests 194 = .ok (.goto 4, 3) := by decide +kernel
theorem dX8_rests_197 : decode cX8_rests 197 = .ok (.iconst 0, 1) := by decide +kernel
theorem dX8_rests_198 : decode cX8_rests 198 = .ok (.istore 5, 2) := by decide +kernel
theorem dX8_rests_200 : decode cX8_rests 200 = .ok (.iinc 6 1, 3) := by decide +kernel
theorem dX8_rests_203 : decode cX8_rests 203 = .ok (.goto (-82), 3) := by decide +kernel
theorem dX8_rests_206 : decode cX8_rests 206 = .ok (.aload_n 0, 1) := by decide +kernel
theorem dX8_rests_207 : decode cX8_rests 207 = .ok (.iload 5, 2) := by decide +kernel
theorem dX8_rests_209 : decode cX8_rests 209 = .ok (.ifCond .eq 25, 3) := by decide +kernel
theorem dX8_rests_212 : decode cX8_rests 212 = .ok (.aload_n 0, 1) := by decide +kernel
theorem dX8_rests_213 : decode cX8_rests 213 = .ok (.getfield 258, 3) := by decide +kernel
theorem dX8_rests_216 : decode cX8_rests 216 = .ok (.ifCond .ne 18, 3) := by decide +kernel
theorem dX8_rests_219 : decode cX8_rests 219 = .ok (.bipush 10, 2) := by decide +kernel
theorem dX8_rests_221 : decode cX8_rests 221 = .ok (.iload 4, 2) := by decide +kernel
theorem dX8_rests_223 : decode cX8_rests 223 = .ok (.iconst 5, 1) := by decide +kernel
theorem dX8_rests_224 : decode cX8_rests 224 = .ok (.idiv, 1) := by decide +kernel
theorem dX8_rests_225 : decode cX8_rests 225 = .ok (.imul, 1) := by decide +kernel
theorem dX8_rests_226 : decode cX8_rests 226 = .ok (.iload 4, 2) := by decide +kernel
theorem dX8_rests_228 : decode cX8_rests 228 = .ok (.iconst 5, 1) := by decide +kernel
theorem dX8_rests_229 : decode cX8_rests 229 = .ok (.irem, 1) := by decide +kernel
theorem dX8_rests_230 : decode cX8_rests 230 = .ok (.iadd, 1) := by decide +kernel
theorem dX8_rests_231 : decode cX8_rests 231 = .ok (.goto 7, 3) := by decide +kernel
theorem dX8_rests_234 : decode cX8_rests 234 = .ok (.aload_n 0, 1) := by decide +kernel
theorem dX8_rests_235 : decode cX8_rests 235 = .ok (.getfield 261, 3) := by decide +kernel
theorem dX8_rests_238 : decode cX8_rests 238 = .ok (.putfield 261, 3) := by decide +kernel
theorem dX8_rests_241 : decode cX8_rests 241 = .ok (.aload_n 0, 1) := by decide +kernel
theorem dX8_rests_242 : decode cX8_rests 242 = .ok (.dup, 1) := by decide +kernel
theorem dX8_rests_243 : decode cX8_rests 243 = .ok (.getfield 258, 3) := by decide +kernel
theorem dX8_rests_246 : decode cX8_rests 246 = .ok (.iload 5, 2) := by decide +kernel
theorem dX8_rests_248 : decode cX8_rests 248 = .ok (.ifCond .eq 7, 3) := by decide +kernel
theorem dX8_rests_251 : decode cX8_rests 251 = .ok (.iconst 1, 1) := by decide +kernel
theorem dX8_rests_252 : decode cX8_rests 252 = .ok (.goto 4, 3) := by decide +kernel
theorem dX8_rests_255 : decode cX8_rests 255 = .ok (.iconst 0, 1) := by decide +kernel
theorem dX8_rests_256 : decode cX8_rests 256 = .ok (.iadd, 1) := by decide +kernel
theorem dX8_rests_257 : decode cX8_rests 257 = .ok (.putfield 258, 3) := by decide +kernel
theorem dX8_rests_260 : decode cX8_rests 260 = .ok (.iinc 4 1, 3) := by decide +kernel
theorem dX8_rests_263 : decode cX8_rests 263 = .ok (.goto (-155), 3) := by decide +kernel
theorem dX8_rests_266 : decode cX8_rests 266 = .ok (.iload_n 3, 1) := by decide +kernel
theorem dX8_rests_267 : decode cX8_rests 267 = .ok (.ifCond .ne 10, 3) := by decide +kernel
theorem dX8_rests_270 : decode cX8_rests 270 = .ok (.aload_n 0, 1) := by decide +kernel
theorem dX8_rests_271 : decode cX8_rests 271 = .ok (.getfield 258, 3) := by decide +kernel
theorem dX8_rests_274 : decode cX8_rests 274 = .ok (.goto 7, 3) := by decide +kernel
theorem dX8_rests_277 : decode cX8_rests 277 = .ok (.aload_n 0, 1) := by decide +kernel
theorem dX8_rests_278 : decode cX8_rests 278 = .ok (.getfield 261, 3) := by decide +kernel
theorem dX8_rests_281 : decode cX8_rests 281 = .ok (.ireturn, 1) := by decide +kernel
theorem dX8_ebb_0 : decode cX8_ebb 0 = .ok (.aload_n 0, 1) := by decide +kernel
theorem dX8_ebb_1 : decode cX8_ebb 1 = .ok (.iconst 0, 1) := by decide +kernel
theorem dX8_ebb_2 : decode cX8_ebb 2 = .ok (.putfield 62, 3) := by decide +kernel
theorem dX8_ebb_5 : decode cX8_ebb 5 = .ok (.aload_n 0, 1) := by decide +kernel
theorem dX8_ebb_6 : decode cX8_ebb 6 = .ok (.invokevirtual 171, 3) := by decide +kernel
theorem dX8_ebb_9 : decode cX8_ebb 9 = .ok (.iload_n 1, 1) := by decide +kernel
theorem dX8_ebb_10 : decode cX8_ebb 10 = .ok (.i2l, 1) := by decide +kernel
theorem dX8_ebb_11 : decode cX8_ebb 11 = .ok (.lconst 0, 1) := by decide +kernel
theorem dX8_ebb_12 : decode cX8_ebb 12 = .ok (.ldc2_w 264, 3) := by decide +kernel
theorem dX8_ebb_15 : decode cX8_ebb 15 = .ok (.invokestatic 69, 3) := by decide +kernel
theorem dX8_ebb_18 : decode cX8_ebb 18 = .ok (.ifCond .eq 15, 3) := by decide +kernel
theorem dX8_ebb_21 : decode cX8_ebb 21 = .ok (.iload_n 2, 1) := by decide +kernel
theorem dX8_ebb_22 : decode cX8_ebb 22 = .ok (.i2l, 1) := by decide +kernel
theorem dX8_ebb_23 : decode cX8_ebb 23 = .ok (.lconst 0, 1) := by decide +kernel
theorem dX8_ebb_24 : decode cX8_ebb 24 = .ok (.ldc2_w 266, 3) := by decide +kernel
theorem dX8_ebb_27 : decode cX8_ebb 27 = .ok (.invokestatic 69, 3) := by decide +kernel
theorem dX8_ebb_30 : decode cX8_ebb 30 = .ok (.ifCond .ne 6, 3) := by decide +kernel
theorem dX8_ebb_33 : decode cX8_ebb 33 = .ok (.bipush (-2), 2) := by decide +kernel
theorem dX8_ebb_35 : decode cX8_ebb 35 = .ok (.ireturn, 1) := by decide +kernel
theorem dX8_ebb_36 : decode cX8_ebb 36 = .ok (.iconst 0, 1) := by decide +kernel
theorem dX8_ebb_37 : decode cX8_ebb 37 = .ok (.istore 4, 2) := by decide +kernel
theorem dX8_ebb_39 : decode cX8_ebb 39 = .ok (.iconst 0, 1) := by decide +kernel
theorem dX8_ebb_40 : decode cX8_ebb 40 = .ok (.istore 5, 2) := by decide +kernel
theorem dX8_ebb_42 : decode cX8_ebb 42 = .ok (.iload 5, 2) := by decide +kernel
theorem dX8_ebb_44 : decode cX8_ebb 44 = .ok (.iconst 1, 1) := by decide +kernel
theorem dX8_ebb_45 : decode cX8_ebb 45 = .ok (.aload_n 0, 1) := by decide +kernel
theorem dX8_ebb_46 : decode cX8_ebb 46 = .ok (.getfield 66, 3) := by decide +kernel
theorem dX8_ebb_49 : decode cX8_ebb 49 = .ok (.ishl, 1) := by decide +kernel
theorem dX8_ebb_50 : decode cX8_ebb 50 = .ok (.if_icmp .ge 71, 3) := by decide +kernel
theorem dX8_ebb_53 : decode cX8_ebb 53 = .ok (.aload_n 0, 1) := by decide +kernel
theorem dX8_ebb_54 : decode cX8_ebb 54 = .ok (.invokevirtual 191, 3) := by decide +kernel
theorem dX8_ebb_57 : decode cX8_ebb 57 = .ok (.aload_n 0, 1) := by decide +kernel
theorem dX8_ebb_58 : decode cX8_ebb 58 = .ok (.iload 5, 2) := by decide +kernel
theorem dX8_ebb_60 : decode cX8_ebb 60 = .ok (.putfield 120, 3) := by decide +kernel
theorem dX8_ebb_63 : decode cX8_ebb 63 = .ok (.iload 5, 2) := by decide +kernel
theorem dX8_ebb_65 : decode cX8_ebb 65 = .ok (.invokestatic 142, 3) := by decide +kernel
theorem dX8_ebb_68 : decode cX8_ebb 68 = .ok (.istore 6, 2) := by decide +kernel
theorem dX8_ebb_70 : decode cX8_ebb 70 = .ok (.iload 4, 2) := by decide +kernel
theorem dX8_ebb_72 : decode cX8_ebb 72 = .ok (.aload_n 0, 1) := by decide +kernel
theorem dX8_ebb_73 : decode cX8_ebb 73 = .ok (.aload_n 0, 1) := by decide +kernel
theorem dX8_ebb_74 : decode cX8_ebb 74 = .ok (.getfield 34, 3) := by decide +kernel
theorem dX8_ebb_77 : decode cX8_ebb 77 = .ok (.invokevirtual 154, 3) := by decide +kernel
theorem dX8_ebb_80 : decode cX8_ebb 80 = .ok (.invokestatic 142, 3) := by decide +kernel
theorem dX8_ebb_83 : decode cX8_ebb 83 = .ok (.iload_n 1, 1) := by decide +kernel
theorem dX8_ebb_84 : decode cX8_ebb 84 = .ok (.if_icmp .lt 27, 3) := by decide +kernel
theorem dX8_ebb_87 : decode cX8_ebb 87 = .ok (.iload_n 2, 1) := by decide +kernel
theorem dX8_ebb_88 : decode cX8_ebb 88 = .ok (.iload 6, 2) := by decide +kernel
theorem dX8_ebb_90 : decode cX8_ebb 90 = .ok (.invokestatic 206, 3) := by decide +kernel
theorem dX8_ebb_93 : decode cX8_ebb 93 = .ok (.bipush 10, 2) := by decide +kernel
theorem dX8_ebb_95 : decode cX8_ebb 95 = .ok (.iload_n 2, 1) := by decide +kernel
theorem dX8_ebb_96 : decode cX8_ebb 96 = .ok (.isub, 1) := by decide +kernel
theorem dX8_ebb_97 : decode cX8_ebb 97 = .ok (.aload_n 0, 1) := by decide +kernel
theorem dX8_ebb_98 : decode cX8_ebb 98 = .ok (.getfield 66, 3) := by decide +kernel
theorem dX8_ebb_101 : decode cX8_ebb 101 = .ok (.iload 6, 2) := by decide +kernel
theorem dX8_ebb_103 : decode cX8_ebb 103 = .ok (.isub, 1) := by decide +kernel
theorem dX8_ebb_104 : decode cX8_ebb 104 = .ok (.invokestatic 206, 3) := by decide +kernel
theorem dX8_ebb_107 : decode cX8_ebb 107 = .ok (.imul, 1) := by decide +kernel
theorem dX8_ebb_108 : decode cX8_ebb 108 = .ok (.goto 4, 3) := by decide +kernel
theorem dX8_ebb_111 : decode cX8_ebb 111 = .ok (.iconst 0, 1) := by decide +kernel
theorem dX8_ebb_112 : decode cX8_ebb 112 = .ok (.iadd, 1) := by decide +kernel
theorem dX8_ebb_113 : decode cX8_ebb 113 = .ok (.istore 4, 2) := by decide +kernel
theorem dX8_ebb_115 : decode cX8_ebb 115 = .ok (.iinc 5 1, 3) := by decide +kernel
theorem dX8_ebb_118 : decode cX8_ebb 118 = .ok (.goto (-76), 3) := by decide +kernel
theorem dX8_ebb_121 : decode cX8_ebb 121 = .ok (.aload_n 0, 1) := by decide +kernel
theorem dX8_ebb_122 : decode cX8_ebb 122 = .ok (.iconst 0, 1) := by decide +kernel
theorem dX8_ebb_123 : decode cX8_ebb 123 = .ok (.putfield 120, 3) := by decide +kernel
theorem dX8_ebb_126 : decode cX8_ebb 126 = .ok (.iload 4, 2) := by decide +kernel
theorem dX8_ebb_128 : decode cX8_ebb 128 = .ok (.bipush 10, 2) := by decide +kernel
theorem dX8_ebb_130 : decode cX8_ebb 130 = .ok (.aload_n 0, 1) := by decide +kernel
theorem dX8_ebb_131 : decode cX8_ebb 131 = .ok (.getfield 66, 3) := by decide +kernel
theorem dX8_ebb_134 : decode cX8_ebb 134 = .ok (.invokestatic 206, 3) := by decide +kernel
theorem dX8_ebb_137 : decode cX8_ebb 137 = .ok (.iload_n 3, 1) := by decide +kernel
theorem dX8_ebb_138 : decode cX8_ebb 138 = .ok (.invokestatic 235, 3) := by decide +kernel
theorem dX8_ebb_141 : decode cX8_ebb 141 = .ok (.ireturn, 1) := by decide +kernel
theorem dX8_seed_0 : decode cX8_seed 0 = .ok (.aload_n 0, 1) := by decide +kernel
theorem dX8_seed_1 : decode cX8_seed 1 = .ok (.iconst 0, 1) := by decide +kernel
theorem dX8_seed_2 : decode cX8_seed 2 = .ok (.putfield 62, 3) := by decide +kernel
theorem dX8_seed_5 : decode cX8_seed 5 = .ok (.aload_n 0, 1) := by decide +kernel
theorem dX8_seed_6 : decode cX8_seed 6 = .ok (.getfield 268, 3) := by decide +kernel
theorem dX8_seed_9 : decode cX8_seed 9 = .ok (.lstore_n 3, 1) := by decide +kernel
theorem dX8_seed_10 : decode cX8_seed 10 = .ok (.aload_n 0, 1) := by decide +kernel
theorem dX8_seed_11 : decode cX8_seed 11 = .ok (.lload_n 1, 1) := by decide +kernel
theorem dX8_seed_12 : decode cX8_seed 12 = .ok (.putfield 268, 3) := by decide +kernel
theorem dX8_seed_15 : decode cX8_seed 15 = .ok (.lload_n 3, 1) := by decide +kernel
theorem dX8_seed_16 : decode cX8_seed 16 = .ok (.lreturn, 1) := by decide +kernel
theorem dX8_years_0 : decode cX8_years 0 = .ok (.aload_n 0, 1) := by decide +kernel
theorem dX8_years_1 : decode cX8_years 1 = .ok (.iconst 0, 1) := by decide +kernel
theorem dX8_years_2 : decode cX8_years 2 = .ok (.putfield 62, 3) := by decide +kernel
theorem dX8_years_5 : decode cX8_years 5 = .ok (.iload_n 1, 1) := by decide +kernel
theorem dX8_years_6 : decode cX8_years 6 = .ok (.i2l, 1) := by decide +kernel
theorem dX8_years_7 : decode cX8_years 7 = .ok (.lconst 1, 1) := by decide +kernel
theorem dX8_years_8 : decode cX8_years 8 = .ok (.ldc2_w 272, 3) := by decide +kernel
theorem dX8_years_11 : decode cX8_years 11 = .ok (.invokestatic 69, 3) := by decide +kernel
theorem dX8_years_14 : decode cX8_years 14 = .ok (.ifCond .ne 6, 3) := by decide +kernel
theorem dX8_years_17 : decode cX8_years 17 = .ok (.bipush (-2), 2) := by decide +kernel
theorem dX8_years_19 : decode cX8_years 19 = .ok (.ireturn, 1) := by decide +kernel
theorem dX8_years_20 : decode cX8_years 20 = .ok (.aload_n 0, 1) := by decide +kernel
theorem dX8_years_21 : decode cX8_years 21 = .ok (.iconst 0, 1) := by decide +kernel
theorem dX8_years_22 : decode cX8_years 22 = .ok (.invokevirtual 196, 3) := by decide +kernel
theorem dX8_years_25 : decode cX8_years 25 = .ok (.iconst 0, 1) := by decide +kernel
theorem dX8_years_26 : decode cX8_years 26 = .ok (.istore_n 2, 1) := by decide +kernel
theorem dX8_years_27 : decode cX8_years 27 = .ok (.iconst 0, 1) := by decide +kernel
theorem dX8_years_28 : decode cX8_years 28 = .ok (.istore_n 3, 1) := by decide +kernel
theorem dX8_years_29 : decode cX8_years 29 = .ok (.iload_n 3, 1) := by decide +kernel
theorem dX8_years_30 : decode cX8_years 30 = .ok (.iload_n 1, 1) := by decide +kernel
theorem dX8_years_31 : decode cX8_years 31 = .ok (.if_icmp .ge 102, 3) := by decide +kernel
theorem dX8_years_34 : decode cX8_years 34 = .ok (.aload_n 0, 1) := by decide +kernel
theorem dX8_years_35 : decode cX8_years 35 = .ok (.aload_n 0, 1) := by decide +kernel
theorem dX8_years_36 : decode cX8_years 36 = .ok (.getfield 268, 3) := by decide +kernel
theorem dX8_years_39 : decode cX8_years 39 = .ok (.ldc2_w 274, 3) := by decide +kernel
theorem dX8_years_42 : decode cX8_years 42 = .ok (.lmul, 1) := by decide +kernel
theorem dX8_years_43 : decode cX8_years 43 = .ok (.ldc2_w 276, 3) := by decide +kernel
theorem dX8_years_46 : decode cX8_years 46 = .ok (.ladd, 1) := by decide +kernel
theorem dX8_years_47 : decode cX8_years 47 = .ok (.putfield 268, 3) := by decide +kernel
theorem dX8_years_50 : decode cX8_years 50 = .ok (.aload_n 0, 1) := by decide +kernel
theorem dX8_years_51 : decode cX8_years 51 = .ok (.getfield 268, 3) := by decide +kernel
theorem dX8_years_54 : decode cX8_years 54 = .ok (.bipush 33, 2) := by decide +kernel
theorem dX8_years_56 : decode cX8_years 56 = .ok (.lushr, 1) := by decide +kernel
theorem dX8_years_57 : decode cX8_years 57 = .ok (.ldc2_w 278, 3) := by decide +kernel
theorem dX8_years_60 : decode cX8_years 60 = .ok (.lrem, 1) := by decide +kernel
theorem dX8_years_61 : decode cX8_years 61 = .ok (.l2i, 1) := by decide +kernel
theorem dX8_years_62 : decode cX8_years 62 = .ok (.istore 4, 2) := by decide +kernel
theorem dX8_years_64 : decode cX8_years 64 = .ok (.aload_n 0, 1) := by decide +kernel
theorem dX8_years_65 : decode cX8_years 65 = .ok (.iload 4, 2) := by decide +kernel
theorem dX8_years_67 : decode cX8_years 67 = .ok (.bipush 20, 2) := by decide +kernel
theorem dX8_years_69 : decode cX8_years 69 = .ok (.if_icmp .ge 21, 3) := by decide +kernel
theorem dX8_years_72 : decode cX8_years 72 = .ok (.bipush 100, 2) := by decide +kernel
theorem dX8_years_74 : decode cX8_years 74 = .ok (.bipush 10, 2) := by decide +kernel
theorem dX8_years_76 : decode cX8_years 76 = .ok (.iload 4, 2) := by decide +kernel
theorem dX8_years_78 : decode cX8_years 78 = .ok (.iconst 4, 1) := by decide +kernel
theorem dX8_years_79 : decode cX8_years 79 = .ok (.idiv, 1) := by decide +kernel
theorem dX8_years_80 : decode cX8_years 80 = .ok (.imul, 1) := by decide +kernel
theorem dX8_years_81 : decode cX8_years 81 = .ok (.iadd, 1) := by decide +kernel
theorem dX8_years_82 : decode cX8_years 82 = .ok (.iload 4, 2) := by decide +kernel
theorem dX8_years_84 : decode cX8_years 84 = .ok (.iconst 4, 1) := by decide +kernel
theorem dX8_years_85 : decode cX8_years 85 = .ok (.irem, 1) := by decide +kernel
theorem dX8_years_86 : decode cX8_years 86 = .ok (.iadd, 1) := by decide +kernel
theorem dX8_years_87 : decode cX8_years 87 = .ok (.goto 20, 3) := by decide +kernel
theorem dX8_years_90 : decode cX8_years 90 = .ok (.iload 4, 2) := by decide +kernel
theorem dX8_years_92 : decode cX8_years 92 = .ok (.bipush 25, 2) := by decide +kernel
theorem dX8_years_94 : decode cX8_years 94 = .ok (.if_icmp .ge 12, 3) := by decide +kernel
theorem dX8_years_97 : decode cX8_years 97 = .ok (.sipush 180, 3) := by decide +kernel
theorem dX8_years_100 : decode cX8_years 100 = .ok (.iload 4, 2) := by decide +kernel
theorem dX8_years_102 : decode cX8_years 102 = .ok (.iadd, 1) := by decide +kernel
theorem dX8_years_103 : decode cX8_years 103 = .ok (.goto 4, 3) := by decide +kernel
theorem dX8_years_106 : decode cX8_years 106 = .ok (.iconst 0, 1) := by decide +kernel
theorem dX8_years_107 : decode cX8_years 107 = .ok (.invokevirtual 226, 3) := by decide +kernel
theorem dX8_years_110 : decode cX8_years 110 = .ok (.pop, 1) := by decide +kernel
theorem dX8_years_111 : decode cX8_years 111 = .ok (.iload_n 2, 1) := by decide +kernel
theorem dX8_years_112 : decode cX8_years 112 = .ok (.aload_n 0, 1) := by decide +kernel
theorem dX8_years_113 : decode cX8_years 113 = .ok (.aload_n 0, 1) := by decide +kernel
theorem dX8_years_114 : decode cX8_years 114 = .ok (.getfield 34, 3) := by decide +kernel
theorem dX8_years_117 : decode cX8_years 117 = .ok (.bipush 9, 2) := by decide +kernel
theorem dX8_years_119 : decode cX8_years 119 = .ok (.invokevirtual 131, 3) := by decide +kernel
theorem dX8_years_122 : decode cX8_years 122 = .ok (.invokestatic 142, 3) := by decide +kernel
theorem dX8_years_125 : decode cX8_years 125 = .ok (.iadd, 1) := by decide +kernel
theorem dX8_years_126 : decode cX8_years 126 = .ok (.istore_n 2, 1) := by decide +kernel
theorem dX8_years_127 : decode cX8_years 127 = .ok (.iinc 3 1, 3) := by decide +kernel
theorem dX8_years_130 : decode cX8_years 130 = .ok (.goto (-101), 3) := by decide +kernel
theorem dX8_years_133 : decode cX8_years 133 = .ok (.iload_n 2, 1) := by decide +kernel
theorem dX8_years_134 : decode cX8_years 134 = .ok (.ireturn, 1) := by decide +kernel
theorem dX8_keep_0 : decode cX8_keep 0 = .ok (.aload_n 0, 1) := by decide +kernel
theorem dX8_keep_1 : decode cX8_keep 1 = .ok (.iconst 0, 1) := by decide +kernel
theorem dX8_keep_2 : decode cX8_keep 2 = .ok (.putfield 62, 3) := by decide +kernel
theorem dX8_keep_5 : decode cX8_keep 5 = .ok (.iload_n 1, 1) := by decide +kernel
theorem dX8_keep_6 : decode cX8_keep 6 = .ok (.i2l, 1) := by decide +kernel
theorem dX8_keep_7 : decode cX8_keep 7 = .ok (.lconst 0, 1) := by decide +kernel
theorem dX8_keep_8 : decode cX8_keep 8 = .ok (.lconst 1, 1) := by decide +kernel
theorem dX8_keep_9 : decode cX8_keep 9 = .ok (.invokestatic 69, 3) := by decide +kernel
theorem dX8_keep_12 : decode cX8_keep 12 = .ok (.ifCond .ne 5, 3) := by decide +kernel
theorem dX8_keep_15 : decode cX8_keep 15 = .ok (.iconst (-1), 1) := by decide +kernel
theorem dX8_keep_16 : decode cX8_keep 16 = .ok (.ireturn, 1) := by decide +kernel
theorem dX8_keep_17 : decode cX8_keep 17 = .ok (.aload_n 0, 1) := by decide +kernel
theorem dX8_keep_18 : decode cX8_keep 18 = .ok (.getfield 43, 3) := by decide +kernel
theorem dX8_keep_21 : decode cX8_keep 21 = .ok (.iload_n 1, 1) := by decide +kernel
theorem dX8_keep_22 : decode cX8_keep 22 = .ok (.iconst 1, 1) := by decide +kernel
theorem dX8_keep_23 : decode cX8_keep 23 = .ok (.bastore, 1) := by decide +kernel
theorem dX8_keep_24 : decode cX8_keep 24 = .ok (.iconst 0, 1) := by decide +kernel
theorem dX8_keep_25 : decode cX8_keep 25 = .ok (.istore_n 2, 1) := by decide +kernel
theorem dX8_keep_26 : decode cX8_keep 26 = .ok (.iload_n 2, 1) := by decide +kernel
theorem dX8_keep_27 : decode cX8_keep 27 = .ok (.bipush 24, 2) := by decide +kernel
theorem dX8_keep_29 : decode cX8_keep 29 = .ok (.if_icmp .ge 26, 3) := by decide +kernel
theorem dX8_keep_32 : decode cX8_keep 32 = .ok (.aload_n 0, 1) := by decide +kernel
theorem dX8_keep_33 : decode cX8_keep 33 = .ok (.getfield 40, 3) := by decide +kernel
theorem dX8_keep_36 : decode cX8_keep 36 = .ok (.bipush 24, 2) := by decide +kernel
theorem dX8_keep_38 : decode cX8_keep 38 = .ok (.iload_n 1, 1) := by decide +kernel
theorem dX8_keep_39 : decode cX8_keep 39 = .ok (.imul, 1) := by decide +kernel
theorem dX8_keep_40 : decode cX8_keep 40 = .ok (.iload_n 2, 1) := by decide +kernel
theorem dX8_keep_41 : decode cX8_keep 41 = .ok (.iadd, 1) := by decide +kernel
theorem dX8_keep_42 : decode cX8_keep 42 = .ok (.aload_n 0, 1) := by decide +kernel
theorem dX8_keep_43 : decode cX8_keep 43 = .ok (.getfield 31, 3) := by decide +kernel
theorem dX8_keep_46 : decode cX8_keep 46 = .ok (.iload_n 2, 1) := by decide +kernel
theorem dX8_keep_47 : decode cX8_keep 47 = .ok (.iaload, 1) := by decide +kernel
theorem dX8_keep_48 : decode cX8_keep 48 = .ok (.iastore, 1) := by decide +kernel
theorem dX8_keep_49 : decode cX8_keep 49 = .ok (.iinc 2 1, 3) := by decide +kernel
theorem dX8_keep_52 : decode cX8_keep 52 = .ok (.goto (-26), 3) := by decide +kernel
theorem dX8_keep_55 : decode cX8_keep 55 = .ok (.aload_n 0, 1) := by decide +kernel
theorem dX8_keep_56 : decode cX8_keep 56 = .ok (.getfield 31, 3) := by decide +kernel
theorem dX8_keep_59 : decode cX8_keep 59 = .ok (.bipush 23, 2) := by decide +kernel
theorem dX8_keep_61 : decode cX8_keep 61 = .ok (.iaload, 1) := by decide +kernel
theorem dX8_keep_62 : decode cX8_keep 62 = .ok (.ireturn, 1) := by decide +kernel
theorem dX8_again_0 : decode cX8_again 0 = .ok (.aload_n 0, 1) := by decide +kernel
theorem dX8_again_1 : decode cX8_again 1 = .ok (.iconst 0, 1) := by decide +kernel
theorem dX8_again_2 : decode cX8_again 2 = .ok (.putfield 62, 3) := by decide +kernel
theorem dX8_again_5 : decode cX8_again 5 = .ok (.iload_n 1, 1) := by decide +kernel
theorem dX8_again_6 : decode cX8_again 6 = .ok (.i2l, 1) := by decide +kernel
theorem dX8_again_7 : decode cX8_again 7 = .ok (.lconst 0, 1) := by decide +kernel
theorem dX8_again_8 : decode cX8_again 8 = .ok (.lconst 1, 1) := by decide +kernel
theorem dX8_again_9 : decode cX8_again 9 = .ok (.invokestatic 69, 3) := by decide +kernel
theorem dX8_again_12 : decode cX8_again 12 = .ok (.ifCond .ne 5, 3) := by decide +kernel
theorem dX8_again_15 : decode cX8_again 15 = .ok (.iconst (-1), 1) := by decide +kernel
theorem dX8_again_16 : decode cX8_again 16 = .ok (.ireturn, 1) := by decide +kernel
theorem dX8_again_17 : decode cX8_again 17 = .ok (.aload_n 0, 1) := by decide +kernel
theorem dX8_again_18 : decode cX8_again 18 = .ok (.getfield 43, 3) := by decide +kernel
theorem dX8_again_21 : decode cX8_again 21 = .ok (.iload_n 1, 1) := by decide +kernel
theorem dX8_again_22 : decode cX8_again 22 = .ok (.baload, 1) := by decide +kernel
theorem dX8_again_23 : decode cX8_again 23 = .ok (.ifCond .ne 6, 3) := by decide +kernel
theorem dX8_again_26 : decode cX8_again 26 = .ok (.bipush (-3), 2) := by decide +kernel
theorem dX8_again_28 : decode cX8_again 28 = .ok (.ireturn, 1) := by decide +kernel
theorem dX8_again_29 : decode cX8_again 29 = .ok (.iconst 0, 1) := by decide +kernel
theorem dX8_again_30 : decode cX8_again 30 = .ok (.istore_n 2, 1) := by decide +kernel
theorem dX8_again_31 : decode cX8_again 31 = .ok (.iload_n 2, 1) := by decide +kernel
theorem dX8_again_32 : decode cX8_again 32 = .ok (.bipush 24, 2) := by decide +kernel
theorem dX8_again_34 : decode cX8_again 34 = .ok (.if_icmp .ge 26, 3) := by decide +kernel
theorem dX8_again_37 : decode cX8_again 37 = .ok (.aload_n 0, 1) := by decide +kernel
theorem dX8_again_38 : decode cX8_again 38 = .ok (.getfield 31, 3) := by decide +kernel
theorem dX8_again_41 : decode cX8_again 41 = .ok (.iload_n 2, 1) := by decide +kernel
theorem dX8_again_42 : decode cX8_again 42 = .ok (.aload_n 0, 1) := by decide +kernel
theorem dX8_again_43 : decode cX8_again 43 = .ok (.getfield 40, 3) := by decide +kernel
theorem dX8_again_46 : decode cX8_again 46 = .ok (.bipush 24, 2) := by decide +kernel
theorem dX8_again_48 : decode cX8_again 48 = .ok (.iload_n 1, 1) := by decide +kernel
theorem dX8_again_49 : decode cX8_again 49 = .ok (.imul, 1) := by decide +kernel
theorem dX8_again_50 : decode cX8_again 50 = .ok (.iload_n 2, 1) := by decide +kernel
theorem dX8_again_51 : decode cX8_again 51 = .ok (.iadd, 1) := by decide +kernel
theorem dX8_again_52 : decode cX8_again 52 = .ok (.iaload, 1) := by decide +kernel
theorem dX8_again_53 : decode cX8_again 53 = .ok (.iastore, 1) := by decide +kernel
theorem dX8_again_54 : decode cX8_again 54 = .ok (.iinc 2 1, 3) := by decide +kernel
theorem dX8_again_57 : decode cX8_again 57 = .ok (.goto (-26), 3) := by decide +kernel
theorem dX8_again_60 : decode cX8_again 60 = .ok (.aload_n 0, 1) := by decide +kernel
theorem dX8_again_61 : decode cX8_again 61 = .ok (.iconst 0, 1) := by decide +kernel
theorem dX8_again_62 : decode cX8_again 62 = .ok (.putfield 117, 3) := by decide +kernel
theorem dX8_again_65 : decode cX8_again 65 = .ok (.aload_n 0, 1) := by decide +kernel
theorem dX8_again_66 : decode cX8_again 66 = .ok (.getfield 31, 3) := by decide +kernel
theorem dX8_again_69 : decode cX8_again 69 = .ok (.bipush 23, 2) := by decide +kernel
theorem dX8_again_71 : decode cX8_again 71 = .ok (.iaload, 1) := by decide +kernel
theorem dX8_again_72 : decode cX8_again 72 = .ok (.ireturn, 1) := by decide +kernel
