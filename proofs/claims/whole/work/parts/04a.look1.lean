theorem cv_RX2_49 : ai_cV RX2 49 = some (yX2_tide, 0, cX2_tide, 1, (some .int)) := by decide +kernel
theorem fl_RX2_53 : ai_fld RX2 53 = some (6, 7) := by decide +kernel
theorem cv_RX2_56 : ai_cV RX2 56 = some (yX2_dreamsAt, 1, cX2_dreamsAt, 4, (some .int)) := by decide +kernel
theorem cS_RX2_59 : ai_cS RX2 59 = some (yJ6_bitCount_0f7a4, 1, cJ6_bitCount_0f7a4, 1, (some .int)) := by decide +kernel
theorem mn_RX2_59 : ai_mlk RX2 59 ≠ some arraycopyName := by decide +kernel
theorem mi_RX2_59 : ai_isM RX2 59 = false := by decide +kernel
theorem fl_RX2_64 : ai_fld RX2 64 = some (6, 6) := by decide +kernel
theorem fl_RX2_67 : ai_fld RX2 67 = some (6, 2) := by decide +kernel
theorem fl_RX2_70 : ai_fld RX2 70 = some (6, 4) := by decide +kernel
theorem cv_RX2_73 : ai_cV RX2 73 = some (yX2_suits, 2, cX2_suits, 3, (some .boolean)) := by decide +kernel
theorem cv_RX2_77 : ai_cV RX2 77 = some (yX2_roomIn, 1, cX2_roomIn, 4, (some .int)) := by decide +kernel
theorem cv_RX2_80 : ai_cV RX2 80 = some (yX2_canBe, 2, cX2_canBe, 3, (some .boolean)) := by decide +kernel
theorem cv_RX2_83 : ai_cV RX2 83 = some (yX2_water, 1, cX2_water, 2, (some .int)) := by decide +kernel
theorem cv_RX2_86 : ai_cV RX2 86 = some (yX6_hasDream, 1, cX6_hasDream, 2, (some .boolean)) := by decide +kernel
theorem cv_RX2_90 : ai_cV RX2 90 = some (yX6_hasBerth, 1, cX6_hasBerth, 2, (some .boolean)) := by decide +kernel
theorem cv_RX2_93 : ai_cV RX2 93 = some (yX2_liesOff, 1, cX2_liesOff, 2, (some .boolean)) := by decide +kernel
theorem cv_RX2_96 : ai_cV RX2 96 = some (yX2_isBerthed, 1, cX2_isBerthed, 2, (some .boolean)) := by decide +kernel
theorem cv_RX2_99 : ai_cV RX2 99 = some (yX2_spoilt, 2, cX2_spoilt, 3, (some .int)) := by decide +kernel
theorem mn_RX2_103 : ai_mlk RX2 103 ≠ some arraycopyName := by decide +kernel
theorem mm_RX2_103 : ai_mlk RX2 103 = some Lib.Math.max.name := by decide +kernel
theorem mi_RX2_103 : ai_isM RX2 103 = true := by decide +kernel
theorem mw_max : Cond.initialized "java/lang/Math" ∈ ai_tb ∧ Cond.static Lib.Math.max.name ∈ ai_tb ∧ Cond.code Lib.Math.max.name Lib.Math.max.code 2 (some .int) ∈ ai_tb := by decide +kernel
theorem cv_RX2_108 : ai_cV RX2 108 = some (yX2_dreamtIn, 2, cX2_dreamtIn, 6, (some .int)) := by decide +kernel
theorem cv_RX2_111 : ai_cV RX2 111 = some (yX2_sleepIn, 2, cX2_sleepIn, 4, none) := by decide +kernel
theorem cv_RX2_115 : ai_cV RX2 115 = some (yX2_lieOffLonger, 0, cX2_lieOffLonger, 2, none) := by decide +kernel
theorem cv_RX2_118 : ai_cV RX2 118 = some (yX2_bringNightmares, 0, cX2_bringNightmares, 2, none) := by decide +kernel
theorem cv_RX2_121 : ai_cV RX2 121 = some (yX2_dredge, 0, cX2_dredge, 2, none) := by decide +kernel
theorem mn_RX2_124 : ai_mlk RX2 124 ≠ some arraycopyName := by decide +kernel
theorem mm_RX2_124 : ai_mlk RX2 124 = some Lib.Math.min.name := by decide +kernel
theorem mi_RX2_124 : ai_isM RX2 124 = true := by decide +kernel
theorem mw_min : Cond.initialized "java/lang/Math" ∈ ai_tb ∧ Cond.static Lib.Math.min.name ∈ ai_tb ∧ Cond.code Lib.Math.min.name Lib.Math.min.code 2 (some .int) ∈ ai_tb := by decide +kernel
theorem m0_RX2_124 : ai_mlk RX2 124 ≠ some Lib.Math.max.name := by decide +kernel
theorem cv_RX2_127 : ai_cV RX2 127 = some (yX2_moorInLeast, 1, cX2_moorInLeast, 3, none) := by decide +kernel
theorem cv_RX2_131 : ai_cV RX2 131 = some (yX2_passNight, 0, cX2_passNight, 5, (some .int)) := by decide +kernel
theorem cv_RX2_134 : ai_cV RX2 134 = some (yX2_moors, 2, cX2_moors, 3, (some .boolean)) := by decide +kernel
theorem cv_RX2_137 : ai_cV RX2 137 = some (yX2_tows, 1, cX2_tows, 2, (some .boolean)) := by decide +kernel
theorem cv_RX2_140 : ai_cV RX2 140 = some (yX2_canMoor, 2, cX2_canMoor, 3, (some .boolean)) := by decide +kernel
theorem cv_RX2_143 : ai_cV RX2 143 = some (yX2_canTow, 1, cX2_canTow, 2, (some .boolean)) := by decide +kernel
theorem cv_RX2_146 : ai_cV RX2 146 = some (yX2_towOut, 1, cX2_towOut, 2, none) := by decide +kernel
theorem cv_RX0_27 : ai_cV RX0 27 = some (yX2_becomes, 1, cX2_becomes, 2, none) := by decide +kernel
theorem mn_RX0_31 : ai_mlk RX0 31 ≠ some arraycopyName := by decide +kernel
theorem mm_RX0_31 : ai_mlk RX0 31 = some Lib.Math.min.name := by decide +kernel
theorem mi_RX0_31 : ai_isM RX0 31 = true := by decide +kernel
theorem m0_RX0_31 : ai_mlk RX0 31 ≠ some Lib.Math.max.name := by decide +kernel
theorem cv_RX1_19 : ai_cV RX1 19 = some (yX1_gain, 4, cX1_gain, 8, (some .int)) := by decide +kernel
theorem cv_RX1_23 : ai_cV RX1 23 = some (yX1_berthChosen, 2, cX1_berthChosen, 3, (some .int)) := by decide +kernel
theorem cv_RX1_27 : ai_cV RX1 27 = some (yX2_roomIn, 1, cX2_roomIn, 4, (some .int)) := by decide +kernel
theorem fl_RX1_33 : ai_fld RX1 33 = some (2, 1) := by decide +kernel
theorem cv_RX1_37 : ai_cV RX1 37 = some (yX2_tide, 0, cX2_tide, 1, (some .int)) := by decide +kernel
theorem cv_RX1_41 : ai_cV RX1 41 = some (yX2_dreamtIn, 2, cX2_dreamtIn, 6, (some .int)) := by decide +kernel
theorem cv_RX1_44 : ai_cV RX1 44 = some (yX6_hasBerth, 1, cX6_hasBerth, 2, (some .boolean)) := by decide +kernel
theorem cv_RX1_50 : ai_cV RX1 50 = some (yX2_canBe, 2, cX2_canBe, 3, (some .boolean)) := by decide +kernel
theorem cv_RX3_29 : ai_cV RX3 29 = some (yX2_becomes, 1, cX2_becomes, 2, none) := by decide +kernel
theorem fl_RX3_35 : ai_fld RX3 35 = some (6, 7) := by decide +kernel
theorem cv_RX3_40 : ai_cV RX3 40 = some (yX2_countAt, 1, cX2_countAt, 2, (some .int)) := by decide +kernel
theorem cv_RX3_44 : ai_cV RX3 44 = some (yX3_choose, 3, cX3_choose, 5, none) := by decide +kernel
theorem cv_RX3_48 : ai_cV RX3 48 = some (yX3_weigh, 1, cX3_weigh, 4, none) := by decide +kernel
theorem cv_RX3_52 : ai_cV RX3 52 = some (yX2_liesOff, 1, cX2_liesOff, 2, (some .boolean)) := by decide +kernel
theorem fl_RX3_56 : ai_fld RX3 56 = some (6, 6) := by decide +kernel
theorem cv_RX3_59 : ai_cV RX3 59 = some (yX3_isWorthwhile, 2, cX3_isWorthwhile, 3, (some .boolean)) := by decide +kernel
theorem fl_RX3_63 : ai_fld RX3 63 = some (2, 1) := by decide +kernel
theorem cv_RX3_67 : ai_cV RX3 67 = some (yX2_canBe, 2, cX2_canBe, 3, (some .boolean)) := by decide +kernel
theorem fl_RX3_70 : ai_fld RX3 70 = some (2, 3) := by decide +kernel
theorem cv_RX3_73 : ai_cV RX3 73 = some (yX2_water, 1, cX2_water, 2, (some .int)) := by decide +kernel
theorem cv_RX3_76 : ai_cV RX3 76 = some (yX2_tide, 0, cX2_tide, 1, (some .int)) := by decide +kernel
theorem cv_RX3_80 : ai_cV RX3 80 = some (yX2_dreamtIn, 2, cX2_dreamtIn, 6, (some .int)) := by decide +kernel
theorem cS_RX3_84 : ai_cS RX3 84 = some (yJ6_bitCount_0f7a4, 1, cJ6_bitCount_0f7a4, 1, (some .int)) := by decide +kernel
theorem mn_RX3_84 : ai_mlk RX3 84 ≠ some arraycopyName := by decide +kernel
theorem mi_RX3_84 : ai_isM RX3 84 = false := by decide +kernel
theorem mn_RX4_26 : ai_mlk RX4 26 ≠ some arraycopyName := by decide +kernel
theorem mm_RX4_26 : ai_mlk RX4 26 = some Lib.Math.min.name := by decide +kernel
theorem mi_RX4_26 : ai_isM RX4 26 = true := by decide +kernel
theorem m0_RX4_26 : ai_mlk RX4 26 ≠ some Lib.Math.max.name := by decide +kernel
theorem cv_RX4_32 : ai_cV RX4 32 = some (yX6_tideOn, 1, cX6_tideOn, 2, (some .int)) := by decide +kernel
theorem cv_RX5_19 : ai_cV RX5 19 = some (yX6_beginAnew, 0, cX6_beginAnew, 1, none) := by decide +kernel
theorem cv_RX5_24 : ai_cV RX5 24 = some (yX6_hears, 1, cX6_hears, 2, (some .boolean)) := by decide +kernel
theorem cv_RX5_28 : ai_cV RX5 28 = some (yX6_mayEnd, 0, cX6_mayEnd, 1, (some .boolean)) := by decide +kernel
theorem cv_RX7_80 : ai_cV RX7 80 = some (yX5_add, 1, cX5_add, 2, (some .int)) := by decide +kernel
theorem cv_RX7_84 : ai_cV RX7 84 = some (yX5_empty, 0, cX5_empty, 2, (some .int)) := by decide +kernel
theorem cv_RX7_88 : ai_cV RX7 88 = some (yX5_tell, 1, cX5_tell, 3, (some .int)) := by decide +kernel
theorem cv_RX7_92 : ai_cV RX7 92 = some (yX2_begin, 0, cX2_begin, 2, none) := by decide +kernel
theorem cv_RX7_95 : ai_cV RX7 95 = some (yX0_forget, 0, cX0_forget, 1, none) := by decide +kernel
theorem fl_RX7_98 : ai_fld RX7 98 = some (6, 5) := by decide +kernel
theorem fl_RX7_102 : ai_fld RX7 102 = some (6, 6) := by decide +kernel
theorem fl_RX7_105 : ai_fld RX7 105 = some (6, 7) := by decide +kernel
theorem fl_RX7_108 : ai_fld RX7 108 = some (2, 6) := by decide +kernel
theorem cv_RX7_111 : ai_cV RX7 111 = some (yX2_tide, 0, cX2_tide, 1, (some .int)) := by decide +kernel
theorem cv_RX7_114 : ai_cV RX7 114 = some (yX2_dreamsAt, 1, cX2_dreamsAt, 4, (some .int)) := by decide +kernel
theorem cv_RX7_117 : ai_cV RX7 117 = some (yX2_dreamsBerthed, 0, cX2_dreamsBerthed, 3, (some .int)) := by decide +kernel
theorem cv_RX7_120 : ai_cV RX7 120 = some (yX2_wokeInAll, 0, cX2_wokeInAll, 3, (some .int)) := by decide +kernel
theorem fl_RX7_123 : ai_fld RX7 123 = some (0, 2) := by decide +kernel
theorem fl_RX7_126 : ai_fld RX7 126 = some (4, 3) := by decide +kernel
theorem fl_RX7_127 : ai_fld RX7 127 = some (5, 1) := by decide +kernel
theorem cv_RX7_130 : ai_cV RX7 130 = some (yX6_hasBerth, 1, cX6_hasBerth, 2, (some .boolean)) := by decide +kernel
theorem fl_RX7_134 : ai_fld RX7 134 = some (2, 4) := by decide +kernel
theorem fl_RX7_138 : ai_fld RX7 138 = some (6, 2) := by decide +kernel
theorem cv_RX7_141 : ai_cV RX7 141 = some (yX2_water, 1, cX2_water, 2, (some .int)) := by decide +kernel
theorem fl_RX7_144 : ai_fld RX7 144 = some (2, 5) := by decide +kernel
theorem cv_RX7_147 : ai_cV RX7 147 = some (yX6_hasDream, 1, cX6_hasDream, 2, (some .boolean)) := by decide +kernel
theorem fl_RX7_150 : ai_fld RX7 150 = some (2, 3) := by decide +kernel
theorem fl_RX7_153 : ai_fld RX7 153 = some (6, 4) := by decide +kernel
theorem fl_RX7_156 : ai_fld RX7 156 = some (2, 1) := by decide +kernel
theorem cv_RX7_159 : ai_cV RX7 159 = some (yX2_liesOff, 1, cX2_liesOff, 2, (some .boolean)) := by decide +kernel
theorem fl_RX7_162 : ai_fld RX7 162 = some (2, 2) := by decide +kernel
theorem cv_RX7_165 : ai_cV RX7 165 = some (yX2_berthsOpenTo, 1, cX2_berthsOpenTo, 4, (some .int)) := by decide +kernel
theorem cv_RX7_168 : ai_cV RX7 168 = some (yX0_remember, 1, cX0_remember, 2, none) := by decide +kernel
theorem cv_RX7_172 : ai_cV RX7 172 = some (yX2_passNight, 0, cX2_passNight, 5, (some .int)) := by decide +kernel
theorem cv_RX7_175 : ai_cV RX7 175 = some (yX2_canMoor, 2, cX2_canMoor, 3, (some .boolean)) := by decide +kernel
theorem cv_RX7_179 : ai_cV RX7 179 = some (yX2_countAt, 1, cX2_countAt, 2, (some .int)) := by decide +kernel
theorem cv_RX7_182 : ai_cV RX7 182 = some (yX2_canTow, 1, cX2_canTow, 2, (some .boolean)) := by decide +kernel
theorem cv_RX7_185 : ai_cV RX7 185 = some (yX2_towOut, 1, cX2_towOut, 2, none) := by decide +kernel
theorem cv_RX7_189 : ai_cV RX7 189 = some (yX0_takeBack, 1, cX0_takeBack, 2, none) := by decide +kernel
theorem cS_RX7_192 : ai_cS RX7 192 = some (yX7_isNights, 1, cX7_isNights, 1, (some .boolean)) := by decide +kernel
theorem mn_RX7_192 : ai_mlk RX7 192 ≠ some arraycopyName := by decide +kernel
theorem mi_RX7_192 : ai_isM RX7 192 = false := by decide +kernel
theorem cv_RX7_195 : ai_cV RX7 195 = some (yX7_lookAhead, 1, cX7_lookAhead, 3, none) := by decide +kernel
theorem cv_RX7_198 : ai_cV RX7 198 = some (yX2_berthsFitFor, 1, cX2_berthsFitFor, 4, (some .int)) := by decide +kernel
theorem cv_RX7_201 : ai_cV RX7 201 = some (yX2_becomes, 1, cX2_becomes, 2, none) := by decide +kernel
theorem cv_RX7_204 : ai_cV RX7 204 = some (yX7_allBerths, 0, cX7_allBerths, 1, (some .int)) := by decide +kernel
theorem cv_RX7_207 : ai_cV RX7 207 = some (yX3_search, 2, cX3_search, 3, (some .int)) := by decide +kernel
