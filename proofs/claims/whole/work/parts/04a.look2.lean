theorem fl_RX7_211 : ai_fld RX7 211 = some (3, 4) := by decide +kernel
theorem fl_RX7_214 : ai_fld RX7 214 = some (3, 3) := by decide +kernel
theorem cS_RX7_217 : ai_cS RX7 217 = some (yX7_withoutLast, 2, cX7_withoutLast, 6, (some .long)) := by decide +kernel
theorem mn_RX7_217 : ai_mlk RX7 217 ≠ some arraycopyName := by decide +kernel
theorem mi_RX7_217 : ai_isM RX7 217 = false := by decide +kernel
theorem cl_RX7_221 : ai_cstL RX7 221 = some 1000 := by decide +kernel
theorem cv_RX7_223 : ai_cV RX7 223 = some (yX2_does, 1, cX2_does, 4, (some .boolean)) := by decide +kernel
theorem cS_RX7_226 : ai_cS RX7 226 = some (yJ6_bitCount_0f7a4, 1, cJ6_bitCount_0f7a4, 1, (some .int)) := by decide +kernel
theorem mn_RX7_226 : ai_mlk RX7 226 ≠ some arraycopyName := by decide +kernel
theorem mi_RX7_226 : ai_isM RX7 226 = false := by decide +kernel
theorem fs_RX7_231 : ai_fl RX7 231 = some ("SleepHarbour", "FACTORIAL", "[I") := by decide +kernel
theorem cS_RX7_234 : ai_cS RX7 234 = some (yX7_part, 3, cX7_part, 4, (some .int)) := by decide +kernel
theorem mn_RX7_234 : ai_mlk RX7 234 ≠ some arraycopyName := by decide +kernel
theorem mi_RX7_234 : ai_isM RX7 234 = false := by decide +kernel
theorem cv_RX7_238 : ai_cV RX7 238 = some (yX4_add, 3, cX4_add, 4, (some .int)) := by decide +kernel
theorem cv_RX7_240 : ai_cV RX7 240 = some (yX4_empty, 0, cX4_empty, 2, (some .int)) := by decide +kernel
theorem cv_RX7_241 : ai_cV RX7 241 = some (yX4_agrees, 3, cX4_agrees, 7, (some .boolean)) := by decide +kernel
theorem cv_RX7_245 : ai_cV RX7 245 = some (yX1_isContent, 4, cX1_isContent, 7, (some .boolean)) := by decide +kernel
theorem cv_RX7_249 : ai_cV RX7 249 = some (yX2_dreamtIfFailed, 1, cX2_dreamtIfFailed, 5, (some .int)) := by decide +kernel
theorem cv_RX7_252 : ai_cV RX7 252 = some (yX7_weightOf, 2, cX7_weightOf, 5, (some .int)) := by decide +kernel
theorem cl_RX7_256 : ai_cstL RX7 256 = some 6364136223846793005 := by decide +kernel
theorem cl_RX7_258 : ai_cstL RX7 258 = some 1442695040888963407 := by decide +kernel
theorem cl_RX7_260 : ai_cstL RX7 260 = some 32 := by decide +kernel
theorem cv_RX7_262 : ai_cV RX7 262 = some (yX2_drift, 1, cX2_drift, 2, none) := by decide +kernel
theorem mn_RX7_265 : ai_mlk RX7 265 ≠ some arraycopyName := by decide +kernel
theorem mm_RX7_265 : ai_mlk RX7 265 = some Lib.Math.abs.name := by decide +kernel
theorem mi_RX7_265 : ai_isM RX7 265 = true := by decide +kernel
theorem mw_abs : Cond.initialized "java/lang/Math" ∈ ai_tb ∧ Cond.static Lib.Math.abs.name ∈ ai_tb ∧ Cond.code Lib.Math.abs.name Lib.Math.abs.code 1 (some .int) ∈ ai_tb := by decide +kernel
theorem m0_RX7_265 : ai_mlk RX7 265 ≠ some Lib.Math.max.name := by decide +kernel
theorem m1_RX7_265 : ai_mlk RX7 265 ≠ some Lib.Math.min.name := by decide +kernel
theorem cS_RX7_270 : ai_cS RX7 270 = some (yX7_commonDivisor, 2, cX7_commonDivisor, 6, (some .int)) := by decide +kernel
theorem mn_RX7_270 : ai_mlk RX7 270 ≠ some arraycopyName := by decide +kernel
theorem mi_RX7_270 : ai_isM RX7 270 = false := by decide +kernel
theorem fl_RX8_66 : ai_fld RX8 66 = some (8, 6) := by decide +kernel
theorem cS_RX8_69 : ai_cS RX8 69 = some (yX8_in, 3, cX8_in, 6, (some .boolean)) := by decide +kernel
theorem mn_RX8_69 : ai_mlk RX8 69 ≠ some arraycopyName := by decide +kernel
theorem mi_RX8_69 : ai_isM RX8 69 = false := by decide +kernel
theorem fl_RX8_73 : ai_fld RX8 73 = some (8, 8) := by decide +kernel
theorem fl_RX8_62 : ai_fld RX8 62 = some (8, 0) := by decide +kernel
theorem cl_RX8_76 : ai_cstL RX8 76 = some 255 := by decide +kernel
theorem fl_RX8_78 : ai_fld RX8 78 = some (8, 2) := by decide +kernel
theorem fl_RX8_81 : ai_fld RX8 81 = some (8, 3) := by decide +kernel
theorem cv_RX8_84 : ai_cV RX8 84 = some (yX8_figure, 2, cX8_figure, 3, (some .int)) := by decide +kernel
theorem fl_RX8_88 : ai_fld RX8 88 = some (8, 10) := by decide +kernel
theorem fl_RX8_91 : ai_fld RX8 91 = some (8, 12) := by decide +kernel
theorem fl_RX8_94 : ai_fld RX8 94 = some (8, 14) := by decide +kernel
theorem cv_RX8_97 : ai_cV RX8 97 = some (yX8_readOneTide, 0, cX8_readOneTide, 2, (some .boolean)) := by decide +kernel
theorem cv_RX8_101 : ai_cV RX8 101 = some (yX8_readOneBerth, 0, cX8_readOneBerth, 3, (some .boolean)) := by decide +kernel
theorem cv_RX8_104 : ai_cV RX8 104 = some (yX8_readOneDream, 0, cX8_readOneDream, 3, (some .boolean)) := by decide +kernel
theorem cv_RX8_107 : ai_cV RX8 107 = some (yX8_readThing, 0, cX8_readThing, 2, (some .boolean)) := by decide +kernel
theorem cv_RX8_110 : ai_cV RX8 110 = some (yX8_readPort, 0, cX8_readPort, 1, (some .int)) := by decide +kernel
theorem fl_RX8_114 : ai_fld RX8 114 = some (8, 4) := by decide +kernel
theorem fl_RX8_117 : ai_fld RX8 117 = some (8, 19) := by decide +kernel
theorem fl_RX8_120 : ai_fld RX8 120 = some (8, 27) := by decide +kernel
theorem cS_RX8_123 : ai_cS RX8 123 = some (yX8_has, 2, cX8_has, 2, (some .boolean)) := by decide +kernel
theorem mn_RX8_123 : ai_mlk RX8 123 ≠ some arraycopyName := by decide +kernel
theorem mi_RX8_123 : ai_isM RX8 123 = false := by decide +kernel
theorem cv_RX8_127 : ai_cV RX8 127 = some (yX8_tideOf, 1, cX8_tideOf, 2, (some .int)) := by decide +kernel
theorem cv_RX8_131 : ai_cV RX8 131 = some (yX8_dreamsAt, 2, cX8_dreamsAt, 5, (some .int)) := by decide +kernel
theorem fl_RX8_135 : ai_fld RX8 135 = some (8, 28) := by decide +kernel
theorem cv_RX8_138 : ai_cV RX8 138 = some (yX8_suits, 3, cX8_suits, 4, (some .boolean)) := by decide +kernel
theorem cS_RX8_142 : ai_cS RX8 142 = some (yX8_many, 1, cX8_many, 3, (some .int)) := by decide +kernel
theorem mn_RX8_142 : ai_mlk RX8 142 ≠ some arraycopyName := by decide +kernel
theorem mi_RX8_142 : ai_isM RX8 142 = false := by decide +kernel
theorem cv_RX8_145 : ai_cV RX8 145 = some (yX8_canBe, 3, cX8_canBe, 4, (some .boolean)) := by decide +kernel
theorem cv_RX8_148 : ai_cV RX8 148 = some (yX8_waterOf, 2, cX8_waterOf, 3, (some .int)) := by decide +kernel
theorem cv_RX8_151 : ai_cV RX8 151 = some (yX8_mayBe, 2, cX8_mayBe, 5, (some .int)) := by decide +kernel
theorem cv_RX8_154 : ai_cV RX8 154 = some (yX8_goSleep, 1, cX8_goSleep, 6, (some .int)) := by decide +kernel
theorem cv_RX8_158 : ai_cV RX8 158 = some (yX8_goWait, 1, cX8_goWait, 6, none) := by decide +kernel
theorem cv_RX8_162 : ai_cV RX8 162 = some (yX8_berthed, 1, cX8_berthed, 4, (some .int)) := by decide +kernel
theorem cv_RX8_165 : ai_cV RX8 165 = some (yX8_woke, 0, cX8_woke, 3, (some .int)) := by decide +kernel
theorem fl_RX8_168 : ai_fld RX8 168 = some (8, 22) := by decide +kernel
theorem cv_RX8_171 : ai_cV RX8 171 = some (yX8_plainly, 0, cX8_plainly, 1, none) := by decide +kernel
theorem cv_RX8_174 : ai_cV RX8 174 = some (yX8_noBerth, 1, cX8_noBerth, 2, (some .boolean)) := by decide +kernel
theorem cv_RX8_178 : ai_cV RX8 178 = some (yX8_noDream, 1, cX8_noDream, 2, (some .boolean)) := by decide +kernel
theorem cv_RX8_181 : ai_cV RX8 181 = some (yX8_note, 0, cX8_note, 2, none) := by decide +kernel
theorem cv_RX8_184 : ai_cV RX8 184 = some (yX8_goNight, 1, cX8_goNight, 4, (some .int)) := by decide +kernel
theorem cS_RX8_187 : ai_cS RX8 187 = some (yX8_goTow, 2, cX8_goTow, 2, none) := by decide +kernel
theorem mn_RX8_187 : ai_mlk RX8 187 ≠ some arraycopyName := by decide +kernel
theorem mi_RX8_187 : ai_isM RX8 187 = false := by decide +kernel
theorem cv_RX8_191 : ai_cV RX8 191 = some (yX8_begin, 0, cX8_begin, 2, none) := by decide +kernel
theorem cl_RX8_194 : ai_cstL RX8 194 = some 20 := by decide +kernel
theorem cv_RX8_196 : ai_cV RX8 196 = some (yX8_goNights, 1, cX8_goNights, 3, none) := by decide +kernel
theorem cv_RX8_200 : ai_cV RX8 200 = some (yX8_fitsThen, 1, cX8_fitsThen, 4, (some .int)) := by decide +kernel
theorem fl_RX8_203 : ai_fld RX8 203 = some (8, 30) := by decide +kernel
theorem cS_RX8_206 : ai_cS RX8 206 = some (yX8_power, 2, cX8_power, 4, (some .int)) := by decide +kernel
theorem mn_RX8_206 : ai_mlk RX8 206 ≠ some arraycopyName := by decide +kernel
theorem mi_RX8_206 : ai_isM RX8 206 = false := by decide +kernel
theorem cv_RX8_209 : ai_cV RX8 209 = some (yX8_berthsBy, 2, cX8_berthsBy, 6, (some .boolean)) := by decide +kernel
theorem cv_RX8_212 : ai_cV RX8 212 = some (yX8_findPlan, 0, cX8_findPlan, 6, (some .int)) := by decide +kernel
theorem fl_RX8_215 : ai_fld RX8 215 = some (8, 29) := by decide +kernel
theorem cl_RX8_218 : ai_cstL RX8 218 = some 4 := by decide +kernel
theorem cl_RX8_220 : ai_cstL RX8 220 = some 1000 := by decide +kernel
theorem cS_RX8_222 : ai_cS RX8 222 = some (yX8_longPower, 2, cX8_longPower, 6, (some .long)) := by decide +kernel
theorem mn_RX8_222 : ai_mlk RX8 222 ≠ some arraycopyName := by decide +kernel
theorem mi_RX8_222 : ai_isM RX8 222 = false := by decide +kernel
theorem cv_RX8_226 : ai_cV RX8 226 = some (yX8_does, 1, cX8_does, 6, (some .boolean)) := by decide +kernel
theorem cS_RX8_229 : ai_cS RX8 229 = some (yX8_divisor, 2, cX8_divisor, 5, (some .int)) := by decide +kernel
theorem mn_RX8_229 : ai_mlk RX8 229 ≠ some arraycopyName := by decide +kernel
theorem mi_RX8_229 : ai_isM RX8 229 = false := by decide +kernel
theorem cS_RX8_232 : ai_cS RX8 232 = some (yX8_ways, 1, cX8_ways, 3, (some .int)) := by decide +kernel
theorem mn_RX8_232 : ai_mlk RX8 232 ≠ some arraycopyName := by decide +kernel
theorem mi_RX8_232 : ai_isM RX8 232 = false := by decide +kernel
theorem cS_RX8_235 : ai_cS RX8 235 = some (yX8_fraction, 3, cX8_fraction, 4, (some .int)) := by decide +kernel
theorem mn_RX8_235 : ai_mlk RX8 235 ≠ some arraycopyName := by decide +kernel
theorem mi_RX8_235 : ai_isM RX8 235 = false := by decide +kernel
theorem cl_RX8_239 : ai_cstL RX8 239 = some 9 := by decide +kernel
theorem fl_RX8_241 : ai_fld RX8 241 = some (8, 31) := by decide +kernel
theorem fl_RX8_244 : ai_fld RX8 244 = some (8, 32) := by decide +kernel
theorem cv_RX8_247 : ai_cV RX8 247 = some (yX8_explains, 2, cX8_explains, 6, (some .boolean)) := by decide +kernel
theorem cv_RX8_251 : ai_cV RX8 251 = some (yX8_chosen, 2, cX8_chosen, 3, (some .int)) := by decide +kernel
theorem cv_RX8_254 : ai_cV RX8 254 = some (yX8_layGains, 3, cX8_layGains, 9, none) := by decide +kernel
theorem fl_RX8_258 : ai_fld RX8 258 = some (8, 33) := by decide +kernel
theorem fl_RX8_261 : ai_fld RX8 261 = some (8, 34) := by decide +kernel
theorem cl_RX8_264 : ai_cstL RX8 264 = some 5 := by decide +kernel
theorem cl_RX8_266 : ai_cstL RX8 266 = some 10 := by decide +kernel
theorem fl_RX8_268 : ai_fld RX8 268 = some (8, 26) := by decide +kernel
theorem cl_RX8_272 : ai_cstL RX8 272 = some 30 := by decide +kernel
theorem cl_RX8_274 : ai_cstL RX8 274 = some 6364136223846793005 := by decide +kernel
theorem cl_RX8_276 : ai_cstL RX8 276 = some 1442695040888963407 := by decide +kernel
