theorem ml_RX5_3 : ai_mlk RX5 3 = some Lib.objectInit := by decide +kernel
theorem oi_1 : Cond.instanceMethod Lib.objectInit ∈ ai_tb := by decide +kernel
theorem oi_2 : Cond.code Lib.objectInit ⟨#[0xb1]⟩ 1 none ∈ ai_tb := by decide +kernel
theorem ac_0 : Cond.arrayClass .int ∈ ai_tb := by decide +kernel
theorem fl_RX5_9 : ai_fld RX5 9 = some (5, 0) := by decide +kernel
theorem fl_RX5_15 : ai_fld RX5 15 = some (5, 1) := by decide +kernel
theorem ml_RX6_3 : ai_mlk RX6 3 = some Lib.objectInit := by decide +kernel
theorem fl_RX6_9 : ai_fld RX6 9 = some (6, 0) := by decide +kernel
theorem fl_RX6_15 : ai_fld RX6 15 = some (6, 1) := by decide +kernel
theorem fl_RX6_18 : ai_fld RX6 18 = some (6, 2) := by decide +kernel
theorem fl_RX6_21 : ai_fld RX6 21 = some (6, 3) := by decide +kernel
theorem fl_RX6_24 : ai_fld RX6 24 = some (6, 4) := by decide +kernel
theorem fl_RX6_27 : ai_fld RX6 27 = some (6, 5) := by decide +kernel
theorem fl_RX6_31 : ai_fld RX6 31 = some (6, 6) := by decide +kernel
theorem fl_RX6_34 : ai_fld RX6 34 = some (6, 7) := by decide +kernel
theorem fl_RX6_37 : ai_fld RX6 37 = some (6, 8) := by decide +kernel
theorem fl_RX6_40 : ai_fld RX6 40 = some (6, 9) := by decide +kernel
theorem ml_RX2_3 : ai_mlk RX2 3 = some Lib.objectInit := by decide +kernel
theorem fl_RX2_9 : ai_fld RX2 9 = some (2, 1) := by decide +kernel
theorem fl_RX2_15 : ai_fld RX2 15 = some (2, 2) := by decide +kernel
theorem fl_RX2_18 : ai_fld RX2 18 = some (2, 3) := by decide +kernel
theorem fl_RX2_21 : ai_fld RX2 21 = some (2, 4) := by decide +kernel
theorem fl_RX2_24 : ai_fld RX2 24 = some (2, 5) := by decide +kernel
theorem fl_RX2_27 : ai_fld RX2 27 = some (2, 6) := by decide +kernel
theorem fl_RX2_31 : ai_fld RX2 31 = some (2, 0) := by decide +kernel
theorem ml_RX4_3 : ai_mlk RX4 3 = some Lib.objectInit := by decide +kernel
theorem fl_RX4_9 : ai_fld RX4 9 = some (4, 0) := by decide +kernel
theorem fl_RX4_15 : ai_fld RX4 15 = some (4, 1) := by decide +kernel
theorem ac_1 : Cond.arrayClass .boolean ∈ ai_tb := by decide +kernel
theorem fl_RX4_18 : ai_fld RX4 18 = some (4, 2) := by decide +kernel
theorem fl_RX4_22 : ai_fld RX4 22 = some (4, 3) := by decide +kernel
theorem ml_RX3_3 : ai_mlk RX3 3 = some Lib.objectInit := by decide +kernel
theorem fl_RX3_9 : ai_fld RX3 9 = some (3, 2) := by decide +kernel
theorem fl_RX3_15 : ai_fld RX3 15 = some (3, 3) := by decide +kernel
theorem fl_RX3_18 : ai_fld RX3 18 = some (3, 4) := by decide +kernel
theorem fl_RX3_21 : ai_fld RX3 21 = some (3, 0) := by decide +kernel
theorem fl_RX3_25 : ai_fld RX3 25 = some (3, 1) := by decide +kernel
theorem ml_RX1_3 : ai_mlk RX1 3 = some Lib.objectInit := by decide +kernel
theorem fl_RX1_9 : ai_fld RX1 9 = some (1, 0) := by decide +kernel
theorem fl_RX1_15 : ai_fld RX1 15 = some (1, 1) := by decide +kernel
theorem ml_RX0_3 : ai_mlk RX0 3 = some Lib.objectInit := by decide +kernel
theorem ck_RX0_9 : ai_clk RX0 9 = some RX2 := by decide +kernel
theorem fl_RX0_11 : ai_fld RX0 11 = some (0, 0) := by decide +kernel
theorem fl_RX0_17 : ai_fld RX0 17 = some (0, 1) := by decide +kernel
theorem fl_RX0_21 : ai_fld RX0 21 = some (0, 2) := by decide +kernel
theorem cs_RX0_9 : ai_cls RX0 9 = some 2 := by decide +kernel
theorem cI_RX0_24 : ai_cI RX0 24 = some (yX2_init, 1, cX2_init, 2, none) := by decide +kernel
theorem mn_RX0_24 : ai_mlk RX0 24 ≠ some Lib.objectInit := by decide +kernel
theorem ml_RX7_1 : ai_mlk RX7 1 = some Lib.objectInit := by decide +kernel
theorem cs_RX7_7 : ai_cls RX7 7 = some 5 := by decide +kernel
theorem cN_RX7_9 : ai_cN RX7 9 = some (yX5_init, 0, cX5_init, 1, none) := by decide +kernel
theorem mn_RX7_9 : ai_mlk RX7 9 ≠ some Lib.objectInit := by decide +kernel
theorem c0_RX7_9 : ai_cI RX7 9 = none := by decide +kernel
theorem fl_RX7_10 : ai_fld RX7 10 = some (7, 0) := by decide +kernel
theorem cs_RX7_16 : ai_cls RX7 16 = some 6 := by decide +kernel
theorem cN_RX7_18 : ai_cN RX7 18 = some (yX6_init, 0, cX6_init, 1, none) := by decide +kernel
theorem mn_RX7_18 : ai_mlk RX7 18 ≠ some Lib.objectInit := by decide +kernel
theorem c0_RX7_18 : ai_cI RX7 18 = none := by decide +kernel
theorem fl_RX7_19 : ai_fld RX7 19 = some (7, 1) := by decide +kernel
theorem fl_RX7_23 : ai_fld RX7 23 = some (7, 2) := by decide +kernel
theorem cs_RX7_26 : ai_cls RX7 26 = some 2 := by decide +kernel
theorem cI_RX7_28 : ai_cI RX7 28 = some (yX2_init, 1, cX2_init, 2, none) := by decide +kernel
theorem mn_RX7_28 : ai_mlk RX7 28 ≠ some Lib.objectInit := by decide +kernel
theorem fl_RX7_31 : ai_fld RX7 31 = some (7, 3) := by decide +kernel
theorem fl_RX7_35 : ai_fld RX7 35 = some (7, 4) := by decide +kernel
theorem cs_RX7_38 : ai_cls RX7 38 = some 0 := by decide +kernel
theorem cI_RX7_40 : ai_cI RX7 40 = some (yX0_init, 1, cX0_init, 3, none) := by decide +kernel
theorem mn_RX7_40 : ai_mlk RX7 40 ≠ some Lib.objectInit := by decide +kernel
theorem fl_RX7_41 : ai_fld RX7 41 = some (7, 5) := by decide +kernel
theorem cs_RX7_45 : ai_cls RX7 45 = some 4 := by decide +kernel
theorem cN_RX7_47 : ai_cN RX7 47 = some (yX4_init, 0, cX4_init, 1, none) := by decide +kernel
theorem mn_RX7_47 : ai_mlk RX7 47 ≠ some Lib.objectInit := by decide +kernel
theorem c0_RX7_47 : ai_cI RX7 47 = none := by decide +kernel
theorem fl_RX7_48 : ai_fld RX7 48 = some (7, 6) := by decide +kernel
theorem cs_RX7_52 : ai_cls RX7 52 = some 3 := by decide +kernel
theorem cI_RX7_54 : ai_cI RX7 54 = some (yX3_init, 2, cX3_init, 3, none) := by decide +kernel
theorem mn_RX7_54 : ai_mlk RX7 54 ≠ some Lib.objectInit := by decide +kernel
theorem fl_RX7_57 : ai_fld RX7 57 = some (7, 7) := by decide +kernel
theorem cs_RX7_61 : ai_cls RX7 61 = some 1 := by decide +kernel
theorem cI_RX7_63 : ai_cI RX7 63 = some (yX1_init, 2, cX1_init, 3, none) := by decide +kernel
theorem mn_RX7_63 : ai_mlk RX7 63 ≠ some Lib.objectInit := by decide +kernel
theorem fl_RX7_64 : ai_fld RX7 64 = some (7, 8) := by decide +kernel
theorem ck_RX7_26 : ai_clk RX7 26 = some RX2 := by decide +kernel
theorem fl_RX7_68 : ai_fld RX7 68 = some (7, 9) := by decide +kernel
theorem fl_RX7_72 : ai_fld RX7 72 = some (7, 10) := by decide +kernel
theorem fl_RX7_76 : ai_fld RX7 76 = some (7, 11) := by decide +kernel
theorem ml_RX8_1 : ai_mlk RX8 1 = some Lib.objectInit := by decide +kernel
theorem fl_RX8_7 : ai_fld RX8 7 = some (8, 1) := by decide +kernel
theorem fl_RX8_13 : ai_fld RX8 13 = some (8, 5) := by decide +kernel
theorem fl_RX8_16 : ai_fld RX8 16 = some (8, 7) := by decide +kernel
theorem fl_RX8_19 : ai_fld RX8 19 = some (8, 9) := by decide +kernel
theorem fl_RX8_22 : ai_fld RX8 22 = some (8, 11) := by decide +kernel
theorem fl_RX8_25 : ai_fld RX8 25 = some (8, 13) := by decide +kernel
theorem fl_RX8_28 : ai_fld RX8 28 = some (8, 15) := by decide +kernel
theorem fl_RX8_31 : ai_fld RX8 31 = some (8, 16) := by decide +kernel
theorem fl_RX8_34 : ai_fld RX8 34 = some (8, 17) := by decide +kernel
theorem fl_RX8_37 : ai_fld RX8 37 = some (8, 18) := by decide +kernel
theorem fl_RX8_40 : ai_fld RX8 40 = some (8, 20) := by decide +kernel
theorem fl_RX8_43 : ai_fld RX8 43 = some (8, 21) := by decide +kernel
theorem fl_RX8_47 : ai_fld RX8 47 = some (8, 23) := by decide +kernel
theorem fl_RX8_50 : ai_fld RX8 50 = some (8, 24) := by decide +kernel
theorem fl_RX8_53 : ai_fld RX8 53 = some (8, 25) := by decide +kernel
theorem fl_RX8_56 : ai_fld RX8 56 = some (8, 35) := by decide +kernel
theorem fl_RX8_59 : ai_fld RX8 59 = some (8, 36) := by decide +kernel
theorem ct_RJ6_265 : ai_cst RJ6 265 = some 1431655765 := by decide +kernel
theorem ct_RJ6_266 : ai_cst RJ6 266 = some 858993459 := by decide +kernel
theorem ct_RJ6_267 : ai_cst RJ6 267 = some 252645135 := by decide +kernel
theorem cS_RX6_43 : ai_cS RX6 43 = some (yJ9_floorMod_7cf53, 2, cJ9_floorMod_7cf53, 3, (some .int)) := by decide +kernel
theorem mn_RX6_43 : ai_mlk RX6 43 ≠ some arraycopyName := by decide +kernel
theorem mi_RX6_43 : ai_isM RX6 43 = false := by decide +kernel
theorem cv_RX6_49 : ai_cV RX6 49 = some (yX6_hasRoomFor, 1, cX6_hasRoomFor, 2, (some .boolean)) := by decide +kernel
theorem cv_RX6_53 : ai_cV RX6 53 = some (yX6_hearsFirst, 1, cX6_hearsFirst, 2, (some .boolean)) := by decide +kernel
theorem cv_RX6_56 : ai_cV RX6 56 = some (yX6_hearsKind, 1, cX6_hearsKind, 2, (some .boolean)) := by decide +kernel
theorem fl_RX2_35 : ai_fld RX2 35 = some (6, 3) := by decide +kernel
theorem fl_RX2_38 : ai_fld RX2 38 = some (6, 1) := by decide +kernel
theorem ml_RX2_39 : ai_mlk RX2 39 = some arraycopyName := by decide +kernel
theorem ay_1 : Cond.native arraycopyName ∈ ai_tb := by decide +kernel
theorem ay_2 : Cond.static arraycopyName ∈ ai_tb := by decide +kernel
theorem ay_3 : Cond.initialized "java/lang/System" ∈ ai_tb := by decide +kernel
theorem cv_RX2_45 : ai_cV RX2 45 = some (yX6_tideOn, 1, cX6_tideOn, 2, (some .int)) := by decide +kernel
