theorem cl_RX8_278 : ai_cstL RX8 278 = some 32 := by decide +kernel
theorem cs_RL_7 : ai_cls RL 7 = some 7 := by decide +kernel
theorem cI_RL_9 : ai_cI RL 9 = some (yX7_init, 0, cX7_init, 2, none) := by decide +kernel
theorem mn_RL_9 : ai_mlk RL 9 ≠ some Lib.objectInit := by decide +kernel
theorem cs_RL_10 : ai_cls RL 10 = some 8 := by decide +kernel
theorem cI_RL_12 : ai_cI RL 12 = some (yX8_init, 0, cX8_init, 1, none) := by decide +kernel
theorem mn_RL_12 : ai_mlk RL 12 ≠ some Lib.objectInit := by decide +kernel
theorem cv_RL_13 : ai_cV RL 13 = some (yX7_write, 1, cX7_write, 2, (some .int)) := by decide +kernel
theorem cv_RL_17 : ai_cV RL 17 = some (yX8_write, 1, cX8_write, 2, (some .int)) := by decide +kernel
theorem cv_RL_18 : ai_cV RL 18 = some (yX7_wipe, 0, cX7_wipe, 1, (some .int)) := by decide +kernel
theorem cv_RL_22 : ai_cV RL 22 = some (yX8_wipe, 0, cX8_wipe, 2, (some .int)) := by decide +kernel
theorem cv_RL_23 : ai_cV RL 23 = some (yX7_fault, 0, cX7_fault, 1, (some .int)) := by decide +kernel
theorem cv_RL_26 : ai_cV RL 26 = some (yX8_fault, 0, cX8_fault, 1, (some .int)) := by decide +kernel
theorem cv_RL_27 : ai_cV RL 27 = some (yX7_port, 0, cX7_port, 2, (some .int)) := by decide +kernel
theorem cv_RL_30 : ai_cV RL 30 = some (yX8_port, 0, cX8_port, 2, (some .int)) := by decide +kernel
theorem cv_RL_31 : ai_cV RL 31 = some (yX7_about, 1, cX7_about, 2, (some .int)) := by decide +kernel
theorem cv_RL_34 : ai_cV RL 34 = some (yX8_about, 1, cX8_about, 2, (some .int)) := by decide +kernel
theorem cv_RL_35 : ai_cV RL 35 = some (yX7_berth, 2, cX7_berth, 3, (some .int)) := by decide +kernel
theorem cv_RL_39 : ai_cV RL 39 = some (yX8_berth, 2, cX8_berth, 3, (some .int)) := by decide +kernel
theorem cv_RL_40 : ai_cV RL 40 = some (yX7_dream, 2, cX7_dream, 3, (some .int)) := by decide +kernel
theorem cv_RL_43 : ai_cV RL 43 = some (yX8_dream, 2, cX8_dream, 3, (some .int)) := by decide +kernel
theorem cv_RL_44 : ai_cV RL 44 = some (yX7_night, 0, cX7_night, 1, (some .int)) := by decide +kernel
theorem cv_RL_47 : ai_cV RL 47 = some (yX8_night, 0, cX8_night, 1, (some .int)) := by decide +kernel
theorem cv_RL_48 : ai_cV RL 48 = some (yX7_moor, 2, cX7_moor, 3, (some .int)) := by decide +kernel
theorem cv_RL_51 : ai_cV RL 51 = some (yX8_moor, 2, cX8_moor, 3, (some .int)) := by decide +kernel
theorem cv_RL_52 : ai_cV RL 52 = some (yX7_tow, 1, cX7_tow, 3, (some .int)) := by decide +kernel
theorem cv_RL_55 : ai_cV RL 55 = some (yX8_tow, 1, cX8_tow, 3, (some .int)) := by decide +kernel
theorem cv_RL_56 : ai_cV RL 56 = some (yX7_undo, 0, cX7_undo, 1, (some .int)) := by decide +kernel
theorem cv_RL_59 : ai_cV RL 59 = some (yX8_undo, 0, cX8_undo, 2, (some .int)) := by decide +kernel
theorem cv_RL_60 : ai_cV RL 60 = some (yX7_later, 2, cX7_later, 3, (some .int)) := by decide +kernel
theorem cv_RL_63 : ai_cV RL 63 = some (yX8_later, 2, cX8_later, 3, (some .int)) := by decide +kernel
theorem cv_RL_64 : ai_cV RL 64 = some (yX7_wakes, 2, cX7_wakes, 3, (some .int)) := by decide +kernel
theorem cv_RL_67 : ai_cV RL 67 = some (yX8_wakes, 2, cX8_wakes, 3, (some .int)) := by decide +kernel
theorem cv_RL_68 : ai_cV RL 68 = some (yX7_fits, 2, cX7_fits, 3, (some .int)) := by decide +kernel
theorem cv_RL_71 : ai_cV RL 71 = some (yX8_fits, 2, cX8_fits, 3, (some .int)) := by decide +kernel
theorem cv_RL_72 : ai_cV RL 72 = some (yX7_soonest, 1, cX7_soonest, 3, (some .int)) := by decide +kernel
theorem cv_RL_75 : ai_cV RL 75 = some (yX8_soonest, 1, cX8_soonest, 3, (some .int)) := by decide +kernel
theorem cv_RL_76 : ai_cV RL 76 = some (yX7_plan, 1, cX7_plan, 2, (some .int)) := by decide +kernel
theorem cv_RL_80 : ai_cV RL 80 = some (yX8_plan, 1, cX8_plan, 2, (some .int)) := by decide +kernel
theorem cl_RL_81 : ai_cstL RL 81 = some 4294967295 := by decide +kernel
theorem cv_RL_83 : ai_cV RL 83 = some (yX7_judge, 2, cX7_judge, 5, (some .int)) := by decide +kernel
theorem cv_RL_87 : ai_cV RL 87 = some (yX8_judge, 2, cX8_judge, 5, (some .int)) := by decide +kernel
theorem cv_RL_88 : ai_cV RL 88 = some (yX7_share, 2, cX7_share, 7, (some .int)) := by decide +kernel
theorem cv_RL_92 : ai_cV RL 92 = some (yX8_share, 2, cX8_share, 6, (some .int)) := by decide +kernel
theorem cv_RL_93 : ai_cV RL 93 = some (yX7_sound, 3, cX7_sound, 4, (some .int)) := by decide +kernel
theorem cv_RL_97 : ai_cV RL 97 = some (yX8_sound, 3, cX8_sound, 4, (some .int)) := by decide +kernel
theorem cv_RL_98 : ai_cV RL 98 = some (yX7_unsound, 0, cX7_unsound, 1, (some .int)) := by decide +kernel
theorem cv_RL_101 : ai_cV RL 101 = some (yX8_unsound, 0, cX8_unsound, 2, (some .int)) := by decide +kernel
theorem cv_RL_102 : ai_cV RL 102 = some (yX7_depths, 1, cX7_depths, 6, (some .int)) := by decide +kernel
theorem cv_RL_105 : ai_cV RL 105 = some (yX8_depths, 1, cX8_depths, 4, (some .int)) := by decide +kernel
theorem cv_RL_106 : ai_cV RL 106 = some (yX7_rests, 3, cX7_rests, 8, (some .int)) := by decide +kernel
theorem cv_RL_109 : ai_cV RL 109 = some (yX8_rests, 3, cX8_rests, 7, (some .int)) := by decide +kernel
theorem cv_RL_110 : ai_cV RL 110 = some (yX7_ebb, 3, cX7_ebb, 7, (some .int)) := by decide +kernel
theorem cv_RL_114 : ai_cV RL 114 = some (yX8_ebb, 3, cX8_ebb, 7, (some .int)) := by decide +kernel
theorem cv_RL_115 : ai_cV RL 115 = some (yX7_seed, 1, cX7_seed, 5, (some .long)) := by decide +kernel
theorem cv_RL_119 : ai_cV RL 119 = some (yX8_seed, 1, cX8_seed, 5, (some .long)) := by decide +kernel
theorem cv_RL_120 : ai_cV RL 120 = some (yX7_years, 1, cX7_years, 4, (some .int)) := by decide +kernel
theorem cv_RL_123 : ai_cV RL 123 = some (yX8_years, 1, cX8_years, 5, (some .int)) := by decide +kernel
theorem cv_RL_124 : ai_cV RL 124 = some (yX7_keep, 1, cX7_keep, 2, (some .int)) := by decide +kernel
theorem cv_RL_127 : ai_cV RL 127 = some (yX8_keep, 1, cX8_keep, 3, (some .int)) := by decide +kernel
theorem cv_RL_128 : ai_cV RL 128 = some (yX7_again, 1, cX7_again, 2, (some .int)) := by decide +kernel
theorem cv_RL_131 : ai_cV RL 131 = some (yX8_again, 1, cX8_again, 3, (some .int)) := by decide +kernel
