theorem ai_isRX7 : 0 < 151 ∧ (cz_k 0).1 = 7 + 3 := by decide +kernel
theorem ai_isRX5 : 1 < 151 ∧ (cz_k 1).1 = 5 + 3 := by decide +kernel
theorem ai_isRX0 : 27 < 151 ∧ (cz_k 27).1 = 0 + 3 := by decide +kernel
theorem ai_isRX4 : 113 < 151 ∧ (cz_k 113).1 = 4 + 3 := by decide +kernel
theorem ai_isRX3 : 117 < 151 ∧ (cz_k 117).1 = 3 + 3 := by decide +kernel
theorem ai_isRX1 : 118 < 151 ∧ (cz_k 118).1 = 1 + 3 := by decide +kernel
theorem ai_isRX8 : 133 < 151 ∧ (cz_k 133).1 = 8 + 3 := by decide +kernel
theorem ai_rf_1_0 : cz_rf 1 0 = some 2 := by decide +kernel
theorem ai_rf_0_0 : cz_rf 0 0 = some 1 := by decide +kernel
theorem ai_rf_0_1 : cz_rf 0 1 = some 3 := by decide +kernel
theorem ai_rf_0_2 : cz_rf 0 2 = some 9 := by decide +kernel
theorem ai_rf_0_3 : cz_rf 0 3 = some 15 := by decide +kernel
theorem ai_rf_0_4 : cz_rf 0 4 = some 21 := by decide +kernel
theorem ai_rf_27_0 : cz_rf 27 0 = some 28 := by decide +kernel
theorem ai_rf_0_5 : cz_rf 0 5 = some 27 := by decide +kernel
theorem ai_rf_113_0 : cz_rf 113 0 = some 114 := by decide +kernel
theorem ai_rf_113_1 : cz_rf 113 1 = some 115 := by decide +kernel
theorem ai_rf_113_2 : cz_rf 113 2 = some 116 := by decide +kernel
theorem ai_rf_0_6 : cz_rf 0 6 = some 113 := by decide +kernel
theorem ai_rf_117_0 : cz_rf 117 0 = some 3 := by decide +kernel
theorem ai_rf_117_1 : cz_rf 117 1 = some 21 := by decide +kernel
theorem ai_rf_0_7 : cz_rf 0 7 = some 117 := by decide +kernel
theorem ai_rf_118_0 : cz_rf 118 0 = some 3 := by decide +kernel
theorem ai_rf_118_1 : cz_rf 118 1 = some 21 := by decide +kernel
theorem ai_rf_0_8 : cz_rf 0 8 = some 118 := by decide +kernel
theorem ai_rf_0_9 : cz_rf 0 9 = some 119 := by decide +kernel
theorem ai_rf_0_10 : cz_rf 0 10 = some 120 := by decide +kernel
theorem ai_rf_133_1 : cz_rf 133 1 = some 134 := by decide +kernel
theorem ai_rf_133_5 : cz_rf 133 5 = some 135 := by decide +kernel
theorem ai_rf_133_7 : cz_rf 133 7 = some 136 := by decide +kernel
theorem ai_rf_133_9 : cz_rf 133 9 = some 137 := by decide +kernel
theorem ai_rf_133_11 : cz_rf 133 11 = some 138 := by decide +kernel
theorem ai_rf_133_13 : cz_rf 133 13 = some 139 := by decide +kernel
theorem ai_rf_133_15 : cz_rf 133 15 = some 140 := by decide +kernel
theorem ai_rf_133_16 : cz_rf 133 16 = some 141 := by decide +kernel
theorem ai_rf_133_17 : cz_rf 133 17 = some 142 := by decide +kernel
theorem ai_rf_133_18 : cz_rf 133 18 = some 143 := by decide +kernel
theorem ai_rf_133_20 : cz_rf 133 20 = some 144 := by decide +kernel
theorem ai_rf_133_21 : cz_rf 133 21 = some 145 := by decide +kernel
theorem ai_rf_133_23 : cz_rf 133 23 = some 146 := by decide +kernel
theorem ai_rf_133_24 : cz_rf 133 24 = some 147 := by decide +kernel
theorem ai_rf_133_25 : cz_rf 133 25 = some 148 := by decide +kernel
theorem ai_rf_133_35 : cz_rf 133 35 = some 149 := by decide +kernel
theorem ai_rf_133_36 : cz_rf 133 36 = some 150 := by decide +kernel
