theorem iwX0 : ∀ w ∈ u_ws RX0 TX0 8, w ∈ zgw := by decide +kernel
theorem ft_X0_0 : zFT RX0 0 0 (tyX0 0) false := ⟨RX0, TX0, 8, tyX0, rfl, tyX0_ok, nmX0, rfl, tyX0_ok 0 (by decide), fun h => by cases h⟩
theorem ft_X0_1 : zFT RX0 0 1 (tyX0 1) false := ⟨RX0, TX0, 8, tyX0, rfl, tyX0_ok, nmX0, rfl, tyX0_ok 1 (by decide), fun h => by cases h⟩
theorem ft_X0_2 : zFT RX0 0 2 (tyX0 2) false := ⟨RX0, TX0, 8, tyX0, rfl, tyX0_ok, nmX0, rfl, tyX0_ok 2 (by decide), fun h => by cases h⟩
theorem ft_X0_3 : zFT RX0 0 3 (tyX0 3) false := ⟨RX0, TX0, 8, tyX0, rfl, tyX0_ok, nmX0, rfl, tyX0_ok 3 (by decide), fun h => by cases h⟩
theorem ft_X0_4 : zFT RX0 0 4 (tyX0 4) false := ⟨RX0, TX0, 8, tyX0, rfl, tyX0_ok, nmX0, rfl, tyX0_ok 4 (by decide), fun h => by cases h⟩
theorem ft_X0_5 : zFT RX0 0 5 (tyX0 5) true := ⟨RX0, TX0, 8, tyX0, rfl, tyX0_ok, nmX0, rfl, tyX0_ok 5 (by decide), fun _ => rfl⟩
theorem ft_X0_6 : zFT RX0 0 6 (tyX0 6) true := ⟨RX0, TX0, 8, tyX0, rfl, tyX0_ok, nmX0, rfl, tyX0_ok 6 (by decide), fun _ => rfl⟩
theorem ft_X0_7 : zFT RX0 0 7 (tyX0 7) true := ⟨RX0, TX0, 8, tyX0, rfl, tyX0_ok, nmX0, rfl, tyX0_ok 7 (by decide), fun _ => rfl⟩
theorem iwX1 : ∀ w ∈ u_ws RX1 TX1 4, w ∈ zgw := by decide +kernel
theorem ft_X1_0 : zFT RX1 1 0 (tyX1 0) false := ⟨RX1, TX1, 4, tyX1, rfl, tyX1_ok, nmX1, rfl, tyX1_ok 0 (by decide), fun h => by cases h⟩
theorem ft_X1_1 : zFT RX1 1 1 (tyX1 1) false := ⟨RX1, TX1, 4, tyX1, rfl, tyX1_ok, nmX1, rfl, tyX1_ok 1 (by decide), fun h => by cases h⟩
theorem ft_X1_2 : zFT RX1 1 2 (tyX1 2) false := ⟨RX1, TX1, 4, tyX1, rfl, tyX1_ok, nmX1, rfl, tyX1_ok 2 (by decide), fun h => by cases h⟩
theorem ft_X1_3 : zFT RX1 1 3 (tyX1 3) false := ⟨RX1, TX1, 4, tyX1, rfl, tyX1_ok, nmX1, rfl, tyX1_ok 3 (by decide), fun h => by cases h⟩
theorem iwX2 : ∀ w ∈ u_ws RX2 TX2 3, w ∈ zgw := by decide +kernel
theorem ft_X2_0 : zFT RX2 2 0 (tyX2 0) true := ⟨RX2, TX2, 3, tyX2, rfl, tyX2_ok, nmX2, rfl, tyX2_ok 0 (by decide), fun _ => rfl⟩
theorem ft_X2_1 : zFT RX2 2 1 (tyX2 1) false := ⟨RX2, TX2, 3, tyX2, rfl, tyX2_ok, nmX2, rfl, tyX2_ok 1 (by decide), fun h => by cases h⟩
theorem ft_X2_2 : zFT RX2 2 2 (tyX2 2) false := ⟨RX2, TX2, 3, tyX2, rfl, tyX2_ok, nmX2, rfl, tyX2_ok 2 (by decide), fun h => by cases h⟩
theorem iwX3 : ∀ w ∈ u_ws RX3 TX3 7, w ∈ zgw := by decide +kernel
theorem ft_X3_0 : zFT RX3 3 0 (tyX3 0) true := ⟨RX3, TX3, 7, tyX3, rfl, tyX3_ok, nmX3, rfl, tyX3_ok 0 (by decide), fun _ => rfl⟩
theorem ft_X3_1 : zFT RX3 3 1 (tyX3 1) false := ⟨RX3, TX3, 7, tyX3, rfl, tyX3_ok, nmX3, rfl, tyX3_ok 1 (by decide), fun h => by cases h⟩
theorem ft_X3_2 : zFT RX3 3 2 (tyX3 2) false := ⟨RX3, TX3, 7, tyX3, rfl, tyX3_ok, nmX3, rfl, tyX3_ok 2 (by decide), fun h => by cases h⟩
theorem ft_X3_3 : zFT RX3 3 3 (tyX3 3) false := ⟨RX3, TX3, 7, tyX3, rfl, tyX3_ok, nmX3, rfl, tyX3_ok 3 (by decide), fun h => by cases h⟩
theorem ft_X3_4 : zFT RX3 3 4 (tyX3 4) false := ⟨RX3, TX3, 7, tyX3, rfl, tyX3_ok, nmX3, rfl, tyX3_ok 4 (by decide), fun h => by cases h⟩
theorem ft_X3_5 : zFT RX3 3 5 (tyX3 5) false := ⟨RX3, TX3, 7, tyX3, rfl, tyX3_ok, nmX3, rfl, tyX3_ok 5 (by decide), fun h => by cases h⟩
theorem ft_X3_6 : zFT RX3 3 6 (tyX3 6) false := ⟨RX3, TX3, 7, tyX3, rfl, tyX3_ok, nmX3, rfl, tyX3_ok 6 (by decide), fun h => by cases h⟩
theorem iwX4 : ∀ w ∈ u_ws RX4 TX4 2, w ∈ zgw := by decide +kernel
theorem ft_X4_0 : zFT RX4 4 0 (tyX4 0) true := ⟨RX4, TX4, 2, tyX4, rfl, tyX4_ok, nmX4, rfl, tyX4_ok 0 (by decide), fun _ => rfl⟩
theorem ft_X4_1 : zFT RX4 4 1 (tyX4 1) true := ⟨RX4, TX4, 2, tyX4, rfl, tyX4_ok, nmX4, rfl, tyX4_ok 1 (by decide), fun _ => rfl⟩
theorem iwX5 : ∀ w ∈ u_ws RX5 TX5 7, w ∈ zgw := by decide +kernel
theorem ft_X5_0 : zFT RX5 5 0 (tyX5 0) false := ⟨RX5, TX5, 7, tyX5, rfl, tyX5_ok, nmX5, rfl, tyX5_ok 0 (by decide), fun h => by cases h⟩
theorem ft_X5_1 : zFT RX5 5 1 (tyX5 1) false := ⟨RX5, TX5, 7, tyX5, rfl, tyX5_ok, nmX5, rfl, tyX5_ok 1 (by decide), fun h => by cases h⟩
theorem ft_X5_2 : zFT RX5 5 2 (tyX5 2) false := ⟨RX5, TX5, 7, tyX5, rfl, tyX5_ok, nmX5, rfl, tyX5_ok 2 (by decide), fun h => by cases h⟩
theorem ft_X5_3 : zFT RX5 5 3 (tyX5 3) false := ⟨RX5, TX5, 7, tyX5, rfl, tyX5_ok, nmX5, rfl, tyX5_ok 3 (by decide), fun h => by cases h⟩
theorem ft_X5_4 : zFT RX5 5 4 (tyX5 4) false := ⟨RX5, TX5, 7, tyX5, rfl, tyX5_ok, nmX5, rfl, tyX5_ok 4 (by decide), fun h => by cases h⟩
theorem ft_X5_5 : zFT RX5 5 5 (tyX5 5) true := ⟨RX5, TX5, 7, tyX5, rfl, tyX5_ok, nmX5, rfl, tyX5_ok 5 (by decide), fun _ => rfl⟩
theorem ft_X5_6 : zFT RX5 5 6 (tyX5 6) true := ⟨RX5, TX5, 7, tyX5, rfl, tyX5_ok, nmX5, rfl, tyX5_ok 6 (by decide), fun _ => rfl⟩
theorem iwX6 : ∀ w ∈ u_ws RX6 TX6 7, w ∈ zgw := by decide +kernel
theorem ft_X6_0 : zFT RX6 6 0 (tyX6 0) true := ⟨RX6, TX6, 7, tyX6, rfl, tyX6_ok, nmX6, rfl, tyX6_ok 0 (by decide), fun _ => rfl⟩
theorem ft_X6_1 : zFT RX6 6 1 (tyX6 1) true := ⟨RX6, TX6, 7, tyX6, rfl, tyX6_ok, nmX6, rfl, tyX6_ok 1 (by decide), fun _ => rfl⟩
theorem ft_X6_2 : zFT RX6 6 2 (tyX6 2) true := ⟨RX6, TX6, 7, tyX6, rfl, tyX6_ok, nmX6, rfl, tyX6_ok 2 (by decide), fun _ => rfl⟩
theorem ft_X6_3 : zFT RX6 6 3 (tyX6 3) true := ⟨RX6, TX6, 7, tyX6, rfl, tyX6_ok, nmX6, rfl, tyX6_ok 3 (by decide), fun _ => rfl⟩
theorem ft_X6_4 : zFT RX6 6 4 (tyX6 4) true := ⟨RX6, TX6, 7, tyX6, rfl, tyX6_ok, nmX6, rfl, tyX6_ok 4 (by decide), fun _ => rfl⟩
theorem ft_X6_5 : zFT RX6 6 5 (tyX6 5) true := ⟨RX6, TX6, 7, tyX6, rfl, tyX6_ok, nmX6, rfl, tyX6_ok 5 (by decide), fun _ => rfl⟩
theorem ft_X6_6 : zFT RX6 6 6 (tyX6 6) true := ⟨RX6, TX6, 7, tyX6, rfl, tyX6_ok, nmX6, rfl, tyX6_ok 6 (by decide), fun _ => rfl⟩
theorem kl_L_11 : Cond.classLink RL 11 RX6 ∈ zgw := zin 27 (by decide +kernel)
theorem ml_L_65 : zML RL 65 yX6_init cX6_init 1 none 0 := ⟨zin 29 (by decide +kernel), zin 31 (by decide +kernel), zin 17 (by decide +kernel), by decide +kernel, by decide +kernel, by decide +kernel⟩
theorem kl_X6_7 : Cond.classLink RX6 7 RX5 ∈ zgw := zin 35 (by decide +kernel)
theorem ml_X6_9 : zML RX6 9 yX5_init cX5_init 2 none 0 := ⟨zin 37 (by decide +kernel), zin 39 (by decide +kernel), zin 18 (by decide +kernel), by decide +kernel, by decide +kernel, by decide +kernel⟩
theorem kl_X5_19 : Cond.classLink RX5 19 RX0 ∈ zgw := zin 41 (by decide +kernel)
theorem ml_X5_25 : zMLN RX5 25 yX0_init cX0_init 1 none 0 := ⟨⟨"BookDroplets", zinb 44 (by decide +kernel)⟩, zin 46 (by decide +kernel), zin 19 (by decide +kernel), by decide +kernel, by decide +kernel, by decide +kernel⟩
theorem fl_X0_21 : zFL RX0 21 0 0 := ⟨RX0, TX0, 8, rfl, by decide, zin 48 (by decide +kernel), iwX0⟩
theorem fl_X6_114 : zFL RX6 114 0 0 := ⟨RX0, TX0, 8, rfl, by decide, zin 49 (by decide +kernel), iwX0⟩
theorem fl_X0_25 : zFL RX0 25 0 1 := ⟨RX0, TX0, 8, rfl, by decide, zin 50 (by decide +kernel), iwX0⟩
theorem fl_X6_117 : zFL RX6 117 0 1 := ⟨RX0, TX0, 8, rfl, by decide, zin 51 (by decide +kernel), iwX0⟩
theorem fl_X0_28 : zFL RX0 28 0 2 := ⟨RX0, TX0, 8, rfl, by decide, zin 52 (by decide +kernel), iwX0⟩
theorem fl_X6_120 : zFL RX6 120 0 2 := ⟨RX0, TX0, 8, rfl, by decide, zin 53 (by decide +kernel), iwX0⟩
theorem fl_X0_31 : zFL RX0 31 0 3 := ⟨RX0, TX0, 8, rfl, by decide, zin 54 (by decide +kernel), iwX0⟩
theorem fl_X6_123 : zFL RX6 123 0 3 := ⟨RX0, TX0, 8, rfl, by decide, zin 55 (by decide +kernel), iwX0⟩
theorem fl_X0_34 : zFL RX0 34 0 4 := ⟨RX0, TX0, 8, rfl, by decide, zin 56 (by decide +kernel), iwX0⟩
theorem fl_X6_125 : zFL RX6 125 0 4 := ⟨RX0, TX0, 8, rfl, by decide, zin 57 (by decide +kernel), iwX0⟩
theorem fl_X0_9 : zFL RX0 9 0 5 := ⟨RX0, TX0, 8, rfl, by decide, zin 58 (by decide +kernel), iwX0⟩
theorem fl_X6_142 : zFL RX6 142 0 5 := ⟨RX0, TX0, 8, rfl, by decide, zin 59 (by decide +kernel), iwX0⟩
theorem fl_X0_15 : zFL RX0 15 0 6 := ⟨RX0, TX0, 8, rfl, by decide, zin 60 (by decide +kernel), iwX0⟩
theorem fl_X4_18 : zFL RX4 18 0 6 := ⟨RX0, TX0, 8, rfl, by decide, zin 61 (by decide +kernel), iwX0⟩
theorem fl_X6_146 : zFL RX6 146 0 6 := ⟨RX0, TX0, 8, rfl, by decide, zin 62 (by decide +kernel), iwX0⟩
theorem fl_X0_18 : zFL RX0 18 0 7 := ⟨RX0, TX0, 8, rfl, by decide, zin 63 (by decide +kernel), iwX0⟩
theorem fl_X4_27 : zFL RX4 27 0 7 := ⟨RX0, TX0, 8, rfl, by decide, zin 64 (by decide +kernel), iwX0⟩
theorem fl_X6_149 : zFL RX6 149 0 7 := ⟨RX0, TX0, 8, rfl, by decide, zin 65 (by decide +kernel), iwX0⟩
theorem fl_X5_9 : zFL RX5 9 5 0 := ⟨RX5, TX5, 7, rfl, by decide, zin 84 (by decide +kernel), iwX5⟩
theorem fl_X1_37 : zFL RX1 37 5 0 := ⟨RX5, TX5, 7, rfl, by decide, zin 85 (by decide +kernel), iwX5⟩
theorem fl_X6_159 : zFL RX6 159 5 0 := ⟨RX5, TX5, 7, rfl, by decide, zin 86 (by decide +kernel), iwX5⟩
theorem fl_X1_34 : zFL RX1 34 5 1 := ⟨RX5, TX5, 7, rfl, by decide, zin 87 (by decide +kernel), iwX5⟩
theorem fl_X5_32 : zFL RX5 32 5 1 := ⟨RX5, TX5, 7, rfl, by decide, zin 88 (by decide +kernel), iwX5⟩
theorem fl_X6_162 : zFL RX6 162 5 1 := ⟨RX5, TX5, 7, rfl, by decide, zin 89 (by decide +kernel), iwX5⟩
theorem fl_X1_25 : zFL RX1 25 5 2 := ⟨RX5, TX5, 7, rfl, by decide, zin 90 (by decide +kernel), iwX5⟩
theorem fl_X5_29 : zFL RX5 29 5 2 := ⟨RX5, TX5, 7, rfl, by decide, zin 91 (by decide +kernel), iwX5⟩
theorem fl_X6_89 : zFL RX6 89 5 2 := ⟨RX5, TX5, 7, rfl, by decide, zin 92 (by decide +kernel), iwX5⟩
theorem fl_X5_26 : zFL RX5 26 5 3 := ⟨RX5, TX5, 7, rfl, by decide, zin 93 (by decide +kernel), iwX5⟩
theorem fl_X6_152 : zFL RX6 152 5 3 := ⟨RX5, TX5, 7, rfl, by decide, zin 94 (by decide +kernel), iwX5⟩
theorem fl_X5_35 : zFL RX5 35 5 4 := ⟨RX5, TX5, 7, rfl, by decide, zin 95 (by decide +kernel), iwX5⟩
theorem fl_X6_158 : zFL RX6 158 5 4 := ⟨RX5, TX5, 7, rfl, by decide, zin 96 (by decide +kernel), iwX5⟩
theorem fl_X5_15 : zFL RX5 15 5 5 := ⟨RX5, TX5, 7, rfl, by decide, zin 97 (by decide +kernel), iwX5⟩
theorem fl_X1_52 : zFL RX1 52 5 5 := ⟨RX5, TX5, 7, rfl, by decide, zin 98 (by decide +kernel), iwX5⟩
theorem fl_X6_220 : zFL RX6 220 5 5 := ⟨RX5, TX5, 7, rfl, by decide, zin 99 (by decide +kernel), iwX5⟩
theorem fl_X5_21 : zFL RX5 21 5 6 := ⟨RX5, TX5, 7, rfl, by decide, zin 100 (by decide +kernel), iwX5⟩
theorem kl_X6_16 : Cond.classLink RX6 16 RX2 ∈ zgw := zin 116 (by decide +kernel)
theorem ml_X6_18 : zML RX6 18 yX2_init cX2_init 2 none 0 := ⟨zin 118 (by decide +kernel), zin 120 (by decide +kernel), zin 20 (by decide +kernel), by decide +kernel, by decide +kernel, by decide +kernel⟩
theorem kl_X2_11 : Cond.classLink RX2 11 RX5 ∈ zgw := zin 122 (by decide +kernel)
theorem ml_X2_17 : zML RX2 17 yX5_init cX5_init 2 none 0 := ⟨zin 124 (by decide +kernel), zin 39 (by decide +kernel), zin 18 (by decide +kernel), by decide +kernel, by decide +kernel, by decide +kernel⟩
theorem fl_X2_13 : zFL RX2 13 2 0 := ⟨RX2, TX2, 3, rfl, by decide, zin 125 (by decide +kernel), iwX2⟩
theorem fl_X2_30 : zFL RX2 30 2 1 := ⟨RX2, TX2, 3, rfl, by decide, zin 126 (by decide +kernel), iwX2⟩
theorem fl_X2_26 : zFL RX2 26 2 2 := ⟨RX2, TX2, 3, rfl, by decide, zin 127 (by decide +kernel), iwX2⟩
theorem fl_X6_168 : zFLN RX6 168 2 2 := ⟨RX2, TX2, 3, "BookDroplets", rfl, by decide, zinb 128 (by decide +kernel), iwX2⟩
theorem kl_X6_27 : Cond.classLink RX6 27 RX3 ∈ zgw := zin 136 (by decide +kernel)
theorem ml_X6_29 : zMLN RX6 29 yX3_init cX3_init 1 none 0 := ⟨⟨"BookDroplets", zinb 138 (by decide +kernel)⟩, zin 140 (by decide +kernel), zin 21 (by decide +kernel), by decide +kernel, by decide +kernel, by decide +kernel⟩
theorem fl_X3_9 : zFL RX3 9 3 0 := ⟨RX3, TX3, 7, rfl, by decide, zin 142 (by decide +kernel), iwX3⟩
theorem fl_X6_165 : zFL RX6 165 3 1 := ⟨RX3, TX3, 7, rfl, by decide, zin 143 (by decide +kernel), iwX3⟩
theorem kl_X6_34 : Cond.classLink RX6 34 RX1 ∈ zgw := zin 160 (by decide +kernel)
theorem ml_X6_36 : zMLN RX6 36 yX1_init cX1_init 1 none 0 := ⟨⟨"BookDroplets", zinb 162 (by decide +kernel)⟩, zin 164 (by decide +kernel), zin 22 (by decide +kernel), by decide +kernel, by decide +kernel, by decide +kernel⟩
theorem fl_X1_9 : zFL RX1 9 1 0 := ⟨RX1, TX1, 4, rfl, by decide, zin 166 (by decide +kernel), iwX1⟩
theorem fl_X0_49 : zFL RX0 49 1 0 := ⟨RX1, TX1, 4, rfl, by decide, zin 167 (by decide +kernel), iwX1⟩
theorem fl_X6_106 : zFL RX6 106 1 0 := ⟨RX1, TX1, 4, rfl, by decide, zin 168 (by decide +kernel), iwX1⟩
theorem fl_X1_15 : zFL RX1 15 1 1 := ⟨RX1, TX1, 4, rfl, by decide, zin 169 (by decide +kernel), iwX1⟩
theorem fl_X6_97 : zFL RX6 97 1 1 := ⟨RX1, TX1, 4, rfl, by decide, zin 170 (by decide +kernel), iwX1⟩
theorem fl_X1_19 : zFL RX1 19 1 2 := ⟨RX1, TX1, 4, rfl, by decide, zin 171 (by decide +kernel), iwX1⟩
theorem fl_X0_58 : zFL RX0 58 1 2 := ⟨RX1, TX1, 4, rfl, by decide, zin 172 (by decide +kernel), iwX1⟩
theorem fl_X6_100 : zFL RX6 100 1 2 := ⟨RX1, TX1, 4, rfl, by decide, zin 173 (by decide +kernel), iwX1⟩
theorem fl_X1_22 : zFL RX1 22 1 3 := ⟨RX1, TX1, 4, rfl, by decide, zin 174 (by decide +kernel), iwX1⟩
theorem fl_X0_61 : zFL RX0 61 1 3 := ⟨RX1, TX1, 4, rfl, by decide, zin 175 (by decide +kernel), iwX1⟩
theorem fl_X6_103 : zFL RX6 103 1 3 := ⟨RX1, TX1, 4, rfl, by decide, zin 176 (by decide +kernel), iwX1⟩
theorem kl_X6_41 : Cond.classLink RX6 41 RX0 ∈ zgw := zin 186 (by decide +kernel)
theorem ml_X6_43 : zMLN RX6 43 yX0_init cX0_init 1 none 0 := ⟨⟨"BookDroplets", zinb 187 (by decide +kernel)⟩, zin 46 (by decide +kernel), zin 19 (by decide +kernel), by decide +kernel, by decide +kernel, by decide +kernel⟩
theorem kl_X6_48 : Cond.classLink RX6 48 RX4 ∈ zgw := zin 188 (by decide +kernel)
theorem ml_X6_50 : zMLN RX6 50 yX4_init cX4_init 1 none 0 := ⟨⟨"BookDroplets", zinb 190 (by decide +kernel)⟩, zin 192 (by decide +kernel), zin 23 (by decide +kernel), by decide +kernel, by decide +kernel, by decide +kernel⟩
theorem fl_X4_9 : zFL RX4 9 4 0 := ⟨RX4, TX4, 2, rfl, by decide, zin 194 (by decide +kernel), iwX4⟩
theorem fl_X0_81 : zFL RX0 81 4 0 := ⟨RX4, TX4, 2, rfl, by decide, zin 195 (by decide +kernel), iwX4⟩
theorem fl_X4_15 : zFL RX4 15 4 1 := ⟨RX4, TX4, 2, rfl, by decide, zin 196 (by decide +kernel), iwX4⟩
theorem fl_X0_82 : zFL RX0 82 4 1 := ⟨RX4, TX4, 2, rfl, by decide, zin 197 (by decide +kernel), iwX4⟩
theorem fl_X6_10 : zFL RX6 10 6 0 := ⟨RX6, TX6, 7, rfl, by decide, zin 203 (by decide +kernel), iwX6⟩
theorem fl_X6_19 : zFL RX6 19 6 1 := ⟨RX6, TX6, 7, rfl, by decide, zin 204 (by decide +kernel), iwX6⟩
theorem fl_X6_23 : zFL RX6 23 6 2 := ⟨RX6, TX6, 7, rfl, by decide, zin 205 (by decide +kernel), iwX6⟩
theorem fl_X6_30 : zFL RX6 30 6 3 := ⟨RX6, TX6, 7, rfl, by decide, zin 206 (by decide +kernel), iwX6⟩
theorem fl_X6_37 : zFL RX6 37 6 4 := ⟨RX6, TX6, 7, rfl, by decide, zin 207 (by decide +kernel), iwX6⟩
theorem fl_X6_44 : zFL RX6 44 6 5 := ⟨RX6, TX6, 7, rfl, by decide, zin 208 (by decide +kernel), iwX6⟩
theorem fl_X6_51 : zFL RX6 51 6 6 := ⟨RX6, TX6, 7, rfl, by decide, zin 209 (by decide +kernel), iwX6⟩
theorem ml_L_51 : zML RL 51 yX6_set cX6_set 3 (some .int) 2 := ⟨zin 225 (by decide +kernel), zin 228 (by decide +kernel), zin 17 (by decide +kernel), by decide +kernel, by decide +kernel, by decide +kernel⟩
theorem ml_X6_55 : zML RX6 55 yX2_note cX2_note 3 none 1 := ⟨zin 229 (by decide +kernel), zin 232 (by decide +kernel), zin 20 (by decide +kernel), by decide +kernel, by decide +kernel, by decide +kernel⟩
theorem ml_X2_18 : zML RX2 18 yX2_placeBehindLast cX2_placeBehindLast 1 (some .int) 0 := ⟨zin 233 (by decide +kernel), zin 236 (by decide +kernel), zin 20 (by decide +kernel), by decide +kernel, by decide +kernel, by decide +kernel⟩
theorem ml_X2_33 : zML RX2 33 yJ9_floorMod_7cf53 cJ9_floorMod_7cf53 3 (some .int) 2 := ⟨zin 237 (by decide +kernel), zin 239 (by decide +kernel), zin 24 (by decide +kernel), by decide +kernel, by decide +kernel, by decide +kernel⟩
theorem ml_X2_22 : zML RX2 22 yX5_copyFrom cX5_copyFrom 5 none 1 := ⟨zin 240 (by decide +kernel), zin 243 (by decide +kernel), zin 18 (by decide +kernel), by decide +kernel, by decide +kernel, by decide +kernel⟩
theorem ml_X5_44 : zML RX5 44 yX0_copyFrom cX0_copyFrom 2 none 1 := ⟨zin 247 (by decide +kernel), zin 250 (by decide +kernel), zin 19 (by decide +kernel), by decide +kernel, by decide +kernel, by decide +kernel⟩
theorem ml_X6_59 : zML RX6 59 yX6_changeSetting cX6_changeSetting 4 (some .int) 2 := ⟨zin 252 (by decide +kernel), zin 255 (by decide +kernel), zin 17 (by decide +kernel), by decide +kernel, by decide +kernel, by decide +kernel⟩
theorem ml_X6_85 : zML RX6 85 yX6_isWithin cX6_isWithin 3 (some .boolean) 3 := ⟨zin 256 (by decide +kernel), zin 258 (by decide +kernel), zin 17 (by decide +kernel), by decide +kernel, by decide +kernel, by decide +kernel⟩
theorem ml_X6_63 : zML RX6 63 yX2_keepUnlessError cX2_keepUnlessError 2 (some .int) 1 := ⟨zin 259 (by decide +kernel), zin 262 (by decide +kernel), zin 20 (by decide +kernel), by decide +kernel, by decide +kernel, by decide +kernel⟩
theorem ml_L_70 : zML RL 70 yX6_chapter cX6_chapter 2 (some .int) 1 := ⟨zin 263 (by decide +kernel), zin 266 (by decide +kernel), zin 17 (by decide +kernel), by decide +kernel, by decide +kernel, by decide +kernel⟩
theorem ml_X6_67 : zML RX6 67 yX6_addChapter cX6_addChapter 3 (some .int) 1 := ⟨zin 267 (by decide +kernel), zin 270 (by decide +kernel), zin 17 (by decide +kernel), by decide +kernel, by decide +kernel, by decide +kernel⟩
theorem kc_X6_84 : Cond.constant RX6 84 65535 ∈ zgw := zin 271 (by decide +kernel)
theorem ml_L_73 : zML RL 73 yX6_cup cX6_cup 1 (some .int) 0 := ⟨zin 272 (by decide +kernel), zin 275 (by decide +kernel), zin 17 (by decide +kernel), by decide +kernel, by decide +kernel, by decide +kernel⟩
theorem ml_X6_70 : zML RX6 70 yX6_addCup cX6_addCup 2 (some .int) 0 := ⟨zin 276 (by decide +kernel), zin 279 (by decide +kernel), zin 17 (by decide +kernel), by decide +kernel, by decide +kernel, by decide +kernel⟩
theorem ml_L_45 : zML RL 45 yX6_pour cX6_pour 4 (some .int) 3 := ⟨zin 280 (by decide +kernel), zin 283 (by decide +kernel), zin 17 (by decide +kernel), by decide +kernel, by decide +kernel, by decide +kernel⟩
theorem ml_X6_77 : zML RX6 77 yX6_pourDroplets cX6_pourDroplets 8 (some .int) 3 := ⟨zin 284 (by decide +kernel), zin 287 (by decide +kernel), zin 17 (by decide +kernel), by decide +kernel, by decide +kernel, by decide +kernel⟩
theorem ml_X6_110 : zML RX6 110 yX5_cupAt cX5_cupAt 2 (some (.object "BookDroplets$Cup")) 1 := ⟨zin 288 (by decide +kernel), zin 291 (by decide +kernel), zin 18 (by decide +kernel), by decide +kernel, by decide +kernel, by decide +kernel⟩
theorem ml_X6_171 : zML RX6 171 yX6_errorOfDroplets cX6_errorOfDroplets 3 (some .int) 2 := ⟨zin 292 (by decide +kernel), zin 295 (by decide +kernel), zin 17 (by decide +kernel), by decide +kernel, by decide +kernel, by decide +kernel⟩
theorem ml_X6_181 : zML RX6 181 yX6_wrappedSeed cX6_wrappedSeed 1 (some .int) 1 := ⟨zin 296 (by decide +kernel), zin 298 (by decide +kernel), zin 17 (by decide +kernel), by decide +kernel, by decide +kernel, by decide +kernel⟩
theorem ml_X6_93 : zML RX6 93 yX1_makeFrom cX1_makeFrom 6 none 2 := ⟨zin 299 (by decide +kernel), zin 302 (by decide +kernel), zin 22 (by decide +kernel), by decide +kernel, by decide +kernel, by decide +kernel⟩
theorem ml_X1_30 : zML RX1 30 yX1_nextDraw cX1_nextDraw 1 (some .int) 1 := ⟨zin 303 (by decide +kernel), zin 305 (by decide +kernel), zin 22 (by decide +kernel), by decide +kernel, by decide +kernel, by decide +kernel⟩
theorem kc_X1_56 : Cond.constant RX1 56 65537 ∈ zgw := zin 306 (by decide +kernel)
theorem ml_X1_40 : zML RX1 40 yX1_degreeBy cX1_degreeBy 3 (some .int) 3 := ⟨zin 307 (by decide +kernel), zin 309 (by decide +kernel), zin 22 (by decide +kernel), by decide +kernel, by decide +kernel, by decide +kernel⟩
theorem ml_X1_57 : zML RX1 57 yX1_commonDegree cX1_commonDegree 1 (some .int) 1 := ⟨zin 310 (by decide +kernel), zin 312 (by decide +kernel), zin 22 (by decide +kernel), by decide +kernel, by decide +kernel, by decide +kernel⟩
theorem ml_X1_60 : zML RX1 60 yJ9_min_7cf53 cJ9_min_7cf53 2 (some .int) 2 := ⟨zin 313 (by decide +kernel), zin 315 (by decide +kernel), zin 24 (by decide +kernel), by decide +kernel, by decide +kernel, by decide +kernel⟩
theorem ml_X1_44 : zML RX1 44 yX1_addFrom cX1_addFrom 5 none 2 := ⟨zin 316 (by decide +kernel), zin 319 (by decide +kernel), zin 22 (by decide +kernel), by decide +kernel, by decide +kernel, by decide +kernel⟩
theorem ml_X1_48 : zMLN RX1 48 yX6_isWithin cX6_isWithin 3 (some .boolean) 3 := ⟨⟨"BookDroplets", zinb 320 (by decide +kernel)⟩, zin 258 (by decide +kernel), zin 17 (by decide +kernel), by decide +kernel, by decide +kernel, by decide +kernel⟩
theorem ml_X6_177 : zML RX6 177 yX0_receive cX0_receive 6 (some .int) 1 := ⟨zin 321 (by decide +kernel), zin 324 (by decide +kernel), zin 19 (by decide +kernel), by decide +kernel, by decide +kernel, by decide +kernel⟩
theorem ml_X0_54 : zML RX0 54 yX0_knownCount cX0_knownCount 1 (some .int) 0 := ⟨zin 325 (by decide +kernel), zin 328 (by decide +kernel), zin 19 (by decide +kernel), by decide +kernel, by decide +kernel, by decide +kernel⟩
theorem ml_X0_43 : zML RX0 43 yJ6_bitCount_0f7a4 cJ6_bitCount_0f7a4 1 (some .int) 1 := ⟨zin 329 (by decide +kernel), zin 331 (by decide +kernel), zin 26 (by decide +kernel), by decide +kernel, by decide +kernel, by decide +kernel⟩
theorem kc_J6_265 : Cond.constant RJ6 265 1431655765 ∈ zgw := zin 332 (by decide +kernel)
theorem kc_J6_266 : Cond.constant RJ6 266 858993459 ∈ zgw := zin 333 (by decide +kernel)
theorem kc_J6_267 : Cond.constant RJ6 267 252645135 ∈ zgw := zin 334 (by decide +kernel)
theorem ml_X0_64 : zML RX0 64 yX0_learn cX0_learn 4 none 2 := ⟨zin 335 (by decide +kernel), zin 338 (by decide +kernel), zin 19 (by decide +kernel), by decide +kernel, by decide +kernel, by decide +kernel⟩
theorem ml_X0_68 : zML RX0 68 yX0_peel cX0_peel 5 none 0 := ⟨zin 339 (by decide +kernel), zin 342 (by decide +kernel), zin 19 (by decide +kernel), by decide +kernel, by decide +kernel, by decide +kernel⟩
theorem ml_X0_87 : zML RX0 87 yX0_firstPeelable cX0_firstPeelable 2 (some .int) 0 := ⟨zin 343 (by decide +kernel), zin 346 (by decide +kernel), zin 19 (by decide +kernel), by decide +kernel, by decide +kernel, by decide +kernel⟩
theorem ml_X0_83 : zMLN RX0 83 yX6_isWithin cX6_isWithin 3 (some .boolean) 3 := ⟨⟨"BookDroplets", zinb 347 (by decide +kernel)⟩, zin 258 (by decide +kernel), zin 17 (by decide +kernel), by decide +kernel, by decide +kernel, by decide +kernel⟩
theorem ml_X0_90 : zML RX0 90 yX0_removeKept cX0_removeKept 3 none 1 := ⟨zin 348 (by decide +kernel), zin 351 (by decide +kernel), zin 19 (by decide +kernel), by decide +kernel, by decide +kernel, by decide +kernel⟩
theorem ml_X0_71 : zML RX0 71 yX0_keepIfRoom cX0_keepIfRoom 4 (some .boolean) 2 := ⟨zin 352 (by decide +kernel), zin 355 (by decide +kernel), zin 19 (by decide +kernel), by decide +kernel, by decide +kernel, by decide +kernel⟩
theorem ml_L_21 : zML RL 21 yX6_droplet cX6_droplet 3 (some .int) 2 := ⟨zin 356 (by decide +kernel), zin 359 (by decide +kernel), zin 17 (by decide +kernel), by decide +kernel, by decide +kernel, by decide +kernel⟩
theorem ml_L_28 : zML RL 28 yX6_ofCup cX6_ofCup 4 (some .int) 2 := ⟨zin 360 (by decide +kernel), zin 363 (by decide +kernel), zin 17 (by decide +kernel), by decide +kernel, by decide +kernel, by decide +kernel⟩
theorem ml_X6_128 : zML RX6 128 yX6_isFull cX6_isFull 2 (some .boolean) 1 := ⟨zin 364 (by decide +kernel), zin 367 (by decide +kernel), zin 17 (by decide +kernel), by decide +kernel, by decide +kernel, by decide +kernel⟩
theorem ml_X6_241 : zML RX6 241 yX5_allChapters cX5_allChapters 1 (some .int) 0 := ⟨zin 368 (by decide +kernel), zin 371 (by decide +kernel), zin 18 (by decide +kernel), by decide +kernel, by decide +kernel, by decide +kernel⟩
theorem ml_X6_132 : zML RX6 132 yX4_reduce cX4_reduce 5 none 1 := ⟨zin 372 (by decide +kernel), zin 375 (by decide +kernel), zin 23 (by decide +kernel), by decide +kernel, by decide +kernel, by decide +kernel⟩
theorem ml_X6_136 : zML RX6 136 yX0_knownCount cX0_knownCount 1 (some .int) 0 := ⟨zin 377 (by decide +kernel), zin 328 (by decide +kernel), zin 19 (by decide +kernel), by decide +kernel, by decide +kernel, by decide +kernel⟩
theorem ml_X6_139 : zML RX6 139 yX4_singleCount cX4_singleCount 3 (some .int) 0 := ⟨zin 378 (by decide +kernel), zin 381 (by decide +kernel), zin 23 (by decide +kernel), by decide +kernel, by decide +kernel, by decide +kernel⟩
theorem ml_X4_34 : zML RX4 34 yX4_isSingle cX4_isSingle 2 (some .boolean) 1 := ⟨zin 382 (by decide +kernel), zin 385 (by decide +kernel), zin 23 (by decide +kernel), by decide +kernel, by decide +kernel, by decide +kernel⟩
theorem ml_X4_28 : zML RX4 28 yJ6_bitCount_0f7a4 cJ6_bitCount_0f7a4 1 (some .int) 1 := ⟨zin 386 (by decide +kernel), zin 331 (by decide +kernel), zin 26 (by decide +kernel), by decide +kernel, by decide +kernel, by decide +kernel⟩
theorem ml_L_31 : zML RL 31 yX6_known cX6_known 4 (some .int) 2 := ⟨zin 387 (by decide +kernel), zin 390 (by decide +kernel), zin 17 (by decide +kernel), by decide +kernel, by decide +kernel, by decide +kernel⟩
theorem ml_L_10 : zML RL 10 yX6_count cX6_count 2 (some .int) 1 := ⟨zin 391 (by decide +kernel), zin 394 (by decide +kernel), zin 17 (by decide +kernel), by decide +kernel, by decide +kernel, by decide +kernel⟩
theorem ml_X6_155 : zML RX6 155 yX6_fullCups cX6_fullCups 4 (some .int) 0 := ⟨zin 395 (by decide +kernel), zin 398 (by decide +kernel), zin 17 (by decide +kernel), by decide +kernel, by decide +kernel, by decide +kernel⟩
theorem ml_L_86 : zML RL 86 yX6_degrees cX6_degrees 6 (some .int) 3 := ⟨zin 399 (by decide +kernel), zin 402 (by decide +kernel), zin 17 (by decide +kernel), by decide +kernel, by decide +kernel, by decide +kernel⟩
theorem ml_L_66 : zML RL 66 yL_cell cL_cell 2 (some .int) 2 := ⟨zin 403 (by decide +kernel), zin 405 (by decide +kernel), zin 16 (by decide +kernel), by decide +kernel, by decide +kernel, by decide +kernel⟩
theorem kc_L_7 : Cond.constant RL 7 19610011 ∈ zgw := zin 406 (by decide +kernel)
theorem ml_L_48 : zML RL 48 yL_low cL_low 2 (some .int) 2 := ⟨zin 407 (by decide +kernel), zin 409 (by decide +kernel), zin 16 (by decide +kernel), by decide +kernel, by decide +kernel, by decide +kernel⟩
theorem kc_L_8 : Cond.constant RL 8 2147483647 ∈ zgw := zin 410 (by decide +kernel)
theorem ml_L_84 : zML RL 84 yL_droplet cL_droplet 14 (some .boolean) 3 := ⟨zin 411 (by decide +kernel), zin 413 (by decide +kernel), zin 16 (by decide +kernel), by decide +kernel, by decide +kernel, by decide +kernel⟩
theorem ml_L_16 : zML RL 16 yL_draw cL_draw 1 (some .int) 1 := ⟨zin 414 (by decide +kernel), zin 416 (by decide +kernel), zin 16 (by decide +kernel), by decide +kernel, by decide +kernel, by decide +kernel⟩
theorem kc_L_9 : Cond.constant RL 9 65537 ∈ zgw := zin 417 (by decide +kernel)
theorem ml_L_25 : zML RL 25 yL_size cL_size 3 (some .int) 1 := ⟨zin 418 (by decide +kernel), zin 420 (by decide +kernel), zin 16 (by decide +kernel), by decide +kernel, by decide +kernel, by decide +kernel⟩
theorem ml_L_81 : zML RL 81 yL_cup cL_cup 10 (some .boolean) 3 := ⟨zin 421 (by decide +kernel), zin 423 (by decide +kernel), zin 16 (by decide +kernel), by decide +kernel, by decide +kernel, by decide +kernel⟩
theorem ml_L_34 : zML RL 34 yX6_kept cX6_kept 5 (some .int) 3 := ⟨zin 424 (by decide +kernel), zin 427 (by decide +kernel), zin 17 (by decide +kernel), by decide +kernel, by decide +kernel, by decide +kernel⟩
theorem ml_L_77 : zML RL 77 yL_act cL_act 9 (some .boolean) 4 := ⟨zin 428 (by decide +kernel), zin 430 (by decide +kernel), zin 16 (by decide +kernel), by decide +kernel, by decide +kernel, by decide +kernel⟩
theorem ml_L_54 : zML RL 54 yX6_empty cX6_empty 2 (some .int) 1 := ⟨zin 431 (by decide +kernel), zin 434 (by decide +kernel), zin 17 (by decide +kernel), by decide +kernel, by decide +kernel, by decide +kernel⟩
theorem ml_X6_74 : zML RX6 74 yX6_emptyCup cX6_emptyCup 4 (some .int) 1 := ⟨zin 435 (by decide +kernel), zin 438 (by decide +kernel), zin 17 (by decide +kernel), by decide +kernel, by decide +kernel, by decide +kernel⟩
theorem ml_X6_223 : zML RX6 223 yX0_clear cX0_clear 2 none 0 := ⟨zin 439 (by decide +kernel), zin 442 (by decide +kernel), zin 19 (by decide +kernel), by decide +kernel, by decide +kernel, by decide +kernel⟩
theorem ml_L_57 : zML RL 57 yX6_solve cX6_solve 2 (some .int) 1 := ⟨zin 443 (by decide +kernel), zin 446 (by decide +kernel), zin 17 (by decide +kernel), by decide +kernel, by decide +kernel, by decide +kernel⟩
theorem ml_X6_81 : zML RX6 81 yX6_solveCup cX6_solveCup 3 (some .int) 1 := ⟨zin 447 (by decide +kernel), zin 450 (by decide +kernel), zin 17 (by decide +kernel), by decide +kernel, by decide +kernel, by decide +kernel⟩
theorem ml_X6_226 : zML RX6 226 yX0_learnSingles cX0_learnSingles 4 (some .int) 1 := ⟨zin 451 (by decide +kernel), zin 454 (by decide +kernel), zin 19 (by decide +kernel), by decide +kernel, by decide +kernel, by decide +kernel⟩
theorem ml_X0_75 : zML RX0 75 yX4_isSingle cX4_isSingle 2 (some .boolean) 1 := ⟨zin 455 (by decide +kernel), zin 385 (by decide +kernel), zin 23 (by decide +kernel), by decide +kernel, by decide +kernel, by decide +kernel⟩
theorem kc_L_60 : Cond.constant RL 60 65536 ∈ zgw := zin 456 (by decide +kernel)
theorem ml_L_61 : zML RL 61 yL_poured cL_poured 19 (some .boolean) 3 := ⟨zin 457 (by decide +kernel), zin 459 (by decide +kernel), zin 16 (by decide +kernel), by decide +kernel, by decide +kernel, by decide +kernel⟩
theorem ml_L_38 : zML RL 38 yX6_would cX6_would 6 (some .int) 2 := ⟨zin 460 (by decide +kernel), zin 463 (by decide +kernel), zin 17 (by decide +kernel), by decide +kernel, by decide +kernel, by decide +kernel⟩
theorem ml_X6_174 : zML RX6 174 yX0_copyFrom cX0_copyFrom 2 none 1 := ⟨zin 464 (by decide +kernel), zin 250 (by decide +kernel), zin 19 (by decide +kernel), by decide +kernel, by decide +kernel, by decide +kernel⟩
theorem ml_L_41 : zML RL 41 yL_peeled cL_peeled 7 (some .int) 3 := ⟨zin 465 (by decide +kernel), zin 467 (by decide +kernel), zin 16 (by decide +kernel), by decide +kernel, by decide +kernel, by decide +kernel⟩
theorem in_X0_init : Cond.instanceMethod yX0_init ∈ zgw := zin 45 (by decide +kernel)
theorem in_X0_clear : Cond.instanceMethod yX0_clear ∈ zgw := zin 440 (by decide +kernel)
theorem sel_X0_clear : Cond.selects yX0_clear.cls yX0_clear yX0_clear ∈ zgw := zin 441 (by decide +kernel)
theorem in_X0_copyFrom : Cond.instanceMethod yX0_copyFrom ∈ zgw := zin 248 (by decide +kernel)
theorem sel_X0_copyFrom : Cond.selects yX0_copyFrom.cls yX0_copyFrom yX0_copyFrom ∈ zgw := zin 249 (by decide +kernel)
theorem in_X0_knownCount : Cond.instanceMethod yX0_knownCount ∈ zgw := zin 326 (by decide +kernel)
theorem sel_X0_knownCount : Cond.selects yX0_knownCount.cls yX0_knownCount yX0_knownCount ∈ zgw := zin 327 (by decide +kernel)
theorem in_X0_receive : Cond.instanceMethod yX0_receive ∈ zgw := zin 322 (by decide +kernel)
theorem sel_X0_receive : Cond.selects yX0_receive.cls yX0_receive yX0_receive ∈ zgw := zin 323 (by decide +kernel)
theorem in_X0_learnSingles : Cond.instanceMethod yX0_learnSingles ∈ zgw := zin 452 (by decide +kernel)
theorem sel_X0_learnSingles : Cond.selects yX0_learnSingles.cls yX0_learnSingles yX0_learnSingles ∈ zgw := zin 453 (by decide +kernel)
theorem in_X0_keepIfRoom : Cond.instanceMethod yX0_keepIfRoom ∈ zgw := zin 354 (by decide +kernel)
theorem sel_X0_keepIfRoom : Cond.selects yX0_keepIfRoom.cls yX0_keepIfRoom yX0_keepIfRoom ∈ zgw := zin 11 (by decide +kernel)
theorem in_X0_learn : Cond.instanceMethod yX0_learn ∈ zgw := zin 337 (by decide +kernel)
theorem sel_X0_learn : Cond.selects yX0_learn.cls yX0_learn yX0_learn ∈ zgw := zin 7 (by decide +kernel)
theorem in_X0_peel : Cond.instanceMethod yX0_peel ∈ zgw := zin 341 (by decide +kernel)
theorem sel_X0_peel : Cond.selects yX0_peel.cls yX0_peel yX0_peel ∈ zgw := zin 8 (by decide +kernel)
theorem in_X0_firstPeelable : Cond.instanceMethod yX0_firstPeelable ∈ zgw := zin 345 (by decide +kernel)
theorem sel_X0_firstPeelable : Cond.selects yX0_firstPeelable.cls yX0_firstPeelable yX0_firstPeelable ∈ zgw := zin 9 (by decide +kernel)
theorem in_X0_removeKept : Cond.instanceMethod yX0_removeKept ∈ zgw := zin 350 (by decide +kernel)
theorem sel_X0_removeKept : Cond.selects yX0_removeKept.cls yX0_removeKept yX0_removeKept ∈ zgw := zin 10 (by decide +kernel)
theorem in_X1_init : Cond.instanceMethod yX1_init ∈ zgw := zin 163 (by decide +kernel)
theorem in_X1_makeFrom : Cond.instanceMethod yX1_makeFrom ∈ zgw := zin 300 (by decide +kernel)
theorem sel_X1_makeFrom : Cond.selects yX1_makeFrom.cls yX1_makeFrom yX1_makeFrom ∈ zgw := zin 301 (by decide +kernel)
theorem in_X1_addFrom : Cond.instanceMethod yX1_addFrom ∈ zgw := zin 318 (by decide +kernel)
theorem sel_X1_addFrom : Cond.selects yX1_addFrom.cls yX1_addFrom yX1_addFrom ∈ zgw := zin 6 (by decide +kernel)
theorem st_X1_nextDraw : Cond.static yX1_nextDraw ∈ zgw := zin 304 (by decide +kernel)
theorem st_X1_degreeBy : Cond.static yX1_degreeBy ∈ zgw := zin 308 (by decide +kernel)
theorem st_X1_commonDegree : Cond.static yX1_commonDegree ∈ zgw := zin 311 (by decide +kernel)
theorem in_X2_init : Cond.instanceMethod yX2_init ∈ zgw := zin 119 (by decide +kernel)
theorem in_X2_note : Cond.instanceMethod yX2_note ∈ zgw := zin 230 (by decide +kernel)
theorem sel_X2_note : Cond.selects yX2_note.cls yX2_note yX2_note ∈ zgw := zin 231 (by decide +kernel)
theorem in_X2_keepUnlessError : Cond.instanceMethod yX2_keepUnlessError ∈ zgw := zin 260 (by decide +kernel)
theorem sel_X2_keepUnlessError : Cond.selects yX2_keepUnlessError.cls yX2_keepUnlessError yX2_keepUnlessError ∈ zgw := zin 261 (by decide +kernel)
theorem in_X2_placeBehindLast : Cond.instanceMethod yX2_placeBehindLast ∈ zgw := zin 235 (by decide +kernel)
theorem sel_X2_placeBehindLast : Cond.selects yX2_placeBehindLast.cls yX2_placeBehindLast yX2_placeBehindLast ∈ zgw := zin 0 (by decide +kernel)
theorem in_X3_init : Cond.instanceMethod yX3_init ∈ zgw := zin 139 (by decide +kernel)
theorem in_X4_init : Cond.instanceMethod yX4_init ∈ zgw := zin 191 (by decide +kernel)
theorem in_X4_reduce : Cond.instanceMethod yX4_reduce ∈ zgw := zin 373 (by decide +kernel)
theorem sel_X4_reduce : Cond.selects yX4_reduce.cls yX4_reduce yX4_reduce ∈ zgw := zin 374 (by decide +kernel)
theorem in_X4_isSingle : Cond.instanceMethod yX4_isSingle ∈ zgw := zin 383 (by decide +kernel)
theorem sel_X4_isSingle : Cond.selects yX4_isSingle.cls yX4_isSingle yX4_isSingle ∈ zgw := zin 384 (by decide +kernel)
theorem in_X4_singleCount : Cond.instanceMethod yX4_singleCount ∈ zgw := zin 379 (by decide +kernel)
theorem sel_X4_singleCount : Cond.selects yX4_singleCount.cls yX4_singleCount yX4_singleCount ∈ zgw := zin 380 (by decide +kernel)
theorem in_X5_init : Cond.instanceMethod yX5_init ∈ zgw := zin 38 (by decide +kernel)
theorem in_X5_cupAt : Cond.instanceMethod yX5_cupAt ∈ zgw := zin 289 (by decide +kernel)
theorem sel_X5_cupAt : Cond.selects yX5_cupAt.cls yX5_cupAt yX5_cupAt ∈ zgw := zin 290 (by decide +kernel)
theorem in_X5_allChapters : Cond.instanceMethod yX5_allChapters ∈ zgw := zin 369 (by decide +kernel)
theorem sel_X5_allChapters : Cond.selects yX5_allChapters.cls yX5_allChapters yX5_allChapters ∈ zgw := zin 370 (by decide +kernel)
theorem in_X5_copyFrom : Cond.instanceMethod yX5_copyFrom ∈ zgw := zin 241 (by decide +kernel)
theorem sel_X5_copyFrom : Cond.selects yX5_copyFrom.cls yX5_copyFrom yX5_copyFrom ∈ zgw := zin 242 (by decide +kernel)
theorem in_X6_init : Cond.instanceMethod yX6_init ∈ zgw := zin 30 (by decide +kernel)
theorem in_X6_set : Cond.instanceMethod yX6_set ∈ zgw := zin 226 (by decide +kernel)
theorem sel_X6_set : Cond.selects yX6_set.cls yX6_set yX6_set ∈ zgw := zin 227 (by decide +kernel)
theorem in_X6_chapter : Cond.instanceMethod yX6_chapter ∈ zgw := zin 264 (by decide +kernel)
theorem sel_X6_chapter : Cond.selects yX6_chapter.cls yX6_chapter yX6_chapter ∈ zgw := zin 265 (by decide +kernel)
theorem in_X6_cup : Cond.instanceMethod yX6_cup ∈ zgw := zin 273 (by decide +kernel)
theorem sel_X6_cup : Cond.selects yX6_cup.cls yX6_cup yX6_cup ∈ zgw := zin 274 (by decide +kernel)
theorem in_X6_empty : Cond.instanceMethod yX6_empty ∈ zgw := zin 432 (by decide +kernel)
theorem sel_X6_empty : Cond.selects yX6_empty.cls yX6_empty yX6_empty ∈ zgw := zin 433 (by decide +kernel)
theorem in_X6_pour : Cond.instanceMethod yX6_pour ∈ zgw := zin 281 (by decide +kernel)
theorem sel_X6_pour : Cond.selects yX6_pour.cls yX6_pour yX6_pour ∈ zgw := zin 282 (by decide +kernel)
theorem in_X6_solve : Cond.instanceMethod yX6_solve ∈ zgw := zin 444 (by decide +kernel)
theorem sel_X6_solve : Cond.selects yX6_solve.cls yX6_solve yX6_solve ∈ zgw := zin 445 (by decide +kernel)
theorem in_X6_droplet : Cond.instanceMethod yX6_droplet ∈ zgw := zin 357 (by decide +kernel)
theorem sel_X6_droplet : Cond.selects yX6_droplet.cls yX6_droplet yX6_droplet ∈ zgw := zin 358 (by decide +kernel)
theorem in_X6_ofCup : Cond.instanceMethod yX6_ofCup ∈ zgw := zin 361 (by decide +kernel)
theorem sel_X6_ofCup : Cond.selects yX6_ofCup.cls yX6_ofCup yX6_ofCup ∈ zgw := zin 362 (by decide +kernel)
theorem in_X6_known : Cond.instanceMethod yX6_known ∈ zgw := zin 388 (by decide +kernel)
theorem sel_X6_known : Cond.selects yX6_known.cls yX6_known yX6_known ∈ zgw := zin 389 (by decide +kernel)
theorem in_X6_kept : Cond.instanceMethod yX6_kept ∈ zgw := zin 425 (by decide +kernel)
theorem sel_X6_kept : Cond.selects yX6_kept.cls yX6_kept yX6_kept ∈ zgw := zin 426 (by decide +kernel)
theorem in_X6_count : Cond.instanceMethod yX6_count ∈ zgw := zin 392 (by decide +kernel)
theorem sel_X6_count : Cond.selects yX6_count.cls yX6_count yX6_count ∈ zgw := zin 393 (by decide +kernel)
theorem in_X6_would : Cond.instanceMethod yX6_would ∈ zgw := zin 461 (by decide +kernel)
theorem sel_X6_would : Cond.selects yX6_would.cls yX6_would yX6_would ∈ zgw := zin 462 (by decide +kernel)
theorem in_X6_degrees : Cond.instanceMethod yX6_degrees ∈ zgw := zin 400 (by decide +kernel)
theorem sel_X6_degrees : Cond.selects yX6_degrees.cls yX6_degrees yX6_degrees ∈ zgw := zin 401 (by decide +kernel)
theorem in_X6_changeSetting : Cond.instanceMethod yX6_changeSetting ∈ zgw := zin 254 (by decide +kernel)
theorem sel_X6_changeSetting : Cond.selects yX6_changeSetting.cls yX6_changeSetting yX6_changeSetting ∈ zgw := zin 1 (by decide +kernel)
theorem in_X6_addChapter : Cond.instanceMethod yX6_addChapter ∈ zgw := zin 269 (by decide +kernel)
theorem sel_X6_addChapter : Cond.selects yX6_addChapter.cls yX6_addChapter yX6_addChapter ∈ zgw := zin 2 (by decide +kernel)
theorem in_X6_addCup : Cond.instanceMethod yX6_addCup ∈ zgw := zin 278 (by decide +kernel)
theorem sel_X6_addCup : Cond.selects yX6_addCup.cls yX6_addCup yX6_addCup ∈ zgw := zin 3 (by decide +kernel)
theorem in_X6_emptyCup : Cond.instanceMethod yX6_emptyCup ∈ zgw := zin 437 (by decide +kernel)
theorem sel_X6_emptyCup : Cond.selects yX6_emptyCup.cls yX6_emptyCup yX6_emptyCup ∈ zgw := zin 14 (by decide +kernel)
theorem in_X6_pourDroplets : Cond.instanceMethod yX6_pourDroplets ∈ zgw := zin 286 (by decide +kernel)
theorem sel_X6_pourDroplets : Cond.selects yX6_pourDroplets.cls yX6_pourDroplets yX6_pourDroplets ∈ zgw := zin 4 (by decide +kernel)
theorem in_X6_solveCup : Cond.instanceMethod yX6_solveCup ∈ zgw := zin 449 (by decide +kernel)
theorem sel_X6_solveCup : Cond.selects yX6_solveCup.cls yX6_solveCup yX6_solveCup ∈ zgw := zin 15 (by decide +kernel)
theorem in_X6_errorOfDroplets : Cond.instanceMethod yX6_errorOfDroplets ∈ zgw := zin 294 (by decide +kernel)
theorem sel_X6_errorOfDroplets : Cond.selects yX6_errorOfDroplets.cls yX6_errorOfDroplets yX6_errorOfDroplets ∈ zgw := zin 5 (by decide +kernel)
theorem in_X6_isFull : Cond.instanceMethod yX6_isFull ∈ zgw := zin 366 (by decide +kernel)
theorem sel_X6_isFull : Cond.selects yX6_isFull.cls yX6_isFull yX6_isFull ∈ zgw := zin 12 (by decide +kernel)
theorem in_X6_fullCups : Cond.instanceMethod yX6_fullCups ∈ zgw := zin 397 (by decide +kernel)
theorem sel_X6_fullCups : Cond.selects yX6_fullCups.cls yX6_fullCups yX6_fullCups ∈ zgw := zin 13 (by decide +kernel)
theorem st_X6_isWithin : Cond.static yX6_isWithin ∈ zgw := zin 257 (by decide +kernel)
theorem st_X6_wrappedSeed : Cond.static yX6_wrappedSeed ∈ zgw := zin 297 (by decide +kernel)
theorem st_J6_bitCount_0f7a4 : Cond.static yJ6_bitCount_0f7a4 ∈ zgw := zin 330 (by decide +kernel)
theorem st_J9_floorMod_7cf53 : Cond.static yJ9_floorMod_7cf53 ∈ zgw := zin 238 (by decide +kernel)
theorem st_J9_min_7cf53 : Cond.static yJ9_min_7cf53 ∈ zgw := zin 314 (by decide +kernel)
theorem st_L_cell : Cond.static yL_cell ∈ zgw := zin 404 (by decide +kernel)
theorem st_L_low : Cond.static yL_low ∈ zgw := zin 408 (by decide +kernel)
theorem st_L_size : Cond.static yL_size ∈ zgw := zin 419 (by decide +kernel)
theorem st_L_draw : Cond.static yL_draw ∈ zgw := zin 415 (by decide +kernel)
theorem st_L_droplet : Cond.static yL_droplet ∈ zgw := zin 412 (by decide +kernel)
theorem st_L_cup : Cond.static yL_cup ∈ zgw := zin 422 (by decide +kernel)
theorem st_L_peeled : Cond.static yL_peeled ∈ zgw := zin 466 (by decide +kernel)
theorem st_L_poured : Cond.static yL_poured ∈ zgw := zin 458 (by decide +kernel)
theorem st_L_act : Cond.static yL_act ∈ zgw := zin 429 (by decide +kernel)
theorem zac_int : Cond.arrayClass (zty 0) ∈ zgw := zin 83 (by decide +kernel)
theorem zac_char : Cond.arrayClass (zty 1) ∈ zgw := zin 159 (by decide +kernel)
theorem zao_X5 : Cond.arrayOver (.object RX5) ∈ zbw := zinb 123 (by decide +kernel)
theorem zao_X0 : Cond.arrayOver (.object RX0) ∈ zbw := zinb 42 (by decide +kernel)
theorem ini_X0 : Cond.initialized RX0 ∈ zgw := zin 19 (by decide +kernel)
theorem inst_X0 : Cond.instantiable RX0 8 ∈ zgw := zin 43 (by decide +kernel)
theorem ini_X1 : Cond.initialized RX1 ∈ zgw := zin 22 (by decide +kernel)
theorem inst_X1 : Cond.instantiable RX1 4 ∈ zgw := zin 161 (by decide +kernel)
theorem ini_X2 : Cond.initialized RX2 ∈ zgw := zin 20 (by decide +kernel)
theorem inst_X2 : Cond.instantiable RX2 3 ∈ zgw := zin 117 (by decide +kernel)
theorem ini_X3 : Cond.initialized RX3 ∈ zgw := zin 21 (by decide +kernel)
theorem inst_X3 : Cond.instantiable RX3 7 ∈ zgw := zin 137 (by decide +kernel)
theorem ini_X4 : Cond.initialized RX4 ∈ zgw := zin 23 (by decide +kernel)
theorem inst_X4 : Cond.instantiable RX4 2 ∈ zgw := zin 189 (by decide +kernel)
theorem ini_X5 : Cond.initialized RX5 ∈ zgw := zin 18 (by decide +kernel)
theorem inst_X5 : Cond.instantiable RX5 7 ∈ zgw := zin 36 (by decide +kernel)
theorem ini_X6 : Cond.initialized RX6 ∈ zgw := zin 17 (by decide +kernel)
theorem inst_X6 : Cond.instantiable RX6 7 ∈ zgw := zin 28 (by decide +kernel)
theorem zini_sys : Cond.initialized "java/lang/System" ∈ zgw := zin 25 (by decide +kernel)
theorem znat_copy : Cond.native arraycopyName ∈ zgw := zin 246 (by decide +kernel)
theorem zst_copy : Cond.static arraycopyName ∈ zgw := zin 245 (by decide +kernel)
theorem zobj_in : Cond.instanceMethod Lib.objectInit ∈ zgw := zin 33 (by decide +kernel)
theorem zobj_code : Cond.code Lib.objectInit ⟨#[0xb1]⟩ 1 none ∈ zgw := zin 34 (by decide +kernel)
theorem ol_X6_1 : Cond.methodLink RX6 1 Lib.objectInit ∈ zgw := zin 32 (by decide +kernel)
theorem ol_X5_3 : Cond.methodLink RX5 3 Lib.objectInit ∈ zgw := zin 40 (by decide +kernel)
theorem ol_X0_3 : Cond.methodLink RX0 3 Lib.objectInit ∈ zgw := zin 47 (by decide +kernel)
theorem ol_X2_3 : Cond.methodLink RX2 3 Lib.objectInit ∈ zgw := zin 121 (by decide +kernel)
theorem ol_X3_3 : Cond.methodLink RX3 3 Lib.objectInit ∈ zgw := zin 141 (by decide +kernel)
theorem ol_X1_3 : Cond.methodLink RX1 3 Lib.objectInit ∈ zgw := zin 165 (by decide +kernel)
theorem ol_X4_3 : Cond.methodLink RX4 3 Lib.objectInit ∈ zgw := zin 193 (by decide +kernel)
theorem cl_X5_38 : Cond.methodLink RX5 38 arraycopyName ∈ zgw := zin 244 (by decide +kernel)
theorem cl_X0_37 : Cond.methodLink RX0 37 arraycopyName ∈ zgw := zin 251 (by decide +kernel)
theorem cl_X4_21 : Cond.methodLink RX4 21 arraycopyName ∈ zgw := zin 376 (by decide +kernel)
