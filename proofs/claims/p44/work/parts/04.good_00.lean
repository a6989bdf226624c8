set_option maxRecDepth 20000 in
theorem gX0_sizeTold_J6_bitCount_0f7a4 : GoodIn wsX0_sizeTold (va_wsS RX0 57 yJ6_bitCount_0f7a4 wsJ6_bitCount_0f7a4) := goodIn_r _ [12, 13, 14, 15, 16, 17, 18] rfl (by decide +kernel)
set_option maxRecDepth 20000 in
theorem gX0_aliveByLaw_X7_laterTurn_n72 : GoodIn wsX0_aliveByLaw (wsX7_laterTurn) := goodIn_r _ [5] rfl (by decide +kernel)
set_option maxRecDepth 20000 in
theorem gX0_goesLike_X0_next : GoodIn wsX0_goesLike (wsV RX0 76 RX0 yX0_next wsX0_next) := goodIn_r _ [3, 4, 5, 6, 7, 2, 8, 9, 10, 11, 12, 13, 14, 15, 16, 17, 18, 19, 20, 21, 22, 23, 24] rfl (by decide +kernel)
set_option maxRecDepth 20000 in
theorem gX0_pass_X0_stepsIn : GoodIn wsX0_pass (wsV RX0 87 RX0 yX0_stepsIn wsX0_stepsIn) := goodIn_r _ [7, 8, 9, 10, 11, 12, 13, 14, 15, 16, 76, 77, 78, 79, 80, 81, 82, 83, 84, 85, 86, 87, 88, 89, 90] rfl (by decide +kernel)
set_option maxRecDepth 20000 in
theorem gX0_pass_X0_step : GoodIn wsX0_pass (wsV RX0 91 RX0 yX0_step wsX0_step) := goodIn_r _ [17, 18, 19, 10, 20, 3, 4, 21, 22, 23, 24, 25, 26, 27, 28, 29, 30, 15, 31, 32, 33, 34, 10, 35, 36, 37, 38, 39, 40, 41, 42, 43, 44, 45, 46, 47, 48, 69, 70, 71, 72, 73, 74, 75, 76, 77, 78, 79, 80, 81, 82, 83, 84, 85, 86, 87, 88, 89, 90, 91, 92, 93, 94] rfl (by decide +kernel)
set_option maxRecDepth 20000 in
theorem gX0_pass_X0_partSaid : GoodIn wsX0_pass (wsV RX0 95 RX0 yX0_partSaid wsX0_partSaid) := goodIn_r _ [49, 50, 51, 10, 52, 12, 13, 14, 15, 16, 76, 77, 78, 79, 80, 81, 82, 83, 84, 85, 86, 87, 88, 89, 90] rfl (by decide +kernel)
set_option maxRecDepth 20000 in
theorem gX0_pass_X6_placesIn : GoodIn wsX0_pass (wsV RX0 105 RX6 yX6_placesIn wsX6_placesIn) := goodIn_r _ [36, 37, 38, 39, 40, 41, 42, 43, 44, 45, 39, 46, 47, 48, 91, 92, 93, 94] rfl (by decide +kernel)
set_option maxRecDepth 20000 in
theorem gX0_pass_X0_isHeardAt : GoodIn wsX0_pass (va_wsS RX0 108 yX0_isHeardAt wsX0_isHeardAt) := goodIn_r _ [53, 54, 10, 55] rfl (by decide +kernel)
set_option maxRecDepth 20000 in
theorem gX0_pass_X0_next : GoodIn wsX0_pass (wsV RX0 76 RX0 yX0_next wsX0_next) := goodIn_r _ [56, 57, 58, 10, 59, 60, 61, 62, 76, 77, 78, 79, 80, 81, 82, 83, 84, 85, 86, 87, 88, 89, 90] rfl (by decide +kernel)
set_option maxRecDepth 20000 in
theorem gX0_pass_X5_startTurn : GoodIn wsX0_pass (wsV RX0 114 RX5 yX5_startTurn wsX5_startTurn) := goodIn_r _ [63, 64, 65, 27, 66, 67, 68, 69, 70, 71, 72, 73, 74, 75] rfl (by decide +kernel)
set_option maxRecDepth 20000 in
theorem gX0_stepsIn_X7_within_n118 : GoodIn wsX0_stepsIn (wsX7_within) := goodIn_r _ [5] rfl (by decide +kernel)
set_option maxRecDepth 20000 in
theorem gX0_step_X5_isGone : GoodIn wsX0_step (wsV RX0 122 RX5 yX5_isGone wsX5_isGone) := goodIn_r _ [6, 7, 8, 9, 10, 11, 12, 13, 14, 33, 34, 35, 36, 37, 38, 39] rfl (by decide +kernel)
set_option maxRecDepth 20000 in
theorem gX0_step_X0_nearer : GoodIn wsX0_step (wsV RX0 126 RX0 yX0_nearer wsX0_nearer) := goodIn_r _ [15, 16, 17, 18, 19, 4, 40, 41, 42, 43, 44, 45, 46, 47, 48, 49, 50, 51, 52, 53, 54] rfl (by decide +kernel)
set_option maxRecDepth 20000 in
theorem gX0_step_X6_placesIn : GoodIn wsX0_step (wsV RX0 105 RX6 yX6_placesIn wsX6_placesIn) := goodIn_r _ [20, 21, 22, 23, 24, 25, 26, 27, 28, 29, 23, 30, 31, 32, 55, 56, 57, 58] rfl (by decide +kernel)
set_option maxRecDepth 20000 in
theorem gX0_step_X7_hasBit_n129 : GoodIn wsX0_step (wsX7_hasBit) := goodIn_r _ [14] rfl (by decide +kernel)
set_option maxRecDepth 20000 in
theorem gX0_partSaid_X7_within_n118 : GoodIn wsX0_partSaid (wsX7_within) := goodIn_r _ [5] rfl (by decide +kernel)
set_option maxRecDepth 20000 in
theorem gX1_keep_X5_copyFrom : GoodIn wsX1_keep (wsV RX1 31 RX5 yX5_copyFrom wsX5_copyFrom) := goodIn_r _ [8, 9, 10, 11, 12, 13, 14, 15, 16, 17, 18, 19, 25, 26, 27, 28, 29, 30, 31] rfl (by decide +kernel)
set_option maxRecDepth 20000 in
theorem gX1_takeLatest_X5_copyFrom : GoodIn wsX1_takeLatest (wsV RX1 31 RX5 yX5_copyFrom wsX5_copyFrom) := goodIn_r _ [4, 5, 6, 7, 8, 9, 10, 11, 12, 13, 14, 15, 21, 22, 23, 24, 25, 26, 27] rfl (by decide +kernel)
set_option maxRecDepth 20000 in
theorem gX1_addImage_X5_copyFrom : GoodIn wsX1_addImage (wsV RX1 31 RX5 yX5_copyFrom wsX5_copyFrom) := goodIn_r _ [3, 4, 5, 6, 7, 8, 9, 10, 11, 12, 13, 14, 20, 21, 22, 23, 24, 25, 26] rfl (by decide +kernel)
set_option maxRecDepth 20000 in
theorem gX1_goBack_X7_within_n41 : GoodIn wsX1_goBack (wsX7_within) := goodIn_r _ [6] rfl (by decide +kernel)
set_option maxRecDepth 20000 in
theorem gX1_goBack_X5_copyFrom : GoodIn wsX1_goBack (wsV RX1 31 RX5 yX5_copyFrom wsX5_copyFrom) := goodIn_r _ [7, 8, 9, 10, 11, 12, 13, 14, 15, 16, 17, 18, 24, 25, 26, 27, 28, 29, 30] rfl (by decide +kernel)
set_option maxRecDepth 20000 in
theorem gX2_list_X2_addIfFit : GoodIn wsX2_list (wsV RX2 34 RX2 yX2_addIfFit wsX2_addIfFit) := goodIn_r _ [4, 5, 6, 7, 8, 9, 10, 11, 2, 12, 13, 14, 15, 16, 17, 18, 19, 20, 21, 22, 30, 31, 32, 33, 34, 35, 36, 37, 38, 39, 40, 41, 42, 43, 44, 23, 24, 25, 26, 27, 28, 29] rfl (by decide +kernel)
set_option maxRecDepth 20000 in
theorem gX2_addIfFit_X0_aliveByLaw : GoodIn wsX2_addIfFit (wsV RX2 44 RX0 yX0_aliveByLaw wsX0_aliveByLaw) := goodIn_r _ [6, 7, 8, 9, 10, 11, 12, 13, 14, 15, 16, 17, 18, 19, 20, 21, 22, 23, 24, 25, 26, 27, 28, 29, 30] rfl (by decide +kernel)
set_option maxRecDepth 20000 in
theorem gX2_chooseLook_X2_list : GoodIn wsX2_chooseLook (wsV RX2 51 RX2 yX2_list wsX2_list) := goodIn_r _ [7, 8, 9, 10, 11, 12, 4, 6, 13, 14, 15, 10, 16, 17, 18, 19, 20, 21, 22, 23, 24, 25, 26, 27, 28, 29, 30, 44, 45, 46, 47, 48, 49, 50, 51, 52, 53, 54, 55, 56, 57, 58, 59, 60, 61, 62, 63, 64, 65] rfl (by decide +kernel)
set_option maxRecDepth 20000 in
theorem gX2_chooseLook_X2_tally : GoodIn wsX2_chooseLook (wsV RX2 64 RX2 yX2_tally wsX2_tally) := goodIn_r _ [31, 32, 33, 10, 34, 35, 4, 20, 44, 45, 46, 47, 48, 49, 50] rfl (by decide +kernel)
set_option maxRecDepth 20000 in
theorem gX2_chooseLook_X2_mostOf : GoodIn wsX2_chooseLook (wsV RX2 68 RX2 yX2_mostOf wsX2_mostOf) := goodIn_r _ [36, 37, 38, 10, 39, 35, 40, 41, 42, 43, 44, 45, 46, 47, 48, 49, 50] rfl (by decide +kernel)
set_option maxRecDepth 20000 in
theorem gX3_advance_X3_scanWord : GoodIn wsX3_advance (wsV RX3 75 RX3 yX3_scanWord wsX3_scanWord) := goodIn_r _ [6, 7, 8, 9, 10, 11, 1, 2, 3, 4, 5, 17, 18, 19, 20, 21, 22, 23, 24, 25, 26, 27, 28, 29, 30] rfl (by decide +kernel)
set_option maxRecDepth 20000 in
theorem gX3_advance_X3_scanWhole : GoodIn wsX3_advance (wsV RX3 78 RX3 yX3_scanWhole wsX3_scanWhole) := goodIn_r _ [12, 13, 14, 9, 15, 16, 1, 2, 3, 4, 5, 17, 18, 19, 20, 21, 22, 23, 24, 25, 26, 27, 28, 29, 30] rfl (by decide +kernel)
set_option maxRecDepth 20000 in
theorem gX3_isWholeWithin_X3_fails : GoodIn wsX3_isWholeWithin (wsV RX3 64 RX3 yX3_fails wsX3_fails) := goodIn_r _ [3, 4, 5, 6, 7, 8, 9, 10, 14, 15, 16, 17, 18, 19, 20, 21, 22, 23, 24, 25, 26, 27] rfl (by decide +kernel)
set_option maxRecDepth 20000 in
theorem gX3_isWholeWithin_X7_within_n223 : GoodIn wsX3_isWholeWithin (wsX7_within) := goodIn_r _ [13] rfl (by decide +kernel)
