set_option maxRecDepth 20000 in
theorem ggX0_init_X6_init : GoodIn wsX0_init wsX6_init := goodIn_r _ [15, 16, 2, 3, 4, 17, 18, 34, 35, 36, 37] (by decide +kernel) (by decide +kernel)
set_option maxRecDepth 20000 in
theorem gX0_init_X6_init : GoodIn wsX0_init (wsX6_init) := ggX0_init_X6_init
set_option maxRecDepth 20000 in
theorem ggX0_sizeTold_J6_bitCount_0f7a4 : GoodIn wsX0_sizeTold wsJ6_bitCount_0f7a4 := goodIn_r _ [15, 16, 17, 18] (by decide +kernel) (by decide +kernel)
set_option maxRecDepth 20000 in
theorem gX0_sizeTold_J6_bitCount_0f7a4 : GoodIn wsX0_sizeTold (va_wsS RX0 57 yJ6_bitCount_0f7a4 wsJ6_bitCount_0f7a4) := goodIn_app (goodIn_of _ (by decide +kernel)) ggX0_sizeTold_J6_bitCount_0f7a4
set_option maxRecDepth 20000 in
theorem ggX0_aliveByLaw_X7_laterTurn : GoodIn wsX0_aliveByLaw wsX7_laterTurn := goodIn_r _ [5] (by decide +kernel) (by decide +kernel)
set_option maxRecDepth 20000 in
theorem gX0_aliveByLaw_X7_laterTurn_n72 : GoodIn wsX0_aliveByLaw (wsX7_laterTurn) := ggX0_aliveByLaw_X7_laterTurn
set_option maxRecDepth 20000 in
theorem ggX0_goesLike_X0_next : GoodIn wsX0_goesLike wsX0_next := goodIn_r _ [7, 2, 8, 9, 10, 11, 12, 13, 14, 15, 16, 17, 18, 19, 20, 21, 22, 23, 24] (by decide +kernel) (by decide +kernel)
set_option maxRecDepth 20000 in
theorem gX0_goesLike_X0_next : GoodIn wsX0_goesLike (wsV RX0 76 RX0 yX0_next wsX0_next) := goodIn_app (goodIn_of _ (by decide +kernel)) ggX0_goesLike_X0_next
set_option maxRecDepth 20000 in
theorem ggX0_pass_X0_stepsIn : GoodIn wsX0_pass wsX0_stepsIn := goodIn_r _ [11, 12, 13, 14, 15, 16, 76, 77, 78, 79, 80, 81, 82, 83, 84, 85, 86, 87, 88, 89, 90] (by decide +kernel) (by decide +kernel)
set_option maxRecDepth 20000 in
theorem gX0_pass_X0_stepsIn : GoodIn wsX0_pass (wsV RX0 87 RX0 yX0_stepsIn wsX0_stepsIn) := goodIn_app (goodIn_of _ (by decide +kernel)) ggX0_pass_X0_stepsIn
set_option maxRecDepth 20000 in
theorem ggX0_pass_X0_step : GoodIn wsX0_pass wsX0_step := goodIn_r _ [20, 3, 4, 21, 22, 23, 24, 25, 26, 27, 28, 29, 30, 15, 31, 32, 33, 34, 10, 35, 36, 37, 38, 39, 40, 41, 42, 43, 44, 45, 46, 47, 48, 69, 70, 71, 72, 73, 74, 75, 76, 77, 78, 79, 80, 81, 82, 83, 84, 85, 86, 87, 88, 89, 90, 91, 92, 93, 94] (by decide +kernel) (by decide +kernel)
set_option maxRecDepth 20000 in
theorem gX0_pass_X0_step : GoodIn wsX0_pass (wsV RX0 91 RX0 yX0_step wsX0_step) := goodIn_app (goodIn_of _ (by decide +kernel)) ggX0_pass_X0_step
set_option maxRecDepth 20000 in
theorem ggX0_pass_X0_partSaid : GoodIn wsX0_pass wsX0_partSaid := goodIn_r _ [52, 12, 13, 14, 15, 16, 76, 77, 78, 79, 80, 81, 82, 83, 84, 85, 86, 87, 88, 89, 90] (by decide +kernel) (by decide +kernel)
set_option maxRecDepth 20000 in
theorem gX0_pass_X0_partSaid : GoodIn wsX0_pass (wsV RX0 95 RX0 yX0_partSaid wsX0_partSaid) := goodIn_app (goodIn_of _ (by decide +kernel)) ggX0_pass_X0_partSaid
set_option maxRecDepth 20000 in
theorem ggX0_pass_X6_placesIn : GoodIn wsX0_pass wsX6_placesIn := goodIn_r _ [40, 41, 42, 43, 44, 45, 39, 46, 47, 48, 91, 92, 93, 94] (by decide +kernel) (by decide +kernel)
set_option maxRecDepth 20000 in
theorem gX0_pass_X6_placesIn : GoodIn wsX0_pass (wsV RX0 105 RX6 yX6_placesIn wsX6_placesIn) := goodIn_app (goodIn_of _ (by decide +kernel)) ggX0_pass_X6_placesIn
set_option maxRecDepth 20000 in
theorem ggX0_pass_X0_isHeardAt : GoodIn wsX0_pass wsX0_isHeardAt := goodIn_r _ [55] (by decide +kernel) (by decide +kernel)
set_option maxRecDepth 20000 in
theorem gX0_pass_X0_isHeardAt : GoodIn wsX0_pass (va_wsS RX0 108 yX0_isHeardAt wsX0_isHeardAt) := goodIn_app (goodIn_of _ (by decide +kernel)) ggX0_pass_X0_isHeardAt
set_option maxRecDepth 20000 in
theorem ggX0_pass_X0_next : GoodIn wsX0_pass wsX0_next := goodIn_r _ [59, 60, 61, 62, 76, 77, 78, 79, 80, 81, 82, 83, 84, 85, 86, 87, 88, 89, 90] (by decide +kernel) (by decide +kernel)
set_option maxRecDepth 20000 in
theorem gX0_pass_X0_next : GoodIn wsX0_pass (wsV RX0 76 RX0 yX0_next wsX0_next) := goodIn_app (goodIn_of _ (by decide +kernel)) ggX0_pass_X0_next
set_option maxRecDepth 20000 in
theorem ggX0_pass_X5_startTurn : GoodIn wsX0_pass wsX5_startTurn := goodIn_r _ [66, 67, 68, 69, 70, 71, 72, 73, 74, 75] (by decide +kernel) (by decide +kernel)
set_option maxRecDepth 20000 in
theorem gX0_pass_X5_startTurn : GoodIn wsX0_pass (wsV RX0 114 RX5 yX5_startTurn wsX5_startTurn) := goodIn_app (goodIn_of _ (by decide +kernel)) ggX0_pass_X5_startTurn
set_option maxRecDepth 20000 in
theorem ggX0_stepsIn_X7_within : GoodIn wsX0_stepsIn wsX7_within := goodIn_r _ [5] (by decide +kernel) (by decide +kernel)
set_option maxRecDepth 20000 in
theorem gX0_stepsIn_X7_within_n118 : GoodIn wsX0_stepsIn (wsX7_within) := ggX0_stepsIn_X7_within
set_option maxRecDepth 20000 in
theorem ggX0_step_X5_isGone : GoodIn wsX0_step wsX5_isGone := goodIn_r _ [10, 11, 12, 13, 14, 33, 34, 35, 36, 37, 38, 39] (by decide +kernel) (by decide +kernel)
set_option maxRecDepth 20000 in
theorem gX0_step_X5_isGone : GoodIn wsX0_step (wsV RX0 122 RX5 yX5_isGone wsX5_isGone) := goodIn_app (goodIn_of _ (by decide +kernel)) ggX0_step_X5_isGone
set_option maxRecDepth 20000 in
theorem ggX0_step_X0_nearer : GoodIn wsX0_step wsX0_nearer := goodIn_r _ [19, 4, 40, 41, 42, 43, 44, 45, 46, 47, 48, 49, 50, 51, 52, 53, 54] (by decide +kernel) (by decide +kernel)
set_option maxRecDepth 20000 in
theorem gX0_step_X0_nearer : GoodIn wsX0_step (wsV RX0 126 RX0 yX0_nearer wsX0_nearer) := goodIn_app (goodIn_of _ (by decide +kernel)) ggX0_step_X0_nearer
set_option maxRecDepth 20000 in
theorem ggX0_step_X6_placesIn : GoodIn wsX0_step wsX6_placesIn := goodIn_r _ [24, 25, 26, 27, 28, 29, 23, 30, 31, 32, 55, 56, 57, 58] (by decide +kernel) (by decide +kernel)
set_option maxRecDepth 20000 in
theorem gX0_step_X6_placesIn : GoodIn wsX0_step (wsV RX0 105 RX6 yX6_placesIn wsX6_placesIn) := goodIn_app (goodIn_of _ (by decide +kernel)) ggX0_step_X6_placesIn
set_option maxRecDepth 20000 in
theorem ggX0_step_X7_hasBit : GoodIn wsX0_step wsX7_hasBit := goodIn_r _ [14] (by decide +kernel) (by decide +kernel)
set_option maxRecDepth 20000 in
theorem gX0_step_X7_hasBit_n129 : GoodIn wsX0_step (wsX7_hasBit) := ggX0_step_X7_hasBit
set_option maxRecDepth 20000 in
theorem ggX0_partSaid_X7_within : GoodIn wsX0_partSaid wsX7_within := goodIn_r _ [5] (by decide +kernel) (by decide +kernel)
set_option maxRecDepth 20000 in
theorem gX0_partSaid_X7_within_n118 : GoodIn wsX0_partSaid (wsX7_within) := ggX0_partSaid_X7_within
set_option maxRecDepth 20000 in
theorem ggX1_init_X5_init : GoodIn wsX1_init wsX5_init := goodIn_r _ [11, 12, 2, 3, 13, 14, 15, 21, 22, 23, 24, 25, 26, 27] (by decide +kernel) (by decide +kernel)
set_option maxRecDepth 20000 in
theorem gX1_init_X5_init : GoodIn wsX1_init (wsX5_init) := ggX1_init_X5_init
set_option maxRecDepth 20000 in
theorem ggX1_keep_X5_copyFrom : GoodIn wsX1_keep wsX5_copyFrom := goodIn_r _ [12, 13, 14, 15, 16, 17, 18, 19, 25, 26, 27, 28, 29, 30, 31] (by decide +kernel) (by decide +kernel)
set_option maxRecDepth 20000 in
theorem gX1_keep_X5_copyFrom : GoodIn wsX1_keep (wsV RX1 31 RX5 yX5_copyFrom wsX5_copyFrom) := goodIn_app (goodIn_of _ (by decide +kernel)) ggX1_keep_X5_copyFrom
set_option maxRecDepth 20000 in
theorem ggX1_takeLatest_X5_copyFrom : GoodIn wsX1_takeLatest wsX5_copyFrom := goodIn_r _ [8, 9, 10, 11, 12, 13, 14, 15, 21, 22, 23, 24, 25, 26, 27] (by decide +kernel) (by decide +kernel)
set_option maxRecDepth 20000 in
theorem gX1_takeLatest_X5_copyFrom : GoodIn wsX1_takeLatest (wsV RX1 31 RX5 yX5_copyFrom wsX5_copyFrom) := goodIn_app (goodIn_of _ (by decide +kernel)) ggX1_takeLatest_X5_copyFrom
set_option maxRecDepth 20000 in
theorem ggX1_addImage_X5_copyFrom : GoodIn wsX1_addImage wsX5_copyFrom := goodIn_r _ [7, 8, 9, 10, 11, 12, 13, 14, 20, 21, 22, 23, 24, 25, 26] (by decide +kernel) (by decide +kernel)
set_option maxRecDepth 20000 in
theorem gX1_addImage_X5_copyFrom : GoodIn wsX1_addImage (wsV RX1 31 RX5 yX5_copyFrom wsX5_copyFrom) := goodIn_app (goodIn_of _ (by decide +kernel)) ggX1_addImage_X5_copyFrom
set_option maxRecDepth 20000 in
theorem ggX1_goBack_X7_within : GoodIn wsX1_goBack wsX7_within := goodIn_r _ [6] (by decide +kernel) (by decide +kernel)
set_option maxRecDepth 20000 in
theorem gX1_goBack_X7_within_n41 : GoodIn wsX1_goBack (wsX7_within) := ggX1_goBack_X7_within
set_option maxRecDepth 20000 in
theorem ggX1_goBack_X5_copyFrom : GoodIn wsX1_goBack wsX5_copyFrom := goodIn_r _ [11, 12, 13, 14, 15, 16, 17, 18, 24, 25, 26, 27, 28, 29, 30] (by decide +kernel) (by decide +kernel)
set_option maxRecDepth 20000 in
theorem gX1_goBack_X5_copyFrom : GoodIn wsX1_goBack (wsV RX1 31 RX5 yX5_copyFrom wsX5_copyFrom) := goodIn_app (goodIn_of _ (by decide +kernel)) ggX1_goBack_X5_copyFrom
set_option maxRecDepth 20000 in
theorem ggX2_list_X2_addIfFit : GoodIn wsX2_list wsX2_addIfFit := goodIn_r _ [8, 9, 10, 11, 2, 12, 13, 14, 15, 16, 17, 18, 19, 20, 21, 22, 30, 31, 32, 33, 34, 35, 36, 37, 38, 39, 40, 41, 42, 43, 44, 23, 24, 25, 26, 27, 28, 29] (by decide +kernel) (by decide +kernel)
set_option maxRecDepth 20000 in
theorem gX2_list_X2_addIfFit : GoodIn wsX2_list (wsV RX2 34 RX2 yX2_addIfFit wsX2_addIfFit) := goodIn_app (goodIn_of _ (by decide +kernel)) ggX2_list_X2_addIfFit
set_option maxRecDepth 20000 in
theorem ggX2_addIfFit_X0_aliveByLaw : GoodIn wsX2_addIfFit wsX0_aliveByLaw := goodIn_r _ [10, 11, 12, 13, 14, 15, 16, 17, 18, 19, 20, 21, 22, 23, 24, 25, 26, 27, 28, 29, 30] (by decide +kernel) (by decide +kernel)
set_option maxRecDepth 20000 in
theorem gX2_addIfFit_X0_aliveByLaw : GoodIn wsX2_addIfFit (wsV RX2 44 RX0 yX0_aliveByLaw wsX0_aliveByLaw) := goodIn_app (goodIn_of _ (by decide +kernel)) ggX2_addIfFit_X0_aliveByLaw
set_option maxRecDepth 20000 in
theorem ggX2_chooseLook_X2_list : GoodIn wsX2_chooseLook wsX2_list := goodIn_r _ [11, 12, 4, 6, 13, 14, 15, 10, 16, 17, 18, 19, 20, 21, 22, 23, 24, 25, 26, 27, 28, 29, 30, 44, 45, 46, 47, 48, 49, 50, 51, 52, 53, 54, 55, 56, 57, 58, 59, 60, 61, 62, 63, 64, 65] (by decide +kernel) (by decide +kernel)
set_option maxRecDepth 20000 in
theorem gX2_chooseLook_X2_list : GoodIn wsX2_chooseLook (wsV RX2 51 RX2 yX2_list wsX2_list) := goodIn_app (goodIn_of _ (by decide +kernel)) ggX2_chooseLook_X2_list
set_option maxRecDepth 20000 in
theorem ggX2_chooseLook_X2_tally : GoodIn wsX2_chooseLook wsX2_tally := goodIn_r _ [34, 35, 4, 20, 44, 45, 46, 47, 48, 49, 50] (by decide +kernel) (by decide +kernel)
set_option maxRecDepth 20000 in
theorem gX2_chooseLook_X2_tally : GoodIn wsX2_chooseLook (wsV RX2 64 RX2 yX2_tally wsX2_tally) := goodIn_app (goodIn_of _ (by decide +kernel)) ggX2_chooseLook_X2_tally
set_option maxRecDepth 20000 in
theorem ggX2_chooseLook_X2_mostOf : GoodIn wsX2_chooseLook wsX2_mostOf := goodIn_r _ [39, 35, 40, 41, 42, 43, 44, 45, 46, 47, 48, 49, 50] (by decide +kernel) (by decide +kernel)
set_option maxRecDepth 20000 in
theorem gX2_chooseLook_X2_mostOf : GoodIn wsX2_chooseLook (wsV RX2 68 RX2 yX2_mostOf wsX2_mostOf) := goodIn_app (goodIn_of _ (by decide +kernel)) ggX2_chooseLook_X2_mostOf
set_option maxRecDepth 20000 in
theorem ggX3_init_X0_init : GoodIn wsX3_init wsX0_init := goodIn_r _ [14, 15, 2, 3, 16, 17, 18, 19, 20, 21, 22, 23, 24, 25, 26, 27, 28, 29, 30, 45, 46, 47, 48, 49, 50, 51, 52, 53, 54, 55, 56, 57, 58, 59, 60, 61, 62, 63] (by decide +kernel) (by decide +kernel)
set_option maxRecDepth 20000 in
theorem gX3_init_X0_init : GoodIn wsX3_init (wsX0_init) := ggX3_init_X0_init
set_option maxRecDepth 20000 in
theorem ggX3_read_X0_clear : GoodIn wsX3_read wsX0_clear := goodIn_r _ [18, 19, 20, 21, 22, 23, 24, 25, 26, 202, 203, 204, 205, 206, 207, 208, 209, 210, 211, 212, 213, 214, 215, 216, 217, 218, 219, 220] (by decide +kernel) (by decide +kernel)
set_option maxRecDepth 20000 in
theorem gX3_read_X0_clear : GoodIn wsX3_read (wsV RX3 39 RX0 yX0_clear wsX0_clear) := goodIn_app (goodIn_of _ (by decide +kernel)) ggX3_read_X0_clear
set_option maxRecDepth 20000 in
theorem ggX3_read_X3_advance : GoodIn wsX3_read wsX3_advance := goodIn_r _ [31, 11, 6, 32, 33, 12, 34, 35, 36, 30, 37, 38, 39, 40, 41, 42, 43, 188, 189, 190, 191, 192, 193, 194, 195, 196, 197, 198, 199, 200, 201] (by decide +kernel) (by decide +kernel)
set_option maxRecDepth 20000 in
theorem gX3_read_X3_advance : GoodIn wsX3_read (wsV RX3 54 RX3 yX3_advance wsX3_advance) := goodIn_app (goodIn_of _ (by decide +kernel)) ggX3_read_X3_advance
set_option maxRecDepth 20000 in
theorem ggX3_read_X3_readLine : GoodIn wsX3_read wsX3_readLine := goodIn_r _ [47, 7, 48, 13, 49, 50, 51, 52, 53, 54, 55, 30, 56, 12, 38, 57, 58, 59, 60, 61, 62, 63, 64, 65, 66, 67, 68, 69, 70, 71, 72, 73, 74, 75, 76, 77, 78, 79, 80, 81, 82, 83, 84, 85, 86, 87, 88, 89, 90, 91, 92, 93, 94, 95, 96, 97, 98, 99, 100, 101, 102, 103, 104, 105, 106, 107, 108, 109, 9, 33, 10, 110, 111, 112, 113, 114, 115, 116, 117, 27, 28, 29, 31, 11, 6, 32, 34, 35, 36, 37, 39, 40, 41, 42, 43, 118, 119, 120, 121, 122, 123, 124, 125, 126, 127, 128, 129, 130, 131, 132, 133, 134, 135, 136, 137, 138, 139, 140, 141, 142, 143, 144, 145, 146, 147, 148, 149, 150, 8, 151, 152, 153, 154, 155, 156, 157, 158, 159, 160, 17, 161, 21, 25, 26, 162, 163, 164, 165, 166, 167, 168, 169, 170, 171, 172, 173, 174, 175, 176, 177, 178, 179, 180, 181, 22, 182, 183, 184, 185, 186, 187, 188, 189, 190, 191, 192, 193, 194, 195, 196, 197, 198, 199, 200, 201, 202, 203, 204, 205, 206, 207, 208, 209, 210, 211, 212, 213, 214, 215, 216, 217, 218, 219, 220] (by decide +kernel) (by decide +kernel)
set_option maxRecDepth 20000 in
theorem gX3_read_X3_readLine : GoodIn wsX3_read (wsV RX3 57 RX3 yX3_readLine wsX3_readLine) := goodIn_app (goodIn_of _ (by decide +kernel)) ggX3_read_X3_readLine
set_option maxRecDepth 20000 in
theorem ggX3_read_X3_fails : GoodIn wsX3_read wsX3_fails := goodIn_r _ [109, 9, 33, 10, 188, 189, 190, 191, 192, 193, 194, 195, 196, 197, 198, 199, 200, 201] (by decide +kernel) (by decide +kernel)
set_option maxRecDepth 20000 in
theorem gX3_read_X3_fails : GoodIn wsX3_read (wsV RX3 64 RX3 yX3_fails wsX3_fails) := goodIn_app (goodIn_of _ (by decide +kernel)) ggX3_read_X3_fails
set_option maxRecDepth 20000 in
theorem ggX3_advance_X3_scanWord : GoodIn wsX3_advance wsX3_scanWord := goodIn_r _ [10, 11, 1, 2, 3, 4, 5, 17, 18, 19, 20, 21, 22, 23, 24, 25, 26, 27, 28, 29, 30] (by decide +kernel) (by decide +kernel)
set_option maxRecDepth 20000 in
theorem gX3_advance_X3_scanWord : GoodIn wsX3_advance (wsV RX3 75 RX3 yX3_scanWord wsX3_scanWord) := goodIn_app (goodIn_of _ (by decide +kernel)) ggX3_advance_X3_scanWord
set_option maxRecDepth 20000 in
theorem ggX3_advance_X3_scanWhole : GoodIn wsX3_advance wsX3_scanWhole := goodIn_r _ [15, 16, 1, 2, 3, 4, 5, 17, 18, 19, 20, 21, 22, 23, 24, 25, 26, 27, 28, 29, 30] (by decide +kernel) (by decide +kernel)
set_option maxRecDepth 20000 in
theorem gX3_advance_X3_scanWhole : GoodIn wsX3_advance (wsV RX3 78 RX3 yX3_scanWhole wsX3_scanWhole) := goodIn_app (goodIn_of _ (by decide +kernel)) ggX3_advance_X3_scanWhole
set_option maxRecDepth 20000 in
theorem ggX3_isWord_J0_length_8abf5 : GoodIn wsX3_isWord wsJ0_length_8abf5 := goodIn_r _ [7, 8, 9, 10, 11, 6, 12, 13, 14] (by decide +kernel) (by decide +kernel)
set_option maxRecDepth 20000 in
theorem gX3_isWord_J0_length_8abf5 : GoodIn wsX3_isWord (wsV RX3 88 RJ0 yJ0_length_8abf5 wsJ0_length_8abf5) := goodIn_app (goodIn_of _ (by decide +kernel)) ggX3_isWord_J0_length_8abf5
set_option maxRecDepth 20000 in
theorem ggX3_isWord_J0_charAt_5068e : GoodIn wsX3_isWord wsJ0_charAt_5068e := goodIn_r _ [18, 8, 19, 20, 21, 6, 22, 13, 14, 23, 24, 25, 26, 27, 28, 29, 30, 31, 32, 33, 34, 35, 36, 37, 38, 39, 40, 41, 42, 43, 44, 45, 46, 47, 48, 49, 50, 51] (by decide +kernel) (by decide +kernel)
set_option maxRecDepth 20000 in
theorem gX3_isWord_J0_charAt_5068e : GoodIn wsX3_isWord (wsV RX3 94 RJ0 yJ0_charAt_5068e wsJ0_charAt_5068e) := goodIn_app (goodIn_of _ (by decide +kernel)) ggX3_isWord_J0_charAt_5068e
set_option maxRecDepth 20000 in
theorem ggX3_readLine_X3_isWord : GoodIn wsX3_readLine wsX3_isWord := goodIn_r _ [12, 13, 14, 15, 16, 17, 18, 19, 20, 21, 22, 23, 24, 25, 26, 27, 28, 29, 30, 31, 32, 33, 34, 35, 36, 37, 38, 39, 40, 41, 42, 43, 44, 45, 46, 47, 48, 49, 50, 51, 52, 53, 54, 55, 56, 57, 58, 59, 60, 61, 62, 63, 171, 172, 173, 174, 175, 176, 177, 178, 179, 180, 181, 182, 183, 184] (by decide +kernel) (by decide +kernel)
set_option maxRecDepth 20000 in
theorem gX3_readLine_X3_isWord : GoodIn wsX3_readLine (wsV RX3 100 RX3 yX3_isWord wsX3_isWord) := goodIn_app (goodIn_of _ (by decide +kernel)) ggX3_readLine_X3_isWord
set_option maxRecDepth 20000 in
theorem ggX3_readLine_X3_fails : GoodIn wsX3_readLine wsX3_fails := goodIn_r _ [67, 68, 69, 70, 171, 172, 173, 174, 175, 176, 177, 178, 179, 180, 181, 182, 183, 184] (by decide +kernel) (by decide +kernel)
set_option maxRecDepth 20000 in
theorem gX3_readLine_X3_fails : GoodIn wsX3_readLine (wsV RX3 64 RX3 yX3_fails wsX3_fails) := goodIn_app (goodIn_of _ (by decide +kernel)) ggX3_readLine_X3_fails
set_option maxRecDepth 20000 in
theorem ggX3_readLine_X3_readHall : GoodIn wsX3_readLine wsX3_readHall := goodIn_r _ [74, 75, 1, 76, 77, 78, 2, 79, 80, 81, 11, 82, 83, 84, 85, 69, 13, 86, 87, 88, 89, 14, 90, 91, 92, 93, 94, 95, 96, 97, 98, 8, 9, 10, 12, 15, 16, 17, 18, 19, 20, 21, 22, 23, 24, 25, 26, 27, 28, 29, 30, 31, 32, 33, 34, 35, 36, 37, 38, 39, 40, 41, 42, 43, 44, 45, 46, 47, 48, 49, 50, 51, 52, 53, 54, 55, 56, 57, 58, 59, 60, 61, 62, 63, 64, 65, 66, 67, 68, 70, 99, 100, 101, 102, 103, 104, 105, 171, 172, 173, 174, 175, 176, 177, 178, 179, 180, 181, 182, 183, 184, 185, 186, 187, 188, 189, 190, 191, 192, 193, 194, 195, 196, 197, 198, 199] (by decide +kernel) (by decide +kernel)
set_option maxRecDepth 20000 in
theorem gX3_readLine_X3_readHall : GoodIn wsX3_readLine (wsV RX3 107 RX3 yX3_readHall wsX3_readHall) := goodIn_app (goodIn_of _ (by decide +kernel)) ggX3_readLine_X3_readHall
set_option maxRecDepth 20000 in
theorem ggX3_readLine_X3_readLaw : GoodIn wsX3_readLine wsX3_readLaw := goodIn_r _ [109, 1, 2, 75, 110, 111, 112, 3, 79, 80, 81, 11, 82, 83, 84, 85, 69, 13, 86, 87, 88, 89, 14, 90, 91, 92, 93, 94, 95, 96, 97, 98, 8, 9, 10, 12, 15, 16, 17, 18, 19, 20, 21, 22, 23, 24, 25, 26, 27, 28, 29, 30, 31, 32, 33, 34, 35, 36, 37, 38, 39, 40, 41, 42, 43, 44, 45, 46, 47, 48, 49, 50, 51, 52, 53, 54, 55, 56, 57, 58, 59, 60, 61, 62, 63, 64, 65, 66, 67, 68, 70, 99, 100, 101, 102, 103, 104, 105, 171, 172, 173, 174, 175, 176, 177, 178, 179, 180, 181, 182, 183, 184, 185, 186, 187, 188, 189, 190, 191, 192, 193, 194, 195, 196, 197, 198, 199] (by decide +kernel) (by decide +kernel)
set_option maxRecDepth 20000 in
theorem gX3_readLine_X3_readLaw : GoodIn wsX3_readLine (wsV RX3 118 RX3 yX3_readLaw wsX3_readLaw) := goodIn_app (goodIn_of _ (by decide +kernel)) ggX3_readLine_X3_readLaw
set_option maxRecDepth 20000 in
theorem ggX3_readLine_J6_bitCount_0f7a4 : GoodIn wsX3_readLine wsJ6_bitCount_0f7a4 := goodIn_r _ [116, 117, 118, 119] (by decide +kernel) (by decide +kernel)
set_option maxRecDepth 20000 in
theorem gX3_readLine_J6_bitCount_0f7a4 : GoodIn wsX3_readLine (va_wsS RX3 124 yJ6_bitCount_0f7a4 wsJ6_bitCount_0f7a4) := goodIn_app (goodIn_of _ (by decide +kernel)) ggX3_readLine_J6_bitCount_0f7a4
set_option maxRecDepth 20000 in
theorem ggX3_readLine_X3_readFigure : GoodIn wsX3_readLine wsX3_readFigure := goodIn_r _ [123, 1, 2, 94, 4, 75, 79, 80, 81, 11, 82, 83, 84, 85, 69, 13, 86, 87, 88, 89, 14, 90, 91, 92, 93, 124, 125, 126, 127, 128, 129, 8, 9, 10, 12, 15, 16, 17, 18, 19, 20, 21, 22, 23, 24, 25, 26, 27, 28, 29, 30, 31, 32, 33, 34, 35, 36, 37, 38, 39, 40, 41, 42, 43, 44, 45, 46, 47, 48, 49, 50, 51, 52, 53, 54, 55, 56, 57, 58, 59, 60, 61, 62, 63, 64, 65, 66, 67, 68, 70, 130, 131, 132, 133, 99, 100, 101, 102, 103, 104, 105, 134, 135, 95, 96, 97, 98, 136, 137, 138, 139, 140, 141, 142, 143, 171, 172, 173, 174, 175, 176, 177, 178, 179, 180, 181, 182, 183, 184, 185, 186, 187, 188, 189, 190, 191, 192, 193, 194, 195, 196, 197, 198, 199] (by decide +kernel) (by decide +kernel)
set_option maxRecDepth 20000 in
theorem gX3_readLine_X3_readFigure : GoodIn wsX3_readLine (wsV RX3 130 RX3 yX3_readFigure wsX3_readFigure) := goodIn_app (goodIn_of _ (by decide +kernel)) ggX3_readLine_X3_readFigure
set_option maxRecDepth 20000 in
theorem ggX3_readLine_X3_readWatcher : GoodIn wsX3_readLine wsX3_readWatcher := goodIn_r _ [147, 1, 2, 75, 5, 79, 80, 81, 11, 82, 83, 84, 85, 69, 13, 86, 87, 88, 89, 14, 90, 91, 92, 93, 94, 124, 125, 126, 127, 128, 129, 8, 9, 10, 12, 15, 16, 17, 18, 19, 20, 21, 22, 23, 24, 25, 26, 27, 28, 29, 30, 31, 32, 33, 34, 35, 36, 37, 38, 39, 40, 41, 42, 43, 44, 45, 46, 47, 48, 49, 50, 51, 52, 53, 54, 55, 56, 57, 58, 59, 60, 61, 62, 63, 64, 65, 66, 67, 68, 70, 95, 96, 97, 98, 99, 100, 101, 102, 103, 104, 105, 148, 149, 150, 151, 152, 153, 154, 155, 171, 172, 173, 174, 175, 176, 177, 178, 179, 180, 181, 182, 183, 184, 185, 186, 187, 188, 189, 190, 191, 192, 193, 194, 195, 196, 197, 198, 199, 200, 201, 202, 203] (by decide +kernel) (by decide +kernel)
set_option maxRecDepth 20000 in
theorem gX3_readLine_X3_readWatcher : GoodIn wsX3_readLine (wsV RX3 142 RX3 yX3_readWatcher wsX3_readWatcher) := goodIn_app (goodIn_of _ (by decide +kernel)) ggX3_readLine_X3_readWatcher
set_option maxRecDepth 20000 in
theorem ggX3_readLine_X3_readSeen : GoodIn wsX3_readLine wsX3_readSeen := goodIn_r _ [159, 1, 2, 75, 94, 95, 96, 97, 11, 98, 8, 9, 10, 12, 13, 14, 15, 16, 17, 18, 19, 20, 21, 22, 23, 24, 25, 26, 27, 28, 29, 30, 31, 32, 33, 34, 35, 36, 37, 38, 39, 40, 41, 42, 43, 44, 45, 46, 47, 48, 49, 50, 51, 52, 53, 54, 55, 56, 57, 58, 59, 60, 61, 62, 63, 64, 65, 66, 67, 68, 69, 70, 79, 80, 81, 82, 83, 84, 85, 86, 87, 88, 89, 90, 91, 92, 93, 99, 100, 101, 102, 103, 104, 105, 130, 131, 132, 133, 160, 161, 162, 139, 163, 164, 165, 166, 167, 168, 169, 170, 171, 172, 173, 174, 175, 176, 177, 178, 179, 180, 181, 182, 183, 184, 185, 186, 187, 188, 189, 190, 191, 192, 193, 194, 195, 196, 197, 198, 199] (by decide +kernel) (by decide +kernel)
set_option maxRecDepth 20000 in
theorem gX3_readLine_X3_readSeen : GoodIn wsX3_readLine (wsV RX3 148 RX3 yX3_readSeen wsX3_readSeen) := goodIn_app (goodIn_of _ (by decide +kernel)) ggX3_readLine_X3_readSeen
set_option maxRecDepth 20000 in
theorem ggX3_readHall_X3_advance : GoodIn wsX3_readHall wsX3_advance := goodIn_r _ [11, 12, 13, 14, 15, 16, 17, 18, 19, 10, 20, 21, 22, 23, 24, 25, 26, 97, 98, 99, 100, 101, 102, 103, 104, 105, 106, 107, 108, 109, 110] (by decide +kernel) (by decide +kernel)
set_option maxRecDepth 20000 in
theorem gX3_readHall_X3_advance : GoodIn wsX3_readHall (wsV RX3 54 RX3 yX3_advance wsX3_advance) := goodIn_app (goodIn_of _ (by decide +kernel)) ggX3_readHall_X3_advance
set_option maxRecDepth 20000 in
theorem ggX3_readHall_X3_takeWhole : GoodIn wsX3_readHall wsX3_takeWhole := goodIn_r _ [30, 26, 1, 31, 32, 33, 10, 34, 16, 21, 35, 36, 37, 38, 39, 40, 41, 42, 43, 44, 45, 46, 47, 48, 49, 50, 51, 52, 53, 54, 55, 56, 57, 58, 59, 60, 61, 62, 63, 64, 65, 66, 67, 68, 69, 70, 71, 72, 73, 74, 75, 76, 77, 78, 79, 80, 81, 82, 83, 84, 85, 86, 87, 88, 15, 89, 7, 8, 9, 11, 12, 13, 14, 17, 18, 19, 20, 22, 23, 24, 25, 90, 91, 92, 93, 94, 95, 96, 97, 98, 99, 100, 101, 102, 103, 104, 105, 106, 107, 108, 109, 110] (by decide +kernel) (by decide +kernel)
set_option maxRecDepth 20000 in
theorem gX3_readHall_X3_takeWhole : GoodIn wsX3_readHall (wsV RX3 152 RX3 yX3_takeWhole wsX3_takeWhole) := goodIn_app (goodIn_of _ (by decide +kernel)) ggX3_readHall_X3_takeWhole
set_option maxRecDepth 20000 in
theorem ggX3_readLaw_X3_advance : GoodIn wsX3_readLaw wsX3_advance := goodIn_r _ [12, 13, 14, 15, 16, 17, 18, 19, 20, 11, 21, 22, 23, 24, 25, 26, 27, 98, 99, 100, 101, 102, 103, 104, 105, 106, 107, 108, 109, 110, 111] (by decide +kernel) (by decide +kernel)
set_option maxRecDepth 20000 in
theorem gX3_readLaw_X3_advance : GoodIn wsX3_readLaw (wsV RX3 54 RX3 yX3_advance wsX3_advance) := goodIn_app (goodIn_of _ (by decide +kernel)) ggX3_readLaw_X3_advance
set_option maxRecDepth 20000 in
theorem ggX3_readLaw_X3_takeWhole : GoodIn wsX3_readLaw wsX3_takeWhole := goodIn_r _ [31, 27, 3, 32, 33, 34, 11, 35, 17, 22, 36, 37, 38, 39, 40, 41, 42, 43, 44, 45, 46, 47, 48, 49, 50, 51, 52, 53, 54, 55, 56, 57, 58, 59, 60, 61, 62, 63, 64, 65, 66, 67, 68, 69, 70, 71, 72, 73, 74, 75, 76, 77, 78, 79, 80, 81, 82, 83, 84, 85, 86, 87, 88, 89, 16, 90, 8, 9, 10, 12, 13, 14, 15, 18, 19, 20, 21, 23, 24, 25, 26, 91, 92, 93, 94, 95, 96, 97, 98, 99, 100, 101, 102, 103, 104, 105, 106, 107, 108, 109, 110, 111] (by decide +kernel) (by decide +kernel)
set_option maxRecDepth 20000 in
theorem gX3_readLaw_X3_takeWhole : GoodIn wsX3_readLaw (wsV RX3 152 RX3 yX3_takeWhole wsX3_takeWhole) := goodIn_app (goodIn_of _ (by decide +kernel)) ggX3_readLaw_X3_takeWhole
set_option maxRecDepth 20000 in
theorem ggX3_readFigure_X3_advance : GoodIn wsX3_readFigure wsX3_advance := goodIn_r _ [10, 11, 12, 13, 14, 15, 16, 17, 18, 9, 19, 20, 21, 22, 23, 24, 3, 115, 116, 117, 118, 119, 120, 121, 122, 123, 124, 125, 126, 127, 128] (by decide +kernel) (by decide +kernel)
set_option maxRecDepth 20000 in
theorem gX3_readFigure_X3_advance : GoodIn wsX3_readFigure (wsV RX3 54 RX3 yX3_advance wsX3_advance) := goodIn_app (goodIn_of _ (by decide +kernel)) ggX3_readFigure_X3_advance
set_option maxRecDepth 20000 in
theorem ggX3_readFigure_X3_takeName : GoodIn wsX3_readFigure wsX3_takeName := goodIn_r _ [28, 15, 29, 30, 20, 31, 32, 33, 9, 34, 35, 36, 37, 38, 39, 40, 41, 42, 43, 44, 45, 46, 47, 48, 49, 50, 51, 52, 53, 54, 55, 56, 57, 58, 59, 60, 61, 62, 63, 64, 65, 66, 67, 68, 69, 70, 71, 72, 73, 74, 75, 76, 77, 78, 79, 80, 81, 82, 83, 84, 85, 86, 87, 88, 14, 89, 6, 7, 8, 10, 11, 12, 13, 16, 17, 18, 19, 21, 22, 23, 24, 3, 115, 116, 117, 118, 119, 120, 121, 122, 123, 124, 125, 126, 127, 128] (by decide +kernel) (by decide +kernel)
set_option maxRecDepth 20000 in
theorem gX3_readFigure_X3_takeName : GoodIn wsX3_readFigure (wsV RX3 184 RX3 yX3_takeName wsX3_takeName) := goodIn_app (goodIn_of _ (by decide +kernel)) ggX3_readFigure_X3_takeName
set_option maxRecDepth 20000 in
theorem ggX3_readFigure_X3_takeWord : GoodIn wsX3_readFigure wsX3_takeWord := goodIn_r _ [93, 31, 32, 33, 9, 34, 15, 20, 35, 36, 37, 38, 39, 40, 41, 42, 43, 44, 45, 46, 47, 48, 49, 50, 51, 52, 53, 54, 55, 56, 57, 58, 59, 60, 61, 62, 63, 64, 65, 66, 67, 68, 69, 70, 71, 72, 73, 74, 75, 76, 77, 78, 79, 80, 81, 82, 83, 84, 85, 86, 87, 88, 14, 89, 6, 7, 8, 10, 11, 12, 13, 16, 17, 18, 19, 21, 22, 23, 24, 3, 115, 116, 117, 118, 119, 120, 121, 122, 123, 124, 125, 126, 127, 128] (by decide +kernel) (by decide +kernel)
set_option maxRecDepth 20000 in
theorem gX3_readFigure_X3_takeWord : GoodIn wsX3_readFigure (wsV RX3 189 RX3 yX3_takeWord wsX3_takeWord) := goodIn_app (goodIn_of _ (by decide +kernel)) ggX3_readFigure_X3_takeWord
set_option maxRecDepth 20000 in
theorem ggX3_readFigure_X3_isWholeWithin : GoodIn wsX3_readFigure wsX3_isWholeWithin := goodIn_r _ [97, 15, 3, 84, 85, 86, 9, 87, 88, 14, 89, 98, 99, 100, 115, 116, 117, 118, 119, 120, 121, 122, 123, 124, 125, 126, 127, 128] (by decide +kernel) (by decide +kernel)
set_option maxRecDepth 20000 in
theorem gX3_readFigure_X3_isWholeWithin : GoodIn wsX3_readFigure (wsV RX3 192 RX3 yX3_isWholeWithin wsX3_isWholeWithin) := goodIn_app (goodIn_of _ (by decide +kernel)) ggX3_readFigure_X3_isWholeWithin
set_option maxRecDepth 20000 in
theorem ggX3_readFigure_X7_hasBit : GoodIn wsX3_readFigure wsX7_hasBit := goodIn_r _ [102] (by decide +kernel) (by decide +kernel)
set_option maxRecDepth 20000 in
theorem gX3_readFigure_X7_hasBit_n196 : GoodIn wsX3_readFigure (wsX7_hasBit) := ggX3_readFigure_X7_hasBit
set_option maxRecDepth 20000 in
theorem ggX3_readFigure_X3_fails : GoodIn wsX3_readFigure wsX3_fails := goodIn_r _ [87, 88, 14, 89, 115, 116, 117, 118, 119, 120, 121, 122, 123, 124, 125, 126, 127, 128] (by decide +kernel) (by decide +kernel)
set_option maxRecDepth 20000 in
theorem gX3_readFigure_X3_fails : GoodIn wsX3_readFigure (wsV RX3 64 RX3 yX3_fails wsX3_fails) := goodIn_app (goodIn_of _ (by decide +kernel)) ggX3_readFigure_X3_fails
set_option maxRecDepth 20000 in
theorem ggX3_readFigure_X3_isWord : GoodIn wsX3_readFigure wsX3_isWord := goodIn_r _ [34, 15, 20, 35, 36, 37, 38, 39, 40, 41, 42, 43, 44, 45, 46, 47, 48, 49, 50, 51, 52, 53, 54, 55, 56, 57, 58, 59, 60, 61, 62, 63, 64, 65, 66, 67, 68, 69, 70, 71, 72, 73, 74, 75, 76, 77, 78, 79, 80, 81, 82, 83, 115, 116, 117, 118, 119, 120, 121, 122, 123, 124, 125, 126, 127, 128] (by decide +kernel) (by decide +kernel)
set_option maxRecDepth 20000 in
theorem gX3_readFigure_X3_isWord : GoodIn wsX3_readFigure (wsV RX3 100 RX3 yX3_isWord wsX3_isWord) := goodIn_app (goodIn_of _ (by decide +kernel)) ggX3_readFigure_X3_isWord
set_option maxRecDepth 20000 in
theorem ggX3_readFigure_X3_takeWhole : GoodIn wsX3_readFigure wsX3_takeWhole := goodIn_r _ [106, 3, 5, 31, 32, 33, 9, 34, 15, 20, 35, 36, 37, 38, 39, 40, 41, 42, 43, 44, 45, 46, 47, 48, 49, 50, 51, 52, 53, 54, 55, 56, 57, 58, 59, 60, 61, 62, 63, 64, 65, 66, 67, 68, 69, 70, 71, 72, 73, 74, 75, 76, 77, 78, 79, 80, 81, 82, 83, 84, 85, 86, 87, 88, 14, 89, 6, 7, 8, 10, 11, 12, 13, 16, 17, 18, 19, 21, 22, 23, 24, 94, 95, 96, 97, 98, 99, 100, 115, 116, 117, 118, 119, 120, 121, 122, 123, 124, 125, 126, 127, 128] (by decide +kernel) (by decide +kernel)
set_option maxRecDepth 20000 in
theorem gX3_readFigure_X3_takeWhole : GoodIn wsX3_readFigure (wsV RX3 152 RX3 yX3_takeWhole wsX3_takeWhole) := goodIn_app (goodIn_of _ (by decide +kernel)) ggX3_readFigure_X3_takeWhole
set_option maxRecDepth 20000 in
theorem ggX3_readFigure_X0_addFigure : GoodIn wsX3_readFigure wsX0_addFigure := goodIn_r _ [111, 112, 113, 114, 129, 130, 131, 132, 133, 134, 135, 136, 137, 138, 139, 140, 141, 142, 143] (by decide +kernel) (by decide +kernel)
set_option maxRecDepth 20000 in
theorem gX3_readFigure_X0_addFigure : GoodIn wsX3_readFigure (wsV RX3 203 RX0 yX0_addFigure wsX0_addFigure) := goodIn_app (goodIn_of _ (by decide +kernel)) ggX3_readFigure_X0_addFigure
set_option maxRecDepth 20000 in
theorem ggX3_readWatcher_X3_advance : GoodIn wsX3_readWatcher wsX3_advance := goodIn_r _ [9, 10, 11, 12, 13, 14, 15, 16, 17, 8, 18, 19, 20, 21, 22, 23, 24, 109, 110, 111, 112, 113, 114, 115, 116, 117, 118, 119, 120, 121, 122] (by decide +kernel) (by decide +kernel)
set_option maxRecDepth 20000 in
theorem gX3_readWatcher_X3_advance : GoodIn wsX3_readWatcher (wsV RX3 54 RX3 yX3_advance wsX3_advance) := goodIn_app (goodIn_of _ (by decide +kernel)) ggX3_readWatcher_X3_advance
set_option maxRecDepth 20000 in
theorem ggX3_readWatcher_X3_takeName : GoodIn wsX3_readWatcher wsX3_takeName := goodIn_r _ [28, 14, 29, 30, 19, 31, 32, 33, 8, 34, 35, 36, 37, 38, 39, 40, 41, 42, 43, 44, 45, 46, 47, 48, 49, 50, 51, 52, 53, 54, 55, 56, 57, 58, 59, 60, 61, 62, 63, 64, 65, 66, 67, 68, 69, 70, 71, 72, 73, 74, 75, 76, 77, 78, 79, 80, 81, 82, 83, 84, 85, 86, 87, 88, 13, 89, 5, 6, 7, 9, 10, 11, 12, 15, 16, 17, 18, 20, 21, 22, 23, 24, 109, 110, 111, 112, 113, 114, 115, 116, 117, 118, 119, 120, 121, 122] (by decide +kernel) (by decide +kernel)
set_option maxRecDepth 20000 in
theorem gX3_readWatcher_X3_takeName : GoodIn wsX3_readWatcher (wsV RX3 184 RX3 yX3_takeName wsX3_takeName) := goodIn_app (goodIn_of _ (by decide +kernel)) ggX3_readWatcher_X3_takeName
set_option maxRecDepth 20000 in
theorem ggX3_readWatcher_X3_takeWhole : GoodIn wsX3_readWatcher wsX3_takeWhole := goodIn_r _ [93, 24, 3, 31, 32, 33, 8, 34, 14, 19, 35, 36, 37, 38, 39, 40, 41, 42, 43, 44, 45, 46, 47, 48, 49, 50, 51, 52, 53, 54, 55, 56, 57, 58, 59, 60, 61, 62, 63, 64, 65, 66, 67, 68, 69, 70, 71, 72, 73, 74, 75, 76, 77, 78, 79, 80, 81, 82, 83, 84, 85, 86, 87, 88, 13, 89, 5, 6, 7, 9, 10, 11, 12, 15, 16, 17, 18, 20, 21, 22, 23, 94, 95, 96, 97, 98, 99, 100, 109, 110, 111, 112, 113, 114, 115, 116, 117, 118, 119, 120, 121, 122] (by decide +kernel) (by decide +kernel)
set_option maxRecDepth 20000 in
theorem gX3_readWatcher_X3_takeWhole : GoodIn wsX3_readWatcher (wsV RX3 152 RX3 yX3_takeWhole wsX3_takeWhole) := goodIn_app (goodIn_of _ (by decide +kernel)) ggX3_readWatcher_X3_takeWhole
set_option maxRecDepth 20000 in
theorem ggX3_readWatcher_X6_add : GoodIn wsX3_readWatcher wsX6_add := goodIn_r _ [105, 106, 107, 108, 138, 139, 140, 141] (by decide +kernel) (by decide +kernel)
set_option maxRecDepth 20000 in
theorem gX3_readWatcher_X6_add : GoodIn wsX3_readWatcher (wsV RX3 211 RX6 yX6_add wsX6_add) := goodIn_app (goodIn_of _ (by decide +kernel)) ggX3_readWatcher_X6_add
set_option maxRecDepth 20000 in
theorem ggX3_readSeen_X3_takeWhole : GoodIn wsX3_readSeen wsX3_takeWhole := goodIn_r _ [9, 4, 3, 10, 11, 12, 8, 13, 14, 15, 16, 17, 18, 19, 20, 21, 22, 23, 24, 25, 26, 27, 28, 29, 30, 31, 32, 33, 34, 35, 36, 37, 38, 39, 40, 41, 42, 43, 44, 45, 46, 47, 48, 49, 50, 51, 52, 53, 54, 55, 56, 57, 58, 59, 60, 61, 62, 63, 64, 65, 66, 67, 68, 69, 70, 71, 72, 73, 74, 75, 76, 77, 78, 79, 80, 81, 82, 83, 84, 85, 86, 87, 88, 89, 90, 91, 92, 93, 110, 111, 112, 113, 114, 115, 116, 117, 118, 119, 120, 121, 122, 123] (by decide +kernel) (by decide +kernel)
set_option maxRecDepth 20000 in
theorem gX3_readSeen_X3_takeWhole : GoodIn wsX3_readSeen (wsV RX3 152 RX3 yX3_takeWhole wsX3_takeWhole) := goodIn_app (goodIn_of _ (by decide +kernel)) ggX3_readSeen_X3_takeWhole
set_option maxRecDepth 20000 in
theorem ggX3_readSeen_X3_takeWord : GoodIn wsX3_readSeen wsX3_takeWord := goodIn_r _ [97, 10, 11, 12, 8, 13, 14, 15, 16, 17, 18, 19, 20, 21, 22, 23, 24, 25, 26, 27, 28, 29, 30, 31, 32, 33, 34, 35, 36, 37, 38, 39, 40, 41, 42, 43, 44, 45, 46, 47, 48, 49, 50, 51, 52, 53, 54, 55, 56, 57, 58, 59, 60, 61, 62, 63, 64, 65, 66, 67, 68, 69, 70, 71, 72, 73, 74, 75, 76, 77, 78, 79, 80, 81, 82, 83, 84, 85, 86, 4, 110, 111, 112, 113, 114, 115, 116, 117, 118, 119, 120, 121, 122, 123] (by decide +kernel) (by decide +kernel)
set_option maxRecDepth 20000 in
theorem gX3_readSeen_X3_takeWord : GoodIn wsX3_readSeen (wsV RX3 189 RX3 yX3_takeWord wsX3_takeWord) := goodIn_app (goodIn_of _ (by decide +kernel)) ggX3_readSeen_X3_takeWord
set_option maxRecDepth 20000 in
theorem ggX3_readSeen_X3_isWholeWithin : GoodIn wsX3_readSeen wsX3_isWholeWithin := goodIn_r _ [90, 14, 4, 65, 66, 67, 8, 68, 69, 70, 71, 91, 92, 93, 110, 111, 112, 113, 114, 115, 116, 117, 118, 119, 120, 121, 122, 123] (by decide +kernel) (by decide +kernel)
set_option maxRecDepth 20000 in
theorem gX3_readSeen_X3_isWholeWithin : GoodIn wsX3_readSeen (wsV RX3 192 RX3 yX3_isWholeWithin wsX3_isWholeWithin) := goodIn_app (goodIn_of _ (by decide +kernel)) ggX3_readSeen_X3_isWholeWithin
set_option maxRecDepth 20000 in
theorem ggX3_readSeen_X0_isSeenMinute : GoodIn wsX3_readSeen wsX0_isSeenMinute := goodIn_r _ [102, 103, 104, 124, 125, 126, 127, 128, 129, 130, 131, 132, 133, 134, 135, 136, 137, 138] (by decide +kernel) (by decide +kernel)
set_option maxRecDepth 20000 in
theorem gX3_readSeen_X0_isSeenMinute : GoodIn wsX3_readSeen (wsV RX3 217 RX0 yX0_isSeenMinute wsX0_isSeenMinute) := goodIn_app (goodIn_of _ (by decide +kernel)) ggX3_readSeen_X0_isSeenMinute
set_option maxRecDepth 20000 in
theorem ggX3_readSeen_X3_fails : GoodIn wsX3_readSeen wsX3_fails := goodIn_r _ [68, 69, 70, 71, 110, 111, 112, 113, 114, 115, 116, 117, 118, 119, 120, 121, 122, 123] (by decide +kernel) (by decide +kernel)
set_option maxRecDepth 20000 in
theorem gX3_readSeen_X3_fails : GoodIn wsX3_readSeen (wsV RX3 64 RX3 yX3_fails wsX3_fails) := goodIn_app (goodIn_of _ (by decide +kernel)) ggX3_readSeen_X3_fails
set_option maxRecDepth 20000 in
theorem ggX3_readSeen_X0_addSeen : GoodIn wsX3_readSeen wsX0_addSeen := goodIn_r _ [108, 103, 109, 104, 124, 125, 126, 127, 128, 129, 130, 131, 132, 133, 134, 135, 136, 137, 138] (by decide +kernel) (by decide +kernel)
set_option maxRecDepth 20000 in
theorem gX3_readSeen_X0_addSeen : GoodIn wsX3_readSeen (wsV RX3 220 RX0 yX0_addSeen wsX0_addSeen) := goodIn_app (goodIn_of _ (by decide +kernel)) ggX3_readSeen_X0_addSeen
set_option maxRecDepth 20000 in
theorem ggX3_readSeen_X3_advance : GoodIn wsX3_readSeen wsX3_advance := goodIn_r _ [75, 76, 77, 78, 70, 14, 79, 80, 81, 8, 82, 15, 83, 84, 85, 86, 4, 110, 111, 112, 113, 114, 115, 116, 117, 118, 119, 120, 121, 122, 123] (by decide +kernel) (by decide +kernel)
set_option maxRecDepth 20000 in
theorem gX3_readSeen_X3_advance : GoodIn wsX3_readSeen (wsV RX3 54 RX3 yX3_advance wsX3_advance) := goodIn_app (goodIn_of _ (by decide +kernel)) ggX3_readSeen_X3_advance
set_option maxRecDepth 20000 in
theorem ggX3_takeWord_X3_isWord : GoodIn wsX3_takeWord wsX3_isWord := goodIn_r _ [5, 6, 7, 8, 9, 10, 11, 12, 13, 14, 15, 16, 17, 18, 19, 20, 21, 22, 23, 24, 25, 26, 27, 28, 29, 30, 31, 32, 33, 34, 35, 36, 37, 38, 39, 40, 41, 42, 43, 44, 45, 46, 47, 48, 49, 50, 51, 52, 53, 54, 55, 56, 80, 81, 82, 83, 84, 85, 86, 87, 88, 89, 90, 91, 92, 93] (by decide +kernel) (by decide +kernel)
set_option maxRecDepth 20000 in
theorem gX3_takeWord_X3_isWord : GoodIn wsX3_takeWord (wsV RX3 100 RX3 yX3_isWord wsX3_isWord) := goodIn_app (goodIn_of _ (by decide +kernel)) ggX3_takeWord_X3_isWord
set_option maxRecDepth 20000 in
theorem ggX3_takeWord_X3_fails : GoodIn wsX3_takeWord wsX3_fails := goodIn_r _ [60, 61, 62, 63, 80, 81, 82, 83, 84, 85, 86, 87, 88, 89, 90, 91, 92, 93] (by decide +kernel) (by decide +kernel)
set_option maxRecDepth 20000 in
theorem gX3_takeWord_X3_fails : GoodIn wsX3_takeWord (wsV RX3 64 RX3 yX3_fails wsX3_fails) := goodIn_app (goodIn_of _ (by decide +kernel)) ggX3_takeWord_X3_fails
set_option maxRecDepth 20000 in
theorem ggX3_takeWord_X3_advance : GoodIn wsX3_takeWord wsX3_advance := goodIn_r _ [67, 68, 69, 70, 62, 6, 71, 72, 73, 4, 74, 7, 75, 76, 77, 78, 79, 80, 81, 82, 83, 84, 85, 86, 87, 88, 89, 90, 91, 92, 93] (by decide +kernel) (by decide +kernel)
set_option maxRecDepth 20000 in
theorem gX3_takeWord_X3_advance : GoodIn wsX3_takeWord (wsV RX3 54 RX3 yX3_advance wsX3_advance) := goodIn_app (goodIn_of _ (by decide +kernel)) ggX3_takeWord_X3_advance
set_option maxRecDepth 20000 in
theorem ggX3_isWholeWithin_X3_fails : GoodIn wsX3_isWholeWithin wsX3_fails := goodIn_r _ [7, 8, 9, 10, 14, 15, 16, 17, 18, 19, 20, 21, 22, 23, 24, 25, 26, 27] (by decide +kernel) (by decide +kernel)
set_option maxRecDepth 20000 in
theorem gX3_isWholeWithin_X3_fails : GoodIn wsX3_isWholeWithin (wsV RX3 64 RX3 yX3_fails wsX3_fails) := goodIn_app (goodIn_of _ (by decide +kernel)) ggX3_isWholeWithin_X3_fails
set_option maxRecDepth 20000 in
theorem ggX3_isWholeWithin_X7_within : GoodIn wsX3_isWholeWithin wsX7_within := goodIn_r _ [13] (by decide +kernel) (by decide +kernel)
set_option maxRecDepth 20000 in
theorem gX3_isWholeWithin_X7_within_n223 : GoodIn wsX3_isWholeWithin (wsX7_within) := ggX3_isWholeWithin_X7_within
set_option maxRecDepth 20000 in
theorem ggX3_takeWhole_X3_isWord : GoodIn wsX3_takeWhole wsX3_isWord := goodIn_r _ [7, 8, 9, 10, 11, 12, 13, 14, 15, 16, 17, 18, 19, 20, 21, 22, 23, 24, 25, 26, 27, 28, 29, 30, 31, 32, 33, 34, 35, 36, 37, 38, 39, 40, 41, 42, 43, 44, 45, 46, 47, 48, 49, 50, 51, 52, 53, 54, 55, 56, 57, 58, 88, 89, 90, 91, 92, 93, 94, 95, 96, 97, 98, 99, 100, 101] (by decide +kernel) (by decide +kernel)
set_option maxRecDepth 20000 in
theorem gX3_takeWhole_X3_isWord : GoodIn wsX3_takeWhole (wsV RX3 100 RX3 yX3_isWord wsX3_isWord) := goodIn_app (goodIn_of _ (by decide +kernel)) ggX3_takeWhole_X3_isWord
set_option maxRecDepth 20000 in
theorem ggX3_takeWhole_X3_fails : GoodIn wsX3_takeWhole wsX3_fails := goodIn_r _ [62, 63, 64, 65, 88, 89, 90, 91, 92, 93, 94, 95, 96, 97, 98, 99, 100, 101] (by decide +kernel) (by decide +kernel)
set_option maxRecDepth 20000 in
theorem gX3_takeWhole_X3_fails : GoodIn wsX3_takeWhole (wsV RX3 64 RX3 yX3_fails wsX3_fails) := goodIn_app (goodIn_of _ (by decide +kernel)) ggX3_takeWhole_X3_fails
set_option maxRecDepth 20000 in
theorem ggX3_takeWhole_X3_advance : GoodIn wsX3_takeWhole wsX3_advance := goodIn_r _ [69, 70, 71, 72, 64, 8, 73, 74, 75, 6, 76, 9, 77, 78, 79, 80, 1, 88, 89, 90, 91, 92, 93, 94, 95, 96, 97, 98, 99, 100, 101] (by decide +kernel) (by decide +kernel)
set_option maxRecDepth 20000 in
theorem gX3_takeWhole_X3_advance : GoodIn wsX3_takeWhole (wsV RX3 54 RX3 yX3_advance wsX3_advance) := goodIn_app (goodIn_of _ (by decide +kernel)) ggX3_takeWhole_X3_advance
set_option maxRecDepth 20000 in
theorem ggX3_takeWhole_X3_isWholeWithin : GoodIn wsX3_takeWhole wsX3_isWholeWithin := goodIn_r _ [84, 8, 1, 59, 60, 61, 6, 62, 63, 64, 65, 85, 86, 87, 88, 89, 90, 91, 92, 93, 94, 95, 96, 97, 98, 99, 100, 101] (by decide +kernel) (by decide +kernel)
set_option maxRecDepth 20000 in
theorem gX3_takeWhole_X3_isWholeWithin : GoodIn wsX3_takeWhole (wsV RX3 192 RX3 yX3_isWholeWithin wsX3_isWholeWithin) := goodIn_app (goodIn_of _ (by decide +kernel)) ggX3_takeWhole_X3_isWholeWithin
set_option maxRecDepth 20000 in
theorem ggX3_takeName_X3_isWord : GoodIn wsX3_takeName wsX3_isWord := goodIn_r _ [9, 1, 4, 10, 11, 12, 13, 14, 15, 16, 17, 18, 19, 20, 21, 22, 23, 24, 25, 26, 27, 28, 29, 30, 31, 32, 33, 34, 35, 36, 37, 38, 39, 40, 41, 42, 43, 44, 45, 46, 47, 48, 49, 50, 51, 52, 53, 54, 55, 56, 57, 58, 82, 83, 84, 85, 86, 87, 88, 89, 90, 91, 92, 93, 94, 95] (by decide +kernel) (by decide +kernel)
set_option maxRecDepth 20000 in
theorem gX3_takeName_X3_isWord : GoodIn wsX3_takeName (wsV RX3 100 RX3 yX3_isWord wsX3_isWord) := goodIn_app (goodIn_of _ (by decide +kernel)) ggX3_takeName_X3_isWord
set_option maxRecDepth 20000 in
theorem ggX3_takeName_X3_fails : GoodIn wsX3_takeName wsX3_fails := goodIn_r _ [62, 63, 64, 65, 82, 83, 84, 85, 86, 87, 88, 89, 90, 91, 92, 93, 94, 95] (by decide +kernel) (by decide +kernel)
set_option maxRecDepth 20000 in
theorem gX3_takeName_X3_fails : GoodIn wsX3_takeName (wsV RX3 64 RX3 yX3_fails wsX3_fails) := goodIn_app (goodIn_of _ (by decide +kernel)) ggX3_takeName_X3_fails
set_option maxRecDepth 20000 in
theorem ggX3_takeName_X3_advance : GoodIn wsX3_takeName wsX3_advance := goodIn_r _ [69, 70, 71, 72, 64, 1, 73, 74, 75, 8, 76, 4, 77, 78, 79, 80, 81, 82, 83, 84, 85, 86, 87, 88, 89, 90, 91, 92, 93, 94, 95] (by decide +kernel) (by decide +kernel)
set_option maxRecDepth 20000 in
theorem gX3_takeName_X3_advance : GoodIn wsX3_takeName (wsV RX3 54 RX3 yX3_advance wsX3_advance) := goodIn_app (goodIn_of _ (by decide +kernel)) ggX3_takeName_X3_advance
set_option maxRecDepth 20000 in
theorem ggX4_aim_X7_within : GoodIn wsX4_aim wsX7_within := goodIn_r _ [4] (by decide +kernel) (by decide +kernel)
set_option maxRecDepth 20000 in
theorem gX4_aim_X7_within_n18 : GoodIn wsX4_aim (wsX7_within) := ggX4_aim_X7_within
set_option maxRecDepth 20000 in
theorem ggX4_weigh_X4_step : GoodIn wsX4_weigh wsX4_step := goodIn_r _ [11, 5, 12, 13, 14, 10, 15, 6, 16, 17, 18, 19] (by decide +kernel) (by decide +kernel)
set_option maxRecDepth 20000 in
theorem gX4_weigh_X4_step : GoodIn wsX4_weigh (wsV RX4 32 RX4 yX4_step wsX4_step) := goodIn_app (goodIn_of _ (by decide +kernel)) ggX4_weigh_X4_step
set_option maxRecDepth 20000 in
theorem ggX4_weigh_X4_worth : GoodIn wsX4_weigh wsX4_worth := goodIn_r _ [15, 6, 16, 17, 18, 19] (by decide +kernel) (by decide +kernel)
set_option maxRecDepth 20000 in
theorem gX4_weigh_X4_worth : GoodIn wsX4_weigh (wsV RX4 35 RX4 yX4_worth wsX4_worth) := goodIn_app (goodIn_of _ (by decide +kernel)) ggX4_weigh_X4_worth
set_option maxRecDepth 20000 in
theorem ggX4_step_X4_worth : GoodIn wsX4_step wsX4_worth := goodIn_r _ [6, 7, 8, 9, 10, 11] (by decide +kernel) (by decide +kernel)
set_option maxRecDepth 20000 in
theorem gX4_step_X4_worth : GoodIn wsX4_step (wsV RX4 35 RX4 yX4_worth wsX4_worth) := goodIn_app (goodIn_of _ (by decide +kernel)) ggX4_step_X4_worth
set_option maxRecDepth 20000 in
theorem ggX4_minutesWith_X7_within : GoodIn wsX4_minutesWith wsX7_within := goodIn_r _ [5] (by decide +kernel) (by decide +kernel)
set_option maxRecDepth 20000 in
theorem gX4_minutesWith_X7_within_n18 : GoodIn wsX4_minutesWith (wsX7_within) := ggX4_minutesWith_X7_within
set_option maxRecDepth 20000 in
theorem ggX4_placeIn_X4_step : GoodIn wsX4_placeIn wsX4_step := goodIn_r _ [5, 6, 7, 8, 9, 4, 10, 11, 12, 13, 14, 15] (by decide +kernel) (by decide +kernel)
set_option maxRecDepth 20000 in
theorem gX4_placeIn_X4_step : GoodIn wsX4_placeIn (wsV RX4 32 RX4 yX4_step wsX4_step) := goodIn_app (goodIn_of _ (by decide +kernel)) ggX4_placeIn_X4_step
set_option maxRecDepth 20000 in
theorem ggX5_begin_X5_startTurn : GoodIn wsX5_begin wsX5_startTurn := goodIn_r _ [10, 11, 12, 13, 14, 15, 16, 17, 18, 19] (by decide +kernel) (by decide +kernel)
set_option maxRecDepth 20000 in
theorem gX5_begin_X5_startTurn : GoodIn wsX5_begin (wsV RX5 28 RX5 yX5_startTurn wsX5_startTurn) := goodIn_app (goodIn_of _ (by decide +kernel)) ggX5_begin_X5_startTurn
set_option maxRecDepth 20000 in
theorem ggX5_isGone_X7_hasBit : GoodIn wsX5_isGone wsX7_hasBit := goodIn_r _ [4] (by decide +kernel) (by decide +kernel)
set_option maxRecDepth 20000 in
theorem gX5_isGone_X7_hasBit_n38 : GoodIn wsX5_isGone (wsX7_hasBit) := ggX5_isGone_X7_hasBit
set_option maxRecDepth 20000 in
theorem ggX6_placesIn_X6_placeOf : GoodIn wsX6_placesIn wsX6_placeOf := goodIn_r _ [7, 8, 9, 10, 11, 12, 13] (by decide +kernel) (by decide +kernel)
set_option maxRecDepth 20000 in
theorem gX6_placesIn_X6_placeOf : GoodIn wsX6_placesIn (wsV RX6 25 RX6 yX6_placeOf wsX6_placeOf) := goodIn_app (goodIn_of _ (by decide +kernel)) ggX6_placesIn_X6_placeOf
set_option maxRecDepth 20000 in
theorem ggX7_init_X3_init : GoodIn wsX7_init wsX3_init := goodIn_r _ [38, 39, 2, 3, 40, 41, 42, 43, 44, 30, 31, 45, 46, 47, 48, 49, 50, 51, 52, 53, 54, 55, 14, 15, 56, 57, 58, 59, 60, 61, 62, 91, 92, 93, 94, 95, 96, 97, 98, 99, 100, 101, 102, 103, 104, 142, 143, 144, 145, 146, 147, 148, 149, 150, 151, 152, 153, 154, 155, 156, 123, 124, 125, 126] (by decide +kernel) (by decide +kernel)
set_option maxRecDepth 20000 in
theorem gX7_init_X3_init : GoodIn wsX7_init (wsX3_init) := ggX7_init_X3_init
set_option maxRecDepth 20000 in
theorem ggX7_init_X5_init : GoodIn wsX7_init wsX5_init := goodIn_r _ [65, 66, 2, 3, 50, 67, 68, 116, 117, 118, 119, 120, 121, 122] (by decide +kernel) (by decide +kernel)
set_option maxRecDepth 20000 in
theorem gX7_init_X5_init : GoodIn wsX7_init (wsX5_init) := ggX7_init_X5_init
set_option maxRecDepth 20000 in
theorem ggX7_init_X6_init : GoodIn wsX7_init wsX6_init := goodIn_r _ [59, 60, 2, 3, 50, 61, 62, 123, 124, 125, 126] (by decide +kernel) (by decide +kernel)
set_option maxRecDepth 20000 in
theorem gX7_init_X6_init : GoodIn wsX7_init (wsX6_init) := ggX7_init_X6_init
set_option maxRecDepth 20000 in
theorem ggX7_init_X1_init : GoodIn wsX7_init wsX1_init := goodIn_r _ [72, 73, 2, 3, 74, 75, 9, 10, 76, 77, 64, 65, 66, 50, 67, 68, 127, 128, 129, 130, 131, 116, 117, 118, 119, 120, 121, 122] (by decide +kernel) (by decide +kernel)
set_option maxRecDepth 20000 in
theorem gX7_init_X1_init : GoodIn wsX7_init (wsX1_init) := ggX7_init_X1_init
set_option maxRecDepth 20000 in
theorem ggX7_init_X2_init : GoodIn wsX7_init wsX2_init := goodIn_r _ [80, 81, 2, 3, 50, 82, 83, 132, 133, 134, 135, 136, 137, 138] (by decide +kernel) (by decide +kernel)
set_option maxRecDepth 20000 in
theorem gX7_init_X2_init : GoodIn wsX7_init (wsX2_init) := ggX7_init_X2_init
set_option maxRecDepth 20000 in
theorem ggX7_init_X4_init : GoodIn wsX7_init wsX4_init := goodIn_r _ [86, 87, 2, 3, 50, 88, 89, 139, 140, 141] (by decide +kernel) (by decide +kernel)
set_option maxRecDepth 20000 in
theorem gX7_init_X4_init : GoodIn wsX7_init (wsX4_init) := ggX7_init_X4_init
set_option maxRecDepth 20000 in
theorem ggX7_init_X0_init : GoodIn wsX7_init wsX0_init := goodIn_r _ [48, 49, 2, 3, 50, 51, 52, 53, 54, 55, 14, 15, 56, 57, 58, 59, 60, 61, 62, 142, 143, 144, 145, 146, 147, 148, 149, 150, 151, 152, 153, 154, 155, 156, 123, 124, 125, 126] (by decide +kernel) (by decide +kernel)
set_option maxRecDepth 20000 in
theorem gX7_init_X0_init : GoodIn wsX7_init (wsX0_init) := ggX7_init_X0_init
set_option maxRecDepth 20000 in
theorem ggX7_feed_X3_append : GoodIn wsX7_feed wsX3_append := goodIn_r _ [7, 8, 9, 21, 22, 23, 24, 25, 26, 27, 28, 29, 30, 31, 32, 33, 34] (by decide +kernel) (by decide +kernel)
set_option maxRecDepth 20000 in
theorem gX7_feed_X3_append : GoodIn wsX7_feed (wsV RX7 74 RX3 yX3_append wsX3_append) := goodIn_app (goodIn_of _ (by decide +kernel)) ggX7_feed_X3_append
set_option maxRecDepth 20000 in
theorem ggX7_gallery_X7_within : GoodIn wsX7_gallery wsX7_within := goodIn_r _ [16] (by decide +kernel) (by decide +kernel)
set_option maxRecDepth 20000 in
theorem gX7_gallery_X7_within : GoodIn wsX7_gallery (va_wsS RX7 78 yX7_within wsX7_within) := goodIn_app (goodIn_of _ (by decide +kernel)) ggX7_gallery_X7_within
set_option maxRecDepth 20000 in
theorem ggX7_gallery_X7_refused : GoodIn wsX7_gallery wsX7_refused := goodIn_r _ [20, 21, 248, 249, 250, 251, 252, 253, 254, 255, 256, 257, 258] (by decide +kernel) (by decide +kernel)
set_option maxRecDepth 20000 in
theorem gX7_gallery_X7_refused : GoodIn wsX7_gallery (wsV RX7 82 RX7 yX7_refused wsX7_refused) := goodIn_app (goodIn_of _ (by decide +kernel)) ggX7_gallery_X7_refused
set_option maxRecDepth 20000 in
theorem ggX7_gallery_X3_read : GoodIn wsX7_gallery wsX3_read := goodIn_r _ [26, 27, 28, 29, 30, 31, 32, 33, 34, 35, 36, 37, 38, 39, 40, 41, 42, 43, 44, 45, 46, 47, 48, 49, 50, 51, 52, 53, 54, 55, 25, 56, 57, 58, 59, 60, 61, 62, 63, 64, 65, 66, 67, 68, 69, 70, 71, 72, 73, 74, 75, 76, 77, 78, 79, 80, 81, 82, 83, 84, 85, 86, 87, 88, 89, 90, 91, 92, 93, 94, 95, 96, 97, 98, 99, 100, 101, 102, 103, 104, 105, 106, 107, 108, 109, 110, 111, 112, 113, 114, 115, 116, 117, 118, 119, 120, 121, 122, 123, 124, 125, 126, 127, 128, 129, 130, 131, 132, 133, 134, 135, 136, 137, 138, 139, 140, 141, 142, 143, 144, 145, 146, 147, 148, 149, 150, 14, 15, 16, 151, 152, 153, 154, 155, 156, 157, 158, 159, 160, 161, 162, 163, 164, 165, 166, 167, 168, 169, 170, 171, 172, 173, 174, 175, 176, 177, 178, 179, 180, 181, 182, 183, 184, 185, 186, 187, 188, 189, 190, 191, 192, 193, 194, 195, 196, 197, 198, 199, 200, 201, 202, 203, 204, 205, 206, 207, 208, 209, 259, 260, 261, 262, 263, 264, 265, 266, 267, 268, 269, 270, 271, 272, 273, 274, 275, 276, 277, 278, 279, 280, 281, 282, 283, 284, 285, 286, 287, 288, 289, 290, 291] (by decide +kernel) (by decide +kernel)
set_option maxRecDepth 20000 in
theorem gX7_gallery_X3_read : GoodIn wsX7_gallery (wsV RX7 86 RX3 yX3_read wsX3_read) := goodIn_app (goodIn_of _ (by decide +kernel)) ggX7_gallery_X3_read
set_option maxRecDepth 20000 in
theorem ggX7_gallery_X3_exchange : GoodIn wsX7_gallery wsX3_exchange := goodIn_r _ [213, 33, 259, 260, 261, 262, 263, 264, 265, 266, 267, 268, 269, 270, 271, 272] (by decide +kernel) (by decide +kernel)
set_option maxRecDepth 20000 in
theorem gX7_gallery_X3_exchange : GoodIn wsX7_gallery (wsV RX7 94 RX3 yX3_exchange wsX3_exchange) := goodIn_app (goodIn_of _ (by decide +kernel)) ggX7_gallery_X3_exchange
set_option maxRecDepth 20000 in
theorem ggX7_gallery_X5_begin : GoodIn wsX7_gallery wsX5_begin := goodIn_r _ [218, 219, 220, 221, 222, 223, 224, 225, 226, 217, 227, 228, 229, 292, 293, 294, 295, 296, 297, 298] (by decide +kernel) (by decide +kernel)
set_option maxRecDepth 20000 in
theorem gX7_gallery_X5_begin : GoodIn wsX7_gallery (wsV RX7 101 RX5 yX5_begin wsX5_begin) := goodIn_app (goodIn_of _ (by decide +kernel)) ggX7_gallery_X5_begin
set_option maxRecDepth 20000 in
theorem ggX7_gallery_X1_clear : GoodIn wsX7_gallery wsX1_clear := goodIn_r _ [234, 235, 236, 299, 300, 301, 302, 303] (by decide +kernel) (by decide +kernel)
set_option maxRecDepth 20000 in
theorem gX7_gallery_X1_clear : GoodIn wsX7_gallery (wsV RX7 104 RX1 yX1_clear wsX1_clear) := goodIn_app (goodIn_of _ (by decide +kernel)) ggX7_gallery_X1_clear
set_option maxRecDepth 20000 in
theorem ggX7_gallery_X2_forget : GoodIn wsX7_gallery wsX2_forget := goodIn_r _ [241, 242, 243, 304, 305, 306, 307, 308, 309, 310] (by decide +kernel) (by decide +kernel)
set_option maxRecDepth 20000 in
theorem gX7_gallery_X2_forget : GoodIn wsX7_gallery (wsV RX7 107 RX2 yX2_forget wsX2_forget) := goodIn_app (goodIn_of _ (by decide +kernel)) ggX7_gallery_X2_forget
set_option maxRecDepth 20000 in
theorem ggX7_gallery_X7_answered : GoodIn wsX7_gallery wsX7_answered := goodIn_r _ [247, 21, 248, 249, 250, 251, 252, 253, 254, 255, 256, 257, 258] (by decide +kernel) (by decide +kernel)
set_option maxRecDepth 20000 in
theorem gX7_gallery_X7_answered : GoodIn wsX7_gallery (wsV RX7 113 RX7 yX7_answered wsX7_answered) := goodIn_app (goodIn_of _ (by decide +kernel)) ggX7_gallery_X7_answered
set_option maxRecDepth 20000 in
theorem ggX7_figure_X7_isFigure : GoodIn wsX7_figure wsX7_isFigure := goodIn_r _ [11, 1, 12, 13, 14, 10, 15, 33, 34, 35, 36, 37, 38, 39, 40, 41, 42, 43, 44, 45, 46, 47, 48, 49, 50, 51, 52, 53, 54, 55, 56, 57, 58] (by decide +kernel) (by decide +kernel)
set_option maxRecDepth 20000 in
theorem gX7_figure_X7_isFigure : GoodIn wsX7_figure (wsV RX7 116 RX7 yX7_isFigure wsX7_isFigure) := goodIn_app (goodIn_of _ (by decide +kernel)) ggX7_figure_X7_isFigure
set_option maxRecDepth 20000 in
theorem ggX7_figure_X7_within : GoodIn wsX7_figure wsX7_within := goodIn_r _ [15] (by decide +kernel) (by decide +kernel)
set_option maxRecDepth 20000 in
theorem gX7_figure_X7_within : GoodIn wsX7_figure (va_wsS RX7 78 yX7_within wsX7_within) := goodIn_app (goodIn_of _ (by decide +kernel)) ggX7_figure_X7_within
set_option maxRecDepth 20000 in
theorem ggX7_figure_X7_refused : GoodIn wsX7_figure wsX7_refused := goodIn_r _ [19, 20, 33, 34, 35, 36, 37, 38, 39, 40, 41, 42, 43] (by decide +kernel) (by decide +kernel)
set_option maxRecDepth 20000 in
theorem gX7_figure_X7_refused : GoodIn wsX7_figure (wsV RX7 82 RX7 yX7_refused wsX7_refused) := goodIn_app (goodIn_of _ (by decide +kernel)) ggX7_figure_X7_refused
set_option maxRecDepth 20000 in
theorem ggX7_figure_X7_answered : GoodIn wsX7_figure wsX7_answered := goodIn_r _ [24, 20, 33, 34, 35, 36, 37, 38, 39, 40, 41, 42, 43] (by decide +kernel) (by decide +kernel)
set_option maxRecDepth 20000 in
theorem gX7_figure_X7_answered : GoodIn wsX7_figure (wsV RX7 113 RX7 yX7_answered wsX7_answered) := goodIn_app (goodIn_of _ (by decide +kernel)) ggX7_figure_X7_answered
set_option maxRecDepth 20000 in
theorem ggX7_figure_X5_isGone : GoodIn wsX7_figure wsX5_isGone := goodIn_r _ [29, 30, 31, 10, 32, 59, 60, 61, 62, 63, 64, 65] (by decide +kernel) (by decide +kernel)
set_option maxRecDepth 20000 in
theorem gX7_figure_X5_isGone : GoodIn wsX7_figure (wsV RX7 129 RX5 yX5_isGone wsX5_isGone) := goodIn_app (goodIn_of _ (by decide +kernel)) ggX7_figure_X5_isGone
set_option maxRecDepth 20000 in
theorem ggX7_watcher_X7_isWatcher : GoodIn wsX7_watcher wsX7_isWatcher := goodIn_r _ [11, 1, 2, 12, 13, 14, 10, 15, 32, 33, 34, 35, 36, 37, 38, 39, 40, 41, 42, 43, 44, 45, 46, 47, 48, 49, 50, 51, 52, 53, 54, 55, 56, 57, 58, 59, 60, 61] (by decide +kernel) (by decide +kernel)
set_option maxRecDepth 20000 in
theorem gX7_watcher_X7_isWatcher : GoodIn wsX7_watcher (wsV RX7 135 RX7 yX7_isWatcher wsX7_isWatcher) := goodIn_app (goodIn_of _ (by decide +kernel)) ggX7_watcher_X7_isWatcher
set_option maxRecDepth 20000 in
theorem ggX7_watcher_X7_within : GoodIn wsX7_watcher wsX7_within := goodIn_r _ [15] (by decide +kernel) (by decide +kernel)
set_option maxRecDepth 20000 in
theorem gX7_watcher_X7_within : GoodIn wsX7_watcher (va_wsS RX7 78 yX7_within wsX7_within) := goodIn_app (goodIn_of _ (by decide +kernel)) ggX7_watcher_X7_within
set_option maxRecDepth 20000 in
theorem ggX7_watcher_X7_refused : GoodIn wsX7_watcher wsX7_refused := goodIn_r _ [19, 20, 32, 33, 34, 35, 36, 37, 38, 39, 40, 41, 42] (by decide +kernel) (by decide +kernel)
set_option maxRecDepth 20000 in
theorem gX7_watcher_X7_refused : GoodIn wsX7_watcher (wsV RX7 82 RX7 yX7_refused wsX7_refused) := goodIn_app (goodIn_of _ (by decide +kernel)) ggX7_watcher_X7_refused
set_option maxRecDepth 20000 in
theorem ggX7_watcher_X7_answered : GoodIn wsX7_watcher wsX7_answered := goodIn_r _ [24, 20, 32, 33, 34, 35, 36, 37, 38, 39, 40, 41, 42] (by decide +kernel) (by decide +kernel)
set_option maxRecDepth 20000 in
theorem gX7_watcher_X7_answered : GoodIn wsX7_watcher (wsV RX7 113 RX7 yX7_answered wsX7_answered) := goodIn_app (goodIn_of _ (by decide +kernel)) ggX7_watcher_X7_answered
set_option maxRecDepth 20000 in
theorem ggX7_watcher_X6_placeOf : GoodIn wsX7_watcher wsX6_placeOf := goodIn_r _ [29, 30, 31, 58, 59, 60, 61] (by decide +kernel) (by decide +kernel)
set_option maxRecDepth 20000 in
theorem gX7_watcher_X6_placeOf : GoodIn wsX7_watcher (wsV RX7 150 RX6 yX6_placeOf wsX6_placeOf) := goodIn_app (goodIn_of _ (by decide +kernel)) ggX7_watcher_X6_placeOf
set_option maxRecDepth 20000 in
theorem ggX7_alive_X7_hasGallery : GoodIn wsX7_alive wsX7_hasGallery := goodIn_r _ [7, 8, 9, 19, 20, 21, 22, 23, 24, 25, 26, 27, 28, 29, 37, 38, 39, 40, 41, 42, 43, 44, 45, 46, 47, 48, 49, 50, 51] (by decide +kernel) (by decide +kernel)
set_option maxRecDepth 20000 in
theorem gX7_alive_X7_hasGallery : GoodIn wsX7_alive (wsV RX7 154 RX7 yX7_hasGallery wsX7_hasGallery) := goodIn_app (goodIn_of _ (by decide +kernel)) ggX7_alive_X7_hasGallery
set_option maxRecDepth 20000 in
theorem ggX7_alive_X7_refused : GoodIn wsX7_alive wsX7_refused := goodIn_r _ [13, 14, 19, 20, 21, 22, 23, 24, 25, 26, 27, 28, 29] (by decide +kernel) (by decide +kernel)
set_option maxRecDepth 20000 in
theorem gX7_alive_X7_refused : GoodIn wsX7_alive (wsV RX7 82 RX7 yX7_refused wsX7_refused) := goodIn_app (goodIn_of _ (by decide +kernel)) ggX7_alive_X7_refused
set_option maxRecDepth 20000 in
theorem ggX7_alive_X7_answered : GoodIn wsX7_alive wsX7_answered := goodIn_r _ [18, 14, 19, 20, 21, 22, 23, 24, 25, 26, 27, 28, 29] (by decide +kernel) (by decide +kernel)
set_option maxRecDepth 20000 in
theorem gX7_alive_X7_answered : GoodIn wsX7_alive (wsV RX7 113 RX7 yX7_answered wsX7_answered) := goodIn_app (goodIn_of _ (by decide +kernel)) ggX7_alive_X7_answered
set_option maxRecDepth 20000 in
theorem ggX7_left_X7_hasGallery : GoodIn wsX7_left wsX7_hasGallery := goodIn_r _ [9, 1, 10, 20, 21, 22, 23, 24, 25, 26, 27, 28, 29, 30, 31, 32, 33, 34, 35, 36, 37, 38, 39, 40, 41, 42, 43, 44, 45] (by decide +kernel) (by decide +kernel)
set_option maxRecDepth 20000 in
theorem gX7_left_X7_hasGallery : GoodIn wsX7_left (wsV RX7 154 RX7 yX7_hasGallery wsX7_hasGallery) := goodIn_app (goodIn_of _ (by decide +kernel)) ggX7_left_X7_hasGallery
