set_option maxRecDepth 20000 in
theorem ggX7_planRoutes_X5_copyFrom : GoodIn wsX7_planRoutes wsX5_copyFrom := goodIn_r _ [10, 11, 12, 13, 14, 15, 16, 17, 144, 145, 146, 147, 148, 149, 150] (by decide +kernel) (by decide +kernel)
set_option maxRecDepth 20000 in
theorem gX7_planRoutes_X5_copyFrom : GoodIn wsX7_planRoutes (wsV RX7 194 RX5 yX5_copyFrom wsX5_copyFrom) := goodIn_app (goodIn_of _ (by decide +kernel)) ggX7_planRoutes_X5_copyFrom
set_option maxRecDepth 20000 in
theorem ggX7_planRoutes_X7_placeOfActing : GoodIn wsX7_planRoutes wsX7_placeOfActing := goodIn_r _ [22, 1, 23, 4, 24, 25, 26, 27, 28, 29, 30, 31, 32, 33, 34, 35, 36, 37, 38, 39, 40, 41, 42, 43, 21, 44, 45, 46, 47, 48, 49, 50, 51, 52, 53, 54, 9, 55, 14, 56, 57, 58, 59, 60, 61, 62, 63, 64, 65, 66, 67, 68, 69, 70, 71, 72, 73, 74, 75, 76, 77, 78, 79, 80, 81, 82, 83, 84, 85, 86, 87, 88, 89, 90, 91, 92, 12, 13, 93, 118, 119, 120, 121, 122, 123, 124, 125, 126, 127, 128, 144, 145, 146, 147, 148, 149, 150, 129, 130, 131, 132, 133, 134, 135, 136, 137, 138, 139, 140, 141, 142, 143, 151, 152, 153, 154] (by decide +kernel) (by decide +kernel)
set_option maxRecDepth 20000 in
theorem gX7_planRoutes_X7_placeOfActing : GoodIn wsX7_planRoutes (wsV RX7 209 RX7 yX7_placeOfActing wsX7_placeOfActing) := goodIn_app (goodIn_of _ (by decide +kernel)) ggX7_planRoutes_X7_placeOfActing
set_option maxRecDepth 20000 in
theorem ggX7_planRoutes_X4_aim : GoodIn wsX7_planRoutes wsX4_aim := goodIn_r _ [98, 99, 43, 21, 44, 155, 156, 157] (by decide +kernel) (by decide +kernel)
set_option maxRecDepth 20000 in
theorem gX7_planRoutes_X4_aim : GoodIn wsX7_planRoutes (wsV RX7 368 RX4 yX4_aim wsX4_aim) := goodIn_app (goodIn_of _ (by decide +kernel)) ggX7_planRoutes_X4_aim
set_option maxRecDepth 20000 in
theorem ggX7_planRoutes_X4_weigh : GoodIn wsX7_planRoutes wsX4_weigh := goodIn_r _ [103, 104, 105, 106, 107, 108, 109, 110, 111, 112, 97, 113, 114, 115, 116, 117, 99, 155, 156, 157] (by decide +kernel) (by decide +kernel)
set_option maxRecDepth 20000 in
theorem gX7_planRoutes_X4_weigh : GoodIn wsX7_planRoutes (wsV RX7 372 RX4 yX4_weigh wsX4_weigh) := goodIn_app (goodIn_of _ (by decide +kernel)) ggX7_planRoutes_X4_weigh
set_option maxRecDepth 20000 in
theorem ggX7_postsHold_X5_copyFrom : GoodIn wsX7_postsHold wsX5_copyFrom := goodIn_r _ [9, 10, 11, 12, 13, 14, 15, 16, 106, 107, 108, 109, 110, 111, 112] (by decide +kernel) (by decide +kernel)
set_option maxRecDepth 20000 in
theorem gX7_postsHold_X5_copyFrom : GoodIn wsX7_postsHold (wsV RX7 194 RX5 yX5_copyFrom wsX5_copyFrom) := goodIn_app (goodIn_of _ (by decide +kernel)) ggX7_postsHold_X5_copyFrom
set_option maxRecDepth 20000 in
theorem ggX7_postsHold_X7_minutesTillGone : GoodIn wsX7_postsHold wsX7_minutesTillGone := goodIn_r _ [21, 3, 22, 23, 24, 25, 26, 27, 28, 29, 30, 31, 32, 33, 34, 35, 36, 37, 38, 39, 40, 41, 20, 42, 43, 44, 45, 46, 47, 48, 49, 50, 51, 52, 8, 53, 13, 54, 55, 56, 57, 58, 59, 60, 61, 62, 63, 64, 65, 66, 67, 68, 69, 70, 71, 72, 73, 74, 75, 76, 77, 78, 79, 80, 81, 82, 83, 84, 85, 86, 87, 88, 89, 90, 11, 12, 91, 92, 93, 94, 95, 96, 97, 98, 99, 100, 101, 106, 107, 108, 109, 110, 111, 112, 113, 114, 115, 116, 117, 118, 119, 120, 121, 122, 123, 124, 125, 126, 127, 102, 103, 104, 105] (by decide +kernel) (by decide +kernel)
set_option maxRecDepth 20000 in
theorem gX7_postsHold_X7_minutesTillGone : GoodIn wsX7_postsHold (wsV RX7 198 RX7 yX7_minutesTillGone wsX7_minutesTillGone) := goodIn_app (goodIn_of _ (by decide +kernel)) ggX7_postsHold_X7_minutesTillGone
set_option maxRecDepth 20000 in
theorem ggX7_isRest_X7_figureShare : GoodIn wsX7_isRest wsX7_figureShare := goodIn_r _ [4] (by decide +kernel) (by decide +kernel)
set_option maxRecDepth 20000 in
theorem gX7_isRest_X7_figureShare : GoodIn wsX7_isRest (va_wsS RX7 303 yX7_figureShare wsX7_figureShare) := goodIn_app (goodIn_of _ (by decide +kernel)) ggX7_isRest_X7_figureShare
set_option maxRecDepth 20000 in
theorem ggX7_isRest_X7_attendantShare : GoodIn wsX7_isRest wsX7_attendantShare := goodIn_r _ [7] (by decide +kernel) (by decide +kernel)
set_option maxRecDepth 20000 in
theorem gX7_isRest_X7_attendantShare : GoodIn wsX7_isRest (va_wsS RX7 299 yX7_attendantShare wsX7_attendantShare) := goodIn_app (goodIn_of _ (by decide +kernel)) ggX7_isRest_X7_attendantShare
set_option maxRecDepth 20000 in
theorem ggX7_ownTurns_X0_next : GoodIn wsX7_ownTurns wsX0_next := goodIn_r _ [8, 9, 10, 11, 30, 31, 32, 33, 34, 35, 36, 37, 38, 39, 40, 41, 42, 43, 44] (by decide +kernel) (by decide +kernel)
set_option maxRecDepth 20000 in
theorem gX7_ownTurns_X0_next : GoodIn wsX7_ownTurns (wsV RX7 174 RX0 yX0_next wsX0_next) := goodIn_app (goodIn_of _ (by decide +kernel)) ggX7_ownTurns_X0_next
set_option maxRecDepth 20000 in
theorem ggX8_next_X8_see : GoodIn wsX8_next wsX8_see := goodIn_r _ [11, 12, 13, 20, 21, 22, 23, 24, 25, 26, 27, 28, 29, 30, 31, 32, 33, 34, 35, 36, 37, 38, 39, 40, 41, 42, 43, 44, 45, 46, 47, 48, 49, 50, 51, 52, 53, 54, 55, 56, 57, 58, 59] (by decide +kernel) (by decide +kernel)
set_option maxRecDepth 20000 in
theorem gX8_next_X8_see : GoodIn wsX8_next (wsV RX8 74 RX8 yX8_see wsX8_see) := goodIn_app (goodIn_of _ (by decide +kernel)) ggX8_next_X8_see
set_option maxRecDepth 20000 in
theorem ggX8_next_X8_isSmall : GoodIn wsX8_next wsX8_isSmall := goodIn_r _ [16] (by decide +kernel) (by decide +kernel)
set_option maxRecDepth 20000 in
theorem gX8_next_X8_isSmall : GoodIn wsX8_next (va_wsS RX8 90 yX8_isSmall wsX8_isSmall) := goodIn_app (goodIn_of _ (by decide +kernel)) ggX8_next_X8_isSmall
set_option maxRecDepth 20000 in
theorem ggX8_next_X8_isDigit : GoodIn wsX8_next wsX8_isDigit := goodIn_r _ [19] (by decide +kernel) (by decide +kernel)
set_option maxRecDepth 20000 in
theorem gX8_next_X8_isDigit : GoodIn wsX8_next (va_wsS RX8 94 yX8_isDigit wsX8_isDigit) := goodIn_app (goodIn_of _ (by decide +kernel)) ggX8_next_X8_isDigit
set_option maxRecDepth 20000 in
theorem ggX8_isWord_J0_length_8abf5 : GoodIn wsX8_isWord wsJ0_length_8abf5 := goodIn_r _ [9, 10, 11, 12, 13, 8, 14, 15, 16] (by decide +kernel) (by decide +kernel)
set_option maxRecDepth 20000 in
theorem gX8_isWord_J0_length_8abf5 : GoodIn wsX8_isWord (wsV RX8 104 RJ0 yJ0_length_8abf5 wsJ0_length_8abf5) := goodIn_app (goodIn_of _ (by decide +kernel)) ggX8_isWord_J0_length_8abf5
set_option maxRecDepth 20000 in
theorem ggX8_isWord_J0_charAt_5068e : GoodIn wsX8_isWord wsJ0_charAt_5068e := goodIn_r _ [20, 10, 21, 22, 23, 8, 24, 15, 16, 25, 26, 27, 28, 29, 30, 31, 32, 33, 34, 35, 36, 37, 38, 39, 40, 41, 42, 43, 44, 45, 46, 47, 48, 49, 50, 51, 52, 53] (by decide +kernel) (by decide +kernel)
set_option maxRecDepth 20000 in
theorem gX8_isWord_J0_charAt_5068e : GoodIn wsX8_isWord (wsV RX8 110 RJ0 yJ0_charAt_5068e wsJ0_charAt_5068e) := goodIn_app (goodIn_of _ (by decide +kernel)) ggX8_isWord_J0_charAt_5068e
set_option maxRecDepth 20000 in
theorem ggX8_takesWord_X8_isWord : GoodIn wsX8_takesWord wsX8_isWord := goodIn_r _ [5, 6, 7, 8, 9, 10, 11, 12, 13, 14, 15, 16, 17, 18, 19, 20, 21, 22, 23, 24, 25, 26, 27, 28, 29, 30, 31, 32, 33, 34, 35, 36, 37, 38, 39, 40, 41, 42, 43, 44, 45, 46, 47, 48, 49, 50, 51, 52, 53, 54, 55, 56, 57, 58, 78, 79, 80, 81, 82, 83, 84, 85, 86, 87, 88, 89, 90, 91, 92, 93, 94, 95, 96, 97, 98, 99, 100, 101, 102, 103, 104, 105, 106, 107, 108, 109, 110, 111, 112, 113, 114, 115, 116, 117] (by decide +kernel) (by decide +kernel)
set_option maxRecDepth 20000 in
theorem gX8_takesWord_X8_isWord : GoodIn wsX8_takesWord (wsV RX8 114 RX8 yX8_isWord wsX8_isWord) := goodIn_app (goodIn_of _ (by decide +kernel)) ggX8_takesWord_X8_isWord
set_option maxRecDepth 20000 in
theorem ggX8_takesWord_X8_next : GoodIn wsX8_takesWord wsX8_next := goodIn_r _ [62, 63, 64, 8, 65, 7, 9, 66, 67, 68, 4, 69, 70, 71, 72, 73, 74, 75, 76, 77, 78, 79, 80, 81, 82, 83, 84, 85, 86, 87, 88, 89, 90, 91, 92, 93, 94, 95, 96, 97, 98, 99, 100, 101, 102, 103, 104, 105, 106, 107, 108, 109, 110, 111, 112, 113, 114, 115, 116, 117] (by decide +kernel) (by decide +kernel)
set_option maxRecDepth 20000 in
theorem gX8_takesWord_X8_next : GoodIn wsX8_takesWord (wsV RX8 118 RX8 yX8_next wsX8_next) := goodIn_app (goodIn_of _ (by decide +kernel)) ggX8_takesWord_X8_next
set_option maxRecDepth 20000 in
theorem ggX8_must_X8_takesWord : GoodIn wsX8_must wsX8_takesWord := goodIn_r _ [7, 8, 9, 10, 6, 11, 1, 12, 13, 14, 15, 16, 17, 18, 19, 20, 21, 22, 23, 24, 25, 26, 27, 28, 29, 30, 31, 32, 33, 34, 35, 36, 37, 38, 39, 40, 41, 42, 43, 44, 45, 46, 47, 48, 49, 50, 51, 52, 53, 54, 55, 56, 57, 58, 59, 60, 61, 62, 63, 64, 65, 66, 67, 68, 2, 69, 70, 71, 72, 73, 74, 75, 76, 77, 78, 79, 80, 81, 88, 89, 90, 91, 92, 93, 94, 95, 96, 97, 98, 99, 100, 101, 102, 103, 104, 105, 106, 107, 108, 109, 110, 111, 112, 113, 114, 115, 116, 117, 118, 119, 120, 121, 122, 123, 124, 125, 126, 127] (by decide +kernel) (by decide +kernel)
set_option maxRecDepth 20000 in
theorem gX8_must_X8_takesWord : GoodIn wsX8_must (wsV RX8 121 RX8 yX8_takesWord wsX8_takesWord) := goodIn_app (goodIn_of _ (by decide +kernel)) ggX8_must_X8_takesWord
set_option maxRecDepth 20000 in
theorem ggX8_must_X8_wrong : GoodIn wsX8_must wsX8_wrong := goodIn_r _ [85, 1, 86, 87, 88, 89, 90, 91, 92, 93, 94, 95, 96, 97, 98, 99, 100, 101, 102, 103, 104, 105, 106, 107, 108, 109, 110, 111, 112, 113, 114, 115, 116, 117, 118, 119, 120, 121, 122, 123, 124, 125, 126, 127] (by decide +kernel) (by decide +kernel)
set_option maxRecDepth 20000 in
theorem gX8_must_X8_wrong : GoodIn wsX8_must (wsV RX8 124 RX8 yX8_wrong wsX8_wrong) := goodIn_app (goodIn_of _ (by decide +kernel)) ggX8_must_X8_wrong
set_option maxRecDepth 20000 in
theorem ggX8_newName_X8_isWord : GoodIn wsX8_newName wsX8_isWord := goodIn_r _ [11, 1, 2, 4, 6, 12, 13, 14, 15, 16, 17, 18, 19, 20, 21, 22, 23, 24, 25, 26, 27, 28, 29, 30, 31, 32, 33, 34, 35, 36, 37, 38, 39, 40, 41, 42, 43, 44, 45, 46, 47, 48, 49, 50, 51, 52, 53, 54, 55, 56, 57, 58, 59, 60, 89, 90, 91, 92, 93, 94, 95, 96, 97, 98, 99, 100, 101, 102, 103, 104, 105, 106, 107, 108, 109, 110, 111, 112, 113, 114, 115, 116, 117, 118, 119, 120, 121, 122, 123, 124, 125, 126, 127, 128] (by decide +kernel) (by decide +kernel)
set_option maxRecDepth 20000 in
theorem gX8_newName_X8_isWord : GoodIn wsX8_newName (wsV RX8 114 RX8 yX8_isWord wsX8_isWord) := goodIn_app (goodIn_of _ (by decide +kernel)) ggX8_newName_X8_isWord
set_option maxRecDepth 20000 in
theorem ggX8_newName_X8_wrong : GoodIn wsX8_newName wsX8_wrong := goodIn_r _ [64, 1, 65, 66, 89, 90, 91, 92, 93, 94, 95, 96, 97, 98, 99, 100, 101, 102, 103, 104, 105, 106, 107, 108, 109, 110, 111, 112, 113, 114, 115, 116, 117, 118, 119, 120, 121, 122, 123, 124, 125, 126, 127, 128] (by decide +kernel) (by decide +kernel)
set_option maxRecDepth 20000 in
theorem gX8_newName_X8_wrong : GoodIn wsX8_newName (wsV RX8 124 RX8 yX8_wrong wsX8_wrong) := goodIn_app (goodIn_of _ (by decide +kernel)) ggX8_newName_X8_wrong
set_option maxRecDepth 20000 in
theorem ggX8_newName_X8_isKnown : GoodIn wsX8_newName wsX8_isKnown := goodIn_r _ [70, 5, 4, 6, 89, 90, 91, 92, 93, 94, 95, 96, 97, 98, 99, 100, 101, 102, 103, 104, 105, 106, 107, 108, 109, 110, 111, 112, 113, 114, 115, 116, 117, 118, 119, 120, 121, 122, 123, 124, 125, 126, 127, 128] (by decide +kernel) (by decide +kernel)
set_option maxRecDepth 20000 in
theorem gX8_newName_X8_isKnown : GoodIn wsX8_newName (wsV RX8 138 RX8 yX8_isKnown wsX8_isKnown) := goodIn_app (goodIn_of _ (by decide +kernel)) ggX8_newName_X8_isKnown
set_option maxRecDepth 20000 in
theorem ggX8_newName_X8_next : GoodIn wsX8_newName wsX8_next := goodIn_r _ [74, 75, 3, 4, 76, 2, 6, 77, 78, 79, 10, 80, 81, 82, 83, 84, 85, 86, 87, 88, 89, 90, 91, 92, 93, 94, 95, 96, 97, 98, 99, 100, 101, 102, 103, 104, 105, 106, 107, 108, 109, 110, 111, 112, 113, 114, 115, 116, 117, 118, 119, 120, 121, 122, 123, 124, 125, 126, 127, 128] (by decide +kernel) (by decide +kernel)
set_option maxRecDepth 20000 in
theorem gX8_newName_X8_next : GoodIn wsX8_newName (wsV RX8 118 RX8 yX8_next wsX8_next) := goodIn_app (goodIn_of _ (by decide +kernel)) ggX8_newName_X8_next
set_option maxRecDepth 20000 in
theorem ggX8_pass_X8_next : GoodIn wsX8_pass wsX8_next := goodIn_r _ [6, 7, 8, 9, 10, 11, 12, 13, 14, 15, 5, 16, 17, 18, 19, 20, 21, 22, 23, 24, 25, 26, 27, 28, 29, 30, 31, 32, 33, 34, 35, 36, 37, 38, 39, 40, 41, 42, 43, 44, 45, 46, 47, 48, 49, 50, 51, 52, 53, 54, 55, 56, 57, 58, 59, 60, 61, 62, 63, 64] (by decide +kernel) (by decide +kernel)
set_option maxRecDepth 20000 in
theorem gX8_pass_X8_next : GoodIn wsX8_pass (wsV RX8 118 RX8 yX8_next wsX8_next) := goodIn_app (goodIn_of _ (by decide +kernel)) ggX8_pass_X8_next
set_option maxRecDepth 20000 in
theorem ggX8_numberHere_X8_wrong : GoodIn wsX8_numberHere wsX8_wrong := goodIn_r _ [9, 1, 10, 11, 15, 16, 17, 18, 19, 20, 21, 22, 23, 24, 25, 26, 27, 28, 29, 30, 31, 32, 33, 34, 35, 36, 37, 38, 39, 40, 41, 42, 43, 44, 45, 46, 47, 48, 49, 50, 51, 52, 53, 54] (by decide +kernel) (by decide +kernel)
set_option maxRecDepth 20000 in
theorem gX8_numberHere_X8_wrong : GoodIn wsX8_numberHere (wsV RX8 124 RX8 yX8_wrong wsX8_wrong) := goodIn_app (goodIn_of _ (by decide +kernel)) ggX8_numberHere_X8_wrong
set_option maxRecDepth 20000 in
theorem ggX8_numberHere_X8_in : GoodIn wsX8_numberHere wsX8_in := goodIn_r _ [14] (by decide +kernel) (by decide +kernel)
set_option maxRecDepth 20000 in
theorem gX8_numberHere_X8_in : GoodIn wsX8_numberHere (va_wsS RX8 142 yX8_in wsX8_in) := goodIn_app (goodIn_of _ (by decide +kernel)) ggX8_numberHere_X8_in
set_option maxRecDepth 20000 in
theorem ggX8_number_X8_numberHere : GoodIn wsX8_number wsX8_numberHere := goodIn_r _ [5, 6, 7, 8, 9, 10, 11, 12, 4, 13, 14, 15, 16, 17, 18, 42, 43, 44, 45, 46, 47, 48, 49, 50, 51, 52, 53, 54, 55, 56, 57, 58, 59, 60, 61, 62, 63, 64, 65, 66, 67, 68, 69, 70, 71, 72, 73, 74, 75, 76, 77, 78, 79, 80, 81] (by decide +kernel) (by decide +kernel)
set_option maxRecDepth 20000 in
theorem gX8_number_X8_numberHere : GoodIn wsX8_number (wsV RX8 146 RX8 yX8_numberHere wsX8_numberHere) := goodIn_app (goodIn_of _ (by decide +kernel)) ggX8_number_X8_numberHere
set_option maxRecDepth 20000 in
theorem ggX8_number_X8_pass : GoodIn wsX8_number wsX8_pass := goodIn_r _ [22, 6, 23, 24, 25, 4, 26, 27, 8, 28, 9, 7, 29, 30, 31, 32, 33, 34, 35, 36, 37, 38, 39, 40, 41, 42, 43, 44, 45, 46, 47, 48, 49, 50, 51, 52, 53, 54, 55, 56, 57, 58, 59, 60, 61, 62, 63, 64, 65, 66, 67, 68, 69, 70, 71, 72, 73, 74, 75, 76, 77, 78, 79, 80, 81] (by decide +kernel) (by decide +kernel)
set_option maxRecDepth 20000 in
theorem gX8_number_X8_pass : GoodIn wsX8_number (wsV RX8 150 RX8 yX8_pass wsX8_pass) := goodIn_app (goodIn_of _ (by decide +kernel)) ggX8_number_X8_pass
set_option maxRecDepth 20000 in
theorem ggX8_after_X8_must : GoodIn wsX8_after wsX8_must := goodIn_r _ [5, 6, 7, 8, 9, 10, 4, 11, 12, 13, 14, 15, 16, 17, 18, 19, 20, 21, 22, 23, 24, 25, 26, 27, 28, 29, 30, 31, 32, 33, 34, 35, 36, 37, 38, 39, 40, 41, 42, 43, 44, 45, 46, 47, 48, 49, 50, 51, 52, 53, 54, 55, 56, 57, 58, 59, 60, 61, 62, 63, 64, 65, 66, 67, 68, 69, 70, 71, 72, 73, 74, 75, 76, 77, 78, 79, 80, 81, 82, 83, 84, 85, 86, 87, 88, 89, 90, 91, 107, 108, 109, 110, 111, 112, 113, 114, 115, 116, 117, 118, 119, 120, 121, 122, 123, 124, 125, 126, 127, 128, 129, 130, 131, 132, 133, 134, 135, 136, 137, 138, 139, 140, 141, 142, 143, 144, 145, 146] (by decide +kernel) (by decide +kernel)
set_option maxRecDepth 20000 in
theorem gX8_after_X8_must : GoodIn wsX8_after (wsV RX8 153 RX8 yX8_must wsX8_must) := goodIn_app (goodIn_of _ (by decide +kernel)) ggX8_after_X8_must
set_option maxRecDepth 20000 in
theorem ggX8_after_X8_number : GoodIn wsX8_after wsX8_number := goodIn_r _ [95, 96, 97, 98, 4, 99, 6, 16, 7, 73, 86, 87, 88, 89, 90, 91, 100, 101, 102, 103, 104, 105, 106, 68, 69, 70, 71, 72, 17, 18, 74, 75, 76, 77, 78, 79, 80, 81, 82, 83, 84, 85, 107, 108, 109, 110, 111, 112, 113, 114, 115, 116, 117, 118, 119, 120, 121, 122, 123, 124, 125, 126, 127, 128, 129, 130, 131, 132, 133, 134, 135, 136, 137, 138, 139, 140, 141, 142, 143, 144, 145, 146] (by decide +kernel) (by decide +kernel)
set_option maxRecDepth 20000 in
theorem gX8_after_X8_number : GoodIn wsX8_after (wsV RX8 157 RX8 yX8_number wsX8_number) := goodIn_app (goodIn_of _ (by decide +kernel)) ggX8_after_X8_number
set_option maxRecDepth 20000 in
theorem ggX8_gallery_X8_good : GoodIn wsX8_gallery wsX8_good := goodIn_r _ [18, 19, 20, 171, 172, 173, 174, 175, 176, 177, 178, 179, 180, 181, 182, 183, 184, 185, 186, 187, 188, 189, 190, 191, 192, 193, 194, 195, 196, 197, 198, 199, 200, 201, 202, 203, 204, 205, 206, 207, 208, 209, 210] (by decide +kernel) (by decide +kernel)
set_option maxRecDepth 20000 in
theorem gX8_gallery_X8_good : GoodIn wsX8_gallery (wsV RX8 160 RX8 yX8_good wsX8_good) := goodIn_app (goodIn_of _ (by decide +kernel)) ggX8_gallery_X8_good
set_option maxRecDepth 20000 in
theorem ggX8_gallery_X8_in : GoodIn wsX8_gallery wsX8_in := goodIn_r _ [23] (by decide +kernel) (by decide +kernel)
set_option maxRecDepth 20000 in
theorem gX8_gallery_X8_in : GoodIn wsX8_gallery (va_wsS RX8 142 yX8_in wsX8_in) := goodIn_app (goodIn_of _ (by decide +kernel)) ggX8_gallery_X8_in
set_option maxRecDepth 20000 in
theorem ggX8_gallery_X8_no : GoodIn wsX8_gallery wsX8_no := goodIn_r _ [27, 20, 171, 172, 173, 174, 175, 176, 177, 178, 179, 180, 181, 182, 183, 184, 185, 186, 187, 188, 189, 190, 191, 192, 193, 194, 195, 196, 197, 198, 199, 200, 201, 202, 203, 204, 205, 206, 207, 208, 209, 210] (by decide +kernel) (by decide +kernel)
set_option maxRecDepth 20000 in
theorem gX8_gallery_X8_no : GoodIn wsX8_gallery (wsV RX8 163 RX8 yX8_no wsX8_no) := goodIn_app (goodIn_of _ (by decide +kernel)) ggX8_gallery_X8_no
set_option maxRecDepth 20000 in
theorem ggX8_gallery_X8_next : GoodIn wsX8_gallery wsX8_next := goodIn_r _ [31, 6, 8, 32, 33, 7, 34, 35, 36, 37, 17, 38, 5, 39, 40, 41, 42, 43, 44, 45, 171, 172, 173, 174, 175, 176, 177, 178, 179, 180, 181, 182, 183, 184, 185, 186, 187, 188, 189, 190, 191, 192, 193, 194, 195, 196, 197, 198, 199, 200, 201, 202, 203, 204, 205, 206, 207, 208, 209, 210] (by decide +kernel) (by decide +kernel)
set_option maxRecDepth 20000 in
theorem gX8_gallery_X8_next : GoodIn wsX8_gallery (wsV RX8 118 RX8 yX8_next wsX8_next) := goodIn_app (goodIn_of _ (by decide +kernel)) ggX8_gallery_X8_next
set_option maxRecDepth 20000 in
theorem ggX8_gallery_X8_readLine : GoodIn wsX8_gallery wsX8_readLine := goodIn_r _ [49, 4, 8, 50, 51, 52, 17, 53, 3, 7, 32, 34, 54, 55, 56, 57, 58, 59, 60, 61, 62, 63, 64, 65, 66, 67, 68, 69, 70, 71, 72, 73, 74, 75, 76, 77, 78, 79, 80, 81, 82, 83, 84, 85, 86, 87, 88, 89, 90, 91, 92, 93, 94, 95, 96, 97, 98, 99, 100, 101, 102, 103, 104, 105, 106, 107, 108, 109, 110, 2, 111, 28, 29, 30, 31, 6, 33, 35, 36, 37, 38, 5, 39, 40, 41, 42, 43, 44, 45, 112, 113, 114, 115, 116, 117, 118, 119, 120, 121, 122, 123, 124, 125, 126, 127, 128, 129, 130, 131, 21, 22, 23, 132, 133, 134, 135, 136, 137, 138, 139, 140, 141, 142, 143, 144, 145, 146, 147, 148, 149, 150, 151, 152, 153, 154, 155, 156, 157, 158, 159, 160, 161, 162, 163, 164, 165, 166, 167, 171, 172, 173, 174, 175, 176, 177, 178, 179, 180, 181, 182, 183, 184, 185, 186, 187, 188, 189, 190, 191, 192, 193, 194, 195, 196, 197, 198, 199, 200, 201, 202, 203, 204, 205, 206, 207, 208, 209, 210] (by decide +kernel) (by decide +kernel)
set_option maxRecDepth 20000 in
theorem gX8_gallery_X8_readLine : GoodIn wsX8_gallery (wsV RX8 166 RX8 yX8_readLine wsX8_readLine) := goodIn_app (goodIn_of _ (by decide +kernel)) ggX8_gallery_X8_readLine
set_option maxRecDepth 20000 in
theorem ggX8_gallery_X8_wrong : GoodIn wsX8_gallery wsX8_wrong := goodIn_r _ [110, 3, 2, 111, 171, 172, 173, 174, 175, 176, 177, 178, 179, 180, 181, 182, 183, 184, 185, 186, 187, 188, 189, 190, 191, 192, 193, 194, 195, 196, 197, 198, 199, 200, 201, 202, 203, 204, 205, 206, 207, 208, 209, 210] (by decide +kernel) (by decide +kernel)
set_option maxRecDepth 20000 in
theorem gX8_gallery_X8_wrong : GoodIn wsX8_gallery (wsV RX8 124 RX8 yX8_wrong wsX8_wrong) := goodIn_app (goodIn_of _ (by decide +kernel)) ggX8_gallery_X8_wrong
set_option maxRecDepth 20000 in
theorem ggX8_gallery_X8_copy : GoodIn wsX8_gallery wsX8_copy := goodIn_r _ [170] (by decide +kernel) (by decide +kernel)
set_option maxRecDepth 20000 in
theorem gX8_gallery_X8_copy : GoodIn wsX8_gallery (va_wsS RX8 169 yX8_copy wsX8_copy) := goodIn_app (goodIn_of _ (by decide +kernel)) ggX8_gallery_X8_copy
set_option maxRecDepth 20000 in
theorem ggX8_begins_X8_isWord : GoodIn wsX8_begins wsX8_isWord := goodIn_r _ [7, 8, 9, 10, 11, 12, 13, 14, 15, 16, 17, 18, 19, 20, 21, 22, 23, 24, 25, 26, 27, 28, 29, 30, 31, 32, 33, 34, 35, 36, 37, 38, 39, 40, 41, 42, 43, 44, 45, 46, 47, 48, 49, 50, 51, 52, 53, 54, 55, 56, 57, 58, 59, 60, 89, 90, 91, 92, 93, 94, 95, 96, 97, 98, 99, 100, 101, 102, 103, 104, 105, 106, 107, 108, 109, 110, 111, 112, 113, 114, 115, 116, 117, 118, 119, 120, 121, 122, 123, 124, 125, 126, 127, 128] (by decide +kernel) (by decide +kernel)
set_option maxRecDepth 20000 in
theorem gX8_begins_X8_isWord : GoodIn wsX8_begins (wsV RX8 114 RX8 yX8_isWord wsX8_isWord) := goodIn_app (goodIn_of _ (by decide +kernel)) ggX8_begins_X8_isWord
set_option maxRecDepth 20000 in
theorem ggX8_begins_X8_wrong : GoodIn wsX8_begins wsX8_wrong := goodIn_r _ [64, 8, 65, 66, 89, 90, 91, 92, 93, 94, 95, 96, 97, 98, 99, 100, 101, 102, 103, 104, 105, 106, 107, 108, 109, 110, 111, 112, 113, 114, 115, 116, 117, 118, 119, 120, 121, 122, 123, 124, 125, 126, 127, 128] (by decide +kernel) (by decide +kernel)
set_option maxRecDepth 20000 in
theorem gX8_begins_X8_wrong : GoodIn wsX8_begins (wsV RX8 124 RX8 yX8_wrong wsX8_wrong) := goodIn_app (goodIn_of _ (by decide +kernel)) ggX8_begins_X8_wrong
set_option maxRecDepth 20000 in
theorem ggX8_begins_X8_pass : GoodIn wsX8_begins wsX8_pass := goodIn_r _ [70, 8, 71, 72, 73, 6, 74, 75, 1, 10, 76, 9, 11, 77, 78, 79, 80, 81, 82, 83, 84, 85, 86, 87, 88, 89, 90, 91, 92, 93, 94, 95, 96, 97, 98, 99, 100, 101, 102, 103, 104, 105, 106, 107, 108, 109, 110, 111, 112, 113, 114, 115, 116, 117, 118, 119, 120, 121, 122, 123, 124, 125, 126, 127, 128] (by decide +kernel) (by decide +kernel)
set_option maxRecDepth 20000 in
theorem gX8_begins_X8_pass : GoodIn wsX8_begins (wsV RX8 150 RX8 yX8_pass wsX8_pass) := goodIn_app (goodIn_of _ (by decide +kernel)) ggX8_begins_X8_pass
set_option maxRecDepth 20000 in
theorem ggX8_readLine_X8_isWord : GoodIn wsX8_readLine wsX8_isWord := goodIn_r _ [7, 8, 9, 10, 11, 12, 13, 14, 15, 16, 17, 18, 19, 20, 21, 22, 23, 24, 25, 26, 27, 28, 29, 30, 31, 32, 33, 34, 35, 36, 37, 38, 39, 40, 41, 42, 43, 44, 45, 46, 47, 48, 49, 50, 51, 52, 53, 54, 55, 56, 57, 58, 59, 60, 148, 149, 150, 151, 152, 153, 154, 155, 156, 157, 158, 159, 160, 161, 162, 163, 164, 165, 166, 167, 168, 169, 170, 171, 172, 173, 174, 175, 176, 177, 178, 179, 180, 181, 182, 183, 184, 185, 186, 187] (by decide +kernel) (by decide +kernel)
set_option maxRecDepth 20000 in
theorem gX8_readLine_X8_isWord : GoodIn wsX8_readLine (wsV RX8 114 RX8 yX8_isWord wsX8_isWord) := goodIn_app (goodIn_of _ (by decide +kernel)) ggX8_readLine_X8_isWord
set_option maxRecDepth 20000 in
theorem ggX8_readLine_X8_galleryLine : GoodIn wsX8_readLine wsX8_galleryLine := goodIn_r _ [64, 1, 2, 8, 65, 66, 67, 6, 68, 69, 70, 71, 72, 73, 74, 75, 10, 76, 9, 11, 77, 78, 79, 80, 81, 82, 83, 84, 85, 86, 87, 88, 89, 90, 91, 92, 93, 94, 95, 96, 97, 98, 99, 100, 3, 4, 5, 7, 12, 13, 14, 15, 16, 17, 18, 19, 20, 21, 22, 23, 24, 25, 26, 27, 28, 29, 30, 31, 32, 33, 34, 35, 36, 37, 38, 39, 40, 41, 42, 43, 44, 45, 46, 47, 48, 49, 50, 51, 52, 53, 54, 55, 56, 57, 58, 59, 60, 101, 102, 103, 104, 105, 106, 107, 108, 109, 110, 111, 112, 113, 114, 115, 148, 149, 150, 151, 152, 153, 154, 155, 156, 157, 158, 159, 160, 161, 162, 163, 164, 165, 166, 167, 168, 169, 170, 171, 172, 173, 174, 175, 176, 177, 178, 179, 180, 181, 182, 183, 184, 185, 186, 187] (by decide +kernel) (by decide +kernel)
set_option maxRecDepth 20000 in
theorem gX8_readLine_X8_galleryLine : GoodIn wsX8_readLine (wsV RX8 182 RX8 yX8_galleryLine wsX8_galleryLine) := goodIn_app (goodIn_of _ (by decide +kernel)) ggX8_readLine_X8_galleryLine
set_option maxRecDepth 20000 in
theorem ggX8_readLine_X8_lawLine : GoodIn wsX8_readLine wsX8_lawLine := goodIn_r _ [119, 1, 2, 8, 65, 66, 67, 6, 68, 69, 70, 71, 72, 73, 74, 75, 10, 76, 9, 11, 77, 78, 79, 80, 81, 82, 83, 84, 85, 86, 87, 88, 120, 121, 122, 123, 89, 90, 91, 92, 93, 94, 95, 96, 97, 98, 99, 100, 3, 4, 5, 7, 12, 13, 14, 15, 16, 17, 18, 19, 20, 21, 22, 23, 24, 25, 26, 27, 28, 29, 30, 31, 32, 33, 34, 35, 36, 37, 38, 39, 40, 41, 42, 43, 44, 45, 46, 47, 48, 49, 50, 51, 52, 53, 54, 55, 56, 57, 58, 59, 60, 101, 102, 103, 104, 105, 106, 107, 108, 109, 110, 111, 112, 113, 114, 115, 148, 149, 150, 151, 152, 153, 154, 155, 156, 157, 158, 159, 160, 161, 162, 163, 164, 165, 166, 167, 168, 169, 170, 171, 172, 173, 174, 175, 176, 177, 178, 179, 180, 181, 182, 183, 184, 185, 186, 187] (by decide +kernel) (by decide +kernel)
set_option maxRecDepth 20000 in
theorem gX8_readLine_X8_lawLine : GoodIn wsX8_readLine (wsV RX8 185 RX8 yX8_lawLine wsX8_lawLine) := goodIn_app (goodIn_of _ (by decide +kernel)) ggX8_readLine_X8_lawLine
set_option maxRecDepth 20000 in
theorem ggX8_readLine_X8_begins : GoodIn wsX8_readLine wsX8_begins := goodIn_r _ [127, 2, 1, 3, 4, 5, 6, 7, 8, 9, 10, 11, 12, 13, 14, 15, 16, 17, 18, 19, 20, 21, 22, 23, 24, 25, 26, 27, 28, 29, 30, 31, 32, 33, 34, 35, 36, 37, 38, 39, 40, 41, 42, 43, 44, 45, 46, 47, 48, 49, 50, 51, 52, 53, 54, 55, 56, 57, 58, 59, 60, 65, 66, 67, 68, 69, 70, 112, 113, 114, 115, 71, 72, 73, 74, 75, 76, 77, 78, 79, 80, 81, 82, 83, 84, 85, 86, 87, 88, 148, 149, 150, 151, 152, 153, 154, 155, 156, 157, 158, 159, 160, 161, 162, 163, 164, 165, 166, 167, 168, 169, 170, 171, 172, 173, 174, 175, 176, 177, 178, 179, 180, 181, 182, 183, 184, 185, 186, 187] (by decide +kernel) (by decide +kernel)
set_option maxRecDepth 20000 in
theorem gX8_readLine_X8_begins : GoodIn wsX8_readLine (wsV RX8 188 RX8 yX8_begins wsX8_begins) := goodIn_app (goodIn_of _ (by decide +kernel)) ggX8_readLine_X8_begins
set_option maxRecDepth 20000 in
theorem ggX8_readLine_X8_figureLine : GoodIn wsX8_readLine wsX8_figureLine := goodIn_r _ [131, 8, 1, 2, 132, 133, 134, 6, 135, 9, 10, 11, 3, 4, 5, 7, 12, 13, 14, 15, 16, 17, 18, 19, 20, 21, 22, 23, 24, 25, 26, 27, 28, 29, 30, 31, 32, 33, 34, 35, 36, 37, 38, 39, 40, 41, 42, 43, 44, 45, 46, 47, 48, 49, 50, 51, 52, 53, 54, 55, 56, 57, 58, 59, 60, 65, 66, 67, 68, 69, 70, 136, 137, 138, 139, 71, 72, 73, 74, 75, 76, 77, 78, 79, 80, 81, 82, 83, 84, 85, 86, 87, 88, 93, 94, 95, 96, 97, 98, 99, 100, 120, 121, 122, 123, 105, 106, 107, 108, 109, 110, 111, 112, 113, 114, 115, 101, 102, 103, 104, 148, 149, 150, 151, 152, 153, 154, 155, 156, 157, 158, 159, 160, 161, 162, 163, 164, 165, 166, 167, 168, 169, 170, 171, 172, 173, 174, 175, 176, 177, 178, 179, 180, 181, 182, 183, 184, 185, 186, 187] (by decide +kernel) (by decide +kernel)
set_option maxRecDepth 20000 in
theorem gX8_readLine_X8_figureLine : GoodIn wsX8_readLine (wsV RX8 192 RX8 yX8_figureLine wsX8_figureLine) := goodIn_app (goodIn_of _ (by decide +kernel)) ggX8_readLine_X8_figureLine
set_option maxRecDepth 20000 in
theorem ggX8_readLine_X8_watcherLine : GoodIn wsX8_readLine wsX8_watcherLine := goodIn_r _ [143, 8, 1, 132, 133, 134, 6, 135, 9, 2, 10, 11, 3, 4, 5, 7, 12, 13, 14, 15, 16, 17, 18, 19, 20, 21, 22, 23, 24, 25, 26, 27, 28, 29, 30, 31, 32, 33, 34, 35, 36, 37, 38, 39, 40, 41, 42, 43, 44, 45, 46, 47, 48, 49, 50, 51, 52, 53, 54, 55, 56, 57, 58, 59, 60, 65, 66, 67, 68, 69, 70, 136, 137, 138, 139, 71, 72, 73, 74, 75, 76, 77, 78, 79, 80, 81, 82, 83, 84, 85, 86, 87, 88, 120, 121, 122, 123, 89, 90, 91, 92, 93, 94, 95, 96, 97, 98, 99, 100, 101, 102, 103, 104, 105, 106, 107, 108, 109, 110, 111, 112, 113, 114, 115, 148, 149, 150, 151, 152, 153, 154, 155, 156, 157, 158, 159, 160, 161, 162, 163, 164, 165, 166, 167, 168, 169, 170, 171, 172, 173, 174, 175, 176, 177, 178, 179, 180, 181, 182, 183, 184, 185, 186, 187] (by decide +kernel) (by decide +kernel)
set_option maxRecDepth 20000 in
theorem gX8_readLine_X8_watcherLine : GoodIn wsX8_readLine (wsV RX8 195 RX8 yX8_watcherLine wsX8_watcherLine) := goodIn_app (goodIn_of _ (by decide +kernel)) ggX8_readLine_X8_watcherLine
set_option maxRecDepth 20000 in
theorem ggX8_readLine_X8_seenLine : GoodIn wsX8_readLine wsX8_seenLine := goodIn_r _ [147, 8, 1, 2, 120, 121, 122, 6, 123, 101, 102, 103, 104, 105, 106, 107, 108, 9, 76, 65, 66, 67, 68, 69, 70, 109, 110, 111, 112, 113, 114, 115, 71, 72, 73, 74, 75, 10, 11, 77, 78, 79, 80, 81, 82, 83, 84, 85, 86, 87, 88, 93, 94, 95, 96, 97, 98, 99, 100, 3, 4, 5, 7, 12, 13, 14, 15, 16, 17, 18, 19, 20, 21, 22, 23, 24, 25, 26, 27, 28, 29, 30, 31, 32, 33, 34, 35, 36, 37, 38, 39, 40, 41, 42, 43, 44, 45, 46, 47, 48, 49, 50, 51, 52, 53, 54, 55, 56, 57, 58, 59, 60, 148, 149, 150, 151, 152, 153, 154, 155, 156, 157, 158, 159, 160, 161, 162, 163, 164, 165, 166, 167, 168, 169, 170, 171, 172, 173, 174, 175, 176, 177, 178, 179, 180, 181, 182, 183, 184, 185, 186, 187] (by decide +kernel) (by decide +kernel)
set_option maxRecDepth 20000 in
theorem gX8_readLine_X8_seenLine : GoodIn wsX8_readLine (wsV RX8 198 RX8 yX8_seenLine wsX8_seenLine) := goodIn_app (goodIn_of _ (by decide +kernel)) ggX8_readLine_X8_seenLine
set_option maxRecDepth 20000 in
theorem ggX8_readLine_X8_wrong : GoodIn wsX8_readLine wsX8_wrong := goodIn_r _ [68, 8, 69, 70, 148, 149, 150, 151, 152, 153, 154, 155, 156, 157, 158, 159, 160, 161, 162, 163, 164, 165, 166, 167, 168, 169, 170, 171, 172, 173, 174, 175, 176, 177, 178, 179, 180, 181, 182, 183, 184, 185, 186, 187] (by decide +kernel) (by decide +kernel)
set_option maxRecDepth 20000 in
theorem gX8_readLine_X8_wrong : GoodIn wsX8_readLine (wsV RX8 124 RX8 yX8_wrong wsX8_wrong) := goodIn_app (goodIn_of _ (by decide +kernel)) ggX8_readLine_X8_wrong
set_option maxRecDepth 20000 in
theorem ggX8_galleryLine_X8_wrong : GoodIn wsX8_galleryLine wsX8_wrong := goodIn_r _ [8, 3, 9, 10, 112, 113, 114, 115, 116, 117, 118, 119, 120, 121, 122, 123, 124, 125, 126, 127, 128, 129, 130, 131, 132, 133, 134, 135, 136, 137, 138, 139, 140, 141, 142, 143, 144, 145, 146, 147, 148, 149, 150, 151] (by decide +kernel) (by decide +kernel)
set_option maxRecDepth 20000 in
theorem gX8_galleryLine_X8_wrong : GoodIn wsX8_galleryLine (wsV RX8 124 RX8 yX8_wrong wsX8_wrong) := goodIn_app (goodIn_of _ (by decide +kernel)) ggX8_galleryLine_X8_wrong
set_option maxRecDepth 20000 in
theorem ggX8_galleryLine_X8_next : GoodIn wsX8_galleryLine wsX8_next := goodIn_r _ [14, 15, 2, 16, 17, 18, 19, 20, 21, 22, 7, 23, 24, 25, 26, 27, 28, 29, 30, 31, 112, 113, 114, 115, 116, 117, 118, 119, 120, 121, 122, 123, 124, 125, 126, 127, 128, 129, 130, 131, 132, 133, 134, 135, 136, 137, 138, 139, 140, 141, 142, 143, 144, 145, 146, 147, 148, 149, 150, 151] (by decide +kernel) (by decide +kernel)
set_option maxRecDepth 20000 in
theorem gX8_galleryLine_X8_next : GoodIn wsX8_galleryLine (wsV RX8 118 RX8 yX8_next wsX8_next) := goodIn_app (goodIn_of _ (by decide +kernel)) ggX8_galleryLine_X8_next
set_option maxRecDepth 20000 in
theorem ggX8_galleryLine_X8_after : GoodIn wsX8_galleryLine wsX8_after := goodIn_r _ [35, 36, 37, 38, 7, 39, 3, 2, 40, 41, 42, 43, 44, 45, 46, 47, 18, 16, 19, 48, 49, 50, 51, 52, 53, 54, 55, 56, 57, 58, 59, 60, 61, 62, 63, 64, 65, 66, 67, 68, 69, 70, 71, 72, 73, 74, 75, 76, 77, 78, 79, 80, 81, 82, 83, 84, 85, 86, 87, 88, 89, 90, 91, 92, 93, 94, 95, 96, 11, 12, 13, 14, 15, 17, 20, 21, 22, 23, 24, 25, 26, 27, 28, 29, 30, 31, 4, 5, 6, 8, 9, 10, 97, 98, 99, 100, 101, 102, 103, 104, 105, 106, 107, 108, 109, 110, 111, 112, 113, 114, 115, 116, 117, 118, 119, 120, 121, 122, 123, 124, 125, 126, 127, 128, 129, 130, 131, 132, 133, 134, 135, 136, 137, 138, 139, 140, 141, 142, 143, 144, 145, 146, 147, 148, 149, 150, 151] (by decide +kernel) (by decide +kernel)
set_option maxRecDepth 20000 in
theorem gX8_galleryLine_X8_after : GoodIn wsX8_galleryLine (wsV RX8 203 RX8 yX8_after wsX8_after) := goodIn_app (goodIn_of _ (by decide +kernel)) ggX8_galleryLine_X8_after
set_option maxRecDepth 20000 in
theorem ggX8_lawLine_X8_wrong : GoodIn wsX8_lawLine wsX8_wrong := goodIn_r _ [8, 3, 9, 10, 116, 117, 118, 119, 120, 121, 122, 123, 124, 125, 126, 127, 128, 129, 130, 131, 132, 133, 134, 135, 136, 137, 138, 139, 140, 141, 142, 143, 144, 145, 146, 147, 148, 149, 150, 151, 152, 153, 154, 155] (by decide +kernel) (by decide +kernel)
set_option maxRecDepth 20000 in
theorem gX8_lawLine_X8_wrong : GoodIn wsX8_lawLine (wsV RX8 124 RX8 yX8_wrong wsX8_wrong) := goodIn_app (goodIn_of _ (by decide +kernel)) ggX8_lawLine_X8_wrong
set_option maxRecDepth 20000 in
theorem ggX8_lawLine_X8_next : GoodIn wsX8_lawLine wsX8_next := goodIn_r _ [14, 15, 2, 16, 17, 18, 19, 20, 21, 22, 7, 23, 24, 25, 26, 27, 28, 29, 30, 31, 116, 117, 118, 119, 120, 121, 122, 123, 124, 125, 126, 127, 128, 129, 130, 131, 132, 133, 134, 135, 136, 137, 138, 139, 140, 141, 142, 143, 144, 145, 146, 147, 148, 149, 150, 151, 152, 153, 154, 155] (by decide +kernel) (by decide +kernel)
set_option maxRecDepth 20000 in
theorem gX8_lawLine_X8_next : GoodIn wsX8_lawLine (wsV RX8 118 RX8 yX8_next wsX8_next) := goodIn_app (goodIn_of _ (by decide +kernel)) ggX8_lawLine_X8_next
set_option maxRecDepth 20000 in
theorem ggX8_lawLine_X8_last : GoodIn wsX8_lawLine wsX8_last := goodIn_r _ [35, 1, 116, 117, 118, 119, 120, 121, 122, 123, 124, 125, 126, 127, 128, 129, 130, 131, 132, 133, 134, 135, 136, 137, 138, 139, 140, 141, 142, 143, 144, 145, 146, 147, 148, 149, 150, 151, 152, 153, 154, 155] (by decide +kernel) (by decide +kernel)
set_option maxRecDepth 20000 in
theorem gX8_lawLine_X8_last : GoodIn wsX8_lawLine (wsV RX8 215 RX8 yX8_last wsX8_last) := goodIn_app (goodIn_of _ (by decide +kernel)) ggX8_lawLine_X8_last
set_option maxRecDepth 20000 in
theorem ggX8_lawLine_X8_after : GoodIn wsX8_lawLine wsX8_after := goodIn_r _ [39, 40, 41, 42, 7, 43, 3, 2, 44, 45, 46, 47, 48, 49, 50, 51, 18, 16, 19, 52, 53, 54, 55, 56, 57, 58, 59, 60, 61, 62, 63, 64, 65, 66, 67, 68, 69, 70, 71, 72, 73, 74, 75, 76, 77, 78, 79, 80, 81, 82, 83, 84, 85, 86, 87, 88, 89, 90, 91, 92, 93, 94, 95, 96, 97, 98, 99, 100, 11, 12, 13, 14, 15, 17, 20, 21, 22, 23, 24, 25, 26, 27, 28, 29, 30, 31, 4, 5, 6, 8, 9, 10, 101, 102, 103, 104, 105, 106, 107, 108, 109, 110, 111, 112, 113, 114, 115, 116, 117, 118, 119, 120, 121, 122, 123, 124, 125, 126, 127, 128, 129, 130, 131, 132, 133, 134, 135, 136, 137, 138, 139, 140, 141, 142, 143, 144, 145, 146, 147, 148, 149, 150, 151, 152, 153, 154, 155] (by decide +kernel) (by decide +kernel)
set_option maxRecDepth 20000 in
theorem gX8_lawLine_X8_after : GoodIn wsX8_lawLine (wsV RX8 203 RX8 yX8_after wsX8_after) := goodIn_app (goodIn_of _ (by decide +kernel)) ggX8_lawLine_X8_after
set_option maxRecDepth 20000 in
theorem ggX8_figureLine_X8_newName : GoodIn wsX8_figureLine wsX8_newName := goodIn_r _ [8, 1, 9, 3, 10, 2, 11, 12, 13, 14, 7, 15, 16, 17, 18, 19, 20, 21, 22, 23, 24, 25, 26, 27, 28, 29, 30, 31, 32, 33, 34, 35, 36, 37, 38, 39, 40, 41, 42, 43, 44, 45, 46, 47, 48, 49, 50, 51, 52, 53, 54, 55, 56, 57, 58, 59, 60, 61, 62, 63, 64, 65, 66, 67, 68, 69, 70, 71, 72, 73, 74, 75, 76, 77, 78, 79, 80, 81, 82, 83, 84, 85, 86, 87, 88, 89, 90, 91, 92, 120, 121, 122, 123, 124, 125, 126, 127, 128, 129, 130, 131, 132, 133, 134, 135, 136, 137, 138, 139, 140, 141, 142, 143, 144, 145, 146, 147, 148, 149, 150, 151, 152, 153, 154, 155, 156, 157, 158, 159] (by decide +kernel) (by decide +kernel)
set_option maxRecDepth 20000 in
theorem gX8_figureLine_X8_newName : GoodIn wsX8_figureLine (wsV RX8 222 RX8 yX8_newName wsX8_newName) := goodIn_app (goodIn_of _ (by decide +kernel)) ggX8_figureLine_X8_newName
set_option maxRecDepth 20000 in
theorem ggX8_figureLine_X8_must : GoodIn wsX8_figureLine wsX8_must := goodIn_r _ [96, 1, 3, 97, 98, 99, 7, 100, 12, 13, 14, 15, 9, 10, 11, 16, 17, 18, 19, 20, 21, 22, 23, 24, 25, 26, 27, 28, 29, 30, 31, 32, 33, 34, 35, 36, 37, 38, 39, 40, 41, 42, 43, 44, 45, 46, 47, 48, 49, 50, 51, 52, 53, 54, 55, 56, 57, 58, 59, 60, 61, 62, 63, 64, 75, 76, 77, 78, 79, 80, 81, 82, 83, 84, 85, 86, 87, 88, 89, 90, 91, 92, 65, 66, 67, 68, 69, 70, 120, 121, 122, 123, 124, 125, 126, 127, 128, 129, 130, 131, 132, 133, 134, 135, 136, 137, 138, 139, 140, 141, 142, 143, 144, 145, 146, 147, 148, 149, 150, 151, 152, 153, 154, 155, 156, 157, 158, 159] (by decide +kernel) (by decide +kernel)
set_option maxRecDepth 20000 in
theorem gX8_figureLine_X8_must : GoodIn wsX8_figureLine (wsV RX8 153 RX8 yX8_must wsX8_must) := goodIn_app (goodIn_of _ (by decide +kernel)) ggX8_figureLine_X8_must
set_option maxRecDepth 20000 in
theorem ggX8_figureLine_X8_last : GoodIn wsX8_figureLine wsX8_last := goodIn_r _ [104, 2, 120, 121, 122, 123, 124, 125, 126, 127, 128, 129, 130, 131, 132, 133, 134, 135, 136, 137, 138, 139, 140, 141, 142, 143, 144, 145, 146, 147, 148, 149, 150, 151, 152, 153, 154, 155, 156, 157, 158, 159] (by decide +kernel) (by decide +kernel)
set_option maxRecDepth 20000 in
theorem gX8_figureLine_X8_last : GoodIn wsX8_figureLine (wsV RX8 215 RX8 yX8_last wsX8_last) := goodIn_app (goodIn_of _ (by decide +kernel)) ggX8_figureLine_X8_last
set_option maxRecDepth 20000 in
theorem ggX8_figureLine_X8_numberHere : GoodIn wsX8_figureLine wsX8_numberHere := goodIn_r _ [108, 1, 9, 3, 80, 65, 66, 67, 7, 68, 69, 70, 109, 110, 111, 120, 121, 122, 123, 124, 125, 126, 127, 128, 129, 130, 131, 132, 133, 134, 135, 136, 137, 138, 139, 140, 141, 142, 143, 144, 145, 146, 147, 148, 149, 150, 151, 152, 153, 154, 155, 156, 157, 158, 159] (by decide +kernel) (by decide +kernel)
set_option maxRecDepth 20000 in
theorem gX8_figureLine_X8_numberHere : GoodIn wsX8_figureLine (wsV RX8 146 RX8 yX8_numberHere wsX8_numberHere) := goodIn_app (goodIn_of _ (by decide +kernel)) ggX8_figureLine_X8_numberHere
set_option maxRecDepth 20000 in
theorem ggX8_figureLine_X8_wrong : GoodIn wsX8_figureLine wsX8_wrong := goodIn_r _ [68, 1, 69, 70, 120, 121, 122, 123, 124, 125, 126, 127, 128, 129, 130, 131, 132, 133, 134, 135, 136, 137, 138, 139, 140, 141, 142, 143, 144, 145, 146, 147, 148, 149, 150, 151, 152, 153, 154, 155, 156, 157, 158, 159] (by decide +kernel) (by decide +kernel)
set_option maxRecDepth 20000 in
theorem gX8_figureLine_X8_wrong : GoodIn wsX8_figureLine (wsV RX8 124 RX8 yX8_wrong wsX8_wrong) := goodIn_app (goodIn_of _ (by decide +kernel)) ggX8_figureLine_X8_wrong
set_option maxRecDepth 20000 in
theorem ggX8_figureLine_X8_pass : GoodIn wsX8_figureLine wsX8_pass := goodIn_r _ [115, 1, 75, 76, 77, 7, 78, 79, 3, 10, 80, 9, 11, 81, 82, 83, 84, 85, 86, 87, 88, 89, 90, 91, 92, 120, 121, 122, 123, 124, 125, 126, 127, 128, 129, 130, 131, 132, 133, 134, 135, 136, 137, 138, 139, 140, 141, 142, 143, 144, 145, 146, 147, 148, 149, 150, 151, 152, 153, 154, 155, 156, 157, 158, 159] (by decide +kernel) (by decide +kernel)
set_option maxRecDepth 20000 in
theorem gX8_figureLine_X8_pass : GoodIn wsX8_figureLine (wsV RX8 150 RX8 yX8_pass wsX8_pass) := goodIn_app (goodIn_of _ (by decide +kernel)) ggX8_figureLine_X8_pass
set_option maxRecDepth 20000 in
theorem ggX8_figureLine_X8_isWord : GoodIn wsX8_figureLine wsX8_isWord := goodIn_r _ [15, 1, 9, 10, 11, 16, 17, 18, 19, 20, 21, 22, 23, 24, 25, 26, 27, 28, 29, 30, 31, 32, 33, 34, 35, 36, 37, 38, 39, 40, 41, 42, 43, 44, 45, 46, 47, 48, 49, 50, 51, 52, 53, 54, 55, 56, 57, 58, 59, 60, 61, 62, 63, 64, 120, 121, 122, 123, 124, 125, 126, 127, 128, 129, 130, 131, 132, 133, 134, 135, 136, 137, 138, 139, 140, 141, 142, 143, 144, 145, 146, 147, 148, 149, 150, 151, 152, 153, 154, 155, 156, 157, 158, 159] (by decide +kernel) (by decide +kernel)
set_option maxRecDepth 20000 in
theorem gX8_figureLine_X8_isWord : GoodIn wsX8_figureLine (wsV RX8 114 RX8 yX8_isWord wsX8_isWord) := goodIn_app (goodIn_of _ (by decide +kernel)) ggX8_figureLine_X8_isWord
set_option maxRecDepth 20000 in
theorem ggX8_figureLine_X8_number : GoodIn wsX8_figureLine wsX8_number := goodIn_r _ [119, 105, 106, 107, 7, 108, 1, 9, 3, 80, 65, 66, 67, 68, 69, 70, 109, 110, 111, 112, 113, 114, 115, 75, 76, 77, 78, 79, 10, 11, 81, 82, 83, 84, 85, 86, 87, 88, 89, 90, 91, 92, 120, 121, 122, 123, 124, 125, 126, 127, 128, 129, 130, 131, 132, 133, 134, 135, 136, 137, 138, 139, 140, 141, 142, 143, 144, 145, 146, 147, 148, 149, 150, 151, 152, 153, 154, 155, 156, 157, 158, 159] (by decide +kernel) (by decide +kernel)
set_option maxRecDepth 20000 in
theorem gX8_figureLine_X8_number : GoodIn wsX8_figureLine (wsV RX8 157 RX8 yX8_number wsX8_number) := goodIn_app (goodIn_of _ (by decide +kernel)) ggX8_figureLine_X8_number
set_option maxRecDepth 20000 in
theorem ggX8_watcherLine_X8_newName : GoodIn wsX8_watcherLine wsX8_newName := goodIn_r _ [7, 1, 8, 9, 10, 2, 11, 12, 13, 14, 6, 15, 16, 17, 18, 19, 20, 21, 22, 23, 24, 25, 26, 27, 28, 29, 30, 31, 32, 33, 34, 35, 36, 37, 38, 39, 40, 41, 42, 43, 44, 45, 46, 47, 48, 49, 50, 51, 52, 53, 54, 55, 56, 57, 58, 59, 60, 61, 62, 63, 64, 65, 66, 67, 68, 69, 70, 71, 72, 73, 74, 75, 76, 77, 78, 79, 80, 81, 82, 83, 84, 85, 86, 87, 88, 89, 90, 91, 92, 124, 125, 126, 127, 128, 129, 130, 131, 132, 133, 134, 135, 136, 137, 138, 139, 140, 141, 142, 143, 144, 145, 146, 147, 148, 149, 150, 151, 152, 153, 154, 155, 156, 157, 158, 159, 160, 161, 162, 163] (by decide +kernel) (by decide +kernel)
set_option maxRecDepth 20000 in
theorem gX8_watcherLine_X8_newName : GoodIn wsX8_watcherLine (wsV RX8 222 RX8 yX8_newName wsX8_newName) := goodIn_app (goodIn_of _ (by decide +kernel)) ggX8_watcherLine_X8_newName
set_option maxRecDepth 20000 in
theorem ggX8_watcherLine_X8_last : GoodIn wsX8_watcherLine wsX8_last := goodIn_r _ [96, 2, 124, 125, 126, 127, 128, 129, 130, 131, 132, 133, 134, 135, 136, 137, 138, 139, 140, 141, 142, 143, 144, 145, 146, 147, 148, 149, 150, 151, 152, 153, 154, 155, 156, 157, 158, 159, 160, 161, 162, 163] (by decide +kernel) (by decide +kernel)
set_option maxRecDepth 20000 in
theorem gX8_watcherLine_X8_last : GoodIn wsX8_watcherLine (wsV RX8 215 RX8 yX8_last wsX8_last) := goodIn_app (goodIn_of _ (by decide +kernel)) ggX8_watcherLine_X8_last
set_option maxRecDepth 20000 in
theorem ggX8_watcherLine_X8_after : GoodIn wsX8_watcherLine wsX8_after := goodIn_r _ [100, 101, 102, 103, 6, 104, 1, 9, 105, 106, 107, 108, 12, 13, 14, 15, 8, 10, 11, 16, 17, 18, 19, 20, 21, 22, 23, 24, 25, 26, 27, 28, 29, 30, 31, 32, 33, 34, 35, 36, 37, 38, 39, 40, 41, 42, 43, 44, 45, 46, 47, 48, 49, 50, 51, 52, 53, 54, 55, 56, 57, 58, 59, 60, 61, 62, 63, 64, 75, 76, 77, 78, 79, 80, 81, 82, 83, 84, 85, 86, 87, 88, 89, 90, 91, 92, 65, 66, 67, 68, 69, 70, 109, 110, 111, 112, 113, 114, 115, 116, 117, 118, 119, 120, 121, 122, 123, 124, 125, 126, 127, 128, 129, 130, 131, 132, 133, 134, 135, 136, 137, 138, 139, 140, 141, 142, 143, 144, 145, 146, 147, 148, 149, 150, 151, 152, 153, 154, 155, 156, 157, 158, 159, 160, 161, 162, 163] (by decide +kernel) (by decide +kernel)
set_option maxRecDepth 20000 in
theorem gX8_watcherLine_X8_after : GoodIn wsX8_watcherLine (wsV RX8 203 RX8 yX8_after wsX8_after) := goodIn_app (goodIn_of _ (by decide +kernel)) ggX8_watcherLine_X8_after
set_option maxRecDepth 20000 in
theorem ggX8_seenLine_X8_last : GoodIn wsX8_seenLine wsX8_last := goodIn_r _ [8, 2, 112, 113, 114, 115, 116, 117, 118, 119, 120, 121, 122, 123, 124, 125, 126, 127, 128, 129, 130, 131, 132, 133, 134, 135, 136, 137, 138, 139, 140, 141, 142, 143, 144, 145, 146, 147, 148, 149, 150, 151] (by decide +kernel) (by decide +kernel)
set_option maxRecDepth 20000 in
theorem gX8_seenLine_X8_last : GoodIn wsX8_seenLine (wsV RX8 215 RX8 yX8_last wsX8_last) := goodIn_app (goodIn_of _ (by decide +kernel)) ggX8_seenLine_X8_last
set_option maxRecDepth 20000 in
theorem ggX8_seenLine_X8_number : GoodIn wsX8_seenLine wsX8_number := goodIn_r _ [12, 13, 14, 15, 7, 16, 1, 17, 3, 18, 19, 20, 21, 22, 23, 24, 25, 26, 27, 28, 29, 30, 31, 32, 33, 34, 35, 36, 37, 38, 39, 40, 41, 42, 43, 44, 45, 46, 47, 48, 49, 50, 112, 113, 114, 115, 116, 117, 118, 119, 120, 121, 122, 123, 124, 125, 126, 127, 128, 129, 130, 131, 132, 133, 134, 135, 136, 137, 138, 139, 140, 141, 142, 143, 144, 145, 146, 147, 148, 149, 150, 151] (by decide +kernel) (by decide +kernel)
set_option maxRecDepth 20000 in
theorem gX8_seenLine_X8_number : GoodIn wsX8_seenLine (wsV RX8 157 RX8 yX8_number wsX8_number) := goodIn_app (goodIn_of _ (by decide +kernel)) ggX8_seenLine_X8_number
set_option maxRecDepth 20000 in
theorem ggX8_seenLine_X8_must : GoodIn wsX8_seenLine wsX8_must := goodIn_r _ [54, 1, 3, 55, 56, 57, 7, 58, 59, 60, 61, 62, 17, 37, 38, 63, 64, 65, 66, 67, 68, 69, 70, 71, 72, 73, 74, 75, 76, 77, 78, 79, 80, 81, 82, 83, 84, 85, 86, 87, 88, 89, 90, 91, 92, 93, 94, 95, 96, 97, 98, 99, 100, 101, 102, 103, 104, 105, 106, 107, 108, 109, 110, 111, 32, 33, 34, 35, 36, 18, 39, 40, 41, 42, 43, 44, 45, 46, 47, 48, 49, 50, 19, 20, 21, 22, 23, 24, 112, 113, 114, 115, 116, 117, 118, 119, 120, 121, 122, 123, 124, 125, 126, 127, 128, 129, 130, 131, 132, 133, 134, 135, 136, 137, 138, 139, 140, 141, 142, 143, 144, 145, 146, 147, 148, 149, 150, 151] (by decide +kernel) (by decide +kernel)
set_option maxRecDepth 20000 in
theorem gX8_seenLine_X8_must : GoodIn wsX8_seenLine (wsV RX8 153 RX8 yX8_must wsX8_must) := goodIn_app (goodIn_of _ (by decide +kernel)) ggX8_seenLine_X8_must
set_option maxRecDepth 20000 in
theorem ggX8_seenLine_X8_numberHere : GoodIn wsX8_seenLine wsX8_numberHere := goodIn_r _ [16, 1, 17, 3, 18, 19, 20, 21, 7, 22, 23, 24, 25, 26, 27, 112, 113, 114, 115, 116, 117, 118, 119, 120, 121, 122, 123, 124, 125, 126, 127, 128, 129, 130, 131, 132, 133, 134, 135, 136, 137, 138, 139, 140, 141, 142, 143, 144, 145, 146, 147, 148, 149, 150, 151] (by decide +kernel) (by decide +kernel)
set_option maxRecDepth 20000 in
theorem gX8_seenLine_X8_numberHere : GoodIn wsX8_seenLine (wsV RX8 146 RX8 yX8_numberHere wsX8_numberHere) := goodIn_app (goodIn_of _ (by decide +kernel)) ggX8_seenLine_X8_numberHere
set_option maxRecDepth 20000 in
theorem ggX8_seenLine_X8_wrong : GoodIn wsX8_seenLine wsX8_wrong := goodIn_r _ [22, 1, 23, 24, 112, 113, 114, 115, 116, 117, 118, 119, 120, 121, 122, 123, 124, 125, 126, 127, 128, 129, 130, 131, 132, 133, 134, 135, 136, 137, 138, 139, 140, 141, 142, 143, 144, 145, 146, 147, 148, 149, 150, 151] (by decide +kernel) (by decide +kernel)
set_option maxRecDepth 20000 in
theorem gX8_seenLine_X8_wrong : GoodIn wsX8_seenLine (wsV RX8 124 RX8 yX8_wrong wsX8_wrong) := goodIn_app (goodIn_of _ (by decide +kernel)) ggX8_seenLine_X8_wrong
set_option maxRecDepth 20000 in
theorem ggX8_seenLine_X8_pass : GoodIn wsX8_seenLine wsX8_pass := goodIn_r _ [31, 1, 32, 33, 34, 7, 35, 36, 3, 37, 18, 17, 38, 39, 40, 41, 42, 43, 44, 45, 46, 47, 48, 49, 50, 112, 113, 114, 115, 116, 117, 118, 119, 120, 121, 122, 123, 124, 125, 126, 127, 128, 129, 130, 131, 132, 133, 134, 135, 136, 137, 138, 139, 140, 141, 142, 143, 144, 145, 146, 147, 148, 149, 150, 151] (by decide +kernel) (by decide +kernel)
set_option maxRecDepth 20000 in
theorem gX8_seenLine_X8_pass : GoodIn wsX8_seenLine (wsV RX8 150 RX8 yX8_pass wsX8_pass) := goodIn_app (goodIn_of _ (by decide +kernel)) ggX8_seenLine_X8_pass
set_option maxRecDepth 20000 in
theorem ggX8_isFigure_X8_in : GoodIn wsX8_isFigure wsX8_in := goodIn_r _ [6] (by decide +kernel) (by decide +kernel)
set_option maxRecDepth 20000 in
theorem gX8_isFigure_X8_in : GoodIn wsX8_isFigure (va_wsS RX8 142 yX8_in wsX8_in) := goodIn_app (goodIn_of _ (by decide +kernel)) ggX8_isFigure_X8_in
set_option maxRecDepth 20000 in
theorem ggX8_isWatcher_X8_in : GoodIn wsX8_isWatcher wsX8_in := goodIn_r _ [6] (by decide +kernel) (by decide +kernel)
set_option maxRecDepth 20000 in
theorem gX8_isWatcher_X8_in : GoodIn wsX8_isWatcher (va_wsS RX8 142 yX8_in wsX8_in) := goodIn_app (goodIn_of _ (by decide +kernel)) ggX8_isWatcher_X8_in
set_option maxRecDepth 20000 in
theorem ggX8_isWatched_X8_hasBit : GoodIn wsX8_isWatched wsX8_hasBit := goodIn_r _ [6] (by decide +kernel) (by decide +kernel)
set_option maxRecDepth 20000 in
theorem gX8_isWatched_X8_hasBit : GoodIn wsX8_isWatched (va_wsS RX8 238 yX8_hasBit wsX8_hasBit) := goodIn_app (goodIn_of _ (by decide +kernel)) ggX8_isWatched_X8_hasBit
set_option maxRecDepth 20000 in
theorem ggX8_isWatched_X8_watcherAt : GoodIn wsX8_isWatched wsX8_watcherAt := goodIn_r _ [10, 11, 12, 13, 14, 15, 16, 17, 18, 19, 20, 21, 22, 23, 24, 25, 26, 27, 28, 29, 30, 31, 32, 33, 34, 35, 36, 37, 38, 39, 40, 41, 42, 43, 44, 45, 46, 47, 48, 49, 50, 51, 52] (by decide +kernel) (by decide +kernel)
set_option maxRecDepth 20000 in
theorem gX8_isWatched_X8_watcherAt : GoodIn wsX8_isWatched (wsV RX8 242 RX8 yX8_watcherAt wsX8_watcherAt) := goodIn_app (goodIn_of _ (by decide +kernel)) ggX8_isWatched_X8_watcherAt
set_option maxRecDepth 20000 in
theorem ggX8_walkOn_X8_isWatched : GoodIn wsX8_walkOn wsX8_isWatched := goodIn_r _ [6, 7, 1, 8, 9, 5, 10, 11, 12, 13, 14, 15, 16, 17, 18, 19, 20, 21, 22, 23, 24, 25, 26, 27, 28, 29, 30, 31, 32, 33, 34, 35, 36, 37, 38, 39, 40, 41, 42, 43, 44, 45, 46, 47, 48, 49, 50, 51, 52, 53, 54, 55, 56] (by decide +kernel) (by decide +kernel)
set_option maxRecDepth 20000 in
theorem gX8_walkOn_X8_isWatched : GoodIn wsX8_walkOn (wsV RX8 245 RX8 yX8_isWatched wsX8_isWatched) := goodIn_app (goodIn_of _ (by decide +kernel)) ggX8_walkOn_X8_isWatched
set_option maxRecDepth 20000 in
theorem ggX8_speakOn_X8_isWatched : GoodIn wsX8_speakOn wsX8_isWatched := goodIn_r _ [7, 8, 1, 9, 10, 6, 11, 12, 13, 14, 15, 16, 17, 18, 19, 20, 21, 22, 23, 24, 25, 26, 27, 28, 29, 30, 31, 32, 33, 34, 35, 36, 37, 38, 39, 40, 41, 42, 43, 44, 45, 46, 47, 48, 49, 50, 51, 52, 53, 54, 55, 56, 57] (by decide +kernel) (by decide +kernel)
set_option maxRecDepth 20000 in
theorem gX8_speakOn_X8_isWatched : GoodIn wsX8_speakOn (wsV RX8 245 RX8 yX8_isWatched wsX8_isWatched) := goodIn_app (goodIn_of _ (by decide +kernel)) ggX8_speakOn_X8_isWatched
set_option maxRecDepth 20000 in
theorem ggX8_minuteOn_X8_hasBit : GoodIn wsX8_minuteOn wsX8_hasBit := goodIn_r _ [8] (by decide +kernel) (by decide +kernel)
set_option maxRecDepth 20000 in
theorem gX8_minuteOn_X8_hasBit : GoodIn wsX8_minuteOn (va_wsS RX8 238 yX8_hasBit wsX8_hasBit) := goodIn_app (goodIn_of _ (by decide +kernel)) ggX8_minuteOn_X8_hasBit
set_option maxRecDepth 20000 in
theorem ggX8_minuteOn_X8_walkOn : GoodIn wsX8_minuteOn wsX8_walkOn := goodIn_r _ [12, 2, 13, 14, 15, 7, 16, 17, 5, 6, 8, 18, 19, 20, 21, 22, 23, 32, 33, 34, 35, 36, 37, 38, 39, 40, 41, 42, 43, 44, 45, 46, 47, 48, 49, 50, 51, 52, 53, 54, 55, 56, 57, 58, 59, 60, 61, 62, 63, 64, 65, 66, 67, 68, 69, 70, 71] (by decide +kernel) (by decide +kernel)
set_option maxRecDepth 20000 in
theorem gX8_minuteOn_X8_walkOn : GoodIn wsX8_minuteOn (wsV RX8 251 RX8 yX8_walkOn wsX8_walkOn) := goodIn_app (goodIn_of _ (by decide +kernel)) ggX8_minuteOn_X8_walkOn
set_option maxRecDepth 20000 in
theorem ggX8_minuteOn_X8_speakOn : GoodIn wsX8_minuteOn wsX8_speakOn := goodIn_r _ [27, 2, 1, 13, 14, 15, 7, 16, 17, 5, 6, 8, 18, 19, 20, 21, 22, 23, 32, 33, 34, 35, 36, 37, 38, 39, 40, 41, 42, 43, 44, 45, 46, 47, 48, 49, 50, 51, 52, 53, 54, 55, 56, 57, 58, 59, 60, 61, 62, 63, 64, 65, 66, 67, 68, 69, 70, 71] (by decide +kernel) (by decide +kernel)
set_option maxRecDepth 20000 in
theorem gX8_minuteOn_X8_speakOn : GoodIn wsX8_minuteOn (wsV RX8 255 RX8 yX8_speakOn wsX8_speakOn) := goodIn_app (goodIn_of _ (by decide +kernel)) ggX8_minuteOn_X8_speakOn
set_option maxRecDepth 20000 in
theorem ggX8_minuteOn_X8_nextOf : GoodIn wsX8_minuteOn wsX8_nextOf := goodIn_r _ [31, 2, 32, 33, 34, 35, 36, 37, 38, 39, 40, 41, 42, 43, 44, 45, 46, 47, 48, 49, 50, 51, 52, 53, 54, 55, 56, 57, 58, 59, 60, 61, 62, 63, 64, 65, 66, 67, 68, 69, 70, 71] (by decide +kernel) (by decide +kernel)
set_option maxRecDepth 20000 in
theorem gX8_minuteOn_X8_nextOf : GoodIn wsX8_minuteOn (wsV RX8 264 RX8 yX8_nextOf wsX8_nextOf) := goodIn_app (goodIn_of _ (by decide +kernel)) ggX8_minuteOn_X8_nextOf
set_option maxRecDepth 20000 in
theorem ggX8_begin_X8_watchAsTold : GoodIn wsX8_begin wsX8_watchAsTold := goodIn_r _ [7, 8, 9, 10, 11, 15, 16, 17, 18, 19, 20, 21, 22, 23, 24, 25, 26, 27, 28, 29, 30, 31, 32, 33, 34, 35, 36, 37, 38, 39, 40, 41, 42, 43, 44, 45, 46, 47, 48, 49, 50, 51, 52, 53, 54] (by decide +kernel) (by decide +kernel)
set_option maxRecDepth 20000 in
theorem gX8_begin_X8_watchAsTold : GoodIn wsX8_begin (wsV RX8 267 RX8 yX8_watchAsTold wsX8_watchAsTold) := goodIn_app (goodIn_of _ (by decide +kernel)) ggX8_begin_X8_watchAsTold
set_option maxRecDepth 20000 in
theorem ggX8_begin_X8_copy : GoodIn wsX8_begin wsX8_copy := goodIn_r _ [14] (by decide +kernel) (by decide +kernel)
set_option maxRecDepth 20000 in
theorem gX8_begin_X8_copy : GoodIn wsX8_begin (va_wsS RX8 169 yX8_copy wsX8_copy) := goodIn_app (goodIn_of _ (by decide +kernel)) ggX8_begin_X8_copy
set_option maxRecDepth 20000 in
theorem ggX8_minutesOn_X8_begin : GoodIn wsX8_minutesOn wsX8_begin := goodIn_r _ [6, 7, 1, 8, 9, 10, 5, 11, 12, 13, 14, 15, 16, 17, 18, 49, 50, 51, 52, 53, 54, 55, 56, 57, 58, 59, 60, 61, 62, 63, 64, 65, 66, 67, 68, 69, 70, 71, 72, 73, 74, 75, 76, 77, 78, 79, 80, 81, 82, 83, 84, 85, 86, 87, 88] (by decide +kernel) (by decide +kernel)
set_option maxRecDepth 20000 in
theorem gX8_minutesOn_X8_begin : GoodIn wsX8_minutesOn (wsV RX8 270 RX8 yX8_begin wsX8_begin) := goodIn_app (goodIn_of _ (by decide +kernel)) ggX8_minutesOn_X8_begin
set_option maxRecDepth 20000 in
theorem ggX8_minutesOn_X8_minuteOn : GoodIn wsX8_minutesOn wsX8_minuteOn := goodIn_r _ [22, 23, 12, 24, 25, 26, 27, 5, 28, 29, 30, 31, 32, 33, 34, 35, 36, 15, 37, 38, 39, 40, 14, 13, 41, 42, 43, 44, 45, 46, 47, 48, 49, 50, 51, 52, 53, 54, 55, 56, 57, 58, 59, 60, 61, 62, 63, 64, 65, 66, 67, 68, 69, 70, 71, 72, 73, 74, 75, 76, 77, 78, 79, 80, 81, 82, 83, 84, 85, 86, 87, 88] (by decide +kernel) (by decide +kernel)
set_option maxRecDepth 20000 in
theorem gX8_minutesOn_X8_minuteOn : GoodIn wsX8_minutesOn (wsV RX8 273 RX8 yX8_minuteOn wsX8_minuteOn) := goodIn_app (goodIn_of _ (by decide +kernel)) ggX8_minutesOn_X8_minuteOn
set_option maxRecDepth 20000 in
theorem ggX8_figure_X8_good : GoodIn wsX8_figure wsX8_good := goodIn_r _ [7, 8, 9, 22, 23, 24, 25, 26, 27, 28, 29, 30, 31, 32, 33, 34, 35, 36, 37, 38, 39, 40, 41, 42, 43, 44, 45, 46, 47, 48, 49, 50, 51, 52, 53, 54, 55, 56, 57, 58, 59, 60, 61] (by decide +kernel) (by decide +kernel)
set_option maxRecDepth 20000 in
theorem gX8_figure_X8_good : GoodIn wsX8_figure (wsV RX8 160 RX8 yX8_good wsX8_good) := goodIn_app (goodIn_of _ (by decide +kernel)) ggX8_figure_X8_good
set_option maxRecDepth 20000 in
theorem ggX8_figure_X8_isFigure : GoodIn wsX8_figure wsX8_isFigure := goodIn_r _ [13, 14, 1, 15, 16, 6, 17, 22, 23, 24, 25, 26, 27, 28, 29, 30, 31, 32, 33, 34, 35, 36, 37, 38, 39, 40, 41, 42, 43, 44, 45, 46, 47, 48, 49, 50, 51, 52, 53, 54, 55, 56, 57, 58, 59, 60, 61] (by decide +kernel) (by decide +kernel)
set_option maxRecDepth 20000 in
theorem gX8_figure_X8_isFigure : GoodIn wsX8_figure (wsV RX8 277 RX8 yX8_isFigure wsX8_isFigure) := goodIn_app (goodIn_of _ (by decide +kernel)) ggX8_figure_X8_isFigure
set_option maxRecDepth 20000 in
theorem ggX8_figure_X8_in : GoodIn wsX8_figure wsX8_in := goodIn_r _ [17] (by decide +kernel) (by decide +kernel)
set_option maxRecDepth 20000 in
theorem gX8_figure_X8_in : GoodIn wsX8_figure (va_wsS RX8 142 yX8_in wsX8_in) := goodIn_app (goodIn_of _ (by decide +kernel)) ggX8_figure_X8_in
set_option maxRecDepth 20000 in
theorem ggX8_figure_X8_no : GoodIn wsX8_figure wsX8_no := goodIn_r _ [21, 9, 22, 23, 24, 25, 26, 27, 28, 29, 30, 31, 32, 33, 34, 35, 36, 37, 38, 39, 40, 41, 42, 43, 44, 45, 46, 47, 48, 49, 50, 51, 52, 53, 54, 55, 56, 57, 58, 59, 60, 61] (by decide +kernel) (by decide +kernel)
set_option maxRecDepth 20000 in
theorem gX8_figure_X8_no : GoodIn wsX8_figure (wsV RX8 163 RX8 yX8_no wsX8_no) := goodIn_app (goodIn_of _ (by decide +kernel)) ggX8_figure_X8_no
set_option maxRecDepth 20000 in
theorem ggX8_watcher_X8_good : GoodIn wsX8_watcher wsX8_good := goodIn_r _ [7, 8, 9, 33, 34, 35, 36, 37, 38, 39, 40, 41, 42, 43, 44, 45, 46, 47, 48, 49, 50, 51, 52, 53, 54, 55, 56, 57, 58, 59, 60, 61, 62, 63, 64, 65, 66, 67, 68, 69, 70, 71, 72] (by decide +kernel) (by decide +kernel)
set_option maxRecDepth 20000 in
theorem gX8_watcher_X8_good : GoodIn wsX8_watcher (wsV RX8 160 RX8 yX8_good wsX8_good) := goodIn_app (goodIn_of _ (by decide +kernel)) ggX8_watcher_X8_good
set_option maxRecDepth 20000 in
theorem ggX8_watcher_X8_isWatcher : GoodIn wsX8_watcher wsX8_isWatcher := goodIn_r _ [13, 14, 1, 15, 16, 6, 17, 33, 34, 35, 36, 37, 38, 39, 40, 41, 42, 43, 44, 45, 46, 47, 48, 49, 50, 51, 52, 53, 54, 55, 56, 57, 58, 59, 60, 61, 62, 63, 64, 65, 66, 67, 68, 69, 70, 71, 72] (by decide +kernel) (by decide +kernel)
set_option maxRecDepth 20000 in
theorem gX8_watcher_X8_isWatcher : GoodIn wsX8_watcher (wsV RX8 280 RX8 yX8_isWatcher wsX8_isWatcher) := goodIn_app (goodIn_of _ (by decide +kernel)) ggX8_watcher_X8_isWatcher
set_option maxRecDepth 20000 in
theorem ggX8_watcher_X8_in : GoodIn wsX8_watcher wsX8_in := goodIn_r _ [17] (by decide +kernel) (by decide +kernel)
set_option maxRecDepth 20000 in
theorem gX8_watcher_X8_in : GoodIn wsX8_watcher (va_wsS RX8 142 yX8_in wsX8_in) := goodIn_app (goodIn_of _ (by decide +kernel)) ggX8_watcher_X8_in
set_option maxRecDepth 20000 in
theorem ggX8_watcher_X8_no : GoodIn wsX8_watcher wsX8_no := goodIn_r _ [21, 9, 33, 34, 35, 36, 37, 38, 39, 40, 41, 42, 43, 44, 45, 46, 47, 48, 49, 50, 51, 52, 53, 54, 55, 56, 57, 58, 59, 60, 61, 62, 63, 64, 65, 66, 67, 68, 69, 70, 71, 72] (by decide +kernel) (by decide +kernel)
set_option maxRecDepth 20000 in
theorem gX8_watcher_X8_no : GoodIn wsX8_watcher (wsV RX8 163 RX8 yX8_no wsX8_no) := goodIn_app (goodIn_of _ (by decide +kernel)) ggX8_watcher_X8_no
set_option maxRecDepth 20000 in
theorem ggX8_watcher_X8_watchAsTold : GoodIn wsX8_watcher wsX8_watchAsTold := goodIn_r _ [25, 1, 26, 27, 28, 33, 34, 35, 36, 37, 38, 39, 40, 41, 42, 43, 44, 45, 46, 47, 48, 49, 50, 51, 52, 53, 54, 55, 56, 57, 58, 59, 60, 61, 62, 63, 64, 65, 66, 67, 68, 69, 70, 71, 72] (by decide +kernel) (by decide +kernel)
set_option maxRecDepth 20000 in
theorem gX8_watcher_X8_watchAsTold : GoodIn wsX8_watcher (wsV RX8 267 RX8 yX8_watchAsTold wsX8_watchAsTold) := goodIn_app (goodIn_of _ (by decide +kernel)) ggX8_watcher_X8_watchAsTold
set_option maxRecDepth 20000 in
theorem ggX8_watcher_X8_watcherAt : GoodIn wsX8_watcher wsX8_watcherAt := goodIn_r _ [32, 27, 26, 33, 34, 35, 36, 37, 38, 39, 40, 41, 42, 43, 44, 45, 46, 47, 48, 49, 50, 51, 52, 53, 54, 55, 56, 57, 58, 59, 60, 61, 62, 63, 64, 65, 66, 67, 68, 69, 70, 71, 72] (by decide +kernel) (by decide +kernel)
set_option maxRecDepth 20000 in
theorem gX8_watcher_X8_watcherAt : GoodIn wsX8_watcher (wsV RX8 242 RX8 yX8_watcherAt wsX8_watcherAt) := goodIn_app (goodIn_of _ (by decide +kernel)) ggX8_watcher_X8_watcherAt
set_option maxRecDepth 20000 in
theorem ggX8_alive_X8_good : GoodIn wsX8_alive wsX8_good := goodIn_r _ [7, 8, 9, 14, 15, 16, 17, 18, 19, 20, 21, 22, 23, 24, 25, 26, 27, 28, 29, 30, 31, 32, 33, 34, 35, 36, 37, 38, 39, 40, 41, 42, 43, 44, 45, 46, 47, 48, 49, 50, 51, 52, 53] (by decide +kernel) (by decide +kernel)
set_option maxRecDepth 20000 in
theorem gX8_alive_X8_good : GoodIn wsX8_alive (wsV RX8 160 RX8 yX8_good wsX8_good) := goodIn_app (goodIn_of _ (by decide +kernel)) ggX8_alive_X8_good
set_option maxRecDepth 20000 in
theorem ggX8_alive_X8_no : GoodIn wsX8_alive wsX8_no := goodIn_r _ [13, 9, 14, 15, 16, 17, 18, 19, 20, 21, 22, 23, 24, 25, 26, 27, 28, 29, 30, 31, 32, 33, 34, 35, 36, 37, 38, 39, 40, 41, 42, 43, 44, 45, 46, 47, 48, 49, 50, 51, 52, 53] (by decide +kernel) (by decide +kernel)
set_option maxRecDepth 20000 in
theorem gX8_alive_X8_no : GoodIn wsX8_alive (wsV RX8 163 RX8 yX8_no wsX8_no) := goodIn_app (goodIn_of _ (by decide +kernel)) ggX8_alive_X8_no
set_option maxRecDepth 20000 in
theorem ggX8_left_X8_good : GoodIn wsX8_left wsX8_good := goodIn_r _ [8, 9, 10, 15, 16, 17, 18, 19, 20, 21, 22, 23, 24, 25, 26, 27, 28, 29, 30, 31, 32, 33, 34, 35, 36, 37, 38, 39, 40, 41, 42, 43, 44, 45, 46, 47, 48, 49, 50, 51, 52, 53, 54] (by decide +kernel) (by decide +kernel)
set_option maxRecDepth 20000 in
theorem gX8_left_X8_good : GoodIn wsX8_left (wsV RX8 160 RX8 yX8_good wsX8_good) := goodIn_app (goodIn_of _ (by decide +kernel)) ggX8_left_X8_good
set_option maxRecDepth 20000 in
theorem ggX8_left_X8_no : GoodIn wsX8_left wsX8_no := goodIn_r _ [14, 10, 15, 16, 17, 18, 19, 20, 21, 22, 23, 24, 25, 26, 27, 28, 29, 30, 31, 32, 33, 34, 35, 36, 37, 38, 39, 40, 41, 42, 43, 44, 45, 46, 47, 48, 49, 50, 51, 52, 53, 54] (by decide +kernel) (by decide +kernel)
set_option maxRecDepth 20000 in
theorem gX8_left_X8_no : GoodIn wsX8_left (wsV RX8 163 RX8 yX8_no wsX8_no) := goodIn_app (goodIn_of _ (by decide +kernel)) ggX8_left_X8_no
set_option maxRecDepth 20000 in
theorem ggX8_caught_X8_good : GoodIn wsX8_caught wsX8_good := goodIn_r _ [7, 8, 9, 14, 15, 16, 17, 18, 19, 20, 21, 22, 23, 24, 25, 26, 27, 28, 29, 30, 31, 32, 33, 34, 35, 36, 37, 38, 39, 40, 41, 42, 43, 44, 45, 46, 47, 48, 49, 50, 51, 52, 53] (by decide +kernel) (by decide +kernel)
set_option maxRecDepth 20000 in
theorem gX8_caught_X8_good : GoodIn wsX8_caught (wsV RX8 160 RX8 yX8_good wsX8_good) := goodIn_app (goodIn_of _ (by decide +kernel)) ggX8_caught_X8_good
set_option maxRecDepth 20000 in
theorem ggX8_caught_X8_no : GoodIn wsX8_caught wsX8_no := goodIn_r _ [13, 9, 14, 15, 16, 17, 18, 19, 20, 21, 22, 23, 24, 25, 26, 27, 28, 29, 30, 31, 32, 33, 34, 35, 36, 37, 38, 39, 40, 41, 42, 43, 44, 45, 46, 47, 48, 49, 50, 51, 52, 53] (by decide +kernel) (by decide +kernel)
set_option maxRecDepth 20000 in
theorem gX8_caught_X8_no : GoodIn wsX8_caught (wsV RX8 163 RX8 yX8_no wsX8_no) := goodIn_app (goodIn_of _ (by decide +kernel)) ggX8_caught_X8_no
set_option maxRecDepth 20000 in
theorem ggX8_goRound_X8_nextOf : GoodIn wsX8_goRound wsX8_nextOf := goodIn_r _ [9, 10, 11, 12, 13, 14, 15, 16, 17, 18, 19, 20, 21, 22, 23, 24, 25, 26, 27, 28, 29, 30, 31, 32, 33, 34, 35, 36, 37, 38, 39, 40, 41, 42, 43, 44, 45, 46, 47, 48, 49, 50] (by decide +kernel) (by decide +kernel)
set_option maxRecDepth 20000 in
theorem gX8_goRound_X8_nextOf : GoodIn wsX8_goRound (wsV RX8 264 RX8 yX8_nextOf wsX8_nextOf) := goodIn_app (goodIn_of _ (by decide +kernel)) ggX8_goRound_X8_nextOf
set_option maxRecDepth 20000 in
theorem ggX8_turnOf_X8_good : GoodIn wsX8_turnOf wsX8_good := goodIn_r _ [7, 8, 9, 38, 39, 40, 41, 42, 43, 44, 45, 46, 47, 48, 49, 50, 51, 52, 53, 54, 55, 56, 57, 58, 59, 60, 61, 62, 63, 64, 65, 66, 67, 68, 69, 70, 71, 72, 73, 74, 75, 76, 77] (by decide +kernel) (by decide +kernel)
set_option maxRecDepth 20000 in
theorem gX8_turnOf_X8_good : GoodIn wsX8_turnOf (wsV RX8 160 RX8 yX8_good wsX8_good) := goodIn_app (goodIn_of _ (by decide +kernel)) ggX8_turnOf_X8_good
set_option maxRecDepth 20000 in
theorem ggX8_turnOf_X8_in : GoodIn wsX8_turnOf wsX8_in := goodIn_r _ [12] (by decide +kernel) (by decide +kernel)
set_option maxRecDepth 20000 in
theorem gX8_turnOf_X8_in : GoodIn wsX8_turnOf (va_wsS RX8 142 yX8_in wsX8_in) := goodIn_app (goodIn_of _ (by decide +kernel)) ggX8_turnOf_X8_in
set_option maxRecDepth 20000 in
theorem ggX8_turnOf_X8_why : GoodIn wsX8_turnOf wsX8_why := goodIn_r _ [16] (by decide +kernel) (by decide +kernel)
set_option maxRecDepth 20000 in
theorem gX8_turnOf_X8_why : GoodIn wsX8_turnOf (wsV RX8 290 RX8 yX8_why wsX8_why) := goodIn_app (goodIn_of _ (by decide +kernel)) ggX8_turnOf_X8_why
set_option maxRecDepth 20000 in
theorem ggX8_turnOf_X8_no : GoodIn wsX8_turnOf wsX8_no := goodIn_r _ [20, 9, 38, 39, 40, 41, 42, 43, 44, 45, 46, 47, 48, 49, 50, 51, 52, 53, 54, 55, 56, 57, 58, 59, 60, 61, 62, 63, 64, 65, 66, 67, 68, 69, 70, 71, 72, 73, 74, 75, 76, 77] (by decide +kernel) (by decide +kernel)
set_option maxRecDepth 20000 in
theorem gX8_turnOf_X8_no : GoodIn wsX8_turnOf (wsV RX8 163 RX8 yX8_no wsX8_no) := goodIn_app (goodIn_of _ (by decide +kernel)) ggX8_turnOf_X8_no
set_option maxRecDepth 20000 in
theorem ggX8_turnOf_X8_goRound : GoodIn wsX8_turnOf wsX8_goRound := goodIn_r _ [24, 25, 26, 27, 28, 29, 30, 31, 6, 32, 33, 38, 39, 40, 41, 42, 43, 44, 45, 46, 47, 48, 49, 50, 51, 52, 53, 54, 55, 56, 57, 58, 59, 60, 61, 62, 63, 64, 65, 66, 67, 68, 69, 70, 71, 72, 73, 74, 75, 76, 77] (by decide +kernel) (by decide +kernel)
set_option maxRecDepth 20000 in
theorem gX8_turnOf_X8_goRound : GoodIn wsX8_turnOf (wsV RX8 294 RX8 yX8_goRound wsX8_goRound) := goodIn_app (goodIn_of _ (by decide +kernel)) ggX8_turnOf_X8_goRound
set_option maxRecDepth 20000 in
theorem ggX8_turnOf_X8_turnAt : GoodIn wsX8_turnOf wsX8_turnAt := goodIn_r _ [37, 27, 26, 28, 38, 39, 40, 41, 42, 43, 44, 45, 46, 47, 48, 49, 50, 51, 52, 53, 54, 55, 56, 57, 58, 59, 60, 61, 62, 63, 64, 65, 66, 67, 68, 69, 70, 71, 72, 73, 74, 75, 76, 77] (by decide +kernel) (by decide +kernel)
set_option maxRecDepth 20000 in
theorem gX8_turnOf_X8_turnAt : GoodIn wsX8_turnOf (wsV RX8 297 RX8 yX8_turnAt wsX8_turnAt) := goodIn_app (goodIn_of _ (by decide +kernel)) ggX8_turnOf_X8_turnAt
set_option maxRecDepth 20000 in
theorem ggX8_turnIn_X8_good : GoodIn wsX8_turnIn wsX8_good := goodIn_r _ [8, 9, 10, 33, 34, 35, 36, 37, 38, 39, 40, 41, 42, 43, 44, 45, 46, 47, 48, 49, 50, 51, 52, 53, 54, 55, 56, 57, 58, 59, 60, 61, 62, 63, 64, 65, 66, 67, 68, 69, 70, 71, 72] (by decide +kernel) (by decide +kernel)
set_option maxRecDepth 20000 in
theorem gX8_turnIn_X8_good : GoodIn wsX8_turnIn (wsV RX8 160 RX8 yX8_good wsX8_good) := goodIn_app (goodIn_of _ (by decide +kernel)) ggX8_turnIn_X8_good
set_option maxRecDepth 20000 in
theorem ggX8_turnIn_X8_isFigure : GoodIn wsX8_turnIn wsX8_isFigure := goodIn_r _ [14, 15, 16, 17, 18, 7, 19, 33, 34, 35, 36, 37, 38, 39, 40, 41, 42, 43, 44, 45, 46, 47, 48, 49, 50, 51, 52, 53, 54, 55, 56, 57, 58, 59, 60, 61, 62, 63, 64, 65, 66, 67, 68, 69, 70, 71, 72] (by decide +kernel) (by decide +kernel)
set_option maxRecDepth 20000 in
theorem gX8_turnIn_X8_isFigure : GoodIn wsX8_turnIn (wsV RX8 277 RX8 yX8_isFigure wsX8_isFigure) := goodIn_app (goodIn_of _ (by decide +kernel)) ggX8_turnIn_X8_isFigure
set_option maxRecDepth 20000 in
theorem ggX8_turnIn_X8_no : GoodIn wsX8_turnIn wsX8_no := goodIn_r _ [23, 10, 33, 34, 35, 36, 37, 38, 39, 40, 41, 42, 43, 44, 45, 46, 47, 48, 49, 50, 51, 52, 53, 54, 55, 56, 57, 58, 59, 60, 61, 62, 63, 64, 65, 66, 67, 68, 69, 70, 71, 72] (by decide +kernel) (by decide +kernel)
set_option maxRecDepth 20000 in
theorem gX8_turnIn_X8_no : GoodIn wsX8_turnIn (wsV RX8 163 RX8 yX8_no wsX8_no) := goodIn_app (goodIn_of _ (by decide +kernel)) ggX8_turnIn_X8_no
set_option maxRecDepth 20000 in
theorem ggX8_turnIn_X8_goRound : GoodIn wsX8_turnIn wsX8_goRound := goodIn_r _ [27, 28, 1, 3, 2, 29, 30, 31, 7, 32, 16, 33, 34, 35, 36, 37, 38, 39, 40, 41, 42, 43, 44, 45, 46, 47, 48, 49, 50, 51, 52, 53, 54, 55, 56, 57, 58, 59, 60, 61, 62, 63, 64, 65, 66, 67, 68, 69, 70, 71, 72] (by decide +kernel) (by decide +kernel)
set_option maxRecDepth 20000 in
theorem gX8_turnIn_X8_goRound : GoodIn wsX8_turnIn (wsV RX8 294 RX8 yX8_goRound wsX8_goRound) := goodIn_app (goodIn_of _ (by decide +kernel)) ggX8_turnIn_X8_goRound
set_option maxRecDepth 20000 in
theorem ggX8_settles_X8_good : GoodIn wsX8_settles wsX8_good := goodIn_r _ [7, 8, 9, 26, 27, 28, 29, 30, 31, 32, 33, 34, 35, 36, 37, 38, 39, 40, 41, 42, 43, 44, 45, 46, 47, 48, 49, 50, 51, 52, 53, 54, 55, 56, 57, 58, 59, 60, 61, 62, 63, 64, 65] (by decide +kernel) (by decide +kernel)
set_option maxRecDepth 20000 in
theorem gX8_settles_X8_good : GoodIn wsX8_settles (wsV RX8 160 RX8 yX8_good wsX8_good) := goodIn_app (goodIn_of _ (by decide +kernel)) ggX8_settles_X8_good
set_option maxRecDepth 20000 in
theorem ggX8_settles_X8_no : GoodIn wsX8_settles wsX8_no := goodIn_r _ [13, 9, 26, 27, 28, 29, 30, 31, 32, 33, 34, 35, 36, 37, 38, 39, 40, 41, 42, 43, 44, 45, 46, 47, 48, 49, 50, 51, 52, 53, 54, 55, 56, 57, 58, 59, 60, 61, 62, 63, 64, 65] (by decide +kernel) (by decide +kernel)
set_option maxRecDepth 20000 in
theorem gX8_settles_X8_no : GoodIn wsX8_settles (wsV RX8 163 RX8 yX8_no wsX8_no) := goodIn_app (goodIn_of _ (by decide +kernel)) ggX8_settles_X8_no
set_option maxRecDepth 20000 in
theorem ggX8_settles_X8_goRound : GoodIn wsX8_settles wsX8_goRound := goodIn_r _ [17, 18, 2, 19, 20, 21, 22, 23, 6, 24, 25, 26, 27, 28, 29, 30, 31, 32, 33, 34, 35, 36, 37, 38, 39, 40, 41, 42, 43, 44, 45, 46, 47, 48, 49, 50, 51, 52, 53, 54, 55, 56, 57, 58, 59, 60, 61, 62, 63, 64, 65] (by decide +kernel) (by decide +kernel)
set_option maxRecDepth 20000 in
theorem gX8_settles_X8_goRound : GoodIn wsX8_settles (wsV RX8 294 RX8 yX8_goRound wsX8_goRound) := goodIn_app (goodIn_of _ (by decide +kernel)) ggX8_settles_X8_goRound
set_option maxRecDepth 20000 in
theorem ggX8_round_X8_good : GoodIn wsX8_round wsX8_good := goodIn_r _ [7, 8, 9, 26, 27, 28, 29, 30, 31, 32, 33, 34, 35, 36, 37, 38, 39, 40, 41, 42, 43, 44, 45, 46, 47, 48, 49, 50, 51, 52, 53, 54, 55, 56, 57, 58, 59, 60, 61, 62, 63, 64, 65] (by decide +kernel) (by decide +kernel)
set_option maxRecDepth 20000 in
theorem gX8_round_X8_good : GoodIn wsX8_round (wsV RX8 160 RX8 yX8_good wsX8_good) := goodIn_app (goodIn_of _ (by decide +kernel)) ggX8_round_X8_good
set_option maxRecDepth 20000 in
theorem ggX8_round_X8_no : GoodIn wsX8_round wsX8_no := goodIn_r _ [13, 9, 26, 27, 28, 29, 30, 31, 32, 33, 34, 35, 36, 37, 38, 39, 40, 41, 42, 43, 44, 45, 46, 47, 48, 49, 50, 51, 52, 53, 54, 55, 56, 57, 58, 59, 60, 61, 62, 63, 64, 65] (by decide +kernel) (by decide +kernel)
set_option maxRecDepth 20000 in
theorem gX8_round_X8_no : GoodIn wsX8_round (wsV RX8 163 RX8 yX8_no wsX8_no) := goodIn_app (goodIn_of _ (by decide +kernel)) ggX8_round_X8_no
set_option maxRecDepth 20000 in
theorem ggX8_round_X8_goRound : GoodIn wsX8_round wsX8_goRound := goodIn_r _ [17, 18, 19, 20, 2, 21, 22, 23, 6, 24, 25, 26, 27, 28, 29, 30, 31, 32, 33, 34, 35, 36, 37, 38, 39, 40, 41, 42, 43, 44, 45, 46, 47, 48, 49, 50, 51, 52, 53, 54, 55, 56, 57, 58, 59, 60, 61, 62, 63, 64, 65] (by decide +kernel) (by decide +kernel)
set_option maxRecDepth 20000 in
theorem gX8_round_X8_goRound : GoodIn wsX8_round (wsV RX8 294 RX8 yX8_goRound wsX8_goRound) := goodIn_app (goodIn_of _ (by decide +kernel)) ggX8_round_X8_goRound
set_option maxRecDepth 20000 in
theorem ggX8_called_X8_good : GoodIn wsX8_called wsX8_good := goodIn_r _ [9, 10, 11, 26, 27, 28, 29, 30, 31, 32, 33, 34, 35, 36, 37, 38, 39, 40, 41, 42, 43, 44, 45, 46, 47, 48, 49, 50, 51, 52, 53, 54, 55, 56, 57, 58, 59, 60, 61, 62, 63, 64, 65] (by decide +kernel) (by decide +kernel)
set_option maxRecDepth 20000 in
theorem gX8_called_X8_good : GoodIn wsX8_called (wsV RX8 160 RX8 yX8_good wsX8_good) := goodIn_app (goodIn_of _ (by decide +kernel)) ggX8_called_X8_good
set_option maxRecDepth 20000 in
theorem ggX8_called_X8_no : GoodIn wsX8_called wsX8_no := goodIn_r _ [15, 11, 26, 27, 28, 29, 30, 31, 32, 33, 34, 35, 36, 37, 38, 39, 40, 41, 42, 43, 44, 45, 46, 47, 48, 49, 50, 51, 52, 53, 54, 55, 56, 57, 58, 59, 60, 61, 62, 63, 64, 65] (by decide +kernel) (by decide +kernel)
set_option maxRecDepth 20000 in
theorem gX8_called_X8_no : GoodIn wsX8_called (wsV RX8 163 RX8 yX8_no wsX8_no) := goodIn_app (goodIn_of _ (by decide +kernel)) ggX8_called_X8_no
