set_option maxRecDepth 20000 in
theorem gX7_image_X1_addImage : GoodIn wsX7_image (wsV RX7 340 RX1 yX1_addImage wsX1_addImage) := goodIn_r _ [16, 17, 18, 19, 20, 21, 22, 23, 24, 25, 26, 27, 28, 29, 30, 31, 32, 33, 34, 50, 51, 52, 53, 54, 70, 71, 72, 73, 74, 75, 76] rfl (by decide +kernel)
set_option maxRecDepth 20000 in
theorem gX7_image_X7_answered : GoodIn wsX7_image (wsV RX7 113 RX7 yX7_answered wsX7_answered) := goodIn_r _ [35, 36, 37, 7, 38, 15, 39, 40, 41, 42, 43, 44, 45, 46, 47, 48, 49] rfl (by decide +kernel)
set_option maxRecDepth 20000 in
theorem gX7_back_X1_goBack : GoodIn wsX7_back (wsV RX7 344 RX1 yX1_goBack wsX1_goBack) := goodIn_r _ [4, 5, 6, 7, 8, 9, 10, 11, 12, 13, 14, 15, 16, 17, 18, 19, 20, 21, 22, 23, 24, 25, 26, 38, 39, 40, 41, 42, 43, 44, 45, 46, 47, 48, 49] rfl (by decide +kernel)
set_option maxRecDepth 20000 in
theorem gX7_size_X0_sizeTold : GoodIn wsX7_size (wsV RX7 358 RX0 yX0_sizeTold wsX0_sizeTold) := goodIn_r _ [9, 10, 11, 12, 13, 14, 15, 16, 17, 18, 19, 20, 21, 22, 23, 24, 25, 26, 27, 28, 29, 30, 31, 69, 70, 71, 72, 73, 74, 75, 76, 77, 78, 79, 80, 81, 82, 83, 84, 85, 86, 87] rfl (by decide +kernel)
set_option maxRecDepth 20000 in
theorem gX7_isFigure_X7_within : GoodIn wsX7_isFigure (va_wsS RX7 78 yX7_within wsX7_within) := goodIn_r _ [3, 4, 5, 6] rfl (by decide +kernel)
set_option maxRecDepth 20000 in
theorem gX7_isPlace_X7_within : GoodIn wsX7_isPlace (va_wsS RX7 78 yX7_within wsX7_within) := goodIn_r _ [3, 4, 5, 6] rfl (by decide +kernel)
set_option maxRecDepth 20000 in
theorem gX7_isWatcher_X7_within : GoodIn wsX7_isWatcher (va_wsS RX7 78 yX7_within wsX7_within) := goodIn_r _ [4, 5, 6, 7] rfl (by decide +kernel)
set_option maxRecDepth 20000 in
theorem gX7_troubleOfNumber_X7_hasGallery : GoodIn wsX7_troubleOfNumber (wsV RX7 154 RX7 yX7_hasGallery wsX7_hasGallery) := goodIn_r _ [1, 2, 3, 4, 5, 6, 7, 11, 12, 13, 14, 15, 16, 17, 18, 19, 20, 21, 22, 23, 24, 25, 26, 27, 28, 29, 30, 31, 32, 33, 34, 35, 36] rfl (by decide +kernel)
set_option maxRecDepth 20000 in
theorem gX7_troubleOfNumber_X7_within : GoodIn wsX7_troubleOfNumber (va_wsS RX7 78 yX7_within wsX7_within) := goodIn_r _ [8, 9, 4, 10] rfl (by decide +kernel)
set_option maxRecDepth 20000 in
theorem gX7_troubleOfFigureWithin_X7_isFigure : GoodIn wsX7_troubleOfFigureWithin (wsV RX7 116 RX7 yX7_isFigure wsX7_isFigure) := goodIn_r _ [1, 2, 3, 4, 5, 6, 7, 8, 9, 4, 10, 11, 12, 13, 14, 15, 16, 17, 18, 19, 20, 21, 22, 23, 24, 25, 26, 27, 28, 29, 30, 31, 32, 33, 34, 35, 36] rfl (by decide +kernel)
set_option maxRecDepth 20000 in
theorem gX7_troubleOfFigureWithin_X7_within : GoodIn wsX7_troubleOfFigureWithin (va_wsS RX7 78 yX7_within wsX7_within) := goodIn_r _ [8, 9, 4, 10] rfl (by decide +kernel)
set_option maxRecDepth 20000 in
theorem gX7_turnFromNow_X7_laterTurn : GoodIn wsX7_turnFromNow (va_wsS RX7 364 yX7_laterTurn wsX7_laterTurn) := goodIn_r _ [7, 8, 9, 10] rfl (by decide +kernel)
set_option maxRecDepth 20000 in
theorem gX7_roundLength_X7_turnFromNow : GoodIn wsX7_roundLength (wsV RX7 171 RX7 yX7_turnFromNow wsX7_turnFromNow) := goodIn_r _ [3, 4, 5, 6, 7, 1, 2, 8, 9, 10, 11, 12, 13, 6, 14, 23, 24, 25, 26, 27, 28, 29, 30, 31, 32, 33, 34, 35, 36, 37, 38, 39, 40, 41, 42, 43, 44, 45, 46, 47, 48, 49, 50, 51, 52, 53, 54, 55] rfl (by decide +kernel)
set_option maxRecDepth 20000 in
theorem gX7_roundLength_X0_next : GoodIn wsX7_roundLength (wsV RX7 174 RX0 yX0_next wsX0_next) := goodIn_r _ [15, 16, 17, 18, 19, 20, 21, 22, 34, 35, 36, 37, 38, 39, 40, 41, 42, 43, 44, 45, 46, 47, 48] rfl (by decide +kernel)
set_option maxRecDepth 20000 in
theorem gX7_runAhead_X5_copyFrom : GoodIn wsX7_runAhead (wsV RX7 194 RX5 yX5_copyFrom wsX5_copyFrom) := goodIn_r _ [3, 4, 5, 6, 7, 8, 9, 10, 11, 12, 13, 14, 100, 101, 102, 103, 104, 105, 106] rfl (by decide +kernel)
set_option maxRecDepth 20000 in
theorem gX7_runAhead_X7_passAhead : GoodIn wsX7_runAhead (wsV RX7 202 RX7 yX7_passAhead wsX7_passAhead) := goodIn_r _ [15, 16, 17, 18, 19, 20, 1, 21, 22, 23, 24, 25, 26, 27, 28, 29, 30, 31, 32, 33, 34, 35, 36, 37, 38, 39, 18, 40, 41, 42, 43, 44, 45, 46, 47, 48, 49, 50, 6, 51, 11, 52, 53, 54, 55, 56, 57, 58, 59, 60, 61, 62, 63, 64, 65, 66, 67, 68, 69, 70, 71, 72, 73, 74, 75, 76, 77, 78, 79, 80, 81, 82, 83, 84, 85, 86, 87, 88, 9, 10, 89, 90, 91, 92, 93, 94, 95, 96, 97, 98, 99, 107, 108, 109, 110, 111, 112, 113, 114, 115, 116, 117, 118, 119, 120, 121, 100, 101, 102, 103, 104, 105, 106, 122, 123, 124, 125] rfl (by decide +kernel)
set_option maxRecDepth 20000 in
theorem gX7_passAhead_X0_pass : GoodIn wsX7_passAhead (wsV RX7 205 RX0 yX0_pass wsX0_pass) := goodIn_r _ [4, 5, 6, 7, 8, 9, 10, 11, 12, 13, 14, 15, 16, 17, 7, 18, 19, 20, 21, 22, 23, 24, 25, 26, 27, 28, 29, 30, 31, 32, 33, 34, 35, 36, 37, 38, 39, 40, 41, 42, 43, 44, 45, 46, 47, 48, 49, 50, 51, 52, 53, 54, 55, 56, 57, 58, 59, 60, 61, 62, 63, 64, 65, 66, 67, 68, 69, 70, 71, 72, 73, 74, 75, 102, 103, 104, 105, 106, 107, 108, 87, 88, 89, 90, 91, 92, 93, 94, 95, 96, 97, 98, 99, 100, 101, 109, 110, 111, 112] rfl (by decide +kernel)
set_option maxRecDepth 20000 in
theorem gX7_runAheadOnTrial_X5_copyFrom : GoodIn wsX7_runAheadOnTrial (wsV RX7 194 RX5 yX5_copyFrom wsX5_copyFrom) := goodIn_r _ [5, 6, 7, 8, 9, 10, 11, 12, 13, 14, 15, 16, 96, 97, 98, 99, 100, 101, 102] rfl (by decide +kernel)
set_option maxRecDepth 20000 in
theorem gX7_runAheadOnTrial_X0_pass : GoodIn wsX7_runAheadOnTrial (wsV RX7 205 RX0 yX0_pass wsX0_pass) := goodIn_r _ [17, 18, 19, 20, 21, 22, 23, 24, 25, 26, 27, 28, 29, 30, 20, 31, 32, 33, 34, 35, 36, 37, 38, 39, 40, 41, 42, 43, 44, 45, 46, 8, 47, 13, 48, 49, 50, 51, 52, 53, 54, 55, 56, 57, 58, 59, 60, 61, 62, 63, 64, 65, 66, 67, 68, 69, 70, 71, 72, 73, 74, 75, 76, 77, 78, 79, 80, 81, 82, 83, 84, 11, 12, 96, 97, 98, 99, 100, 101, 102, 103, 104, 105, 106, 107, 108, 109, 110, 111, 112, 113, 114, 115, 116, 117, 118, 119, 120, 121] rfl (by decide +kernel)
set_option maxRecDepth 20000 in
theorem gX7_placeOfActing_X0_pass : GoodIn wsX7_placeOfActing (wsV RX7 205 RX0 yX0_pass wsX0_pass) := goodIn_r _ [6, 7, 8, 9, 10, 11, 12, 13, 14, 15, 16, 17, 18, 19, 9, 20, 21, 22, 23, 24, 25, 26, 27, 28, 29, 30, 31, 32, 33, 34, 35, 36, 37, 38, 39, 40, 41, 42, 43, 44, 45, 46, 47, 48, 49, 50, 51, 52, 53, 54, 55, 56, 57, 58, 59, 60, 61, 62, 63, 64, 65, 66, 67, 68, 69, 70, 71, 72, 73, 74, 75, 76, 77, 90, 91, 92, 93, 94, 95, 96, 97, 98, 99, 100, 101, 102, 103, 104, 105, 106, 107, 108, 109, 110, 111, 112, 113, 114, 115] rfl (by decide +kernel)
set_option maxRecDepth 20000 in
theorem gX7_placeOfActing_X5_isGone : GoodIn wsX7_placeOfActing (wsV RX7 129 RX5 yX5_isGone wsX5_isGone) := goodIn_r _ [78, 34, 35, 36, 37, 38, 39, 24, 40, 90, 91, 92, 93, 94, 95, 96] rfl (by decide +kernel)
set_option maxRecDepth 20000 in
theorem gX7_minutesTillGone_X0_pass : GoodIn wsX7_minutesTillGone (wsV RX7 205 RX0 yX0_pass wsX0_pass) := goodIn_r _ [4, 5, 6, 7, 8, 9, 10, 11, 12, 13, 14, 15, 16, 17, 7, 18, 19, 20, 21, 22, 23, 24, 25, 26, 27, 28, 29, 30, 31, 32, 33, 34, 35, 36, 37, 38, 39, 40, 41, 42, 43, 44, 45, 46, 47, 48, 49, 50, 51, 52, 53, 54, 55, 56, 57, 58, 59, 60, 61, 62, 63, 64, 65, 66, 67, 68, 69, 70, 71, 72, 73, 74, 75, 87, 88, 89, 90, 91, 92, 93, 94, 95, 96, 97, 98, 99, 100, 101, 102, 103, 104, 105, 106, 107, 108, 109, 110, 111, 112] rfl (by decide +kernel)
set_option maxRecDepth 20000 in
theorem gX7_crowdAt_X5_isGone : GoodIn wsX7_crowdAt (wsV RX7 129 RX5 yX5_isGone wsX5_isGone) := goodIn_r _ [5, 6, 7, 8, 9, 10, 11, 12, 13, 40, 41, 42, 43, 44, 45, 46] rfl (by decide +kernel)
set_option maxRecDepth 20000 in
theorem gX7_planRoutes_X5_copyFrom : GoodIn wsX7_planRoutes (wsV RX7 194 RX5 yX5_copyFrom wsX5_copyFrom) := goodIn_r _ [6, 7, 8, 9, 10, 11, 12, 13, 14, 15, 16, 17, 144, 145, 146, 147, 148, 149, 150] rfl (by decide +kernel)
set_option maxRecDepth 20000 in
theorem gX7_planRoutes_X7_placeOfActing : GoodIn wsX7_planRoutes (wsV RX7 209 RX7 yX7_placeOfActing wsX7_placeOfActing) := goodIn_r _ [18, 19, 20, 21, 22, 1, 23, 4, 24, 25, 26, 27, 28, 29, 30, 31, 32, 33, 34, 35, 36, 37, 38, 39, 40, 41, 42, 43, 21, 44, 45, 46, 47, 48, 49, 50, 51, 52, 53, 54, 9, 55, 14, 56, 57, 58, 59, 60, 61, 62, 63, 64, 65, 66, 67, 68, 69, 70, 71, 72, 73, 74, 75, 76, 77, 78, 79, 80, 81, 82, 83, 84, 85, 86, 87, 88, 89, 90, 91, 92, 12, 13, 93, 118, 119, 120, 121, 122, 123, 124, 125, 126, 127, 128, 144, 145, 146, 147, 148, 149, 150, 129, 130, 131, 132, 133, 134, 135, 136, 137, 138, 139, 140, 141, 142, 143, 151, 152, 153, 154] rfl (by decide +kernel)
set_option maxRecDepth 20000 in
theorem gX7_planRoutes_X4_aim : GoodIn wsX7_planRoutes (wsV RX7 368 RX4 yX4_aim wsX4_aim) := goodIn_r _ [94, 95, 96, 97, 98, 99, 43, 21, 44, 155, 156, 157] rfl (by decide +kernel)
set_option maxRecDepth 20000 in
theorem gX7_planRoutes_X4_weigh : GoodIn wsX7_planRoutes (wsV RX7 372 RX4 yX4_weigh wsX4_weigh) := goodIn_r _ [100, 101, 102, 97, 103, 104, 105, 106, 107, 108, 109, 110, 111, 112, 97, 113, 114, 115, 116, 117, 99, 155, 156, 157] rfl (by decide +kernel)
set_option maxRecDepth 20000 in
theorem gX7_postsHold_X5_copyFrom : GoodIn wsX7_postsHold (wsV RX7 194 RX5 yX5_copyFrom wsX5_copyFrom) := goodIn_r _ [5, 6, 7, 8, 9, 10, 11, 12, 13, 14, 15, 16, 106, 107, 108, 109, 110, 111, 112] rfl (by decide +kernel)
set_option maxRecDepth 20000 in
theorem gX7_postsHold_X7_minutesTillGone : GoodIn wsX7_postsHold (wsV RX7 198 RX7 yX7_minutesTillGone wsX7_minutesTillGone) := goodIn_r _ [17, 18, 19, 20, 21, 3, 22, 23, 24, 25, 26, 27, 28, 29, 30, 31, 32, 33, 34, 35, 36, 37, 38, 39, 40, 41, 20, 42, 43, 44, 45, 46, 47, 48, 49, 50, 51, 52, 8, 53, 13, 54, 55, 56, 57, 58, 59, 60, 61, 62, 63, 64, 65, 66, 67, 68, 69, 70, 71, 72, 73, 74, 75, 76, 77, 78, 79, 80, 81, 82, 83, 84, 85, 86, 87, 88, 89, 90, 11, 12, 91, 92, 93, 94, 95, 96, 97, 98, 99, 100, 101, 106, 107, 108, 109, 110, 111, 112, 113, 114, 115, 116, 117, 118, 119, 120, 121, 122, 123, 124, 125, 126, 127, 102, 103, 104, 105] rfl (by decide +kernel)
set_option maxRecDepth 20000 in
theorem gX7_isRest_X7_figureShare : GoodIn wsX7_isRest (va_wsS RX7 303 yX7_figureShare wsX7_figureShare) := goodIn_r _ [1, 2, 3, 4] rfl (by decide +kernel)
set_option maxRecDepth 20000 in
theorem gX7_isRest_X7_attendantShare : GoodIn wsX7_isRest (va_wsS RX7 299 yX7_attendantShare wsX7_attendantShare) := goodIn_r _ [5, 6, 3, 7] rfl (by decide +kernel)
set_option maxRecDepth 20000 in
theorem gX7_ownTurns_X0_next : GoodIn wsX7_ownTurns (wsV RX7 174 RX0 yX0_next wsX0_next) := goodIn_r _ [4, 5, 6, 7, 8, 9, 10, 11, 30, 31, 32, 33, 34, 35, 36, 37, 38, 39, 40, 41, 42, 43, 44] rfl (by decide +kernel)
set_option maxRecDepth 20000 in
theorem gX8_isFigure_X8_in : GoodIn wsX8_isFigure (va_wsS RX8 142 yX8_in wsX8_in) := goodIn_r _ [3, 4, 5, 6] rfl (by decide +kernel)
set_option maxRecDepth 20000 in
theorem gX8_isWatcher_X8_in : GoodIn wsX8_isWatcher (va_wsS RX8 142 yX8_in wsX8_in) := goodIn_r _ [3, 4, 5, 6] rfl (by decide +kernel)
set_option maxRecDepth 20000 in
theorem gX8_isWatched_X8_hasBit : GoodIn wsX8_isWatched (va_wsS RX8 238 yX8_hasBit wsX8_hasBit) := goodIn_r _ [3, 4, 5, 6] rfl (by decide +kernel)
set_option maxRecDepth 20000 in
theorem gX8_isWatched_X8_watcherAt : GoodIn wsX8_isWatched (wsV RX8 242 RX8 yX8_watcherAt wsX8_watcherAt) := goodIn_r _ [7, 8, 9, 5, 10, 11, 12, 13, 14, 15, 16, 17, 18, 19, 20, 21, 22, 23, 24, 25, 26, 27, 28, 29, 30, 31, 32, 33, 34, 35, 36, 37, 38, 39, 40, 41, 42, 43, 44, 45, 46, 47, 48, 49, 50, 51, 52] rfl (by decide +kernel)
set_option maxRecDepth 20000 in
theorem gX8_walkOn_X8_isWatched : GoodIn wsX8_walkOn (wsV RX8 245 RX8 yX8_isWatched wsX8_isWatched) := goodIn_r _ [2, 3, 4, 5, 6, 7, 1, 8, 9, 5, 10, 11, 12, 13, 14, 15, 16, 17, 18, 19, 20, 21, 22, 23, 24, 25, 26, 27, 28, 29, 30, 31, 32, 33, 34, 35, 36, 37, 38, 39, 40, 41, 42, 43, 44, 45, 46, 47, 48, 49, 50, 51, 52, 53, 54, 55, 56] rfl (by decide +kernel)
set_option maxRecDepth 20000 in
theorem gX8_speakOn_X8_isWatched : GoodIn wsX8_speakOn (wsV RX8 245 RX8 yX8_isWatched wsX8_isWatched) := goodIn_r _ [3, 4, 5, 6, 7, 8, 1, 9, 10, 6, 11, 12, 13, 14, 15, 16, 17, 18, 19, 20, 21, 22, 23, 24, 25, 26, 27, 28, 29, 30, 31, 32, 33, 34, 35, 36, 37, 38, 39, 40, 41, 42, 43, 44, 45, 46, 47, 48, 49, 50, 51, 52, 53, 54, 55, 56, 57] rfl (by decide +kernel)
set_option maxRecDepth 20000 in
theorem gX8_minuteOn_X8_hasBit : GoodIn wsX8_minuteOn (va_wsS RX8 238 yX8_hasBit wsX8_hasBit) := goodIn_r _ [5, 6, 7, 8] rfl (by decide +kernel)
set_option maxRecDepth 20000 in
theorem gX8_minuteOn_X8_walkOn : GoodIn wsX8_minuteOn (wsV RX8 251 RX8 yX8_walkOn wsX8_walkOn) := goodIn_r _ [9, 10, 11, 7, 12, 2, 13, 14, 15, 7, 16, 17, 5, 6, 8, 18, 19, 20, 21, 22, 23, 32, 33, 34, 35, 36, 37, 38, 39, 40, 41, 42, 43, 44, 45, 46, 47, 48, 49, 50, 51, 52, 53, 54, 55, 56, 57, 58, 59, 60, 61, 62, 63, 64, 65, 66, 67, 68, 69, 70, 71] rfl (by decide +kernel)
set_option maxRecDepth 20000 in
theorem gX8_minuteOn_X8_speakOn : GoodIn wsX8_minuteOn (wsV RX8 255 RX8 yX8_speakOn wsX8_speakOn) := goodIn_r _ [24, 25, 26, 7, 27, 2, 1, 13, 14, 15, 7, 16, 17, 5, 6, 8, 18, 19, 20, 21, 22, 23, 32, 33, 34, 35, 36, 37, 38, 39, 40, 41, 42, 43, 44, 45, 46, 47, 48, 49, 50, 51, 52, 53, 54, 55, 56, 57, 58, 59, 60, 61, 62, 63, 64, 65, 66, 67, 68, 69, 70, 71] rfl (by decide +kernel)
set_option maxRecDepth 20000 in
theorem gX8_minuteOn_X8_nextOf : GoodIn wsX8_minuteOn (wsV RX8 264 RX8 yX8_nextOf wsX8_nextOf) := goodIn_r _ [28, 29, 30, 7, 31, 2, 32, 33, 34, 35, 36, 37, 38, 39, 40, 41, 42, 43, 44, 45, 46, 47, 48, 49, 50, 51, 52, 53, 54, 55, 56, 57, 58, 59, 60, 61, 62, 63, 64, 65, 66, 67, 68, 69, 70, 71] rfl (by decide +kernel)
