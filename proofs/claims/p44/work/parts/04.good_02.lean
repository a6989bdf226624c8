set_option maxRecDepth 20000 in
theorem gX7_route_X4_minutesWith : GoodIn wsX7_route (wsV RX7 236 RX4 yX4_minutesWith wsX4_minutesWith) := goodIn_r _ [132, 133, 134, 111, 135, 122, 123, 10, 5, 11, 177, 178, 179] rfl (by decide +kernel)
set_option maxRecDepth 20000 in
theorem gX7_route_X7_answered : GoodIn wsX7_route (wsV RX7 113 RX7 yX7_answered wsX7_answered) := goodIn_r _ [136, 137, 138, 5, 139, 16, 140, 141, 142, 143, 144, 145, 146, 147, 148, 149, 150] rfl (by decide +kernel)
set_option maxRecDepth 20000 in
theorem gX7_routeAt_X7_isPlace : GoodIn wsX7_routeAt (wsV RX7 230 RX7 yX7_isPlace wsX7_isPlace) := goodIn_r _ [2, 3, 4, 5, 6, 7, 8, 9, 10, 5, 11, 140, 141, 142, 143, 144, 145, 146, 147, 148, 149, 150, 151, 152, 153, 154, 155, 156, 157, 158, 159, 160, 161, 162, 163, 164, 165] rfl (by decide +kernel)
set_option maxRecDepth 20000 in
theorem gX7_routeAt_X7_within : GoodIn wsX7_routeAt (va_wsS RX7 78 yX7_within wsX7_within) := goodIn_r _ [9, 10, 5, 11] rfl (by decide +kernel)
set_option maxRecDepth 20000 in
theorem gX7_routeAt_X7_refused : GoodIn wsX7_routeAt (wsV RX7 82 RX7 yX7_refused wsX7_refused) := goodIn_r _ [12, 13, 14, 5, 15, 16, 140, 141, 142, 143, 144, 145, 146, 147, 148, 149, 150] rfl (by decide +kernel)
set_option maxRecDepth 20000 in
theorem gX7_routeAt_X7_planRoutes : GoodIn wsX7_routeAt (wsV RX7 233 RX7 yX7_planRoutes wsX7_planRoutes) := goodIn_r _ [17, 18, 19, 5, 20, 21, 22, 1, 7, 8, 23, 24, 25, 26, 27, 28, 29, 30, 31, 32, 33, 34, 35, 36, 37, 5, 38, 39, 40, 41, 42, 43, 44, 45, 46, 47, 48, 49, 50, 51, 52, 53, 54, 55, 56, 57, 58, 10, 11, 59, 60, 61, 62, 63, 64, 65, 66, 67, 68, 69, 70, 71, 72, 73, 74, 75, 76, 77, 78, 79, 80, 81, 82, 83, 84, 85, 86, 87, 88, 89, 90, 91, 92, 93, 94, 95, 96, 97, 98, 99, 100, 101, 102, 103, 104, 105, 106, 107, 108, 109, 110, 111, 112, 113, 114, 115, 116, 117, 118, 119, 120, 121, 122, 123, 124, 125, 126, 127, 128, 129, 130, 131, 140, 141, 142, 143, 144, 145, 146, 147, 148, 149, 150, 151, 152, 153, 154, 155, 156, 157, 158, 159, 160, 161, 162, 163, 164, 165, 166, 167, 168, 169, 170, 171, 172, 173, 174, 175, 176, 177, 178, 179] rfl (by decide +kernel)
set_option maxRecDepth 20000 in
theorem gX7_routeAt_X4_placeIn : GoodIn wsX7_routeAt (wsV RX7 239 RX4 yX4_placeIn wsX4_placeIn) := goodIn_r _ [132, 133, 134, 111, 135, 124, 125, 126, 111, 127, 122, 128, 129, 130, 131, 123, 113, 177, 178, 179] rfl (by decide +kernel)
set_option maxRecDepth 20000 in
theorem gX7_routeAt_X7_answered : GoodIn wsX7_routeAt (wsV RX7 113 RX7 yX7_answered wsX7_answered) := goodIn_r _ [136, 137, 138, 5, 139, 16, 140, 141, 142, 143, 144, 145, 146, 147, 148, 149, 150] rfl (by decide +kernel)
set_option maxRecDepth 20000 in
theorem gX7_stand_X7_troubleOfNumber : GoodIn wsX7_stand (wsV RX7 188 RX7 yX7_troubleOfNumber wsX7_troubleOfNumber) := goodIn_r _ [4, 5, 6, 7, 8, 9, 10, 11, 7, 12, 1, 2, 13, 14, 15, 144, 145, 146, 147, 148, 149, 150, 151, 152, 153, 154, 155, 156, 157, 158, 159, 160, 161, 162, 163, 164, 165, 166, 167, 168, 169] rfl (by decide +kernel)
set_option maxRecDepth 20000 in
theorem gX7_stand_X7_refused : GoodIn wsX7_stand (wsV RX7 82 RX7 yX7_refused wsX7_refused) := goodIn_r _ [16, 17, 18, 7, 19, 20, 144, 145, 146, 147, 148, 149, 150, 151, 152, 153, 154] rfl (by decide +kernel)
set_option maxRecDepth 20000 in
theorem gX7_stand_X7_planRoutes : GoodIn wsX7_stand (wsV RX7 233 RX7 yX7_planRoutes wsX7_planRoutes) := goodIn_r _ [21, 22, 23, 7, 24, 25, 26, 3, 1, 2, 27, 28, 29, 30, 31, 32, 33, 34, 35, 36, 37, 38, 39, 40, 41, 7, 42, 43, 44, 45, 46, 47, 48, 49, 50, 51, 52, 53, 54, 55, 56, 57, 58, 59, 60, 61, 62, 14, 15, 63, 64, 65, 66, 67, 68, 69, 70, 71, 72, 73, 74, 75, 76, 77, 78, 79, 80, 81, 82, 83, 84, 85, 86, 87, 88, 89, 90, 91, 92, 93, 94, 95, 96, 97, 98, 99, 100, 101, 102, 103, 104, 105, 106, 107, 108, 109, 110, 111, 112, 113, 114, 115, 116, 117, 118, 119, 120, 121, 122, 123, 124, 125, 126, 127, 128, 129, 130, 131, 132, 133, 134, 135, 144, 145, 146, 147, 148, 149, 150, 151, 152, 153, 154, 155, 156, 157, 158, 159, 160, 161, 162, 163, 164, 165, 166, 167, 168, 169, 170, 171, 172, 173, 174, 175, 176, 177, 178, 179, 180, 181, 182, 183] rfl (by decide +kernel)
set_option maxRecDepth 20000 in
theorem gX7_stand_X4_minutesWith : GoodIn wsX7_stand (wsV RX7 236 RX4 yX4_minutesWith wsX4_minutesWith) := goodIn_r _ [136, 137, 138, 115, 139, 126, 127, 14, 7, 15, 181, 182, 183] rfl (by decide +kernel)
set_option maxRecDepth 20000 in
theorem gX7_stand_X7_answered : GoodIn wsX7_stand (wsV RX7 113 RX7 yX7_answered wsX7_answered) := goodIn_r _ [140, 141, 142, 7, 143, 20, 144, 145, 146, 147, 148, 149, 150, 151, 152, 153, 154] rfl (by decide +kernel)
set_option maxRecDepth 20000 in
theorem gX7_guard_X7_troubleOfNumber : GoodIn wsX7_guard (wsV RX7 188 RX7 yX7_troubleOfNumber wsX7_troubleOfNumber) := goodIn_r _ [5, 6, 7, 8, 9, 10, 11, 12, 8, 13, 2, 4, 14, 15, 16, 119, 120, 121, 122, 123, 124, 125, 126, 127, 128, 129, 130, 131, 132, 133, 134, 135, 136, 137, 138, 139, 140, 141, 142, 143, 144] rfl (by decide +kernel)
set_option maxRecDepth 20000 in
theorem gX7_guard_X7_refused : GoodIn wsX7_guard (wsV RX7 82 RX7 yX7_refused wsX7_refused) := goodIn_r _ [17, 18, 19, 8, 20, 21, 119, 120, 121, 122, 123, 124, 125, 126, 127, 128, 129] rfl (by decide +kernel)
set_option maxRecDepth 20000 in
theorem gX7_guard_X6_copyFrom : GoodIn wsX7_guard (wsV RX7 242 RX6 yX6_copyFrom wsX6_copyFrom) := goodIn_r _ [22, 23, 24, 25, 26, 27, 28, 29, 30, 145, 146, 147, 148] rfl (by decide +kernel)
set_option maxRecDepth 20000 in
theorem gX7_guard_X7_postsHold : GoodIn wsX7_guard (wsV RX7 245 RX7 yX7_postsHold wsX7_postsHold) := goodIn_r _ [31, 32, 33, 8, 34, 1, 35, 36, 37, 38, 39, 40, 41, 42, 43, 44, 45, 46, 47, 48, 49, 50, 51, 52, 8, 53, 54, 2, 55, 56, 57, 58, 59, 60, 61, 62, 63, 64, 65, 66, 67, 68, 69, 70, 71, 15, 16, 72, 73, 74, 75, 76, 77, 78, 79, 80, 81, 82, 83, 84, 85, 86, 87, 88, 89, 90, 91, 25, 92, 28, 27, 93, 94, 95, 96, 30, 29, 97, 98, 99, 100, 101, 102, 103, 104, 105, 106, 107, 108, 109, 110, 111, 112, 113, 114, 119, 120, 121, 122, 123, 124, 125, 126, 127, 128, 129, 145, 146, 147, 148, 149, 150, 151, 152, 153, 154, 155, 130, 131, 132, 133, 134, 135, 136, 137, 138, 139, 140, 141, 142, 143, 144] rfl (by decide +kernel)
set_option maxRecDepth 20000 in
theorem gX7_guard_X7_answered : GoodIn wsX7_guard (wsV RX7 113 RX7 yX7_answered wsX7_answered) := goodIn_r _ [115, 116, 117, 8, 118, 21, 119, 120, 121, 122, 123, 124, 125, 126, 127, 128, 129] rfl (by decide +kernel)
set_option maxRecDepth 20000 in
theorem gX7_windBest_X7_hasGallery : GoodIn wsX7_windBest (wsV RX7 154 RX7 yX7_hasGallery wsX7_hasGallery) := goodIn_r _ [6, 7, 8, 9, 10, 1, 2, 105, 106, 107, 108, 109, 110, 111, 112, 113, 114, 115, 116, 117, 118, 119, 120, 121, 122, 123, 124, 125, 126, 127, 128, 129, 130] rfl (by decide +kernel)
set_option maxRecDepth 20000 in
theorem gX7_windBest_X7_refused : GoodIn wsX7_windBest (wsV RX7 82 RX7 yX7_refused wsX7_refused) := goodIn_r _ [11, 12, 13, 9, 14, 15, 105, 106, 107, 108, 109, 110, 111, 112, 113, 114, 115] rfl (by decide +kernel)
set_option maxRecDepth 20000 in
theorem gX7_windBest_X5_copyFrom : GoodIn wsX7_windBest (wsV RX7 194 RX5 yX5_copyFrom wsX5_copyFrom) := goodIn_r _ [16, 17, 18, 19, 20, 21, 22, 23, 24, 25, 26, 27, 131, 132, 133, 134, 135, 136, 137] rfl (by decide +kernel)
set_option maxRecDepth 20000 in
theorem gX7_windBest_X5_startTurn : GoodIn wsX7_windBest (wsV RX7 248 RX5 yX5_startTurn wsX5_startTurn) := goodIn_r _ [28, 29, 30, 19, 31, 22, 23, 131, 132, 133, 134, 135, 136, 137] rfl (by decide +kernel)
set_option maxRecDepth 20000 in
theorem gX7_windBest_X7_minutesTillGone : GoodIn wsX7_windBest (wsV RX7 198 RX7 yX7_minutesTillGone wsX7_minutesTillGone) := goodIn_r _ [32, 33, 34, 9, 35, 3, 36, 1, 37, 38, 39, 40, 41, 42, 43, 44, 45, 46, 47, 48, 49, 50, 51, 52, 53, 54, 9, 55, 56, 57, 58, 59, 60, 61, 62, 63, 64, 65, 19, 66, 24, 67, 68, 69, 70, 71, 72, 73, 74, 75, 76, 77, 78, 79, 80, 81, 82, 83, 84, 85, 86, 87, 88, 89, 90, 91, 92, 93, 94, 95, 96, 97, 98, 99, 100, 29, 30, 31, 22, 23, 105, 106, 107, 108, 109, 110, 111, 112, 113, 114, 115, 131, 132, 133, 134, 135, 136, 137, 116, 117, 118, 119, 120, 121, 122, 123, 124, 125, 126, 127, 128, 129, 130, 138, 139, 140, 141] rfl (by decide +kernel)
set_option maxRecDepth 20000 in
theorem gX7_windBest_X7_answered : GoodIn wsX7_windBest (wsV RX7 113 RX7 yX7_answered wsX7_answered) := goodIn_r _ [101, 102, 103, 9, 104, 15, 105, 106, 107, 108, 109, 110, 111, 112, 113, 114, 115] rfl (by decide +kernel)
set_option maxRecDepth 20000 in
theorem gX7_patrol_X7_isWatcher : GoodIn wsX7_patrol (wsV RX7 135 RX7 yX7_isWatcher wsX7_isWatcher) := goodIn_r _ [10, 11, 12, 13, 14, 2, 3, 15, 16, 17, 13, 18, 121, 122, 123, 124, 125, 126, 127, 128, 129, 130, 131, 132, 133, 134, 135, 136, 137, 138, 139, 140, 141, 142, 143, 144, 145, 146, 147, 148, 149, 150] rfl (by decide +kernel)
set_option maxRecDepth 20000 in
theorem gX7_patrol_X7_refused : GoodIn wsX7_patrol (wsV RX7 82 RX7 yX7_refused wsX7_refused) := goodIn_r _ [19, 20, 21, 13, 22, 23, 121, 122, 123, 124, 125, 126, 127, 128, 129, 130, 131] rfl (by decide +kernel)
set_option maxRecDepth 20000 in
theorem gX7_patrol_X7_within : GoodIn wsX7_patrol (va_wsS RX7 78 yX7_within wsX7_within) := goodIn_r _ [16, 17, 13, 18] rfl (by decide +kernel)
set_option maxRecDepth 20000 in
theorem gX7_patrol_X6_copyFrom : GoodIn wsX7_patrol (wsV RX7 242 RX6 yX6_copyFrom wsX6_copyFrom) := goodIn_r _ [24, 25, 26, 27, 28, 29, 30, 31, 32, 147, 148, 149, 150] rfl (by decide +kernel)
set_option maxRecDepth 20000 in
theorem gX7_patrol_X7_runAheadOnTrial : GoodIn wsX7_patrol (wsV RX7 251 RX7 yX7_runAheadOnTrial wsX7_runAheadOnTrial) := goodIn_r _ [33, 34, 35, 13, 36, 7, 37, 2, 1, 38, 39, 40, 41, 42, 43, 44, 45, 46, 47, 48, 49, 50, 51, 52, 53, 54, 55, 56, 57, 58, 59, 60, 61, 62, 63, 64, 65, 66, 17, 13, 18, 67, 68, 69, 70, 71, 72, 73, 74, 75, 76, 77, 78, 79, 80, 81, 82, 83, 84, 85, 86, 27, 87, 30, 29, 88, 89, 90, 91, 32, 31, 92, 93, 94, 95, 96, 97, 98, 99, 100, 101, 102, 103, 104, 105, 106, 107, 108, 109, 121, 122, 123, 124, 125, 126, 127, 128, 129, 130, 131, 151, 152, 153, 154, 155, 156, 157, 132, 133, 134, 135, 136, 137, 138, 139, 140, 141, 142, 143, 144, 145, 146, 147, 148, 149, 150] rfl (by decide +kernel)
set_option maxRecDepth 20000 in
theorem gX7_patrol_J6_bitCount_0f7a4 : GoodIn wsX7_patrol (va_wsS RX7 254 yJ6_bitCount_0f7a4 wsJ6_bitCount_0f7a4) := goodIn_r _ [110, 111, 112, 113, 114, 115, 116] rfl (by decide +kernel)
set_option maxRecDepth 20000 in
theorem gX7_patrol_X7_answered : GoodIn wsX7_patrol (wsV RX7 113 RX7 yX7_answered wsX7_answered) := goodIn_r _ [117, 118, 119, 13, 120, 23, 121, 122, 123, 124, 125, 126, 127, 128, 129, 130, 131] rfl (by decide +kernel)
set_option maxRecDepth 20000 in
theorem gX7_fits_X7_hasGallery : GoodIn wsX7_fits (wsV RX7 154 RX7 yX7_hasGallery wsX7_hasGallery) := goodIn_r _ [4, 5, 6, 7, 8, 2, 9, 44, 45, 46, 47, 48, 49, 50, 51, 52, 53, 54, 62, 63, 64, 65, 66, 67, 68, 69, 70, 71, 72, 73, 74, 75, 76] rfl (by decide +kernel)
set_option maxRecDepth 20000 in
theorem gX7_fits_X7_refused : GoodIn wsX7_fits (wsV RX7 82 RX7 yX7_refused wsX7_refused) := goodIn_r _ [10, 11, 12, 7, 13, 14, 44, 45, 46, 47, 48, 49, 50, 51, 52, 53, 54] rfl (by decide +kernel)
set_option maxRecDepth 20000 in
theorem gX7_fits_X2_list : GoodIn wsX7_fits (wsV RX7 259 RX2 yX2_list wsX2_list) := goodIn_r _ [15, 16, 17, 18, 19, 20, 21, 22, 23, 24, 25, 18, 26, 27, 28, 29, 30, 31, 32, 33, 34, 35, 36, 37, 38, 7, 39, 55, 56, 57, 58, 59, 60, 61, 62, 63, 64, 65, 66, 67, 68, 69, 70, 71, 72, 73, 74, 75, 76] rfl (by decide +kernel)
set_option maxRecDepth 20000 in
theorem gX7_fits_X7_answered : GoodIn wsX7_fits (wsV RX7 113 RX7 yX7_answered wsX7_answered) := goodIn_r _ [40, 41, 42, 7, 43, 14, 44, 45, 46, 47, 48, 49, 50, 51, 52, 53, 54] rfl (by decide +kernel)
set_option maxRecDepth 20000 in
theorem gX7_fitAt_X7_hasGallery : GoodIn wsX7_fitAt (wsV RX7 154 RX7 yX7_hasGallery wsX7_hasGallery) := goodIn_r _ [5, 6, 7, 8, 9, 2, 10, 48, 49, 50, 51, 52, 53, 54, 55, 56, 57, 58, 66, 67, 68, 69, 70, 71, 72, 73, 74, 75, 76, 77, 78, 79, 80] rfl (by decide +kernel)
set_option maxRecDepth 20000 in
theorem gX7_fitAt_X7_refused : GoodIn wsX7_fitAt (wsV RX7 82 RX7 yX7_refused wsX7_refused) := goodIn_r _ [11, 12, 13, 8, 14, 15, 48, 49, 50, 51, 52, 53, 54, 55, 56, 57, 58] rfl (by decide +kernel)
set_option maxRecDepth 20000 in
theorem gX7_fitAt_X2_list : GoodIn wsX7_fitAt (wsV RX7 259 RX2 yX2_list wsX2_list) := goodIn_r _ [16, 17, 18, 19, 20, 21, 22, 23, 24, 25, 26, 19, 27, 28, 29, 30, 31, 32, 33, 34, 35, 36, 37, 38, 39, 8, 40, 59, 60, 61, 62, 63, 64, 65, 66, 67, 68, 69, 70, 71, 72, 73, 74, 75, 76, 77, 78, 79, 80] rfl (by decide +kernel)
set_option maxRecDepth 20000 in
theorem gX7_fitAt_X7_within : GoodIn wsX7_fitAt (va_wsS RX7 78 yX7_within wsX7_within) := goodIn_r _ [41, 42, 8, 43] rfl (by decide +kernel)
set_option maxRecDepth 20000 in
theorem gX7_fitAt_X7_answered : GoodIn wsX7_fitAt (wsV RX7 113 RX7 yX7_answered wsX7_answered) := goodIn_r _ [44, 45, 46, 8, 47, 15, 48, 49, 50, 51, 52, 53, 54, 55, 56, 57, 58] rfl (by decide +kernel)
set_option maxRecDepth 20000 in
theorem gX7_could_X7_troubleOfNumber : GoodIn wsX7_could (wsV RX7 188 RX7 yX7_troubleOfNumber wsX7_troubleOfNumber) := goodIn_r _ [5, 6, 7, 8, 9, 10, 11, 12, 8, 13, 2, 14, 15, 16, 17, 53, 54, 55, 56, 57, 58, 59, 60, 61, 62, 63, 71, 72, 73, 74, 75, 76, 77, 78, 79, 80, 81, 82, 83, 84, 85] rfl (by decide +kernel)
set_option maxRecDepth 20000 in
theorem gX7_could_X7_refused : GoodIn wsX7_could (wsV RX7 82 RX7 yX7_refused wsX7_refused) := goodIn_r _ [18, 19, 20, 8, 21, 22, 53, 54, 55, 56, 57, 58, 59, 60, 61, 62, 63] rfl (by decide +kernel)
set_option maxRecDepth 20000 in
theorem gX7_could_X2_list : GoodIn wsX7_could (wsV RX7 259 RX2 yX2_list wsX2_list) := goodIn_r _ [23, 24, 25, 26, 27, 28, 29, 30, 31, 32, 33, 26, 34, 35, 36, 37, 38, 39, 40, 41, 42, 43, 44, 45, 46, 8, 47, 64, 65, 66, 67, 68, 69, 70, 71, 72, 73, 74, 75, 76, 77, 78, 79, 80, 81, 82, 83, 84, 85] rfl (by decide +kernel)
set_option maxRecDepth 20000 in
theorem gX7_could_X0_aliveByLaw : GoodIn wsX7_could (wsV RX7 269 RX0 yX0_aliveByLaw wsX0_aliveByLaw) := goodIn_r _ [48, 40, 41, 42, 43, 44, 45, 46, 8, 47, 71, 72, 73, 74, 75, 76, 77, 78, 79, 80, 81, 82, 83, 84, 85] rfl (by decide +kernel)
set_option maxRecDepth 20000 in
theorem gX7_could_X7_answered : GoodIn wsX7_could (wsV RX7 113 RX7 yX7_answered wsX7_answered) := goodIn_r _ [49, 50, 51, 8, 52, 22, 53, 54, 55, 56, 57, 58, 59, 60, 61, 62, 63] rfl (by decide +kernel)
set_option maxRecDepth 20000 in
theorem gX7_aliveBy_X7_troubleOfFigureWithin : GoodIn wsX7_aliveBy (wsV RX7 181 RX7 yX7_troubleOfFigureWithin wsX7_troubleOfFigureWithin) := goodIn_r _ [5, 6, 7, 8, 9, 10, 11, 12, 8, 13, 2, 14, 15, 16, 17, 53, 54, 55, 56, 57, 58, 59, 60, 61, 62, 63, 71, 72, 73, 74, 75, 76, 77, 78, 79, 80, 81, 82, 83, 84, 85] rfl (by decide +kernel)
set_option maxRecDepth 20000 in
theorem gX7_aliveBy_X7_refused : GoodIn wsX7_aliveBy (wsV RX7 82 RX7 yX7_refused wsX7_refused) := goodIn_r _ [18, 19, 20, 8, 21, 22, 53, 54, 55, 56, 57, 58, 59, 60, 61, 62, 63] rfl (by decide +kernel)
set_option maxRecDepth 20000 in
theorem gX7_aliveBy_X2_list : GoodIn wsX7_aliveBy (wsV RX7 259 RX2 yX2_list wsX2_list) := goodIn_r _ [23, 24, 25, 26, 27, 28, 29, 30, 31, 32, 33, 26, 34, 35, 36, 37, 38, 39, 40, 41, 42, 43, 44, 45, 46, 8, 47, 64, 65, 66, 67, 68, 69, 70, 71, 72, 73, 74, 75, 76, 77, 78, 79, 80, 81, 82, 83, 84, 85] rfl (by decide +kernel)
set_option maxRecDepth 20000 in
theorem gX7_aliveBy_X0_aliveByLaw : GoodIn wsX7_aliveBy (wsV RX7 269 RX0 yX0_aliveByLaw wsX0_aliveByLaw) := goodIn_r _ [48, 40, 41, 42, 43, 44, 45, 46, 8, 47, 71, 72, 73, 74, 75, 76, 77, 78, 79, 80, 81, 82, 83, 84, 85] rfl (by decide +kernel)
set_option maxRecDepth 20000 in
theorem gX7_aliveBy_X7_answered : GoodIn wsX7_aliveBy (wsV RX7 113 RX7 yX7_answered wsX7_answered) := goodIn_r _ [49, 50, 51, 8, 52, 22, 53, 54, 55, 56, 57, 58, 59, 60, 61, 62, 63] rfl (by decide +kernel)
set_option maxRecDepth 20000 in
theorem gX7_look_X7_hasGallery : GoodIn wsX7_look (wsV RX7 154 RX7 yX7_hasGallery wsX7_hasGallery) := goodIn_r _ [4, 5, 6, 7, 8, 2, 9, 65, 66, 67, 68, 69, 70, 71, 72, 73, 74, 75, 83, 84, 85, 86, 87, 88, 89, 90, 91, 92, 93, 94, 95, 96, 97] rfl (by decide +kernel)
set_option maxRecDepth 20000 in
theorem gX7_look_X7_refused : GoodIn wsX7_look (wsV RX7 82 RX7 yX7_refused wsX7_refused) := goodIn_r _ [10, 11, 12, 7, 13, 14, 65, 66, 67, 68, 69, 70, 71, 72, 73, 74, 75] rfl (by decide +kernel)
set_option maxRecDepth 20000 in
theorem gX7_look_X2_chooseLook : GoodIn wsX7_look (wsV RX7 272 RX2 yX2_chooseLook wsX2_chooseLook) := goodIn_r _ [15, 16, 17, 18, 19, 20, 21, 22, 23, 24, 25, 26, 27, 28, 18, 29, 30, 31, 32, 33, 34, 35, 36, 37, 38, 39, 40, 41, 42, 43, 44, 45, 46, 7, 47, 48, 49, 50, 51, 52, 53, 54, 55, 56, 57, 58, 59, 60, 76, 77, 78, 79, 80, 81, 82, 83, 84, 85, 86, 87, 88, 89, 90, 91, 92, 93, 94, 95, 96, 97] rfl (by decide +kernel)
set_option maxRecDepth 20000 in
theorem gX7_look_X7_answered : GoodIn wsX7_look (wsV RX7 113 RX7 yX7_answered wsX7_answered) := goodIn_r _ [61, 62, 63, 7, 64, 14, 65, 66, 67, 68, 69, 70, 71, 72, 73, 74, 75] rfl (by decide +kernel)
set_option maxRecDepth 20000 in
theorem gX7_lookLeaves_X7_hasGallery : GoodIn wsX7_lookLeaves (wsV RX7 154 RX7 yX7_hasGallery wsX7_hasGallery) := goodIn_r _ [4, 5, 6, 7, 8, 2, 9, 65, 66, 67, 68, 69, 70, 71, 72, 73, 74, 75, 83, 84, 85, 86, 87, 88, 89, 90, 91, 92, 93, 94, 95, 96, 97] rfl (by decide +kernel)
set_option maxRecDepth 20000 in
theorem gX7_lookLeaves_X7_refused : GoodIn wsX7_lookLeaves (wsV RX7 82 RX7 yX7_refused wsX7_refused) := goodIn_r _ [10, 11, 12, 7, 13, 14, 65, 66, 67, 68, 69, 70, 71, 72, 73, 74, 75] rfl (by decide +kernel)
set_option maxRecDepth 20000 in
theorem gX7_lookLeaves_X2_chooseLook : GoodIn wsX7_lookLeaves (wsV RX7 272 RX2 yX2_chooseLook wsX2_chooseLook) := goodIn_r _ [15, 16, 17, 18, 19, 20, 21, 22, 23, 24, 25, 26, 27, 28, 18, 29, 30, 31, 32, 33, 34, 35, 36, 37, 38, 39, 40, 41, 42, 43, 44, 45, 46, 7, 47, 48, 49, 50, 51, 52, 53, 54, 55, 56, 57, 58, 59, 60, 76, 77, 78, 79, 80, 81, 82, 83, 84, 85, 86, 87, 88, 89, 90, 91, 92, 93, 94, 95, 96, 97] rfl (by decide +kernel)
set_option maxRecDepth 20000 in
theorem gX7_lookLeaves_X7_answered : GoodIn wsX7_lookLeaves (wsV RX7 113 RX7 yX7_answered wsX7_answered) := goodIn_r _ [61, 62, 63, 7, 64, 14, 65, 66, 67, 68, 69, 70, 71, 72, 73, 74, 75] rfl (by decide +kernel)
set_option maxRecDepth 20000 in
theorem gX7_lawsLike_X7_hasGallery : GoodIn wsX7_lawsLike (wsV RX7 154 RX7 yX7_hasGallery wsX7_hasGallery) := goodIn_r _ [3, 4, 5, 6, 7, 1, 2, 30, 31, 32, 33, 34, 35, 36, 37, 38, 39, 40, 41, 42, 43, 44, 45, 46, 47, 48, 49, 50, 51, 52, 53, 54, 55] rfl (by decide +kernel)
set_option maxRecDepth 20000 in
theorem gX7_lawsLike_X7_refused : GoodIn wsX7_lawsLike (wsV RX7 82 RX7 yX7_refused wsX7_refused) := goodIn_r _ [8, 9, 10, 6, 11, 12, 30, 31, 32, 33, 34, 35, 36, 37, 38, 39, 40] rfl (by decide +kernel)
set_option maxRecDepth 20000 in
theorem gX7_lawsLike_X0_goesLike : GoodIn wsX7_lawsLike (wsV RX7 281 RX0 yX0_goesLike wsX0_goesLike) := goodIn_r _ [13, 14, 15, 16, 17, 18, 19, 20, 21, 22, 16, 23, 24, 25, 41, 42, 43, 44, 45, 46, 47, 48, 49, 50, 51, 52, 53, 54, 55] rfl (by decide +kernel)
set_option maxRecDepth 20000 in
theorem gX7_lawsLike_X7_answered : GoodIn wsX7_lawsLike (wsV RX7 113 RX7 yX7_answered wsX7_answered) := goodIn_r _ [26, 27, 28, 6, 29, 12, 30, 31, 32, 33, 34, 35, 36, 37, 38, 39, 40] rfl (by decide +kernel)
set_option maxRecDepth 20000 in
theorem gX7_lawFor_X7_troubleOfFigureWithin : GoodIn wsX7_lawFor (wsV RX7 181 RX7 yX7_troubleOfFigureWithin wsX7_troubleOfFigureWithin) := goodIn_r _ [1, 2, 3, 4, 5, 6, 7, 8, 4, 9, 10, 11, 12, 13, 14, 24, 25, 26, 27, 28, 29, 30, 31, 32, 33, 34, 35, 36, 37, 38, 39, 40, 41, 42, 43, 44, 45, 46, 47, 48, 49] rfl (by decide +kernel)
set_option maxRecDepth 20000 in
theorem gX7_lawFor_X7_refused : GoodIn wsX7_lawFor (wsV RX7 82 RX7 yX7_refused wsX7_refused) := goodIn_r _ [15, 16, 17, 4, 18, 19, 24, 25, 26, 27, 28, 29, 30, 31, 32, 33, 34] rfl (by decide +kernel)
set_option maxRecDepth 20000 in
theorem gX7_lawFor_X7_answered : GoodIn wsX7_lawFor (wsV RX7 113 RX7 yX7_answered wsX7_answered) := goodIn_r _ [20, 21, 22, 4, 23, 19, 24, 25, 26, 27, 28, 29, 30, 31, 32, 33, 34] rfl (by decide +kernel)
set_option maxRecDepth 20000 in
theorem gX7_judge_X7_hasGallery : GoodIn wsX7_judge (wsV RX7 154 RX7 yX7_hasGallery wsX7_hasGallery) := goodIn_r _ [8, 9, 10, 11, 12, 1, 13, 32, 33, 34, 35, 36, 37, 38, 39, 40, 41, 42, 43, 44, 45, 46, 47, 48, 49, 50, 51, 52, 53, 54, 55, 56, 57] rfl (by decide +kernel)
set_option maxRecDepth 20000 in
theorem gX7_judge_X7_refused : GoodIn wsX7_judge (wsV RX7 82 RX7 yX7_refused wsX7_refused) := goodIn_r _ [14, 15, 16, 11, 17, 18, 32, 33, 34, 35, 36, 37, 38, 39, 40, 41, 42] rfl (by decide +kernel)
set_option maxRecDepth 20000 in
theorem gX7_judge_X0_aliveByLaw : GoodIn wsX7_judge (wsV RX7 269 RX0 yX0_aliveByLaw wsX0_aliveByLaw) := goodIn_r _ [19, 20, 21, 22, 23, 24, 25, 26, 11, 27, 43, 44, 45, 46, 47, 48, 49, 50, 51, 52, 53, 54, 55, 56, 57] rfl (by decide +kernel)
set_option maxRecDepth 20000 in
theorem gX7_judge_X7_answered : GoodIn wsX7_judge (wsV RX7 113 RX7 yX7_answered wsX7_answered) := goodIn_r _ [28, 29, 30, 11, 31, 18, 32, 33, 34, 35, 36, 37, 38, 39, 40, 41, 42] rfl (by decide +kernel)
set_option maxRecDepth 20000 in
theorem gX7_dares_X7_troubleOfNumber : GoodIn wsX7_dares (wsV RX7 188 RX7 yX7_troubleOfNumber wsX7_troubleOfNumber) := goodIn_r _ [2, 3, 4, 5, 6, 7, 8, 9, 5, 10, 11, 12, 13, 14, 15, 26, 27, 28, 29, 30, 31, 32, 33, 34, 35, 36, 37, 38, 39, 40, 41, 42, 43, 44, 45, 46, 47, 48, 49, 50, 51] rfl (by decide +kernel)
set_option maxRecDepth 20000 in
theorem gX7_dares_X7_attendantShare : GoodIn wsX7_dares (va_wsS RX7 299 yX7_attendantShare wsX7_attendantShare) := goodIn_r _ [16, 17, 5, 18] rfl (by decide +kernel)
set_option maxRecDepth 20000 in
theorem gX7_dares_X7_figureShare : GoodIn wsX7_dares (va_wsS RX7 303 yX7_figureShare wsX7_figureShare) := goodIn_r _ [19, 20, 5, 21] rfl (by decide +kernel)
set_option maxRecDepth 20000 in
theorem gX7_dares_X7_answered : GoodIn wsX7_dares (wsV RX7 113 RX7 yX7_answered wsX7_answered) := goodIn_r _ [22, 23, 24, 5, 25, 1, 26, 27, 28, 29, 30, 31, 32, 33, 34, 35, 36] rfl (by decide +kernel)
set_option maxRecDepth 20000 in
theorem gX7_rests_X7_troubleOfNumber : GoodIn wsX7_rests (wsV RX7 188 RX7 yX7_troubleOfNumber wsX7_troubleOfNumber) := goodIn_r _ [1, 2, 3, 4, 5, 6, 7, 8, 4, 9, 10, 11, 12, 13, 14, 33, 34, 35, 36, 37, 38, 39, 40, 41, 42, 43, 44, 45, 46, 47, 48, 49, 50, 51, 52, 53, 54, 55, 56, 57, 58] rfl (by decide +kernel)
set_option maxRecDepth 20000 in
theorem gX7_rests_X7_refused : GoodIn wsX7_rests (wsV RX7 82 RX7 yX7_refused wsX7_refused) := goodIn_r _ [15, 16, 17, 4, 18, 19, 33, 34, 35, 36, 37, 38, 39, 40, 41, 42, 43] rfl (by decide +kernel)
set_option maxRecDepth 20000 in
theorem gX7_rests_X7_isRest : GoodIn wsX7_rests (va_wsS RX7 307 yX7_isRest wsX7_isRest) := goodIn_r _ [20, 21, 4, 22, 23, 24, 4, 25, 26, 27, 28] rfl (by decide +kernel)
set_option maxRecDepth 20000 in
theorem gX7_rests_X7_answered : GoodIn wsX7_rests (wsV RX7 113 RX7 yX7_answered wsX7_answered) := goodIn_r _ [29, 30, 31, 4, 32, 19, 33, 34, 35, 36, 37, 38, 39, 40, 41, 42, 43] rfl (by decide +kernel)
set_option maxRecDepth 20000 in
theorem gX7_rest_X7_troubleOfNumber : GoodIn wsX7_rest (wsV RX7 188 RX7 yX7_troubleOfNumber wsX7_troubleOfNumber) := goodIn_r _ [1, 2, 3, 4, 5, 6, 7, 8, 4, 9, 10, 11, 12, 13, 14, 33, 34, 35, 36, 37, 38, 39, 40, 41, 42, 43, 44, 45, 46, 47, 48, 49, 50, 51, 52, 53, 54, 55, 56, 57, 58] rfl (by decide +kernel)
set_option maxRecDepth 20000 in
theorem gX7_rest_X7_refused : GoodIn wsX7_rest (wsV RX7 82 RX7 yX7_refused wsX7_refused) := goodIn_r _ [15, 16, 17, 4, 18, 19, 33, 34, 35, 36, 37, 38, 39, 40, 41, 42, 43] rfl (by decide +kernel)
set_option maxRecDepth 20000 in
theorem gX7_rest_X7_isRest : GoodIn wsX7_rest (va_wsS RX7 307 yX7_isRest wsX7_isRest) := goodIn_r _ [20, 21, 4, 22, 23, 24, 4, 25, 26, 27, 28] rfl (by decide +kernel)
set_option maxRecDepth 20000 in
theorem gX7_rest_X7_answered : GoodIn wsX7_rest (wsV RX7 113 RX7 yX7_answered wsX7_answered) := goodIn_r _ [29, 30, 31, 4, 32, 19, 33, 34, 35, 36, 37, 38, 39, 40, 41, 42, 43] rfl (by decide +kernel)
set_option maxRecDepth 20000 in
theorem gX7_odds_X7_troubleOfFigureWithin : GoodIn wsX7_odds (wsV RX7 181 RX7 yX7_troubleOfFigureWithin wsX7_troubleOfFigureWithin) := goodIn_r _ [5, 6, 7, 8, 9, 10, 11, 12, 8, 13, 2, 14, 15, 16, 17, 39, 40, 41, 42, 43, 44, 45, 46, 47, 48, 49, 50, 51, 52, 53, 54, 55, 56, 57, 58, 59, 60, 61, 62, 63, 64] rfl (by decide +kernel)
set_option maxRecDepth 20000 in
theorem gX7_odds_X7_refused : GoodIn wsX7_odds (wsV RX7 82 RX7 yX7_refused wsX7_refused) := goodIn_r _ [18, 19, 20, 8, 21, 4, 39, 40, 41, 42, 43, 44, 45, 46, 47, 48, 49] rfl (by decide +kernel)
set_option maxRecDepth 20000 in
theorem gX7_odds_X7_ownTurns : GoodIn wsX7_odds (wsV RX7 311 RX7 yX7_ownTurns wsX7_ownTurns) := goodIn_r _ [22, 23, 24, 8, 25, 26, 27, 2, 28, 29, 30, 31, 32, 33, 34, 35, 39, 40, 41, 42, 43, 44, 45, 46, 47, 48, 49, 65, 66, 67, 68, 69, 70, 71, 50, 51, 52, 53, 54, 55, 56, 57, 58, 59, 60, 61, 62, 63, 64] rfl (by decide +kernel)
set_option maxRecDepth 20000 in
theorem gX7_odds_X7_inLowestTerms : GoodIn wsX7_odds (va_wsS RX7 319 yX7_inLowestTerms wsX7_inLowestTerms) := goodIn_r _ [36, 37, 8, 38] rfl (by decide +kernel)
set_option maxRecDepth 20000 in
theorem gX7_mean_X7_troubleOfFigureWithin : GoodIn wsX7_mean (wsV RX7 181 RX7 yX7_troubleOfFigureWithin wsX7_troubleOfFigureWithin) := goodIn_r _ [5, 6, 7, 8, 9, 10, 11, 12, 8, 13, 2, 14, 15, 16, 17, 39, 40, 41, 42, 43, 44, 45, 46, 47, 48, 49, 50, 51, 52, 53, 54, 55, 56, 57, 58, 59, 60, 61, 62, 63, 64] rfl (by decide +kernel)
set_option maxRecDepth 20000 in
theorem gX7_mean_X7_refused : GoodIn wsX7_mean (wsV RX7 82 RX7 yX7_refused wsX7_refused) := goodIn_r _ [18, 19, 20, 8, 21, 1, 39, 40, 41, 42, 43, 44, 45, 46, 47, 48, 49] rfl (by decide +kernel)
set_option maxRecDepth 20000 in
theorem gX7_mean_X7_ownTurns : GoodIn wsX7_mean (wsV RX7 311 RX7 yX7_ownTurns wsX7_ownTurns) := goodIn_r _ [22, 23, 24, 8, 25, 26, 27, 2, 28, 29, 30, 31, 32, 33, 34, 35, 39, 40, 41, 42, 43, 44, 45, 46, 47, 48, 49, 65, 66, 67, 68, 69, 70, 71, 50, 51, 52, 53, 54, 55, 56, 57, 58, 59, 60, 61, 62, 63, 64] rfl (by decide +kernel)
set_option maxRecDepth 20000 in
theorem gX7_mean_X7_inLowestTerms : GoodIn wsX7_mean (va_wsS RX7 319 yX7_inLowestTerms wsX7_inLowestTerms) := goodIn_r _ [36, 37, 8, 38] rfl (by decide +kernel)
set_option maxRecDepth 20000 in
theorem gX7_drawn_X7_isFigure : GoodIn wsX7_drawn (wsV RX7 116 RX7 yX7_isFigure wsX7_isFigure) := goodIn_r _ [5, 6, 7, 8, 9, 4, 10, 11, 12, 8, 13, 40, 41, 42, 43, 44, 45, 46, 47, 48, 49, 50, 58, 59, 60, 61, 62, 63, 64, 65, 66, 67, 68, 69, 70, 71, 72] rfl (by decide +kernel)
set_option maxRecDepth 20000 in
theorem gX7_drawn_X7_refused : GoodIn wsX7_drawn (wsV RX7 82 RX7 yX7_refused wsX7_refused) := goodIn_r _ [14, 15, 16, 8, 17, 18, 40, 41, 42, 43, 44, 45, 46, 47, 48, 49, 50] rfl (by decide +kernel)
set_option maxRecDepth 20000 in
theorem gX7_drawn_X7_within : GoodIn wsX7_drawn (va_wsS RX7 78 yX7_within wsX7_within) := goodIn_r _ [11, 12, 8, 13] rfl (by decide +kernel)
set_option maxRecDepth 20000 in
theorem gX7_drawn_X7_nextDraw : GoodIn wsX7_drawn (va_wsS RX7 324 yX7_nextDraw wsX7_nextDraw) := goodIn_r _ [19, 20, 8, 21, 22] rfl (by decide +kernel)
set_option maxRecDepth 20000 in
theorem gX7_drawn_X0_next : GoodIn wsX7_drawn (wsV RX7 174 RX0 yX0_next wsX0_next) := goodIn_r _ [23, 24, 25, 26, 27, 28, 29, 30, 58, 59, 60, 61, 62, 63, 64, 65, 66, 67, 68, 69, 70, 71, 72] rfl (by decide +kernel)
set_option maxRecDepth 20000 in
theorem gX7_drawn_X7_isShut : GoodIn wsX7_drawn (wsV RX7 327 RX7 yX7_isShut wsX7_isShut) := goodIn_r _ [31, 32, 33, 8, 34, 4, 35, 40, 41, 42, 43, 44, 45, 46, 47, 48, 49, 50, 58, 59, 60, 61, 62, 63, 64, 65, 66, 67, 68, 69, 70, 71, 72] rfl (by decide +kernel)
set_option maxRecDepth 20000 in
theorem gX7_drawn_X7_answered : GoodIn wsX7_drawn (wsV RX7 113 RX7 yX7_answered wsX7_answered) := goodIn_r _ [36, 37, 38, 8, 39, 18, 40, 41, 42, 43, 44, 45, 46, 47, 48, 49, 50] rfl (by decide +kernel)
set_option maxRecDepth 20000 in
theorem gX7_firstShut_X7_hasGallery : GoodIn wsX7_firstShut (wsV RX7 154 RX7 yX7_hasGallery wsX7_hasGallery) := goodIn_r _ [2, 3, 4, 5, 6, 7, 8, 30, 31, 32, 33, 34, 35, 36, 37, 38, 39, 40, 41, 42, 43, 44, 45, 46, 47, 48, 49, 50, 51, 52, 53, 54, 55] rfl (by decide +kernel)
set_option maxRecDepth 20000 in
theorem gX7_firstShut_X7_refused : GoodIn wsX7_firstShut (wsV RX7 82 RX7 yX7_refused wsX7_refused) := goodIn_r _ [9, 10, 11, 5, 12, 13, 30, 31, 32, 33, 34, 35, 36, 37, 38, 39, 40] rfl (by decide +kernel)
set_option maxRecDepth 20000 in
theorem gX7_firstShut_X7_within : GoodIn wsX7_firstShut (va_wsS RX7 78 yX7_within wsX7_within) := goodIn_r _ [14, 15, 5, 16] rfl (by decide +kernel)
set_option maxRecDepth 20000 in
theorem gX7_firstShut_X7_nextDraw : GoodIn wsX7_firstShut (va_wsS RX7 324 yX7_nextDraw wsX7_nextDraw) := goodIn_r _ [17, 18, 5, 19, 20] rfl (by decide +kernel)
set_option maxRecDepth 20000 in
theorem gX7_firstShut_X7_isShut : GoodIn wsX7_firstShut (wsV RX7 327 RX7 yX7_isShut wsX7_isShut) := goodIn_r _ [21, 22, 23, 5, 24, 7, 25, 30, 31, 32, 33, 34, 35, 36, 37, 38, 39, 40, 41, 42, 43, 44, 45, 46, 47, 48, 49, 50, 51, 52, 53, 54, 55] rfl (by decide +kernel)
set_option maxRecDepth 20000 in
theorem gX7_firstShut_X7_answered : GoodIn wsX7_firstShut (wsV RX7 113 RX7 yX7_answered wsX7_answered) := goodIn_r _ [26, 27, 28, 5, 29, 13, 30, 31, 32, 33, 34, 35, 36, 37, 38, 39, 40] rfl (by decide +kernel)
set_option maxRecDepth 20000 in
theorem gX7_go_X7_troubleOfNumber : GoodIn wsX7_go (wsV RX7 188 RX7 yX7_troubleOfNumber wsX7_troubleOfNumber) := goodIn_r _ [7, 8, 9, 10, 11, 12, 13, 14, 10, 15, 5, 16, 17, 18, 19, 118, 119, 120, 121, 122, 123, 124, 125, 126, 127, 128, 136, 137, 138, 139, 140, 141, 142, 143, 144, 145, 146, 147, 148, 149, 150] rfl (by decide +kernel)
set_option maxRecDepth 20000 in
theorem gX7_go_X7_refused : GoodIn wsX7_go (wsV RX7 82 RX7 yX7_refused wsX7_refused) := goodIn_r _ [20, 21, 22, 10, 23, 24, 118, 119, 120, 121, 122, 123, 124, 125, 126, 127, 128] rfl (by decide +kernel)
set_option maxRecDepth 20000 in
theorem gX7_go_X1_keep : GoodIn wsX7_go (wsV RX7 330 RX1 yX1_keep wsX1_keep) := goodIn_r _ [25, 26, 27, 28, 29, 30, 31, 32, 33, 34, 35, 36, 37, 38, 39, 40, 41, 42, 43, 44, 45, 46, 47, 48, 151, 152, 153, 154, 155, 129, 130, 131, 132, 133, 134, 135] rfl (by decide +kernel)
set_option maxRecDepth 20000 in
theorem gX7_go_X0_pass : GoodIn wsX7_go (wsV RX7 205 RX0 yX0_pass wsX0_pass) := goodIn_r _ [49, 50, 51, 52, 53, 54, 55, 56, 57, 58, 59, 60, 61, 62, 52, 63, 64, 65, 18, 10, 19, 66, 67, 68, 69, 70, 71, 72, 73, 74, 75, 40, 76, 45, 77, 78, 79, 80, 81, 82, 83, 84, 85, 86, 87, 88, 89, 90, 91, 92, 93, 94, 95, 96, 97, 98, 99, 100, 101, 102, 103, 104, 105, 106, 107, 108, 109, 110, 111, 112, 113, 43, 44, 129, 130, 131, 132, 133, 134, 135, 136, 137, 138, 139, 140, 141, 142, 143, 144, 145, 146, 147, 148, 149, 150, 156, 157, 158, 159] rfl (by decide +kernel)
set_option maxRecDepth 20000 in
theorem gX7_go_X7_answered : GoodIn wsX7_go (wsV RX7 113 RX7 yX7_answered wsX7_answered) := goodIn_r _ [114, 115, 116, 10, 117, 24, 118, 119, 120, 121, 122, 123, 124, 125, 126, 127, 128] rfl (by decide +kernel)
set_option maxRecDepth 20000 in
theorem gX7_put_X7_isFigure : GoodIn wsX7_put (wsV RX7 116 RX7 yX7_isFigure wsX7_isFigure) := goodIn_r _ [4, 5, 6, 7, 8, 9, 10, 11, 12, 7, 13, 53, 54, 55, 56, 57, 58, 59, 60, 61, 62, 63, 71, 72, 73, 74, 75, 76, 77, 78, 79, 80, 81, 82, 83, 84, 85] rfl (by decide +kernel)
set_option maxRecDepth 20000 in
theorem gX7_put_X7_refused : GoodIn wsX7_put (wsV RX7 82 RX7 yX7_refused wsX7_refused) := goodIn_r _ [14, 15, 16, 7, 17, 18, 53, 54, 55, 56, 57, 58, 59, 60, 61, 62, 63] rfl (by decide +kernel)
set_option maxRecDepth 20000 in
theorem gX7_put_X5_isGone : GoodIn wsX7_put (wsV RX7 129 RX5 yX5_isGone wsX5_isGone) := goodIn_r _ [19, 20, 21, 22, 23, 24, 25, 7, 26, 64, 65, 66, 67, 68, 69, 70] rfl (by decide +kernel)
set_option maxRecDepth 20000 in
theorem gX7_put_X1_keep : GoodIn wsX7_put (wsV RX7 330 RX1 yX1_keep wsX1_keep) := goodIn_r _ [27, 28, 29, 30, 31, 32, 33, 34, 35, 36, 37, 38, 39, 40, 41, 22, 42, 43, 44, 45, 24, 46, 47, 48, 86, 87, 88, 89, 90, 64, 65, 66, 67, 68, 69, 70] rfl (by decide +kernel)
set_option maxRecDepth 20000 in
theorem gX7_put_X7_answered : GoodIn wsX7_put (wsV RX7 113 RX7 yX7_answered wsX7_answered) := goodIn_r _ [49, 50, 51, 7, 52, 18, 53, 54, 55, 56, 57, 58, 59, 60, 61, 62, 63] rfl (by decide +kernel)
set_option maxRecDepth 20000 in
theorem gX7_wind_X7_isFigure : GoodIn wsX7_wind (wsV RX7 116 RX7 yX7_isFigure wsX7_isFigure) := goodIn_r _ [5, 6, 7, 8, 9, 10, 11, 12, 13, 8, 14, 52, 53, 54, 55, 56, 57, 58, 59, 60, 61, 62, 70, 71, 72, 73, 74, 75, 76, 77, 78, 79, 80, 81, 82, 83, 84] rfl (by decide +kernel)
set_option maxRecDepth 20000 in
theorem gX7_wind_X7_refused : GoodIn wsX7_wind (wsV RX7 82 RX7 yX7_refused wsX7_refused) := goodIn_r _ [15, 16, 17, 8, 18, 19, 52, 53, 54, 55, 56, 57, 58, 59, 60, 61, 62] rfl (by decide +kernel)
set_option maxRecDepth 20000 in
theorem gX7_wind_X1_keep : GoodIn wsX7_wind (wsV RX7 330 RX1 yX1_keep wsX1_keep) := goodIn_r _ [20, 21, 22, 23, 24, 25, 26, 27, 28, 29, 30, 31, 32, 33, 34, 35, 36, 37, 38, 39, 40, 41, 42, 43, 85, 86, 87, 88, 89, 63, 64, 65, 66, 67, 68, 69] rfl (by decide +kernel)
set_option maxRecDepth 20000 in
theorem gX7_wind_X5_startTurn : GoodIn wsX7_wind (wsV RX7 248 RX5 yX5_startTurn wsX5_startTurn) := goodIn_r _ [44, 45, 46, 35, 47, 38, 39, 63, 64, 65, 66, 67, 68, 69] rfl (by decide +kernel)
set_option maxRecDepth 20000 in
theorem gX7_wind_X7_answered : GoodIn wsX7_wind (wsV RX7 113 RX7 yX7_answered wsX7_answered) := goodIn_r _ [48, 49, 50, 8, 51, 19, 52, 53, 54, 55, 56, 57, 58, 59, 60, 61, 62] rfl (by decide +kernel)
set_option maxRecDepth 20000 in
theorem gX7_undo_X1_takeLatest : GoodIn wsX7_undo (wsV RX7 333 RX1 yX1_takeLatest wsX1_takeLatest) := goodIn_r _ [4, 5, 6, 7, 8, 9, 10, 11, 12, 13, 14, 15, 16, 17, 18, 19, 20, 21, 22, 23, 35, 36, 37, 38, 39, 40, 41, 42, 43, 44, 45, 46] rfl (by decide +kernel)
set_option maxRecDepth 20000 in
theorem gX7_image_X7_hasGallery : GoodIn wsX7_image (wsV RX7 154 RX7 yX7_hasGallery wsX7_hasGallery) := goodIn_r _ [4, 5, 6, 7, 8, 9, 10, 39, 40, 41, 42, 43, 44, 45, 46, 47, 48, 49, 55, 56, 57, 58, 59, 60, 61, 62, 63, 64, 65, 66, 67, 68, 69] rfl (by decide +kernel)
set_option maxRecDepth 20000 in
theorem gX7_image_X7_refused : GoodIn wsX7_image (wsV RX7 82 RX7 yX7_refused wsX7_refused) := goodIn_r _ [11, 12, 13, 7, 14, 15, 39, 40, 41, 42, 43, 44, 45, 46, 47, 48, 49] rfl (by decide +kernel)
