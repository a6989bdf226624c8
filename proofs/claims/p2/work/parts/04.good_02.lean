set_option maxRecDepth 20000 in
theorem ggX7_windBest_X7_answered : GoodIn wsX7_windBest wsX7_answered := goodIn_r _ [104, 15, 105, 106, 107, 108, 109, 110, 111, 112, 113, 114, 115] (by decide +kernel) (by decide +kernel)
set_option maxRecDepth 20000 in
theorem gX7_windBest_X7_answered : GoodIn wsX7_windBest (wsV RX7 113 RX7 yX7_answered wsX7_answered) := goodIn_app (goodIn_of _ (by decide +kernel)) ggX7_windBest_X7_answered
set_option maxRecDepth 20000 in
theorem ggX7_patrol_X7_isWatcher : GoodIn wsX7_patrol wsX7_isWatcher := goodIn_r _ [14, 2, 3, 15, 16, 17, 13, 18, 121, 122, 123, 124, 125, 126, 127, 128, 129, 130, 131, 132, 133, 134, 135, 136, 137, 138, 139, 140, 141, 142, 143, 144, 145, 146, 147, 148, 149, 150] (by decide +kernel) (by decide +kernel)
set_option maxRecDepth 20000 in
theorem gX7_patrol_X7_isWatcher : GoodIn wsX7_patrol (wsV RX7 135 RX7 yX7_isWatcher wsX7_isWatcher) := goodIn_app (goodIn_of _ (by decide +kernel)) ggX7_patrol_X7_isWatcher
set_option maxRecDepth 20000 in
theorem ggX7_patrol_X7_refused : GoodIn wsX7_patrol wsX7_refused := goodIn_r _ [22, 23, 121, 122, 123, 124, 125, 126, 127, 128, 129, 130, 131] (by decide +kernel) (by decide +kernel)
set_option maxRecDepth 20000 in
theorem gX7_patrol_X7_refused : GoodIn wsX7_patrol (wsV RX7 82 RX7 yX7_refused wsX7_refused) := goodIn_app (goodIn_of _ (by decide +kernel)) ggX7_patrol_X7_refused
set_option maxRecDepth 20000 in
theorem ggX7_patrol_X7_within : GoodIn wsX7_patrol wsX7_within := goodIn_r _ [18] (by decide +kernel) (by decide +kernel)
set_option maxRecDepth 20000 in
theorem gX7_patrol_X7_within : GoodIn wsX7_patrol (va_wsS RX7 78 yX7_within wsX7_within) := goodIn_app (goodIn_of _ (by decide +kernel)) ggX7_patrol_X7_within
set_option maxRecDepth 20000 in
theorem ggX7_patrol_X6_copyFrom : GoodIn wsX7_patrol wsX6_copyFrom := goodIn_r _ [28, 29, 30, 31, 32, 147, 148, 149, 150] (by decide +kernel) (by decide +kernel)
set_option maxRecDepth 20000 in
theorem gX7_patrol_X6_copyFrom : GoodIn wsX7_patrol (wsV RX7 242 RX6 yX6_copyFrom wsX6_copyFrom) := goodIn_app (goodIn_of _ (by decide +kernel)) ggX7_patrol_X6_copyFrom
set_option maxRecDepth 20000 in
theorem ggX7_patrol_X7_runAheadOnTrial : GoodIn wsX7_patrol wsX7_runAheadOnTrial := goodIn_r _ [36, 7, 37, 2, 1, 38, 39, 40, 41, 42, 43, 44, 45, 46, 47, 48, 49, 50, 51, 52, 53, 54, 55, 56, 57, 58, 59, 60, 61, 62, 63, 64, 65, 66, 17, 13, 18, 67, 68, 69, 70, 71, 72, 73, 74, 75, 76, 77, 78, 79, 80, 81, 82, 83, 84, 85, 86, 27, 87, 30, 29, 88, 89, 90, 91, 32, 31, 92, 93, 94, 95, 96, 97, 98, 99, 100, 101, 102, 103, 104, 105, 106, 107, 108, 109, 121, 122, 123, 124, 125, 126, 127, 128, 129, 130, 131, 151, 152, 153, 154, 155, 156, 157, 132, 133, 134, 135, 136, 137, 138, 139, 140, 141, 142, 143, 144, 145, 146, 147, 148, 149, 150] (by decide +kernel) (by decide +kernel)
set_option maxRecDepth 20000 in
theorem gX7_patrol_X7_runAheadOnTrial : GoodIn wsX7_patrol (wsV RX7 251 RX7 yX7_runAheadOnTrial wsX7_runAheadOnTrial) := goodIn_app (goodIn_of _ (by decide +kernel)) ggX7_patrol_X7_runAheadOnTrial
set_option maxRecDepth 20000 in
theorem ggX7_patrol_J6_bitCount_0f7a4 : GoodIn wsX7_patrol wsJ6_bitCount_0f7a4 := goodIn_r _ [113, 114, 115, 116] (by decide +kernel) (by decide +kernel)
set_option maxRecDepth 20000 in
theorem gX7_patrol_J6_bitCount_0f7a4 : GoodIn wsX7_patrol (va_wsS RX7 254 yJ6_bitCount_0f7a4 wsJ6_bitCount_0f7a4) := goodIn_app (goodIn_of _ (by decide +kernel)) ggX7_patrol_J6_bitCount_0f7a4
set_option maxRecDepth 20000 in
theorem ggX7_patrol_X7_answered : GoodIn wsX7_patrol wsX7_answered := goodIn_r _ [120, 23, 121, 122, 123, 124, 125, 126, 127, 128, 129, 130, 131] (by decide +kernel) (by decide +kernel)
set_option maxRecDepth 20000 in
theorem gX7_patrol_X7_answered : GoodIn wsX7_patrol (wsV RX7 113 RX7 yX7_answered wsX7_answered) := goodIn_app (goodIn_of _ (by decide +kernel)) ggX7_patrol_X7_answered
set_option maxRecDepth 20000 in
theorem ggX7_fits_X7_hasGallery : GoodIn wsX7_fits wsX7_hasGallery := goodIn_r _ [8, 2, 9, 44, 45, 46, 47, 48, 49, 50, 51, 52, 53, 54, 62, 63, 64, 65, 66, 67, 68, 69, 70, 71, 72, 73, 74, 75, 76] (by decide +kernel) (by decide +kernel)
set_option maxRecDepth 20000 in
theorem gX7_fits_X7_hasGallery : GoodIn wsX7_fits (wsV RX7 154 RX7 yX7_hasGallery wsX7_hasGallery) := goodIn_app (goodIn_of _ (by decide +kernel)) ggX7_fits_X7_hasGallery
set_option maxRecDepth 20000 in
theorem ggX7_fits_X7_refused : GoodIn wsX7_fits wsX7_refused := goodIn_r _ [13, 14, 44, 45, 46, 47, 48, 49, 50, 51, 52, 53, 54] (by decide +kernel) (by decide +kernel)
set_option maxRecDepth 20000 in
theorem gX7_fits_X7_refused : GoodIn wsX7_fits (wsV RX7 82 RX7 yX7_refused wsX7_refused) := goodIn_app (goodIn_of _ (by decide +kernel)) ggX7_fits_X7_refused
set_option maxRecDepth 20000 in
theorem ggX7_fits_X2_list : GoodIn wsX7_fits wsX2_list := goodIn_r _ [19, 20, 21, 22, 23, 24, 25, 18, 26, 27, 28, 29, 30, 31, 32, 33, 34, 35, 36, 37, 38, 7, 39, 55, 56, 57, 58, 59, 60, 61, 62, 63, 64, 65, 66, 67, 68, 69, 70, 71, 72, 73, 74, 75, 76] (by decide +kernel) (by decide +kernel)
set_option maxRecDepth 20000 in
theorem gX7_fits_X2_list : GoodIn wsX7_fits (wsV RX7 259 RX2 yX2_list wsX2_list) := goodIn_app (goodIn_of _ (by decide +kernel)) ggX7_fits_X2_list
set_option maxRecDepth 20000 in
theorem ggX7_fits_X7_answered : GoodIn wsX7_fits wsX7_answered := goodIn_r _ [43, 14, 44, 45, 46, 47, 48, 49, 50, 51, 52, 53, 54] (by decide +kernel) (by decide +kernel)
set_option maxRecDepth 20000 in
theorem gX7_fits_X7_answered : GoodIn wsX7_fits (wsV RX7 113 RX7 yX7_answered wsX7_answered) := goodIn_app (goodIn_of _ (by decide +kernel)) ggX7_fits_X7_answered
set_option maxRecDepth 20000 in
theorem ggX7_fitAt_X7_hasGallery : GoodIn wsX7_fitAt wsX7_hasGallery := goodIn_r _ [9, 2, 10, 48, 49, 50, 51, 52, 53, 54, 55, 56, 57, 58, 66, 67, 68, 69, 70, 71, 72, 73, 74, 75, 76, 77, 78, 79, 80] (by decide +kernel) (by decide +kernel)
set_option maxRecDepth 20000 in
theorem gX7_fitAt_X7_hasGallery : GoodIn wsX7_fitAt (wsV RX7 154 RX7 yX7_hasGallery wsX7_hasGallery) := goodIn_app (goodIn_of _ (by decide +kernel)) ggX7_fitAt_X7_hasGallery
set_option maxRecDepth 20000 in
theorem ggX7_fitAt_X7_refused : GoodIn wsX7_fitAt wsX7_refused := goodIn_r _ [14, 15, 48, 49, 50, 51, 52, 53, 54, 55, 56, 57, 58] (by decide +kernel) (by decide +kernel)
set_option maxRecDepth 20000 in
theorem gX7_fitAt_X7_refused : GoodIn wsX7_fitAt (wsV RX7 82 RX7 yX7_refused wsX7_refused) := goodIn_app (goodIn_of _ (by decide +kernel)) ggX7_fitAt_X7_refused
set_option maxRecDepth 20000 in
theorem ggX7_fitAt_X2_list : GoodIn wsX7_fitAt wsX2_list := goodIn_r _ [20, 21, 22, 23, 24, 25, 26, 19, 27, 28, 29, 30, 31, 32, 33, 34, 35, 36, 37, 38, 39, 8, 40, 59, 60, 61, 62, 63, 64, 65, 66, 67, 68, 69, 70, 71, 72, 73, 74, 75, 76, 77, 78, 79, 80] (by decide +kernel) (by decide +kernel)
set_option maxRecDepth 20000 in
theorem gX7_fitAt_X2_list : GoodIn wsX7_fitAt (wsV RX7 259 RX2 yX2_list wsX2_list) := goodIn_app (goodIn_of _ (by decide +kernel)) ggX7_fitAt_X2_list
set_option maxRecDepth 20000 in
theorem ggX7_fitAt_X7_within : GoodIn wsX7_fitAt wsX7_within := goodIn_r _ [43] (by decide +kernel) (by decide +kernel)
set_option maxRecDepth 20000 in
theorem gX7_fitAt_X7_within : GoodIn wsX7_fitAt (va_wsS RX7 78 yX7_within wsX7_within) := goodIn_app (goodIn_of _ (by decide +kernel)) ggX7_fitAt_X7_within
set_option maxRecDepth 20000 in
theorem ggX7_fitAt_X7_answered : GoodIn wsX7_fitAt wsX7_answered := goodIn_r _ [47, 15, 48, 49, 50, 51, 52, 53, 54, 55, 56, 57, 58] (by decide +kernel) (by decide +kernel)
set_option maxRecDepth 20000 in
theorem gX7_fitAt_X7_answered : GoodIn wsX7_fitAt (wsV RX7 113 RX7 yX7_answered wsX7_answered) := goodIn_app (goodIn_of _ (by decide +kernel)) ggX7_fitAt_X7_answered
set_option maxRecDepth 20000 in
theorem ggX7_could_X7_troubleOfNumber : GoodIn wsX7_could wsX7_troubleOfNumber := goodIn_r _ [9, 10, 11, 12, 8, 13, 2, 14, 15, 16, 17, 53, 54, 55, 56, 57, 58, 59, 60, 61, 62, 63, 71, 72, 73, 74, 75, 76, 77, 78, 79, 80, 81, 82, 83, 84, 85] (by decide +kernel) (by decide +kernel)
set_option maxRecDepth 20000 in
theorem gX7_could_X7_troubleOfNumber : GoodIn wsX7_could (wsV RX7 188 RX7 yX7_troubleOfNumber wsX7_troubleOfNumber) := goodIn_app (goodIn_of _ (by decide +kernel)) ggX7_could_X7_troubleOfNumber
set_option maxRecDepth 20000 in
theorem ggX7_could_X7_refused : GoodIn wsX7_could wsX7_refused := goodIn_r _ [21, 22, 53, 54, 55, 56, 57, 58, 59, 60, 61, 62, 63] (by decide +kernel) (by decide +kernel)
set_option maxRecDepth 20000 in
theorem gX7_could_X7_refused : GoodIn wsX7_could (wsV RX7 82 RX7 yX7_refused wsX7_refused) := goodIn_app (goodIn_of _ (by decide +kernel)) ggX7_could_X7_refused
set_option maxRecDepth 20000 in
theorem ggX7_could_X2_list : GoodIn wsX7_could wsX2_list := goodIn_r _ [27, 28, 29, 30, 31, 32, 33, 26, 34, 35, 36, 37, 38, 39, 40, 41, 42, 43, 44, 45, 46, 8, 47, 64, 65, 66, 67, 68, 69, 70, 71, 72, 73, 74, 75, 76, 77, 78, 79, 80, 81, 82, 83, 84, 85] (by decide +kernel) (by decide +kernel)
set_option maxRecDepth 20000 in
theorem gX7_could_X2_list : GoodIn wsX7_could (wsV RX7 259 RX2 yX2_list wsX2_list) := goodIn_app (goodIn_of _ (by decide +kernel)) ggX7_could_X2_list
set_option maxRecDepth 20000 in
theorem ggX7_could_X0_aliveByLaw : GoodIn wsX7_could wsX0_aliveByLaw := goodIn_r _ [43, 44, 45, 46, 8, 47, 71, 72, 73, 74, 75, 76, 77, 78, 79, 80, 81, 82, 83, 84, 85] (by decide +kernel) (by decide +kernel)
set_option maxRecDepth 20000 in
theorem gX7_could_X0_aliveByLaw : GoodIn wsX7_could (wsV RX7 269 RX0 yX0_aliveByLaw wsX0_aliveByLaw) := goodIn_app (goodIn_of _ (by decide +kernel)) ggX7_could_X0_aliveByLaw
set_option maxRecDepth 20000 in
theorem ggX7_could_X7_answered : GoodIn wsX7_could wsX7_answered := goodIn_r _ [52, 22, 53, 54, 55, 56, 57, 58, 59, 60, 61, 62, 63] (by decide +kernel) (by decide +kernel)
set_option maxRecDepth 20000 in
theorem gX7_could_X7_answered : GoodIn wsX7_could (wsV RX7 113 RX7 yX7_answered wsX7_answered) := goodIn_app (goodIn_of _ (by decide +kernel)) ggX7_could_X7_answered
set_option maxRecDepth 20000 in
theorem ggX7_aliveBy_X7_troubleOfFigureWithin : GoodIn wsX7_aliveBy wsX7_troubleOfFigureWithin := goodIn_r _ [9, 10, 11, 12, 8, 13, 2, 14, 15, 16, 17, 53, 54, 55, 56, 57, 58, 59, 60, 61, 62, 63, 71, 72, 73, 74, 75, 76, 77, 78, 79, 80, 81, 82, 83, 84, 85] (by decide +kernel) (by decide +kernel)
set_option maxRecDepth 20000 in
theorem gX7_aliveBy_X7_troubleOfFigureWithin : GoodIn wsX7_aliveBy (wsV RX7 181 RX7 yX7_troubleOfFigureWithin wsX7_troubleOfFigureWithin) := goodIn_app (goodIn_of _ (by decide +kernel)) ggX7_aliveBy_X7_troubleOfFigureWithin
set_option maxRecDepth 20000 in
theorem ggX7_aliveBy_X7_refused : GoodIn wsX7_aliveBy wsX7_refused := goodIn_r _ [21, 22, 53, 54, 55, 56, 57, 58, 59, 60, 61, 62, 63] (by decide +kernel) (by decide +kernel)
set_option maxRecDepth 20000 in
theorem gX7_aliveBy_X7_refused : GoodIn wsX7_aliveBy (wsV RX7 82 RX7 yX7_refused wsX7_refused) := goodIn_app (goodIn_of _ (by decide +kernel)) ggX7_aliveBy_X7_refused
set_option maxRecDepth 20000 in
theorem ggX7_aliveBy_X2_list : GoodIn wsX7_aliveBy wsX2_list := goodIn_r _ [27, 28, 29, 30, 31, 32, 33, 26, 34, 35, 36, 37, 38, 39, 40, 41, 42, 43, 44, 45, 46, 8, 47, 64, 65, 66, 67, 68, 69, 70, 71, 72, 73, 74, 75, 76, 77, 78, 79, 80, 81, 82, 83, 84, 85] (by decide +kernel) (by decide +kernel)
set_option maxRecDepth 20000 in
theorem gX7_aliveBy_X2_list : GoodIn wsX7_aliveBy (wsV RX7 259 RX2 yX2_list wsX2_list) := goodIn_app (goodIn_of _ (by decide +kernel)) ggX7_aliveBy_X2_list
set_option maxRecDepth 20000 in
theorem ggX7_aliveBy_X0_aliveByLaw : GoodIn wsX7_aliveBy wsX0_aliveByLaw := goodIn_r _ [43, 44, 45, 46, 8, 47, 71, 72, 73, 74, 75, 76, 77, 78, 79, 80, 81, 82, 83, 84, 85] (by decide +kernel) (by decide +kernel)
set_option maxRecDepth 20000 in
theorem gX7_aliveBy_X0_aliveByLaw : GoodIn wsX7_aliveBy (wsV RX7 269 RX0 yX0_aliveByLaw wsX0_aliveByLaw) := goodIn_app (goodIn_of _ (by decide +kernel)) ggX7_aliveBy_X0_aliveByLaw
set_option maxRecDepth 20000 in
theorem ggX7_aliveBy_X7_answered : GoodIn wsX7_aliveBy wsX7_answered := goodIn_r _ [52, 22, 53, 54, 55, 56, 57, 58, 59, 60, 61, 62, 63] (by decide +kernel) (by decide +kernel)
set_option maxRecDepth 20000 in
theorem gX7_aliveBy_X7_answered : GoodIn wsX7_aliveBy (wsV RX7 113 RX7 yX7_answered wsX7_answered) := goodIn_app (goodIn_of _ (by decide +kernel)) ggX7_aliveBy_X7_answered
set_option maxRecDepth 20000 in
theorem ggX7_look_X7_hasGallery : GoodIn wsX7_look wsX7_hasGallery := goodIn_r _ [8, 2, 9, 65, 66, 67, 68, 69, 70, 71, 72, 73, 74, 75, 83, 84, 85, 86, 87, 88, 89, 90, 91, 92, 93, 94, 95, 96, 97] (by decide +kernel) (by decide +kernel)
set_option maxRecDepth 20000 in
theorem gX7_look_X7_hasGallery : GoodIn wsX7_look (wsV RX7 154 RX7 yX7_hasGallery wsX7_hasGallery) := goodIn_app (goodIn_of _ (by decide +kernel)) ggX7_look_X7_hasGallery
set_option maxRecDepth 20000 in
theorem ggX7_look_X7_refused : GoodIn wsX7_look wsX7_refused := goodIn_r _ [13, 14, 65, 66, 67, 68, 69, 70, 71, 72, 73, 74, 75] (by decide +kernel) (by decide +kernel)
set_option maxRecDepth 20000 in
theorem gX7_look_X7_refused : GoodIn wsX7_look (wsV RX7 82 RX7 yX7_refused wsX7_refused) := goodIn_app (goodIn_of _ (by decide +kernel)) ggX7_look_X7_refused
set_option maxRecDepth 20000 in
theorem ggX7_look_X2_chooseLook : GoodIn wsX7_look wsX2_chooseLook := goodIn_r _ [19, 20, 21, 22, 23, 24, 25, 26, 27, 28, 18, 29, 30, 31, 32, 33, 34, 35, 36, 37, 38, 39, 40, 41, 42, 43, 44, 45, 46, 7, 47, 48, 49, 50, 51, 52, 53, 54, 55, 56, 57, 58, 59, 60, 76, 77, 78, 79, 80, 81, 82, 83, 84, 85, 86, 87, 88, 89, 90, 91, 92, 93, 94, 95, 96, 97] (by decide +kernel) (by decide +kernel)
set_option maxRecDepth 20000 in
theorem gX7_look_X2_chooseLook : GoodIn wsX7_look (wsV RX7 272 RX2 yX2_chooseLook wsX2_chooseLook) := goodIn_app (goodIn_of _ (by decide +kernel)) ggX7_look_X2_chooseLook
set_option maxRecDepth 20000 in
theorem ggX7_look_X7_answered : GoodIn wsX7_look wsX7_answered := goodIn_r _ [64, 14, 65, 66, 67, 68, 69, 70, 71, 72, 73, 74, 75] (by decide +kernel) (by decide +kernel)
set_option maxRecDepth 20000 in
theorem gX7_look_X7_answered : GoodIn wsX7_look (wsV RX7 113 RX7 yX7_answered wsX7_answered) := goodIn_app (goodIn_of _ (by decide +kernel)) ggX7_look_X7_answered
set_option maxRecDepth 20000 in
theorem ggX7_lookLeaves_X7_hasGallery : GoodIn wsX7_lookLeaves wsX7_hasGallery := goodIn_r _ [8, 2, 9, 65, 66, 67, 68, 69, 70, 71, 72, 73, 74, 75, 83, 84, 85, 86, 87, 88, 89, 90, 91, 92, 93, 94, 95, 96, 97] (by decide +kernel) (by decide +kernel)
set_option maxRecDepth 20000 in
theorem gX7_lookLeaves_X7_hasGallery : GoodIn wsX7_lookLeaves (wsV RX7 154 RX7 yX7_hasGallery wsX7_hasGallery) := goodIn_app (goodIn_of _ (by decide +kernel)) ggX7_lookLeaves_X7_hasGallery
set_option maxRecDepth 20000 in
theorem ggX7_lookLeaves_X7_refused : GoodIn wsX7_lookLeaves wsX7_refused := goodIn_r _ [13, 14, 65, 66, 67, 68, 69, 70, 71, 72, 73, 74, 75] (by decide +kernel) (by decide +kernel)
set_option maxRecDepth 20000 in
theorem gX7_lookLeaves_X7_refused : GoodIn wsX7_lookLeaves (wsV RX7 82 RX7 yX7_refused wsX7_refused) := goodIn_app (goodIn_of _ (by decide +kernel)) ggX7_lookLeaves_X7_refused
set_option maxRecDepth 20000 in
theorem ggX7_lookLeaves_X2_chooseLook : GoodIn wsX7_lookLeaves wsX2_chooseLook := goodIn_r _ [19, 20, 21, 22, 23, 24, 25, 26, 27, 28, 18, 29, 30, 31, 32, 33, 34, 35, 36, 37, 38, 39, 40, 41, 42, 43, 44, 45, 46, 7, 47, 48, 49, 50, 51, 52, 53, 54, 55, 56, 57, 58, 59, 60, 76, 77, 78, 79, 80, 81, 82, 83, 84, 85, 86, 87, 88, 89, 90, 91, 92, 93, 94, 95, 96, 97] (by decide +kernel) (by decide +kernel)
set_option maxRecDepth 20000 in
theorem gX7_lookLeaves_X2_chooseLook : GoodIn wsX7_lookLeaves (wsV RX7 272 RX2 yX2_chooseLook wsX2_chooseLook) := goodIn_app (goodIn_of _ (by decide +kernel)) ggX7_lookLeaves_X2_chooseLook
set_option maxRecDepth 20000 in
theorem ggX7_lookLeaves_X7_answered : GoodIn wsX7_lookLeaves wsX7_answered := goodIn_r _ [64, 14, 65, 66, 67, 68, 69, 70, 71, 72, 73, 74, 75] (by decide +kernel) (by decide +kernel)
set_option maxRecDepth 20000 in
theorem gX7_lookLeaves_X7_answered : GoodIn wsX7_lookLeaves (wsV RX7 113 RX7 yX7_answered wsX7_answered) := goodIn_app (goodIn_of _ (by decide +kernel)) ggX7_lookLeaves_X7_answered
set_option maxRecDepth 20000 in
theorem ggX7_lawsLike_X7_hasGallery : GoodIn wsX7_lawsLike wsX7_hasGallery := goodIn_r _ [7, 1, 2, 30, 31, 32, 33, 34, 35, 36, 37, 38, 39, 40, 41, 42, 43, 44, 45, 46, 47, 48, 49, 50, 51, 52, 53, 54, 55] (by decide +kernel) (by decide +kernel)
set_option maxRecDepth 20000 in
theorem gX7_lawsLike_X7_hasGallery : GoodIn wsX7_lawsLike (wsV RX7 154 RX7 yX7_hasGallery wsX7_hasGallery) := goodIn_app (goodIn_of _ (by decide +kernel)) ggX7_lawsLike_X7_hasGallery
set_option maxRecDepth 20000 in
theorem ggX7_lawsLike_X7_refused : GoodIn wsX7_lawsLike wsX7_refused := goodIn_r _ [11, 12, 30, 31, 32, 33, 34, 35, 36, 37, 38, 39, 40] (by decide +kernel) (by decide +kernel)
set_option maxRecDepth 20000 in
theorem gX7_lawsLike_X7_refused : GoodIn wsX7_lawsLike (wsV RX7 82 RX7 yX7_refused wsX7_refused) := goodIn_app (goodIn_of _ (by decide +kernel)) ggX7_lawsLike_X7_refused
set_option maxRecDepth 20000 in
theorem ggX7_lawsLike_X0_goesLike : GoodIn wsX7_lawsLike wsX0_goesLike := goodIn_r _ [17, 18, 19, 20, 21, 22, 16, 23, 24, 25, 41, 42, 43, 44, 45, 46, 47, 48, 49, 50, 51, 52, 53, 54, 55] (by decide +kernel) (by decide +kernel)
set_option maxRecDepth 20000 in
theorem gX7_lawsLike_X0_goesLike : GoodIn wsX7_lawsLike (wsV RX7 281 RX0 yX0_goesLike wsX0_goesLike) := goodIn_app (goodIn_of _ (by decide +kernel)) ggX7_lawsLike_X0_goesLike
set_option maxRecDepth 20000 in
theorem ggX7_lawsLike_X7_answered : GoodIn wsX7_lawsLike wsX7_answered := goodIn_r _ [29, 12, 30, 31, 32, 33, 34, 35, 36, 37, 38, 39, 40] (by decide +kernel) (by decide +kernel)
set_option maxRecDepth 20000 in
theorem gX7_lawsLike_X7_answered : GoodIn wsX7_lawsLike (wsV RX7 113 RX7 yX7_answered wsX7_answered) := goodIn_app (goodIn_of _ (by decide +kernel)) ggX7_lawsLike_X7_answered
set_option maxRecDepth 20000 in
theorem ggX7_lawFor_X7_troubleOfFigureWithin : GoodIn wsX7_lawFor wsX7_troubleOfFigureWithin := goodIn_r _ [5, 6, 7, 8, 4, 9, 10, 11, 12, 13, 14, 24, 25, 26, 27, 28, 29, 30, 31, 32, 33, 34, 35, 36, 37, 38, 39, 40, 41, 42, 43, 44, 45, 46, 47, 48, 49] (by decide +kernel) (by decide +kernel)
set_option maxRecDepth 20000 in
theorem gX7_lawFor_X7_troubleOfFigureWithin : GoodIn wsX7_lawFor (wsV RX7 181 RX7 yX7_troubleOfFigureWithin wsX7_troubleOfFigureWithin) := goodIn_app (goodIn_of _ (by decide +kernel)) ggX7_lawFor_X7_troubleOfFigureWithin
set_option maxRecDepth 20000 in
theorem ggX7_lawFor_X7_refused : GoodIn wsX7_lawFor wsX7_refused := goodIn_r _ [18, 19, 24, 25, 26, 27, 28, 29, 30, 31, 32, 33, 34] (by decide +kernel) (by decide +kernel)
set_option maxRecDepth 20000 in
theorem gX7_lawFor_X7_refused : GoodIn wsX7_lawFor (wsV RX7 82 RX7 yX7_refused wsX7_refused) := goodIn_app (goodIn_of _ (by decide +kernel)) ggX7_lawFor_X7_refused
set_option maxRecDepth 20000 in
theorem ggX7_lawFor_X7_answered : GoodIn wsX7_lawFor wsX7_answered := goodIn_r _ [23, 19, 24, 25, 26, 27, 28, 29, 30, 31, 32, 33, 34] (by decide +kernel) (by decide +kernel)
set_option maxRecDepth 20000 in
theorem gX7_lawFor_X7_answered : GoodIn wsX7_lawFor (wsV RX7 113 RX7 yX7_answered wsX7_answered) := goodIn_app (goodIn_of _ (by decide +kernel)) ggX7_lawFor_X7_answered
set_option maxRecDepth 20000 in
theorem ggX7_judge_X7_hasGallery : GoodIn wsX7_judge wsX7_hasGallery := goodIn_r _ [12, 1, 13, 32, 33, 34, 35, 36, 37, 38, 39, 40, 41, 42, 43, 44, 45, 46, 47, 48, 49, 50, 51, 52, 53, 54, 55, 56, 57] (by decide +kernel) (by decide +kernel)
set_option maxRecDepth 20000 in
theorem gX7_judge_X7_hasGallery : GoodIn wsX7_judge (wsV RX7 154 RX7 yX7_hasGallery wsX7_hasGallery) := goodIn_app (goodIn_of _ (by decide +kernel)) ggX7_judge_X7_hasGallery
set_option maxRecDepth 20000 in
theorem ggX7_judge_X7_refused : GoodIn wsX7_judge wsX7_refused := goodIn_r _ [17, 18, 32, 33, 34, 35, 36, 37, 38, 39, 40, 41, 42] (by decide +kernel) (by decide +kernel)
set_option maxRecDepth 20000 in
theorem gX7_judge_X7_refused : GoodIn wsX7_judge (wsV RX7 82 RX7 yX7_refused wsX7_refused) := goodIn_app (goodIn_of _ (by decide +kernel)) ggX7_judge_X7_refused
set_option maxRecDepth 20000 in
theorem ggX7_judge_X0_aliveByLaw : GoodIn wsX7_judge wsX0_aliveByLaw := goodIn_r _ [23, 24, 25, 26, 11, 27, 43, 44, 45, 46, 47, 48, 49, 50, 51, 52, 53, 54, 55, 56, 57] (by decide +kernel) (by decide +kernel)
set_option maxRecDepth 20000 in
theorem gX7_judge_X0_aliveByLaw : GoodIn wsX7_judge (wsV RX7 269 RX0 yX0_aliveByLaw wsX0_aliveByLaw) := goodIn_app (goodIn_of _ (by decide +kernel)) ggX7_judge_X0_aliveByLaw
set_option maxRecDepth 20000 in
theorem ggX7_judge_X7_answered : GoodIn wsX7_judge wsX7_answered := goodIn_r _ [31, 18, 32, 33, 34, 35, 36, 37, 38, 39, 40, 41, 42] (by decide +kernel) (by decide +kernel)
set_option maxRecDepth 20000 in
theorem gX7_judge_X7_answered : GoodIn wsX7_judge (wsV RX7 113 RX7 yX7_answered wsX7_answered) := goodIn_app (goodIn_of _ (by decide +kernel)) ggX7_judge_X7_answered
set_option maxRecDepth 20000 in
theorem ggX7_dares_X7_troubleOfNumber : GoodIn wsX7_dares wsX7_troubleOfNumber := goodIn_r _ [6, 7, 8, 9, 5, 10, 11, 12, 13, 14, 15, 26, 27, 28, 29, 30, 31, 32, 33, 34, 35, 36, 37, 38, 39, 40, 41, 42, 43, 44, 45, 46, 47, 48, 49, 50, 51] (by decide +kernel) (by decide +kernel)
set_option maxRecDepth 20000 in
theorem gX7_dares_X7_troubleOfNumber : GoodIn wsX7_dares (wsV RX7 188 RX7 yX7_troubleOfNumber wsX7_troubleOfNumber) := goodIn_app (goodIn_of _ (by decide +kernel)) ggX7_dares_X7_troubleOfNumber
set_option maxRecDepth 20000 in
theorem ggX7_dares_X7_attendantShare : GoodIn wsX7_dares wsX7_attendantShare := goodIn_r _ [18] (by decide +kernel) (by decide +kernel)
set_option maxRecDepth 20000 in
theorem gX7_dares_X7_attendantShare : GoodIn wsX7_dares (va_wsS RX7 299 yX7_attendantShare wsX7_attendantShare) := goodIn_app (goodIn_of _ (by decide +kernel)) ggX7_dares_X7_attendantShare
set_option maxRecDepth 20000 in
theorem ggX7_dares_X7_figureShare : GoodIn wsX7_dares wsX7_figureShare := goodIn_r _ [21] (by decide +kernel) (by decide +kernel)
set_option maxRecDepth 20000 in
theorem gX7_dares_X7_figureShare : GoodIn wsX7_dares (va_wsS RX7 303 yX7_figureShare wsX7_figureShare) := goodIn_app (goodIn_of _ (by decide +kernel)) ggX7_dares_X7_figureShare
set_option maxRecDepth 20000 in
theorem ggX7_dares_X7_answered : GoodIn wsX7_dares wsX7_answered := goodIn_r _ [25, 1, 26, 27, 28, 29, 30, 31, 32, 33, 34, 35, 36] (by decide +kernel) (by decide +kernel)
set_option maxRecDepth 20000 in
theorem gX7_dares_X7_answered : GoodIn wsX7_dares (wsV RX7 113 RX7 yX7_answered wsX7_answered) := goodIn_app (goodIn_of _ (by decide +kernel)) ggX7_dares_X7_answered
set_option maxRecDepth 20000 in
theorem ggX7_rests_X7_troubleOfNumber : GoodIn wsX7_rests wsX7_troubleOfNumber := goodIn_r _ [5, 6, 7, 8, 4, 9, 10, 11, 12, 13, 14, 33, 34, 35, 36, 37, 38, 39, 40, 41, 42, 43, 44, 45, 46, 47, 48, 49, 50, 51, 52, 53, 54, 55, 56, 57, 58] (by decide +kernel) (by decide +kernel)
set_option maxRecDepth 20000 in
theorem gX7_rests_X7_troubleOfNumber : GoodIn wsX7_rests (wsV RX7 188 RX7 yX7_troubleOfNumber wsX7_troubleOfNumber) := goodIn_app (goodIn_of _ (by decide +kernel)) ggX7_rests_X7_troubleOfNumber
set_option maxRecDepth 20000 in
theorem ggX7_rests_X7_refused : GoodIn wsX7_rests wsX7_refused := goodIn_r _ [18, 19, 33, 34, 35, 36, 37, 38, 39, 40, 41, 42, 43] (by decide +kernel) (by decide +kernel)
set_option maxRecDepth 20000 in
theorem gX7_rests_X7_refused : GoodIn wsX7_rests (wsV RX7 82 RX7 yX7_refused wsX7_refused) := goodIn_app (goodIn_of _ (by decide +kernel)) ggX7_rests_X7_refused
set_option maxRecDepth 20000 in
theorem ggX7_rests_X7_isRest : GoodIn wsX7_rests wsX7_isRest := goodIn_r _ [22, 23, 24, 4, 25, 26, 27, 28] (by decide +kernel) (by decide +kernel)
set_option maxRecDepth 20000 in
theorem gX7_rests_X7_isRest : GoodIn wsX7_rests (va_wsS RX7 307 yX7_isRest wsX7_isRest) := goodIn_app (goodIn_of _ (by decide +kernel)) ggX7_rests_X7_isRest
set_option maxRecDepth 20000 in
theorem ggX7_rests_X7_answered : GoodIn wsX7_rests wsX7_answered := goodIn_r _ [32, 19, 33, 34, 35, 36, 37, 38, 39, 40, 41, 42, 43] (by decide +kernel) (by decide +kernel)
set_option maxRecDepth 20000 in
theorem gX7_rests_X7_answered : GoodIn wsX7_rests (wsV RX7 113 RX7 yX7_answered wsX7_answered) := goodIn_app (goodIn_of _ (by decide +kernel)) ggX7_rests_X7_answered
set_option maxRecDepth 20000 in
theorem ggX7_rest_X7_troubleOfNumber : GoodIn wsX7_rest wsX7_troubleOfNumber := goodIn_r _ [5, 6, 7, 8, 4, 9, 10, 11, 12, 13, 14, 33, 34, 35, 36, 37, 38, 39, 40, 41, 42, 43, 44, 45, 46, 47, 48, 49, 50, 51, 52, 53, 54, 55, 56, 57, 58] (by decide +kernel) (by decide +kernel)
set_option maxRecDepth 20000 in
theorem gX7_rest_X7_troubleOfNumber : GoodIn wsX7_rest (wsV RX7 188 RX7 yX7_troubleOfNumber wsX7_troubleOfNumber) := goodIn_app (goodIn_of _ (by decide +kernel)) ggX7_rest_X7_troubleOfNumber
set_option maxRecDepth 20000 in
theorem ggX7_rest_X7_refused : GoodIn wsX7_rest wsX7_refused := goodIn_r _ [18, 19, 33, 34, 35, 36, 37, 38, 39, 40, 41, 42, 43] (by decide +kernel) (by decide +kernel)
set_option maxRecDepth 20000 in
theorem gX7_rest_X7_refused : GoodIn wsX7_rest (wsV RX7 82 RX7 yX7_refused wsX7_refused) := goodIn_app (goodIn_of _ (by decide +kernel)) ggX7_rest_X7_refused
set_option maxRecDepth 20000 in
theorem ggX7_rest_X7_isRest : GoodIn wsX7_rest wsX7_isRest := goodIn_r _ [22, 23, 24, 4, 25, 26, 27, 28] (by decide +kernel) (by decide +kernel)
set_option maxRecDepth 20000 in
theorem gX7_rest_X7_isRest : GoodIn wsX7_rest (va_wsS RX7 307 yX7_isRest wsX7_isRest) := goodIn_app (goodIn_of _ (by decide +kernel)) ggX7_rest_X7_isRest
set_option maxRecDepth 20000 in
theorem ggX7_rest_X7_answered : GoodIn wsX7_rest wsX7_answered := goodIn_r _ [32, 19, 33, 34, 35, 36, 37, 38, 39, 40, 41, 42, 43] (by decide +kernel) (by decide +kernel)
set_option maxRecDepth 20000 in
theorem gX7_rest_X7_answered : GoodIn wsX7_rest (wsV RX7 113 RX7 yX7_answered wsX7_answered) := goodIn_app (goodIn_of _ (by decide +kernel)) ggX7_rest_X7_answered
set_option maxRecDepth 20000 in
theorem ggX7_odds_X7_troubleOfFigureWithin : GoodIn wsX7_odds wsX7_troubleOfFigureWithin := goodIn_r _ [9, 10, 11, 12, 8, 13, 2, 14, 15, 16, 17, 39, 40, 41, 42, 43, 44, 45, 46, 47, 48, 49, 50, 51, 52, 53, 54, 55, 56, 57, 58, 59, 60, 61, 62, 63, 64] (by decide +kernel) (by decide +kernel)
set_option maxRecDepth 20000 in
theorem gX7_odds_X7_troubleOfFigureWithin : GoodIn wsX7_odds (wsV RX7 181 RX7 yX7_troubleOfFigureWithin wsX7_troubleOfFigureWithin) := goodIn_app (goodIn_of _ (by decide +kernel)) ggX7_odds_X7_troubleOfFigureWithin
set_option maxRecDepth 20000 in
theorem ggX7_odds_X7_refused : GoodIn wsX7_odds wsX7_refused := goodIn_r _ [21, 4, 39, 40, 41, 42, 43, 44, 45, 46, 47, 48, 49] (by decide +kernel) (by decide +kernel)
set_option maxRecDepth 20000 in
theorem gX7_odds_X7_refused : GoodIn wsX7_odds (wsV RX7 82 RX7 yX7_refused wsX7_refused) := goodIn_app (goodIn_of _ (by decide +kernel)) ggX7_odds_X7_refused
set_option maxRecDepth 20000 in
theorem ggX7_odds_X7_ownTurns : GoodIn wsX7_odds wsX7_ownTurns := goodIn_r _ [25, 26, 27, 2, 28, 29, 30, 31, 32, 33, 34, 35, 39, 40, 41, 42, 43, 44, 45, 46, 47, 48, 49, 65, 66, 67, 68, 69, 70, 71, 50, 51, 52, 53, 54, 55, 56, 57, 58, 59, 60, 61, 62, 63, 64] (by decide +kernel) (by decide +kernel)
set_option maxRecDepth 20000 in
theorem gX7_odds_X7_ownTurns : GoodIn wsX7_odds (wsV RX7 311 RX7 yX7_ownTurns wsX7_ownTurns) := goodIn_app (goodIn_of _ (by decide +kernel)) ggX7_odds_X7_ownTurns
set_option maxRecDepth 20000 in
theorem ggX7_odds_X7_inLowestTerms : GoodIn wsX7_odds wsX7_inLowestTerms := goodIn_r _ [38] (by decide +kernel) (by decide +kernel)
set_option maxRecDepth 20000 in
theorem gX7_odds_X7_inLowestTerms : GoodIn wsX7_odds (va_wsS RX7 319 yX7_inLowestTerms wsX7_inLowestTerms) := goodIn_app (goodIn_of _ (by decide +kernel)) ggX7_odds_X7_inLowestTerms
set_option maxRecDepth 20000 in
theorem ggX7_mean_X7_troubleOfFigureWithin : GoodIn wsX7_mean wsX7_troubleOfFigureWithin := goodIn_r _ [9, 10, 11, 12, 8, 13, 2, 14, 15, 16, 17, 39, 40, 41, 42, 43, 44, 45, 46, 47, 48, 49, 50, 51, 52, 53, 54, 55, 56, 57, 58, 59, 60, 61, 62, 63, 64] (by decide +kernel) (by decide +kernel)
set_option maxRecDepth 20000 in
theorem gX7_mean_X7_troubleOfFigureWithin : GoodIn wsX7_mean (wsV RX7 181 RX7 yX7_troubleOfFigureWithin wsX7_troubleOfFigureWithin) := goodIn_app (goodIn_of _ (by decide +kernel)) ggX7_mean_X7_troubleOfFigureWithin
set_option maxRecDepth 20000 in
theorem ggX7_mean_X7_refused : GoodIn wsX7_mean wsX7_refused := goodIn_r _ [21, 1, 39, 40, 41, 42, 43, 44, 45, 46, 47, 48, 49] (by decide +kernel) (by decide +kernel)
set_option maxRecDepth 20000 in
theorem gX7_mean_X7_refused : GoodIn wsX7_mean (wsV RX7 82 RX7 yX7_refused wsX7_refused) := goodIn_app (goodIn_of _ (by decide +kernel)) ggX7_mean_X7_refused
set_option maxRecDepth 20000 in
theorem ggX7_mean_X7_ownTurns : GoodIn wsX7_mean wsX7_ownTurns := goodIn_r _ [25, 26, 27, 2, 28, 29, 30, 31, 32, 33, 34, 35, 39, 40, 41, 42, 43, 44, 45, 46, 47, 48, 49, 65, 66, 67, 68, 69, 70, 71, 50, 51, 52, 53, 54, 55, 56, 57, 58, 59, 60, 61, 62, 63, 64] (by decide +kernel) (by decide +kernel)
set_option maxRecDepth 20000 in
theorem gX7_mean_X7_ownTurns : GoodIn wsX7_mean (wsV RX7 311 RX7 yX7_ownTurns wsX7_ownTurns) := goodIn_app (goodIn_of _ (by decide +kernel)) ggX7_mean_X7_ownTurns
set_option maxRecDepth 20000 in
theorem ggX7_mean_X7_inLowestTerms : GoodIn wsX7_mean wsX7_inLowestTerms := goodIn_r _ [38] (by decide +kernel) (by decide +kernel)
set_option maxRecDepth 20000 in
theorem gX7_mean_X7_inLowestTerms : GoodIn wsX7_mean (va_wsS RX7 319 yX7_inLowestTerms wsX7_inLowestTerms) := goodIn_app (goodIn_of _ (by decide +kernel)) ggX7_mean_X7_inLowestTerms
set_option maxRecDepth 20000 in
theorem ggX7_drawn_X7_isFigure : GoodIn wsX7_drawn wsX7_isFigure := goodIn_r _ [9, 4, 10, 11, 12, 8, 13, 40, 41, 42, 43, 44, 45, 46, 47, 48, 49, 50, 58, 59, 60, 61, 62, 63, 64, 65, 66, 67, 68, 69, 70, 71, 72] (by decide +kernel) (by decide +kernel)
set_option maxRecDepth 20000 in
theorem gX7_drawn_X7_isFigure : GoodIn wsX7_drawn (wsV RX7 116 RX7 yX7_isFigure wsX7_isFigure) := goodIn_app (goodIn_of _ (by decide +kernel)) ggX7_drawn_X7_isFigure
set_option maxRecDepth 20000 in
theorem ggX7_drawn_X7_refused : GoodIn wsX7_drawn wsX7_refused := goodIn_r _ [17, 18, 40, 41, 42, 43, 44, 45, 46, 47, 48, 49, 50] (by decide +kernel) (by decide +kernel)
set_option maxRecDepth 20000 in
theorem gX7_drawn_X7_refused : GoodIn wsX7_drawn (wsV RX7 82 RX7 yX7_refused wsX7_refused) := goodIn_app (goodIn_of _ (by decide +kernel)) ggX7_drawn_X7_refused
set_option maxRecDepth 20000 in
theorem ggX7_drawn_X7_within : GoodIn wsX7_drawn wsX7_within := goodIn_r _ [13] (by decide +kernel) (by decide +kernel)
set_option maxRecDepth 20000 in
theorem gX7_drawn_X7_within : GoodIn wsX7_drawn (va_wsS RX7 78 yX7_within wsX7_within) := goodIn_app (goodIn_of _ (by decide +kernel)) ggX7_drawn_X7_within
set_option maxRecDepth 20000 in
theorem ggX7_drawn_X7_nextDraw : GoodIn wsX7_drawn wsX7_nextDraw := goodIn_r _ [21, 22] (by decide +kernel) (by decide +kernel)
set_option maxRecDepth 20000 in
theorem gX7_drawn_X7_nextDraw : GoodIn wsX7_drawn (va_wsS RX7 324 yX7_nextDraw wsX7_nextDraw) := goodIn_app (goodIn_of _ (by decide +kernel)) ggX7_drawn_X7_nextDraw
set_option maxRecDepth 20000 in
theorem ggX7_drawn_X0_next : GoodIn wsX7_drawn wsX0_next := goodIn_r _ [27, 28, 29, 30, 58, 59, 60, 61, 62, 63, 64, 65, 66, 67, 68, 69, 70, 71, 72] (by decide +kernel) (by decide +kernel)
set_option maxRecDepth 20000 in
theorem gX7_drawn_X0_next : GoodIn wsX7_drawn (wsV RX7 174 RX0 yX0_next wsX0_next) := goodIn_app (goodIn_of _ (by decide +kernel)) ggX7_drawn_X0_next
set_option maxRecDepth 20000 in
theorem ggX7_drawn_X7_isShut : GoodIn wsX7_drawn wsX7_isShut := goodIn_r _ [34, 4, 35, 40, 41, 42, 43, 44, 45, 46, 47, 48, 49, 50, 58, 59, 60, 61, 62, 63, 64, 65, 66, 67, 68, 69, 70, 71, 72] (by decide +kernel) (by decide +kernel)
set_option maxRecDepth 20000 in
theorem gX7_drawn_X7_isShut : GoodIn wsX7_drawn (wsV RX7 327 RX7 yX7_isShut wsX7_isShut) := goodIn_app (goodIn_of _ (by decide +kernel)) ggX7_drawn_X7_isShut
set_option maxRecDepth 20000 in
theorem ggX7_drawn_X7_answered : GoodIn wsX7_drawn wsX7_answered := goodIn_r _ [39, 18, 40, 41, 42, 43, 44, 45, 46, 47, 48, 49, 50] (by decide +kernel) (by decide +kernel)
set_option maxRecDepth 20000 in
theorem gX7_drawn_X7_answered : GoodIn wsX7_drawn (wsV RX7 113 RX7 yX7_answered wsX7_answered) := goodIn_app (goodIn_of _ (by decide +kernel)) ggX7_drawn_X7_answered
set_option maxRecDepth 20000 in
theorem ggX7_firstShut_X7_hasGallery : GoodIn wsX7_firstShut wsX7_hasGallery := goodIn_r _ [6, 7, 8, 30, 31, 32, 33, 34, 35, 36, 37, 38, 39, 40, 41, 42, 43, 44, 45, 46, 47, 48, 49, 50, 51, 52, 53, 54, 55] (by decide +kernel) (by decide +kernel)
set_option maxRecDepth 20000 in
theorem gX7_firstShut_X7_hasGallery : GoodIn wsX7_firstShut (wsV RX7 154 RX7 yX7_hasGallery wsX7_hasGallery) := goodIn_app (goodIn_of _ (by decide +kernel)) ggX7_firstShut_X7_hasGallery
set_option maxRecDepth 20000 in
theorem ggX7_firstShut_X7_refused : GoodIn wsX7_firstShut wsX7_refused := goodIn_r _ [12, 13, 30, 31, 32, 33, 34, 35, 36, 37, 38, 39, 40] (by decide +kernel) (by decide +kernel)
set_option maxRecDepth 20000 in
theorem gX7_firstShut_X7_refused : GoodIn wsX7_firstShut (wsV RX7 82 RX7 yX7_refused wsX7_refused) := goodIn_app (goodIn_of _ (by decide +kernel)) ggX7_firstShut_X7_refused
set_option maxRecDepth 20000 in
theorem ggX7_firstShut_X7_within : GoodIn wsX7_firstShut wsX7_within := goodIn_r _ [16] (by decide +kernel) (by decide +kernel)
set_option maxRecDepth 20000 in
theorem gX7_firstShut_X7_within : GoodIn wsX7_firstShut (va_wsS RX7 78 yX7_within wsX7_within) := goodIn_app (goodIn_of _ (by decide +kernel)) ggX7_firstShut_X7_within
set_option maxRecDepth 20000 in
theorem ggX7_firstShut_X7_nextDraw : GoodIn wsX7_firstShut wsX7_nextDraw := goodIn_r _ [19, 20] (by decide +kernel) (by decide +kernel)
set_option maxRecDepth 20000 in
theorem gX7_firstShut_X7_nextDraw : GoodIn wsX7_firstShut (va_wsS RX7 324 yX7_nextDraw wsX7_nextDraw) := goodIn_app (goodIn_of _ (by decide +kernel)) ggX7_firstShut_X7_nextDraw
set_option maxRecDepth 20000 in
theorem ggX7_firstShut_X7_isShut : GoodIn wsX7_firstShut wsX7_isShut := goodIn_r _ [24, 7, 25, 30, 31, 32, 33, 34, 35, 36, 37, 38, 39, 40, 41, 42, 43, 44, 45, 46, 47, 48, 49, 50, 51, 52, 53, 54, 55] (by decide +kernel) (by decide +kernel)
set_option maxRecDepth 20000 in
theorem gX7_firstShut_X7_isShut : GoodIn wsX7_firstShut (wsV RX7 327 RX7 yX7_isShut wsX7_isShut) := goodIn_app (goodIn_of _ (by decide +kernel)) ggX7_firstShut_X7_isShut
set_option maxRecDepth 20000 in
theorem ggX7_firstShut_X7_answered : GoodIn wsX7_firstShut wsX7_answered := goodIn_r _ [29, 13, 30, 31, 32, 33, 34, 35, 36, 37, 38, 39, 40] (by decide +kernel) (by decide +kernel)
set_option maxRecDepth 20000 in
theorem gX7_firstShut_X7_answered : GoodIn wsX7_firstShut (wsV RX7 113 RX7 yX7_answered wsX7_answered) := goodIn_app (goodIn_of _ (by decide +kernel)) ggX7_firstShut_X7_answered
set_option maxRecDepth 20000 in
theorem ggX7_go_X7_troubleOfNumber : GoodIn wsX7_go wsX7_troubleOfNumber := goodIn_r _ [11, 12, 13, 14, 10, 15, 5, 16, 17, 18, 19, 118, 119, 120, 121, 122, 123, 124, 125, 126, 127, 128, 136, 137, 138, 139, 140, 141, 142, 143, 144, 145, 146, 147, 148, 149, 150] (by decide +kernel) (by decide +kernel)
set_option maxRecDepth 20000 in
theorem gX7_go_X7_troubleOfNumber : GoodIn wsX7_go (wsV RX7 188 RX7 yX7_troubleOfNumber wsX7_troubleOfNumber) := goodIn_app (goodIn_of _ (by decide +kernel)) ggX7_go_X7_troubleOfNumber
set_option maxRecDepth 20000 in
theorem ggX7_go_X7_refused : GoodIn wsX7_go wsX7_refused := goodIn_r _ [23, 24, 118, 119, 120, 121, 122, 123, 124, 125, 126, 127, 128] (by decide +kernel) (by decide +kernel)
set_option maxRecDepth 20000 in
theorem gX7_go_X7_refused : GoodIn wsX7_go (wsV RX7 82 RX7 yX7_refused wsX7_refused) := goodIn_app (goodIn_of _ (by decide +kernel)) ggX7_go_X7_refused
set_option maxRecDepth 20000 in
theorem ggX7_go_X1_keep : GoodIn wsX7_go wsX1_keep := goodIn_r _ [29, 30, 31, 32, 33, 34, 35, 36, 37, 38, 39, 40, 41, 42, 43, 44, 45, 46, 47, 48, 151, 152, 153, 154, 155, 129, 130, 131, 132, 133, 134, 135] (by decide +kernel) (by decide +kernel)
set_option maxRecDepth 20000 in
theorem gX7_go_X1_keep : GoodIn wsX7_go (wsV RX7 330 RX1 yX1_keep wsX1_keep) := goodIn_app (goodIn_of _ (by decide +kernel)) ggX7_go_X1_keep
set_option maxRecDepth 20000 in
theorem ggX7_go_X0_pass : GoodIn wsX7_go wsX0_pass := goodIn_r _ [53, 54, 55, 56, 57, 58, 59, 60, 61, 62, 52, 63, 64, 65, 18, 10, 19, 66, 67, 68, 69, 70, 71, 72, 73, 74, 75, 40, 76, 45, 77, 78, 79, 80, 81, 82, 83, 84, 85, 86, 87, 88, 89, 90, 91, 92, 93, 94, 95, 96, 97, 98, 99, 100, 101, 102, 103, 104, 105, 106, 107, 108, 109, 110, 111, 112, 113, 43, 44, 129, 130, 131, 132, 133, 134, 135, 136, 137, 138, 139, 140, 141, 142, 143, 144, 145, 146, 147, 148, 149, 150, 156, 157, 158, 159] (by decide +kernel) (by decide +kernel)
set_option maxRecDepth 20000 in
theorem gX7_go_X0_pass : GoodIn wsX7_go (wsV RX7 205 RX0 yX0_pass wsX0_pass) := goodIn_app (goodIn_of _ (by decide +kernel)) ggX7_go_X0_pass
set_option maxRecDepth 20000 in
theorem ggX7_go_X7_answered : GoodIn wsX7_go wsX7_answered := goodIn_r _ [117, 24, 118, 119, 120, 121, 122, 123, 124, 125, 126, 127, 128] (by decide +kernel) (by decide +kernel)
set_option maxRecDepth 20000 in
theorem gX7_go_X7_answered : GoodIn wsX7_go (wsV RX7 113 RX7 yX7_answered wsX7_answered) := goodIn_app (goodIn_of _ (by decide +kernel)) ggX7_go_X7_answered
set_option maxRecDepth 20000 in
theorem ggX7_put_X7_isFigure : GoodIn wsX7_put wsX7_isFigure := goodIn_r _ [8, 9, 10, 11, 12, 7, 13, 53, 54, 55, 56, 57, 58, 59, 60, 61, 62, 63, 71, 72, 73, 74, 75, 76, 77, 78, 79, 80, 81, 82, 83, 84, 85] (by decide +kernel) (by decide +kernel)
set_option maxRecDepth 20000 in
theorem gX7_put_X7_isFigure : GoodIn wsX7_put (wsV RX7 116 RX7 yX7_isFigure wsX7_isFigure) := goodIn_app (goodIn_of _ (by decide +kernel)) ggX7_put_X7_isFigure
set_option maxRecDepth 20000 in
theorem ggX7_put_X7_refused : GoodIn wsX7_put wsX7_refused := goodIn_r _ [17, 18, 53, 54, 55, 56, 57, 58, 59, 60, 61, 62, 63] (by decide +kernel) (by decide +kernel)
set_option maxRecDepth 20000 in
theorem gX7_put_X7_refused : GoodIn wsX7_put (wsV RX7 82 RX7 yX7_refused wsX7_refused) := goodIn_app (goodIn_of _ (by decide +kernel)) ggX7_put_X7_refused
set_option maxRecDepth 20000 in
theorem ggX7_put_X5_isGone : GoodIn wsX7_put wsX5_isGone := goodIn_r _ [23, 24, 25, 7, 26, 64, 65, 66, 67, 68, 69, 70] (by decide +kernel) (by decide +kernel)
set_option maxRecDepth 20000 in
theorem gX7_put_X5_isGone : GoodIn wsX7_put (wsV RX7 129 RX5 yX5_isGone wsX5_isGone) := goodIn_app (goodIn_of _ (by decide +kernel)) ggX7_put_X5_isGone
set_option maxRecDepth 20000 in
theorem ggX7_put_X1_keep : GoodIn wsX7_put wsX1_keep := goodIn_r _ [31, 32, 33, 34, 35, 36, 37, 38, 39, 40, 41, 22, 42, 43, 44, 45, 24, 46, 47, 48, 86, 87, 88, 89, 90, 64, 65, 66, 67, 68, 69, 70] (by decide +kernel) (by decide +kernel)
set_option maxRecDepth 20000 in
theorem gX7_put_X1_keep : GoodIn wsX7_put (wsV RX7 330 RX1 yX1_keep wsX1_keep) := goodIn_app (goodIn_of _ (by decide +kernel)) ggX7_put_X1_keep
set_option maxRecDepth 20000 in
theorem ggX7_put_X7_answered : GoodIn wsX7_put wsX7_answered := goodIn_r _ [52, 18, 53, 54, 55, 56, 57, 58, 59, 60, 61, 62, 63] (by decide +kernel) (by decide +kernel)
set_option maxRecDepth 20000 in
theorem gX7_put_X7_answered : GoodIn wsX7_put (wsV RX7 113 RX7 yX7_answered wsX7_answered) := goodIn_app (goodIn_of _ (by decide +kernel)) ggX7_put_X7_answered
set_option maxRecDepth 20000 in
theorem ggX7_wind_X7_isFigure : GoodIn wsX7_wind wsX7_isFigure := goodIn_r _ [9, 10, 11, 12, 13, 8, 14, 52, 53, 54, 55, 56, 57, 58, 59, 60, 61, 62, 70, 71, 72, 73, 74, 75, 76, 77, 78, 79, 80, 81, 82, 83, 84] (by decide +kernel) (by decide +kernel)
set_option maxRecDepth 20000 in
theorem gX7_wind_X7_isFigure : GoodIn wsX7_wind (wsV RX7 116 RX7 yX7_isFigure wsX7_isFigure) := goodIn_app (goodIn_of _ (by decide +kernel)) ggX7_wind_X7_isFigure
set_option maxRecDepth 20000 in
theorem ggX7_wind_X7_refused : GoodIn wsX7_wind wsX7_refused := goodIn_r _ [18, 19, 52, 53, 54, 55, 56, 57, 58, 59, 60, 61, 62] (by decide +kernel) (by decide +kernel)
set_option maxRecDepth 20000 in
theorem gX7_wind_X7_refused : GoodIn wsX7_wind (wsV RX7 82 RX7 yX7_refused wsX7_refused) := goodIn_app (goodIn_of _ (by decide +kernel)) ggX7_wind_X7_refused
set_option maxRecDepth 20000 in
theorem ggX7_wind_X1_keep : GoodIn wsX7_wind wsX1_keep := goodIn_r _ [24, 25, 26, 27, 28, 29, 30, 31, 32, 33, 34, 35, 36, 37, 38, 39, 40, 41, 42, 43, 85, 86, 87, 88, 89, 63, 64, 65, 66, 67, 68, 69] (by decide +kernel) (by decide +kernel)
set_option maxRecDepth 20000 in
theorem gX7_wind_X1_keep : GoodIn wsX7_wind (wsV RX7 330 RX1 yX1_keep wsX1_keep) := goodIn_app (goodIn_of _ (by decide +kernel)) ggX7_wind_X1_keep
set_option maxRecDepth 20000 in
theorem ggX7_wind_X5_startTurn : GoodIn wsX7_wind wsX5_startTurn := goodIn_r _ [47, 38, 39, 63, 64, 65, 66, 67, 68, 69] (by decide +kernel) (by decide +kernel)
set_option maxRecDepth 20000 in
theorem gX7_wind_X5_startTurn : GoodIn wsX7_wind (wsV RX7 248 RX5 yX5_startTurn wsX5_startTurn) := goodIn_app (goodIn_of _ (by decide +kernel)) ggX7_wind_X5_startTurn
set_option maxRecDepth 20000 in
theorem ggX7_wind_X7_answered : GoodIn wsX7_wind wsX7_answered := goodIn_r _ [51, 19, 52, 53, 54, 55, 56, 57, 58, 59, 60, 61, 62] (by decide +kernel) (by decide +kernel)
set_option maxRecDepth 20000 in
theorem gX7_wind_X7_answered : GoodIn wsX7_wind (wsV RX7 113 RX7 yX7_answered wsX7_answered) := goodIn_app (goodIn_of _ (by decide +kernel)) ggX7_wind_X7_answered
set_option maxRecDepth 20000 in
theorem ggX7_undo_X1_takeLatest : GoodIn wsX7_undo wsX1_takeLatest := goodIn_r _ [8, 9, 10, 11, 12, 13, 14, 15, 16, 17, 18, 19, 20, 21, 22, 23, 35, 36, 37, 38, 39, 40, 41, 42, 43, 44, 45, 46] (by decide +kernel) (by decide +kernel)
set_option maxRecDepth 20000 in
theorem gX7_undo_X1_takeLatest : GoodIn wsX7_undo (wsV RX7 333 RX1 yX1_takeLatest wsX1_takeLatest) := goodIn_app (goodIn_of _ (by decide +kernel)) ggX7_undo_X1_takeLatest
set_option maxRecDepth 20000 in
theorem ggX7_image_X7_hasGallery : GoodIn wsX7_image wsX7_hasGallery := goodIn_r _ [8, 9, 10, 39, 40, 41, 42, 43, 44, 45, 46, 47, 48, 49, 55, 56, 57, 58, 59, 60, 61, 62, 63, 64, 65, 66, 67, 68, 69] (by decide +kernel) (by decide +kernel)
set_option maxRecDepth 20000 in
theorem gX7_image_X7_hasGallery : GoodIn wsX7_image (wsV RX7 154 RX7 yX7_hasGallery wsX7_hasGallery) := goodIn_app (goodIn_of _ (by decide +kernel)) ggX7_image_X7_hasGallery
set_option maxRecDepth 20000 in
theorem ggX7_image_X7_refused : GoodIn wsX7_image wsX7_refused := goodIn_r _ [14, 15, 39, 40, 41, 42, 43, 44, 45, 46, 47, 48, 49] (by decide +kernel) (by decide +kernel)
set_option maxRecDepth 20000 in
theorem gX7_image_X7_refused : GoodIn wsX7_image (wsV RX7 82 RX7 yX7_refused wsX7_refused) := goodIn_app (goodIn_of _ (by decide +kernel)) ggX7_image_X7_refused
set_option maxRecDepth 20000 in
theorem ggX7_image_X1_addImage : GoodIn wsX7_image wsX1_addImage := goodIn_r _ [20, 21, 22, 23, 24, 25, 26, 27, 28, 29, 30, 31, 32, 33, 34, 50, 51, 52, 53, 54, 70, 71, 72, 73, 74, 75, 76] (by decide +kernel) (by decide +kernel)
set_option maxRecDepth 20000 in
theorem gX7_image_X1_addImage : GoodIn wsX7_image (wsV RX7 340 RX1 yX1_addImage wsX1_addImage) := goodIn_app (goodIn_of _ (by decide +kernel)) ggX7_image_X1_addImage
set_option maxRecDepth 20000 in
theorem ggX7_image_X7_answered : GoodIn wsX7_image wsX7_answered := goodIn_r _ [38, 15, 39, 40, 41, 42, 43, 44, 45, 46, 47, 48, 49] (by decide +kernel) (by decide +kernel)
set_option maxRecDepth 20000 in
theorem gX7_image_X7_answered : GoodIn wsX7_image (wsV RX7 113 RX7 yX7_answered wsX7_answered) := goodIn_app (goodIn_of _ (by decide +kernel)) ggX7_image_X7_answered
set_option maxRecDepth 20000 in
theorem ggX7_back_X1_goBack : GoodIn wsX7_back wsX1_goBack := goodIn_r _ [8, 9, 10, 11, 12, 13, 14, 15, 16, 17, 18, 19, 20, 21, 22, 23, 24, 25, 26, 38, 39, 40, 41, 42, 43, 44, 45, 46, 47, 48, 49] (by decide +kernel) (by decide +kernel)
set_option maxRecDepth 20000 in
theorem gX7_back_X1_goBack : GoodIn wsX7_back (wsV RX7 344 RX1 yX1_goBack wsX1_goBack) := goodIn_app (goodIn_of _ (by decide +kernel)) ggX7_back_X1_goBack
set_option maxRecDepth 20000 in
theorem ggX7_size_X0_sizeTold : GoodIn wsX7_size wsX0_sizeTold := goodIn_r _ [13, 14, 15, 16, 17, 18, 19, 20, 21, 22, 23, 24, 25, 26, 27, 28, 29, 30, 31, 69, 70, 71, 72, 73, 74, 75, 76, 77, 78, 79, 80, 81, 82, 83, 84, 85, 86, 87] (by decide +kernel) (by decide +kernel)
set_option maxRecDepth 20000 in
theorem gX7_size_X0_sizeTold : GoodIn wsX7_size (wsV RX7 358 RX0 yX0_sizeTold wsX0_sizeTold) := goodIn_app (goodIn_of _ (by decide +kernel)) ggX7_size_X0_sizeTold
set_option maxRecDepth 20000 in
theorem ggX7_isFigure_X7_within : GoodIn wsX7_isFigure wsX7_within := goodIn_r _ [6] (by decide +kernel) (by decide +kernel)
set_option maxRecDepth 20000 in
theorem gX7_isFigure_X7_within : GoodIn wsX7_isFigure (va_wsS RX7 78 yX7_within wsX7_within) := goodIn_app (goodIn_of _ (by decide +kernel)) ggX7_isFigure_X7_within
set_option maxRecDepth 20000 in
theorem ggX7_isPlace_X7_within : GoodIn wsX7_isPlace wsX7_within := goodIn_r _ [6] (by decide +kernel) (by decide +kernel)
set_option maxRecDepth 20000 in
theorem gX7_isPlace_X7_within : GoodIn wsX7_isPlace (va_wsS RX7 78 yX7_within wsX7_within) := goodIn_app (goodIn_of _ (by decide +kernel)) ggX7_isPlace_X7_within
set_option maxRecDepth 20000 in
theorem ggX7_isWatcher_X7_within : GoodIn wsX7_isWatcher wsX7_within := goodIn_r _ [7] (by decide +kernel) (by decide +kernel)
set_option maxRecDepth 20000 in
theorem gX7_isWatcher_X7_within : GoodIn wsX7_isWatcher (va_wsS RX7 78 yX7_within wsX7_within) := goodIn_app (goodIn_of _ (by decide +kernel)) ggX7_isWatcher_X7_within
set_option maxRecDepth 20000 in
theorem ggX7_troubleOfNumber_X7_hasGallery : GoodIn wsX7_troubleOfNumber wsX7_hasGallery := goodIn_r _ [5, 6, 7, 11, 12, 13, 14, 15, 16, 17, 18, 19, 20, 21, 22, 23, 24, 25, 26, 27, 28, 29, 30, 31, 32, 33, 34, 35, 36] (by decide +kernel) (by decide +kernel)
set_option maxRecDepth 20000 in
theorem gX7_troubleOfNumber_X7_hasGallery : GoodIn wsX7_troubleOfNumber (wsV RX7 154 RX7 yX7_hasGallery wsX7_hasGallery) := goodIn_app (goodIn_of _ (by decide +kernel)) ggX7_troubleOfNumber_X7_hasGallery
set_option maxRecDepth 20000 in
theorem ggX7_troubleOfNumber_X7_within : GoodIn wsX7_troubleOfNumber wsX7_within := goodIn_r _ [10] (by decide +kernel) (by decide +kernel)
set_option maxRecDepth 20000 in
theorem gX7_troubleOfNumber_X7_within : GoodIn wsX7_troubleOfNumber (va_wsS RX7 78 yX7_within wsX7_within) := goodIn_app (goodIn_of _ (by decide +kernel)) ggX7_troubleOfNumber_X7_within
set_option maxRecDepth 20000 in
theorem ggX7_troubleOfFigureWithin_X7_isFigure : GoodIn wsX7_troubleOfFigureWithin wsX7_isFigure := goodIn_r _ [5, 6, 7, 8, 9, 4, 10, 11, 12, 13, 14, 15, 16, 17, 18, 19, 20, 21, 22, 23, 24, 25, 26, 27, 28, 29, 30, 31, 32, 33, 34, 35, 36] (by decide +kernel) (by decide +kernel)
set_option maxRecDepth 20000 in
theorem gX7_troubleOfFigureWithin_X7_isFigure : GoodIn wsX7_troubleOfFigureWithin (wsV RX7 116 RX7 yX7_isFigure wsX7_isFigure) := goodIn_app (goodIn_of _ (by decide +kernel)) ggX7_troubleOfFigureWithin_X7_isFigure
set_option maxRecDepth 20000 in
theorem ggX7_troubleOfFigureWithin_X7_within : GoodIn wsX7_troubleOfFigureWithin wsX7_within := goodIn_r _ [10] (by decide +kernel) (by decide +kernel)
set_option maxRecDepth 20000 in
theorem gX7_troubleOfFigureWithin_X7_within : GoodIn wsX7_troubleOfFigureWithin (va_wsS RX7 78 yX7_within wsX7_within) := goodIn_app (goodIn_of _ (by decide +kernel)) ggX7_troubleOfFigureWithin_X7_within
set_option maxRecDepth 20000 in
theorem ggX7_turnFromNow_X7_laterTurn : GoodIn wsX7_turnFromNow wsX7_laterTurn := goodIn_r _ [10] (by decide +kernel) (by decide +kernel)
set_option maxRecDepth 20000 in
theorem gX7_turnFromNow_X7_laterTurn : GoodIn wsX7_turnFromNow (va_wsS RX7 364 yX7_laterTurn wsX7_laterTurn) := goodIn_app (goodIn_of _ (by decide +kernel)) ggX7_turnFromNow_X7_laterTurn
set_option maxRecDepth 20000 in
theorem ggX7_roundLength_X7_turnFromNow : GoodIn wsX7_roundLength wsX7_turnFromNow := goodIn_r _ [7, 1, 2, 8, 9, 10, 11, 12, 13, 6, 14, 23, 24, 25, 26, 27, 28, 29, 30, 31, 32, 33, 34, 35, 36, 37, 38, 39, 40, 41, 42, 43, 44, 45, 46, 47, 48, 49, 50, 51, 52, 53, 54, 55] (by decide +kernel) (by decide +kernel)
set_option maxRecDepth 20000 in
theorem gX7_roundLength_X7_turnFromNow : GoodIn wsX7_roundLength (wsV RX7 171 RX7 yX7_turnFromNow wsX7_turnFromNow) := goodIn_app (goodIn_of _ (by decide +kernel)) ggX7_roundLength_X7_turnFromNow
set_option maxRecDepth 20000 in
theorem ggX7_roundLength_X0_next : GoodIn wsX7_roundLength wsX0_next := goodIn_r _ [19, 20, 21, 22, 34, 35, 36, 37, 38, 39, 40, 41, 42, 43, 44, 45, 46, 47, 48] (by decide +kernel) (by decide +kernel)
set_option maxRecDepth 20000 in
theorem gX7_roundLength_X0_next : GoodIn wsX7_roundLength (wsV RX7 174 RX0 yX0_next wsX0_next) := goodIn_app (goodIn_of _ (by decide +kernel)) ggX7_roundLength_X0_next
set_option maxRecDepth 20000 in
theorem ggX7_runAhead_X5_copyFrom : GoodIn wsX7_runAhead wsX5_copyFrom := goodIn_r _ [7, 8, 9, 10, 11, 12, 13, 14, 100, 101, 102, 103, 104, 105, 106] (by decide +kernel) (by decide +kernel)
set_option maxRecDepth 20000 in
theorem gX7_runAhead_X5_copyFrom : GoodIn wsX7_runAhead (wsV RX7 194 RX5 yX5_copyFrom wsX5_copyFrom) := goodIn_app (goodIn_of _ (by decide +kernel)) ggX7_runAhead_X5_copyFrom
set_option maxRecDepth 20000 in
theorem ggX7_runAhead_X7_passAhead : GoodIn wsX7_runAhead wsX7_passAhead := goodIn_r _ [19, 20, 1, 21, 22, 23, 24, 25, 26, 27, 28, 29, 30, 31, 32, 33, 34, 35, 36, 37, 38, 39, 18, 40, 41, 42, 43, 44, 45, 46, 47, 48, 49, 50, 6, 51, 11, 52, 53, 54, 55, 56, 57, 58, 59, 60, 61, 62, 63, 64, 65, 66, 67, 68, 69, 70, 71, 72, 73, 74, 75, 76, 77, 78, 79, 80, 81, 82, 83, 84, 85, 86, 87, 88, 9, 10, 89, 90, 91, 92, 93, 94, 95, 96, 97, 98, 99, 107, 108, 109, 110, 111, 112, 113, 114, 115, 116, 117, 118, 119, 120, 121, 100, 101, 102, 103, 104, 105, 106, 122, 123, 124, 125] (by decide +kernel) (by decide +kernel)
set_option maxRecDepth 20000 in
theorem gX7_runAhead_X7_passAhead : GoodIn wsX7_runAhead (wsV RX7 202 RX7 yX7_passAhead wsX7_passAhead) := goodIn_app (goodIn_of _ (by decide +kernel)) ggX7_runAhead_X7_passAhead
set_option maxRecDepth 20000 in
theorem ggX7_passAhead_X0_pass : GoodIn wsX7_passAhead wsX0_pass := goodIn_r _ [8, 9, 10, 11, 12, 13, 14, 15, 16, 17, 7, 18, 19, 20, 21, 22, 23, 24, 25, 26, 27, 28, 29, 30, 31, 32, 33, 34, 35, 36, 37, 38, 39, 40, 41, 42, 43, 44, 45, 46, 47, 48, 49, 50, 51, 52, 53, 54, 55, 56, 57, 58, 59, 60, 61, 62, 63, 64, 65, 66, 67, 68, 69, 70, 71, 72, 73, 74, 75, 102, 103, 104, 105, 106, 107, 108, 87, 88, 89, 90, 91, 92, 93, 94, 95, 96, 97, 98, 99, 100, 101, 109, 110, 111, 112] (by decide +kernel) (by decide +kernel)
set_option maxRecDepth 20000 in
theorem gX7_passAhead_X0_pass : GoodIn wsX7_passAhead (wsV RX7 205 RX0 yX0_pass wsX0_pass) := goodIn_app (goodIn_of _ (by decide +kernel)) ggX7_passAhead_X0_pass
set_option maxRecDepth 20000 in
theorem ggX7_runAheadOnTrial_X5_copyFrom : GoodIn wsX7_runAheadOnTrial wsX5_copyFrom := goodIn_r _ [9, 10, 11, 12, 13, 14, 15, 16, 96, 97, 98, 99, 100, 101, 102] (by decide +kernel) (by decide +kernel)
set_option maxRecDepth 20000 in
theorem gX7_runAheadOnTrial_X5_copyFrom : GoodIn wsX7_runAheadOnTrial (wsV RX7 194 RX5 yX5_copyFrom wsX5_copyFrom) := goodIn_app (goodIn_of _ (by decide +kernel)) ggX7_runAheadOnTrial_X5_copyFrom
set_option maxRecDepth 20000 in
theorem ggX7_runAheadOnTrial_X0_pass : GoodIn wsX7_runAheadOnTrial wsX0_pass := goodIn_r _ [21, 22, 23, 24, 25, 26, 27, 28, 29, 30, 20, 31, 32, 33, 34, 35, 36, 37, 38, 39, 40, 41, 42, 43, 44, 45, 46, 8, 47, 13, 48, 49, 50, 51, 52, 53, 54, 55, 56, 57, 58, 59, 60, 61, 62, 63, 64, 65, 66, 67, 68, 69, 70, 71, 72, 73, 74, 75, 76, 77, 78, 79, 80, 81, 82, 83, 84, 11, 12, 96, 97, 98, 99, 100, 101, 102, 103, 104, 105, 106, 107, 108, 109, 110, 111, 112, 113, 114, 115, 116, 117, 118, 119, 120, 121] (by decide +kernel) (by decide +kernel)
set_option maxRecDepth 20000 in
theorem gX7_runAheadOnTrial_X0_pass : GoodIn wsX7_runAheadOnTrial (wsV RX7 205 RX0 yX0_pass wsX0_pass) := goodIn_app (goodIn_of _ (by decide +kernel)) ggX7_runAheadOnTrial_X0_pass
set_option maxRecDepth 20000 in
theorem ggX7_placeOfActing_X0_pass : GoodIn wsX7_placeOfActing wsX0_pass := goodIn_r _ [10, 11, 12, 13, 14, 15, 16, 17, 18, 19, 9, 20, 21, 22, 23, 24, 25, 26, 27, 28, 29, 30, 31, 32, 33, 34, 35, 36, 37, 38, 39, 40, 41, 42, 43, 44, 45, 46, 47, 48, 49, 50, 51, 52, 53, 54, 55, 56, 57, 58, 59, 60, 61, 62, 63, 64, 65, 66, 67, 68, 69, 70, 71, 72, 73, 74, 75, 76, 77, 90, 91, 92, 93, 94, 95, 96, 97, 98, 99, 100, 101, 102, 103, 104, 105, 106, 107, 108, 109, 110, 111, 112, 113, 114, 115] (by decide +kernel) (by decide +kernel)
set_option maxRecDepth 20000 in
theorem gX7_placeOfActing_X0_pass : GoodIn wsX7_placeOfActing (wsV RX7 205 RX0 yX0_pass wsX0_pass) := goodIn_app (goodIn_of _ (by decide +kernel)) ggX7_placeOfActing_X0_pass
set_option maxRecDepth 20000 in
theorem ggX7_placeOfActing_X5_isGone : GoodIn wsX7_placeOfActing wsX5_isGone := goodIn_r _ [37, 38, 39, 24, 40, 90, 91, 92, 93, 94, 95, 96] (by decide +kernel) (by decide +kernel)
set_option maxRecDepth 20000 in
theorem gX7_placeOfActing_X5_isGone : GoodIn wsX7_placeOfActing (wsV RX7 129 RX5 yX5_isGone wsX5_isGone) := goodIn_app (goodIn_of _ (by decide +kernel)) ggX7_placeOfActing_X5_isGone
set_option maxRecDepth 20000 in
theorem ggX7_minutesTillGone_X0_pass : GoodIn wsX7_minutesTillGone wsX0_pass := goodIn_r _ [8, 9, 10, 11, 12, 13, 14, 15, 16, 17, 7, 18, 19, 20, 21, 22, 23, 24, 25, 26, 27, 28, 29, 30, 31, 32, 33, 34, 35, 36, 37, 38, 39, 40, 41, 42, 43, 44, 45, 46, 47, 48, 49, 50, 51, 52, 53, 54, 55, 56, 57, 58, 59, 60, 61, 62, 63, 64, 65, 66, 67, 68, 69, 70, 71, 72, 73, 74, 75, 87, 88, 89, 90, 91, 92, 93, 94, 95, 96, 97, 98, 99, 100, 101, 102, 103, 104, 105, 106, 107, 108, 109, 110, 111, 112] (by decide +kernel) (by decide +kernel)
set_option maxRecDepth 20000 in
theorem gX7_minutesTillGone_X0_pass : GoodIn wsX7_minutesTillGone (wsV RX7 205 RX0 yX0_pass wsX0_pass) := goodIn_app (goodIn_of _ (by decide +kernel)) ggX7_minutesTillGone_X0_pass
set_option maxRecDepth 20000 in
theorem ggX7_crowdAt_X5_isGone : GoodIn wsX7_crowdAt wsX5_isGone := goodIn_r _ [9, 10, 11, 12, 13, 40, 41, 42, 43, 44, 45, 46] (by decide +kernel) (by decide +kernel)
set_option maxRecDepth 20000 in
theorem gX7_crowdAt_X5_isGone : GoodIn wsX7_crowdAt (wsV RX7 129 RX5 yX5_isGone wsX5_isGone) := goodIn_app (goodIn_of _ (by decide +kernel)) ggX7_crowdAt_X5_isGone
