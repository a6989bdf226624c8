set_option maxRecDepth 20000 in
theorem ggX8_called_X8_goRound : GoodIn wsX8_called wsX8_goRound := goodIn_r _ [19, 20, 2, 4, 3, 21, 22, 23, 8, 24, 25, 26, 27, 28, 29, 30, 31, 32, 33, 34, 35, 36, 37, 38, 39, 40, 41, 42, 43, 44, 45, 46, 47, 48, 49, 50, 51, 52, 53, 54, 55, 56, 57, 58, 59, 60, 61, 62, 63, 64, 65] (by decide +kernel) (by decide +kernel)
set_option maxRecDepth 20000 in
theorem gX8_called_X8_goRound : GoodIn wsX8_called (wsV RX8 294 RX8 yX8_goRound wsX8_goRound) := goodIn_app (goodIn_of _ (by decide +kernel)) ggX8_called_X8_goRound
set_option maxRecDepth 20000 in
theorem ggX8_minutesOf_X8_good : GoodIn wsX8_minutesOf wsX8_good := goodIn_r _ [7, 8, 9, 41, 42, 43, 44, 45, 46, 47, 48, 49, 50, 51, 52, 53, 54, 55, 56, 57, 58, 59, 60, 61, 62, 63, 64, 65, 66, 67, 68, 69, 70, 71, 72, 73, 74, 75, 76, 77, 78, 79, 80] (by decide +kernel) (by decide +kernel)
set_option maxRecDepth 20000 in
theorem gX8_minutesOf_X8_good : GoodIn wsX8_minutesOf (wsV RX8 160 RX8 yX8_good wsX8_good) := goodIn_app (goodIn_of _ (by decide +kernel)) ggX8_minutesOf_X8_good
set_option maxRecDepth 20000 in
theorem ggX8_minutesOf_X8_isFigure : GoodIn wsX8_minutesOf wsX8_isFigure := goodIn_r _ [13, 14, 2, 15, 16, 6, 17, 41, 42, 43, 44, 45, 46, 47, 48, 49, 50, 51, 52, 53, 54, 55, 56, 57, 58, 59, 60, 61, 62, 63, 64, 65, 66, 67, 68, 69, 70, 71, 72, 73, 74, 75, 76, 77, 78, 79, 80] (by decide +kernel) (by decide +kernel)
set_option maxRecDepth 20000 in
theorem gX8_minutesOf_X8_isFigure : GoodIn wsX8_minutesOf (wsV RX8 277 RX8 yX8_isFigure wsX8_isFigure) := goodIn_app (goodIn_of _ (by decide +kernel)) ggX8_minutesOf_X8_isFigure
set_option maxRecDepth 20000 in
theorem ggX8_minutesOf_X8_in : GoodIn wsX8_minutesOf wsX8_in := goodIn_r _ [17] (by decide +kernel) (by decide +kernel)
set_option maxRecDepth 20000 in
theorem gX8_minutesOf_X8_in : GoodIn wsX8_minutesOf (va_wsS RX8 142 yX8_in wsX8_in) := goodIn_app (goodIn_of _ (by decide +kernel)) ggX8_minutesOf_X8_in
set_option maxRecDepth 20000 in
theorem ggX8_minutesOf_X8_why : GoodIn wsX8_minutesOf wsX8_why := goodIn_r _ [21] (by decide +kernel) (by decide +kernel)
set_option maxRecDepth 20000 in
theorem gX8_minutesOf_X8_why : GoodIn wsX8_minutesOf (wsV RX8 290 RX8 yX8_why wsX8_why) := goodIn_app (goodIn_of _ (by decide +kernel)) ggX8_minutesOf_X8_why
set_option maxRecDepth 20000 in
theorem ggX8_minutesOf_X8_no : GoodIn wsX8_minutesOf wsX8_no := goodIn_r _ [25, 9, 41, 42, 43, 44, 45, 46, 47, 48, 49, 50, 51, 52, 53, 54, 55, 56, 57, 58, 59, 60, 61, 62, 63, 64, 65, 66, 67, 68, 69, 70, 71, 72, 73, 74, 75, 76, 77, 78, 79, 80] (by decide +kernel) (by decide +kernel)
set_option maxRecDepth 20000 in
theorem gX8_minutesOf_X8_no : GoodIn wsX8_minutesOf (wsV RX8 163 RX8 yX8_no wsX8_no) := goodIn_app (goodIn_of _ (by decide +kernel)) ggX8_minutesOf_X8_no
set_option maxRecDepth 20000 in
theorem ggX8_minutesOf_X8_goRound : GoodIn wsX8_minutesOf wsX8_goRound := goodIn_r _ [29, 1, 30, 31, 32, 33, 34, 35, 6, 36, 2, 41, 42, 43, 44, 45, 46, 47, 48, 49, 50, 51, 52, 53, 54, 55, 56, 57, 58, 59, 60, 61, 62, 63, 64, 65, 66, 67, 68, 69, 70, 71, 72, 73, 74, 75, 76, 77, 78, 79, 80] (by decide +kernel) (by decide +kernel)
set_option maxRecDepth 20000 in
theorem gX8_minutesOf_X8_goRound : GoodIn wsX8_minutesOf (wsV RX8 294 RX8 yX8_goRound wsX8_goRound) := goodIn_app (goodIn_of _ (by decide +kernel)) ggX8_minutesOf_X8_goRound
set_option maxRecDepth 20000 in
theorem ggX8_minutesOf_X8_turnAt : GoodIn wsX8_minutesOf wsX8_turnAt := goodIn_r _ [40, 31, 30, 32, 41, 42, 43, 44, 45, 46, 47, 48, 49, 50, 51, 52, 53, 54, 55, 56, 57, 58, 59, 60, 61, 62, 63, 64, 65, 66, 67, 68, 69, 70, 71, 72, 73, 74, 75, 76, 77, 78, 79, 80] (by decide +kernel) (by decide +kernel)
set_option maxRecDepth 20000 in
theorem gX8_minutesOf_X8_turnAt : GoodIn wsX8_minutesOf (wsV RX8 297 RX8 yX8_turnAt wsX8_turnAt) := goodIn_app (goodIn_of _ (by decide +kernel)) ggX8_minutesOf_X8_turnAt
set_option maxRecDepth 20000 in
theorem ggX8_aheadWhy_X8_in : GoodIn wsX8_aheadWhy wsX8_in := goodIn_r _ [4] (by decide +kernel) (by decide +kernel)
set_option maxRecDepth 20000 in
theorem gX8_aheadWhy_X8_in : GoodIn wsX8_aheadWhy (va_wsS RX8 142 yX8_in wsX8_in) := goodIn_app (goodIn_of _ (by decide +kernel)) ggX8_aheadWhy_X8_in
set_option maxRecDepth 20000 in
theorem ggX8_aheadWhy_X8_why : GoodIn wsX8_aheadWhy wsX8_why := goodIn_r _ [8] (by decide +kernel) (by decide +kernel)
set_option maxRecDepth 20000 in
theorem gX8_aheadWhy_X8_why : GoodIn wsX8_aheadWhy (wsV RX8 290 RX8 yX8_why wsX8_why) := goodIn_app (goodIn_of _ (by decide +kernel)) ggX8_aheadWhy_X8_why
set_option maxRecDepth 20000 in
theorem ggX8_place_X8_good : GoodIn wsX8_place wsX8_good := goodIn_r _ [6, 7, 8, 79, 80, 81, 82, 83, 84, 85, 86, 87, 88, 89, 90, 91, 92, 93, 94, 95, 96, 97, 98, 99, 100, 101, 102, 103, 104, 105, 106, 107, 108, 109, 110, 111, 112, 113, 114, 115, 116, 117, 118] (by decide +kernel) (by decide +kernel)
set_option maxRecDepth 20000 in
theorem gX8_place_X8_good : GoodIn wsX8_place (wsV RX8 160 RX8 yX8_good wsX8_good) := goodIn_app (goodIn_of _ (by decide +kernel)) ggX8_place_X8_good
set_option maxRecDepth 20000 in
theorem ggX8_place_X8_isFigure : GoodIn wsX8_place wsX8_isFigure := goodIn_r _ [12, 13, 14, 15, 16, 5, 17, 79, 80, 81, 82, 83, 84, 85, 86, 87, 88, 89, 90, 91, 92, 93, 94, 95, 96, 97, 98, 99, 100, 101, 102, 103, 104, 105, 106, 107, 108, 109, 110, 111, 112, 113, 114, 115, 116, 117, 118] (by decide +kernel) (by decide +kernel)
set_option maxRecDepth 20000 in
theorem gX8_place_X8_isFigure : GoodIn wsX8_place (wsV RX8 277 RX8 yX8_isFigure wsX8_isFigure) := goodIn_app (goodIn_of _ (by decide +kernel)) ggX8_place_X8_isFigure
set_option maxRecDepth 20000 in
theorem ggX8_place_X8_aheadWhy : GoodIn wsX8_place wsX8_aheadWhy := goodIn_r _ [21, 15, 16, 5, 17, 22, 23, 24, 25] (by decide +kernel) (by decide +kernel)
set_option maxRecDepth 20000 in
theorem gX8_place_X8_aheadWhy : GoodIn wsX8_place (wsV RX8 300 RX8 yX8_aheadWhy wsX8_aheadWhy) := goodIn_app (goodIn_of _ (by decide +kernel)) ggX8_place_X8_aheadWhy
set_option maxRecDepth 20000 in
theorem ggX8_place_X8_no : GoodIn wsX8_place wsX8_no := goodIn_r _ [29, 8, 79, 80, 81, 82, 83, 84, 85, 86, 87, 88, 89, 90, 91, 92, 93, 94, 95, 96, 97, 98, 99, 100, 101, 102, 103, 104, 105, 106, 107, 108, 109, 110, 111, 112, 113, 114, 115, 116, 117, 118] (by decide +kernel) (by decide +kernel)
set_option maxRecDepth 20000 in
theorem gX8_place_X8_no : GoodIn wsX8_place (wsV RX8 163 RX8 yX8_no wsX8_no) := goodIn_app (goodIn_of _ (by decide +kernel)) ggX8_place_X8_no
set_option maxRecDepth 20000 in
theorem ggX8_place_X8_minutesOn : GoodIn wsX8_place wsX8_minutesOn := goodIn_r _ [33, 1, 34, 35, 36, 5, 37, 38, 39, 40, 41, 42, 14, 43, 44, 45, 46, 47, 48, 49, 50, 51, 52, 53, 54, 55, 56, 57, 58, 59, 60, 61, 62, 63, 64, 65, 66, 67, 68, 69, 70, 71, 72, 73, 74, 75, 76, 77, 78, 79, 80, 81, 82, 83, 84, 85, 86, 87, 88, 89, 90, 91, 92, 93, 94, 95, 96, 97, 98, 99, 100, 101, 102, 103, 104, 105, 106, 107, 108, 109, 110, 111, 112, 113, 114, 115, 116, 117, 118] (by decide +kernel) (by decide +kernel)
set_option maxRecDepth 20000 in
theorem gX8_place_X8_minutesOn : GoodIn wsX8_place (wsV RX8 304 RX8 yX8_minutesOn wsX8_minutesOn) := goodIn_app (goodIn_of _ (by decide +kernel)) ggX8_place_X8_minutesOn
set_option maxRecDepth 20000 in
theorem ggX8_watch_X8_good : GoodIn wsX8_watch wsX8_good := goodIn_r _ [6, 7, 8, 41, 42, 43, 44, 45, 46, 47, 48, 49, 50, 51, 52, 53, 54, 55, 56, 57, 58, 59, 60, 61, 62, 63, 64, 65, 66, 67, 68, 69, 70, 71, 72, 73, 74, 75, 76, 77, 78, 79, 80] (by decide +kernel) (by decide +kernel)
set_option maxRecDepth 20000 in
theorem gX8_watch_X8_good : GoodIn wsX8_watch (wsV RX8 160 RX8 yX8_good wsX8_good) := goodIn_app (goodIn_of _ (by decide +kernel)) ggX8_watch_X8_good
set_option maxRecDepth 20000 in
theorem ggX8_watch_X8_isWatcher : GoodIn wsX8_watch wsX8_isWatcher := goodIn_r _ [12, 13, 14, 15, 16, 5, 17, 41, 42, 43, 44, 45, 46, 47, 48, 49, 50, 51, 52, 53, 54, 55, 56, 57, 58, 59, 60, 61, 62, 63, 64, 65, 66, 67, 68, 69, 70, 71, 72, 73, 74, 75, 76, 77, 78, 79, 80] (by decide +kernel) (by decide +kernel)
set_option maxRecDepth 20000 in
theorem gX8_watch_X8_isWatcher : GoodIn wsX8_watch (wsV RX8 280 RX8 yX8_isWatcher wsX8_isWatcher) := goodIn_app (goodIn_of _ (by decide +kernel)) ggX8_watch_X8_isWatcher
set_option maxRecDepth 20000 in
theorem ggX8_watch_X8_aheadWhy : GoodIn wsX8_watch wsX8_aheadWhy := goodIn_r _ [21, 15, 16, 5, 17, 22, 23, 24, 25] (by decide +kernel) (by decide +kernel)
set_option maxRecDepth 20000 in
theorem gX8_watch_X8_aheadWhy : GoodIn wsX8_watch (wsV RX8 300 RX8 yX8_aheadWhy wsX8_aheadWhy) := goodIn_app (goodIn_of _ (by decide +kernel)) ggX8_watch_X8_aheadWhy
set_option maxRecDepth 20000 in
theorem ggX8_watch_X8_no : GoodIn wsX8_watch wsX8_no := goodIn_r _ [29, 8, 41, 42, 43, 44, 45, 46, 47, 48, 49, 50, 51, 52, 53, 54, 55, 56, 57, 58, 59, 60, 61, 62, 63, 64, 65, 66, 67, 68, 69, 70, 71, 72, 73, 74, 75, 76, 77, 78, 79, 80] (by decide +kernel) (by decide +kernel)
set_option maxRecDepth 20000 in
theorem gX8_watch_X8_no : GoodIn wsX8_watch (wsV RX8 163 RX8 yX8_no wsX8_no) := goodIn_app (goodIn_of _ (by decide +kernel)) ggX8_watch_X8_no
set_option maxRecDepth 20000 in
theorem ggX8_watch_X8_watchAsTold : GoodIn wsX8_watch wsX8_watchAsTold := goodIn_r _ [33, 14, 34, 35, 36, 41, 42, 43, 44, 45, 46, 47, 48, 49, 50, 51, 52, 53, 54, 55, 56, 57, 58, 59, 60, 61, 62, 63, 64, 65, 66, 67, 68, 69, 70, 71, 72, 73, 74, 75, 76, 77, 78, 79, 80] (by decide +kernel) (by decide +kernel)
set_option maxRecDepth 20000 in
theorem gX8_watch_X8_watchAsTold : GoodIn wsX8_watch (wsV RX8 267 RX8 yX8_watchAsTold wsX8_watchAsTold) := goodIn_app (goodIn_of _ (by decide +kernel)) ggX8_watch_X8_watchAsTold
set_option maxRecDepth 20000 in
theorem ggX8_watch_X8_watcherAt : GoodIn wsX8_watch wsX8_watcherAt := goodIn_r _ [40, 35, 34, 41, 42, 43, 44, 45, 46, 47, 48, 49, 50, 51, 52, 53, 54, 55, 56, 57, 58, 59, 60, 61, 62, 63, 64, 65, 66, 67, 68, 69, 70, 71, 72, 73, 74, 75, 76, 77, 78, 79, 80] (by decide +kernel) (by decide +kernel)
set_option maxRecDepth 20000 in
theorem gX8_watch_X8_watcherAt : GoodIn wsX8_watch (wsV RX8 242 RX8 yX8_watcherAt wsX8_watcherAt) := goodIn_app (goodIn_of _ (by decide +kernel)) ggX8_watch_X8_watcherAt
set_option maxRecDepth 20000 in
theorem ggX8_gone_X8_good : GoodIn wsX8_gone wsX8_good := goodIn_r _ [7, 8, 9, 75, 76, 77, 78, 79, 80, 81, 82, 83, 84, 85, 86, 87, 88, 89, 90, 91, 92, 93, 94, 95, 96, 97, 98, 99, 100, 101, 102, 103, 104, 105, 106, 107, 108, 109, 110, 111, 112, 113, 114] (by decide +kernel) (by decide +kernel)
set_option maxRecDepth 20000 in
theorem gX8_gone_X8_good : GoodIn wsX8_gone (wsV RX8 160 RX8 yX8_good wsX8_good) := goodIn_app (goodIn_of _ (by decide +kernel)) ggX8_gone_X8_good
set_option maxRecDepth 20000 in
theorem ggX8_gone_X8_aheadWhy : GoodIn wsX8_gone wsX8_aheadWhy := goodIn_r _ [13, 14, 15, 6, 16, 17, 18, 19, 20] (by decide +kernel) (by decide +kernel)
set_option maxRecDepth 20000 in
theorem gX8_gone_X8_aheadWhy : GoodIn wsX8_gone (wsV RX8 300 RX8 yX8_aheadWhy wsX8_aheadWhy) := goodIn_app (goodIn_of _ (by decide +kernel)) ggX8_gone_X8_aheadWhy
set_option maxRecDepth 20000 in
theorem ggX8_gone_X8_no : GoodIn wsX8_gone wsX8_no := goodIn_r _ [24, 9, 75, 76, 77, 78, 79, 80, 81, 82, 83, 84, 85, 86, 87, 88, 89, 90, 91, 92, 93, 94, 95, 96, 97, 98, 99, 100, 101, 102, 103, 104, 105, 106, 107, 108, 109, 110, 111, 112, 113, 114] (by decide +kernel) (by decide +kernel)
set_option maxRecDepth 20000 in
theorem gX8_gone_X8_no : GoodIn wsX8_gone (wsV RX8 163 RX8 yX8_no wsX8_no) := goodIn_app (goodIn_of _ (by decide +kernel)) ggX8_gone_X8_no
set_option maxRecDepth 20000 in
theorem ggX8_gone_X8_minutesOn : GoodIn wsX8_gone wsX8_minutesOn := goodIn_r _ [28, 2, 29, 30, 31, 6, 32, 33, 34, 35, 36, 37, 38, 39, 40, 41, 42, 43, 44, 45, 46, 47, 48, 49, 50, 51, 52, 53, 54, 55, 56, 57, 58, 59, 60, 61, 62, 63, 64, 65, 66, 67, 68, 69, 70, 71, 72, 73, 74, 75, 76, 77, 78, 79, 80, 81, 82, 83, 84, 85, 86, 87, 88, 89, 90, 91, 92, 93, 94, 95, 96, 97, 98, 99, 100, 101, 102, 103, 104, 105, 106, 107, 108, 109, 110, 111, 112, 113, 114] (by decide +kernel) (by decide +kernel)
set_option maxRecDepth 20000 in
theorem gX8_gone_X8_minutesOn : GoodIn wsX8_gone (wsV RX8 304 RX8 yX8_minutesOn wsX8_minutesOn) := goodIn_app (goodIn_of _ (by decide +kernel)) ggX8_gone_X8_minutesOn
set_option maxRecDepth 20000 in
theorem ggX8_nextGone_X8_minuteOn : GoodIn wsX8_nextGone wsX8_minuteOn := goodIn_r _ [6, 7, 8, 9, 10, 11, 12, 5, 13, 14, 15, 16, 17, 18, 19, 20, 21, 22, 23, 24, 25, 26, 27, 28, 29, 30, 31, 32, 33, 34, 35, 36, 37, 38, 39, 40, 41, 42, 43, 44, 45, 46, 47, 48, 49, 50, 51, 52, 53, 54, 55, 56, 57, 58, 59, 60, 61, 62, 63, 64, 65, 66, 67, 68, 69, 70, 71, 72, 73, 74, 75, 76] (by decide +kernel) (by decide +kernel)
set_option maxRecDepth 20000 in
theorem gX8_nextGone_X8_minuteOn : GoodIn wsX8_nextGone (wsV RX8 273 RX8 yX8_minuteOn wsX8_minuteOn) := goodIn_app (goodIn_of _ (by decide +kernel)) ggX8_nextGone_X8_minuteOn
set_option maxRecDepth 20000 in
theorem ggX8_stairs_X8_good : GoodIn wsX8_stairs wsX8_good := goodIn_r _ [6, 7, 8, 64, 65, 66, 67, 68, 69, 70, 71, 72, 73, 74, 75, 76, 77, 78, 79, 80, 81, 82, 83, 84, 85, 86, 87, 88, 89, 90, 91, 92, 93, 94, 95, 96, 97, 98, 99, 100, 101, 102, 103] (by decide +kernel) (by decide +kernel)
set_option maxRecDepth 20000 in
theorem gX8_stairs_X8_good : GoodIn wsX8_stairs (wsV RX8 160 RX8 yX8_good wsX8_good) := goodIn_app (goodIn_of _ (by decide +kernel)) ggX8_stairs_X8_good
set_option maxRecDepth 20000 in
theorem ggX8_stairs_X8_no : GoodIn wsX8_stairs wsX8_no := goodIn_r _ [12, 8, 64, 65, 66, 67, 68, 69, 70, 71, 72, 73, 74, 75, 76, 77, 78, 79, 80, 81, 82, 83, 84, 85, 86, 87, 88, 89, 90, 91, 92, 93, 94, 95, 96, 97, 98, 99, 100, 101, 102, 103] (by decide +kernel) (by decide +kernel)
set_option maxRecDepth 20000 in
theorem gX8_stairs_X8_no : GoodIn wsX8_stairs (wsV RX8 163 RX8 yX8_no wsX8_no) := goodIn_app (goodIn_of _ (by decide +kernel)) ggX8_stairs_X8_no
set_option maxRecDepth 20000 in
theorem ggX8_stairs_X8_begin : GoodIn wsX8_stairs wsX8_begin := goodIn_r _ [16, 17, 18, 19, 20, 21, 5, 22, 23, 24, 25, 26, 27, 28, 29, 64, 65, 66, 67, 68, 69, 70, 71, 72, 73, 74, 75, 76, 77, 78, 79, 80, 81, 82, 83, 84, 85, 86, 87, 88, 89, 90, 91, 92, 93, 94, 95, 96, 97, 98, 99, 100, 101, 102, 103] (by decide +kernel) (by decide +kernel)
set_option maxRecDepth 20000 in
theorem gX8_stairs_X8_begin : GoodIn wsX8_stairs (wsV RX8 270 RX8 yX8_begin wsX8_begin) := goodIn_app (goodIn_of _ (by decide +kernel)) ggX8_stairs_X8_begin
set_option maxRecDepth 20000 in
theorem ggX8_stairs_X8_nextGone : GoodIn wsX8_stairs wsX8_nextGone := goodIn_r _ [33, 18, 34, 35, 36, 5, 37, 38, 23, 39, 40, 41, 42, 43, 44, 45, 46, 47, 48, 49, 50, 51, 26, 52, 53, 54, 55, 25, 24, 56, 57, 58, 59, 60, 61, 62, 63, 64, 65, 66, 67, 68, 69, 70, 71, 72, 73, 74, 75, 76, 77, 78, 79, 80, 81, 82, 83, 84, 85, 86, 87, 88, 89, 90, 91, 92, 93, 94, 95, 96, 97, 98, 99, 100, 101, 102, 103] (by decide +kernel) (by decide +kernel)
set_option maxRecDepth 20000 in
theorem gX8_stairs_X8_nextGone : GoodIn wsX8_stairs (wsV RX8 307 RX8 yX8_nextGone wsX8_nextGone) := goodIn_app (goodIn_of _ (by decide +kernel)) ggX8_stairs_X8_nextGone
set_option maxRecDepth 20000 in
theorem ggX8_catches_X8_good : GoodIn wsX8_catches wsX8_good := goodIn_r _ [8, 9, 10, 75, 76, 77, 78, 79, 80, 81, 82, 83, 84, 85, 86, 87, 88, 89, 90, 91, 92, 93, 94, 95, 96, 97, 98, 99, 100, 101, 102, 103, 104, 105, 106, 107, 108, 109, 110, 111, 112, 113, 114] (by decide +kernel) (by decide +kernel)
set_option maxRecDepth 20000 in
theorem gX8_catches_X8_good : GoodIn wsX8_catches (wsV RX8 160 RX8 yX8_good wsX8_good) := goodIn_app (goodIn_of _ (by decide +kernel)) ggX8_catches_X8_good
set_option maxRecDepth 20000 in
theorem ggX8_catches_X8_aheadWhy : GoodIn wsX8_catches wsX8_aheadWhy := goodIn_r _ [14, 15, 16, 7, 17, 18, 19, 20, 21] (by decide +kernel) (by decide +kernel)
set_option maxRecDepth 20000 in
theorem gX8_catches_X8_aheadWhy : GoodIn wsX8_catches (wsV RX8 300 RX8 yX8_aheadWhy wsX8_aheadWhy) := goodIn_app (goodIn_of _ (by decide +kernel)) ggX8_catches_X8_aheadWhy
set_option maxRecDepth 20000 in
theorem ggX8_catches_X8_no : GoodIn wsX8_catches wsX8_no := goodIn_r _ [25, 10, 75, 76, 77, 78, 79, 80, 81, 82, 83, 84, 85, 86, 87, 88, 89, 90, 91, 92, 93, 94, 95, 96, 97, 98, 99, 100, 101, 102, 103, 104, 105, 106, 107, 108, 109, 110, 111, 112, 113, 114] (by decide +kernel) (by decide +kernel)
set_option maxRecDepth 20000 in
theorem gX8_catches_X8_no : GoodIn wsX8_catches (wsV RX8 163 RX8 yX8_no wsX8_no) := goodIn_app (goodIn_of _ (by decide +kernel)) ggX8_catches_X8_no
set_option maxRecDepth 20000 in
theorem ggX8_catches_X8_minutesOn : GoodIn wsX8_catches wsX8_minutesOn := goodIn_r _ [29, 2, 30, 31, 32, 7, 33, 3, 34, 35, 36, 37, 38, 39, 40, 41, 42, 43, 44, 45, 46, 47, 48, 49, 50, 51, 52, 53, 54, 55, 56, 57, 58, 59, 60, 61, 62, 63, 64, 65, 66, 67, 68, 69, 70, 71, 72, 73, 74, 75, 76, 77, 78, 79, 80, 81, 82, 83, 84, 85, 86, 87, 88, 89, 90, 91, 92, 93, 94, 95, 96, 97, 98, 99, 100, 101, 102, 103, 104, 105, 106, 107, 108, 109, 110, 111, 112, 113, 114] (by decide +kernel) (by decide +kernel)
set_option maxRecDepth 20000 in
theorem gX8_catches_X8_minutesOn : GoodIn wsX8_catches (wsV RX8 304 RX8 yX8_minutesOn wsX8_minutesOn) := goodIn_app (goodIn_of _ (by decide +kernel)) ggX8_catches_X8_minutesOn
set_option maxRecDepth 20000 in
theorem ggX8_heard_X8_good : GoodIn wsX8_heard wsX8_good := goodIn_r _ [6, 7, 8, 75, 76, 77, 78, 79, 80, 81, 82, 83, 84, 85, 86, 87, 88, 89, 90, 91, 92, 93, 94, 95, 96, 97, 98, 99, 100, 101, 102, 103, 104, 105, 106, 107, 108, 109, 110, 111, 112, 113, 114] (by decide +kernel) (by decide +kernel)
set_option maxRecDepth 20000 in
theorem gX8_heard_X8_good : GoodIn wsX8_heard (wsV RX8 160 RX8 yX8_good wsX8_good) := goodIn_app (goodIn_of _ (by decide +kernel)) ggX8_heard_X8_good
set_option maxRecDepth 20000 in
theorem ggX8_heard_X8_isFigure : GoodIn wsX8_heard wsX8_isFigure := goodIn_r _ [12, 13, 14, 15, 16, 5, 17, 75, 76, 77, 78, 79, 80, 81, 82, 83, 84, 85, 86, 87, 88, 89, 90, 91, 92, 93, 94, 95, 96, 97, 98, 99, 100, 101, 102, 103, 104, 105, 106, 107, 108, 109, 110, 111, 112, 113, 114] (by decide +kernel) (by decide +kernel)
set_option maxRecDepth 20000 in
theorem gX8_heard_X8_isFigure : GoodIn wsX8_heard (wsV RX8 277 RX8 yX8_isFigure wsX8_isFigure) := goodIn_app (goodIn_of _ (by decide +kernel)) ggX8_heard_X8_isFigure
set_option maxRecDepth 20000 in
theorem ggX8_heard_X8_aheadWhy : GoodIn wsX8_heard wsX8_aheadWhy := goodIn_r _ [21, 15, 16, 5, 17, 22, 23, 24, 25] (by decide +kernel) (by decide +kernel)
set_option maxRecDepth 20000 in
theorem gX8_heard_X8_aheadWhy : GoodIn wsX8_heard (wsV RX8 300 RX8 yX8_aheadWhy wsX8_aheadWhy) := goodIn_app (goodIn_of _ (by decide +kernel)) ggX8_heard_X8_aheadWhy
set_option maxRecDepth 20000 in
theorem ggX8_heard_X8_no : GoodIn wsX8_heard wsX8_no := goodIn_r _ [29, 8, 75, 76, 77, 78, 79, 80, 81, 82, 83, 84, 85, 86, 87, 88, 89, 90, 91, 92, 93, 94, 95, 96, 97, 98, 99, 100, 101, 102, 103, 104, 105, 106, 107, 108, 109, 110, 111, 112, 113, 114] (by decide +kernel) (by decide +kernel)
set_option maxRecDepth 20000 in
theorem gX8_heard_X8_no : GoodIn wsX8_heard (wsV RX8 163 RX8 yX8_no wsX8_no) := goodIn_app (goodIn_of _ (by decide +kernel)) ggX8_heard_X8_no
set_option maxRecDepth 20000 in
theorem ggX8_heard_X8_begin : GoodIn wsX8_heard wsX8_begin := goodIn_r _ [33, 34, 1, 35, 36, 37, 5, 38, 14, 39, 40, 41, 42, 43, 44, 75, 76, 77, 78, 79, 80, 81, 82, 83, 84, 85, 86, 87, 88, 89, 90, 91, 92, 93, 94, 95, 96, 97, 98, 99, 100, 101, 102, 103, 104, 105, 106, 107, 108, 109, 110, 111, 112, 113, 114] (by decide +kernel) (by decide +kernel)
set_option maxRecDepth 20000 in
theorem gX8_heard_X8_begin : GoodIn wsX8_heard (wsV RX8 270 RX8 yX8_begin wsX8_begin) := goodIn_app (goodIn_of _ (by decide +kernel)) ggX8_heard_X8_begin
set_option maxRecDepth 20000 in
theorem ggX8_heard_X8_minuteOn : GoodIn wsX8_heard wsX8_minuteOn := goodIn_r _ [48, 49, 14, 50, 51, 52, 53, 5, 54, 55, 56, 57, 58, 59, 60, 61, 62, 41, 63, 64, 65, 66, 40, 39, 67, 68, 69, 70, 71, 72, 73, 74, 75, 76, 77, 78, 79, 80, 81, 82, 83, 84, 85, 86, 87, 88, 89, 90, 91, 92, 93, 94, 95, 96, 97, 98, 99, 100, 101, 102, 103, 104, 105, 106, 107, 108, 109, 110, 111, 112, 113, 114] (by decide +kernel) (by decide +kernel)
set_option maxRecDepth 20000 in
theorem gX8_heard_X8_minuteOn : GoodIn wsX8_heard (wsV RX8 273 RX8 yX8_minuteOn wsX8_minuteOn) := goodIn_app (goodIn_of _ (by decide +kernel)) ggX8_heard_X8_minuteOn
set_option maxRecDepth 20000 in
theorem ggX8_allIn_X8_good : GoodIn wsX8_allIn wsX8_good := goodIn_r _ [7, 8, 9, 67, 68, 69, 70, 71, 72, 73, 74, 75, 76, 77, 78, 79, 80, 81, 82, 83, 84, 85, 86, 87, 88, 89, 90, 91, 92, 93, 94, 95, 96, 97, 98, 99, 100, 101, 102, 103, 104, 105, 106] (by decide +kernel) (by decide +kernel)
set_option maxRecDepth 20000 in
theorem gX8_allIn_X8_good : GoodIn wsX8_allIn (wsV RX8 160 RX8 yX8_good wsX8_good) := goodIn_app (goodIn_of _ (by decide +kernel)) ggX8_allIn_X8_good
set_option maxRecDepth 20000 in
theorem ggX8_allIn_X8_isFigure : GoodIn wsX8_allIn wsX8_isFigure := goodIn_r _ [13, 14, 1, 15, 16, 6, 17, 67, 68, 69, 70, 71, 72, 73, 74, 75, 76, 77, 78, 79, 80, 81, 82, 83, 84, 85, 86, 87, 88, 89, 90, 91, 92, 93, 94, 95, 96, 97, 98, 99, 100, 101, 102, 103, 104, 105, 106] (by decide +kernel) (by decide +kernel)
set_option maxRecDepth 20000 in
theorem gX8_allIn_X8_isFigure : GoodIn wsX8_allIn (wsV RX8 277 RX8 yX8_isFigure wsX8_isFigure) := goodIn_app (goodIn_of _ (by decide +kernel)) ggX8_allIn_X8_isFigure
set_option maxRecDepth 20000 in
theorem ggX8_allIn_X8_no : GoodIn wsX8_allIn wsX8_no := goodIn_r _ [21, 9, 67, 68, 69, 70, 71, 72, 73, 74, 75, 76, 77, 78, 79, 80, 81, 82, 83, 84, 85, 86, 87, 88, 89, 90, 91, 92, 93, 94, 95, 96, 97, 98, 99, 100, 101, 102, 103, 104, 105, 106] (by decide +kernel) (by decide +kernel)
set_option maxRecDepth 20000 in
theorem gX8_allIn_X8_no : GoodIn wsX8_allIn (wsV RX8 163 RX8 yX8_no wsX8_no) := goodIn_app (goodIn_of _ (by decide +kernel)) ggX8_allIn_X8_no
set_option maxRecDepth 20000 in
theorem ggX8_allIn_X8_begin : GoodIn wsX8_allIn wsX8_begin := goodIn_r _ [25, 26, 2, 27, 28, 29, 6, 30, 1, 31, 32, 33, 34, 35, 36, 67, 68, 69, 70, 71, 72, 73, 74, 75, 76, 77, 78, 79, 80, 81, 82, 83, 84, 85, 86, 87, 88, 89, 90, 91, 92, 93, 94, 95, 96, 97, 98, 99, 100, 101, 102, 103, 104, 105, 106] (by decide +kernel) (by decide +kernel)
set_option maxRecDepth 20000 in
theorem gX8_allIn_X8_begin : GoodIn wsX8_allIn (wsV RX8 270 RX8 yX8_begin wsX8_begin) := goodIn_app (goodIn_of _ (by decide +kernel)) ggX8_allIn_X8_begin
set_option maxRecDepth 20000 in
theorem ggX8_allIn_X8_minuteOn : GoodIn wsX8_allIn wsX8_minuteOn := goodIn_r _ [40, 41, 1, 42, 43, 44, 45, 6, 46, 47, 48, 49, 50, 51, 52, 53, 54, 33, 55, 56, 57, 58, 32, 31, 59, 60, 61, 62, 63, 64, 65, 66, 67, 68, 69, 70, 71, 72, 73, 74, 75, 76, 77, 78, 79, 80, 81, 82, 83, 84, 85, 86, 87, 88, 89, 90, 91, 92, 93, 94, 95, 96, 97, 98, 99, 100, 101, 102, 103, 104, 105, 106] (by decide +kernel) (by decide +kernel)
set_option maxRecDepth 20000 in
theorem gX8_allIn_X8_minuteOn : GoodIn wsX8_allIn (wsV RX8 273 RX8 yX8_minuteOn wsX8_minuteOn) := goodIn_app (goodIn_of _ (by decide +kernel)) ggX8_allIn_X8_minuteOn
set_option maxRecDepth 20000 in
theorem ggX8_meets_X8_good : GoodIn wsX8_meets wsX8_good := goodIn_r _ [7, 8, 9, 67, 68, 69, 70, 71, 72, 73, 74, 75, 76, 77, 78, 79, 80, 81, 82, 83, 84, 85, 86, 87, 88, 89, 90, 91, 92, 93, 94, 95, 96, 97, 98, 99, 100, 101, 102, 103, 104, 105, 106] (by decide +kernel) (by decide +kernel)
set_option maxRecDepth 20000 in
theorem gX8_meets_X8_good : GoodIn wsX8_meets (wsV RX8 160 RX8 yX8_good wsX8_good) := goodIn_app (goodIn_of _ (by decide +kernel)) ggX8_meets_X8_good
set_option maxRecDepth 20000 in
theorem ggX8_meets_X8_isWatcher : GoodIn wsX8_meets wsX8_isWatcher := goodIn_r _ [13, 14, 15, 16, 17, 6, 18, 67, 68, 69, 70, 71, 72, 73, 74, 75, 76, 77, 78, 79, 80, 81, 82, 83, 84, 85, 86, 87, 88, 89, 90, 91, 92, 93, 94, 95, 96, 97, 98, 99, 100, 101, 102, 103, 104, 105, 106] (by decide +kernel) (by decide +kernel)
set_option maxRecDepth 20000 in
theorem gX8_meets_X8_isWatcher : GoodIn wsX8_meets (wsV RX8 280 RX8 yX8_isWatcher wsX8_isWatcher) := goodIn_app (goodIn_of _ (by decide +kernel)) ggX8_meets_X8_isWatcher
set_option maxRecDepth 20000 in
theorem ggX8_meets_X8_no : GoodIn wsX8_meets wsX8_no := goodIn_r _ [22, 9, 67, 68, 69, 70, 71, 72, 73, 74, 75, 76, 77, 78, 79, 80, 81, 82, 83, 84, 85, 86, 87, 88, 89, 90, 91, 92, 93, 94, 95, 96, 97, 98, 99, 100, 101, 102, 103, 104, 105, 106] (by decide +kernel) (by decide +kernel)
set_option maxRecDepth 20000 in
theorem gX8_meets_X8_no : GoodIn wsX8_meets (wsV RX8 163 RX8 yX8_no wsX8_no) := goodIn_app (goodIn_of _ (by decide +kernel)) ggX8_meets_X8_no
set_option maxRecDepth 20000 in
theorem ggX8_meets_X8_begin : GoodIn wsX8_meets wsX8_begin := goodIn_r _ [26, 27, 1, 28, 29, 30, 6, 31, 15, 32, 33, 34, 35, 36, 37, 67, 68, 69, 70, 71, 72, 73, 74, 75, 76, 77, 78, 79, 80, 81, 82, 83, 84, 85, 86, 87, 88, 89, 90, 91, 92, 93, 94, 95, 96, 97, 98, 99, 100, 101, 102, 103, 104, 105, 106] (by decide +kernel) (by decide +kernel)
set_option maxRecDepth 20000 in
theorem gX8_meets_X8_begin : GoodIn wsX8_meets (wsV RX8 270 RX8 yX8_begin wsX8_begin) := goodIn_app (goodIn_of _ (by decide +kernel)) ggX8_meets_X8_begin
set_option maxRecDepth 20000 in
theorem ggX8_meets_X8_watcherAt : GoodIn wsX8_meets wsX8_watcherAt := goodIn_r _ [41, 33, 32, 67, 68, 69, 70, 71, 72, 73, 74, 75, 76, 77, 78, 79, 80, 81, 82, 83, 84, 85, 86, 87, 88, 89, 90, 91, 92, 93, 94, 95, 96, 97, 98, 99, 100, 101, 102, 103, 104, 105, 106] (by decide +kernel) (by decide +kernel)
set_option maxRecDepth 20000 in
theorem gX8_meets_X8_watcherAt : GoodIn wsX8_meets (wsV RX8 242 RX8 yX8_watcherAt wsX8_watcherAt) := goodIn_app (goodIn_of _ (by decide +kernel)) ggX8_meets_X8_watcherAt
set_option maxRecDepth 20000 in
theorem ggX8_meets_X8_minuteOn : GoodIn wsX8_meets wsX8_minuteOn := goodIn_r _ [45, 46, 15, 47, 2, 48, 49, 6, 50, 51, 52, 53, 54, 55, 56, 57, 58, 34, 38, 39, 40, 41, 33, 32, 59, 60, 61, 62, 63, 64, 65, 66, 67, 68, 69, 70, 71, 72, 73, 74, 75, 76, 77, 78, 79, 80, 81, 82, 83, 84, 85, 86, 87, 88, 89, 90, 91, 92, 93, 94, 95, 96, 97, 98, 99, 100, 101, 102, 103, 104, 105, 106] (by decide +kernel) (by decide +kernel)
set_option maxRecDepth 20000 in
theorem gX8_meets_X8_minuteOn : GoodIn wsX8_meets (wsV RX8 273 RX8 yX8_minuteOn wsX8_minuteOn) := goodIn_app (goodIn_of _ (by decide +kernel)) ggX8_meets_X8_minuteOn
set_option maxRecDepth 20000 in
theorem ggX8_crowd_X8_good : GoodIn wsX8_crowd wsX8_good := goodIn_r _ [8, 9, 10, 75, 76, 77, 78, 79, 80, 81, 82, 83, 84, 85, 86, 87, 88, 89, 90, 91, 92, 93, 94, 95, 96, 97, 98, 99, 100, 101, 102, 103, 104, 105, 106, 107, 108, 109, 110, 111, 112, 113, 114] (by decide +kernel) (by decide +kernel)
set_option maxRecDepth 20000 in
theorem gX8_crowd_X8_good : GoodIn wsX8_crowd (wsV RX8 160 RX8 yX8_good wsX8_good) := goodIn_app (goodIn_of _ (by decide +kernel)) ggX8_crowd_X8_good
set_option maxRecDepth 20000 in
theorem ggX8_crowd_X8_aheadWhy : GoodIn wsX8_crowd wsX8_aheadWhy := goodIn_r _ [14, 15, 16, 7, 17, 18, 19, 20, 21] (by decide +kernel) (by decide +kernel)
set_option maxRecDepth 20000 in
theorem gX8_crowd_X8_aheadWhy : GoodIn wsX8_crowd (wsV RX8 300 RX8 yX8_aheadWhy wsX8_aheadWhy) := goodIn_app (goodIn_of _ (by decide +kernel)) ggX8_crowd_X8_aheadWhy
set_option maxRecDepth 20000 in
theorem ggX8_crowd_X8_no : GoodIn wsX8_crowd wsX8_no := goodIn_r _ [25, 10, 75, 76, 77, 78, 79, 80, 81, 82, 83, 84, 85, 86, 87, 88, 89, 90, 91, 92, 93, 94, 95, 96, 97, 98, 99, 100, 101, 102, 103, 104, 105, 106, 107, 108, 109, 110, 111, 112, 113, 114] (by decide +kernel) (by decide +kernel)
set_option maxRecDepth 20000 in
theorem gX8_crowd_X8_no : GoodIn wsX8_crowd (wsV RX8 163 RX8 yX8_no wsX8_no) := goodIn_app (goodIn_of _ (by decide +kernel)) ggX8_crowd_X8_no
set_option maxRecDepth 20000 in
theorem ggX8_crowd_X8_minutesOn : GoodIn wsX8_crowd wsX8_minutesOn := goodIn_r _ [29, 3, 30, 31, 32, 7, 33, 34, 35, 36, 37, 38, 2, 39, 40, 41, 42, 43, 44, 45, 46, 47, 48, 49, 50, 51, 52, 53, 54, 55, 56, 57, 58, 59, 60, 61, 62, 63, 64, 65, 66, 67, 68, 69, 70, 71, 72, 73, 74, 75, 76, 77, 78, 79, 80, 81, 82, 83, 84, 85, 86, 87, 88, 89, 90, 91, 92, 93, 94, 95, 96, 97, 98, 99, 100, 101, 102, 103, 104, 105, 106, 107, 108, 109, 110, 111, 112, 113, 114] (by decide +kernel) (by decide +kernel)
set_option maxRecDepth 20000 in
theorem gX8_crowd_X8_minutesOn : GoodIn wsX8_crowd (wsV RX8 304 RX8 yX8_minutesOn wsX8_minutesOn) := goodIn_app (goodIn_of _ (by decide +kernel)) ggX8_crowd_X8_minutesOn
set_option maxRecDepth 20000 in
theorem ggX8_crowd_X8_hasBit : GoodIn wsX8_crowd wsX8_hasBit := goodIn_r _ [54] (by decide +kernel) (by decide +kernel)
set_option maxRecDepth 20000 in
theorem gX8_crowd_X8_hasBit : GoodIn wsX8_crowd (va_wsS RX8 238 yX8_hasBit wsX8_hasBit) := goodIn_app (goodIn_of _ (by decide +kernel)) ggX8_crowd_X8_hasBit
set_option maxRecDepth 20000 in
theorem ggX8_farthest_X8_good : GoodIn wsX8_farthest wsX8_good := goodIn_r _ [8, 9, 10, 78, 79, 80, 81, 82, 83, 84, 85, 86, 87, 88, 89, 90, 91, 92, 93, 94, 95, 96, 97, 98, 99, 100, 101, 102, 103, 104, 105, 106, 107, 108, 109, 110, 111, 112, 113, 114, 115, 116, 117] (by decide +kernel) (by decide +kernel)
set_option maxRecDepth 20000 in
theorem gX8_farthest_X8_good : GoodIn wsX8_farthest (wsV RX8 160 RX8 yX8_good wsX8_good) := goodIn_app (goodIn_of _ (by decide +kernel)) ggX8_farthest_X8_good
set_option maxRecDepth 20000 in
theorem ggX8_farthest_X8_aheadWhy : GoodIn wsX8_farthest wsX8_aheadWhy := goodIn_r _ [14, 15, 16, 7, 17, 18, 19, 20, 21] (by decide +kernel) (by decide +kernel)
set_option maxRecDepth 20000 in
theorem gX8_farthest_X8_aheadWhy : GoodIn wsX8_farthest (wsV RX8 300 RX8 yX8_aheadWhy wsX8_aheadWhy) := goodIn_app (goodIn_of _ (by decide +kernel)) ggX8_farthest_X8_aheadWhy
set_option maxRecDepth 20000 in
theorem ggX8_farthest_X8_no : GoodIn wsX8_farthest wsX8_no := goodIn_r _ [25, 10, 78, 79, 80, 81, 82, 83, 84, 85, 86, 87, 88, 89, 90, 91, 92, 93, 94, 95, 96, 97, 98, 99, 100, 101, 102, 103, 104, 105, 106, 107, 108, 109, 110, 111, 112, 113, 114, 115, 116, 117] (by decide +kernel) (by decide +kernel)
set_option maxRecDepth 20000 in
theorem gX8_farthest_X8_no : GoodIn wsX8_farthest (wsV RX8 163 RX8 yX8_no wsX8_no) := goodIn_app (goodIn_of _ (by decide +kernel)) ggX8_farthest_X8_no
set_option maxRecDepth 20000 in
theorem ggX8_farthest_X8_minutesOn : GoodIn wsX8_farthest wsX8_minutesOn := goodIn_r _ [29, 3, 30, 31, 32, 7, 33, 34, 35, 36, 37, 38, 2, 39, 40, 41, 42, 43, 44, 45, 46, 47, 48, 49, 50, 51, 52, 53, 54, 55, 56, 57, 58, 59, 60, 61, 62, 63, 64, 65, 66, 67, 68, 69, 70, 71, 72, 73, 74, 78, 79, 80, 81, 82, 83, 84, 85, 86, 87, 88, 89, 90, 91, 92, 93, 94, 95, 96, 97, 98, 99, 100, 101, 102, 103, 104, 105, 106, 107, 108, 109, 110, 111, 112, 113, 114, 115, 116, 117] (by decide +kernel) (by decide +kernel)
set_option maxRecDepth 20000 in
theorem gX8_farthest_X8_minutesOn : GoodIn wsX8_farthest (wsV RX8 304 RX8 yX8_minutesOn wsX8_minutesOn) := goodIn_app (goodIn_of _ (by decide +kernel)) ggX8_farthest_X8_minutesOn
set_option maxRecDepth 20000 in
theorem ggX8_farthest_X8_between : GoodIn wsX8_farthest wsX8_between := goodIn_r _ [77] (by decide +kernel) (by decide +kernel)
set_option maxRecDepth 20000 in
theorem gX8_farthest_X8_between : GoodIn wsX8_farthest (va_wsS RX8 310 yX8_between wsX8_between) := goodIn_app (goodIn_of _ (by decide +kernel)) ggX8_farthest_X8_between
set_option maxRecDepth 20000 in
theorem ggX8_nearBy_X8_good : GoodIn wsX8_nearBy wsX8_good := goodIn_r _ [6, 7, 8, 75, 76, 77, 78, 79, 80, 81, 82, 83, 84, 85, 86, 87, 88, 89, 90, 91, 92, 93, 94, 95, 96, 97, 98, 99, 100, 101, 102, 103, 104, 105, 106, 107, 108, 109, 110, 111, 112, 113, 114] (by decide +kernel) (by decide +kernel)
set_option maxRecDepth 20000 in
theorem gX8_nearBy_X8_good : GoodIn wsX8_nearBy (wsV RX8 160 RX8 yX8_good wsX8_good) := goodIn_app (goodIn_of _ (by decide +kernel)) ggX8_nearBy_X8_good
set_option maxRecDepth 20000 in
theorem ggX8_nearBy_X8_isFigure : GoodIn wsX8_nearBy wsX8_isFigure := goodIn_r _ [12, 13, 14, 15, 16, 5, 17, 75, 76, 77, 78, 79, 80, 81, 82, 83, 84, 85, 86, 87, 88, 89, 90, 91, 92, 93, 94, 95, 96, 97, 98, 99, 100, 101, 102, 103, 104, 105, 106, 107, 108, 109, 110, 111, 112, 113, 114] (by decide +kernel) (by decide +kernel)
set_option maxRecDepth 20000 in
theorem gX8_nearBy_X8_isFigure : GoodIn wsX8_nearBy (wsV RX8 277 RX8 yX8_isFigure wsX8_isFigure) := goodIn_app (goodIn_of _ (by decide +kernel)) ggX8_nearBy_X8_isFigure
set_option maxRecDepth 20000 in
theorem ggX8_nearBy_X8_aheadWhy : GoodIn wsX8_nearBy wsX8_aheadWhy := goodIn_r _ [21, 15, 16, 5, 17, 22, 23, 24, 25] (by decide +kernel) (by decide +kernel)
set_option maxRecDepth 20000 in
theorem gX8_nearBy_X8_aheadWhy : GoodIn wsX8_nearBy (wsV RX8 300 RX8 yX8_aheadWhy wsX8_aheadWhy) := goodIn_app (goodIn_of _ (by decide +kernel)) ggX8_nearBy_X8_aheadWhy
set_option maxRecDepth 20000 in
theorem ggX8_nearBy_X8_no : GoodIn wsX8_nearBy wsX8_no := goodIn_r _ [29, 8, 75, 76, 77, 78, 79, 80, 81, 82, 83, 84, 85, 86, 87, 88, 89, 90, 91, 92, 93, 94, 95, 96, 97, 98, 99, 100, 101, 102, 103, 104, 105, 106, 107, 108, 109, 110, 111, 112, 113, 114] (by decide +kernel) (by decide +kernel)
set_option maxRecDepth 20000 in
theorem gX8_nearBy_X8_no : GoodIn wsX8_nearBy (wsV RX8 163 RX8 yX8_no wsX8_no) := goodIn_app (goodIn_of _ (by decide +kernel)) ggX8_nearBy_X8_no
set_option maxRecDepth 20000 in
theorem ggX8_nearBy_X8_begin : GoodIn wsX8_nearBy wsX8_begin := goodIn_r _ [33, 34, 1, 35, 36, 37, 5, 38, 14, 39, 40, 41, 42, 43, 44, 75, 76, 77, 78, 79, 80, 81, 82, 83, 84, 85, 86, 87, 88, 89, 90, 91, 92, 93, 94, 95, 96, 97, 98, 99, 100, 101, 102, 103, 104, 105, 106, 107, 108, 109, 110, 111, 112, 113, 114] (by decide +kernel) (by decide +kernel)
set_option maxRecDepth 20000 in
theorem gX8_nearBy_X8_begin : GoodIn wsX8_nearBy (wsV RX8 270 RX8 yX8_begin wsX8_begin) := goodIn_app (goodIn_of _ (by decide +kernel)) ggX8_nearBy_X8_begin
set_option maxRecDepth 20000 in
theorem ggX8_nearBy_X8_minuteOn : GoodIn wsX8_nearBy wsX8_minuteOn := goodIn_r _ [48, 49, 14, 50, 51, 52, 53, 5, 54, 55, 56, 57, 58, 59, 60, 61, 62, 41, 63, 64, 65, 66, 40, 39, 67, 68, 69, 70, 71, 72, 73, 74, 75, 76, 77, 78, 79, 80, 81, 82, 83, 84, 85, 86, 87, 88, 89, 90, 91, 92, 93, 94, 95, 96, 97, 98, 99, 100, 101, 102, 103, 104, 105, 106, 107, 108, 109, 110, 111, 112, 113, 114] (by decide +kernel) (by decide +kernel)
set_option maxRecDepth 20000 in
theorem gX8_nearBy_X8_minuteOn : GoodIn wsX8_nearBy (wsV RX8 273 RX8 yX8_minuteOn wsX8_minuteOn) := goodIn_app (goodIn_of _ (by decide +kernel)) ggX8_nearBy_X8_minuteOn
set_option maxRecDepth 20000 in
theorem ggX8_nearBy_X8_hasBit : GoodIn wsX8_nearBy wsX8_hasBit := goodIn_r _ [54] (by decide +kernel) (by decide +kernel)
set_option maxRecDepth 20000 in
theorem gX8_nearBy_X8_hasBit : GoodIn wsX8_nearBy (va_wsS RX8 238 yX8_hasBit wsX8_hasBit) := goodIn_app (goodIn_of _ (by decide +kernel)) ggX8_nearBy_X8_hasBit
set_option maxRecDepth 20000 in
theorem ggX8_nearBy_X8_isWatched : GoodIn wsX8_nearBy wsX8_isWatched := goodIn_r _ [62, 41, 14, 52, 53, 5, 54, 63, 64, 65, 66, 40, 39, 75, 76, 77, 78, 79, 80, 81, 82, 83, 84, 85, 86, 87, 88, 89, 90, 91, 92, 93, 94, 95, 96, 97, 98, 99, 100, 101, 102, 103, 104, 105, 106, 107, 108, 109, 110, 111, 112, 113, 114] (by decide +kernel) (by decide +kernel)
set_option maxRecDepth 20000 in
theorem gX8_nearBy_X8_isWatched : GoodIn wsX8_nearBy (wsV RX8 245 RX8 yX8_isWatched wsX8_isWatched) := goodIn_app (goodIn_of _ (by decide +kernel)) ggX8_nearBy_X8_isWatched
set_option maxRecDepth 20000 in
theorem ggX8_spoken_X8_good : GoodIn wsX8_spoken wsX8_good := goodIn_r _ [8, 9, 10, 75, 76, 77, 78, 79, 80, 81, 82, 83, 84, 85, 86, 87, 88, 89, 90, 91, 92, 93, 94, 95, 96, 97, 98, 99, 100, 101, 102, 103, 104, 105, 106, 107, 108, 109, 110, 111, 112, 113, 114] (by decide +kernel) (by decide +kernel)
set_option maxRecDepth 20000 in
theorem gX8_spoken_X8_good : GoodIn wsX8_spoken (wsV RX8 160 RX8 yX8_good wsX8_good) := goodIn_app (goodIn_of _ (by decide +kernel)) ggX8_spoken_X8_good
set_option maxRecDepth 20000 in
theorem ggX8_spoken_X8_isFigure : GoodIn wsX8_spoken wsX8_isFigure := goodIn_r _ [14, 15, 16, 17, 18, 7, 19, 75, 76, 77, 78, 79, 80, 81, 82, 83, 84, 85, 86, 87, 88, 89, 90, 91, 92, 93, 94, 95, 96, 97, 98, 99, 100, 101, 102, 103, 104, 105, 106, 107, 108, 109, 110, 111, 112, 113, 114] (by decide +kernel) (by decide +kernel)
set_option maxRecDepth 20000 in
theorem gX8_spoken_X8_isFigure : GoodIn wsX8_spoken (wsV RX8 277 RX8 yX8_isFigure wsX8_isFigure) := goodIn_app (goodIn_of _ (by decide +kernel)) ggX8_spoken_X8_isFigure
set_option maxRecDepth 20000 in
theorem ggX8_spoken_X8_aheadWhy : GoodIn wsX8_spoken wsX8_aheadWhy := goodIn_r _ [23, 17, 18, 7, 19, 24, 25, 26, 27] (by decide +kernel) (by decide +kernel)
set_option maxRecDepth 20000 in
theorem gX8_spoken_X8_aheadWhy : GoodIn wsX8_spoken (wsV RX8 300 RX8 yX8_aheadWhy wsX8_aheadWhy) := goodIn_app (goodIn_of _ (by decide +kernel)) ggX8_spoken_X8_aheadWhy
set_option maxRecDepth 20000 in
theorem ggX8_spoken_X8_no : GoodIn wsX8_spoken wsX8_no := goodIn_r _ [31, 10, 75, 76, 77, 78, 79, 80, 81, 82, 83, 84, 85, 86, 87, 88, 89, 90, 91, 92, 93, 94, 95, 96, 97, 98, 99, 100, 101, 102, 103, 104, 105, 106, 107, 108, 109, 110, 111, 112, 113, 114] (by decide +kernel) (by decide +kernel)
set_option maxRecDepth 20000 in
theorem gX8_spoken_X8_no : GoodIn wsX8_spoken (wsV RX8 163 RX8 yX8_no wsX8_no) := goodIn_app (goodIn_of _ (by decide +kernel)) ggX8_spoken_X8_no
set_option maxRecDepth 20000 in
theorem ggX8_spoken_X8_begin : GoodIn wsX8_spoken wsX8_begin := goodIn_r _ [35, 36, 1, 37, 38, 39, 7, 40, 16, 41, 42, 43, 44, 45, 46, 75, 76, 77, 78, 79, 80, 81, 82, 83, 84, 85, 86, 87, 88, 89, 90, 91, 92, 93, 94, 95, 96, 97, 98, 99, 100, 101, 102, 103, 104, 105, 106, 107, 108, 109, 110, 111, 112, 113, 114] (by decide +kernel) (by decide +kernel)
set_option maxRecDepth 20000 in
theorem gX8_spoken_X8_begin : GoodIn wsX8_spoken (wsV RX8 270 RX8 yX8_begin wsX8_begin) := goodIn_app (goodIn_of _ (by decide +kernel)) ggX8_spoken_X8_begin
set_option maxRecDepth 20000 in
theorem ggX8_spoken_X8_minuteOn : GoodIn wsX8_spoken wsX8_minuteOn := goodIn_r _ [50, 3, 16, 2, 51, 52, 53, 7, 54, 55, 56, 57, 58, 59, 60, 61, 62, 43, 63, 64, 65, 66, 42, 41, 67, 68, 69, 70, 71, 72, 73, 74, 75, 76, 77, 78, 79, 80, 81, 82, 83, 84, 85, 86, 87, 88, 89, 90, 91, 92, 93, 94, 95, 96, 97, 98, 99, 100, 101, 102, 103, 104, 105, 106, 107, 108, 109, 110, 111, 112, 113, 114] (by decide +kernel) (by decide +kernel)
set_option maxRecDepth 20000 in
theorem gX8_spoken_X8_minuteOn : GoodIn wsX8_spoken (wsV RX8 273 RX8 yX8_minuteOn wsX8_minuteOn) := goodIn_app (goodIn_of _ (by decide +kernel)) ggX8_spoken_X8_minuteOn
set_option maxRecDepth 20000 in
theorem ggX8_windBest_X8_good : GoodIn wsX8_windBest wsX8_good := goodIn_r _ [8, 9, 10, 64, 65, 66, 67, 68, 69, 70, 71, 72, 73, 74, 75, 76, 77, 78, 79, 80, 81, 82, 83, 84, 85, 86, 87, 88, 89, 90, 91, 92, 93, 94, 95, 96, 97, 98, 99, 100, 101, 102, 103] (by decide +kernel) (by decide +kernel)
set_option maxRecDepth 20000 in
theorem gX8_windBest_X8_good : GoodIn wsX8_windBest (wsV RX8 160 RX8 yX8_good wsX8_good) := goodIn_app (goodIn_of _ (by decide +kernel)) ggX8_windBest_X8_good
set_option maxRecDepth 20000 in
theorem ggX8_windBest_X8_no : GoodIn wsX8_windBest wsX8_no := goodIn_r _ [14, 10, 64, 65, 66, 67, 68, 69, 70, 71, 72, 73, 74, 75, 76, 77, 78, 79, 80, 81, 82, 83, 84, 85, 86, 87, 88, 89, 90, 91, 92, 93, 94, 95, 96, 97, 98, 99, 100, 101, 102, 103] (by decide +kernel) (by decide +kernel)
set_option maxRecDepth 20000 in
theorem gX8_windBest_X8_no : GoodIn wsX8_windBest (wsV RX8 163 RX8 yX8_no wsX8_no) := goodIn_app (goodIn_of _ (by decide +kernel)) ggX8_windBest_X8_no
set_option maxRecDepth 20000 in
theorem ggX8_windBest_X8_begin : GoodIn wsX8_windBest wsX8_begin := goodIn_r _ [18, 19, 3, 20, 21, 22, 7, 23, 2, 24, 25, 26, 27, 28, 29, 64, 65, 66, 67, 68, 69, 70, 71, 72, 73, 74, 75, 76, 77, 78, 79, 80, 81, 82, 83, 84, 85, 86, 87, 88, 89, 90, 91, 92, 93, 94, 95, 96, 97, 98, 99, 100, 101, 102, 103] (by decide +kernel) (by decide +kernel)
set_option maxRecDepth 20000 in
theorem gX8_windBest_X8_begin : GoodIn wsX8_windBest (wsV RX8 270 RX8 yX8_begin wsX8_begin) := goodIn_app (goodIn_of _ (by decide +kernel)) ggX8_windBest_X8_begin
set_option maxRecDepth 20000 in
theorem ggX8_windBest_X8_nextGone : GoodIn wsX8_windBest wsX8_nextGone := goodIn_r _ [33, 3, 34, 35, 36, 7, 37, 38, 2, 39, 40, 41, 42, 43, 44, 45, 46, 47, 48, 49, 50, 51, 26, 52, 53, 54, 55, 25, 24, 56, 57, 58, 59, 60, 61, 62, 63, 64, 65, 66, 67, 68, 69, 70, 71, 72, 73, 74, 75, 76, 77, 78, 79, 80, 81, 82, 83, 84, 85, 86, 87, 88, 89, 90, 91, 92, 93, 94, 95, 96, 97, 98, 99, 100, 101, 102, 103] (by decide +kernel) (by decide +kernel)
set_option maxRecDepth 20000 in
theorem gX8_windBest_X8_nextGone : GoodIn wsX8_windBest (wsV RX8 307 RX8 yX8_nextGone wsX8_nextGone) := goodIn_app (goodIn_of _ (by decide +kernel)) ggX8_windBest_X8_nextGone
set_option maxRecDepth 20000 in
theorem ggX8_patrol_X8_good : GoodIn wsX8_patrol wsX8_good := goodIn_r _ [10, 11, 12, 75, 76, 77, 78, 79, 80, 81, 82, 83, 84, 85, 86, 87, 88, 89, 90, 91, 92, 93, 94, 95, 96, 97, 98, 99, 100, 101, 102, 103, 104, 105, 106, 107, 108, 109, 110, 111, 112, 113, 114] (by decide +kernel) (by decide +kernel)
set_option maxRecDepth 20000 in
theorem gX8_patrol_X8_good : GoodIn wsX8_patrol (wsV RX8 160 RX8 yX8_good wsX8_good) := goodIn_app (goodIn_of _ (by decide +kernel)) ggX8_patrol_X8_good
set_option maxRecDepth 20000 in
theorem ggX8_patrol_X8_isWatcher : GoodIn wsX8_patrol wsX8_isWatcher := goodIn_r _ [16, 17, 2, 18, 19, 9, 20, 75, 76, 77, 78, 79, 80, 81, 82, 83, 84, 85, 86, 87, 88, 89, 90, 91, 92, 93, 94, 95, 96, 97, 98, 99, 100, 101, 102, 103, 104, 105, 106, 107, 108, 109, 110, 111, 112, 113, 114] (by decide +kernel) (by decide +kernel)
set_option maxRecDepth 20000 in
theorem gX8_patrol_X8_isWatcher : GoodIn wsX8_patrol (wsV RX8 280 RX8 yX8_isWatcher wsX8_isWatcher) := goodIn_app (goodIn_of _ (by decide +kernel)) ggX8_patrol_X8_isWatcher
set_option maxRecDepth 20000 in
theorem ggX8_patrol_X8_in : GoodIn wsX8_patrol wsX8_in := goodIn_r _ [20] (by decide +kernel) (by decide +kernel)
set_option maxRecDepth 20000 in
theorem gX8_patrol_X8_in : GoodIn wsX8_patrol (va_wsS RX8 142 yX8_in wsX8_in) := goodIn_app (goodIn_of _ (by decide +kernel)) ggX8_patrol_X8_in
set_option maxRecDepth 20000 in
theorem ggX8_patrol_X8_why : GoodIn wsX8_patrol wsX8_why := goodIn_r _ [24] (by decide +kernel) (by decide +kernel)
set_option maxRecDepth 20000 in
theorem gX8_patrol_X8_why : GoodIn wsX8_patrol (wsV RX8 290 RX8 yX8_why wsX8_why) := goodIn_app (goodIn_of _ (by decide +kernel)) ggX8_patrol_X8_why
set_option maxRecDepth 20000 in
theorem ggX8_patrol_X8_no : GoodIn wsX8_patrol wsX8_no := goodIn_r _ [28, 12, 75, 76, 77, 78, 79, 80, 81, 82, 83, 84, 85, 86, 87, 88, 89, 90, 91, 92, 93, 94, 95, 96, 97, 98, 99, 100, 101, 102, 103, 104, 105, 106, 107, 108, 109, 110, 111, 112, 113, 114] (by decide +kernel) (by decide +kernel)
set_option maxRecDepth 20000 in
theorem gX8_patrol_X8_no : GoodIn wsX8_patrol (wsV RX8 163 RX8 yX8_no wsX8_no) := goodIn_app (goodIn_of _ (by decide +kernel)) ggX8_patrol_X8_no
set_option maxRecDepth 20000 in
theorem ggX8_patrol_X8_begin : GoodIn wsX8_patrol wsX8_begin := goodIn_r _ [32, 33, 5, 34, 35, 36, 9, 37, 2, 3, 4, 38, 39, 40, 41, 75, 76, 77, 78, 79, 80, 81, 82, 83, 84, 85, 86, 87, 88, 89, 90, 91, 92, 93, 94, 95, 96, 97, 98, 99, 100, 101, 102, 103, 104, 105, 106, 107, 108, 109, 110, 111, 112, 113, 114] (by decide +kernel) (by decide +kernel)
set_option maxRecDepth 20000 in
theorem gX8_patrol_X8_begin : GoodIn wsX8_patrol (wsV RX8 270 RX8 yX8_begin wsX8_begin) := goodIn_app (goodIn_of _ (by decide +kernel)) ggX8_patrol_X8_begin
set_option maxRecDepth 20000 in
theorem ggX8_patrol_X8_minuteOn : GoodIn wsX8_patrol wsX8_minuteOn := goodIn_r _ [45, 46, 2, 47, 48, 49, 50, 9, 51, 52, 53, 54, 55, 56, 57, 58, 59, 38, 60, 61, 62, 63, 4, 3, 64, 65, 66, 67, 68, 69, 70, 71, 75, 76, 77, 78, 79, 80, 81, 82, 83, 84, 85, 86, 87, 88, 89, 90, 91, 92, 93, 94, 95, 96, 97, 98, 99, 100, 101, 102, 103, 104, 105, 106, 107, 108, 109, 110, 111, 112, 113, 114] (by decide +kernel) (by decide +kernel)
set_option maxRecDepth 20000 in
theorem gX8_patrol_X8_minuteOn : GoodIn wsX8_patrol (wsV RX8 273 RX8 yX8_minuteOn wsX8_minuteOn) := goodIn_app (goodIn_of _ (by decide +kernel)) ggX8_patrol_X8_minuteOn
set_option maxRecDepth 20000 in
theorem ggX8_patrol_X8_ones : GoodIn wsX8_patrol wsX8_ones := goodIn_r _ [74] (by decide +kernel) (by decide +kernel)
set_option maxRecDepth 20000 in
theorem gX8_patrol_X8_ones : GoodIn wsX8_patrol (va_wsS RX8 314 yX8_ones wsX8_ones) := goodIn_app (goodIn_of _ (by decide +kernel)) ggX8_patrol_X8_ones
set_option maxRecDepth 20000 in
theorem ggX8_layRoute_X8_begin : GoodIn wsX8_layRoute wsX8_begin := goodIn_r _ [10, 11, 1, 12, 13, 14, 9, 15, 5, 16, 17, 18, 19, 20, 21, 58, 59, 60, 61, 62, 63, 64, 65, 66, 67, 68, 69, 70, 71, 72, 73, 74, 75, 76, 77, 78, 79, 80, 81, 82, 83, 84, 85, 86, 87, 88, 89, 90, 91, 92, 93, 94, 95, 96, 97] (by decide +kernel) (by decide +kernel)
set_option maxRecDepth 20000 in
theorem gX8_layRoute_X8_begin : GoodIn wsX8_layRoute (wsV RX8 270 RX8 yX8_begin wsX8_begin) := goodIn_app (goodIn_of _ (by decide +kernel)) ggX8_layRoute_X8_begin
set_option maxRecDepth 20000 in
theorem ggX8_layRoute_X8_minuteOn : GoodIn wsX8_layRoute wsX8_minuteOn := goodIn_r _ [25, 26, 5, 27, 3, 28, 29, 9, 30, 31, 32, 33, 34, 35, 36, 37, 38, 18, 39, 40, 41, 42, 17, 16, 43, 44, 45, 46, 47, 48, 49, 50, 58, 59, 60, 61, 62, 63, 64, 65, 66, 67, 68, 69, 70, 71, 72, 73, 74, 75, 76, 77, 78, 79, 80, 81, 82, 83, 84, 85, 86, 87, 88, 89, 90, 91, 92, 93, 94, 95, 96, 97] (by decide +kernel) (by decide +kernel)
set_option maxRecDepth 20000 in
theorem gX8_layRoute_X8_minuteOn : GoodIn wsX8_layRoute (wsV RX8 273 RX8 yX8_minuteOn wsX8_minuteOn) := goodIn_app (goodIn_of _ (by decide +kernel)) ggX8_layRoute_X8_minuteOn
set_option maxRecDepth 20000 in
theorem ggX8_layRoute_X8_bestFrom : GoodIn wsX8_layRoute wsX8_bestFrom := goodIn_r _ [54, 5, 4, 2, 55, 56, 9, 57, 58, 59, 60, 61, 62, 63, 64, 65, 66, 67, 68, 69, 70, 71, 72, 73, 74, 75, 76, 77, 78, 79, 80, 81, 82, 83, 84, 85, 86, 87, 88, 89, 90, 91, 92, 93, 94, 95, 96, 97] (by decide +kernel) (by decide +kernel)
set_option maxRecDepth 20000 in
theorem gX8_layRoute_X8_bestFrom : GoodIn wsX8_layRoute (wsV RX8 317 RX8 yX8_bestFrom wsX8_bestFrom) := goodIn_app (goodIn_of _ (by decide +kernel)) ggX8_layRoute_X8_bestFrom
set_option maxRecDepth 20000 in
theorem ggX8_bestFrom_X8_in : GoodIn wsX8_bestFrom wsX8_in := goodIn_r _ [7] (by decide +kernel) (by decide +kernel)
set_option maxRecDepth 20000 in
theorem gX8_bestFrom_X8_in : GoodIn wsX8_bestFrom (va_wsS RX8 142 yX8_in wsX8_in) := goodIn_app (goodIn_of _ (by decide +kernel)) ggX8_bestFrom_X8_in
set_option maxRecDepth 20000 in
theorem ggX8_routeWhy_X8_isFigure : GoodIn wsX8_routeWhy wsX8_isFigure := goodIn_r _ [5, 6, 7, 8, 9, 4, 10, 15, 16, 17, 18, 19, 20, 21, 22, 23, 24, 25, 26, 27, 28, 29, 30, 31, 32, 33, 34, 35, 36, 37, 38, 39, 40, 41, 42, 43, 44, 45, 46, 47, 48, 49, 50, 51, 52, 53, 54] (by decide +kernel) (by decide +kernel)
set_option maxRecDepth 20000 in
theorem gX8_routeWhy_X8_isFigure : GoodIn wsX8_routeWhy (wsV RX8 277 RX8 yX8_isFigure wsX8_isFigure) := goodIn_app (goodIn_of _ (by decide +kernel)) ggX8_routeWhy_X8_isFigure
set_option maxRecDepth 20000 in
theorem ggX8_routeWhy_X8_in : GoodIn wsX8_routeWhy wsX8_in := goodIn_r _ [10] (by decide +kernel) (by decide +kernel)
set_option maxRecDepth 20000 in
theorem gX8_routeWhy_X8_in : GoodIn wsX8_routeWhy (va_wsS RX8 142 yX8_in wsX8_in) := goodIn_app (goodIn_of _ (by decide +kernel)) ggX8_routeWhy_X8_in
set_option maxRecDepth 20000 in
theorem ggX8_routeWhy_X8_why : GoodIn wsX8_routeWhy wsX8_why := goodIn_r _ [14] (by decide +kernel) (by decide +kernel)
set_option maxRecDepth 20000 in
theorem gX8_routeWhy_X8_why : GoodIn wsX8_routeWhy (wsV RX8 290 RX8 yX8_why wsX8_why) := goodIn_app (goodIn_of _ (by decide +kernel)) ggX8_routeWhy_X8_why
set_option maxRecDepth 20000 in
theorem ggX8_route_X8_good : GoodIn wsX8_route wsX8_good := goodIn_r _ [6, 7, 8, 85, 86, 87, 88, 89, 90, 91, 92, 93, 94, 95, 96, 97, 98, 99, 100, 101, 102, 103, 104, 105, 106, 107, 108, 109, 110, 111, 112, 113, 114, 115, 116, 117, 118, 119, 120, 121, 122, 123, 124] (by decide +kernel) (by decide +kernel)
set_option maxRecDepth 20000 in
theorem gX8_route_X8_good : GoodIn wsX8_route (wsV RX8 160 RX8 yX8_good wsX8_good) := goodIn_app (goodIn_of _ (by decide +kernel)) ggX8_route_X8_good
set_option maxRecDepth 20000 in
theorem ggX8_route_X8_routeWhy : GoodIn wsX8_route wsX8_routeWhy := goodIn_r _ [12, 13, 14, 15, 5, 16, 17, 18, 19, 20, 21, 22, 23, 24, 25, 85, 86, 87, 88, 89, 90, 91, 92, 93, 94, 95, 96, 97, 98, 99, 100, 101, 102, 103, 104, 105, 106, 107, 108, 109, 110, 111, 112, 113, 114, 115, 116, 117, 118, 119, 120, 121, 122, 123, 124] (by decide +kernel) (by decide +kernel)
set_option maxRecDepth 20000 in
theorem gX8_route_X8_routeWhy : GoodIn wsX8_route (wsV RX8 321 RX8 yX8_routeWhy wsX8_routeWhy) := goodIn_app (goodIn_of _ (by decide +kernel)) ggX8_route_X8_routeWhy
set_option maxRecDepth 20000 in
theorem ggX8_route_X8_no : GoodIn wsX8_route wsX8_no := goodIn_r _ [29, 8, 85, 86, 87, 88, 89, 90, 91, 92, 93, 94, 95, 96, 97, 98, 99, 100, 101, 102, 103, 104, 105, 106, 107, 108, 109, 110, 111, 112, 113, 114, 115, 116, 117, 118, 119, 120, 121, 122, 123, 124] (by decide +kernel) (by decide +kernel)
set_option maxRecDepth 20000 in
theorem gX8_route_X8_no : GoodIn wsX8_route (wsV RX8 163 RX8 yX8_no wsX8_no) := goodIn_app (goodIn_of _ (by decide +kernel)) ggX8_route_X8_no
set_option maxRecDepth 20000 in
theorem ggX8_route_X8_layRoute : GoodIn wsX8_route wsX8_layRoute := goodIn_r _ [33, 34, 35, 36, 1, 18, 37, 38, 39, 5, 40, 41, 42, 43, 44, 45, 46, 47, 48, 49, 50, 51, 52, 53, 54, 55, 56, 57, 58, 59, 60, 61, 62, 63, 64, 65, 66, 67, 68, 69, 70, 71, 72, 73, 74, 75, 76, 77, 78, 79, 80, 81, 82, 83, 84, 19, 20, 21, 85, 86, 87, 88, 89, 90, 91, 92, 93, 94, 95, 96, 97, 98, 99, 100, 101, 102, 103, 104, 105, 106, 107, 108, 109, 110, 111, 112, 113, 114, 115, 116, 117, 118, 119, 120, 121, 122, 123, 124] (by decide +kernel) (by decide +kernel)
set_option maxRecDepth 20000 in
theorem gX8_route_X8_layRoute : GoodIn wsX8_route (wsV RX8 324 RX8 yX8_layRoute wsX8_layRoute) := goodIn_app (goodIn_of _ (by decide +kernel)) ggX8_route_X8_layRoute
set_option maxRecDepth 20000 in
theorem ggX8_routeAt_X8_good : GoodIn wsX8_routeAt wsX8_good := goodIn_r _ [5, 6, 7, 85, 86, 87, 88, 89, 90, 91, 92, 93, 94, 95, 96, 97, 98, 99, 100, 101, 102, 103, 104, 105, 106, 107, 108, 109, 110, 111, 112, 113, 114, 115, 116, 117, 118, 119, 120, 121, 122, 123, 124] (by decide +kernel) (by decide +kernel)
set_option maxRecDepth 20000 in
theorem gX8_routeAt_X8_good : GoodIn wsX8_routeAt (wsV RX8 160 RX8 yX8_good wsX8_good) := goodIn_app (goodIn_of _ (by decide +kernel)) ggX8_routeAt_X8_good
set_option maxRecDepth 20000 in
theorem ggX8_routeAt_X8_routeWhy : GoodIn wsX8_routeAt wsX8_routeWhy := goodIn_r _ [11, 12, 13, 14, 4, 15, 16, 17, 18, 19, 20, 21, 22, 23, 24, 85, 86, 87, 88, 89, 90, 91, 92, 93, 94, 95, 96, 97, 98, 99, 100, 101, 102, 103, 104, 105, 106, 107, 108, 109, 110, 111, 112, 113, 114, 115, 116, 117, 118, 119, 120, 121, 122, 123, 124] (by decide +kernel) (by decide +kernel)
set_option maxRecDepth 20000 in
theorem gX8_routeAt_X8_routeWhy : GoodIn wsX8_routeAt (wsV RX8 321 RX8 yX8_routeWhy wsX8_routeWhy) := goodIn_app (goodIn_of _ (by decide +kernel)) ggX8_routeAt_X8_routeWhy
set_option maxRecDepth 20000 in
theorem ggX8_routeAt_X8_in : GoodIn wsX8_routeAt wsX8_in := goodIn_r _ [20] (by decide +kernel) (by decide +kernel)
set_option maxRecDepth 20000 in
theorem gX8_routeAt_X8_in : GoodIn wsX8_routeAt (va_wsS RX8 142 yX8_in wsX8_in) := goodIn_app (goodIn_of _ (by decide +kernel)) ggX8_routeAt_X8_in
set_option maxRecDepth 20000 in
theorem ggX8_routeAt_X8_no : GoodIn wsX8_routeAt wsX8_no := goodIn_r _ [28, 7, 85, 86, 87, 88, 89, 90, 91, 92, 93, 94, 95, 96, 97, 98, 99, 100, 101, 102, 103, 104, 105, 106, 107, 108, 109, 110, 111, 112, 113, 114, 115, 116, 117, 118, 119, 120, 121, 122, 123, 124] (by decide +kernel) (by decide +kernel)
set_option maxRecDepth 20000 in
theorem gX8_routeAt_X8_no : GoodIn wsX8_routeAt (wsV RX8 163 RX8 yX8_no wsX8_no) := goodIn_app (goodIn_of _ (by decide +kernel)) ggX8_routeAt_X8_no
set_option maxRecDepth 20000 in
theorem ggX8_routeAt_X8_layRoute : GoodIn wsX8_routeAt wsX8_layRoute := goodIn_r _ [32, 33, 34, 35, 36, 17, 37, 38, 39, 4, 40, 41, 42, 43, 44, 45, 46, 47, 48, 49, 50, 51, 52, 53, 54, 55, 56, 57, 58, 59, 60, 61, 62, 63, 64, 65, 66, 67, 68, 69, 70, 71, 72, 73, 74, 75, 76, 77, 78, 79, 80, 81, 82, 83, 84, 18, 19, 20, 85, 86, 87, 88, 89, 90, 91, 92, 93, 94, 95, 96, 97, 98, 99, 100, 101, 102, 103, 104, 105, 106, 107, 108, 109, 110, 111, 112, 113, 114, 115, 116, 117, 118, 119, 120, 121, 122, 123, 124] (by decide +kernel) (by decide +kernel)
set_option maxRecDepth 20000 in
theorem gX8_routeAt_X8_layRoute : GoodIn wsX8_routeAt (wsV RX8 324 RX8 yX8_layRoute wsX8_layRoute) := goodIn_app (goodIn_of _ (by decide +kernel)) ggX8_routeAt_X8_layRoute
set_option maxRecDepth 20000 in
theorem ggX8_routeAt_X8_bestFrom : GoodIn wsX8_routeAt wsX8_bestFrom := goodIn_r _ [84, 17, 36, 34, 18, 19, 4, 20, 85, 86, 87, 88, 89, 90, 91, 92, 93, 94, 95, 96, 97, 98, 99, 100, 101, 102, 103, 104, 105, 106, 107, 108, 109, 110, 111, 112, 113, 114, 115, 116, 117, 118, 119, 120, 121, 122, 123, 124] (by decide +kernel) (by decide +kernel)
set_option maxRecDepth 20000 in
theorem gX8_routeAt_X8_bestFrom : GoodIn wsX8_routeAt (wsV RX8 317 RX8 yX8_bestFrom wsX8_bestFrom) := goodIn_app (goodIn_of _ (by decide +kernel)) ggX8_routeAt_X8_bestFrom
set_option maxRecDepth 20000 in
theorem ggX8_stand_X8_good : GoodIn wsX8_stand wsX8_good := goodIn_r _ [8, 9, 10, 77, 78, 79, 80, 81, 82, 83, 84, 85, 86, 87, 88, 89, 90, 91, 92, 93, 94, 95, 96, 97, 98, 99, 100, 101, 102, 103, 104, 105, 106, 107, 108, 109, 110, 111, 112, 113, 114, 115, 116] (by decide +kernel) (by decide +kernel)
set_option maxRecDepth 20000 in
theorem gX8_stand_X8_good : GoodIn wsX8_stand (wsV RX8 160 RX8 yX8_good wsX8_good) := goodIn_app (goodIn_of _ (by decide +kernel)) ggX8_stand_X8_good
set_option maxRecDepth 20000 in
theorem ggX8_stand_X8_in : GoodIn wsX8_stand wsX8_in := goodIn_r _ [13] (by decide +kernel) (by decide +kernel)
set_option maxRecDepth 20000 in
theorem gX8_stand_X8_in : GoodIn wsX8_stand (va_wsS RX8 142 yX8_in wsX8_in) := goodIn_app (goodIn_of _ (by decide +kernel)) ggX8_stand_X8_in
set_option maxRecDepth 20000 in
theorem ggX8_stand_X8_why : GoodIn wsX8_stand wsX8_why := goodIn_r _ [17] (by decide +kernel) (by decide +kernel)
set_option maxRecDepth 20000 in
theorem gX8_stand_X8_why : GoodIn wsX8_stand (wsV RX8 290 RX8 yX8_why wsX8_why) := goodIn_app (goodIn_of _ (by decide +kernel)) ggX8_stand_X8_why
set_option maxRecDepth 20000 in
theorem ggX8_stand_X8_no : GoodIn wsX8_stand wsX8_no := goodIn_r _ [21, 10, 77, 78, 79, 80, 81, 82, 83, 84, 85, 86, 87, 88, 89, 90, 91, 92, 93, 94, 95, 96, 97, 98, 99, 100, 101, 102, 103, 104, 105, 106, 107, 108, 109, 110, 111, 112, 113, 114, 115, 116] (by decide +kernel) (by decide +kernel)
set_option maxRecDepth 20000 in
theorem gX8_stand_X8_no : GoodIn wsX8_stand (wsV RX8 163 RX8 yX8_no wsX8_no) := goodIn_app (goodIn_of _ (by decide +kernel)) ggX8_stand_X8_no
set_option maxRecDepth 20000 in
theorem ggX8_stand_X8_layRoute : GoodIn wsX8_stand wsX8_layRoute := goodIn_r _ [25, 26, 27, 28, 3, 2, 29, 30, 31, 7, 32, 33, 34, 35, 36, 37, 38, 39, 40, 41, 42, 43, 44, 45, 46, 47, 48, 49, 50, 51, 52, 53, 54, 55, 56, 57, 58, 59, 60, 61, 62, 63, 64, 65, 66, 67, 68, 69, 70, 71, 72, 73, 74, 75, 76, 11, 12, 13, 77, 78, 79, 80, 81, 82, 83, 84, 85, 86, 87, 88, 89, 90, 91, 92, 93, 94, 95, 96, 97, 98, 99, 100, 101, 102, 103, 104, 105, 106, 107, 108, 109, 110, 111, 112, 113, 114, 115, 116] (by decide +kernel) (by decide +kernel)
set_option maxRecDepth 20000 in
theorem gX8_stand_X8_layRoute : GoodIn wsX8_stand (wsV RX8 324 RX8 yX8_layRoute wsX8_layRoute) := goodIn_app (goodIn_of _ (by decide +kernel)) ggX8_stand_X8_layRoute
set_option maxRecDepth 20000 in
theorem ggX8_guard_X8_good : GoodIn wsX8_guard wsX8_good := goodIn_r _ [10, 11, 12, 70, 71, 72, 73, 74, 75, 76, 77, 78, 79, 80, 81, 82, 83, 84, 85, 86, 87, 88, 89, 90, 91, 92, 93, 94, 95, 96, 97, 98, 99, 100, 101, 102, 103, 104, 105, 106, 107, 108, 109] (by decide +kernel) (by decide +kernel)
set_option maxRecDepth 20000 in
theorem gX8_guard_X8_good : GoodIn wsX8_guard (wsV RX8 160 RX8 yX8_good wsX8_good) := goodIn_app (goodIn_of _ (by decide +kernel)) ggX8_guard_X8_good
set_option maxRecDepth 20000 in
theorem ggX8_guard_X8_in : GoodIn wsX8_guard wsX8_in := goodIn_r _ [15] (by decide +kernel) (by decide +kernel)
set_option maxRecDepth 20000 in
theorem gX8_guard_X8_in : GoodIn wsX8_guard (va_wsS RX8 142 yX8_in wsX8_in) := goodIn_app (goodIn_of _ (by decide +kernel)) ggX8_guard_X8_in
set_option maxRecDepth 20000 in
theorem ggX8_guard_X8_why : GoodIn wsX8_guard wsX8_why := goodIn_r _ [19] (by decide +kernel) (by decide +kernel)
set_option maxRecDepth 20000 in
theorem gX8_guard_X8_why : GoodIn wsX8_guard (wsV RX8 290 RX8 yX8_why wsX8_why) := goodIn_app (goodIn_of _ (by decide +kernel)) ggX8_guard_X8_why
set_option maxRecDepth 20000 in
theorem ggX8_guard_X8_no : GoodIn wsX8_guard wsX8_no := goodIn_r _ [23, 12, 70, 71, 72, 73, 74, 75, 76, 77, 78, 79, 80, 81, 82, 83, 84, 85, 86, 87, 88, 89, 90, 91, 92, 93, 94, 95, 96, 97, 98, 99, 100, 101, 102, 103, 104, 105, 106, 107, 108, 109] (by decide +kernel) (by decide +kernel)
set_option maxRecDepth 20000 in
theorem gX8_guard_X8_no : GoodIn wsX8_guard (wsV RX8 163 RX8 yX8_no wsX8_no) := goodIn_app (goodIn_of _ (by decide +kernel)) ggX8_guard_X8_no
set_option maxRecDepth 20000 in
theorem ggX8_guard_X8_ones : GoodIn wsX8_guard wsX8_ones := goodIn_r _ [26] (by decide +kernel) (by decide +kernel)
set_option maxRecDepth 20000 in
theorem gX8_guard_X8_ones : GoodIn wsX8_guard (va_wsS RX8 314 yX8_ones wsX8_ones) := goodIn_app (goodIn_of _ (by decide +kernel)) ggX8_guard_X8_ones
set_option maxRecDepth 20000 in
theorem ggX8_guard_X8_begin : GoodIn wsX8_guard wsX8_begin := goodIn_r _ [30, 5, 4, 31, 32, 33, 9, 34, 2, 35, 36, 3, 37, 38, 39, 70, 71, 72, 73, 74, 75, 76, 77, 78, 79, 80, 81, 82, 83, 84, 85, 86, 87, 88, 89, 90, 91, 92, 93, 94, 95, 96, 97, 98, 99, 100, 101, 102, 103, 104, 105, 106, 107, 108, 109] (by decide +kernel) (by decide +kernel)
set_option maxRecDepth 20000 in
theorem gX8_guard_X8_begin : GoodIn wsX8_guard (wsV RX8 270 RX8 yX8_begin wsX8_begin) := goodIn_app (goodIn_of _ (by decide +kernel)) ggX8_guard_X8_begin
set_option maxRecDepth 20000 in
theorem ggX8_guard_X8_minuteOn : GoodIn wsX8_guard wsX8_minuteOn := goodIn_r _ [43, 44, 2, 45, 46, 47, 48, 9, 49, 50, 51, 52, 53, 54, 55, 56, 57, 3, 58, 59, 60, 61, 36, 35, 62, 63, 64, 65, 66, 67, 68, 69, 70, 71, 72, 73, 74, 75, 76, 77, 78, 79, 80, 81, 82, 83, 84, 85, 86, 87, 88, 89, 90, 91, 92, 93, 94, 95, 96, 97, 98, 99, 100, 101, 102, 103, 104, 105, 106, 107, 108, 109] (by decide +kernel) (by decide +kernel)
set_option maxRecDepth 20000 in
theorem gX8_guard_X8_minuteOn : GoodIn wsX8_guard (wsV RX8 273 RX8 yX8_minuteOn wsX8_minuteOn) := goodIn_app (goodIn_of _ (by decide +kernel)) ggX8_guard_X8_minuteOn
set_option maxRecDepth 20000 in
theorem ggX8_byCode_X8_turnBy : GoodIn wsX8_byCode wsX8_turnBy := goodIn_r _ [6, 7, 1, 8, 9, 10, 11, 12, 13, 14, 15, 16, 17, 18, 19, 20, 21, 22, 23, 24, 25, 26, 27, 28, 29, 30, 31, 32, 33, 34, 35, 36, 37, 38, 39, 40, 41, 42, 43, 44, 45, 46, 47] (by decide +kernel) (by decide +kernel)
set_option maxRecDepth 20000 in
theorem gX8_byCode_X8_turnBy : GoodIn wsX8_byCode (wsV RX8 327 RX8 yX8_turnBy wsX8_turnBy) := goodIn_app (goodIn_of _ (by decide +kernel)) ggX8_byCode_X8_turnBy
set_option maxRecDepth 20000 in
theorem ggX8_doesFit_X8_byCode : GoodIn wsX8_doesFit wsX8_byCode := goodIn_r _ [6, 1, 7, 8, 9, 5, 10, 11, 12, 13, 14, 15, 16, 17, 18, 19, 20, 21, 22, 23, 24, 25, 26, 27, 28, 29, 30, 31, 32, 33, 34, 35, 36, 37, 38, 39, 40, 41, 42, 43, 44, 45, 46, 47, 48, 49, 50, 51] (by decide +kernel) (by decide +kernel)
set_option maxRecDepth 20000 in
theorem gX8_doesFit_X8_byCode : GoodIn wsX8_doesFit (wsV RX8 331 RX8 yX8_byCode wsX8_byCode) := goodIn_app (goodIn_of _ (by decide +kernel)) ggX8_doesFit_X8_byCode
set_option maxRecDepth 20000 in
theorem ggX8_fits_X8_good : GoodIn wsX8_fits wsX8_good := goodIn_r _ [6, 7, 8, 31, 32, 33, 34, 35, 36, 37, 38, 39, 40, 41, 42, 43, 44, 45, 46, 47, 48, 49, 50, 51, 52, 53, 54, 55, 56, 57, 58, 59, 60, 61, 62, 63, 64, 65, 66, 67, 68, 69, 70] (by decide +kernel) (by decide +kernel)
set_option maxRecDepth 20000 in
theorem gX8_fits_X8_good : GoodIn wsX8_fits (wsV RX8 160 RX8 yX8_good wsX8_good) := goodIn_app (goodIn_of _ (by decide +kernel)) ggX8_fits_X8_good
set_option maxRecDepth 20000 in
theorem ggX8_fits_X8_no : GoodIn wsX8_fits wsX8_no := goodIn_r _ [12, 8, 31, 32, 33, 34, 35, 36, 37, 38, 39, 40, 41, 42, 43, 44, 45, 46, 47, 48, 49, 50, 51, 52, 53, 54, 55, 56, 57, 58, 59, 60, 61, 62, 63, 64, 65, 66, 67, 68, 69, 70] (by decide +kernel) (by decide +kernel)
set_option maxRecDepth 20000 in
theorem gX8_fits_X8_no : GoodIn wsX8_fits (wsV RX8 163 RX8 yX8_no wsX8_no) := goodIn_app (goodIn_of _ (by decide +kernel)) ggX8_fits_X8_no
