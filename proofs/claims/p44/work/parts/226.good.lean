set_option maxRecDepth 20000 in
theorem gX8_begin_X8_watchAsTold : GoodIn wsX8_begin (wsV RX8 267 RX8 yX8_watchAsTold wsX8_watchAsTold) := goodIn_r _ [3, 4, 5, 6, 7, 8, 9, 10, 11, 15, 16, 17, 18, 19, 20, 21, 22, 23, 24, 25, 26, 27, 28, 29, 30, 31, 32, 33, 34, 35, 36, 37, 38, 39, 40, 41, 42, 43, 44, 45, 46, 47, 48, 49, 50, 51, 52, 53, 54] rfl (by decide +kernel)
set_option maxRecDepth 20000 in
theorem gX8_begin_X8_copy : GoodIn wsX8_begin (va_wsS RX8 169 yX8_copy wsX8_copy) := goodIn_r _ [12, 13, 6, 14] rfl (by decide +kernel)
set_option maxRecDepth 20000 in
theorem gX8_minutesOn_X8_begin : GoodIn wsX8_minutesOn (wsV RX8 270 RX8 yX8_begin wsX8_begin) := goodIn_r _ [2, 3, 4, 5, 6, 7, 1, 8, 9, 10, 5, 11, 12, 13, 14, 15, 16, 17, 18, 49, 50, 51, 52, 53, 54, 55, 56, 57, 58, 59, 60, 61, 62, 63, 64, 65, 66, 67, 68, 69, 70, 71, 72, 73, 74, 75, 76, 77, 78, 79, 80, 81, 82, 83, 84, 85, 86, 87, 88] rfl (by decide +kernel)
set_option maxRecDepth 20000 in
theorem gX8_minutesOn_X8_minuteOn : GoodIn wsX8_minutesOn (wsV RX8 273 RX8 yX8_minuteOn wsX8_minuteOn) := goodIn_r _ [19, 20, 21, 5, 22, 23, 12, 24, 25, 26, 27, 5, 28, 29, 30, 31, 32, 33, 34, 35, 36, 15, 37, 38, 39, 40, 14, 13, 41, 42, 43, 44, 45, 46, 47, 48, 49, 50, 51, 52, 53, 54, 55, 56, 57, 58, 59, 60, 61, 62, 63, 64, 65, 66, 67, 68, 69, 70, 71, 72, 73, 74, 75, 76, 77, 78, 79, 80, 81, 82, 83, 84, 85, 86, 87, 88] rfl (by decide +kernel)
set_option maxRecDepth 20000 in
theorem gX8_figure_X8_good : GoodIn wsX8_figure (wsV RX8 160 RX8 yX8_good wsX8_good) := goodIn_r _ [3, 4, 5, 6, 7, 8, 9, 22, 23, 24, 25, 26, 27, 28, 29, 30, 31, 32, 33, 34, 35, 36, 37, 38, 39, 40, 41, 42, 43, 44, 45, 46, 47, 48, 49, 50, 51, 52, 53, 54, 55, 56, 57, 58, 59, 60, 61] rfl (by decide +kernel)
set_option maxRecDepth 20000 in
theorem gX8_figure_X8_isFigure : GoodIn wsX8_figure (wsV RX8 277 RX8 yX8_isFigure wsX8_isFigure) := goodIn_r _ [10, 11, 12, 6, 13, 14, 1, 15, 16, 6, 17, 22, 23, 24, 25, 26, 27, 28, 29, 30, 31, 32, 33, 34, 35, 36, 37, 38, 39, 40, 41, 42, 43, 44, 45, 46, 47, 48, 49, 50, 51, 52, 53, 54, 55, 56, 57, 58, 59, 60, 61] rfl (by decide +kernel)
set_option maxRecDepth 20000 in
theorem gX8_figure_X8_in : GoodIn wsX8_figure (va_wsS RX8 142 yX8_in wsX8_in) := goodIn_r _ [15, 16, 6, 17] rfl (by decide +kernel)
set_option maxRecDepth 20000 in
theorem gX8_figure_X8_no : GoodIn wsX8_figure (wsV RX8 163 RX8 yX8_no wsX8_no) := goodIn_r _ [18, 19, 20, 6, 21, 9, 22, 23, 24, 25, 26, 27, 28, 29, 30, 31, 32, 33, 34, 35, 36, 37, 38, 39, 40, 41, 42, 43, 44, 45, 46, 47, 48, 49, 50, 51, 52, 53, 54, 55, 56, 57, 58, 59, 60, 61] rfl (by decide +kernel)
set_option maxRecDepth 20000 in
theorem gX8_watcher_X8_good : GoodIn wsX8_watcher (wsV RX8 160 RX8 yX8_good wsX8_good) := goodIn_r _ [3, 4, 5, 6, 7, 8, 9, 33, 34, 35, 36, 37, 38, 39, 40, 41, 42, 43, 44, 45, 46, 47, 48, 49, 50, 51, 52, 53, 54, 55, 56, 57, 58, 59, 60, 61, 62, 63, 64, 65, 66, 67, 68, 69, 70, 71, 72] rfl (by decide +kernel)
set_option maxRecDepth 20000 in
theorem gX8_watcher_X8_isWatcher : GoodIn wsX8_watcher (wsV RX8 280 RX8 yX8_isWatcher wsX8_isWatcher) := goodIn_r _ [10, 11, 12, 6, 13, 14, 1, 15, 16, 6, 17, 33, 34, 35, 36, 37, 38, 39, 40, 41, 42, 43, 44, 45, 46, 47, 48, 49, 50, 51, 52, 53, 54, 55, 56, 57, 58, 59, 60, 61, 62, 63, 64, 65, 66, 67, 68, 69, 70, 71, 72] rfl (by decide +kernel)
set_option maxRecDepth 20000 in
theorem gX8_watcher_X8_in : GoodIn wsX8_watcher (va_wsS RX8 142 yX8_in wsX8_in) := goodIn_r _ [15, 16, 6, 17] rfl (by decide +kernel)
set_option maxRecDepth 20000 in
theorem gX8_watcher_X8_no : GoodIn wsX8_watcher (wsV RX8 163 RX8 yX8_no wsX8_no) := goodIn_r _ [18, 19, 20, 6, 21, 9, 33, 34, 35, 36, 37, 38, 39, 40, 41, 42, 43, 44, 45, 46, 47, 48, 49, 50, 51, 52, 53, 54, 55, 56, 57, 58, 59, 60, 61, 62, 63, 64, 65, 66, 67, 68, 69, 70, 71, 72] rfl (by decide +kernel)
set_option maxRecDepth 20000 in
theorem gX8_watcher_X8_watchAsTold : GoodIn wsX8_watcher (wsV RX8 267 RX8 yX8_watchAsTold wsX8_watchAsTold) := goodIn_r _ [22, 23, 24, 6, 25, 1, 26, 27, 28, 33, 34, 35, 36, 37, 38, 39, 40, 41, 42, 43, 44, 45, 46, 47, 48, 49, 50, 51, 52, 53, 54, 55, 56, 57, 58, 59, 60, 61, 62, 63, 64, 65, 66, 67, 68, 69, 70, 71, 72] rfl (by decide +kernel)
set_option maxRecDepth 20000 in
theorem gX8_watcher_X8_watcherAt : GoodIn wsX8_watcher (wsV RX8 242 RX8 yX8_watcherAt wsX8_watcherAt) := goodIn_r _ [29, 30, 31, 6, 32, 27, 26, 33, 34, 35, 36, 37, 38, 39, 40, 41, 42, 43, 44, 45, 46, 47, 48, 49, 50, 51, 52, 53, 54, 55, 56, 57, 58, 59, 60, 61, 62, 63, 64, 65, 66, 67, 68, 69, 70, 71, 72] rfl (by decide +kernel)
set_option maxRecDepth 20000 in
theorem gX8_alive_X8_good : GoodIn wsX8_alive (wsV RX8 160 RX8 yX8_good wsX8_good) := goodIn_r _ [3, 4, 5, 6, 7, 8, 9, 14, 15, 16, 17, 18, 19, 20, 21, 22, 23, 24, 25, 26, 27, 28, 29, 30, 31, 32, 33, 34, 35, 36, 37, 38, 39, 40, 41, 42, 43, 44, 45, 46, 47, 48, 49, 50, 51, 52, 53] rfl (by decide +kernel)
set_option maxRecDepth 20000 in
theorem gX8_alive_X8_no : GoodIn wsX8_alive (wsV RX8 163 RX8 yX8_no wsX8_no) := goodIn_r _ [10, 11, 12, 6, 13, 9, 14, 15, 16, 17, 18, 19, 20, 21, 22, 23, 24, 25, 26, 27, 28, 29, 30, 31, 32, 33, 34, 35, 36, 37, 38, 39, 40, 41, 42, 43, 44, 45, 46, 47, 48, 49, 50, 51, 52, 53] rfl (by decide +kernel)
set_option maxRecDepth 20000 in
theorem gX8_left_X8_good : GoodIn wsX8_left (wsV RX8 160 RX8 yX8_good wsX8_good) := goodIn_r _ [4, 5, 6, 7, 8, 9, 10, 15, 16, 17, 18, 19, 20, 21, 22, 23, 24, 25, 26, 27, 28, 29, 30, 31, 32, 33, 34, 35, 36, 37, 38, 39, 40, 41, 42, 43, 44, 45, 46, 47, 48, 49, 50, 51, 52, 53, 54] rfl (by decide +kernel)
set_option maxRecDepth 20000 in
theorem gX8_left_X8_no : GoodIn wsX8_left (wsV RX8 163 RX8 yX8_no wsX8_no) := goodIn_r _ [11, 12, 13, 7, 14, 10, 15, 16, 17, 18, 19, 20, 21, 22, 23, 24, 25, 26, 27, 28, 29, 30, 31, 32, 33, 34, 35, 36, 37, 38, 39, 40, 41, 42, 43, 44, 45, 46, 47, 48, 49, 50, 51, 52, 53, 54] rfl (by decide +kernel)
set_option maxRecDepth 20000 in
theorem gX8_caught_X8_good : GoodIn wsX8_caught (wsV RX8 160 RX8 yX8_good wsX8_good) := goodIn_r _ [3, 4, 5, 6, 7, 8, 9, 14, 15, 16, 17, 18, 19, 20, 21, 22, 23, 24, 25, 26, 27, 28, 29, 30, 31, 32, 33, 34, 35, 36, 37, 38, 39, 40, 41, 42, 43, 44, 45, 46, 47, 48, 49, 50, 51, 52, 53] rfl (by decide +kernel)
set_option maxRecDepth 20000 in
theorem gX8_caught_X8_no : GoodIn wsX8_caught (wsV RX8 163 RX8 yX8_no wsX8_no) := goodIn_r _ [10, 11, 12, 6, 13, 9, 14, 15, 16, 17, 18, 19, 20, 21, 22, 23, 24, 25, 26, 27, 28, 29, 30, 31, 32, 33, 34, 35, 36, 37, 38, 39, 40, 41, 42, 43, 44, 45, 46, 47, 48, 49, 50, 51, 52, 53] rfl (by decide +kernel)
set_option maxRecDepth 20000 in
theorem gX8_goRound_X8_nextOf : GoodIn wsX8_goRound (wsV RX8 264 RX8 yX8_nextOf wsX8_nextOf) := goodIn_r _ [5, 6, 7, 8, 9, 10, 11, 12, 13, 14, 15, 16, 17, 18, 19, 20, 21, 22, 23, 24, 25, 26, 27, 28, 29, 30, 31, 32, 33, 34, 35, 36, 37, 38, 39, 40, 41, 42, 43, 44, 45, 46, 47, 48, 49, 50] rfl (by decide +kernel)
set_option maxRecDepth 20000 in
theorem gX8_turnOf_X8_good : GoodIn wsX8_turnOf (wsV RX8 160 RX8 yX8_good wsX8_good) := goodIn_r _ [3, 4, 5, 6, 7, 8, 9, 38, 39, 40, 41, 42, 43, 44, 45, 46, 47, 48, 49, 50, 51, 52, 53, 54, 55, 56, 57, 58, 59, 60, 61, 62, 63, 64, 65, 66, 67, 68, 69, 70, 71, 72, 73, 74, 75, 76, 77] rfl (by decide +kernel)
set_option maxRecDepth 20000 in
theorem gX8_turnOf_X8_in : GoodIn wsX8_turnOf (va_wsS RX8 142 yX8_in wsX8_in) := goodIn_r _ [10, 11, 6, 12] rfl (by decide +kernel)
set_option maxRecDepth 20000 in
theorem gX8_turnOf_X8_why : GoodIn wsX8_turnOf (wsV RX8 290 RX8 yX8_why wsX8_why) := goodIn_r _ [13, 14, 15, 6, 16] rfl (by decide +kernel)
set_option maxRecDepth 20000 in
theorem gX8_turnOf_X8_no : GoodIn wsX8_turnOf (wsV RX8 163 RX8 yX8_no wsX8_no) := goodIn_r _ [17, 18, 19, 6, 20, 9, 38, 39, 40, 41, 42, 43, 44, 45, 46, 47, 48, 49, 50, 51, 52, 53, 54, 55, 56, 57, 58, 59, 60, 61, 62, 63, 64, 65, 66, 67, 68, 69, 70, 71, 72, 73, 74, 75, 76, 77] rfl (by decide +kernel)
set_option maxRecDepth 20000 in
theorem gX8_turnOf_X8_goRound : GoodIn wsX8_turnOf (wsV RX8 294 RX8 yX8_goRound wsX8_goRound) := goodIn_r _ [21, 22, 23, 6, 24, 25, 26, 27, 28, 29, 30, 31, 6, 32, 33, 38, 39, 40, 41, 42, 43, 44, 45, 46, 47, 48, 49, 50, 51, 52, 53, 54, 55, 56, 57, 58, 59, 60, 61, 62, 63, 64, 65, 66, 67, 68, 69, 70, 71, 72, 73, 74, 75, 76, 77] rfl (by decide +kernel)
set_option maxRecDepth 20000 in
theorem gX8_turnOf_X8_turnAt : GoodIn wsX8_turnOf (wsV RX8 297 RX8 yX8_turnAt wsX8_turnAt) := goodIn_r _ [34, 35, 36, 6, 37, 27, 26, 28, 38, 39, 40, 41, 42, 43, 44, 45, 46, 47, 48, 49, 50, 51, 52, 53, 54, 55, 56, 57, 58, 59, 60, 61, 62, 63, 64, 65, 66, 67, 68, 69, 70, 71, 72, 73, 74, 75, 76, 77] rfl (by decide +kernel)
set_option maxRecDepth 20000 in
theorem gX8_turnIn_X8_good : GoodIn wsX8_turnIn (wsV RX8 160 RX8 yX8_good wsX8_good) := goodIn_r _ [4, 5, 6, 7, 8, 9, 10, 33, 34, 35, 36, 37, 38, 39, 40, 41, 42, 43, 44, 45, 46, 47, 48, 49, 50, 51, 52, 53, 54, 55, 56, 57, 58, 59, 60, 61, 62, 63, 64, 65, 66, 67, 68, 69, 70, 71, 72] rfl (by decide +kernel)
set_option maxRecDepth 20000 in
theorem gX8_turnIn_X8_isFigure : GoodIn wsX8_turnIn (wsV RX8 277 RX8 yX8_isFigure wsX8_isFigure) := goodIn_r _ [11, 12, 13, 7, 14, 15, 16, 17, 18, 7, 19, 33, 34, 35, 36, 37, 38, 39, 40, 41, 42, 43, 44, 45, 46, 47, 48, 49, 50, 51, 52, 53, 54, 55, 56, 57, 58, 59, 60, 61, 62, 63, 64, 65, 66, 67, 68, 69, 70, 71, 72] rfl (by decide +kernel)
set_option maxRecDepth 20000 in
theorem gX8_turnIn_X8_no : GoodIn wsX8_turnIn (wsV RX8 163 RX8 yX8_no wsX8_no) := goodIn_r _ [20, 21, 22, 7, 23, 10, 33, 34, 35, 36, 37, 38, 39, 40, 41, 42, 43, 44, 45, 46, 47, 48, 49, 50, 51, 52, 53, 54, 55, 56, 57, 58, 59, 60, 61, 62, 63, 64, 65, 66, 67, 68, 69, 70, 71, 72] rfl (by decide +kernel)
