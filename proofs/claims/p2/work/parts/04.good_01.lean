set_option maxRecDepth 20000 in
theorem ggX7_left_X7_refused : GoodIn wsX7_left wsX7_refused := goodIn_r _ [14, 15, 20, 21, 22, 23, 24, 25, 26, 27, 28, 29, 30] (by decide +kernel) (by decide +kernel)
set_option maxRecDepth 20000 in
theorem gX7_left_X7_refused : GoodIn wsX7_left (wsV RX7 82 RX7 yX7_refused wsX7_refused) := goodIn_app (goodIn_of _ (by decide +kernel)) ggX7_left_X7_refused
set_option maxRecDepth 20000 in
theorem ggX7_left_X7_answered : GoodIn wsX7_left wsX7_answered := goodIn_r _ [19, 15, 20, 21, 22, 23, 24, 25, 26, 27, 28, 29, 30] (by decide +kernel) (by decide +kernel)
set_option maxRecDepth 20000 in
theorem gX7_left_X7_answered : GoodIn wsX7_left (wsV RX7 113 RX7 yX7_answered wsX7_answered) := goodIn_app (goodIn_of _ (by decide +kernel)) ggX7_left_X7_answered
set_option maxRecDepth 20000 in
theorem ggX7_caught_X7_hasGallery : GoodIn wsX7_caught wsX7_hasGallery := goodIn_r _ [7, 8, 9, 19, 20, 21, 22, 23, 24, 25, 26, 27, 28, 29, 37, 38, 39, 40, 41, 42, 43, 44, 45, 46, 47, 48, 49, 50, 51] (by decide +kernel) (by decide +kernel)
set_option maxRecDepth 20000 in
theorem gX7_caught_X7_hasGallery : GoodIn wsX7_caught (wsV RX7 154 RX7 yX7_hasGallery wsX7_hasGallery) := goodIn_app (goodIn_of _ (by decide +kernel)) ggX7_caught_X7_hasGallery
set_option maxRecDepth 20000 in
theorem ggX7_caught_X7_refused : GoodIn wsX7_caught wsX7_refused := goodIn_r _ [13, 14, 19, 20, 21, 22, 23, 24, 25, 26, 27, 28, 29] (by decide +kernel) (by decide +kernel)
set_option maxRecDepth 20000 in
theorem gX7_caught_X7_refused : GoodIn wsX7_caught (wsV RX7 82 RX7 yX7_refused wsX7_refused) := goodIn_app (goodIn_of _ (by decide +kernel)) ggX7_caught_X7_refused
set_option maxRecDepth 20000 in
theorem ggX7_caught_X7_answered : GoodIn wsX7_caught wsX7_answered := goodIn_r _ [18, 14, 19, 20, 21, 22, 23, 24, 25, 26, 27, 28, 29] (by decide +kernel) (by decide +kernel)
set_option maxRecDepth 20000 in
theorem gX7_caught_X7_answered : GoodIn wsX7_caught (wsV RX7 113 RX7 yX7_answered wsX7_answered) := goodIn_app (goodIn_of _ (by decide +kernel)) ggX7_caught_X7_answered
set_option maxRecDepth 20000 in
theorem ggX7_turnOf_X7_hasGallery : GoodIn wsX7_turnOf wsX7_hasGallery := goodIn_r _ [6, 7, 8, 32, 33, 34, 35, 36, 37, 38, 39, 40, 41, 42, 43, 44, 45, 46, 47, 48, 49, 50, 51, 52, 53, 54, 55, 56, 57] (by decide +kernel) (by decide +kernel)
set_option maxRecDepth 20000 in
theorem gX7_turnOf_X7_hasGallery : GoodIn wsX7_turnOf (wsV RX7 154 RX7 yX7_hasGallery wsX7_hasGallery) := goodIn_app (goodIn_of _ (by decide +kernel)) ggX7_turnOf_X7_hasGallery
set_option maxRecDepth 20000 in
theorem ggX7_turnOf_X7_refused : GoodIn wsX7_turnOf wsX7_refused := goodIn_r _ [12, 13, 32, 33, 34, 35, 36, 37, 38, 39, 40, 41, 42] (by decide +kernel) (by decide +kernel)
set_option maxRecDepth 20000 in
theorem gX7_turnOf_X7_refused : GoodIn wsX7_turnOf (wsV RX7 82 RX7 yX7_refused wsX7_refused) := goodIn_app (goodIn_of _ (by decide +kernel)) ggX7_turnOf_X7_refused
set_option maxRecDepth 20000 in
theorem ggX7_turnOf_X7_within : GoodIn wsX7_turnOf wsX7_within := goodIn_r _ [16] (by decide +kernel) (by decide +kernel)
set_option maxRecDepth 20000 in
theorem gX7_turnOf_X7_within : GoodIn wsX7_turnOf (va_wsS RX7 78 yX7_within wsX7_within) := goodIn_app (goodIn_of _ (by decide +kernel)) ggX7_turnOf_X7_within
set_option maxRecDepth 20000 in
theorem ggX7_turnOf_X7_turnFromNow : GoodIn wsX7_turnOf wsX7_turnFromNow := goodIn_r _ [20, 7, 8, 21, 22, 23, 24, 25, 26, 5, 27, 32, 33, 34, 35, 36, 37, 38, 39, 40, 41, 42, 43, 44, 45, 46, 47, 48, 49, 50, 51, 52, 53, 54, 55, 56, 57, 58, 59, 60, 61, 62, 63, 64] (by decide +kernel) (by decide +kernel)
set_option maxRecDepth 20000 in
theorem gX7_turnOf_X7_turnFromNow : GoodIn wsX7_turnOf (wsV RX7 171 RX7 yX7_turnFromNow wsX7_turnFromNow) := goodIn_app (goodIn_of _ (by decide +kernel)) ggX7_turnOf_X7_turnFromNow
set_option maxRecDepth 20000 in
theorem ggX7_turnOf_X7_answered : GoodIn wsX7_turnOf wsX7_answered := goodIn_r _ [31, 13, 32, 33, 34, 35, 36, 37, 38, 39, 40, 41, 42] (by decide +kernel) (by decide +kernel)
set_option maxRecDepth 20000 in
theorem gX7_turnOf_X7_answered : GoodIn wsX7_turnOf (wsV RX7 113 RX7 yX7_answered wsX7_answered) := goodIn_app (goodIn_of _ (by decide +kernel)) ggX7_turnOf_X7_answered
set_option maxRecDepth 20000 in
theorem ggX7_turnIn_X7_isFigure : GoodIn wsX7_turnIn wsX7_isFigure := goodIn_r _ [9, 3, 4, 10, 11, 8, 12, 30, 31, 32, 33, 34, 35, 36, 37, 38, 39, 40, 48, 49, 50, 51, 52, 53, 54, 55, 56, 57, 58, 59, 60, 61, 62] (by decide +kernel) (by decide +kernel)
set_option maxRecDepth 20000 in
theorem gX7_turnIn_X7_isFigure : GoodIn wsX7_turnIn (wsV RX7 116 RX7 yX7_isFigure wsX7_isFigure) := goodIn_app (goodIn_of _ (by decide +kernel)) ggX7_turnIn_X7_isFigure
set_option maxRecDepth 20000 in
theorem ggX7_turnIn_X7_refused : GoodIn wsX7_turnIn wsX7_refused := goodIn_r _ [16, 17, 30, 31, 32, 33, 34, 35, 36, 37, 38, 39, 40] (by decide +kernel) (by decide +kernel)
set_option maxRecDepth 20000 in
theorem gX7_turnIn_X7_refused : GoodIn wsX7_turnIn (wsV RX7 82 RX7 yX7_refused wsX7_refused) := goodIn_app (goodIn_of _ (by decide +kernel)) ggX7_turnIn_X7_refused
set_option maxRecDepth 20000 in
theorem ggX7_turnIn_X7_answered : GoodIn wsX7_turnIn wsX7_answered := goodIn_r _ [21, 17, 30, 31, 32, 33, 34, 35, 36, 37, 38, 39, 40] (by decide +kernel) (by decide +kernel)
set_option maxRecDepth 20000 in
theorem gX7_turnIn_X7_answered : GoodIn wsX7_turnIn (wsV RX7 113 RX7 yX7_answered wsX7_answered) := goodIn_app (goodIn_of _ (by decide +kernel)) ggX7_turnIn_X7_answered
set_option maxRecDepth 20000 in
theorem ggX7_turnIn_X0_next : GoodIn wsX7_turnIn wsX0_next := goodIn_r _ [26, 27, 28, 29, 48, 49, 50, 51, 52, 53, 54, 55, 56, 57, 58, 59, 60, 61, 62] (by decide +kernel) (by decide +kernel)
set_option maxRecDepth 20000 in
theorem gX7_turnIn_X0_next : GoodIn wsX7_turnIn (wsV RX7 174 RX0 yX0_next wsX0_next) := goodIn_app (goodIn_of _ (by decide +kernel)) ggX7_turnIn_X0_next
set_option maxRecDepth 20000 in
theorem ggX7_settles_X7_hasGallery : GoodIn wsX7_settles wsX7_hasGallery := goodIn_r _ [7, 1, 2, 40, 41, 42, 43, 44, 45, 46, 47, 48, 49, 50, 51, 52, 53, 54, 55, 56, 57, 58, 59, 60, 61, 62, 63, 64, 65] (by decide +kernel) (by decide +kernel)
set_option maxRecDepth 20000 in
theorem gX7_settles_X7_hasGallery : GoodIn wsX7_settles (wsV RX7 154 RX7 yX7_hasGallery wsX7_hasGallery) := goodIn_app (goodIn_of _ (by decide +kernel)) ggX7_settles_X7_hasGallery
set_option maxRecDepth 20000 in
theorem ggX7_settles_X7_refused : GoodIn wsX7_settles wsX7_refused := goodIn_r _ [11, 12, 40, 41, 42, 43, 44, 45, 46, 47, 48, 49, 50] (by decide +kernel) (by decide +kernel)
set_option maxRecDepth 20000 in
theorem gX7_settles_X7_refused : GoodIn wsX7_settles (wsV RX7 82 RX7 yX7_refused wsX7_refused) := goodIn_app (goodIn_of _ (by decide +kernel)) ggX7_settles_X7_refused
set_option maxRecDepth 20000 in
theorem ggX7_settles_X7_roundLength : GoodIn wsX7_settles wsX7_roundLength := goodIn_r _ [16, 1, 2, 17, 18, 19, 6, 20, 21, 22, 23, 24, 25, 26, 27, 28, 29, 30, 31, 32, 33, 34, 35, 40, 41, 42, 43, 44, 45, 46, 47, 48, 49, 50, 51, 52, 53, 54, 55, 56, 57, 58, 59, 60, 61, 62, 63, 64, 65, 66, 67, 68, 69, 70, 71, 72] (by decide +kernel) (by decide +kernel)
set_option maxRecDepth 20000 in
theorem gX7_settles_X7_roundLength : GoodIn wsX7_settles (wsV RX7 177 RX7 yX7_roundLength wsX7_roundLength) := goodIn_app (goodIn_of _ (by decide +kernel)) ggX7_settles_X7_roundLength
set_option maxRecDepth 20000 in
theorem ggX7_settles_X7_turnFromNow : GoodIn wsX7_settles wsX7_turnFromNow := goodIn_r _ [20, 1, 2, 21, 22, 23, 24, 25, 26, 6, 27, 40, 41, 42, 43, 44, 45, 46, 47, 48, 49, 50, 51, 52, 53, 54, 55, 56, 57, 58, 59, 60, 61, 62, 63, 64, 65, 66, 67, 68, 69, 70, 71, 72] (by decide +kernel) (by decide +kernel)
set_option maxRecDepth 20000 in
theorem gX7_settles_X7_turnFromNow : GoodIn wsX7_settles (wsV RX7 171 RX7 yX7_turnFromNow wsX7_turnFromNow) := goodIn_app (goodIn_of _ (by decide +kernel)) ggX7_settles_X7_turnFromNow
set_option maxRecDepth 20000 in
theorem ggX7_settles_X7_answered : GoodIn wsX7_settles wsX7_answered := goodIn_r _ [39, 12, 40, 41, 42, 43, 44, 45, 46, 47, 48, 49, 50] (by decide +kernel) (by decide +kernel)
set_option maxRecDepth 20000 in
theorem gX7_settles_X7_answered : GoodIn wsX7_settles (wsV RX7 113 RX7 yX7_answered wsX7_answered) := goodIn_app (goodIn_of _ (by decide +kernel)) ggX7_settles_X7_answered
set_option maxRecDepth 20000 in
theorem ggX7_round_X7_hasGallery : GoodIn wsX7_round wsX7_hasGallery := goodIn_r _ [5, 6, 7, 40, 41, 42, 43, 44, 45, 46, 47, 48, 49, 50, 51, 52, 53, 54, 55, 56, 57, 58, 59, 60, 61, 62, 63, 64, 65] (by decide +kernel) (by decide +kernel)
set_option maxRecDepth 20000 in
theorem gX7_round_X7_hasGallery : GoodIn wsX7_round (wsV RX7 154 RX7 yX7_hasGallery wsX7_hasGallery) := goodIn_app (goodIn_of _ (by decide +kernel)) ggX7_round_X7_hasGallery
set_option maxRecDepth 20000 in
theorem ggX7_round_X7_refused : GoodIn wsX7_round wsX7_refused := goodIn_r _ [11, 12, 40, 41, 42, 43, 44, 45, 46, 47, 48, 49, 50] (by decide +kernel) (by decide +kernel)
set_option maxRecDepth 20000 in
theorem gX7_round_X7_refused : GoodIn wsX7_round (wsV RX7 82 RX7 yX7_refused wsX7_refused) := goodIn_app (goodIn_of _ (by decide +kernel)) ggX7_round_X7_refused
set_option maxRecDepth 20000 in
theorem ggX7_round_X7_roundLength : GoodIn wsX7_round wsX7_roundLength := goodIn_r _ [16, 6, 7, 17, 18, 19, 4, 20, 21, 22, 23, 24, 25, 26, 27, 28, 29, 30, 31, 32, 33, 34, 35, 40, 41, 42, 43, 44, 45, 46, 47, 48, 49, 50, 51, 52, 53, 54, 55, 56, 57, 58, 59, 60, 61, 62, 63, 64, 65, 66, 67, 68, 69, 70, 71, 72] (by decide +kernel) (by decide +kernel)
set_option maxRecDepth 20000 in
theorem gX7_round_X7_roundLength : GoodIn wsX7_round (wsV RX7 177 RX7 yX7_roundLength wsX7_roundLength) := goodIn_app (goodIn_of _ (by decide +kernel)) ggX7_round_X7_roundLength
set_option maxRecDepth 20000 in
theorem ggX7_round_X7_answered : GoodIn wsX7_round wsX7_answered := goodIn_r _ [39, 12, 40, 41, 42, 43, 44, 45, 46, 47, 48, 49, 50] (by decide +kernel) (by decide +kernel)
set_option maxRecDepth 20000 in
theorem gX7_round_X7_answered : GoodIn wsX7_round (wsV RX7 113 RX7 yX7_answered wsX7_answered) := goodIn_app (goodIn_of _ (by decide +kernel)) ggX7_round_X7_answered
set_option maxRecDepth 20000 in
theorem ggX7_called_X7_hasGallery : GoodIn wsX7_called wsX7_hasGallery := goodIn_r _ [9, 3, 4, 27, 28, 29, 30, 31, 32, 33, 34, 35, 36, 37, 45, 46, 47, 48, 49, 50, 51, 52, 53, 54, 55, 56, 57, 58, 59] (by decide +kernel) (by decide +kernel)
set_option maxRecDepth 20000 in
theorem gX7_called_X7_hasGallery : GoodIn wsX7_called (wsV RX7 154 RX7 yX7_hasGallery wsX7_hasGallery) := goodIn_app (goodIn_of _ (by decide +kernel)) ggX7_called_X7_hasGallery
set_option maxRecDepth 20000 in
theorem ggX7_called_X7_refused : GoodIn wsX7_called wsX7_refused := goodIn_r _ [13, 14, 27, 28, 29, 30, 31, 32, 33, 34, 35, 36, 37] (by decide +kernel) (by decide +kernel)
set_option maxRecDepth 20000 in
theorem gX7_called_X7_refused : GoodIn wsX7_called (wsV RX7 82 RX7 yX7_refused wsX7_refused) := goodIn_app (goodIn_of _ (by decide +kernel)) ggX7_called_X7_refused
set_option maxRecDepth 20000 in
theorem ggX7_called_X0_next : GoodIn wsX7_called wsX0_next := goodIn_r _ [19, 20, 21, 22, 45, 46, 47, 48, 49, 50, 51, 52, 53, 54, 55, 56, 57, 58, 59] (by decide +kernel) (by decide +kernel)
set_option maxRecDepth 20000 in
theorem gX7_called_X0_next : GoodIn wsX7_called (wsV RX7 174 RX0 yX0_next wsX0_next) := goodIn_app (goodIn_of _ (by decide +kernel)) ggX7_called_X0_next
set_option maxRecDepth 20000 in
theorem ggX7_called_X7_answered : GoodIn wsX7_called wsX7_answered := goodIn_r _ [26, 14, 27, 28, 29, 30, 31, 32, 33, 34, 35, 36, 37] (by decide +kernel) (by decide +kernel)
set_option maxRecDepth 20000 in
theorem gX7_called_X7_answered : GoodIn wsX7_called (wsV RX7 113 RX7 yX7_answered wsX7_answered) := goodIn_app (goodIn_of _ (by decide +kernel)) ggX7_called_X7_answered
set_option maxRecDepth 20000 in
theorem ggX7_minutesOf_X7_isFigure : GoodIn wsX7_minutesOf wsX7_isFigure := goodIn_r _ [10, 4, 11, 12, 13, 9, 14, 32, 33, 34, 35, 36, 37, 38, 39, 40, 41, 42, 50, 51, 52, 53, 54, 55, 56, 57, 58, 59, 60, 61, 62, 63, 64] (by decide +kernel) (by decide +kernel)
set_option maxRecDepth 20000 in
theorem gX7_minutesOf_X7_isFigure : GoodIn wsX7_minutesOf (wsV RX7 116 RX7 yX7_isFigure wsX7_isFigure) := goodIn_app (goodIn_of _ (by decide +kernel)) ggX7_minutesOf_X7_isFigure
set_option maxRecDepth 20000 in
theorem ggX7_minutesOf_X7_refused : GoodIn wsX7_minutesOf wsX7_refused := goodIn_r _ [18, 19, 32, 33, 34, 35, 36, 37, 38, 39, 40, 41, 42] (by decide +kernel) (by decide +kernel)
set_option maxRecDepth 20000 in
theorem gX7_minutesOf_X7_refused : GoodIn wsX7_minutesOf (wsV RX7 82 RX7 yX7_refused wsX7_refused) := goodIn_app (goodIn_of _ (by decide +kernel)) ggX7_minutesOf_X7_refused
set_option maxRecDepth 20000 in
theorem ggX7_minutesOf_X7_within : GoodIn wsX7_minutesOf wsX7_within := goodIn_r _ [14] (by decide +kernel) (by decide +kernel)
set_option maxRecDepth 20000 in
theorem gX7_minutesOf_X7_within : GoodIn wsX7_minutesOf (va_wsS RX7 78 yX7_within wsX7_within) := goodIn_app (goodIn_of _ (by decide +kernel)) ggX7_minutesOf_X7_within
set_option maxRecDepth 20000 in
theorem ggX7_minutesOf_X0_next : GoodIn wsX7_minutesOf wsX0_next := goodIn_r _ [24, 25, 26, 27, 50, 51, 52, 53, 54, 55, 56, 57, 58, 59, 60, 61, 62, 63, 64] (by decide +kernel) (by decide +kernel)
set_option maxRecDepth 20000 in
theorem gX7_minutesOf_X0_next : GoodIn wsX7_minutesOf (wsV RX7 174 RX0 yX0_next wsX0_next) := goodIn_app (goodIn_of _ (by decide +kernel)) ggX7_minutesOf_X0_next
set_option maxRecDepth 20000 in
theorem ggX7_minutesOf_X7_answered : GoodIn wsX7_minutesOf wsX7_answered := goodIn_r _ [31, 19, 32, 33, 34, 35, 36, 37, 38, 39, 40, 41, 42] (by decide +kernel) (by decide +kernel)
set_option maxRecDepth 20000 in
theorem gX7_minutesOf_X7_answered : GoodIn wsX7_minutesOf (wsV RX7 113 RX7 yX7_answered wsX7_answered) := goodIn_app (goodIn_of _ (by decide +kernel)) ggX7_minutesOf_X7_answered
set_option maxRecDepth 20000 in
theorem ggX7_place_X7_troubleOfFigureWithin : GoodIn wsX7_place wsX7_troubleOfFigureWithin := goodIn_r _ [7, 8, 9, 10, 6, 11, 12, 13, 14, 15, 16, 113, 114, 115, 116, 117, 118, 119, 120, 121, 122, 123, 131, 132, 133, 134, 135, 136, 137, 138, 139, 140, 141, 142, 143, 144, 145] (by decide +kernel) (by decide +kernel)
set_option maxRecDepth 20000 in
theorem gX7_place_X7_troubleOfFigureWithin : GoodIn wsX7_place (wsV RX7 181 RX7 yX7_troubleOfFigureWithin wsX7_troubleOfFigureWithin) := goodIn_app (goodIn_of _ (by decide +kernel)) ggX7_place_X7_troubleOfFigureWithin
set_option maxRecDepth 20000 in
theorem ggX7_place_X7_refused : GoodIn wsX7_place wsX7_refused := goodIn_r _ [20, 21, 113, 114, 115, 116, 117, 118, 119, 120, 121, 122, 123] (by decide +kernel) (by decide +kernel)
set_option maxRecDepth 20000 in
theorem gX7_place_X7_refused : GoodIn wsX7_place (wsV RX7 82 RX7 yX7_refused wsX7_refused) := goodIn_app (goodIn_of _ (by decide +kernel)) ggX7_place_X7_refused
set_option maxRecDepth 20000 in
theorem ggX7_place_X7_runAhead : GoodIn wsX7_place wsX7_runAhead := goodIn_r _ [25, 1, 26, 27, 28, 29, 30, 31, 32, 33, 34, 35, 36, 37, 38, 39, 40, 41, 6, 42, 12, 43, 44, 45, 46, 47, 48, 49, 50, 51, 52, 53, 54, 55, 56, 57, 58, 59, 60, 15, 16, 61, 62, 63, 64, 65, 66, 67, 68, 69, 70, 71, 72, 73, 74, 75, 76, 77, 78, 79, 80, 81, 82, 83, 84, 85, 86, 87, 88, 89, 90, 91, 92, 93, 94, 95, 96, 97, 98, 99, 100, 101, 102, 103, 104, 105, 106, 107, 108, 113, 114, 115, 116, 117, 118, 119, 120, 121, 122, 123, 124, 125, 126, 127, 128, 129, 130, 131, 132, 133, 134, 135, 136, 137, 138, 139, 140, 141, 142, 143, 144, 145, 146, 147, 148, 149] (by decide +kernel) (by decide +kernel)
set_option maxRecDepth 20000 in
theorem gX7_place_X7_runAhead : GoodIn wsX7_place (wsV RX7 185 RX7 yX7_runAhead wsX7_runAhead) := goodIn_app (goodIn_of _ (by decide +kernel)) ggX7_place_X7_runAhead
set_option maxRecDepth 20000 in
theorem ggX7_place_X7_answered : GoodIn wsX7_place wsX7_answered := goodIn_r _ [112, 21, 113, 114, 115, 116, 117, 118, 119, 120, 121, 122, 123] (by decide +kernel) (by decide +kernel)
set_option maxRecDepth 20000 in
theorem gX7_place_X7_answered : GoodIn wsX7_place (wsV RX7 113 RX7 yX7_answered wsX7_answered) := goodIn_app (goodIn_of _ (by decide +kernel)) ggX7_place_X7_answered
set_option maxRecDepth 20000 in
theorem ggX7_watch_X7_isWatcher : GoodIn wsX7_watch wsX7_isWatcher := goodIn_r _ [9, 1, 2, 10, 11, 12, 8, 13, 30, 31, 32, 33, 34, 35, 36, 37, 38, 39, 40, 41, 42, 43, 44, 45, 46, 47, 48, 49, 50, 51, 52, 53, 54, 55, 63, 64, 65, 66] (by decide +kernel) (by decide +kernel)
set_option maxRecDepth 20000 in
theorem gX7_watch_X7_isWatcher : GoodIn wsX7_watch (wsV RX7 135 RX7 yX7_isWatcher wsX7_isWatcher) := goodIn_app (goodIn_of _ (by decide +kernel)) ggX7_watch_X7_isWatcher
set_option maxRecDepth 20000 in
theorem ggX7_watch_X7_refused : GoodIn wsX7_watch wsX7_refused := goodIn_r _ [17, 18, 30, 31, 32, 33, 34, 35, 36, 37, 38, 39, 40] (by decide +kernel) (by decide +kernel)
set_option maxRecDepth 20000 in
theorem gX7_watch_X7_refused : GoodIn wsX7_watch (wsV RX7 82 RX7 yX7_refused wsX7_refused) := goodIn_app (goodIn_of _ (by decide +kernel)) ggX7_watch_X7_refused
set_option maxRecDepth 20000 in
theorem ggX7_watch_X7_within : GoodIn wsX7_watch wsX7_within := goodIn_r _ [13] (by decide +kernel) (by decide +kernel)
set_option maxRecDepth 20000 in
theorem gX7_watch_X7_within : GoodIn wsX7_watch (va_wsS RX7 78 yX7_within wsX7_within) := goodIn_app (goodIn_of _ (by decide +kernel)) ggX7_watch_X7_within
set_option maxRecDepth 20000 in
theorem ggX7_watch_X6_placeOf : GoodIn wsX7_watch wsX6_placeOf := goodIn_r _ [23, 24, 25, 63, 64, 65, 66] (by decide +kernel) (by decide +kernel)
set_option maxRecDepth 20000 in
theorem gX7_watch_X6_placeOf : GoodIn wsX7_watch (wsV RX7 150 RX6 yX6_placeOf wsX6_placeOf) := goodIn_app (goodIn_of _ (by decide +kernel)) ggX7_watch_X6_placeOf
set_option maxRecDepth 20000 in
theorem ggX7_watch_X7_answered : GoodIn wsX7_watch wsX7_answered := goodIn_r _ [29, 18, 30, 31, 32, 33, 34, 35, 36, 37, 38, 39, 40] (by decide +kernel) (by decide +kernel)
set_option maxRecDepth 20000 in
theorem gX7_watch_X7_answered : GoodIn wsX7_watch (wsV RX7 113 RX7 yX7_answered wsX7_answered) := goodIn_app (goodIn_of _ (by decide +kernel)) ggX7_watch_X7_answered
set_option maxRecDepth 20000 in
theorem ggX7_gone_X7_troubleOfNumber : GoodIn wsX7_gone wsX7_troubleOfNumber := goodIn_r _ [7, 8, 9, 10, 6, 11, 12, 13, 14, 15, 16, 113, 114, 115, 116, 117, 118, 119, 120, 121, 122, 123, 131, 132, 133, 134, 135, 136, 137, 138, 139, 140, 141, 142, 143, 144, 145] (by decide +kernel) (by decide +kernel)
set_option maxRecDepth 20000 in
theorem gX7_gone_X7_troubleOfNumber : GoodIn wsX7_gone (wsV RX7 188 RX7 yX7_troubleOfNumber wsX7_troubleOfNumber) := goodIn_app (goodIn_of _ (by decide +kernel)) ggX7_gone_X7_troubleOfNumber
set_option maxRecDepth 20000 in
theorem ggX7_gone_X7_refused : GoodIn wsX7_gone wsX7_refused := goodIn_r _ [20, 21, 113, 114, 115, 116, 117, 118, 119, 120, 121, 122, 123] (by decide +kernel) (by decide +kernel)
set_option maxRecDepth 20000 in
theorem gX7_gone_X7_refused : GoodIn wsX7_gone (wsV RX7 82 RX7 yX7_refused wsX7_refused) := goodIn_app (goodIn_of _ (by decide +kernel)) ggX7_gone_X7_refused
set_option maxRecDepth 20000 in
theorem ggX7_gone_X7_runAhead : GoodIn wsX7_gone wsX7_runAhead := goodIn_r _ [25, 1, 26, 27, 28, 29, 30, 31, 32, 33, 34, 35, 36, 37, 38, 39, 40, 41, 6, 42, 12, 43, 44, 45, 46, 47, 48, 49, 50, 51, 52, 53, 54, 55, 56, 57, 58, 59, 60, 15, 16, 61, 62, 63, 64, 65, 66, 67, 68, 69, 70, 71, 72, 73, 74, 75, 76, 77, 78, 79, 80, 81, 82, 83, 84, 85, 86, 87, 88, 89, 90, 91, 92, 93, 94, 95, 96, 97, 98, 99, 100, 101, 102, 103, 104, 105, 106, 107, 108, 113, 114, 115, 116, 117, 118, 119, 120, 121, 122, 123, 124, 125, 126, 127, 128, 129, 130, 131, 132, 133, 134, 135, 136, 137, 138, 139, 140, 141, 142, 143, 144, 145, 146, 147, 148, 149] (by decide +kernel) (by decide +kernel)
set_option maxRecDepth 20000 in
theorem gX7_gone_X7_runAhead : GoodIn wsX7_gone (wsV RX7 185 RX7 yX7_runAhead wsX7_runAhead) := goodIn_app (goodIn_of _ (by decide +kernel)) ggX7_gone_X7_runAhead
set_option maxRecDepth 20000 in
theorem ggX7_gone_X7_answered : GoodIn wsX7_gone wsX7_answered := goodIn_r _ [112, 21, 113, 114, 115, 116, 117, 118, 119, 120, 121, 122, 123] (by decide +kernel) (by decide +kernel)
set_option maxRecDepth 20000 in
theorem gX7_gone_X7_answered : GoodIn wsX7_gone (wsV RX7 113 RX7 yX7_answered wsX7_answered) := goodIn_app (goodIn_of _ (by decide +kernel)) ggX7_gone_X7_answered
set_option maxRecDepth 20000 in
theorem ggX7_stairs_X7_hasGallery : GoodIn wsX7_stairs wsX7_hasGallery := goodIn_r _ [9, 3, 10, 104, 105, 106, 107, 108, 109, 110, 111, 112, 113, 114, 115, 116, 117, 118, 119, 120, 121, 122, 123, 124, 125, 126, 127, 128, 129] (by decide +kernel) (by decide +kernel)
set_option maxRecDepth 20000 in
theorem gX7_stairs_X7_hasGallery : GoodIn wsX7_stairs (wsV RX7 154 RX7 yX7_hasGallery wsX7_hasGallery) := goodIn_app (goodIn_of _ (by decide +kernel)) ggX7_stairs_X7_hasGallery
set_option maxRecDepth 20000 in
theorem ggX7_stairs_X7_refused : GoodIn wsX7_stairs wsX7_refused := goodIn_r _ [14, 15, 104, 105, 106, 107, 108, 109, 110, 111, 112, 113, 114] (by decide +kernel) (by decide +kernel)
set_option maxRecDepth 20000 in
theorem gX7_stairs_X7_refused : GoodIn wsX7_stairs (wsV RX7 82 RX7 yX7_refused wsX7_refused) := goodIn_app (goodIn_of _ (by decide +kernel)) ggX7_stairs_X7_refused
set_option maxRecDepth 20000 in
theorem ggX7_stairs_X5_copyFrom : GoodIn wsX7_stairs wsX5_copyFrom := goodIn_r _ [20, 21, 22, 23, 24, 25, 26, 27, 130, 131, 132, 133, 134, 135, 136] (by decide +kernel) (by decide +kernel)
set_option maxRecDepth 20000 in
theorem gX7_stairs_X5_copyFrom : GoodIn wsX7_stairs (wsV RX7 194 RX5 yX5_copyFrom wsX5_copyFrom) := goodIn_app (goodIn_of _ (by decide +kernel)) ggX7_stairs_X5_copyFrom
set_option maxRecDepth 20000 in
theorem ggX7_stairs_X7_minutesTillGone : GoodIn wsX7_stairs wsX7_minutesTillGone := goodIn_r _ [31, 1, 32, 3, 33, 34, 35, 36, 37, 38, 39, 40, 41, 42, 43, 44, 45, 46, 47, 48, 49, 50, 8, 51, 52, 53, 54, 55, 56, 57, 58, 59, 60, 61, 19, 62, 24, 63, 64, 65, 66, 67, 68, 69, 70, 71, 72, 73, 74, 75, 76, 77, 78, 79, 80, 81, 82, 83, 84, 85, 86, 87, 88, 89, 90, 91, 92, 93, 94, 95, 96, 97, 98, 99, 22, 23, 104, 105, 106, 107, 108, 109, 110, 111, 112, 113, 114, 130, 131, 132, 133, 134, 135, 136, 115, 116, 117, 118, 119, 120, 121, 122, 123, 124, 125, 126, 127, 128, 129, 137, 138, 139, 140] (by decide +kernel) (by decide +kernel)
set_option maxRecDepth 20000 in
theorem gX7_stairs_X7_minutesTillGone : GoodIn wsX7_stairs (wsV RX7 198 RX7 yX7_minutesTillGone wsX7_minutesTillGone) := goodIn_app (goodIn_of _ (by decide +kernel)) ggX7_stairs_X7_minutesTillGone
set_option maxRecDepth 20000 in
theorem ggX7_stairs_X7_answered : GoodIn wsX7_stairs wsX7_answered := goodIn_r _ [103, 15, 104, 105, 106, 107, 108, 109, 110, 111, 112, 113, 114] (by decide +kernel) (by decide +kernel)
set_option maxRecDepth 20000 in
theorem gX7_stairs_X7_answered : GoodIn wsX7_stairs (wsV RX7 113 RX7 yX7_answered wsX7_answered) := goodIn_app (goodIn_of _ (by decide +kernel)) ggX7_stairs_X7_answered
set_option maxRecDepth 20000 in
theorem ggX7_catches_X7_troubleOfNumber : GoodIn wsX7_catches wsX7_troubleOfNumber := goodIn_r _ [8, 9, 10, 11, 7, 12, 13, 14, 15, 16, 17, 113, 114, 115, 116, 117, 118, 119, 120, 121, 122, 123, 131, 132, 133, 134, 135, 136, 137, 138, 139, 140, 141, 142, 143, 144, 145] (by decide +kernel) (by decide +kernel)
set_option maxRecDepth 20000 in
theorem gX7_catches_X7_troubleOfNumber : GoodIn wsX7_catches (wsV RX7 188 RX7 yX7_troubleOfNumber wsX7_troubleOfNumber) := goodIn_app (goodIn_of _ (by decide +kernel)) ggX7_catches_X7_troubleOfNumber
set_option maxRecDepth 20000 in
theorem ggX7_catches_X7_refused : GoodIn wsX7_catches wsX7_refused := goodIn_r _ [21, 22, 113, 114, 115, 116, 117, 118, 119, 120, 121, 122, 123] (by decide +kernel) (by decide +kernel)
set_option maxRecDepth 20000 in
theorem gX7_catches_X7_refused : GoodIn wsX7_catches (wsV RX7 82 RX7 yX7_refused wsX7_refused) := goodIn_app (goodIn_of _ (by decide +kernel)) ggX7_catches_X7_refused
set_option maxRecDepth 20000 in
theorem ggX7_catches_X7_runAhead : GoodIn wsX7_catches wsX7_runAhead := goodIn_r _ [26, 1, 3, 27, 28, 29, 30, 31, 32, 33, 34, 35, 36, 37, 38, 39, 40, 41, 7, 42, 13, 43, 44, 45, 46, 47, 48, 49, 50, 51, 52, 53, 54, 55, 56, 57, 58, 59, 60, 16, 17, 61, 62, 63, 64, 65, 66, 67, 68, 69, 70, 71, 72, 73, 74, 75, 76, 77, 78, 79, 80, 81, 82, 83, 84, 85, 86, 87, 88, 89, 90, 91, 92, 93, 94, 95, 96, 97, 98, 99, 100, 101, 102, 103, 104, 105, 106, 107, 108, 113, 114, 115, 116, 117, 118, 119, 120, 121, 122, 123, 124, 125, 126, 127, 128, 129, 130, 131, 132, 133, 134, 135, 136, 137, 138, 139, 140, 141, 142, 143, 144, 145, 146, 147, 148, 149] (by decide +kernel) (by decide +kernel)
set_option maxRecDepth 20000 in
theorem gX7_catches_X7_runAhead : GoodIn wsX7_catches (wsV RX7 185 RX7 yX7_runAhead wsX7_runAhead) := goodIn_app (goodIn_of _ (by decide +kernel)) ggX7_catches_X7_runAhead
set_option maxRecDepth 20000 in
theorem ggX7_catches_X7_answered : GoodIn wsX7_catches wsX7_answered := goodIn_r _ [112, 22, 113, 114, 115, 116, 117, 118, 119, 120, 121, 122, 123] (by decide +kernel) (by decide +kernel)
set_option maxRecDepth 20000 in
theorem gX7_catches_X7_answered : GoodIn wsX7_catches (wsV RX7 113 RX7 yX7_answered wsX7_answered) := goodIn_app (goodIn_of _ (by decide +kernel)) ggX7_catches_X7_answered
set_option maxRecDepth 20000 in
theorem ggX7_heard_X7_troubleOfFigureWithin : GoodIn wsX7_heard wsX7_troubleOfFigureWithin := goodIn_r _ [8, 9, 10, 11, 7, 12, 13, 14, 15, 16, 17, 109, 110, 111, 112, 113, 114, 115, 116, 117, 118, 119, 127, 128, 129, 130, 131, 132, 133, 134, 135, 136, 137, 138, 139, 140, 141] (by decide +kernel) (by decide +kernel)
set_option maxRecDepth 20000 in
theorem gX7_heard_X7_troubleOfFigureWithin : GoodIn wsX7_heard (wsV RX7 181 RX7 yX7_troubleOfFigureWithin wsX7_troubleOfFigureWithin) := goodIn_app (goodIn_of _ (by decide +kernel)) ggX7_heard_X7_troubleOfFigureWithin
set_option maxRecDepth 20000 in
theorem ggX7_heard_X7_refused : GoodIn wsX7_heard wsX7_refused := goodIn_r _ [21, 22, 109, 110, 111, 112, 113, 114, 115, 116, 117, 118, 119] (by decide +kernel) (by decide +kernel)
set_option maxRecDepth 20000 in
theorem gX7_heard_X7_refused : GoodIn wsX7_heard (wsV RX7 82 RX7 yX7_refused wsX7_refused) := goodIn_app (goodIn_of _ (by decide +kernel)) ggX7_heard_X7_refused
set_option maxRecDepth 20000 in
theorem ggX7_heard_X5_copyFrom : GoodIn wsX7_heard wsX5_copyFrom := goodIn_r _ [27, 28, 29, 30, 31, 32, 33, 34, 120, 121, 122, 123, 124, 125, 126] (by decide +kernel) (by decide +kernel)
set_option maxRecDepth 20000 in
theorem gX7_heard_X5_copyFrom : GoodIn wsX7_heard (wsV RX7 194 RX5 yX5_copyFrom wsX5_copyFrom) := goodIn_app (goodIn_of _ (by decide +kernel)) ggX7_heard_X5_copyFrom
set_option maxRecDepth 20000 in
theorem ggX7_heard_X7_passAhead : GoodIn wsX7_heard wsX7_passAhead := goodIn_r _ [38, 13, 1, 39, 40, 41, 42, 43, 44, 45, 46, 47, 48, 49, 50, 51, 52, 53, 54, 55, 56, 16, 7, 17, 57, 58, 59, 60, 61, 62, 63, 64, 65, 66, 26, 67, 31, 68, 69, 70, 71, 72, 73, 74, 75, 76, 77, 78, 79, 80, 81, 82, 83, 84, 85, 86, 87, 88, 89, 90, 91, 92, 93, 94, 95, 96, 97, 98, 99, 100, 101, 102, 103, 104, 29, 30, 109, 110, 111, 112, 113, 114, 115, 116, 117, 118, 119, 127, 128, 129, 130, 131, 132, 133, 134, 135, 136, 137, 138, 139, 140, 141, 120, 121, 122, 123, 124, 125, 126, 142, 143, 144, 145] (by decide +kernel) (by decide +kernel)
set_option maxRecDepth 20000 in
theorem gX7_heard_X7_passAhead : GoodIn wsX7_heard (wsV RX7 202 RX7 yX7_passAhead wsX7_passAhead) := goodIn_app (goodIn_of _ (by decide +kernel)) ggX7_heard_X7_passAhead
set_option maxRecDepth 20000 in
theorem ggX7_heard_X7_answered : GoodIn wsX7_heard wsX7_answered := goodIn_r _ [108, 22, 109, 110, 111, 112, 113, 114, 115, 116, 117, 118, 119] (by decide +kernel) (by decide +kernel)
set_option maxRecDepth 20000 in
theorem gX7_heard_X7_answered : GoodIn wsX7_heard (wsV RX7 113 RX7 yX7_answered wsX7_answered) := goodIn_app (goodIn_of _ (by decide +kernel)) ggX7_heard_X7_answered
set_option maxRecDepth 20000 in
theorem ggX7_allIn_X7_isFigure : GoodIn wsX7_allIn wsX7_isFigure := goodIn_r _ [12, 1, 13, 14, 15, 11, 16, 103, 104, 105, 106, 107, 108, 109, 110, 111, 112, 113, 114, 115, 116, 117, 118, 119, 120, 121, 122, 123, 124, 125, 126, 127, 128] (by decide +kernel) (by decide +kernel)
set_option maxRecDepth 20000 in
theorem gX7_allIn_X7_isFigure : GoodIn wsX7_allIn (wsV RX7 116 RX7 yX7_isFigure wsX7_isFigure) := goodIn_app (goodIn_of _ (by decide +kernel)) ggX7_allIn_X7_isFigure
set_option maxRecDepth 20000 in
theorem ggX7_allIn_X7_refused : GoodIn wsX7_allIn wsX7_refused := goodIn_r _ [20, 21, 103, 104, 105, 106, 107, 108, 109, 110, 111, 112, 113] (by decide +kernel) (by decide +kernel)
set_option maxRecDepth 20000 in
theorem gX7_allIn_X7_refused : GoodIn wsX7_allIn (wsV RX7 82 RX7 yX7_refused wsX7_refused) := goodIn_app (goodIn_of _ (by decide +kernel)) ggX7_allIn_X7_refused
set_option maxRecDepth 20000 in
theorem ggX7_allIn_X7_answered : GoodIn wsX7_allIn wsX7_answered := goodIn_r _ [25, 21, 103, 104, 105, 106, 107, 108, 109, 110, 111, 112, 113] (by decide +kernel) (by decide +kernel)
set_option maxRecDepth 20000 in
theorem gX7_allIn_X7_answered : GoodIn wsX7_allIn (wsV RX7 113 RX7 yX7_answered wsX7_answered) := goodIn_app (goodIn_of _ (by decide +kernel)) ggX7_allIn_X7_answered
set_option maxRecDepth 20000 in
theorem ggX7_allIn_X5_copyFrom : GoodIn wsX7_allIn wsX5_copyFrom := goodIn_r _ [30, 31, 32, 33, 34, 35, 36, 37, 129, 130, 131, 132, 133, 134, 135] (by decide +kernel) (by decide +kernel)
set_option maxRecDepth 20000 in
theorem gX7_allIn_X5_copyFrom : GoodIn wsX7_allIn (wsV RX7 194 RX5 yX5_copyFrom wsX5_copyFrom) := goodIn_app (goodIn_of _ (by decide +kernel)) ggX7_allIn_X5_copyFrom
set_option maxRecDepth 20000 in
theorem ggX7_allIn_X0_pass : GoodIn wsX7_allIn wsX0_pass := goodIn_r _ [42, 43, 44, 45, 46, 47, 48, 49, 50, 51, 41, 52, 53, 54, 15, 11, 16, 55, 56, 57, 58, 59, 60, 61, 62, 63, 64, 29, 65, 34, 66, 67, 68, 69, 70, 71, 72, 73, 74, 75, 76, 77, 78, 79, 80, 81, 82, 83, 84, 85, 86, 87, 88, 89, 90, 91, 92, 93, 94, 95, 96, 97, 98, 99, 100, 101, 102, 32, 33, 129, 130, 131, 132, 133, 134, 135, 114, 115, 116, 117, 118, 119, 120, 121, 122, 123, 124, 125, 126, 127, 128, 136, 137, 138, 139] (by decide +kernel) (by decide +kernel)
set_option maxRecDepth 20000 in
theorem gX7_allIn_X0_pass : GoodIn wsX7_allIn (wsV RX7 205 RX0 yX0_pass wsX0_pass) := goodIn_app (goodIn_of _ (by decide +kernel)) ggX7_allIn_X0_pass
set_option maxRecDepth 20000 in
theorem ggX7_meets_X7_isWatcher : GoodIn wsX7_meets wsX7_isWatcher := goodIn_r _ [10, 3, 4, 11, 12, 13, 9, 14, 109, 110, 111, 112, 113, 114, 115, 116, 117, 118, 119, 120, 121, 122, 123, 124, 125, 126, 127, 128, 129, 130, 131, 132, 133, 134, 142, 143, 144, 145] (by decide +kernel) (by decide +kernel)
set_option maxRecDepth 20000 in
theorem gX7_meets_X7_isWatcher : GoodIn wsX7_meets (wsV RX7 135 RX7 yX7_isWatcher wsX7_isWatcher) := goodIn_app (goodIn_of _ (by decide +kernel)) ggX7_meets_X7_isWatcher
set_option maxRecDepth 20000 in
theorem ggX7_meets_X7_refused : GoodIn wsX7_meets wsX7_refused := goodIn_r _ [18, 19, 109, 110, 111, 112, 113, 114, 115, 116, 117, 118, 119] (by decide +kernel) (by decide +kernel)
set_option maxRecDepth 20000 in
theorem gX7_meets_X7_refused : GoodIn wsX7_meets (wsV RX7 82 RX7 yX7_refused wsX7_refused) := goodIn_app (goodIn_of _ (by decide +kernel)) ggX7_meets_X7_refused
set_option maxRecDepth 20000 in
theorem ggX7_meets_X5_copyFrom : GoodIn wsX7_meets wsX5_copyFrom := goodIn_r _ [24, 25, 26, 27, 28, 29, 30, 31, 135, 136, 137, 138, 139, 140, 141] (by decide +kernel) (by decide +kernel)
set_option maxRecDepth 20000 in
theorem gX7_meets_X5_copyFrom : GoodIn wsX7_meets (wsV RX7 194 RX5 yX5_copyFrom wsX5_copyFrom) := goodIn_app (goodIn_of _ (by decide +kernel)) ggX7_meets_X5_copyFrom
set_option maxRecDepth 20000 in
theorem ggX7_meets_X6_placeOf : GoodIn wsX7_meets wsX6_placeOf := goodIn_r _ [36, 37, 38, 142, 143, 144, 145] (by decide +kernel) (by decide +kernel)
set_option maxRecDepth 20000 in
theorem gX7_meets_X6_placeOf : GoodIn wsX7_meets (wsV RX7 150 RX6 yX6_placeOf wsX6_placeOf) := goodIn_app (goodIn_of _ (by decide +kernel)) ggX7_meets_X6_placeOf
set_option maxRecDepth 20000 in
theorem ggX7_meets_X7_placeOfActing : GoodIn wsX7_meets wsX7_placeOfActing := goodIn_r _ [42, 1, 43, 3, 4, 44, 45, 46, 47, 48, 49, 50, 51, 52, 53, 54, 55, 56, 57, 58, 59, 60, 61, 13, 9, 14, 62, 63, 64, 65, 66, 67, 68, 69, 70, 71, 23, 72, 28, 73, 74, 75, 76, 77, 78, 79, 80, 81, 35, 82, 83, 84, 85, 33, 34, 36, 37, 38, 86, 87, 88, 89, 90, 91, 92, 93, 94, 95, 96, 97, 98, 99, 100, 101, 102, 103, 26, 27, 104, 109, 110, 111, 112, 113, 114, 115, 116, 117, 118, 119, 135, 136, 137, 138, 139, 140, 141, 120, 121, 122, 123, 124, 125, 126, 127, 128, 129, 130, 131, 132, 133, 134, 142, 143, 144, 145] (by decide +kernel) (by decide +kernel)
set_option maxRecDepth 20000 in
theorem gX7_meets_X7_placeOfActing : GoodIn wsX7_meets (wsV RX7 209 RX7 yX7_placeOfActing wsX7_placeOfActing) := goodIn_app (goodIn_of _ (by decide +kernel)) ggX7_meets_X7_placeOfActing
set_option maxRecDepth 20000 in
theorem ggX7_meets_X7_answered : GoodIn wsX7_meets wsX7_answered := goodIn_r _ [108, 19, 109, 110, 111, 112, 113, 114, 115, 116, 117, 118, 119] (by decide +kernel) (by decide +kernel)
set_option maxRecDepth 20000 in
theorem gX7_meets_X7_answered : GoodIn wsX7_meets (wsV RX7 113 RX7 yX7_answered wsX7_answered) := goodIn_app (goodIn_of _ (by decide +kernel)) ggX7_meets_X7_answered
set_option maxRecDepth 20000 in
theorem ggX7_crowd_X7_troubleOfNumber : GoodIn wsX7_crowd wsX7_troubleOfNumber := goodIn_r _ [7, 8, 9, 10, 6, 11, 1, 2, 12, 13, 14, 118, 119, 120, 121, 122, 123, 124, 125, 126, 127, 128, 129, 130, 131, 132, 133, 134, 135, 136, 137, 138, 139, 140, 141, 142, 143] (by decide +kernel) (by decide +kernel)
set_option maxRecDepth 20000 in
theorem gX7_crowd_X7_troubleOfNumber : GoodIn wsX7_crowd (wsV RX7 188 RX7 yX7_troubleOfNumber wsX7_troubleOfNumber) := goodIn_app (goodIn_of _ (by decide +kernel)) ggX7_crowd_X7_troubleOfNumber
set_option maxRecDepth 20000 in
theorem ggX7_crowd_X7_refused : GoodIn wsX7_crowd wsX7_refused := goodIn_r _ [18, 19, 118, 119, 120, 121, 122, 123, 124, 125, 126, 127, 128] (by decide +kernel) (by decide +kernel)
set_option maxRecDepth 20000 in
theorem gX7_crowd_X7_refused : GoodIn wsX7_crowd (wsV RX7 82 RX7 yX7_refused wsX7_refused) := goodIn_app (goodIn_of _ (by decide +kernel)) ggX7_crowd_X7_refused
set_option maxRecDepth 20000 in
theorem ggX7_crowd_X7_runAhead : GoodIn wsX7_crowd wsX7_runAhead := goodIn_r _ [23, 24, 25, 26, 27, 28, 29, 30, 31, 32, 33, 34, 35, 36, 37, 38, 39, 40, 6, 41, 1, 42, 43, 44, 45, 46, 47, 48, 49, 50, 51, 52, 53, 54, 55, 56, 57, 58, 59, 13, 14, 60, 61, 62, 63, 64, 65, 66, 67, 68, 69, 70, 71, 72, 73, 74, 75, 76, 77, 78, 79, 80, 81, 82, 83, 84, 85, 86, 87, 88, 89, 90, 91, 92, 93, 94, 95, 96, 97, 98, 99, 100, 101, 102, 103, 104, 105, 106, 107, 118, 119, 120, 121, 122, 123, 124, 125, 126, 127, 128, 144, 145, 146, 147, 148, 149, 150, 129, 130, 131, 132, 133, 134, 135, 136, 137, 138, 139, 140, 141, 142, 143, 151, 152, 153, 154] (by decide +kernel) (by decide +kernel)
set_option maxRecDepth 20000 in
theorem gX7_crowd_X7_runAhead : GoodIn wsX7_crowd (wsV RX7 185 RX7 yX7_runAhead wsX7_runAhead) := goodIn_app (goodIn_of _ (by decide +kernel)) ggX7_crowd_X7_runAhead
set_option maxRecDepth 20000 in
theorem ggX7_crowd_X7_crowdAt : GoodIn wsX7_crowd wsX7_crowdAt := goodIn_r _ [111, 1, 2, 24, 112, 113, 68, 69, 29, 70, 34, 71, 6, 72, 118, 119, 120, 121, 122, 123, 124, 125, 126, 127, 128, 129, 130, 131, 132, 133, 134, 135, 136, 137, 138, 139, 140, 141, 142, 143, 144, 145, 146, 147, 148, 149, 150] (by decide +kernel) (by decide +kernel)
set_option maxRecDepth 20000 in
theorem gX7_crowd_X7_crowdAt : GoodIn wsX7_crowd (wsV RX7 212 RX7 yX7_crowdAt wsX7_crowdAt) := goodIn_app (goodIn_of _ (by decide +kernel)) ggX7_crowd_X7_crowdAt
set_option maxRecDepth 20000 in
theorem ggX7_crowd_X7_answered : GoodIn wsX7_crowd wsX7_answered := goodIn_r _ [117, 19, 118, 119, 120, 121, 122, 123, 124, 125, 126, 127, 128] (by decide +kernel) (by decide +kernel)
set_option maxRecDepth 20000 in
theorem gX7_crowd_X7_answered : GoodIn wsX7_crowd (wsV RX7 113 RX7 yX7_answered wsX7_answered) := goodIn_app (goodIn_of _ (by decide +kernel)) ggX7_crowd_X7_answered
set_option maxRecDepth 20000 in
theorem ggX7_farthest_X7_troubleOfNumber : GoodIn wsX7_farthest wsX7_troubleOfNumber := goodIn_r _ [13, 14, 15, 16, 12, 17, 1, 2, 18, 19, 20, 117, 118, 119, 120, 121, 122, 123, 124, 125, 126, 127, 128, 129, 130, 131, 132, 133, 134, 135, 136, 137, 138, 139, 140, 141, 142] (by decide +kernel) (by decide +kernel)
set_option maxRecDepth 20000 in
theorem gX7_farthest_X7_troubleOfNumber : GoodIn wsX7_farthest (wsV RX7 188 RX7 yX7_troubleOfNumber wsX7_troubleOfNumber) := goodIn_app (goodIn_of _ (by decide +kernel)) ggX7_farthest_X7_troubleOfNumber
set_option maxRecDepth 20000 in
theorem ggX7_farthest_X7_refused : GoodIn wsX7_farthest wsX7_refused := goodIn_r _ [24, 25, 117, 118, 119, 120, 121, 122, 123, 124, 125, 126, 127] (by decide +kernel) (by decide +kernel)
set_option maxRecDepth 20000 in
theorem gX7_farthest_X7_refused : GoodIn wsX7_farthest (wsV RX7 82 RX7 yX7_refused wsX7_refused) := goodIn_app (goodIn_of _ (by decide +kernel)) ggX7_farthest_X7_refused
set_option maxRecDepth 20000 in
theorem ggX7_farthest_X7_runAhead : GoodIn wsX7_farthest wsX7_runAhead := goodIn_r _ [29, 3, 30, 31, 32, 33, 34, 35, 36, 37, 38, 39, 40, 41, 42, 43, 44, 45, 12, 46, 1, 47, 48, 49, 50, 51, 52, 53, 54, 55, 56, 57, 58, 59, 60, 61, 62, 63, 64, 19, 20, 65, 66, 67, 68, 69, 70, 71, 72, 73, 74, 75, 76, 77, 78, 79, 80, 81, 82, 83, 84, 85, 86, 87, 88, 89, 90, 91, 92, 93, 94, 95, 96, 97, 98, 99, 100, 101, 102, 103, 104, 105, 106, 107, 108, 109, 110, 111, 112, 117, 118, 119, 120, 121, 122, 123, 124, 125, 126, 127, 143, 144, 145, 146, 147, 148, 149, 128, 129, 130, 131, 132, 133, 134, 135, 136, 137, 138, 139, 140, 141, 142, 150, 151, 152, 153] (by decide +kernel) (by decide +kernel)
set_option maxRecDepth 20000 in
theorem gX7_farthest_X7_runAhead : GoodIn wsX7_farthest (wsV RX7 185 RX7 yX7_runAhead wsX7_runAhead) := goodIn_app (goodIn_of _ (by decide +kernel)) ggX7_farthest_X7_runAhead
set_option maxRecDepth 20000 in
theorem ggX7_farthest_X7_answered : GoodIn wsX7_farthest wsX7_answered := goodIn_r _ [116, 25, 117, 118, 119, 120, 121, 122, 123, 124, 125, 126, 127] (by decide +kernel) (by decide +kernel)
set_option maxRecDepth 20000 in
theorem gX7_farthest_X7_answered : GoodIn wsX7_farthest (wsV RX7 113 RX7 yX7_answered wsX7_answered) := goodIn_app (goodIn_of _ (by decide +kernel)) ggX7_farthest_X7_answered
set_option maxRecDepth 20000 in
theorem ggX7_nearBy_X7_troubleOfFigureWithin : GoodIn wsX7_nearBy wsX7_troubleOfFigureWithin := goodIn_r _ [11, 12, 13, 14, 10, 15, 3, 16, 17, 18, 19, 109, 110, 111, 112, 113, 114, 115, 116, 117, 118, 119, 120, 121, 122, 123, 124, 125, 126, 127, 128, 129, 130, 131, 132, 133, 134] (by decide +kernel) (by decide +kernel)
set_option maxRecDepth 20000 in
theorem gX7_nearBy_X7_troubleOfFigureWithin : GoodIn wsX7_nearBy (wsV RX7 181 RX7 yX7_troubleOfFigureWithin wsX7_troubleOfFigureWithin) := goodIn_app (goodIn_of _ (by decide +kernel)) ggX7_nearBy_X7_troubleOfFigureWithin
set_option maxRecDepth 20000 in
theorem ggX7_nearBy_X7_refused : GoodIn wsX7_nearBy wsX7_refused := goodIn_r _ [23, 24, 109, 110, 111, 112, 113, 114, 115, 116, 117, 118, 119] (by decide +kernel) (by decide +kernel)
set_option maxRecDepth 20000 in
theorem gX7_nearBy_X7_refused : GoodIn wsX7_nearBy (wsV RX7 82 RX7 yX7_refused wsX7_refused) := goodIn_app (goodIn_of _ (by decide +kernel)) ggX7_nearBy_X7_refused
set_option maxRecDepth 20000 in
theorem ggX7_nearBy_X5_copyFrom : GoodIn wsX7_nearBy wsX5_copyFrom := goodIn_r _ [29, 30, 31, 32, 33, 34, 35, 36, 135, 136, 137, 138, 139, 140, 141] (by decide +kernel) (by decide +kernel)
set_option maxRecDepth 20000 in
theorem gX7_nearBy_X5_copyFrom : GoodIn wsX7_nearBy (wsV RX7 194 RX5 yX5_copyFrom wsX5_copyFrom) := goodIn_app (goodIn_of _ (by decide +kernel)) ggX7_nearBy_X5_copyFrom
set_option maxRecDepth 20000 in
theorem ggX7_nearBy_X6_placesIn : GoodIn wsX7_nearBy wsX6_placesIn := goodIn_r _ [41, 42, 43, 44, 45, 46, 40, 47, 48, 49, 142, 143, 144, 145] (by decide +kernel) (by decide +kernel)
set_option maxRecDepth 20000 in
theorem gX7_nearBy_X6_placesIn : GoodIn wsX7_nearBy (wsV RX7 220 RX6 yX6_placesIn wsX6_placesIn) := goodIn_app (goodIn_of _ (by decide +kernel)) ggX7_nearBy_X6_placesIn
set_option maxRecDepth 20000 in
theorem ggX7_nearBy_X0_pass : GoodIn wsX7_nearBy wsX0_pass := goodIn_r _ [54, 55, 56, 57, 58, 59, 60, 61, 62, 63, 53, 64, 65, 66, 18, 10, 19, 67, 68, 69, 70, 71, 72, 73, 74, 75, 76, 28, 77, 33, 78, 79, 80, 81, 82, 83, 84, 38, 39, 40, 41, 42, 43, 44, 45, 46, 47, 48, 49, 85, 86, 87, 88, 89, 90, 91, 92, 93, 94, 95, 96, 97, 98, 99, 100, 101, 102, 31, 32, 135, 136, 137, 138, 139, 140, 141, 120, 121, 122, 123, 124, 125, 126, 127, 128, 129, 130, 131, 132, 133, 134, 142, 143, 144, 145] (by decide +kernel) (by decide +kernel)
set_option maxRecDepth 20000 in
theorem gX7_nearBy_X0_pass : GoodIn wsX7_nearBy (wsV RX7 205 RX0 yX0_pass wsX0_pass) := goodIn_app (goodIn_of _ (by decide +kernel)) ggX7_nearBy_X0_pass
set_option maxRecDepth 20000 in
theorem ggX7_nearBy_X5_isGone : GoodIn wsX7_nearBy wsX5_isGone := goodIn_r _ [77, 33, 78, 10, 79, 135, 136, 137, 138, 139, 140, 141] (by decide +kernel) (by decide +kernel)
set_option maxRecDepth 20000 in
theorem gX7_nearBy_X5_isGone : GoodIn wsX7_nearBy (wsV RX7 129 RX5 yX5_isGone wsX5_isGone) := goodIn_app (goodIn_of _ (by decide +kernel)) ggX7_nearBy_X5_isGone
set_option maxRecDepth 20000 in
theorem ggX7_nearBy_X7_hasBit : GoodIn wsX7_nearBy wsX7_hasBit := goodIn_r _ [79] (by decide +kernel) (by decide +kernel)
set_option maxRecDepth 20000 in
theorem gX7_nearBy_X7_hasBit : GoodIn wsX7_nearBy (va_wsS RX7 223 yX7_hasBit wsX7_hasBit) := goodIn_app (goodIn_of _ (by decide +kernel)) ggX7_nearBy_X7_hasBit
set_option maxRecDepth 20000 in
theorem ggX7_nearBy_X7_answered : GoodIn wsX7_nearBy wsX7_answered := goodIn_r _ [108, 24, 109, 110, 111, 112, 113, 114, 115, 116, 117, 118, 119] (by decide +kernel) (by decide +kernel)
set_option maxRecDepth 20000 in
theorem gX7_nearBy_X7_answered : GoodIn wsX7_nearBy (wsV RX7 113 RX7 yX7_answered wsX7_answered) := goodIn_app (goodIn_of _ (by decide +kernel)) ggX7_nearBy_X7_answered
set_option maxRecDepth 20000 in
theorem ggX7_spoken_X7_troubleOfFigureWithin : GoodIn wsX7_spoken wsX7_troubleOfFigureWithin := goodIn_r _ [11, 12, 13, 14, 10, 15, 4, 16, 17, 18, 19, 107, 108, 109, 110, 111, 112, 113, 114, 115, 116, 117, 125, 126, 127, 128, 129, 130, 131, 132, 133, 134, 135, 136, 137, 138, 139] (by decide +kernel) (by decide +kernel)
set_option maxRecDepth 20000 in
theorem gX7_spoken_X7_troubleOfFigureWithin : GoodIn wsX7_spoken (wsV RX7 181 RX7 yX7_troubleOfFigureWithin wsX7_troubleOfFigureWithin) := goodIn_app (goodIn_of _ (by decide +kernel)) ggX7_spoken_X7_troubleOfFigureWithin
set_option maxRecDepth 20000 in
theorem ggX7_spoken_X7_refused : GoodIn wsX7_spoken wsX7_refused := goodIn_r _ [23, 24, 107, 108, 109, 110, 111, 112, 113, 114, 115, 116, 117] (by decide +kernel) (by decide +kernel)
set_option maxRecDepth 20000 in
theorem gX7_spoken_X7_refused : GoodIn wsX7_spoken (wsV RX7 82 RX7 yX7_refused wsX7_refused) := goodIn_app (goodIn_of _ (by decide +kernel)) ggX7_spoken_X7_refused
set_option maxRecDepth 20000 in
theorem ggX7_spoken_X5_copyFrom : GoodIn wsX7_spoken wsX5_copyFrom := goodIn_r _ [29, 30, 31, 32, 33, 34, 35, 36, 118, 119, 120, 121, 122, 123, 124] (by decide +kernel) (by decide +kernel)
set_option maxRecDepth 20000 in
theorem gX7_spoken_X5_copyFrom : GoodIn wsX7_spoken (wsV RX7 194 RX5 yX5_copyFrom wsX5_copyFrom) := goodIn_app (goodIn_of _ (by decide +kernel)) ggX7_spoken_X5_copyFrom
set_option maxRecDepth 20000 in
theorem ggX7_spoken_X0_partSaid : GoodIn wsX7_spoken wsX0_partSaid := goodIn_r _ [41, 42, 43, 18, 10, 19, 125, 126, 127, 128, 129, 130, 131, 132, 133, 134, 135, 136, 137, 138, 139] (by decide +kernel) (by decide +kernel)
set_option maxRecDepth 20000 in
theorem gX7_spoken_X0_partSaid : GoodIn wsX7_spoken (wsV RX7 227 RX0 yX0_partSaid wsX0_partSaid) := goodIn_app (goodIn_of _ (by decide +kernel)) ggX7_spoken_X0_partSaid
set_option maxRecDepth 20000 in
theorem ggX7_spoken_X0_pass : GoodIn wsX7_spoken wsX0_pass := goodIn_r _ [47, 48, 49, 50, 51, 52, 53, 54, 55, 56, 40, 57, 42, 43, 18, 10, 19, 58, 59, 60, 61, 62, 63, 64, 65, 66, 67, 28, 68, 33, 69, 70, 71, 72, 73, 74, 75, 76, 77, 78, 79, 80, 81, 82, 83, 84, 85, 86, 87, 88, 38, 39, 41, 89, 90, 91, 92, 93, 94, 95, 96, 97, 98, 99, 100, 101, 102, 31, 32, 118, 119, 120, 121, 122, 123, 124, 125, 126, 127, 128, 129, 130, 131, 132, 133, 134, 135, 136, 137, 138, 139, 140, 141, 142, 143] (by decide +kernel) (by decide +kernel)
set_option maxRecDepth 20000 in
theorem gX7_spoken_X0_pass : GoodIn wsX7_spoken (wsV RX7 205 RX0 yX0_pass wsX0_pass) := goodIn_app (goodIn_of _ (by decide +kernel)) ggX7_spoken_X0_pass
set_option maxRecDepth 20000 in
theorem ggX7_spoken_X7_answered : GoodIn wsX7_spoken wsX7_answered := goodIn_r _ [106, 24, 107, 108, 109, 110, 111, 112, 113, 114, 115, 116, 117] (by decide +kernel) (by decide +kernel)
set_option maxRecDepth 20000 in
theorem gX7_spoken_X7_answered : GoodIn wsX7_spoken (wsV RX7 113 RX7 yX7_answered wsX7_answered) := goodIn_app (goodIn_of _ (by decide +kernel)) ggX7_spoken_X7_answered
set_option maxRecDepth 20000 in
theorem ggX7_route_X7_isPlace : GoodIn wsX7_route wsX7_isPlace := goodIn_r _ [6, 7, 8, 9, 10, 5, 11, 140, 141, 142, 143, 144, 145, 146, 147, 148, 149, 150, 151, 152, 153, 154, 155, 156, 157, 158, 159, 160, 161, 162, 163, 164, 165] (by decide +kernel) (by decide +kernel)
set_option maxRecDepth 20000 in
theorem gX7_route_X7_isPlace : GoodIn wsX7_route (wsV RX7 230 RX7 yX7_isPlace wsX7_isPlace) := goodIn_app (goodIn_of _ (by decide +kernel)) ggX7_route_X7_isPlace
set_option maxRecDepth 20000 in
theorem ggX7_route_X7_refused : GoodIn wsX7_route wsX7_refused := goodIn_r _ [15, 16, 140, 141, 142, 143, 144, 145, 146, 147, 148, 149, 150] (by decide +kernel) (by decide +kernel)
set_option maxRecDepth 20000 in
theorem gX7_route_X7_refused : GoodIn wsX7_route (wsV RX7 82 RX7 yX7_refused wsX7_refused) := goodIn_app (goodIn_of _ (by decide +kernel)) ggX7_route_X7_refused
set_option maxRecDepth 20000 in
theorem ggX7_route_X7_within : GoodIn wsX7_route wsX7_within := goodIn_r _ [11] (by decide +kernel) (by decide +kernel)
set_option maxRecDepth 20000 in
theorem gX7_route_X7_within : GoodIn wsX7_route (va_wsS RX7 78 yX7_within wsX7_within) := goodIn_app (goodIn_of _ (by decide +kernel)) ggX7_route_X7_within
set_option maxRecDepth 20000 in
theorem ggX7_route_X7_planRoutes : GoodIn wsX7_route wsX7_planRoutes := goodIn_r _ [20, 21, 22, 1, 7, 8, 23, 24, 25, 26, 27, 28, 29, 30, 31, 32, 33, 34, 35, 36, 37, 5, 38, 39, 40, 41, 42, 43, 44, 45, 46, 47, 48, 49, 50, 51, 52, 53, 54, 55, 56, 57, 58, 10, 11, 59, 60, 61, 62, 63, 64, 65, 66, 67, 68, 69, 70, 71, 72, 73, 74, 75, 76, 77, 78, 79, 80, 81, 82, 83, 84, 85, 86, 87, 88, 89, 90, 91, 92, 93, 94, 95, 96, 97, 98, 99, 100, 101, 102, 103, 104, 105, 106, 107, 108, 109, 110, 111, 112, 113, 114, 115, 116, 117, 118, 119, 120, 121, 122, 123, 124, 125, 126, 127, 128, 129, 130, 131, 140, 141, 142, 143, 144, 145, 146, 147, 148, 149, 150, 151, 152, 153, 154, 155, 156, 157, 158, 159, 160, 161, 162, 163, 164, 165, 166, 167, 168, 169, 170, 171, 172, 173, 174, 175, 176, 177, 178, 179] (by decide +kernel) (by decide +kernel)
set_option maxRecDepth 20000 in
theorem gX7_route_X7_planRoutes : GoodIn wsX7_route (wsV RX7 233 RX7 yX7_planRoutes wsX7_planRoutes) := goodIn_app (goodIn_of _ (by decide +kernel)) ggX7_route_X7_planRoutes
set_option maxRecDepth 20000 in
theorem ggX7_route_X4_minutesWith : GoodIn wsX7_route wsX4_minutesWith := goodIn_r _ [135, 122, 123, 10, 5, 11, 177, 178, 179] (by decide +kernel) (by decide +kernel)
set_option maxRecDepth 20000 in
theorem gX7_route_X4_minutesWith : GoodIn wsX7_route (wsV RX7 236 RX4 yX4_minutesWith wsX4_minutesWith) := goodIn_app (goodIn_of _ (by decide +kernel)) ggX7_route_X4_minutesWith
set_option maxRecDepth 20000 in
theorem ggX7_route_X7_answered : GoodIn wsX7_route wsX7_answered := goodIn_r _ [139, 16, 140, 141, 142, 143, 144, 145, 146, 147, 148, 149, 150] (by decide +kernel) (by decide +kernel)
set_option maxRecDepth 20000 in
theorem gX7_route_X7_answered : GoodIn wsX7_route (wsV RX7 113 RX7 yX7_answered wsX7_answered) := goodIn_app (goodIn_of _ (by decide +kernel)) ggX7_route_X7_answered
set_option maxRecDepth 20000 in
theorem ggX7_routeAt_X7_isPlace : GoodIn wsX7_routeAt wsX7_isPlace := goodIn_r _ [6, 7, 8, 9, 10, 5, 11, 140, 141, 142, 143, 144, 145, 146, 147, 148, 149, 150, 151, 152, 153, 154, 155, 156, 157, 158, 159, 160, 161, 162, 163, 164, 165] (by decide +kernel) (by decide +kernel)
set_option maxRecDepth 20000 in
theorem gX7_routeAt_X7_isPlace : GoodIn wsX7_routeAt (wsV RX7 230 RX7 yX7_isPlace wsX7_isPlace) := goodIn_app (goodIn_of _ (by decide +kernel)) ggX7_routeAt_X7_isPlace
set_option maxRecDepth 20000 in
theorem ggX7_routeAt_X7_within : GoodIn wsX7_routeAt wsX7_within := goodIn_r _ [11] (by decide +kernel) (by decide +kernel)
set_option maxRecDepth 20000 in
theorem gX7_routeAt_X7_within : GoodIn wsX7_routeAt (va_wsS RX7 78 yX7_within wsX7_within) := goodIn_app (goodIn_of _ (by decide +kernel)) ggX7_routeAt_X7_within
set_option maxRecDepth 20000 in
theorem ggX7_routeAt_X7_refused : GoodIn wsX7_routeAt wsX7_refused := goodIn_r _ [15, 16, 140, 141, 142, 143, 144, 145, 146, 147, 148, 149, 150] (by decide +kernel) (by decide +kernel)
set_option maxRecDepth 20000 in
theorem gX7_routeAt_X7_refused : GoodIn wsX7_routeAt (wsV RX7 82 RX7 yX7_refused wsX7_refused) := goodIn_app (goodIn_of _ (by decide +kernel)) ggX7_routeAt_X7_refused
set_option maxRecDepth 20000 in
theorem ggX7_routeAt_X7_planRoutes : GoodIn wsX7_routeAt wsX7_planRoutes := goodIn_r _ [20, 21, 22, 1, 7, 8, 23, 24, 25, 26, 27, 28, 29, 30, 31, 32, 33, 34, 35, 36, 37, 5, 38, 39, 40, 41, 42, 43, 44, 45, 46, 47, 48, 49, 50, 51, 52, 53, 54, 55, 56, 57, 58, 10, 11, 59, 60, 61, 62, 63, 64, 65, 66, 67, 68, 69, 70, 71, 72, 73, 74, 75, 76, 77, 78, 79, 80, 81, 82, 83, 84, 85, 86, 87, 88, 89, 90, 91, 92, 93, 94, 95, 96, 97, 98, 99, 100, 101, 102, 103, 104, 105, 106, 107, 108, 109, 110, 111, 112, 113, 114, 115, 116, 117, 118, 119, 120, 121, 122, 123, 124, 125, 126, 127, 128, 129, 130, 131, 140, 141, 142, 143, 144, 145, 146, 147, 148, 149, 150, 151, 152, 153, 154, 155, 156, 157, 158, 159, 160, 161, 162, 163, 164, 165, 166, 167, 168, 169, 170, 171, 172, 173, 174, 175, 176, 177, 178, 179] (by decide +kernel) (by decide +kernel)
set_option maxRecDepth 20000 in
theorem gX7_routeAt_X7_planRoutes : GoodIn wsX7_routeAt (wsV RX7 233 RX7 yX7_planRoutes wsX7_planRoutes) := goodIn_app (goodIn_of _ (by decide +kernel)) ggX7_routeAt_X7_planRoutes
set_option maxRecDepth 20000 in
theorem ggX7_routeAt_X4_placeIn : GoodIn wsX7_routeAt wsX4_placeIn := goodIn_r _ [135, 124, 125, 126, 111, 127, 122, 128, 129, 130, 131, 123, 113, 177, 178, 179] (by decide +kernel) (by decide +kernel)
set_option maxRecDepth 20000 in
theorem gX7_routeAt_X4_placeIn : GoodIn wsX7_routeAt (wsV RX7 239 RX4 yX4_placeIn wsX4_placeIn) := goodIn_app (goodIn_of _ (by decide +kernel)) ggX7_routeAt_X4_placeIn
set_option maxRecDepth 20000 in
theorem ggX7_routeAt_X7_answered : GoodIn wsX7_routeAt wsX7_answered := goodIn_r _ [139, 16, 140, 141, 142, 143, 144, 145, 146, 147, 148, 149, 150] (by decide +kernel) (by decide +kernel)
set_option maxRecDepth 20000 in
theorem gX7_routeAt_X7_answered : GoodIn wsX7_routeAt (wsV RX7 113 RX7 yX7_answered wsX7_answered) := goodIn_app (goodIn_of _ (by decide +kernel)) ggX7_routeAt_X7_answered
set_option maxRecDepth 20000 in
theorem ggX7_stand_X7_troubleOfNumber : GoodIn wsX7_stand wsX7_troubleOfNumber := goodIn_r _ [8, 9, 10, 11, 7, 12, 1, 2, 13, 14, 15, 144, 145, 146, 147, 148, 149, 150, 151, 152, 153, 154, 155, 156, 157, 158, 159, 160, 161, 162, 163, 164, 165, 166, 167, 168, 169] (by decide +kernel) (by decide +kernel)
set_option maxRecDepth 20000 in
theorem gX7_stand_X7_troubleOfNumber : GoodIn wsX7_stand (wsV RX7 188 RX7 yX7_troubleOfNumber wsX7_troubleOfNumber) := goodIn_app (goodIn_of _ (by decide +kernel)) ggX7_stand_X7_troubleOfNumber
set_option maxRecDepth 20000 in
theorem ggX7_stand_X7_refused : GoodIn wsX7_stand wsX7_refused := goodIn_r _ [19, 20, 144, 145, 146, 147, 148, 149, 150, 151, 152, 153, 154] (by decide +kernel) (by decide +kernel)
set_option maxRecDepth 20000 in
theorem gX7_stand_X7_refused : GoodIn wsX7_stand (wsV RX7 82 RX7 yX7_refused wsX7_refused) := goodIn_app (goodIn_of _ (by decide +kernel)) ggX7_stand_X7_refused
set_option maxRecDepth 20000 in
theorem ggX7_stand_X7_planRoutes : GoodIn wsX7_stand wsX7_planRoutes := goodIn_r _ [24, 25, 26, 3, 1, 2, 27, 28, 29, 30, 31, 32, 33, 34, 35, 36, 37, 38, 39, 40, 41, 7, 42, 43, 44, 45, 46, 47, 48, 49, 50, 51, 52, 53, 54, 55, 56, 57, 58, 59, 60, 61, 62, 14, 15, 63, 64, 65, 66, 67, 68, 69, 70, 71, 72, 73, 74, 75, 76, 77, 78, 79, 80, 81, 82, 83, 84, 85, 86, 87, 88, 89, 90, 91, 92, 93, 94, 95, 96, 97, 98, 99, 100, 101, 102, 103, 104, 105, 106, 107, 108, 109, 110, 111, 112, 113, 114, 115, 116, 117, 118, 119, 120, 121, 122, 123, 124, 125, 126, 127, 128, 129, 130, 131, 132, 133, 134, 135, 144, 145, 146, 147, 148, 149, 150, 151, 152, 153, 154, 155, 156, 157, 158, 159, 160, 161, 162, 163, 164, 165, 166, 167, 168, 169, 170, 171, 172, 173, 174, 175, 176, 177, 178, 179, 180, 181, 182, 183] (by decide +kernel) (by decide +kernel)
set_option maxRecDepth 20000 in
theorem gX7_stand_X7_planRoutes : GoodIn wsX7_stand (wsV RX7 233 RX7 yX7_planRoutes wsX7_planRoutes) := goodIn_app (goodIn_of _ (by decide +kernel)) ggX7_stand_X7_planRoutes
set_option maxRecDepth 20000 in
theorem ggX7_stand_X4_minutesWith : GoodIn wsX7_stand wsX4_minutesWith := goodIn_r _ [139, 126, 127, 14, 7, 15, 181, 182, 183] (by decide +kernel) (by decide +kernel)
set_option maxRecDepth 20000 in
theorem gX7_stand_X4_minutesWith : GoodIn wsX7_stand (wsV RX7 236 RX4 yX4_minutesWith wsX4_minutesWith) := goodIn_app (goodIn_of _ (by decide +kernel)) ggX7_stand_X4_minutesWith
set_option maxRecDepth 20000 in
theorem ggX7_stand_X7_answered : GoodIn wsX7_stand wsX7_answered := goodIn_r _ [143, 20, 144, 145, 146, 147, 148, 149, 150, 151, 152, 153, 154] (by decide +kernel) (by decide +kernel)
set_option maxRecDepth 20000 in
theorem gX7_stand_X7_answered : GoodIn wsX7_stand (wsV RX7 113 RX7 yX7_answered wsX7_answered) := goodIn_app (goodIn_of _ (by decide +kernel)) ggX7_stand_X7_answered
set_option maxRecDepth 20000 in
theorem ggX7_guard_X7_troubleOfNumber : GoodIn wsX7_guard wsX7_troubleOfNumber := goodIn_r _ [9, 10, 11, 12, 8, 13, 2, 4, 14, 15, 16, 119, 120, 121, 122, 123, 124, 125, 126, 127, 128, 129, 130, 131, 132, 133, 134, 135, 136, 137, 138, 139, 140, 141, 142, 143, 144] (by decide +kernel) (by decide +kernel)
set_option maxRecDepth 20000 in
theorem gX7_guard_X7_troubleOfNumber : GoodIn wsX7_guard (wsV RX7 188 RX7 yX7_troubleOfNumber wsX7_troubleOfNumber) := goodIn_app (goodIn_of _ (by decide +kernel)) ggX7_guard_X7_troubleOfNumber
set_option maxRecDepth 20000 in
theorem ggX7_guard_X7_refused : GoodIn wsX7_guard wsX7_refused := goodIn_r _ [20, 21, 119, 120, 121, 122, 123, 124, 125, 126, 127, 128, 129] (by decide +kernel) (by decide +kernel)
set_option maxRecDepth 20000 in
theorem gX7_guard_X7_refused : GoodIn wsX7_guard (wsV RX7 82 RX7 yX7_refused wsX7_refused) := goodIn_app (goodIn_of _ (by decide +kernel)) ggX7_guard_X7_refused
set_option maxRecDepth 20000 in
theorem ggX7_guard_X6_copyFrom : GoodIn wsX7_guard wsX6_copyFrom := goodIn_r _ [26, 27, 28, 29, 30, 145, 146, 147, 148] (by decide +kernel) (by decide +kernel)
set_option maxRecDepth 20000 in
theorem gX7_guard_X6_copyFrom : GoodIn wsX7_guard (wsV RX7 242 RX6 yX6_copyFrom wsX6_copyFrom) := goodIn_app (goodIn_of _ (by decide +kernel)) ggX7_guard_X6_copyFrom
set_option maxRecDepth 20000 in
theorem ggX7_guard_X7_postsHold : GoodIn wsX7_guard wsX7_postsHold := goodIn_r _ [34, 1, 35, 36, 37, 38, 39, 40, 41, 42, 43, 44, 45, 46, 47, 48, 49, 50, 51, 52, 8, 53, 54, 2, 55, 56, 57, 58, 59, 60, 61, 62, 63, 64, 65, 66, 67, 68, 69, 70, 71, 15, 16, 72, 73, 74, 75, 76, 77, 78, 79, 80, 81, 82, 83, 84, 85, 86, 87, 88, 89, 90, 91, 25, 92, 28, 27, 93, 94, 95, 96, 30, 29, 97, 98, 99, 100, 101, 102, 103, 104, 105, 106, 107, 108, 109, 110, 111, 112, 113, 114, 119, 120, 121, 122, 123, 124, 125, 126, 127, 128, 129, 145, 146, 147, 148, 149, 150, 151, 152, 153, 154, 155, 130, 131, 132, 133, 134, 135, 136, 137, 138, 139, 140, 141, 142, 143, 144] (by decide +kernel) (by decide +kernel)
set_option maxRecDepth 20000 in
theorem gX7_guard_X7_postsHold : GoodIn wsX7_guard (wsV RX7 245 RX7 yX7_postsHold wsX7_postsHold) := goodIn_app (goodIn_of _ (by decide +kernel)) ggX7_guard_X7_postsHold
set_option maxRecDepth 20000 in
theorem ggX7_guard_X7_answered : GoodIn wsX7_guard wsX7_answered := goodIn_r _ [118, 21, 119, 120, 121, 122, 123, 124, 125, 126, 127, 128, 129] (by decide +kernel) (by decide +kernel)
set_option maxRecDepth 20000 in
theorem gX7_guard_X7_answered : GoodIn wsX7_guard (wsV RX7 113 RX7 yX7_answered wsX7_answered) := goodIn_app (goodIn_of _ (by decide +kernel)) ggX7_guard_X7_answered
set_option maxRecDepth 20000 in
theorem ggX7_windBest_X7_hasGallery : GoodIn wsX7_windBest wsX7_hasGallery := goodIn_r _ [10, 1, 2, 105, 106, 107, 108, 109, 110, 111, 112, 113, 114, 115, 116, 117, 118, 119, 120, 121, 122, 123, 124, 125, 126, 127, 128, 129, 130] (by decide +kernel) (by decide +kernel)
set_option maxRecDepth 20000 in
theorem gX7_windBest_X7_hasGallery : GoodIn wsX7_windBest (wsV RX7 154 RX7 yX7_hasGallery wsX7_hasGallery) := goodIn_app (goodIn_of _ (by decide +kernel)) ggX7_windBest_X7_hasGallery
set_option maxRecDepth 20000 in
theorem ggX7_windBest_X7_refused : GoodIn wsX7_windBest wsX7_refused := goodIn_r _ [14, 15, 105, 106, 107, 108, 109, 110, 111, 112, 113, 114, 115] (by decide +kernel) (by decide +kernel)
set_option maxRecDepth 20000 in
theorem gX7_windBest_X7_refused : GoodIn wsX7_windBest (wsV RX7 82 RX7 yX7_refused wsX7_refused) := goodIn_app (goodIn_of _ (by decide +kernel)) ggX7_windBest_X7_refused
set_option maxRecDepth 20000 in
theorem ggX7_windBest_X5_copyFrom : GoodIn wsX7_windBest wsX5_copyFrom := goodIn_r _ [20, 21, 22, 23, 24, 25, 26, 27, 131, 132, 133, 134, 135, 136, 137] (by decide +kernel) (by decide +kernel)
set_option maxRecDepth 20000 in
theorem gX7_windBest_X5_copyFrom : GoodIn wsX7_windBest (wsV RX7 194 RX5 yX5_copyFrom wsX5_copyFrom) := goodIn_app (goodIn_of _ (by decide +kernel)) ggX7_windBest_X5_copyFrom
set_option maxRecDepth 20000 in
theorem ggX7_windBest_X5_startTurn : GoodIn wsX7_windBest wsX5_startTurn := goodIn_r _ [31, 22, 23, 131, 132, 133, 134, 135, 136, 137] (by decide +kernel) (by decide +kernel)
set_option maxRecDepth 20000 in
theorem gX7_windBest_X5_startTurn : GoodIn wsX7_windBest (wsV RX7 248 RX5 yX5_startTurn wsX5_startTurn) := goodIn_app (goodIn_of _ (by decide +kernel)) ggX7_windBest_X5_startTurn
set_option maxRecDepth 20000 in
theorem ggX7_windBest_X7_minutesTillGone : GoodIn wsX7_windBest wsX7_minutesTillGone := goodIn_r _ [35, 3, 36, 1, 37, 38, 39, 40, 41, 42, 43, 44, 45, 46, 47, 48, 49, 50, 51, 52, 53, 54, 9, 55, 56, 57, 58, 59, 60, 61, 62, 63, 64, 65, 19, 66, 24, 67, 68, 69, 70, 71, 72, 73, 74, 75, 76, 77, 78, 79, 80, 81, 82, 83, 84, 85, 86, 87, 88, 89, 90, 91, 92, 93, 94, 95, 96, 97, 98, 99, 100, 29, 30, 31, 22, 23, 105, 106, 107, 108, 109, 110, 111, 112, 113, 114, 115, 131, 132, 133, 134, 135, 136, 137, 116, 117, 118, 119, 120, 121, 122, 123, 124, 125, 126, 127, 128, 129, 130, 138, 139, 140, 141] (by decide +kernel) (by decide +kernel)
set_option maxRecDepth 20000 in
theorem gX7_windBest_X7_minutesTillGone : GoodIn wsX7_windBest (wsV RX7 198 RX7 yX7_minutesTillGone wsX7_minutesTillGone) := goodIn_app (goodIn_of _ (by decide +kernel)) ggX7_windBest_X7_minutesTillGone
