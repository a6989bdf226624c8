set_option maxRecDepth 20000 in
theorem gX8_begin_X8_watchAsTold : GoodIn wsX8_begin (wsV RX8 267 RX8 yX8_watchAsTold wsX8_watchAsTold) := goodIn_s _ [(3, 9), (15, 40)] rfl (by decide +kernel)
set_option maxRecDepth 20000 in
theorem gX8_begin_X8_copy : GoodIn wsX8_begin (va_wsS RX8 169 yX8_copy wsX8_copy) := goodIn_s _ [(12, 2), (6, 1), (14, 1)] rfl (by decide +kernel)
set_option maxRecDepth 20000 in
theorem gX8_minutesOn_X8_begin : GoodIn wsX8_minutesOn (wsV RX8 270 RX8 yX8_begin wsX8_begin) := goodIn_s _ [(2, 6), (1, 1), (8, 3), (5, 1), (11, 8), (49, 40)] rfl (by decide +kernel)
set_option maxRecDepth 20000 in
theorem gX8_minutesOn_X8_minuteOn : GoodIn wsX8_minutesOn (wsV RX8 273 RX8 yX8_minuteOn wsX8_minuteOn) := goodIn_s _ [(19, 3), (5, 1), (22, 2), (12, 1), (24, 4), (5, 1), (28, 9), (15, 1), (37, 4), (14, 1), (13, 1), (41, 48)] rfl (by decide +kernel)
set_option maxRecDepth 20000 in
theorem gX8_figure_X8_good : GoodIn wsX8_figure (wsV RX8 160 RX8 yX8_good wsX8_good) := goodIn_s _ [(3, 7), (22, 40)] rfl (by decide +kernel)
set_option maxRecDepth 20000 in
theorem gX8_figure_X8_isFigure : GoodIn wsX8_figure (wsV RX8 277 RX8 yX8_isFigure wsX8_isFigure) := goodIn_s _ [(10, 3), (6, 1), (13, 2), (1, 1), (15, 2), (6, 1), (17, 1), (22, 40)] rfl (by decide +kernel)
set_option maxRecDepth 20000 in
theorem gX8_figure_X8_in : GoodIn wsX8_figure (va_wsS RX8 142 yX8_in wsX8_in) := goodIn_s _ [(15, 2), (6, 1), (17, 1)] rfl (by decide +kernel)
set_option maxRecDepth 20000 in
theorem gX8_figure_X8_no : GoodIn wsX8_figure (wsV RX8 163 RX8 yX8_no wsX8_no) := goodIn_s _ [(18, 3), (6, 1), (21, 1), (9, 1), (22, 40)] rfl (by decide +kernel)
set_option maxRecDepth 20000 in
theorem gX8_watcher_X8_good : GoodIn wsX8_watcher (wsV RX8 160 RX8 yX8_good wsX8_good) := goodIn_s _ [(3, 7), (33, 40)] rfl (by decide +kernel)
set_option maxRecDepth 20000 in
theorem gX8_watcher_X8_isWatcher : GoodIn wsX8_watcher (wsV RX8 280 RX8 yX8_isWatcher wsX8_isWatcher) := goodIn_s _ [(10, 3), (6, 1), (13, 2), (1, 1), (15, 2), (6, 1), (17, 1), (33, 40)] rfl (by decide +kernel)
set_option maxRecDepth 20000 in
theorem gX8_watcher_X8_in : GoodIn wsX8_watcher (va_wsS RX8 142 yX8_in wsX8_in) := goodIn_s _ [(15, 2), (6, 1), (17, 1)] rfl (by decide +kernel)
set_option maxRecDepth 20000 in
theorem gX8_watcher_X8_no : GoodIn wsX8_watcher (wsV RX8 163 RX8 yX8_no wsX8_no) := goodIn_s _ [(18, 3), (6, 1), (21, 1), (9, 1), (33, 40)] rfl (by decide +kernel)
set_option maxRecDepth 20000 in
theorem gX8_watcher_X8_watchAsTold : GoodIn wsX8_watcher (wsV RX8 267 RX8 yX8_watchAsTold wsX8_watchAsTold) := goodIn_s _ [(22, 3), (6, 1), (25, 1), (1, 1), (26, 3), (33, 40)] rfl (by decide +kernel)
set_option maxRecDepth 20000 in
theorem gX8_watcher_X8_watcherAt : GoodIn wsX8_watcher (wsV RX8 242 RX8 yX8_watcherAt wsX8_watcherAt) := goodIn_s _ [(29, 3), (6, 1), (32, 1), (27, 1), (26, 1), (33, 40)] rfl (by decide +kernel)
set_option maxRecDepth 20000 in
theorem gX8_alive_X8_good : GoodIn wsX8_alive (wsV RX8 160 RX8 yX8_good wsX8_good) := goodIn_s _ [(3, 7), (14, 40)] rfl (by decide +kernel)
set_option maxRecDepth 20000 in
theorem gX8_alive_X8_no : GoodIn wsX8_alive (wsV RX8 163 RX8 yX8_no wsX8_no) := goodIn_s _ [(10, 3), (6, 1), (13, 1), (9, 1), (14, 40)] rfl (by decide +kernel)
set_option maxRecDepth 20000 in
theorem gX8_left_X8_good : GoodIn wsX8_left (wsV RX8 160 RX8 yX8_good wsX8_good) := goodIn_s _ [(4, 7), (15, 40)] rfl (by decide +kernel)
set_option maxRecDepth 20000 in
theorem gX8_left_X8_no : GoodIn wsX8_left (wsV RX8 163 RX8 yX8_no wsX8_no) := goodIn_s _ [(11, 3), (7, 1), (14, 1), (10, 1), (15, 40)] rfl (by decide +kernel)
set_option maxRecDepth 20000 in
theorem gX8_caught_X8_good : GoodIn wsX8_caught (wsV RX8 160 RX8 yX8_good wsX8_good) := goodIn_s _ [(3, 7), (14, 40)] rfl (by decide +kernel)
set_option maxRecDepth 20000 in
theorem gX8_caught_X8_no : GoodIn wsX8_caught (wsV RX8 163 RX8 yX8_no wsX8_no) := goodIn_s _ [(10, 3), (6, 1), (13, 1), (9, 1), (14, 40)] rfl (by decide +kernel)
set_option maxRecDepth 20000 in
theorem gX8_goRound_X8_nextOf : GoodIn wsX8_goRound (wsV RX8 264 RX8 yX8_nextOf wsX8_nextOf) := goodIn_s _ [(5, 46)] rfl (by decide +kernel)
set_option maxRecDepth 20000 in
theorem gX8_turnOf_X8_good : GoodIn wsX8_turnOf (wsV RX8 160 RX8 yX8_good wsX8_good) := goodIn_s _ [(3, 7), (38, 40)] rfl (by decide +kernel)
set_option maxRecDepth 20000 in
theorem gX8_turnOf_X8_in : GoodIn wsX8_turnOf (va_wsS RX8 142 yX8_in wsX8_in) := goodIn_s _ [(10, 2), (6, 1), (12, 1)] rfl (by decide +kernel)
set_option maxRecDepth 20000 in
theorem gX8_turnOf_X8_why : GoodIn wsX8_turnOf (wsV RX8 290 RX8 yX8_why wsX8_why) := goodIn_s _ [(13, 3), (6, 1), (16, 1)] rfl (by decide +kernel)
set_option maxRecDepth 20000 in
theorem gX8_turnOf_X8_no : GoodIn wsX8_turnOf (wsV RX8 163 RX8 yX8_no wsX8_no) := goodIn_s _ [(17, 3), (6, 1), (20, 1), (9, 1), (38, 40)] rfl (by decide +kernel)
set_option maxRecDepth 20000 in
theorem gX8_turnOf_X8_goRound : GoodIn wsX8_turnOf (wsV RX8 294 RX8 yX8_goRound wsX8_goRound) := goodIn_s _ [(21, 3), (6, 1), (24, 8), (6, 1), (32, 2), (38, 40)] rfl (by decide +kernel)
set_option maxRecDepth 20000 in
theorem gX8_turnOf_X8_turnAt : GoodIn wsX8_turnOf (wsV RX8 297 RX8 yX8_turnAt wsX8_turnAt) := goodIn_s _ [(34, 3), (6, 1), (37, 1), (27, 1), (26, 1), (28, 1), (38, 40)] rfl (by decide +kernel)
set_option maxRecDepth 20000 in
theorem gX8_turnIn_X8_good : GoodIn wsX8_turnIn (wsV RX8 160 RX8 yX8_good wsX8_good) := goodIn_s _ [(4, 7), (33, 40)] rfl (by decide +kernel)
set_option maxRecDepth 20000 in
theorem gX8_turnIn_X8_isFigure : GoodIn wsX8_turnIn (wsV RX8 277 RX8 yX8_isFigure wsX8_isFigure) := goodIn_s _ [(11, 3), (7, 1), (14, 5), (7, 1), (19, 1), (33, 40)] rfl (by decide +kernel)
set_option maxRecDepth 20000 in
theorem gX8_turnIn_X8_no : GoodIn wsX8_turnIn (wsV RX8 163 RX8 yX8_no wsX8_no) := goodIn_s _ [(20, 3), (7, 1), (23, 1), (10, 1), (33, 40)] rfl (by decide +kernel)
