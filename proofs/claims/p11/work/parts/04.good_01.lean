set_option maxRecDepth 20000 in
theorem gX4_aim_X7_within_n18 : GoodIn wsX4_aim (wsX7_within) := goodIn_s _ [(4, 1)] rfl (by decide +kernel)
set_option maxRecDepth 20000 in
theorem gX4_weigh_X4_step : GoodIn wsX4_weigh (wsV RX4 32 RX4 yX4_step wsX4_step) := goodIn_s _ [(7, 5), (5, 1), (12, 3), (10, 1), (15, 1), (6, 1), (16, 4)] rfl (by decide +kernel)
set_option maxRecDepth 20000 in
theorem gX4_weigh_X4_worth : GoodIn wsX4_weigh (wsV RX4 35 RX4 yX4_worth wsX4_worth) := goodIn_s _ [(12, 3), (10, 1), (15, 1), (6, 1), (16, 4)] rfl (by decide +kernel)
set_option maxRecDepth 20000 in
theorem gX4_step_X4_worth : GoodIn wsX4_step (wsV RX4 35 RX4 yX4_worth wsX4_worth) := goodIn_s _ [(2, 10)] rfl (by decide +kernel)
set_option maxRecDepth 20000 in
theorem gX4_minutesWith_X7_within_n18 : GoodIn wsX4_minutesWith (wsX7_within) := goodIn_s _ [(5, 1)] rfl (by decide +kernel)
set_option maxRecDepth 20000 in
theorem gX4_placeIn_X4_step : GoodIn wsX4_placeIn (wsV RX4 32 RX4 yX4_step wsX4_step) := goodIn_s _ [(1, 9), (4, 1), (10, 6)] rfl (by decide +kernel)
set_option maxRecDepth 20000 in
theorem gX5_begin_X5_startTurn : GoodIn wsX5_begin (wsV RX5 28 RX5 yX5_startTurn wsX5_startTurn) := goodIn_s _ [(6, 14)] rfl (by decide +kernel)
set_option maxRecDepth 20000 in
theorem gX5_isGone_X7_hasBit_n38 : GoodIn wsX5_isGone (wsX7_hasBit) := goodIn_s _ [(4, 1)] rfl (by decide +kernel)
set_option maxRecDepth 20000 in
theorem gX6_placesIn_X6_placeOf : GoodIn wsX6_placesIn (wsV RX6 25 RX6 yX6_placeOf wsX6_placeOf) := goodIn_s _ [(3, 11)] rfl (by decide +kernel)
set_option maxRecDepth 20000 in
theorem gX7_figure_X7_isFigure : GoodIn wsX7_figure (wsV RX7 116 RX7 yX7_isFigure wsX7_isFigure) := goodIn_s _ [(7, 5), (1, 1), (12, 3), (10, 1), (15, 1), (33, 26)] rfl (by decide +kernel)
set_option maxRecDepth 20000 in
theorem gX7_figure_X7_within : GoodIn wsX7_figure (va_wsS RX7 78 yX7_within wsX7_within) := goodIn_s _ [(13, 2), (10, 1), (15, 1)] rfl (by decide +kernel)
set_option maxRecDepth 20000 in
theorem gX7_figure_X7_refused : GoodIn wsX7_figure (wsV RX7 82 RX7 yX7_refused wsX7_refused) := goodIn_s _ [(16, 3), (10, 1), (19, 2), (33, 11)] rfl (by decide +kernel)
set_option maxRecDepth 20000 in
theorem gX7_figure_X7_answered : GoodIn wsX7_figure (wsV RX7 113 RX7 yX7_answered wsX7_answered) := goodIn_s _ [(21, 3), (10, 1), (24, 1), (20, 1), (33, 11)] rfl (by decide +kernel)
set_option maxRecDepth 20000 in
theorem gX7_figure_X5_isGone : GoodIn wsX7_figure (wsV RX7 129 RX5 yX5_isGone wsX5_isGone) := goodIn_s _ [(25, 7), (10, 1), (32, 1), (59, 7)] rfl (by decide +kernel)
set_option maxRecDepth 20000 in
theorem gX7_watcher_X7_isWatcher : GoodIn wsX7_watcher (wsV RX7 135 RX7 yX7_isWatcher wsX7_isWatcher) := goodIn_s _ [(7, 5), (1, 2), (12, 3), (10, 1), (15, 1), (32, 30)] rfl (by decide +kernel)
set_option maxRecDepth 20000 in
theorem gX7_watcher_X7_within : GoodIn wsX7_watcher (va_wsS RX7 78 yX7_within wsX7_within) := goodIn_s _ [(13, 2), (10, 1), (15, 1)] rfl (by decide +kernel)
set_option maxRecDepth 20000 in
theorem gX7_watcher_X7_refused : GoodIn wsX7_watcher (wsV RX7 82 RX7 yX7_refused wsX7_refused) := goodIn_s _ [(16, 3), (10, 1), (19, 2), (32, 11)] rfl (by decide +kernel)
set_option maxRecDepth 20000 in
theorem gX7_watcher_X7_answered : GoodIn wsX7_watcher (wsV RX7 113 RX7 yX7_answered wsX7_answered) := goodIn_s _ [(21, 3), (10, 1), (24, 1), (20, 1), (32, 11)] rfl (by decide +kernel)
set_option maxRecDepth 20000 in
theorem gX7_watcher_X6_placeOf : GoodIn wsX7_watcher (wsV RX7 150 RX6 yX6_placeOf wsX6_placeOf) := goodIn_s _ [(25, 7), (58, 4)] rfl (by decide +kernel)
set_option maxRecDepth 20000 in
theorem gX7_alive_X7_hasGallery : GoodIn wsX7_alive (wsV RX7 154 RX7 yX7_hasGallery wsX7_hasGallery) := goodIn_s _ [(3, 7), (19, 11), (37, 15)] rfl (by decide +kernel)
set_option maxRecDepth 20000 in
theorem gX7_alive_X7_refused : GoodIn wsX7_alive (wsV RX7 82 RX7 yX7_refused wsX7_refused) := goodIn_s _ [(10, 3), (6, 1), (13, 2), (19, 11)] rfl (by decide +kernel)
set_option maxRecDepth 20000 in
theorem gX7_alive_X7_answered : GoodIn wsX7_alive (wsV RX7 113 RX7 yX7_answered wsX7_answered) := goodIn_s _ [(15, 3), (6, 1), (18, 1), (14, 1), (19, 11)] rfl (by decide +kernel)
set_option maxRecDepth 20000 in
theorem gX7_left_X7_hasGallery : GoodIn wsX7_left (wsV RX7 154 RX7 yX7_hasGallery wsX7_hasGallery) := goodIn_s _ [(5, 5), (1, 1), (10, 1), (20, 26)] rfl (by decide +kernel)
set_option maxRecDepth 20000 in
theorem gX7_left_X7_refused : GoodIn wsX7_left (wsV RX7 82 RX7 yX7_refused wsX7_refused) := goodIn_s _ [(11, 3), (8, 1), (14, 2), (20, 11)] rfl (by decide +kernel)
set_option maxRecDepth 20000 in
theorem gX7_left_X7_answered : GoodIn wsX7_left (wsV RX7 113 RX7 yX7_answered wsX7_answered) := goodIn_s _ [(16, 3), (8, 1), (19, 1), (15, 1), (20, 11)] rfl (by decide +kernel)
set_option maxRecDepth 20000 in
theorem gX7_caught_X7_hasGallery : GoodIn wsX7_caught (wsV RX7 154 RX7 yX7_hasGallery wsX7_hasGallery) := goodIn_s _ [(3, 7), (19, 11), (37, 15)] rfl (by decide +kernel)
set_option maxRecDepth 20000 in
theorem gX7_caught_X7_refused : GoodIn wsX7_caught (wsV RX7 82 RX7 yX7_refused wsX7_refused) := goodIn_s _ [(10, 3), (6, 1), (13, 2), (19, 11)] rfl (by decide +kernel)
set_option maxRecDepth 20000 in
theorem gX7_caught_X7_answered : GoodIn wsX7_caught (wsV RX7 113 RX7 yX7_answered wsX7_answered) := goodIn_s _ [(15, 3), (6, 1), (18, 1), (14, 1), (19, 11)] rfl (by decide +kernel)
set_option maxRecDepth 20000 in
theorem gX7_turnOf_X7_hasGallery : GoodIn wsX7_turnOf (wsV RX7 154 RX7 yX7_hasGallery wsX7_hasGallery) := goodIn_s _ [(2, 7), (32, 26)] rfl (by decide +kernel)
set_option maxRecDepth 20000 in
theorem gX7_turnOf_X7_refused : GoodIn wsX7_turnOf (wsV RX7 82 RX7 yX7_refused wsX7_refused) := goodIn_s _ [(9, 3), (5, 1), (12, 2), (32, 11)] rfl (by decide +kernel)
set_option maxRecDepth 20000 in
theorem gX7_turnOf_X7_within : GoodIn wsX7_turnOf (va_wsS RX7 78 yX7_within wsX7_within) := goodIn_s _ [(14, 2), (5, 1), (16, 1)] rfl (by decide +kernel)
set_option maxRecDepth 20000 in
theorem gX7_turnOf_X7_turnFromNow : GoodIn wsX7_turnOf (wsV RX7 171 RX7 yX7_turnFromNow wsX7_turnFromNow) := goodIn_s _ [(17, 3), (5, 1), (20, 1), (7, 2), (21, 6), (5, 1), (27, 1), (32, 33)] rfl (by decide +kernel)
set_option maxRecDepth 20000 in
theorem gX7_turnOf_X7_answered : GoodIn wsX7_turnOf (wsV RX7 113 RX7 yX7_answered wsX7_answered) := goodIn_s _ [(28, 3), (5, 1), (31, 1), (13, 1), (32, 11)] rfl (by decide +kernel)
set_option maxRecDepth 20000 in
theorem gX7_turnIn_X7_isFigure : GoodIn wsX7_turnIn (wsV RX7 116 RX7 yX7_isFigure wsX7_isFigure) := goodIn_s _ [(5, 5), (3, 2), (10, 2), (8, 1), (12, 1), (30, 11), (48, 15)] rfl (by decide +kernel)
set_option maxRecDepth 20000 in
theorem gX7_turnIn_X7_refused : GoodIn wsX7_turnIn (wsV RX7 82 RX7 yX7_refused wsX7_refused) := goodIn_s _ [(13, 3), (8, 1), (16, 2), (30, 11)] rfl (by decide +kernel)
set_option maxRecDepth 20000 in
theorem gX7_turnIn_X7_answered : GoodIn wsX7_turnIn (wsV RX7 113 RX7 yX7_answered wsX7_answered) := goodIn_s _ [(18, 3), (8, 1), (21, 1), (17, 1), (30, 11)] rfl (by decide +kernel)
set_option maxRecDepth 20000 in
theorem gX7_turnIn_X0_next : GoodIn wsX7_turnIn (wsV RX7 174 RX0 yX0_next wsX0_next) := goodIn_s _ [(22, 8), (48, 15)] rfl (by decide +kernel)
set_option maxRecDepth 20000 in
theorem gX7_settles_X7_hasGallery : GoodIn wsX7_settles (wsV RX7 154 RX7 yX7_hasGallery wsX7_hasGallery) := goodIn_s _ [(3, 5), (1, 2), (40, 26)] rfl (by decide +kernel)
set_option maxRecDepth 20000 in
theorem gX7_settles_X7_refused : GoodIn wsX7_settles (wsV RX7 82 RX7 yX7_refused wsX7_refused) := goodIn_s _ [(8, 3), (6, 1), (11, 2), (40, 11)] rfl (by decide +kernel)
set_option maxRecDepth 20000 in
theorem gX7_settles_X7_roundLength : GoodIn wsX7_settles (wsV RX7 177 RX7 yX7_roundLength wsX7_roundLength) := goodIn_s _ [(13, 3), (6, 1), (16, 1), (1, 2), (17, 3), (6, 1), (20, 16), (40, 33)] rfl (by decide +kernel)
set_option maxRecDepth 20000 in
theorem gX7_settles_X7_turnFromNow : GoodIn wsX7_settles (wsV RX7 171 RX7 yX7_turnFromNow wsX7_turnFromNow) := goodIn_s _ [(17, 3), (6, 1), (20, 1), (1, 2), (21, 6), (6, 1), (27, 1), (40, 33)] rfl (by decide +kernel)
set_option maxRecDepth 20000 in
theorem gX7_settles_X7_answered : GoodIn wsX7_settles (wsV RX7 113 RX7 yX7_answered wsX7_answered) := goodIn_s _ [(36, 3), (6, 1), (39, 1), (12, 1), (40, 11)] rfl (by decide +kernel)
set_option maxRecDepth 20000 in
theorem gX7_round_X7_hasGallery : GoodIn wsX7_round (wsV RX7 154 RX7 yX7_hasGallery wsX7_hasGallery) := goodIn_s _ [(1, 7), (40, 26)] rfl (by decide +kernel)
set_option maxRecDepth 20000 in
theorem gX7_round_X7_refused : GoodIn wsX7_round (wsV RX7 82 RX7 yX7_refused wsX7_refused) := goodIn_s _ [(8, 3), (4, 1), (11, 2), (40, 11)] rfl (by decide +kernel)
set_option maxRecDepth 20000 in
theorem gX7_round_X7_roundLength : GoodIn wsX7_round (wsV RX7 177 RX7 yX7_roundLength wsX7_roundLength) := goodIn_s _ [(13, 3), (4, 1), (16, 1), (6, 2), (17, 3), (4, 1), (20, 16), (40, 33)] rfl (by decide +kernel)
set_option maxRecDepth 20000 in
theorem gX7_round_X7_answered : GoodIn wsX7_round (wsV RX7 113 RX7 yX7_answered wsX7_answered) := goodIn_s _ [(36, 3), (4, 1), (39, 1), (12, 1), (40, 11)] rfl (by decide +kernel)
set_option maxRecDepth 20000 in
theorem gX7_called_X7_hasGallery : GoodIn wsX7_called (wsV RX7 154 RX7 yX7_hasGallery wsX7_hasGallery) := goodIn_s _ [(5, 5), (3, 2), (27, 11), (45, 15)] rfl (by decide +kernel)
set_option maxRecDepth 20000 in
theorem gX7_called_X7_refused : GoodIn wsX7_called (wsV RX7 82 RX7 yX7_refused wsX7_refused) := goodIn_s _ [(10, 3), (8, 1), (13, 2), (27, 11)] rfl (by decide +kernel)
set_option maxRecDepth 20000 in
theorem gX7_called_X0_next : GoodIn wsX7_called (wsV RX7 174 RX0 yX0_next wsX0_next) := goodIn_s _ [(15, 8), (45, 15)] rfl (by decide +kernel)
set_option maxRecDepth 20000 in
theorem gX7_called_X7_answered : GoodIn wsX7_called (wsV RX7 113 RX7 yX7_answered wsX7_answered) := goodIn_s _ [(23, 3), (8, 1), (26, 1), (14, 1), (27, 11)] rfl (by decide +kernel)
set_option maxRecDepth 20000 in
theorem gX7_minutesOf_X7_isFigure : GoodIn wsX7_minutesOf (wsV RX7 116 RX7 yX7_isFigure wsX7_isFigure) := goodIn_s _ [(6, 5), (4, 1), (11, 3), (9, 1), (14, 1), (32, 11), (50, 15)] rfl (by decide +kernel)
set_option maxRecDepth 20000 in
theorem gX7_minutesOf_X7_refused : GoodIn wsX7_minutesOf (wsV RX7 82 RX7 yX7_refused wsX7_refused) := goodIn_s _ [(15, 3), (9, 1), (18, 2), (32, 11)] rfl (by decide +kernel)
set_option maxRecDepth 20000 in
theorem gX7_minutesOf_X7_within : GoodIn wsX7_minutesOf (va_wsS RX7 78 yX7_within wsX7_within) := goodIn_s _ [(12, 2), (9, 1), (14, 1)] rfl (by decide +kernel)
set_option maxRecDepth 20000 in
theorem gX7_minutesOf_X0_next : GoodIn wsX7_minutesOf (wsV RX7 174 RX0 yX0_next wsX0_next) := goodIn_s _ [(20, 8), (50, 15)] rfl (by decide +kernel)
set_option maxRecDepth 20000 in
theorem gX7_minutesOf_X7_answered : GoodIn wsX7_minutesOf (wsV RX7 113 RX7 yX7_answered wsX7_answered) := goodIn_s _ [(28, 3), (9, 1), (31, 1), (19, 1), (32, 11)] rfl (by decide +kernel)
set_option maxRecDepth 20000 in
theorem gX7_place_X7_troubleOfFigureWithin : GoodIn wsX7_place (wsV RX7 181 RX7 yX7_troubleOfFigureWithin wsX7_troubleOfFigureWithin) := goodIn_s _ [(3, 8), (6, 1), (11, 6), (113, 11), (131, 15)] rfl (by decide +kernel)
set_option maxRecDepth 20000 in
theorem gX7_place_X7_refused : GoodIn wsX7_place (wsV RX7 82 RX7 yX7_refused wsX7_refused) := goodIn_s _ [(17, 3), (6, 1), (20, 2), (113, 11)] rfl (by decide +kernel)
set_option maxRecDepth 20000 in
theorem gX7_place_X7_runAhead : GoodIn wsX7_place (wsV RX7 185 RX7 yX7_runAhead wsX7_runAhead) := goodIn_s _ [(22, 3), (6, 1), (25, 1), (1, 1), (26, 16), (6, 1), (42, 1), (12, 1), (43, 18), (15, 2), (61, 48), (113, 37)] rfl (by decide +kernel)
set_option maxRecDepth 20000 in
theorem gX7_place_X7_answered : GoodIn wsX7_place (wsV RX7 113 RX7 yX7_answered wsX7_answered) := goodIn_s _ [(109, 3), (6, 1), (112, 1), (21, 1), (113, 11)] rfl (by decide +kernel)
set_option maxRecDepth 20000 in
theorem gX7_watch_X7_isWatcher : GoodIn wsX7_watch (wsV RX7 135 RX7 yX7_isWatcher wsX7_isWatcher) := goodIn_s _ [(5, 5), (1, 2), (10, 3), (8, 1), (13, 1), (30, 26), (63, 4)] rfl (by decide +kernel)
set_option maxRecDepth 20000 in
theorem gX7_watch_X7_refused : GoodIn wsX7_watch (wsV RX7 82 RX7 yX7_refused wsX7_refused) := goodIn_s _ [(14, 3), (8, 1), (17, 2), (30, 11)] rfl (by decide +kernel)
set_option maxRecDepth 20000 in
theorem gX7_watch_X7_within : GoodIn wsX7_watch (va_wsS RX7 78 yX7_within wsX7_within) := goodIn_s _ [(11, 2), (8, 1), (13, 1)] rfl (by decide +kernel)
set_option maxRecDepth 20000 in
theorem gX7_watch_X6_placeOf : GoodIn wsX7_watch (wsV RX7 150 RX6 yX6_placeOf wsX6_placeOf) := goodIn_s _ [(19, 7), (63, 4)] rfl (by decide +kernel)
set_option maxRecDepth 20000 in
theorem gX7_watch_X7_answered : GoodIn wsX7_watch (wsV RX7 113 RX7 yX7_answered wsX7_answered) := goodIn_s _ [(26, 3), (8, 1), (29, 1), (18, 1), (30, 11)] rfl (by decide +kernel)
set_option maxRecDepth 20000 in
theorem gX7_gone_X7_troubleOfNumber : GoodIn wsX7_gone (wsV RX7 188 RX7 yX7_troubleOfNumber wsX7_troubleOfNumber) := goodIn_s _ [(3, 8), (6, 1), (11, 6), (113, 11), (131, 15)] rfl (by decide +kernel)
set_option maxRecDepth 20000 in
theorem gX7_gone_X7_refused : GoodIn wsX7_gone (wsV RX7 82 RX7 yX7_refused wsX7_refused) := goodIn_s _ [(17, 3), (6, 1), (20, 2), (113, 11)] rfl (by decide +kernel)
set_option maxRecDepth 20000 in
theorem gX7_gone_X7_runAhead : GoodIn wsX7_gone (wsV RX7 185 RX7 yX7_runAhead wsX7_runAhead) := goodIn_s _ [(22, 3), (6, 1), (25, 1), (1, 1), (26, 16), (6, 1), (42, 1), (12, 1), (43, 18), (15, 2), (61, 48), (113, 37)] rfl (by decide +kernel)
set_option maxRecDepth 20000 in
theorem gX7_gone_X7_answered : GoodIn wsX7_gone (wsV RX7 113 RX7 yX7_answered wsX7_answered) := goodIn_s _ [(109, 3), (6, 1), (112, 1), (21, 1), (113, 11)] rfl (by decide +kernel)
set_option maxRecDepth 20000 in
theorem gX7_stairs_X7_hasGallery : GoodIn wsX7_stairs (wsV RX7 154 RX7 yX7_hasGallery wsX7_hasGallery) := goodIn_s _ [(5, 5), (3, 1), (10, 1), (104, 26)] rfl (by decide +kernel)
set_option maxRecDepth 20000 in
theorem gX7_stairs_X7_refused : GoodIn wsX7_stairs (wsV RX7 82 RX7 yX7_refused wsX7_refused) := goodIn_s _ [(11, 3), (8, 1), (14, 2), (104, 11)] rfl (by decide +kernel)
set_option maxRecDepth 20000 in
theorem gX7_stairs_X5_copyFrom : GoodIn wsX7_stairs (wsV RX7 194 RX5 yX5_copyFrom wsX5_copyFrom) := goodIn_s _ [(16, 12), (130, 7)] rfl (by decide +kernel)
set_option maxRecDepth 20000 in
theorem gX7_stairs_X7_minutesTillGone : GoodIn wsX7_stairs (wsV RX7 198 RX7 yX7_minutesTillGone wsX7_minutesTillGone) := goodIn_s _ [(28, 3), (8, 1), (31, 1), (1, 1), (32, 1), (3, 1), (33, 18), (8, 1), (51, 11), (19, 1), (62, 1), (24, 1), (63, 37), (22, 2), (104, 11), (130, 7), (115, 15), (137, 4)] rfl (by decide +kernel)
set_option maxRecDepth 20000 in
theorem gX7_stairs_X7_answered : GoodIn wsX7_stairs (wsV RX7 113 RX7 yX7_answered wsX7_answered) := goodIn_s _ [(100, 3), (8, 1), (103, 1), (15, 1), (104, 11)] rfl (by decide +kernel)
set_option maxRecDepth 20000 in
theorem gX7_catches_X7_troubleOfNumber : GoodIn wsX7_catches (wsV RX7 188 RX7 yX7_troubleOfNumber wsX7_troubleOfNumber) := goodIn_s _ [(4, 8), (7, 1), (12, 6), (113, 11), (131, 15)] rfl (by decide +kernel)
set_option maxRecDepth 20000 in
theorem gX7_catches_X7_refused : GoodIn wsX7_catches (wsV RX7 82 RX7 yX7_refused wsX7_refused) := goodIn_s _ [(18, 3), (7, 1), (21, 2), (113, 11)] rfl (by decide +kernel)
set_option maxRecDepth 20000 in
theorem gX7_catches_X7_runAhead : GoodIn wsX7_catches (wsV RX7 185 RX7 yX7_runAhead wsX7_runAhead) := goodIn_s _ [(23, 3), (7, 1), (26, 1), (1, 1), (3, 1), (27, 15), (7, 1), (42, 1), (13, 1), (43, 18), (16, 2), (61, 48), (113, 37)] rfl (by decide +kernel)
set_option maxRecDepth 20000 in
theorem gX7_catches_X7_answered : GoodIn wsX7_catches (wsV RX7 113 RX7 yX7_answered wsX7_answered) := goodIn_s _ [(109, 3), (7, 1), (112, 1), (22, 1), (113, 11)] rfl (by decide +kernel)
set_option maxRecDepth 20000 in
theorem gX7_heard_X7_troubleOfFigureWithin : GoodIn wsX7_heard (wsV RX7 181 RX7 yX7_troubleOfFigureWithin wsX7_troubleOfFigureWithin) := goodIn_s _ [(4, 8), (7, 1), (12, 6), (109, 11), (127, 15)] rfl (by decide +kernel)
set_option maxRecDepth 20000 in
theorem gX7_heard_X7_refused : GoodIn wsX7_heard (wsV RX7 82 RX7 yX7_refused wsX7_refused) := goodIn_s _ [(18, 3), (7, 1), (21, 2), (109, 11)] rfl (by decide +kernel)
set_option maxRecDepth 20000 in
theorem gX7_heard_X5_copyFrom : GoodIn wsX7_heard (wsV RX7 194 RX5 yX5_copyFrom wsX5_copyFrom) := goodIn_s _ [(23, 12), (120, 7)] rfl (by decide +kernel)
set_option maxRecDepth 20000 in
theorem gX7_heard_X7_passAhead : GoodIn wsX7_heard (wsV RX7 202 RX7 yX7_passAhead wsX7_passAhead) := goodIn_s _ [(35, 3), (7, 1), (38, 1), (13, 1), (1, 1), (39, 18), (16, 1), (7, 1), (17, 1), (57, 10), (26, 1), (67, 1), (31, 1), (68, 37), (29, 2), (109, 11), (127, 15), (120, 7), (142, 4)] rfl (by decide +kernel)
set_option maxRecDepth 20000 in
theorem gX7_heard_X7_answered : GoodIn wsX7_heard (wsV RX7 113 RX7 yX7_answered wsX7_answered) := goodIn_s _ [(105, 3), (7, 1), (108, 1), (22, 1), (109, 11)] rfl (by decide +kernel)
set_option maxRecDepth 20000 in
theorem gX7_allIn_X7_isFigure : GoodIn wsX7_allIn (wsV RX7 116 RX7 yX7_isFigure wsX7_isFigure) := goodIn_s _ [(8, 5), (1, 1), (13, 3), (11, 1), (16, 1), (103, 26)] rfl (by decide +kernel)
set_option maxRecDepth 20000 in
theorem gX7_allIn_X7_refused : GoodIn wsX7_allIn (wsV RX7 82 RX7 yX7_refused wsX7_refused) := goodIn_s _ [(17, 3), (11, 1), (20, 2), (103, 11)] rfl (by decide +kernel)
set_option maxRecDepth 20000 in
theorem gX7_allIn_X7_answered : GoodIn wsX7_allIn (wsV RX7 113 RX7 yX7_answered wsX7_answered) := goodIn_s _ [(22, 3), (11, 1), (25, 1), (21, 1), (103, 11)] rfl (by decide +kernel)
set_option maxRecDepth 20000 in
theorem gX7_allIn_X5_copyFrom : GoodIn wsX7_allIn (wsV RX7 194 RX5 yX5_copyFrom wsX5_copyFrom) := goodIn_s _ [(26, 12), (129, 7)] rfl (by decide +kernel)
set_option maxRecDepth 20000 in
theorem gX7_allIn_X0_pass : GoodIn wsX7_allIn (wsV RX7 205 RX0 yX0_pass wsX0_pass) := goodIn_s _ [(38, 14), (41, 1), (52, 3), (15, 1), (11, 1), (16, 1), (55, 10), (29, 1), (65, 1), (34, 1), (66, 37), (32, 2), (129, 7), (114, 15), (136, 4)] rfl (by decide +kernel)
set_option maxRecDepth 20000 in
theorem gX7_meets_X7_isWatcher : GoodIn wsX7_meets (wsV RX7 135 RX7 yX7_isWatcher wsX7_isWatcher) := goodIn_s _ [(6, 5), (3, 2), (11, 3), (9, 1), (14, 1), (109, 26), (142, 4)] rfl (by decide +kernel)
set_option maxRecDepth 20000 in
theorem gX7_meets_X7_refused : GoodIn wsX7_meets (wsV RX7 82 RX7 yX7_refused wsX7_refused) := goodIn_s _ [(15, 3), (9, 1), (18, 2), (109, 11)] rfl (by decide +kernel)
set_option maxRecDepth 20000 in
theorem gX7_meets_X5_copyFrom : GoodIn wsX7_meets (wsV RX7 194 RX5 yX5_copyFrom wsX5_copyFrom) := goodIn_s _ [(20, 12), (135, 7)] rfl (by decide +kernel)
set_option maxRecDepth 20000 in
theorem gX7_meets_X6_placeOf : GoodIn wsX7_meets (wsV RX7 150 RX6 yX6_placeOf wsX6_placeOf) := goodIn_s _ [(32, 7), (142, 4)] rfl (by decide +kernel)
set_option maxRecDepth 20000 in
theorem gX7_meets_X7_placeOfActing : GoodIn wsX7_meets (wsV RX7 209 RX7 yX7_placeOfActing wsX7_placeOfActing) := goodIn_s _ [(39, 3), (9, 1), (42, 1), (1, 1), (43, 1), (3, 2), (44, 18), (13, 1), (9, 1), (14, 1), (62, 10), (23, 1), (72, 1), (28, 1), (73, 9), (35, 1), (82, 4), (33, 2), (36, 3), (86, 18), (26, 2), (104, 1), (109, 11), (135, 7), (120, 15), (142, 4)] rfl (by decide +kernel)
set_option maxRecDepth 20000 in
theorem gX7_meets_X7_answered : GoodIn wsX7_meets (wsV RX7 113 RX7 yX7_answered wsX7_answered) := goodIn_s _ [(105, 3), (9, 1), (108, 1), (19, 1), (109, 11)] rfl (by decide +kernel)
set_option maxRecDepth 20000 in
theorem gX7_crowd_X7_troubleOfNumber : GoodIn wsX7_crowd (wsV RX7 188 RX7 yX7_troubleOfNumber wsX7_troubleOfNumber) := goodIn_s _ [(3, 8), (6, 1), (11, 1), (1, 2), (12, 3), (118, 26)] rfl (by decide +kernel)
set_option maxRecDepth 20000 in
theorem gX7_crowd_X7_refused : GoodIn wsX7_crowd (wsV RX7 82 RX7 yX7_refused wsX7_refused) := goodIn_s _ [(15, 3), (6, 1), (18, 2), (118, 11)] rfl (by decide +kernel)
set_option maxRecDepth 20000 in
theorem gX7_crowd_X7_runAhead : GoodIn wsX7_crowd (wsV RX7 185 RX7 yX7_runAhead wsX7_runAhead) := goodIn_s _ [(20, 3), (6, 1), (23, 18), (6, 1), (41, 1), (1, 1), (42, 18), (13, 2), (60, 48), (118, 11), (144, 7), (129, 15), (151, 4)] rfl (by decide +kernel)
set_option maxRecDepth 20000 in
theorem gX7_crowd_X7_crowdAt : GoodIn wsX7_crowd (wsV RX7 212 RX7 yX7_crowdAt wsX7_crowdAt) := goodIn_s _ [(108, 3), (6, 1), (111, 1), (1, 2), (24, 1), (112, 2), (68, 2), (29, 1), (70, 1), (34, 1), (71, 1), (6, 1), (72, 1), (118, 33)] rfl (by decide +kernel)
set_option maxRecDepth 20000 in
theorem gX7_crowd_X7_answered : GoodIn wsX7_crowd (wsV RX7 113 RX7 yX7_answered wsX7_answered) := goodIn_s _ [(114, 3), (6, 1), (117, 1), (19, 1), (118, 11)] rfl (by decide +kernel)
set_option maxRecDepth 20000 in
theorem gX7_farthest_X7_troubleOfNumber : GoodIn wsX7_farthest (wsV RX7 188 RX7 yX7_troubleOfNumber wsX7_troubleOfNumber) := goodIn_s _ [(9, 8), (12, 1), (17, 1), (1, 2), (18, 3), (117, 26)] rfl (by decide +kernel)
set_option maxRecDepth 20000 in
theorem gX7_farthest_X7_refused : GoodIn wsX7_farthest (wsV RX7 82 RX7 yX7_refused wsX7_refused) := goodIn_s _ [(21, 3), (12, 1), (24, 2), (117, 11)] rfl (by decide +kernel)
set_option maxRecDepth 20000 in
theorem gX7_farthest_X7_runAhead : GoodIn wsX7_farthest (wsV RX7 185 RX7 yX7_runAhead wsX7_runAhead) := goodIn_s _ [(26, 3), (12, 1), (29, 1), (3, 1), (30, 16), (12, 1), (46, 1), (1, 1), (47, 18), (19, 2), (65, 48), (117, 11), (143, 7), (128, 15), (150, 4)] rfl (by decide +kernel)
set_option maxRecDepth 20000 in
theorem gX7_farthest_X7_answered : GoodIn wsX7_farthest (wsV RX7 113 RX7 yX7_answered wsX7_answered) := goodIn_s _ [(113, 3), (12, 1), (116, 1), (25, 1), (117, 11)] rfl (by decide +kernel)
set_option maxRecDepth 20000 in
theorem gX7_nearBy_X7_troubleOfFigureWithin : GoodIn wsX7_nearBy (wsV RX7 181 RX7 yX7_troubleOfFigureWithin wsX7_troubleOfFigureWithin) := goodIn_s _ [(7, 8), (10, 1), (15, 1), (3, 1), (16, 4), (109, 26)] rfl (by decide +kernel)
set_option maxRecDepth 20000 in
theorem gX7_nearBy_X7_refused : GoodIn wsX7_nearBy (wsV RX7 82 RX7 yX7_refused wsX7_refused) := goodIn_s _ [(20, 3), (10, 1), (23, 2), (109, 11)] rfl (by decide +kernel)
set_option maxRecDepth 20000 in
theorem gX7_nearBy_X5_copyFrom : GoodIn wsX7_nearBy (wsV RX7 194 RX5 yX5_copyFrom wsX5_copyFrom) := goodIn_s _ [(25, 12), (135, 7)] rfl (by decide +kernel)
set_option maxRecDepth 20000 in
theorem gX7_nearBy_X6_placesIn : GoodIn wsX7_nearBy (wsV RX7 220 RX6 yX6_placesIn wsX6_placesIn) := goodIn_s _ [(37, 10), (40, 1), (47, 3), (142, 4)] rfl (by decide +kernel)
set_option maxRecDepth 20000 in
theorem gX7_nearBy_X0_pass : GoodIn wsX7_nearBy (wsV RX7 205 RX0 yX0_pass wsX0_pass) := goodIn_s _ [(50, 14), (53, 1), (64, 3), (18, 1), (10, 1), (19, 1), (67, 10), (28, 1), (77, 1), (33, 1), (78, 7), (38, 12), (85, 18), (31, 2), (135, 7), (120, 15), (142, 4)] rfl (by decide +kernel)
set_option maxRecDepth 20000 in
theorem gX7_nearBy_X5_isGone : GoodIn wsX7_nearBy (wsV RX7 129 RX5 yX5_isGone wsX5_isGone) := goodIn_s _ [(103, 1), (75, 2), (28, 1), (77, 1), (33, 1), (78, 1), (10, 1), (79, 1), (135, 7)] rfl (by decide +kernel)
set_option maxRecDepth 20000 in
theorem gX7_nearBy_X7_hasBit : GoodIn wsX7_nearBy (va_wsS RX7 223 yX7_hasBit wsX7_hasBit) := goodIn_s _ [(104, 1), (78, 1), (10, 1), (79, 1)] rfl (by decide +kernel)
set_option maxRecDepth 20000 in
theorem gX7_nearBy_X7_answered : GoodIn wsX7_nearBy (wsV RX7 113 RX7 yX7_answered wsX7_answered) := goodIn_s _ [(105, 3), (10, 1), (108, 1), (24, 1), (109, 11)] rfl (by decide +kernel)
set_option maxRecDepth 20000 in
theorem gX7_spoken_X7_troubleOfFigureWithin : GoodIn wsX7_spoken (wsV RX7 181 RX7 yX7_troubleOfFigureWithin wsX7_troubleOfFigureWithin) := goodIn_s _ [(7, 8), (10, 1), (15, 1), (4, 1), (16, 4), (107, 11), (125, 15)] rfl (by decide +kernel)
set_option maxRecDepth 20000 in
theorem gX7_spoken_X7_refused : GoodIn wsX7_spoken (wsV RX7 82 RX7 yX7_refused wsX7_refused) := goodIn_s _ [(20, 3), (10, 1), (23, 2), (107, 11)] rfl (by decide +kernel)
set_option maxRecDepth 20000 in
theorem gX7_spoken_X5_copyFrom : GoodIn wsX7_spoken (wsV RX7 194 RX5 yX5_copyFrom wsX5_copyFrom) := goodIn_s _ [(25, 12), (118, 7)] rfl (by decide +kernel)
set_option maxRecDepth 20000 in
theorem gX7_spoken_X0_partSaid : GoodIn wsX7_spoken (wsV RX7 227 RX0 yX0_partSaid wsX0_partSaid) := goodIn_s _ [(37, 7), (18, 1), (10, 1), (19, 1), (125, 15)] rfl (by decide +kernel)
set_option maxRecDepth 20000 in
theorem gX7_spoken_X0_pass : GoodIn wsX7_spoken (wsV RX7 205 RX0 yX0_pass wsX0_pass) := goodIn_s _ [(44, 3), (40, 1), (47, 10), (40, 1), (57, 1), (42, 2), (18, 1), (10, 1), (19, 1), (58, 10), (28, 1), (68, 1), (33, 1), (69, 20), (38, 2), (41, 1), (89, 14), (31, 2), (118, 26)] rfl (by decide +kernel)
set_option maxRecDepth 20000 in
theorem gX7_spoken_X7_answered : GoodIn wsX7_spoken (wsV RX7 113 RX7 yX7_answered wsX7_answered) := goodIn_s _ [(103, 3), (10, 1), (106, 1), (24, 1), (107, 11)] rfl (by decide +kernel)
set_option maxRecDepth 20000 in
theorem gX7_route_X7_isPlace : GoodIn wsX7_route (wsV RX7 230 RX7 yX7_isPlace wsX7_isPlace) := goodIn_s _ [(2, 9), (5, 1), (11, 1), (140, 26)] rfl (by decide +kernel)
set_option maxRecDepth 20000 in
theorem gX7_route_X7_refused : GoodIn wsX7_route (wsV RX7 82 RX7 yX7_refused wsX7_refused) := goodIn_s _ [(12, 3), (5, 1), (15, 2), (140, 11)] rfl (by decide +kernel)
set_option maxRecDepth 20000 in
theorem gX7_route_X7_within : GoodIn wsX7_route (va_wsS RX7 78 yX7_within wsX7_within) := goodIn_s _ [(9, 2), (5, 1), (11, 1)] rfl (by decide +kernel)
set_option maxRecDepth 20000 in
theorem gX7_route_X7_planRoutes : GoodIn wsX7_route (wsV RX7 233 RX7 yX7_planRoutes wsX7_planRoutes) := goodIn_s _ [(17, 3), (5, 1), (20, 3), (1, 1), (7, 2), (23, 15), (5, 1), (38, 21), (10, 2), (59, 73), (140, 40)] rfl (by decide +kernel)
