set_option maxRecDepth 20000 in
theorem gX8_turnIn_X8_goRound : GoodIn wsX8_turnIn (wsV RX8 294 RX8 yX8_goRound wsX8_goRound) := goodIn_s _ [(24, 3), (7, 1), (27, 2), (1, 1), (3, 1), (2, 1), (29, 3), (7, 1), (32, 1), (16, 1), (33, 40)] rfl (by decide +kernel)
set_option maxRecDepth 20000 in
theorem gX8_settles_X8_good : GoodIn wsX8_settles (wsV RX8 160 RX8 yX8_good wsX8_good) := goodIn_s _ [(3, 7), (26, 40)] rfl (by decide +kernel)
set_option maxRecDepth 20000 in
theorem gX8_settles_X8_no : GoodIn wsX8_settles (wsV RX8 163 RX8 yX8_no wsX8_no) := goodIn_s _ [(10, 3), (6, 1), (13, 1), (9, 1), (26, 40)] rfl (by decide +kernel)
set_option maxRecDepth 20000 in
theorem gX8_settles_X8_goRound : GoodIn wsX8_settles (wsV RX8 294 RX8 yX8_goRound wsX8_goRound) := goodIn_s _ [(14, 3), (6, 1), (17, 2), (2, 1), (19, 5), (6, 1), (24, 42)] rfl (by decide +kernel)
set_option maxRecDepth 20000 in
theorem gX8_round_X8_good : GoodIn wsX8_round (wsV RX8 160 RX8 yX8_good wsX8_good) := goodIn_s _ [(3, 7), (26, 40)] rfl (by decide +kernel)
set_option maxRecDepth 20000 in
theorem gX8_round_X8_no : GoodIn wsX8_round (wsV RX8 163 RX8 yX8_no wsX8_no) := goodIn_s _ [(10, 3), (6, 1), (13, 1), (9, 1), (26, 40)] rfl (by decide +kernel)
set_option maxRecDepth 20000 in
theorem gX8_round_X8_goRound : GoodIn wsX8_round (wsV RX8 294 RX8 yX8_goRound wsX8_goRound) := goodIn_s _ [(14, 3), (6, 1), (17, 4), (2, 1), (21, 3), (6, 1), (24, 42)] rfl (by decide +kernel)
set_option maxRecDepth 20000 in
theorem gX8_called_X8_good : GoodIn wsX8_called (wsV RX8 160 RX8 yX8_good wsX8_good) := goodIn_s _ [(5, 7), (26, 40)] rfl (by decide +kernel)
set_option maxRecDepth 20000 in
theorem gX8_called_X8_no : GoodIn wsX8_called (wsV RX8 163 RX8 yX8_no wsX8_no) := goodIn_s _ [(12, 3), (8, 1), (15, 1), (11, 1), (26, 40)] rfl (by decide +kernel)
set_option maxRecDepth 20000 in
theorem gX8_called_X8_goRound : GoodIn wsX8_called (wsV RX8 294 RX8 yX8_goRound wsX8_goRound) := goodIn_s _ [(16, 3), (8, 1), (19, 2), (2, 1), (4, 1), (3, 1), (21, 3), (8, 1), (24, 42)] rfl (by decide +kernel)
set_option maxRecDepth 20000 in
theorem gX8_minutesOf_X8_good : GoodIn wsX8_minutesOf (wsV RX8 160 RX8 yX8_good wsX8_good) := goodIn_s _ [(3, 7), (41, 40)] rfl (by decide +kernel)
set_option maxRecDepth 20000 in
theorem gX8_minutesOf_X8_isFigure : GoodIn wsX8_minutesOf (wsV RX8 277 RX8 yX8_isFigure wsX8_isFigure) := goodIn_s _ [(10, 3), (6, 1), (13, 2), (2, 1), (15, 2), (6, 1), (17, 1), (41, 40)] rfl (by decide +kernel)
set_option maxRecDepth 20000 in
theorem gX8_minutesOf_X8_in : GoodIn wsX8_minutesOf (va_wsS RX8 142 yX8_in wsX8_in) := goodIn_s _ [(15, 2), (6, 1), (17, 1)] rfl (by decide +kernel)
set_option maxRecDepth 20000 in
theorem gX8_minutesOf_X8_why : GoodIn wsX8_minutesOf (wsV RX8 290 RX8 yX8_why wsX8_why) := goodIn_s _ [(18, 3), (6, 1), (21, 1)] rfl (by decide +kernel)
set_option maxRecDepth 20000 in
theorem gX8_minutesOf_X8_no : GoodIn wsX8_minutesOf (wsV RX8 163 RX8 yX8_no wsX8_no) := goodIn_s _ [(22, 3), (6, 1), (25, 1), (9, 1), (41, 40)] rfl (by decide +kernel)
set_option maxRecDepth 20000 in
theorem gX8_minutesOf_X8_goRound : GoodIn wsX8_minutesOf (wsV RX8 294 RX8 yX8_goRound wsX8_goRound) := goodIn_s _ [(26, 3), (6, 1), (29, 1), (1, 1), (30, 6), (6, 1), (36, 1), (2, 1), (41, 40)] rfl (by decide +kernel)
set_option maxRecDepth 20000 in
theorem gX8_minutesOf_X8_turnAt : GoodIn wsX8_minutesOf (wsV RX8 297 RX8 yX8_turnAt wsX8_turnAt) := goodIn_s _ [(37, 3), (6, 1), (40, 1), (31, 1), (30, 1), (32, 1), (41, 40)] rfl (by decide +kernel)
set_option maxRecDepth 20000 in
theorem gX8_aheadWhy_X8_in : GoodIn wsX8_aheadWhy (va_wsS RX8 142 yX8_in wsX8_in) := goodIn_s _ [(1, 4)] rfl (by decide +kernel)
set_option maxRecDepth 20000 in
theorem gX8_aheadWhy_X8_why : GoodIn wsX8_aheadWhy (wsV RX8 290 RX8 yX8_why wsX8_why) := goodIn_s _ [(5, 3), (3, 1), (8, 1)] rfl (by decide +kernel)
set_option maxRecDepth 20000 in
theorem gX8_place_X8_good : GoodIn wsX8_place (wsV RX8 160 RX8 yX8_good wsX8_good) := goodIn_s _ [(2, 7), (79, 40)] rfl (by decide +kernel)
set_option maxRecDepth 20000 in
theorem gX8_place_X8_isFigure : GoodIn wsX8_place (wsV RX8 277 RX8 yX8_isFigure wsX8_isFigure) := goodIn_s _ [(9, 3), (5, 1), (12, 5), (5, 1), (17, 1), (79, 40)] rfl (by decide +kernel)
set_option maxRecDepth 20000 in
theorem gX8_place_X8_aheadWhy : GoodIn wsX8_place (wsV RX8 300 RX8 yX8_aheadWhy wsX8_aheadWhy) := goodIn_s _ [(18, 3), (5, 1), (21, 1), (15, 2), (5, 1), (17, 1), (22, 4)] rfl (by decide +kernel)
set_option maxRecDepth 20000 in
theorem gX8_place_X8_no : GoodIn wsX8_place (wsV RX8 163 RX8 yX8_no wsX8_no) := goodIn_s _ [(26, 3), (5, 1), (29, 1), (8, 1), (79, 40)] rfl (by decide +kernel)
set_option maxRecDepth 20000 in
theorem gX8_place_X8_minutesOn : GoodIn wsX8_place (wsV RX8 304 RX8 yX8_minutesOn wsX8_minutesOn) := goodIn_s _ [(30, 3), (5, 1), (33, 1), (1, 1), (34, 3), (5, 1), (37, 6), (14, 1), (43, 76)] rfl (by decide +kernel)
set_option maxRecDepth 20000 in
theorem gX8_watch_X8_good : GoodIn wsX8_watch (wsV RX8 160 RX8 yX8_good wsX8_good) := goodIn_s _ [(2, 7), (41, 40)] rfl (by decide +kernel)
set_option maxRecDepth 20000 in
theorem gX8_watch_X8_isWatcher : GoodIn wsX8_watch (wsV RX8 280 RX8 yX8_isWatcher wsX8_isWatcher) := goodIn_s _ [(9, 3), (5, 1), (12, 5), (5, 1), (17, 1), (41, 40)] rfl (by decide +kernel)
set_option maxRecDepth 20000 in
theorem gX8_watch_X8_aheadWhy : GoodIn wsX8_watch (wsV RX8 300 RX8 yX8_aheadWhy wsX8_aheadWhy) := goodIn_s _ [(18, 3), (5, 1), (21, 1), (15, 2), (5, 1), (17, 1), (22, 4)] rfl (by decide +kernel)
set_option maxRecDepth 20000 in
theorem gX8_watch_X8_no : GoodIn wsX8_watch (wsV RX8 163 RX8 yX8_no wsX8_no) := goodIn_s _ [(26, 3), (5, 1), (29, 1), (8, 1), (41, 40)] rfl (by decide +kernel)
set_option maxRecDepth 20000 in
theorem gX8_watch_X8_watchAsTold : GoodIn wsX8_watch (wsV RX8 267 RX8 yX8_watchAsTold wsX8_watchAsTold) := goodIn_s _ [(30, 3), (5, 1), (33, 1), (14, 1), (34, 3), (41, 40)] rfl (by decide +kernel)
set_option maxRecDepth 20000 in
theorem gX8_watch_X8_watcherAt : GoodIn wsX8_watch (wsV RX8 242 RX8 yX8_watcherAt wsX8_watcherAt) := goodIn_s _ [(37, 3), (5, 1), (40, 1), (35, 1), (34, 1), (41, 40)] rfl (by decide +kernel)
set_option maxRecDepth 20000 in
theorem gX8_gone_X8_good : GoodIn wsX8_gone (wsV RX8 160 RX8 yX8_good wsX8_good) := goodIn_s _ [(3, 7), (75, 40)] rfl (by decide +kernel)
set_option maxRecDepth 20000 in
theorem gX8_gone_X8_aheadWhy : GoodIn wsX8_gone (wsV RX8 300 RX8 yX8_aheadWhy wsX8_aheadWhy) := goodIn_s _ [(10, 3), (6, 1), (13, 3), (6, 1), (16, 5)] rfl (by decide +kernel)
set_option maxRecDepth 20000 in
theorem gX8_gone_X8_no : GoodIn wsX8_gone (wsV RX8 163 RX8 yX8_no wsX8_no) := goodIn_s _ [(21, 3), (6, 1), (24, 1), (9, 1), (75, 40)] rfl (by decide +kernel)
set_option maxRecDepth 20000 in
theorem gX8_gone_X8_minutesOn : GoodIn wsX8_gone (wsV RX8 304 RX8 yX8_minutesOn wsX8_minutesOn) := goodIn_s _ [(25, 3), (6, 1), (28, 1), (2, 1), (29, 3), (6, 1), (32, 83)] rfl (by decide +kernel)
set_option maxRecDepth 20000 in
theorem gX8_nextGone_X8_minuteOn : GoodIn wsX8_nextGone (wsV RX8 273 RX8 yX8_minuteOn wsX8_minuteOn) := goodIn_s _ [(2, 11), (5, 1), (13, 64)] rfl (by decide +kernel)
set_option maxRecDepth 20000 in
theorem gX8_stairs_X8_good : GoodIn wsX8_stairs (wsV RX8 160 RX8 yX8_good wsX8_good) := goodIn_s _ [(2, 7), (64, 40)] rfl (by decide +kernel)
set_option maxRecDepth 20000 in
theorem gX8_stairs_X8_no : GoodIn wsX8_stairs (wsV RX8 163 RX8 yX8_no wsX8_no) := goodIn_s _ [(9, 3), (5, 1), (12, 1), (8, 1), (64, 40)] rfl (by decide +kernel)
set_option maxRecDepth 20000 in
theorem gX8_stairs_X8_begin : GoodIn wsX8_stairs (wsV RX8 270 RX8 yX8_begin wsX8_begin) := goodIn_s _ [(13, 3), (5, 1), (16, 6), (5, 1), (22, 8), (64, 40)] rfl (by decide +kernel)
set_option maxRecDepth 20000 in
theorem gX8_stairs_X8_nextGone : GoodIn wsX8_stairs (wsV RX8 307 RX8 yX8_nextGone wsX8_nextGone) := goodIn_s _ [(30, 3), (5, 1), (33, 1), (18, 1), (34, 3), (5, 1), (37, 2), (23, 1), (39, 13), (26, 1), (52, 4), (25, 1), (24, 1), (56, 48)] rfl (by decide +kernel)
set_option maxRecDepth 20000 in
theorem gX8_catches_X8_good : GoodIn wsX8_catches (wsV RX8 160 RX8 yX8_good wsX8_good) := goodIn_s _ [(4, 7), (75, 40)] rfl (by decide +kernel)
set_option maxRecDepth 20000 in
theorem gX8_catches_X8_aheadWhy : GoodIn wsX8_catches (wsV RX8 300 RX8 yX8_aheadWhy wsX8_aheadWhy) := goodIn_s _ [(11, 3), (7, 1), (14, 3), (7, 1), (17, 5)] rfl (by decide +kernel)
set_option maxRecDepth 20000 in
theorem gX8_catches_X8_no : GoodIn wsX8_catches (wsV RX8 163 RX8 yX8_no wsX8_no) := goodIn_s _ [(22, 3), (7, 1), (25, 1), (10, 1), (75, 40)] rfl (by decide +kernel)
set_option maxRecDepth 20000 in
theorem gX8_catches_X8_minutesOn : GoodIn wsX8_catches (wsV RX8 304 RX8 yX8_minutesOn wsX8_minutesOn) := goodIn_s _ [(26, 3), (7, 1), (29, 1), (2, 1), (30, 3), (7, 1), (33, 1), (3, 1), (34, 81)] rfl (by decide +kernel)
set_option maxRecDepth 20000 in
theorem gX8_heard_X8_good : GoodIn wsX8_heard (wsV RX8 160 RX8 yX8_good wsX8_good) := goodIn_s _ [(2, 7), (75, 40)] rfl (by decide +kernel)
set_option maxRecDepth 20000 in
theorem gX8_heard_X8_isFigure : GoodIn wsX8_heard (wsV RX8 277 RX8 yX8_isFigure wsX8_isFigure) := goodIn_s _ [(9, 3), (5, 1), (12, 5), (5, 1), (17, 1), (75, 40)] rfl (by decide +kernel)
set_option maxRecDepth 20000 in
theorem gX8_heard_X8_aheadWhy : GoodIn wsX8_heard (wsV RX8 300 RX8 yX8_aheadWhy wsX8_aheadWhy) := goodIn_s _ [(18, 3), (5, 1), (21, 1), (15, 2), (5, 1), (17, 1), (22, 4)] rfl (by decide +kernel)
set_option maxRecDepth 20000 in
theorem gX8_heard_X8_no : GoodIn wsX8_heard (wsV RX8 163 RX8 yX8_no wsX8_no) := goodIn_s _ [(26, 3), (5, 1), (29, 1), (8, 1), (75, 40)] rfl (by decide +kernel)
set_option maxRecDepth 20000 in
theorem gX8_heard_X8_begin : GoodIn wsX8_heard (wsV RX8 270 RX8 yX8_begin wsX8_begin) := goodIn_s _ [(30, 3), (5, 1), (33, 2), (1, 1), (35, 3), (5, 1), (38, 1), (14, 1), (39, 6), (75, 40)] rfl (by decide +kernel)
set_option maxRecDepth 20000 in
theorem gX8_heard_X8_minuteOn : GoodIn wsX8_heard (wsV RX8 273 RX8 yX8_minuteOn wsX8_minuteOn) := goodIn_s _ [(45, 3), (5, 1), (48, 2), (14, 1), (50, 4), (5, 1), (54, 9), (41, 1), (63, 4), (40, 1), (39, 1), (67, 48)] rfl (by decide +kernel)
set_option maxRecDepth 20000 in
theorem gX8_allIn_X8_good : GoodIn wsX8_allIn (wsV RX8 160 RX8 yX8_good wsX8_good) := goodIn_s _ [(3, 7), (67, 40)] rfl (by decide +kernel)
set_option maxRecDepth 20000 in
theorem gX8_allIn_X8_isFigure : GoodIn wsX8_allIn (wsV RX8 277 RX8 yX8_isFigure wsX8_isFigure) := goodIn_s _ [(10, 3), (6, 1), (13, 2), (1, 1), (15, 2), (6, 1), (17, 1), (67, 40)] rfl (by decide +kernel)
set_option maxRecDepth 20000 in
theorem gX8_allIn_X8_no : GoodIn wsX8_allIn (wsV RX8 163 RX8 yX8_no wsX8_no) := goodIn_s _ [(18, 3), (6, 1), (21, 1), (9, 1), (67, 40)] rfl (by decide +kernel)
set_option maxRecDepth 20000 in
theorem gX8_allIn_X8_begin : GoodIn wsX8_allIn (wsV RX8 270 RX8 yX8_begin wsX8_begin) := goodIn_s _ [(22, 3), (6, 1), (25, 2), (2, 1), (27, 3), (6, 1), (30, 1), (1, 1), (31, 6), (67, 40)] rfl (by decide +kernel)
set_option maxRecDepth 20000 in
theorem gX8_allIn_X8_minuteOn : GoodIn wsX8_allIn (wsV RX8 273 RX8 yX8_minuteOn wsX8_minuteOn) := goodIn_s _ [(37, 3), (6, 1), (40, 2), (1, 1), (42, 4), (6, 1), (46, 9), (33, 1), (55, 4), (32, 1), (31, 1), (59, 48)] rfl (by decide +kernel)
set_option maxRecDepth 20000 in
theorem gX8_meets_X8_good : GoodIn wsX8_meets (wsV RX8 160 RX8 yX8_good wsX8_good) := goodIn_s _ [(3, 7), (67, 40)] rfl (by decide +kernel)
set_option maxRecDepth 20000 in
theorem gX8_meets_X8_isWatcher : GoodIn wsX8_meets (wsV RX8 280 RX8 yX8_isWatcher wsX8_isWatcher) := goodIn_s _ [(10, 3), (6, 1), (13, 5), (6, 1), (18, 1), (67, 40)] rfl (by decide +kernel)
set_option maxRecDepth 20000 in
theorem gX8_meets_X8_no : GoodIn wsX8_meets (wsV RX8 163 RX8 yX8_no wsX8_no) := goodIn_s _ [(19, 3), (6, 1), (22, 1), (9, 1), (67, 40)] rfl (by decide +kernel)
set_option maxRecDepth 20000 in
theorem gX8_meets_X8_begin : GoodIn wsX8_meets (wsV RX8 270 RX8 yX8_begin wsX8_begin) := goodIn_s _ [(23, 3), (6, 1), (26, 2), (1, 1), (28, 3), (6, 1), (31, 1), (15, 1), (32, 6), (67, 40)] rfl (by decide +kernel)
set_option maxRecDepth 20000 in
theorem gX8_meets_X8_watcherAt : GoodIn wsX8_meets (wsV RX8 242 RX8 yX8_watcherAt wsX8_watcherAt) := goodIn_s _ [(38, 3), (6, 1), (41, 1), (33, 1), (32, 1), (67, 40)] rfl (by decide +kernel)
set_option maxRecDepth 20000 in
theorem gX8_meets_X8_minuteOn : GoodIn wsX8_meets (wsV RX8 273 RX8 yX8_minuteOn wsX8_minuteOn) := goodIn_s _ [(42, 3), (6, 1), (45, 2), (15, 1), (47, 1), (2, 1), (48, 2), (6, 1), (50, 9), (34, 1), (38, 4), (33, 1), (32, 1), (59, 48)] rfl (by decide +kernel)
set_option maxRecDepth 20000 in
theorem gX8_crowd_X8_good : GoodIn wsX8_crowd (wsV RX8 160 RX8 yX8_good wsX8_good) := goodIn_s _ [(4, 7), (75, 40)] rfl (by decide +kernel)
set_option maxRecDepth 20000 in
theorem gX8_crowd_X8_aheadWhy : GoodIn wsX8_crowd (wsV RX8 300 RX8 yX8_aheadWhy wsX8_aheadWhy) := goodIn_s _ [(11, 3), (7, 1), (14, 3), (7, 1), (17, 5)] rfl (by decide +kernel)
set_option maxRecDepth 20000 in
theorem gX8_crowd_X8_no : GoodIn wsX8_crowd (wsV RX8 163 RX8 yX8_no wsX8_no) := goodIn_s _ [(22, 3), (7, 1), (25, 1), (10, 1), (75, 40)] rfl (by decide +kernel)
set_option maxRecDepth 20000 in
theorem gX8_crowd_X8_minutesOn : GoodIn wsX8_crowd (wsV RX8 304 RX8 yX8_minutesOn wsX8_minutesOn) := goodIn_s _ [(26, 3), (7, 1), (29, 1), (3, 1), (30, 3), (7, 1), (33, 6), (2, 1), (39, 76)] rfl (by decide +kernel)
set_option maxRecDepth 20000 in
theorem gX8_crowd_X8_hasBit : GoodIn wsX8_crowd (va_wsS RX8 238 yX8_hasBit wsX8_hasBit) := goodIn_s _ [(52, 2), (7, 1), (54, 1)] rfl (by decide +kernel)
set_option maxRecDepth 20000 in
theorem gX8_farthest_X8_good : GoodIn wsX8_farthest (wsV RX8 160 RX8 yX8_good wsX8_good) := goodIn_s _ [(4, 7), (78, 40)] rfl (by decide +kernel)
set_option maxRecDepth 20000 in
theorem gX8_farthest_X8_aheadWhy : GoodIn wsX8_farthest (wsV RX8 300 RX8 yX8_aheadWhy wsX8_aheadWhy) := goodIn_s _ [(11, 3), (7, 1), (14, 3), (7, 1), (17, 5)] rfl (by decide +kernel)
set_option maxRecDepth 20000 in
theorem gX8_farthest_X8_no : GoodIn wsX8_farthest (wsV RX8 163 RX8 yX8_no wsX8_no) := goodIn_s _ [(22, 3), (7, 1), (25, 1), (10, 1), (78, 40)] rfl (by decide +kernel)
set_option maxRecDepth 20000 in
theorem gX8_farthest_X8_minutesOn : GoodIn wsX8_farthest (wsV RX8 304 RX8 yX8_minutesOn wsX8_minutesOn) := goodIn_s _ [(26, 3), (7, 1), (29, 1), (3, 1), (30, 3), (7, 1), (33, 6), (2, 1), (39, 36), (78, 40)] rfl (by decide +kernel)
set_option maxRecDepth 20000 in
theorem gX8_farthest_X8_between : GoodIn wsX8_farthest (va_wsS RX8 310 yX8_between wsX8_between) := goodIn_s _ [(75, 2), (7, 1), (77, 1)] rfl (by decide +kernel)
set_option maxRecDepth 20000 in
theorem gX8_nearBy_X8_good : GoodIn wsX8_nearBy (wsV RX8 160 RX8 yX8_good wsX8_good) := goodIn_s _ [(2, 7), (75, 40)] rfl (by decide +kernel)
set_option maxRecDepth 20000 in
theorem gX8_nearBy_X8_isFigure : GoodIn wsX8_nearBy (wsV RX8 277 RX8 yX8_isFigure wsX8_isFigure) := goodIn_s _ [(9, 3), (5, 1), (12, 5), (5, 1), (17, 1), (75, 40)] rfl (by decide +kernel)
set_option maxRecDepth 20000 in
theorem gX8_nearBy_X8_aheadWhy : GoodIn wsX8_nearBy (wsV RX8 300 RX8 yX8_aheadWhy wsX8_aheadWhy) := goodIn_s _ [(18, 3), (5, 1), (21, 1), (15, 2), (5, 1), (17, 1), (22, 4)] rfl (by decide +kernel)
set_option maxRecDepth 20000 in
theorem gX8_nearBy_X8_no : GoodIn wsX8_nearBy (wsV RX8 163 RX8 yX8_no wsX8_no) := goodIn_s _ [(26, 3), (5, 1), (29, 1), (8, 1), (75, 40)] rfl (by decide +kernel)
set_option maxRecDepth 20000 in
theorem gX8_nearBy_X8_begin : GoodIn wsX8_nearBy (wsV RX8 270 RX8 yX8_begin wsX8_begin) := goodIn_s _ [(30, 3), (5, 1), (33, 2), (1, 1), (35, 3), (5, 1), (38, 1), (14, 1), (39, 6), (75, 40)] rfl (by decide +kernel)
set_option maxRecDepth 20000 in
theorem gX8_nearBy_X8_minuteOn : GoodIn wsX8_nearBy (wsV RX8 273 RX8 yX8_minuteOn wsX8_minuteOn) := goodIn_s _ [(45, 3), (5, 1), (48, 2), (14, 1), (50, 4), (5, 1), (54, 9), (41, 1), (63, 4), (40, 1), (39, 1), (67, 48)] rfl (by decide +kernel)
set_option maxRecDepth 20000 in
theorem gX8_nearBy_X8_hasBit : GoodIn wsX8_nearBy (va_wsS RX8 238 yX8_hasBit wsX8_hasBit) := goodIn_s _ [(52, 2), (5, 1), (54, 1)] rfl (by decide +kernel)
set_option maxRecDepth 20000 in
theorem gX8_nearBy_X8_isWatched : GoodIn wsX8_nearBy (wsV RX8 245 RX8 yX8_isWatched wsX8_isWatched) := goodIn_s _ [(59, 3), (5, 1), (62, 1), (41, 1), (14, 1), (52, 2), (5, 1), (54, 1), (63, 4), (40, 1), (39, 1), (75, 40)] rfl (by decide +kernel)
set_option maxRecDepth 20000 in
theorem gX8_spoken_X8_good : GoodIn wsX8_spoken (wsV RX8 160 RX8 yX8_good wsX8_good) := goodIn_s _ [(4, 7), (75, 40)] rfl (by decide +kernel)
set_option maxRecDepth 20000 in
theorem gX8_spoken_X8_isFigure : GoodIn wsX8_spoken (wsV RX8 277 RX8 yX8_isFigure wsX8_isFigure) := goodIn_s _ [(11, 3), (7, 1), (14, 5), (7, 1), (19, 1), (75, 40)] rfl (by decide +kernel)
set_option maxRecDepth 20000 in
theorem gX8_spoken_X8_aheadWhy : GoodIn wsX8_spoken (wsV RX8 300 RX8 yX8_aheadWhy wsX8_aheadWhy) := goodIn_s _ [(20, 3), (7, 1), (23, 1), (17, 2), (7, 1), (19, 1), (24, 4)] rfl (by decide +kernel)
set_option maxRecDepth 20000 in
theorem gX8_spoken_X8_no : GoodIn wsX8_spoken (wsV RX8 163 RX8 yX8_no wsX8_no) := goodIn_s _ [(28, 3), (7, 1), (31, 1), (10, 1), (75, 40)] rfl (by decide +kernel)
set_option maxRecDepth 20000 in
theorem gX8_spoken_X8_begin : GoodIn wsX8_spoken (wsV RX8 270 RX8 yX8_begin wsX8_begin) := goodIn_s _ [(32, 3), (7, 1), (35, 2), (1, 1), (37, 3), (7, 1), (40, 1), (16, 1), (41, 6), (75, 40)] rfl (by decide +kernel)
set_option maxRecDepth 20000 in
theorem gX8_spoken_X8_minuteOn : GoodIn wsX8_spoken (wsV RX8 273 RX8 yX8_minuteOn wsX8_minuteOn) := goodIn_s _ [(47, 3), (7, 1), (50, 1), (3, 1), (16, 1), (2, 1), (51, 3), (7, 1), (54, 9), (43, 1), (63, 4), (42, 1), (41, 1), (67, 48)] rfl (by decide +kernel)
set_option maxRecDepth 20000 in
theorem gX8_windBest_X8_good : GoodIn wsX8_windBest (wsV RX8 160 RX8 yX8_good wsX8_good) := goodIn_s _ [(4, 7), (64, 40)] rfl (by decide +kernel)
set_option maxRecDepth 20000 in
theorem gX8_windBest_X8_no : GoodIn wsX8_windBest (wsV RX8 163 RX8 yX8_no wsX8_no) := goodIn_s _ [(11, 3), (7, 1), (14, 1), (10, 1), (64, 40)] rfl (by decide +kernel)
set_option maxRecDepth 20000 in
theorem gX8_windBest_X8_begin : GoodIn wsX8_windBest (wsV RX8 270 RX8 yX8_begin wsX8_begin) := goodIn_s _ [(15, 3), (7, 1), (18, 2), (3, 1), (20, 3), (7, 1), (23, 1), (2, 1), (24, 6), (64, 40)] rfl (by decide +kernel)
set_option maxRecDepth 20000 in
theorem gX8_windBest_X8_nextGone : GoodIn wsX8_windBest (wsV RX8 307 RX8 yX8_nextGone wsX8_nextGone) := goodIn_s _ [(30, 3), (7, 1), (33, 1), (3, 1), (34, 3), (7, 1), (37, 2), (2, 1), (39, 13), (26, 1), (52, 4), (25, 1), (24, 1), (56, 48)] rfl (by decide +kernel)
set_option maxRecDepth 20000 in
theorem gX8_patrol_X8_good : GoodIn wsX8_patrol (wsV RX8 160 RX8 yX8_good wsX8_good) := goodIn_s _ [(6, 7), (75, 40)] rfl (by decide +kernel)
set_option maxRecDepth 20000 in
theorem gX8_patrol_X8_isWatcher : GoodIn wsX8_patrol (wsV RX8 280 RX8 yX8_isWatcher wsX8_isWatcher) := goodIn_s _ [(13, 3), (9, 1), (16, 2), (2, 1), (18, 2), (9, 1), (20, 1), (75, 40)] rfl (by decide +kernel)
set_option maxRecDepth 20000 in
theorem gX8_patrol_X8_in : GoodIn wsX8_patrol (va_wsS RX8 142 yX8_in wsX8_in) := goodIn_s _ [(18, 2), (9, 1), (20, 1)] rfl (by decide +kernel)
set_option maxRecDepth 20000 in
theorem gX8_patrol_X8_why : GoodIn wsX8_patrol (wsV RX8 290 RX8 yX8_why wsX8_why) := goodIn_s _ [(21, 3), (9, 1), (24, 1)] rfl (by decide +kernel)
set_option maxRecDepth 20000 in
theorem gX8_patrol_X8_no : GoodIn wsX8_patrol (wsV RX8 163 RX8 yX8_no wsX8_no) := goodIn_s _ [(25, 3), (9, 1), (28, 1), (12, 1), (75, 40)] rfl (by decide +kernel)
set_option maxRecDepth 20000 in
theorem gX8_patrol_X8_begin : GoodIn wsX8_patrol (wsV RX8 270 RX8 yX8_begin wsX8_begin) := goodIn_s _ [(29, 3), (9, 1), (32, 2), (5, 1), (34, 3), (9, 1), (37, 1), (2, 3), (38, 4), (75, 40)] rfl (by decide +kernel)
set_option maxRecDepth 20000 in
theorem gX8_patrol_X8_minuteOn : GoodIn wsX8_patrol (wsV RX8 273 RX8 yX8_minuteOn wsX8_minuteOn) := goodIn_s _ [(42, 3), (9, 1), (45, 2), (2, 1), (47, 4), (9, 1), (51, 9), (38, 1), (60, 4), (4, 1), (3, 1), (64, 8), (75, 40)] rfl (by decide +kernel)
set_option maxRecDepth 20000 in
theorem gX8_patrol_X8_ones : GoodIn wsX8_patrol (va_wsS RX8 314 yX8_ones wsX8_ones) := goodIn_s _ [(72, 2), (9, 1), (74, 1)] rfl (by decide +kernel)
set_option maxRecDepth 20000 in
theorem gX8_layRoute_X8_begin : GoodIn wsX8_layRoute (wsV RX8 270 RX8 yX8_begin wsX8_begin) := goodIn_s _ [(6, 6), (1, 1), (12, 3), (9, 1), (15, 1), (5, 1), (16, 6), (58, 40)] rfl (by decide +kernel)
set_option maxRecDepth 20000 in
theorem gX8_layRoute_X8_minuteOn : GoodIn wsX8_layRoute (wsV RX8 273 RX8 yX8_minuteOn wsX8_minuteOn) := goodIn_s _ [(22, 3), (9, 1), (25, 2), (5, 1), (27, 1), (3, 1), (28, 2), (9, 1), (30, 9), (18, 1), (39, 4), (17, 1), (16, 1), (43, 8), (58, 40)] rfl (by decide +kernel)
set_option maxRecDepth 20000 in
theorem gX8_layRoute_X8_bestFrom : GoodIn wsX8_layRoute (wsV RX8 317 RX8 yX8_bestFrom wsX8_bestFrom) := goodIn_s _ [(51, 3), (9, 1), (54, 1), (5, 1), (4, 1), (2, 1), (55, 2), (9, 1), (57, 41)] rfl (by decide +kernel)
set_option maxRecDepth 20000 in
theorem gX8_bestFrom_X8_in : GoodIn wsX8_bestFrom (va_wsS RX8 142 yX8_in wsX8_in) := goodIn_s _ [(4, 4)] rfl (by decide +kernel)
set_option maxRecDepth 20000 in
theorem gX8_routeWhy_X8_isFigure : GoodIn wsX8_routeWhy (wsV RX8 277 RX8 yX8_isFigure wsX8_isFigure) := goodIn_s _ [(1, 9), (4, 1), (10, 1), (15, 40)] rfl (by decide +kernel)
set_option maxRecDepth 20000 in
theorem gX8_routeWhy_X8_in : GoodIn wsX8_routeWhy (va_wsS RX8 142 yX8_in wsX8_in) := goodIn_s _ [(8, 2), (4, 1), (10, 1)] rfl (by decide +kernel)
set_option maxRecDepth 20000 in
theorem gX8_routeWhy_X8_why : GoodIn wsX8_routeWhy (wsV RX8 290 RX8 yX8_why wsX8_why) := goodIn_s _ [(11, 3), (4, 1), (14, 1)] rfl (by decide +kernel)
set_option maxRecDepth 20000 in
theorem gX8_route_X8_good : GoodIn wsX8_route (wsV RX8 160 RX8 yX8_good wsX8_good) := goodIn_s _ [(2, 7), (85, 40)] rfl (by decide +kernel)
set_option maxRecDepth 20000 in
theorem gX8_route_X8_routeWhy : GoodIn wsX8_route (wsV RX8 321 RX8 yX8_routeWhy wsX8_routeWhy) := goodIn_s _ [(9, 3), (5, 1), (12, 4), (5, 1), (16, 10), (85, 40)] rfl (by decide +kernel)
set_option maxRecDepth 20000 in
theorem gX8_route_X8_no : GoodIn wsX8_route (wsV RX8 163 RX8 yX8_no wsX8_no) := goodIn_s _ [(26, 3), (5, 1), (29, 1), (8, 1), (85, 40)] rfl (by decide +kernel)
set_option maxRecDepth 20000 in
theorem gX8_route_X8_layRoute : GoodIn wsX8_route (wsV RX8 324 RX8 yX8_layRoute wsX8_layRoute) := goodIn_s _ [(30, 3), (5, 1), (33, 4), (1, 1), (18, 1), (37, 3), (5, 1), (40, 45), (19, 3), (85, 40)] rfl (by decide +kernel)
set_option maxRecDepth 20000 in
theorem gX8_routeAt_X8_good : GoodIn wsX8_routeAt (wsV RX8 160 RX8 yX8_good wsX8_good) := goodIn_s _ [(1, 7), (85, 40)] rfl (by decide +kernel)
set_option maxRecDepth 20000 in
theorem gX8_routeAt_X8_routeWhy : GoodIn wsX8_routeAt (wsV RX8 321 RX8 yX8_routeWhy wsX8_routeWhy) := goodIn_s _ [(8, 3), (4, 1), (11, 4), (4, 1), (15, 10), (85, 40)] rfl (by decide +kernel)
set_option maxRecDepth 20000 in
theorem gX8_routeAt_X8_in : GoodIn wsX8_routeAt (va_wsS RX8 142 yX8_in wsX8_in) := goodIn_s _ [(18, 2), (4, 1), (20, 1)] rfl (by decide +kernel)
set_option maxRecDepth 20000 in
theorem gX8_routeAt_X8_no : GoodIn wsX8_routeAt (wsV RX8 163 RX8 yX8_no wsX8_no) := goodIn_s _ [(25, 3), (4, 1), (28, 1), (7, 1), (85, 40)] rfl (by decide +kernel)
set_option maxRecDepth 20000 in
theorem gX8_routeAt_X8_layRoute : GoodIn wsX8_routeAt (wsV RX8 324 RX8 yX8_layRoute wsX8_layRoute) := goodIn_s _ [(29, 3), (4, 1), (32, 5), (17, 1), (37, 3), (4, 1), (40, 45), (18, 3), (85, 40)] rfl (by decide +kernel)
set_option maxRecDepth 20000 in
theorem gX8_routeAt_X8_bestFrom : GoodIn wsX8_routeAt (wsV RX8 317 RX8 yX8_bestFrom wsX8_bestFrom) := goodIn_s _ [(81, 3), (4, 1), (84, 1), (17, 1), (36, 1), (34, 1), (18, 2), (4, 1), (20, 1), (85, 40)] rfl (by decide +kernel)
set_option maxRecDepth 20000 in
theorem gX8_stand_X8_good : GoodIn wsX8_stand (wsV RX8 160 RX8 yX8_good wsX8_good) := goodIn_s _ [(4, 7), (77, 40)] rfl (by decide +kernel)
set_option maxRecDepth 20000 in
theorem gX8_stand_X8_in : GoodIn wsX8_stand (va_wsS RX8 142 yX8_in wsX8_in) := goodIn_s _ [(11, 2), (7, 1), (13, 1)] rfl (by decide +kernel)
set_option maxRecDepth 20000 in
theorem gX8_stand_X8_why : GoodIn wsX8_stand (wsV RX8 290 RX8 yX8_why wsX8_why) := goodIn_s _ [(14, 3), (7, 1), (17, 1)] rfl (by decide +kernel)
set_option maxRecDepth 20000 in
theorem gX8_stand_X8_no : GoodIn wsX8_stand (wsV RX8 163 RX8 yX8_no wsX8_no) := goodIn_s _ [(18, 3), (7, 1), (21, 1), (10, 1), (77, 40)] rfl (by decide +kernel)
set_option maxRecDepth 20000 in
theorem gX8_stand_X8_layRoute : GoodIn wsX8_stand (wsV RX8 324 RX8 yX8_layRoute wsX8_layRoute) := goodIn_s _ [(22, 3), (7, 1), (25, 4), (3, 1), (2, 1), (29, 3), (7, 1), (32, 45), (11, 3), (77, 40)] rfl (by decide +kernel)
set_option maxRecDepth 20000 in
theorem gX8_guard_X8_good : GoodIn wsX8_guard (wsV RX8 160 RX8 yX8_good wsX8_good) := goodIn_s _ [(6, 7), (70, 40)] rfl (by decide +kernel)
set_option maxRecDepth 20000 in
theorem gX8_guard_X8_in : GoodIn wsX8_guard (va_wsS RX8 142 yX8_in wsX8_in) := goodIn_s _ [(13, 2), (9, 1), (15, 1)] rfl (by decide +kernel)
