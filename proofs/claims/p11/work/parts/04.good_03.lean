set_option maxRecDepth 20000 in
theorem gX7_image_X1_addImage : GoodIn wsX7_image (wsV RX7 340 RX1 yX1_addImage wsX1_addImage) := goodIn_s _ [(16, 19), (50, 5), (70, 7)] rfl (by decide +kernel)
set_option maxRecDepth 20000 in
theorem gX7_image_X7_answered : GoodIn wsX7_image (wsV RX7 113 RX7 yX7_answered wsX7_answered) := goodIn_s _ [(35, 3), (7, 1), (38, 1), (15, 1), (39, 11)] rfl (by decide +kernel)
set_option maxRecDepth 20000 in
theorem gX7_back_X1_goBack : GoodIn wsX7_back (wsV RX7 344 RX1 yX1_goBack wsX1_goBack) := goodIn_s _ [(4, 23), (38, 12)] rfl (by decide +kernel)
set_option maxRecDepth 20000 in
theorem gX7_size_X0_sizeTold : GoodIn wsX7_size (wsV RX7 358 RX0 yX0_sizeTold wsX0_sizeTold) := goodIn_s _ [(9, 23), (69, 19)] rfl (by decide +kernel)
set_option maxRecDepth 20000 in
theorem gX7_isFigure_X7_within : GoodIn wsX7_isFigure (va_wsS RX7 78 yX7_within wsX7_within) := goodIn_s _ [(3, 4)] rfl (by decide +kernel)
set_option maxRecDepth 20000 in
theorem gX7_isPlace_X7_within : GoodIn wsX7_isPlace (va_wsS RX7 78 yX7_within wsX7_within) := goodIn_s _ [(3, 4)] rfl (by decide +kernel)
set_option maxRecDepth 20000 in
theorem gX7_isWatcher_X7_within : GoodIn wsX7_isWatcher (va_wsS RX7 78 yX7_within wsX7_within) := goodIn_s _ [(4, 4)] rfl (by decide +kernel)
set_option maxRecDepth 20000 in
theorem gX7_troubleOfNumber_X7_hasGallery : GoodIn wsX7_troubleOfNumber (wsV RX7 154 RX7 yX7_hasGallery wsX7_hasGallery) := goodIn_s _ [(1, 7), (11, 26)] rfl (by decide +kernel)
set_option maxRecDepth 20000 in
theorem gX7_troubleOfNumber_X7_within : GoodIn wsX7_troubleOfNumber (va_wsS RX7 78 yX7_within wsX7_within) := goodIn_s _ [(8, 2), (4, 1), (10, 1)] rfl (by decide +kernel)
set_option maxRecDepth 20000 in
theorem gX7_troubleOfFigureWithin_X7_isFigure : GoodIn wsX7_troubleOfFigureWithin (wsV RX7 116 RX7 yX7_isFigure wsX7_isFigure) := goodIn_s _ [(1, 9), (4, 1), (10, 27)] rfl (by decide +kernel)
set_option maxRecDepth 20000 in
theorem gX7_troubleOfFigureWithin_X7_within : GoodIn wsX7_troubleOfFigureWithin (va_wsS RX7 78 yX7_within wsX7_within) := goodIn_s _ [(8, 2), (4, 1), (10, 1)] rfl (by decide +kernel)
set_option maxRecDepth 20000 in
theorem gX7_turnFromNow_X7_laterTurn : GoodIn wsX7_turnFromNow (va_wsS RX7 364 yX7_laterTurn wsX7_laterTurn) := goodIn_s _ [(7, 4)] rfl (by decide +kernel)
set_option maxRecDepth 20000 in
theorem gX7_roundLength_X7_turnFromNow : GoodIn wsX7_roundLength (wsV RX7 171 RX7 yX7_turnFromNow wsX7_turnFromNow) := goodIn_s _ [(3, 5), (1, 2), (8, 6), (6, 1), (14, 1), (23, 33)] rfl (by decide +kernel)
set_option maxRecDepth 20000 in
theorem gX7_roundLength_X0_next : GoodIn wsX7_roundLength (wsV RX7 174 RX0 yX0_next wsX0_next) := goodIn_s _ [(15, 8), (34, 15)] rfl (by decide +kernel)
set_option maxRecDepth 20000 in
theorem gX7_runAhead_X5_copyFrom : GoodIn wsX7_runAhead (wsV RX7 194 RX5 yX5_copyFrom wsX5_copyFrom) := goodIn_s _ [(3, 12), (100, 7)] rfl (by decide +kernel)
set_option maxRecDepth 20000 in
theorem gX7_runAhead_X7_passAhead : GoodIn wsX7_runAhead (wsV RX7 202 RX7 yX7_passAhead wsX7_passAhead) := goodIn_s _ [(15, 6), (1, 1), (21, 19), (18, 1), (40, 11), (6, 1), (51, 1), (11, 1), (52, 37), (9, 2), (89, 11), (107, 15), (100, 7), (122, 4)] rfl (by decide +kernel)
set_option maxRecDepth 20000 in
theorem gX7_passAhead_X0_pass : GoodIn wsX7_passAhead (wsV RX7 205 RX0 yX0_pass wsX0_pass) := goodIn_s _ [(4, 14), (7, 1), (18, 58), (102, 7), (87, 15), (109, 4)] rfl (by decide +kernel)
set_option maxRecDepth 20000 in
theorem gX7_runAheadOnTrial_X5_copyFrom : GoodIn wsX7_runAheadOnTrial (wsV RX7 194 RX5 yX5_copyFrom wsX5_copyFrom) := goodIn_s _ [(5, 12), (96, 7)] rfl (by decide +kernel)
set_option maxRecDepth 20000 in
theorem gX7_runAheadOnTrial_X0_pass : GoodIn wsX7_runAheadOnTrial (wsV RX7 205 RX0 yX0_pass wsX0_pass) := goodIn_s _ [(17, 14), (20, 1), (31, 16), (8, 1), (47, 1), (13, 1), (48, 37), (11, 2), (96, 26)] rfl (by decide +kernel)
set_option maxRecDepth 20000 in
theorem gX7_placeOfActing_X0_pass : GoodIn wsX7_placeOfActing (wsV RX7 205 RX0 yX0_pass wsX0_pass) := goodIn_s _ [(6, 14), (9, 1), (20, 58), (90, 26)] rfl (by decide +kernel)
set_option maxRecDepth 20000 in
theorem gX7_placeOfActing_X5_isGone : GoodIn wsX7_placeOfActing (wsV RX7 129 RX5 yX5_isGone wsX5_isGone) := goodIn_s _ [(78, 1), (34, 6), (24, 1), (40, 1), (90, 7)] rfl (by decide +kernel)
set_option maxRecDepth 20000 in
theorem gX7_minutesTillGone_X0_pass : GoodIn wsX7_minutesTillGone (wsV RX7 205 RX0 yX0_pass wsX0_pass) := goodIn_s _ [(4, 14), (7, 1), (18, 58), (87, 26)] rfl (by decide +kernel)
set_option maxRecDepth 20000 in
theorem gX7_crowdAt_X5_isGone : GoodIn wsX7_crowdAt (wsV RX7 129 RX5 yX5_isGone wsX5_isGone) := goodIn_s _ [(5, 9), (40, 7)] rfl (by decide +kernel)
set_option maxRecDepth 20000 in
theorem gX7_planRoutes_X5_copyFrom : GoodIn wsX7_planRoutes (wsV RX7 194 RX5 yX5_copyFrom wsX5_copyFrom) := goodIn_s _ [(6, 12), (144, 7)] rfl (by decide +kernel)
set_option maxRecDepth 20000 in
theorem gX7_planRoutes_X7_placeOfActing : GoodIn wsX7_planRoutes (wsV RX7 209 RX7 yX7_placeOfActing wsX7_placeOfActing) := goodIn_s _ [(18, 5), (1, 1), (23, 1), (4, 1), (24, 20), (21, 1), (44, 11), (9, 1), (55, 1), (14, 1), (56, 37), (12, 2), (93, 1), (118, 11), (144, 7), (129, 15), (151, 4)] rfl (by decide +kernel)
set_option maxRecDepth 20000 in
theorem gX7_planRoutes_X4_aim : GoodIn wsX7_planRoutes (wsV RX7 368 RX4 yX4_aim wsX4_aim) := goodIn_s _ [(94, 6), (43, 1), (21, 1), (44, 1), (155, 3)] rfl (by decide +kernel)
set_option maxRecDepth 20000 in
theorem gX7_planRoutes_X4_weigh : GoodIn wsX7_planRoutes (wsV RX7 372 RX4 yX4_weigh wsX4_weigh) := goodIn_s _ [(100, 3), (97, 1), (103, 10), (97, 1), (113, 5), (99, 1), (155, 3)] rfl (by decide +kernel)
set_option maxRecDepth 20000 in
theorem gX7_postsHold_X5_copyFrom : GoodIn wsX7_postsHold (wsV RX7 194 RX5 yX5_copyFrom wsX5_copyFrom) := goodIn_s _ [(5, 12), (106, 7)] rfl (by decide +kernel)
set_option maxRecDepth 20000 in
theorem gX7_postsHold_X7_minutesTillGone : GoodIn wsX7_postsHold (wsV RX7 198 RX7 yX7_minutesTillGone wsX7_minutesTillGone) := goodIn_s _ [(17, 5), (3, 1), (22, 20), (20, 1), (42, 11), (8, 1), (53, 1), (13, 1), (54, 37), (11, 2), (91, 11), (106, 22), (102, 4)] rfl (by decide +kernel)
set_option maxRecDepth 20000 in
theorem gX7_isRest_X7_figureShare : GoodIn wsX7_isRest (va_wsS RX7 303 yX7_figureShare wsX7_figureShare) := goodIn_s _ [(1, 4)] rfl (by decide +kernel)
set_option maxRecDepth 20000 in
theorem gX7_isRest_X7_attendantShare : GoodIn wsX7_isRest (va_wsS RX7 299 yX7_attendantShare wsX7_attendantShare) := goodIn_s _ [(5, 2), (3, 1), (7, 1)] rfl (by decide +kernel)
set_option maxRecDepth 20000 in
theorem gX7_ownTurns_X0_next : GoodIn wsX7_ownTurns (wsV RX7 174 RX0 yX0_next wsX0_next) := goodIn_s _ [(4, 8), (30, 15)] rfl (by decide +kernel)
set_option maxRecDepth 20000 in
theorem gX8_isFigure_X8_in : GoodIn wsX8_isFigure (va_wsS RX8 142 yX8_in wsX8_in) := goodIn_s _ [(3, 4)] rfl (by decide +kernel)
set_option maxRecDepth 20000 in
theorem gX8_isWatcher_X8_in : GoodIn wsX8_isWatcher (va_wsS RX8 142 yX8_in wsX8_in) := goodIn_s _ [(3, 4)] rfl (by decide +kernel)
set_option maxRecDepth 20000 in
theorem gX8_isWatched_X8_hasBit : GoodIn wsX8_isWatched (va_wsS RX8 238 yX8_hasBit wsX8_hasBit) := goodIn_s _ [(3, 4)] rfl (by decide +kernel)
set_option maxRecDepth 20000 in
theorem gX8_isWatched_X8_watcherAt : GoodIn wsX8_isWatched (wsV RX8 242 RX8 yX8_watcherAt wsX8_watcherAt) := goodIn_s _ [(7, 3), (5, 1), (10, 43)] rfl (by decide +kernel)
set_option maxRecDepth 20000 in
theorem gX8_walkOn_X8_isWatched : GoodIn wsX8_walkOn (wsV RX8 245 RX8 yX8_isWatched wsX8_isWatched) := goodIn_s _ [(2, 6), (1, 1), (8, 2), (5, 1), (10, 47)] rfl (by decide +kernel)
set_option maxRecDepth 20000 in
theorem gX8_speakOn_X8_isWatched : GoodIn wsX8_speakOn (wsV RX8 245 RX8 yX8_isWatched wsX8_isWatched) := goodIn_s _ [(3, 6), (1, 1), (9, 2), (6, 1), (11, 47)] rfl (by decide +kernel)
set_option maxRecDepth 20000 in
theorem gX8_minuteOn_X8_hasBit : GoodIn wsX8_minuteOn (va_wsS RX8 238 yX8_hasBit wsX8_hasBit) := goodIn_s _ [(5, 4)] rfl (by decide +kernel)
set_option maxRecDepth 20000 in
theorem gX8_minuteOn_X8_walkOn : GoodIn wsX8_minuteOn (wsV RX8 251 RX8 yX8_walkOn wsX8_walkOn) := goodIn_s _ [(9, 3), (7, 1), (12, 1), (2, 1), (13, 3), (7, 1), (16, 2), (5, 2), (8, 1), (18, 6), (32, 40)] rfl (by decide +kernel)
set_option maxRecDepth 20000 in
theorem gX8_minuteOn_X8_speakOn : GoodIn wsX8_minuteOn (wsV RX8 255 RX8 yX8_speakOn wsX8_speakOn) := goodIn_s _ [(24, 3), (7, 1), (27, 1), (2, 1), (1, 1), (13, 3), (7, 1), (16, 2), (5, 2), (8, 1), (18, 6), (32, 40)] rfl (by decide +kernel)
set_option maxRecDepth 20000 in
theorem gX8_minuteOn_X8_nextOf : GoodIn wsX8_minuteOn (wsV RX8 264 RX8 yX8_nextOf wsX8_nextOf) := goodIn_s _ [(28, 3), (7, 1), (31, 1), (2, 1), (32, 40)] rfl (by decide +kernel)
