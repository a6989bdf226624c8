set_option maxRecDepth 20000 in
theorem gX7_route_X4_minutesWith : GoodIn wsX7_route (wsV RX7 236 RX4 yX4_minutesWith wsX4_minutesWith) := goodIn_s _ [(132, 3), (111, 1), (135, 1), (122, 2), (10, 1), (5, 1), (11, 1), (177, 3)] rfl (by decide +kernel)
set_option maxRecDepth 20000 in
theorem gX7_route_X7_answered : GoodIn wsX7_route (wsV RX7 113 RX7 yX7_answered wsX7_answered) := goodIn_s _ [(136, 3), (5, 1), (139, 1), (16, 1), (140, 11)] rfl (by decide +kernel)
set_option maxRecDepth 20000 in
theorem gX7_routeAt_X7_isPlace : GoodIn wsX7_routeAt (wsV RX7 230 RX7 yX7_isPlace wsX7_isPlace) := goodIn_s _ [(2, 9), (5, 1), (11, 1), (140, 26)] rfl (by decide +kernel)
set_option maxRecDepth 20000 in
theorem gX7_routeAt_X7_within : GoodIn wsX7_routeAt (va_wsS RX7 78 yX7_within wsX7_within) := goodIn_s _ [(9, 2), (5, 1), (11, 1)] rfl (by decide +kernel)
set_option maxRecDepth 20000 in
theorem gX7_routeAt_X7_refused : GoodIn wsX7_routeAt (wsV RX7 82 RX7 yX7_refused wsX7_refused) := goodIn_s _ [(12, 3), (5, 1), (15, 2), (140, 11)] rfl (by decide +kernel)
set_option maxRecDepth 20000 in
theorem gX7_routeAt_X7_planRoutes : GoodIn wsX7_routeAt (wsV RX7 233 RX7 yX7_planRoutes wsX7_planRoutes) := goodIn_s _ [(17, 3), (5, 1), (20, 3), (1, 1), (7, 2), (23, 15), (5, 1), (38, 21), (10, 2), (59, 73), (140, 40)] rfl (by decide +kernel)
set_option maxRecDepth 20000 in
theorem gX7_routeAt_X4_placeIn : GoodIn wsX7_routeAt (wsV RX7 239 RX4 yX4_placeIn wsX4_placeIn) := goodIn_s _ [(132, 3), (111, 1), (135, 1), (124, 3), (111, 1), (127, 1), (122, 1), (128, 4), (123, 1), (113, 1), (177, 3)] rfl (by decide +kernel)
set_option maxRecDepth 20000 in
theorem gX7_routeAt_X7_answered : GoodIn wsX7_routeAt (wsV RX7 113 RX7 yX7_answered wsX7_answered) := goodIn_s _ [(136, 3), (5, 1), (139, 1), (16, 1), (140, 11)] rfl (by decide +kernel)
set_option maxRecDepth 20000 in
theorem gX7_stand_X7_troubleOfNumber : GoodIn wsX7_stand (wsV RX7 188 RX7 yX7_troubleOfNumber wsX7_troubleOfNumber) := goodIn_s _ [(4, 8), (7, 1), (12, 1), (1, 2), (13, 3), (144, 26)] rfl (by decide +kernel)
set_option maxRecDepth 20000 in
theorem gX7_stand_X7_refused : GoodIn wsX7_stand (wsV RX7 82 RX7 yX7_refused wsX7_refused) := goodIn_s _ [(16, 3), (7, 1), (19, 2), (144, 11)] rfl (by decide +kernel)
set_option maxRecDepth 20000 in
theorem gX7_stand_X7_planRoutes : GoodIn wsX7_stand (wsV RX7 233 RX7 yX7_planRoutes wsX7_planRoutes) := goodIn_s _ [(21, 3), (7, 1), (24, 3), (3, 1), (1, 2), (27, 15), (7, 1), (42, 21), (14, 2), (63, 73), (144, 40)] rfl (by decide +kernel)
set_option maxRecDepth 20000 in
theorem gX7_stand_X4_minutesWith : GoodIn wsX7_stand (wsV RX7 236 RX4 yX4_minutesWith wsX4_minutesWith) := goodIn_s _ [(136, 3), (115, 1), (139, 1), (126, 2), (14, 1), (7, 1), (15, 1), (181, 3)] rfl (by decide +kernel)
set_option maxRecDepth 20000 in
theorem gX7_stand_X7_answered : GoodIn wsX7_stand (wsV RX7 113 RX7 yX7_answered wsX7_answered) := goodIn_s _ [(140, 3), (7, 1), (143, 1), (20, 1), (144, 11)] rfl (by decide +kernel)
set_option maxRecDepth 20000 in
theorem gX7_guard_X7_troubleOfNumber : GoodIn wsX7_guard (wsV RX7 188 RX7 yX7_troubleOfNumber wsX7_troubleOfNumber) := goodIn_s _ [(5, 8), (8, 1), (13, 1), (2, 1), (4, 1), (14, 3), (119, 26)] rfl (by decide +kernel)
set_option maxRecDepth 20000 in
theorem gX7_guard_X7_refused : GoodIn wsX7_guard (wsV RX7 82 RX7 yX7_refused wsX7_refused) := goodIn_s _ [(17, 3), (8, 1), (20, 2), (119, 11)] rfl (by decide +kernel)
set_option maxRecDepth 20000 in
theorem gX7_guard_X6_copyFrom : GoodIn wsX7_guard (wsV RX7 242 RX6 yX6_copyFrom wsX6_copyFrom) := goodIn_s _ [(22, 9), (145, 4)] rfl (by decide +kernel)
set_option maxRecDepth 20000 in
theorem gX7_guard_X7_postsHold : GoodIn wsX7_guard (wsV RX7 245 RX7 yX7_postsHold wsX7_postsHold) := goodIn_s _ [(31, 3), (8, 1), (34, 1), (1, 1), (35, 18), (8, 1), (53, 2), (2, 1), (55, 17), (15, 2), (72, 20), (25, 1), (92, 1), (28, 1), (27, 1), (93, 4), (30, 1), (29, 1), (97, 18), (119, 11), (145, 11), (130, 15)] rfl (by decide +kernel)
set_option maxRecDepth 20000 in
theorem gX7_guard_X7_answered : GoodIn wsX7_guard (wsV RX7 113 RX7 yX7_answered wsX7_answered) := goodIn_s _ [(115, 3), (8, 1), (118, 1), (21, 1), (119, 11)] rfl (by decide +kernel)
set_option maxRecDepth 20000 in
theorem gX7_windBest_X7_hasGallery : GoodIn wsX7_windBest (wsV RX7 154 RX7 yX7_hasGallery wsX7_hasGallery) := goodIn_s _ [(6, 5), (1, 2), (105, 26)] rfl (by decide +kernel)
set_option maxRecDepth 20000 in
theorem gX7_windBest_X7_refused : GoodIn wsX7_windBest (wsV RX7 82 RX7 yX7_refused wsX7_refused) := goodIn_s _ [(11, 3), (9, 1), (14, 2), (105, 11)] rfl (by decide +kernel)
set_option maxRecDepth 20000 in
theorem gX7_windBest_X5_copyFrom : GoodIn wsX7_windBest (wsV RX7 194 RX5 yX5_copyFrom wsX5_copyFrom) := goodIn_s _ [(16, 12), (131, 7)] rfl (by decide +kernel)
set_option maxRecDepth 20000 in
theorem gX7_windBest_X5_startTurn : GoodIn wsX7_windBest (wsV RX7 248 RX5 yX5_startTurn wsX5_startTurn) := goodIn_s _ [(28, 3), (19, 1), (31, 1), (22, 2), (131, 7)] rfl (by decide +kernel)
set_option maxRecDepth 20000 in
theorem gX7_windBest_X7_minutesTillGone : GoodIn wsX7_windBest (wsV RX7 198 RX7 yX7_minutesTillGone wsX7_minutesTillGone) := goodIn_s _ [(32, 3), (9, 1), (35, 1), (3, 1), (36, 1), (1, 1), (37, 18), (9, 1), (55, 11), (19, 1), (66, 1), (24, 1), (67, 34), (29, 3), (22, 2), (105, 11), (131, 7), (116, 15), (138, 4)] rfl (by decide +kernel)
set_option maxRecDepth 20000 in
theorem gX7_windBest_X7_answered : GoodIn wsX7_windBest (wsV RX7 113 RX7 yX7_answered wsX7_answered) := goodIn_s _ [(101, 3), (9, 1), (104, 1), (15, 1), (105, 11)] rfl (by decide +kernel)
set_option maxRecDepth 20000 in
theorem gX7_patrol_X7_isWatcher : GoodIn wsX7_patrol (wsV RX7 135 RX7 yX7_isWatcher wsX7_isWatcher) := goodIn_s _ [(10, 5), (2, 2), (15, 3), (13, 1), (18, 1), (121, 30)] rfl (by decide +kernel)
set_option maxRecDepth 20000 in
theorem gX7_patrol_X7_refused : GoodIn wsX7_patrol (wsV RX7 82 RX7 yX7_refused wsX7_refused) := goodIn_s _ [(19, 3), (13, 1), (22, 2), (121, 11)] rfl (by decide +kernel)
set_option maxRecDepth 20000 in
theorem gX7_patrol_X7_within : GoodIn wsX7_patrol (va_wsS RX7 78 yX7_within wsX7_within) := goodIn_s _ [(16, 2), (13, 1), (18, 1)] rfl (by decide +kernel)
set_option maxRecDepth 20000 in
theorem gX7_patrol_X6_copyFrom : GoodIn wsX7_patrol (wsV RX7 242 RX6 yX6_copyFrom wsX6_copyFrom) := goodIn_s _ [(24, 9), (147, 4)] rfl (by decide +kernel)
set_option maxRecDepth 20000 in
theorem gX7_patrol_X7_runAheadOnTrial : GoodIn wsX7_patrol (wsV RX7 251 RX7 yX7_runAheadOnTrial wsX7_runAheadOnTrial) := goodIn_s _ [(33, 3), (13, 1), (36, 1), (7, 1), (37, 1), (2, 1), (1, 1), (38, 29), (17, 1), (13, 1), (18, 1), (67, 20), (27, 1), (87, 1), (30, 1), (29, 1), (88, 4), (32, 1), (31, 1), (92, 18), (121, 11), (151, 7), (132, 19)] rfl (by decide +kernel)
set_option maxRecDepth 20000 in
theorem gX7_patrol_J6_bitCount_0f7a4 : GoodIn wsX7_patrol (va_wsS RX7 254 yJ6_bitCount_0f7a4 wsJ6_bitCount_0f7a4) := goodIn_s _ [(110, 7)] rfl (by decide +kernel)
set_option maxRecDepth 20000 in
theorem gX7_patrol_X7_answered : GoodIn wsX7_patrol (wsV RX7 113 RX7 yX7_answered wsX7_answered) := goodIn_s _ [(117, 3), (13, 1), (120, 1), (23, 1), (121, 11)] rfl (by decide +kernel)
set_option maxRecDepth 20000 in
theorem gX7_fits_X7_hasGallery : GoodIn wsX7_fits (wsV RX7 154 RX7 yX7_hasGallery wsX7_hasGallery) := goodIn_s _ [(4, 5), (2, 1), (9, 1), (44, 11), (62, 15)] rfl (by decide +kernel)
set_option maxRecDepth 20000 in
theorem gX7_fits_X7_refused : GoodIn wsX7_fits (wsV RX7 82 RX7 yX7_refused wsX7_refused) := goodIn_s _ [(10, 3), (7, 1), (13, 2), (44, 11)] rfl (by decide +kernel)
set_option maxRecDepth 20000 in
theorem gX7_fits_X2_list : GoodIn wsX7_fits (wsV RX7 259 RX2 yX2_list wsX2_list) := goodIn_s _ [(15, 11), (18, 1), (26, 13), (7, 1), (39, 1), (55, 22)] rfl (by decide +kernel)
set_option maxRecDepth 20000 in
theorem gX7_fits_X7_answered : GoodIn wsX7_fits (wsV RX7 113 RX7 yX7_answered wsX7_answered) := goodIn_s _ [(40, 3), (7, 1), (43, 1), (14, 1), (44, 11)] rfl (by decide +kernel)
set_option maxRecDepth 20000 in
theorem gX7_fitAt_X7_hasGallery : GoodIn wsX7_fitAt (wsV RX7 154 RX7 yX7_hasGallery wsX7_hasGallery) := goodIn_s _ [(5, 5), (2, 1), (10, 1), (48, 11), (66, 15)] rfl (by decide +kernel)
set_option maxRecDepth 20000 in
theorem gX7_fitAt_X7_refused : GoodIn wsX7_fitAt (wsV RX7 82 RX7 yX7_refused wsX7_refused) := goodIn_s _ [(11, 3), (8, 1), (14, 2), (48, 11)] rfl (by decide +kernel)
set_option maxRecDepth 20000 in
theorem gX7_fitAt_X2_list : GoodIn wsX7_fitAt (wsV RX7 259 RX2 yX2_list wsX2_list) := goodIn_s _ [(16, 11), (19, 1), (27, 13), (8, 1), (40, 1), (59, 22)] rfl (by decide +kernel)
set_option maxRecDepth 20000 in
theorem gX7_fitAt_X7_within : GoodIn wsX7_fitAt (va_wsS RX7 78 yX7_within wsX7_within) := goodIn_s _ [(41, 2), (8, 1), (43, 1)] rfl (by decide +kernel)
set_option maxRecDepth 20000 in
theorem gX7_fitAt_X7_answered : GoodIn wsX7_fitAt (wsV RX7 113 RX7 yX7_answered wsX7_answered) := goodIn_s _ [(44, 3), (8, 1), (47, 1), (15, 1), (48, 11)] rfl (by decide +kernel)
set_option maxRecDepth 20000 in
theorem gX7_could_X7_troubleOfNumber : GoodIn wsX7_could (wsV RX7 188 RX7 yX7_troubleOfNumber wsX7_troubleOfNumber) := goodIn_s _ [(5, 8), (8, 1), (13, 1), (2, 1), (14, 4), (53, 11), (71, 15)] rfl (by decide +kernel)
set_option maxRecDepth 20000 in
theorem gX7_could_X7_refused : GoodIn wsX7_could (wsV RX7 82 RX7 yX7_refused wsX7_refused) := goodIn_s _ [(18, 3), (8, 1), (21, 2), (53, 11)] rfl (by decide +kernel)
set_option maxRecDepth 20000 in
theorem gX7_could_X2_list : GoodIn wsX7_could (wsV RX7 259 RX2 yX2_list wsX2_list) := goodIn_s _ [(23, 11), (26, 1), (34, 13), (8, 1), (47, 1), (64, 22)] rfl (by decide +kernel)
set_option maxRecDepth 20000 in
theorem gX7_could_X0_aliveByLaw : GoodIn wsX7_could (wsV RX7 269 RX0 yX0_aliveByLaw wsX0_aliveByLaw) := goodIn_s _ [(48, 1), (40, 7), (8, 1), (47, 1), (71, 15)] rfl (by decide +kernel)
set_option maxRecDepth 20000 in
theorem gX7_could_X7_answered : GoodIn wsX7_could (wsV RX7 113 RX7 yX7_answered wsX7_answered) := goodIn_s _ [(49, 3), (8, 1), (52, 1), (22, 1), (53, 11)] rfl (by decide +kernel)
set_option maxRecDepth 20000 in
theorem gX7_aliveBy_X7_troubleOfFigureWithin : GoodIn wsX7_aliveBy (wsV RX7 181 RX7 yX7_troubleOfFigureWithin wsX7_troubleOfFigureWithin) := goodIn_s _ [(5, 8), (8, 1), (13, 1), (2, 1), (14, 4), (53, 11), (71, 15)] rfl (by decide +kernel)
set_option maxRecDepth 20000 in
theorem gX7_aliveBy_X7_refused : GoodIn wsX7_aliveBy (wsV RX7 82 RX7 yX7_refused wsX7_refused) := goodIn_s _ [(18, 3), (8, 1), (21, 2), (53, 11)] rfl (by decide +kernel)
set_option maxRecDepth 20000 in
theorem gX7_aliveBy_X2_list : GoodIn wsX7_aliveBy (wsV RX7 259 RX2 yX2_list wsX2_list) := goodIn_s _ [(23, 11), (26, 1), (34, 13), (8, 1), (47, 1), (64, 22)] rfl (by decide +kernel)
set_option maxRecDepth 20000 in
theorem gX7_aliveBy_X0_aliveByLaw : GoodIn wsX7_aliveBy (wsV RX7 269 RX0 yX0_aliveByLaw wsX0_aliveByLaw) := goodIn_s _ [(48, 1), (40, 7), (8, 1), (47, 1), (71, 15)] rfl (by decide +kernel)
set_option maxRecDepth 20000 in
theorem gX7_aliveBy_X7_answered : GoodIn wsX7_aliveBy (wsV RX7 113 RX7 yX7_answered wsX7_answered) := goodIn_s _ [(49, 3), (8, 1), (52, 1), (22, 1), (53, 11)] rfl (by decide +kernel)
set_option maxRecDepth 20000 in
theorem gX7_look_X7_hasGallery : GoodIn wsX7_look (wsV RX7 154 RX7 yX7_hasGallery wsX7_hasGallery) := goodIn_s _ [(4, 5), (2, 1), (9, 1), (65, 11), (83, 15)] rfl (by decide +kernel)
set_option maxRecDepth 20000 in
theorem gX7_look_X7_refused : GoodIn wsX7_look (wsV RX7 82 RX7 yX7_refused wsX7_refused) := goodIn_s _ [(10, 3), (7, 1), (13, 2), (65, 11)] rfl (by decide +kernel)
set_option maxRecDepth 20000 in
theorem gX7_look_X2_chooseLook : GoodIn wsX7_look (wsV RX7 272 RX2 yX2_chooseLook wsX2_chooseLook) := goodIn_s _ [(15, 14), (18, 1), (29, 18), (7, 1), (47, 14), (76, 22)] rfl (by decide +kernel)
set_option maxRecDepth 20000 in
theorem gX7_look_X7_answered : GoodIn wsX7_look (wsV RX7 113 RX7 yX7_answered wsX7_answered) := goodIn_s _ [(61, 3), (7, 1), (64, 1), (14, 1), (65, 11)] rfl (by decide +kernel)
set_option maxRecDepth 20000 in
theorem gX7_lookLeaves_X7_hasGallery : GoodIn wsX7_lookLeaves (wsV RX7 154 RX7 yX7_hasGallery wsX7_hasGallery) := goodIn_s _ [(4, 5), (2, 1), (9, 1), (65, 11), (83, 15)] rfl (by decide +kernel)
set_option maxRecDepth 20000 in
theorem gX7_lookLeaves_X7_refused : GoodIn wsX7_lookLeaves (wsV RX7 82 RX7 yX7_refused wsX7_refused) := goodIn_s _ [(10, 3), (7, 1), (13, 2), (65, 11)] rfl (by decide +kernel)
set_option maxRecDepth 20000 in
theorem gX7_lookLeaves_X2_chooseLook : GoodIn wsX7_lookLeaves (wsV RX7 272 RX2 yX2_chooseLook wsX2_chooseLook) := goodIn_s _ [(15, 14), (18, 1), (29, 18), (7, 1), (47, 14), (76, 22)] rfl (by decide +kernel)
set_option maxRecDepth 20000 in
theorem gX7_lookLeaves_X7_answered : GoodIn wsX7_lookLeaves (wsV RX7 113 RX7 yX7_answered wsX7_answered) := goodIn_s _ [(61, 3), (7, 1), (64, 1), (14, 1), (65, 11)] rfl (by decide +kernel)
set_option maxRecDepth 20000 in
theorem gX7_lawsLike_X7_hasGallery : GoodIn wsX7_lawsLike (wsV RX7 154 RX7 yX7_hasGallery wsX7_hasGallery) := goodIn_s _ [(3, 5), (1, 2), (30, 26)] rfl (by decide +kernel)
set_option maxRecDepth 20000 in
theorem gX7_lawsLike_X7_refused : GoodIn wsX7_lawsLike (wsV RX7 82 RX7 yX7_refused wsX7_refused) := goodIn_s _ [(8, 3), (6, 1), (11, 2), (30, 11)] rfl (by decide +kernel)
set_option maxRecDepth 20000 in
theorem gX7_lawsLike_X0_goesLike : GoodIn wsX7_lawsLike (wsV RX7 281 RX0 yX0_goesLike wsX0_goesLike) := goodIn_s _ [(13, 10), (16, 1), (23, 3), (41, 15)] rfl (by decide +kernel)
set_option maxRecDepth 20000 in
theorem gX7_lawsLike_X7_answered : GoodIn wsX7_lawsLike (wsV RX7 113 RX7 yX7_answered wsX7_answered) := goodIn_s _ [(26, 3), (6, 1), (29, 1), (12, 1), (30, 11)] rfl (by decide +kernel)
set_option maxRecDepth 20000 in
theorem gX7_lawFor_X7_troubleOfFigureWithin : GoodIn wsX7_lawFor (wsV RX7 181 RX7 yX7_troubleOfFigureWithin wsX7_troubleOfFigureWithin) := goodIn_s _ [(1, 8), (4, 1), (9, 6), (24, 26)] rfl (by decide +kernel)
set_option maxRecDepth 20000 in
theorem gX7_lawFor_X7_refused : GoodIn wsX7_lawFor (wsV RX7 82 RX7 yX7_refused wsX7_refused) := goodIn_s _ [(15, 3), (4, 1), (18, 2), (24, 11)] rfl (by decide +kernel)
set_option maxRecDepth 20000 in
theorem gX7_lawFor_X7_answered : GoodIn wsX7_lawFor (wsV RX7 113 RX7 yX7_answered wsX7_answered) := goodIn_s _ [(20, 3), (4, 1), (23, 1), (19, 1), (24, 11)] rfl (by decide +kernel)
set_option maxRecDepth 20000 in
theorem gX7_judge_X7_hasGallery : GoodIn wsX7_judge (wsV RX7 154 RX7 yX7_hasGallery wsX7_hasGallery) := goodIn_s _ [(8, 5), (1, 1), (13, 1), (32, 26)] rfl (by decide +kernel)
set_option maxRecDepth 20000 in
theorem gX7_judge_X7_refused : GoodIn wsX7_judge (wsV RX7 82 RX7 yX7_refused wsX7_refused) := goodIn_s _ [(14, 3), (11, 1), (17, 2), (32, 11)] rfl (by decide +kernel)
set_option maxRecDepth 20000 in
theorem gX7_judge_X0_aliveByLaw : GoodIn wsX7_judge (wsV RX7 269 RX0 yX0_aliveByLaw wsX0_aliveByLaw) := goodIn_s _ [(19, 8), (11, 1), (27, 1), (43, 15)] rfl (by decide +kernel)
set_option maxRecDepth 20000 in
theorem gX7_judge_X7_answered : GoodIn wsX7_judge (wsV RX7 113 RX7 yX7_answered wsX7_answered) := goodIn_s _ [(28, 3), (11, 1), (31, 1), (18, 1), (32, 11)] rfl (by decide +kernel)
set_option maxRecDepth 20000 in
theorem gX7_dares_X7_troubleOfNumber : GoodIn wsX7_dares (wsV RX7 188 RX7 yX7_troubleOfNumber wsX7_troubleOfNumber) := goodIn_s _ [(2, 8), (5, 1), (10, 6), (26, 26)] rfl (by decide +kernel)
set_option maxRecDepth 20000 in
theorem gX7_dares_X7_attendantShare : GoodIn wsX7_dares (va_wsS RX7 299 yX7_attendantShare wsX7_attendantShare) := goodIn_s _ [(16, 2), (5, 1), (18, 1)] rfl (by decide +kernel)
set_option maxRecDepth 20000 in
theorem gX7_dares_X7_figureShare : GoodIn wsX7_dares (va_wsS RX7 303 yX7_figureShare wsX7_figureShare) := goodIn_s _ [(19, 2), (5, 1), (21, 1)] rfl (by decide +kernel)
set_option maxRecDepth 20000 in
theorem gX7_dares_X7_answered : GoodIn wsX7_dares (wsV RX7 113 RX7 yX7_answered wsX7_answered) := goodIn_s _ [(22, 3), (5, 1), (25, 1), (1, 1), (26, 11)] rfl (by decide +kernel)
set_option maxRecDepth 20000 in
theorem gX7_rests_X7_troubleOfNumber : GoodIn wsX7_rests (wsV RX7 188 RX7 yX7_troubleOfNumber wsX7_troubleOfNumber) := goodIn_s _ [(1, 8), (4, 1), (9, 6), (33, 26)] rfl (by decide +kernel)
set_option maxRecDepth 20000 in
theorem gX7_rests_X7_refused : GoodIn wsX7_rests (wsV RX7 82 RX7 yX7_refused wsX7_refused) := goodIn_s _ [(15, 3), (4, 1), (18, 2), (33, 11)] rfl (by decide +kernel)
set_option maxRecDepth 20000 in
theorem gX7_rests_X7_isRest : GoodIn wsX7_rests (va_wsS RX7 307 yX7_isRest wsX7_isRest) := goodIn_s _ [(20, 2), (4, 1), (22, 3), (4, 1), (25, 4)] rfl (by decide +kernel)
set_option maxRecDepth 20000 in
theorem gX7_rests_X7_answered : GoodIn wsX7_rests (wsV RX7 113 RX7 yX7_answered wsX7_answered) := goodIn_s _ [(29, 3), (4, 1), (32, 1), (19, 1), (33, 11)] rfl (by decide +kernel)
set_option maxRecDepth 20000 in
theorem gX7_rest_X7_troubleOfNumber : GoodIn wsX7_rest (wsV RX7 188 RX7 yX7_troubleOfNumber wsX7_troubleOfNumber) := goodIn_s _ [(1, 8), (4, 1), (9, 6), (33, 26)] rfl (by decide +kernel)
set_option maxRecDepth 20000 in
theorem gX7_rest_X7_refused : GoodIn wsX7_rest (wsV RX7 82 RX7 yX7_refused wsX7_refused) := goodIn_s _ [(15, 3), (4, 1), (18, 2), (33, 11)] rfl (by decide +kernel)
set_option maxRecDepth 20000 in
theorem gX7_rest_X7_isRest : GoodIn wsX7_rest (va_wsS RX7 307 yX7_isRest wsX7_isRest) := goodIn_s _ [(20, 2), (4, 1), (22, 3), (4, 1), (25, 4)] rfl (by decide +kernel)
set_option maxRecDepth 20000 in
theorem gX7_rest_X7_answered : GoodIn wsX7_rest (wsV RX7 113 RX7 yX7_answered wsX7_answered) := goodIn_s _ [(29, 3), (4, 1), (32, 1), (19, 1), (33, 11)] rfl (by decide +kernel)
set_option maxRecDepth 20000 in
theorem gX7_odds_X7_troubleOfFigureWithin : GoodIn wsX7_odds (wsV RX7 181 RX7 yX7_troubleOfFigureWithin wsX7_troubleOfFigureWithin) := goodIn_s _ [(5, 8), (8, 1), (13, 1), (2, 1), (14, 4), (39, 26)] rfl (by decide +kernel)
set_option maxRecDepth 20000 in
theorem gX7_odds_X7_refused : GoodIn wsX7_odds (wsV RX7 82 RX7 yX7_refused wsX7_refused) := goodIn_s _ [(18, 3), (8, 1), (21, 1), (4, 1), (39, 11)] rfl (by decide +kernel)
set_option maxRecDepth 20000 in
theorem gX7_odds_X7_ownTurns : GoodIn wsX7_odds (wsV RX7 311 RX7 yX7_ownTurns wsX7_ownTurns) := goodIn_s _ [(22, 3), (8, 1), (25, 3), (2, 1), (28, 8), (39, 11), (65, 7), (50, 15)] rfl (by decide +kernel)
set_option maxRecDepth 20000 in
theorem gX7_odds_X7_inLowestTerms : GoodIn wsX7_odds (va_wsS RX7 319 yX7_inLowestTerms wsX7_inLowestTerms) := goodIn_s _ [(36, 2), (8, 1), (38, 1)] rfl (by decide +kernel)
set_option maxRecDepth 20000 in
theorem gX7_mean_X7_troubleOfFigureWithin : GoodIn wsX7_mean (wsV RX7 181 RX7 yX7_troubleOfFigureWithin wsX7_troubleOfFigureWithin) := goodIn_s _ [(5, 8), (8, 1), (13, 1), (2, 1), (14, 4), (39, 26)] rfl (by decide +kernel)
set_option maxRecDepth 20000 in
theorem gX7_mean_X7_refused : GoodIn wsX7_mean (wsV RX7 82 RX7 yX7_refused wsX7_refused) := goodIn_s _ [(18, 3), (8, 1), (21, 1), (1, 1), (39, 11)] rfl (by decide +kernel)
set_option maxRecDepth 20000 in
theorem gX7_mean_X7_ownTurns : GoodIn wsX7_mean (wsV RX7 311 RX7 yX7_ownTurns wsX7_ownTurns) := goodIn_s _ [(22, 3), (8, 1), (25, 3), (2, 1), (28, 8), (39, 11), (65, 7), (50, 15)] rfl (by decide +kernel)
set_option maxRecDepth 20000 in
theorem gX7_mean_X7_inLowestTerms : GoodIn wsX7_mean (va_wsS RX7 319 yX7_inLowestTerms wsX7_inLowestTerms) := goodIn_s _ [(36, 2), (8, 1), (38, 1)] rfl (by decide +kernel)
set_option maxRecDepth 20000 in
theorem gX7_drawn_X7_isFigure : GoodIn wsX7_drawn (wsV RX7 116 RX7 yX7_isFigure wsX7_isFigure) := goodIn_s _ [(5, 5), (4, 1), (10, 3), (8, 1), (13, 1), (40, 11), (58, 15)] rfl (by decide +kernel)
set_option maxRecDepth 20000 in
theorem gX7_drawn_X7_refused : GoodIn wsX7_drawn (wsV RX7 82 RX7 yX7_refused wsX7_refused) := goodIn_s _ [(14, 3), (8, 1), (17, 2), (40, 11)] rfl (by decide +kernel)
set_option maxRecDepth 20000 in
theorem gX7_drawn_X7_within : GoodIn wsX7_drawn (va_wsS RX7 78 yX7_within wsX7_within) := goodIn_s _ [(11, 2), (8, 1), (13, 1)] rfl (by decide +kernel)
set_option maxRecDepth 20000 in
theorem gX7_drawn_X7_nextDraw : GoodIn wsX7_drawn (va_wsS RX7 324 yX7_nextDraw wsX7_nextDraw) := goodIn_s _ [(19, 2), (8, 1), (21, 2)] rfl (by decide +kernel)
set_option maxRecDepth 20000 in
theorem gX7_drawn_X0_next : GoodIn wsX7_drawn (wsV RX7 174 RX0 yX0_next wsX0_next) := goodIn_s _ [(23, 8), (58, 15)] rfl (by decide +kernel)
set_option maxRecDepth 20000 in
theorem gX7_drawn_X7_isShut : GoodIn wsX7_drawn (wsV RX7 327 RX7 yX7_isShut wsX7_isShut) := goodIn_s _ [(31, 3), (8, 1), (34, 1), (4, 1), (35, 1), (40, 11), (58, 15)] rfl (by decide +kernel)
set_option maxRecDepth 20000 in
theorem gX7_drawn_X7_answered : GoodIn wsX7_drawn (wsV RX7 113 RX7 yX7_answered wsX7_answered) := goodIn_s _ [(36, 3), (8, 1), (39, 1), (18, 1), (40, 11)] rfl (by decide +kernel)
set_option maxRecDepth 20000 in
theorem gX7_firstShut_X7_hasGallery : GoodIn wsX7_firstShut (wsV RX7 154 RX7 yX7_hasGallery wsX7_hasGallery) := goodIn_s _ [(2, 7), (30, 26)] rfl (by decide +kernel)
set_option maxRecDepth 20000 in
theorem gX7_firstShut_X7_refused : GoodIn wsX7_firstShut (wsV RX7 82 RX7 yX7_refused wsX7_refused) := goodIn_s _ [(9, 3), (5, 1), (12, 2), (30, 11)] rfl (by decide +kernel)
set_option maxRecDepth 20000 in
theorem gX7_firstShut_X7_within : GoodIn wsX7_firstShut (va_wsS RX7 78 yX7_within wsX7_within) := goodIn_s _ [(14, 2), (5, 1), (16, 1)] rfl (by decide +kernel)
set_option maxRecDepth 20000 in
theorem gX7_firstShut_X7_nextDraw : GoodIn wsX7_firstShut (va_wsS RX7 324 yX7_nextDraw wsX7_nextDraw) := goodIn_s _ [(17, 2), (5, 1), (19, 2)] rfl (by decide +kernel)
set_option maxRecDepth 20000 in
theorem gX7_firstShut_X7_isShut : GoodIn wsX7_firstShut (wsV RX7 327 RX7 yX7_isShut wsX7_isShut) := goodIn_s _ [(21, 3), (5, 1), (24, 1), (7, 1), (25, 1), (30, 26)] rfl (by decide +kernel)
set_option maxRecDepth 20000 in
theorem gX7_firstShut_X7_answered : GoodIn wsX7_firstShut (wsV RX7 113 RX7 yX7_answered wsX7_answered) := goodIn_s _ [(26, 3), (5, 1), (29, 1), (13, 1), (30, 11)] rfl (by decide +kernel)
set_option maxRecDepth 20000 in
theorem gX7_go_X7_troubleOfNumber : GoodIn wsX7_go (wsV RX7 188 RX7 yX7_troubleOfNumber wsX7_troubleOfNumber) := goodIn_s _ [(7, 8), (10, 1), (15, 1), (5, 1), (16, 4), (118, 11), (136, 15)] rfl (by decide +kernel)
set_option maxRecDepth 20000 in
theorem gX7_go_X7_refused : GoodIn wsX7_go (wsV RX7 82 RX7 yX7_refused wsX7_refused) := goodIn_s _ [(20, 3), (10, 1), (23, 2), (118, 11)] rfl (by decide +kernel)
set_option maxRecDepth 20000 in
theorem gX7_go_X1_keep : GoodIn wsX7_go (wsV RX7 330 RX1 yX1_keep wsX1_keep) := goodIn_s _ [(25, 24), (151, 5), (129, 7)] rfl (by decide +kernel)
set_option maxRecDepth 20000 in
theorem gX7_go_X0_pass : GoodIn wsX7_go (wsV RX7 205 RX0 yX0_pass wsX0_pass) := goodIn_s _ [(49, 14), (52, 1), (63, 3), (18, 1), (10, 1), (19, 1), (66, 10), (40, 1), (76, 1), (45, 1), (77, 37), (43, 2), (129, 22), (156, 4)] rfl (by decide +kernel)
set_option maxRecDepth 20000 in
theorem gX7_go_X7_answered : GoodIn wsX7_go (wsV RX7 113 RX7 yX7_answered wsX7_answered) := goodIn_s _ [(114, 3), (10, 1), (117, 1), (24, 1), (118, 11)] rfl (by decide +kernel)
set_option maxRecDepth 20000 in
theorem gX7_put_X7_isFigure : GoodIn wsX7_put (wsV RX7 116 RX7 yX7_isFigure wsX7_isFigure) := goodIn_s _ [(4, 9), (7, 1), (13, 1), (53, 11), (71, 15)] rfl (by decide +kernel)
set_option maxRecDepth 20000 in
theorem gX7_put_X7_refused : GoodIn wsX7_put (wsV RX7 82 RX7 yX7_refused wsX7_refused) := goodIn_s _ [(14, 3), (7, 1), (17, 2), (53, 11)] rfl (by decide +kernel)
set_option maxRecDepth 20000 in
theorem gX7_put_X5_isGone : GoodIn wsX7_put (wsV RX7 129 RX5 yX5_isGone wsX5_isGone) := goodIn_s _ [(19, 7), (7, 1), (26, 1), (64, 7)] rfl (by decide +kernel)
set_option maxRecDepth 20000 in
theorem gX7_put_X1_keep : GoodIn wsX7_put (wsV RX7 330 RX1 yX1_keep wsX1_keep) := goodIn_s _ [(27, 15), (22, 1), (42, 4), (24, 1), (46, 3), (86, 5), (64, 7)] rfl (by decide +kernel)
set_option maxRecDepth 20000 in
theorem gX7_put_X7_answered : GoodIn wsX7_put (wsV RX7 113 RX7 yX7_answered wsX7_answered) := goodIn_s _ [(49, 3), (7, 1), (52, 1), (18, 1), (53, 11)] rfl (by decide +kernel)
set_option maxRecDepth 20000 in
theorem gX7_wind_X7_isFigure : GoodIn wsX7_wind (wsV RX7 116 RX7 yX7_isFigure wsX7_isFigure) := goodIn_s _ [(5, 9), (8, 1), (14, 1), (52, 11), (70, 15)] rfl (by decide +kernel)
set_option maxRecDepth 20000 in
theorem gX7_wind_X7_refused : GoodIn wsX7_wind (wsV RX7 82 RX7 yX7_refused wsX7_refused) := goodIn_s _ [(15, 3), (8, 1), (18, 2), (52, 11)] rfl (by decide +kernel)
set_option maxRecDepth 20000 in
theorem gX7_wind_X1_keep : GoodIn wsX7_wind (wsV RX7 330 RX1 yX1_keep wsX1_keep) := goodIn_s _ [(20, 24), (85, 5), (63, 7)] rfl (by decide +kernel)
set_option maxRecDepth 20000 in
theorem gX7_wind_X5_startTurn : GoodIn wsX7_wind (wsV RX7 248 RX5 yX5_startTurn wsX5_startTurn) := goodIn_s _ [(44, 3), (35, 1), (47, 1), (38, 2), (63, 7)] rfl (by decide +kernel)
set_option maxRecDepth 20000 in
theorem gX7_wind_X7_answered : GoodIn wsX7_wind (wsV RX7 113 RX7 yX7_answered wsX7_answered) := goodIn_s _ [(48, 3), (8, 1), (51, 1), (19, 1), (52, 11)] rfl (by decide +kernel)
set_option maxRecDepth 20000 in
theorem gX7_undo_X1_takeLatest : GoodIn wsX7_undo (wsV RX7 333 RX1 yX1_takeLatest wsX1_takeLatest) := goodIn_s _ [(4, 20), (35, 12)] rfl (by decide +kernel)
set_option maxRecDepth 20000 in
theorem gX7_image_X7_hasGallery : GoodIn wsX7_image (wsV RX7 154 RX7 yX7_hasGallery wsX7_hasGallery) := goodIn_s _ [(4, 7), (39, 11), (55, 15)] rfl (by decide +kernel)
set_option maxRecDepth 20000 in
theorem gX7_image_X7_refused : GoodIn wsX7_image (wsV RX7 82 RX7 yX7_refused wsX7_refused) := goodIn_s _ [(11, 3), (7, 1), (14, 2), (39, 11)] rfl (by decide +kernel)
