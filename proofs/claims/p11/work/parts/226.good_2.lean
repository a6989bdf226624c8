set_option maxRecDepth 20000 in
theorem gX8_guard_X8_why : GoodIn wsX8_guard (wsV RX8 290 RX8 yX8_why wsX8_why) := goodIn_s _ [(16, 3), (9, 1), (19, 1)] rfl (by decide +kernel)
set_option maxRecDepth 20000 in
theorem gX8_guard_X8_no : GoodIn wsX8_guard (wsV RX8 163 RX8 yX8_no wsX8_no) := goodIn_s _ [(20, 3), (9, 1), (23, 1), (12, 1), (70, 40)] rfl (by decide +kernel)
set_option maxRecDepth 20000 in
theorem gX8_guard_X8_ones : GoodIn wsX8_guard (va_wsS RX8 314 yX8_ones wsX8_ones) := goodIn_s _ [(24, 2), (9, 1), (26, 1)] rfl (by decide +kernel)
set_option maxRecDepth 20000 in
theorem gX8_guard_X8_begin : GoodIn wsX8_guard (wsV RX8 270 RX8 yX8_begin wsX8_begin) := goodIn_s _ [(27, 3), (9, 1), (30, 1), (5, 1), (4, 1), (31, 3), (9, 1), (34, 1), (2, 1), (35, 2), (3, 1), (37, 3), (70, 40)] rfl (by decide +kernel)
set_option maxRecDepth 20000 in
theorem gX8_guard_X8_minuteOn : GoodIn wsX8_guard (wsV RX8 273 RX8 yX8_minuteOn wsX8_minuteOn) := goodIn_s _ [(40, 3), (9, 1), (43, 2), (2, 1), (45, 4), (9, 1), (49, 9), (3, 1), (58, 4), (36, 1), (35, 1), (62, 48)] rfl (by decide +kernel)
set_option maxRecDepth 20000 in
theorem gX8_byCode_X8_turnBy : GoodIn wsX8_byCode (wsV RX8 327 RX8 yX8_turnBy wsX8_turnBy) := goodIn_s _ [(2, 6), (1, 1), (8, 40)] rfl (by decide +kernel)
set_option maxRecDepth 20000 in
theorem gX8_doesFit_X8_byCode : GoodIn wsX8_doesFit (wsV RX8 331 RX8 yX8_byCode wsX8_byCode) := goodIn_s _ [(2, 5), (1, 1), (7, 3), (5, 1), (10, 42)] rfl (by decide +kernel)
set_option maxRecDepth 20000 in
theorem gX8_fits_X8_good : GoodIn wsX8_fits (wsV RX8 160 RX8 yX8_good wsX8_good) := goodIn_s _ [(2, 7), (31, 40)] rfl (by decide +kernel)
set_option maxRecDepth 20000 in
theorem gX8_fits_X8_no : GoodIn wsX8_fits (wsV RX8 163 RX8 yX8_no wsX8_no) := goodIn_s _ [(9, 3), (5, 1), (12, 1), (8, 1), (31, 40)] rfl (by decide +kernel)
set_option maxRecDepth 20000 in
theorem gX8_fits_X8_codes : GoodIn wsX8_fits (wsV RX8 334 RX8 yX8_codes wsX8_codes) := goodIn_s _ [(13, 3), (5, 1), (16, 2), (31, 40)] rfl (by decide +kernel)
set_option maxRecDepth 20000 in
theorem gX8_fits_X8_doesFit : GoodIn wsX8_fits (wsV RX8 337 RX8 yX8_doesFit wsX8_doesFit) := goodIn_s _ [(18, 3), (5, 1), (21, 1), (17, 1), (22, 3), (5, 1), (25, 46)] rfl (by decide +kernel)
set_option maxRecDepth 20000 in
theorem gX8_fitAt_X8_good : GoodIn wsX8_fitAt (wsV RX8 160 RX8 yX8_good wsX8_good) := goodIn_s _ [(2, 7), (35, 40)] rfl (by decide +kernel)
set_option maxRecDepth 20000 in
theorem gX8_fitAt_X8_no : GoodIn wsX8_fitAt (wsV RX8 163 RX8 yX8_no wsX8_no) := goodIn_s _ [(9, 3), (5, 1), (12, 1), (8, 1), (35, 40)] rfl (by decide +kernel)
set_option maxRecDepth 20000 in
theorem gX8_fitAt_X8_codes : GoodIn wsX8_fitAt (wsV RX8 334 RX8 yX8_codes wsX8_codes) := goodIn_s _ [(13, 3), (5, 1), (16, 2), (35, 40)] rfl (by decide +kernel)
set_option maxRecDepth 20000 in
theorem gX8_fitAt_X8_doesFit : GoodIn wsX8_fitAt (wsV RX8 337 RX8 yX8_doesFit wsX8_doesFit) := goodIn_s _ [(18, 3), (5, 1), (21, 1), (17, 1), (22, 3), (5, 1), (25, 6), (35, 40)] rfl (by decide +kernel)
set_option maxRecDepth 20000 in
theorem gX8_fitAt_X8_numberOf : GoodIn wsX8_fitAt (wsV RX8 340 RX8 yX8_numberOf wsX8_numberOf) := goodIn_s _ [(31, 3), (5, 1), (34, 1), (17, 1), (35, 40)] rfl (by decide +kernel)
set_option maxRecDepth 20000 in
theorem gX8_layOften_X8_codes : GoodIn wsX8_layOften (wsV RX8 334 RX8 yX8_codes wsX8_codes) := goodIn_s _ [(2, 6), (21, 40)] rfl (by decide +kernel)
set_option maxRecDepth 20000 in
theorem gX8_layOften_X8_doesFit : GoodIn wsX8_layOften (wsV RX8 337 RX8 yX8_doesFit wsX8_doesFit) := goodIn_s _ [(8, 3), (5, 1), (11, 1), (7, 1), (12, 3), (5, 1), (15, 46)] rfl (by decide +kernel)
set_option maxRecDepth 20000 in
theorem gX8_layOften_X8_byCode : GoodIn wsX8_layOften (wsV RX8 331 RX8 yX8_byCode wsX8_byCode) := goodIn_s _ [(12, 3), (5, 1), (15, 1), (7, 1), (16, 3), (5, 1), (19, 42)] rfl (by decide +kernel)
set_option maxRecDepth 20000 in
theorem gX8_could_X8_good : GoodIn wsX8_could (wsV RX8 160 RX8 yX8_good wsX8_good) := goodIn_s _ [(4, 7), (43, 40)] rfl (by decide +kernel)
set_option maxRecDepth 20000 in
theorem gX8_could_X8_in : GoodIn wsX8_could (va_wsS RX8 142 yX8_in wsX8_in) := goodIn_s _ [(11, 2), (7, 1), (13, 1)] rfl (by decide +kernel)
set_option maxRecDepth 20000 in
theorem gX8_could_X8_why : GoodIn wsX8_could (wsV RX8 290 RX8 yX8_why wsX8_why) := goodIn_s _ [(14, 3), (7, 1), (17, 1)] rfl (by decide +kernel)
set_option maxRecDepth 20000 in
theorem gX8_could_X8_no : GoodIn wsX8_could (wsV RX8 163 RX8 yX8_no wsX8_no) := goodIn_s _ [(18, 3), (7, 1), (21, 1), (10, 1), (43, 40)] rfl (by decide +kernel)
set_option maxRecDepth 20000 in
theorem gX8_could_X8_layOften : GoodIn wsX8_could (wsV RX8 343 RX8 yX8_layOften wsX8_layOften) := goodIn_s _ [(22, 3), (7, 1), (25, 1), (3, 1), (26, 3), (7, 1), (29, 1), (2, 1), (30, 53)] rfl (by decide +kernel)
set_option maxRecDepth 20000 in
theorem gX8_aliveBy_X8_good : GoodIn wsX8_aliveBy (wsV RX8 160 RX8 yX8_good wsX8_good) := goodIn_s _ [(3, 7), (47, 40)] rfl (by decide +kernel)
set_option maxRecDepth 20000 in
theorem gX8_aliveBy_X8_isFigure : GoodIn wsX8_aliveBy (wsV RX8 277 RX8 yX8_isFigure wsX8_isFigure) := goodIn_s _ [(10, 3), (6, 1), (13, 2), (1, 1), (15, 2), (6, 1), (17, 1), (47, 40)] rfl (by decide +kernel)
set_option maxRecDepth 20000 in
theorem gX8_aliveBy_X8_in : GoodIn wsX8_aliveBy (va_wsS RX8 142 yX8_in wsX8_in) := goodIn_s _ [(15, 2), (6, 1), (17, 1)] rfl (by decide +kernel)
set_option maxRecDepth 20000 in
theorem gX8_aliveBy_X8_why : GoodIn wsX8_aliveBy (wsV RX8 290 RX8 yX8_why wsX8_why) := goodIn_s _ [(18, 3), (6, 1), (21, 1)] rfl (by decide +kernel)
set_option maxRecDepth 20000 in
theorem gX8_aliveBy_X8_no : GoodIn wsX8_aliveBy (wsV RX8 163 RX8 yX8_no wsX8_no) := goodIn_s _ [(22, 3), (6, 1), (25, 1), (9, 1), (47, 40)] rfl (by decide +kernel)
set_option maxRecDepth 20000 in
theorem gX8_aliveBy_X8_layOften : GoodIn wsX8_aliveBy (wsV RX8 343 RX8 yX8_layOften wsX8_layOften) := goodIn_s _ [(26, 3), (6, 1), (29, 1), (2, 1), (30, 3), (6, 1), (33, 1), (1, 1), (34, 53)] rfl (by decide +kernel)
set_option maxRecDepth 20000 in
theorem gX8_lookOf_X8_layOften : GoodIn wsX8_lookOf (wsV RX8 343 RX8 yX8_layOften wsX8_layOften) := goodIn_s _ [(4, 5), (3, 1), (9, 3), (7, 1), (12, 1), (2, 1), (13, 53)] rfl (by decide +kernel)
set_option maxRecDepth 20000 in
theorem gX8_look_X8_good : GoodIn wsX8_look (wsV RX8 160 RX8 yX8_good wsX8_good) := goodIn_s _ [(2, 7), (41, 40)] rfl (by decide +kernel)
set_option maxRecDepth 20000 in
theorem gX8_look_X8_lookOf : GoodIn wsX8_look (wsV RX8 349 RX8 yX8_lookOf wsX8_lookOf) := goodIn_s _ [(9, 3), (5, 1), (12, 7), (5, 1), (19, 18), (41, 40)] rfl (by decide +kernel)
set_option maxRecDepth 20000 in
theorem gX8_look_X8_no : GoodIn wsX8_look (wsV RX8 163 RX8 yX8_no wsX8_no) := goodIn_s _ [(37, 3), (5, 1), (40, 1), (8, 1), (41, 40)] rfl (by decide +kernel)
set_option maxRecDepth 20000 in
theorem gX8_lookLeaves_X8_good : GoodIn wsX8_lookLeaves (wsV RX8 160 RX8 yX8_good wsX8_good) := goodIn_s _ [(3, 7), (41, 40)] rfl (by decide +kernel)
set_option maxRecDepth 20000 in
theorem gX8_lookLeaves_X8_no : GoodIn wsX8_lookLeaves (wsV RX8 163 RX8 yX8_no wsX8_no) := goodIn_s _ [(10, 3), (6, 1), (13, 1), (9, 1), (41, 40)] rfl (by decide +kernel)
set_option maxRecDepth 20000 in
theorem gX8_lookLeaves_X8_lookOf : GoodIn wsX8_lookLeaves (wsV RX8 349 RX8 yX8_lookOf wsX8_lookOf) := goodIn_s _ [(14, 3), (6, 1), (17, 1), (2, 1), (18, 5), (6, 1), (23, 58)] rfl (by decide +kernel)
set_option maxRecDepth 20000 in
theorem gX8_judge_X8_good : GoodIn wsX8_judge (wsV RX8 160 RX8 yX8_good wsX8_good) := goodIn_s _ [(3, 7), (19, 40)] rfl (by decide +kernel)
set_option maxRecDepth 20000 in
theorem gX8_judge_X8_no : GoodIn wsX8_judge (wsV RX8 163 RX8 yX8_no wsX8_no) := goodIn_s _ [(10, 3), (6, 1), (13, 1), (9, 1), (19, 40)] rfl (by decide +kernel)
set_option maxRecDepth 20000 in
theorem gX8_judge_X8_turnBy : GoodIn wsX8_judge (wsV RX8 327 RX8 yX8_turnBy wsX8_turnBy) := goodIn_s _ [(14, 3), (6, 1), (17, 2), (2, 1), (19, 40)] rfl (by decide +kernel)
set_option maxRecDepth 20000 in
theorem gX8_lawsLike_X8_good : GoodIn wsX8_lawsLike (wsV RX8 160 RX8 yX8_good wsX8_good) := goodIn_s _ [(3, 7), (27, 40)] rfl (by decide +kernel)
set_option maxRecDepth 20000 in
theorem gX8_lawsLike_X8_no : GoodIn wsX8_lawsLike (wsV RX8 163 RX8 yX8_no wsX8_no) := goodIn_s _ [(10, 3), (6, 1), (13, 1), (9, 1), (27, 40)] rfl (by decide +kernel)
set_option maxRecDepth 20000 in
theorem gX8_lawsLike_X8_codes : GoodIn wsX8_lawsLike (wsV RX8 334 RX8 yX8_codes wsX8_codes) := goodIn_s _ [(14, 3), (6, 1), (17, 1), (2, 1), (27, 40)] rfl (by decide +kernel)
set_option maxRecDepth 20000 in
theorem gX8_lawsLike_X8_byCode : GoodIn wsX8_lawsLike (wsV RX8 331 RX8 yX8_byCode wsX8_byCode) := goodIn_s _ [(18, 3), (6, 1), (21, 1), (2, 1), (22, 3), (6, 1), (25, 42)] rfl (by decide +kernel)
set_option maxRecDepth 20000 in
theorem gX8_lawsLike_X8_turnBy : GoodIn wsX8_lawsLike (wsV RX8 327 RX8 yX8_turnBy wsX8_turnBy) := goodIn_s _ [(22, 3), (6, 1), (25, 2), (2, 1), (27, 40)] rfl (by decide +kernel)
set_option maxRecDepth 20000 in
theorem gX8_lawFor_X8_good : GoodIn wsX8_lawFor (wsV RX8 160 RX8 yX8_good wsX8_good) := goodIn_s _ [(1, 7), (38, 40)] rfl (by decide +kernel)
set_option maxRecDepth 20000 in
theorem gX8_lawFor_X8_isFigure : GoodIn wsX8_lawFor (wsV RX8 277 RX8 yX8_isFigure wsX8_isFigure) := goodIn_s _ [(8, 3), (4, 1), (11, 5), (4, 1), (16, 1), (38, 40)] rfl (by decide +kernel)
set_option maxRecDepth 20000 in
theorem gX8_lawFor_X8_in : GoodIn wsX8_lawFor (va_wsS RX8 142 yX8_in wsX8_in) := goodIn_s _ [(14, 2), (4, 1), (16, 1)] rfl (by decide +kernel)
set_option maxRecDepth 20000 in
theorem gX8_lawFor_X8_why : GoodIn wsX8_lawFor (wsV RX8 290 RX8 yX8_why wsX8_why) := goodIn_s _ [(17, 3), (4, 1), (20, 1)] rfl (by decide +kernel)
set_option maxRecDepth 20000 in
theorem gX8_lawFor_X8_no : GoodIn wsX8_lawFor (wsV RX8 163 RX8 yX8_no wsX8_no) := goodIn_s _ [(21, 3), (4, 1), (24, 1), (7, 1), (38, 40)] rfl (by decide +kernel)
set_option maxRecDepth 20000 in
theorem gX8_lawFor_X8_byCode : GoodIn wsX8_lawFor (wsV RX8 331 RX8 yX8_byCode wsX8_byCode) := goodIn_s _ [(25, 3), (4, 1), (28, 1), (13, 1), (29, 3), (4, 1), (32, 2), (38, 40)] rfl (by decide +kernel)
set_option maxRecDepth 20000 in
theorem gX8_lawFor_X8_numberOf : GoodIn wsX8_lawFor (wsV RX8 340 RX8 yX8_numberOf wsX8_numberOf) := goodIn_s _ [(34, 3), (4, 1), (37, 1), (13, 1), (38, 40)] rfl (by decide +kernel)
set_option maxRecDepth 20000 in
theorem gX8_dares_X8_good : GoodIn wsX8_dares (wsV RX8 160 RX8 yX8_good wsX8_good) := goodIn_s _ [(3, 6), (2, 1), (22, 40)] rfl (by decide +kernel)
set_option maxRecDepth 20000 in
theorem gX8_dares_X8_in : GoodIn wsX8_dares (va_wsS RX8 142 yX8_in wsX8_in) := goodIn_s _ [(9, 2), (6, 1), (11, 1)] rfl (by decide +kernel)
set_option maxRecDepth 20000 in
theorem gX8_dares_X8_why : GoodIn wsX8_dares (wsV RX8 290 RX8 yX8_why wsX8_why) := goodIn_s _ [(12, 3), (6, 1), (15, 1)] rfl (by decide +kernel)
set_option maxRecDepth 20000 in
theorem gX8_dares_X8_otherHas : GoodIn wsX8_dares (va_wsS RX8 352 yX8_otherHas wsX8_otherHas) := goodIn_s _ [(16, 2), (6, 1), (18, 1)] rfl (by decide +kernel)
set_option maxRecDepth 20000 in
theorem gX8_dares_X8_figureHas : GoodIn wsX8_dares (va_wsS RX8 355 yX8_figureHas wsX8_figureHas) := goodIn_s _ [(19, 2), (6, 1), (21, 1)] rfl (by decide +kernel)
set_option maxRecDepth 20000 in
theorem gX8_seekRests_X8_figureHas : GoodIn wsX8_seekRests (va_wsS RX8 355 yX8_figureHas wsX8_figureHas) := goodIn_s _ [(2, 4)] rfl (by decide +kernel)
set_option maxRecDepth 20000 in
theorem gX8_seekRests_X8_otherHas : GoodIn wsX8_seekRests (va_wsS RX8 352 yX8_otherHas wsX8_otherHas) := goodIn_s _ [(6, 2), (4, 1), (8, 1)] rfl (by decide +kernel)
set_option maxRecDepth 20000 in
theorem gX8_rests_X8_good : GoodIn wsX8_rests (wsV RX8 160 RX8 yX8_good wsX8_good) := goodIn_s _ [(2, 7), (31, 40)] rfl (by decide +kernel)
set_option maxRecDepth 20000 in
theorem gX8_rests_X8_in : GoodIn wsX8_rests (va_wsS RX8 142 yX8_in wsX8_in) := goodIn_s _ [(9, 2), (5, 1), (11, 1)] rfl (by decide +kernel)
set_option maxRecDepth 20000 in
theorem gX8_rests_X8_why : GoodIn wsX8_rests (wsV RX8 290 RX8 yX8_why wsX8_why) := goodIn_s _ [(12, 3), (5, 1), (15, 1)] rfl (by decide +kernel)
set_option maxRecDepth 20000 in
theorem gX8_rests_X8_no : GoodIn wsX8_rests (wsV RX8 163 RX8 yX8_no wsX8_no) := goodIn_s _ [(16, 3), (5, 1), (19, 1), (8, 1), (31, 40)] rfl (by decide +kernel)
set_option maxRecDepth 20000 in
theorem gX8_rests_X8_seekRests : GoodIn wsX8_rests (wsV RX8 362 RX8 yX8_seekRests wsX8_seekRests) := goodIn_s _ [(20, 3), (5, 1), (23, 4), (5, 1), (27, 44)] rfl (by decide +kernel)
set_option maxRecDepth 20000 in
theorem gX8_rest_X8_good : GoodIn wsX8_rest (wsV RX8 160 RX8 yX8_good wsX8_good) := goodIn_s _ [(3, 7), (31, 40)] rfl (by decide +kernel)
set_option maxRecDepth 20000 in
theorem gX8_rest_X8_in : GoodIn wsX8_rest (va_wsS RX8 142 yX8_in wsX8_in) := goodIn_s _ [(10, 2), (6, 1), (12, 1)] rfl (by decide +kernel)
set_option maxRecDepth 20000 in
theorem gX8_rest_X8_why : GoodIn wsX8_rest (wsV RX8 290 RX8 yX8_why wsX8_why) := goodIn_s _ [(13, 3), (6, 1), (16, 1)] rfl (by decide +kernel)
set_option maxRecDepth 20000 in
theorem gX8_rest_X8_no : GoodIn wsX8_rest (wsV RX8 163 RX8 yX8_no wsX8_no) := goodIn_s _ [(17, 3), (6, 1), (20, 1), (9, 1), (31, 40)] rfl (by decide +kernel)
set_option maxRecDepth 20000 in
theorem gX8_rest_X8_seekRests : GoodIn wsX8_rest (wsV RX8 362 RX8 yX8_seekRests wsX8_seekRests) := goodIn_s _ [(21, 3), (6, 1), (24, 1), (2, 1), (25, 2), (6, 1), (27, 44)] rfl (by decide +kernel)
set_option maxRecDepth 20000 in
theorem gX8_turnsOf_X8_goRound : GoodIn wsX8_turnsOf (wsV RX8 294 RX8 yX8_goRound wsX8_goRound) := goodIn_s _ [(1, 12), (4, 1), (13, 2), (19, 40)] rfl (by decide +kernel)
set_option maxRecDepth 20000 in
theorem gX8_turnsOf_X8_turnAt : GoodIn wsX8_turnsOf (wsV RX8 297 RX8 yX8_turnAt wsX8_turnAt) := goodIn_s _ [(15, 3), (4, 1), (18, 1), (8, 1), (7, 1), (9, 1), (19, 40)] rfl (by decide +kernel)
set_option maxRecDepth 20000 in
theorem gX8_odds_X8_good : GoodIn wsX8_odds (wsV RX8 160 RX8 yX8_good wsX8_good) := goodIn_s _ [(3, 7), (49, 40)] rfl (by decide +kernel)
set_option maxRecDepth 20000 in
theorem gX8_odds_X8_isFigure : GoodIn wsX8_odds (wsV RX8 277 RX8 yX8_isFigure wsX8_isFigure) := goodIn_s _ [(10, 3), (6, 1), (13, 2), (2, 1), (15, 2), (6, 1), (17, 1), (49, 40)] rfl (by decide +kernel)
set_option maxRecDepth 20000 in
theorem gX8_odds_X8_in : GoodIn wsX8_odds (va_wsS RX8 142 yX8_in wsX8_in) := goodIn_s _ [(15, 2), (6, 1), (17, 1)] rfl (by decide +kernel)
set_option maxRecDepth 20000 in
theorem gX8_odds_X8_why : GoodIn wsX8_odds (wsV RX8 290 RX8 yX8_why wsX8_why) := goodIn_s _ [(18, 3), (6, 1), (21, 1)] rfl (by decide +kernel)
set_option maxRecDepth 20000 in
theorem gX8_odds_X8_no : GoodIn wsX8_odds (wsV RX8 163 RX8 yX8_no wsX8_no) := goodIn_s _ [(22, 3), (6, 1), (25, 1), (9, 1), (49, 40)] rfl (by decide +kernel)
set_option maxRecDepth 20000 in
theorem gX8_odds_X8_turnsOf : GoodIn wsX8_odds (wsV RX8 365 RX8 yX8_turnsOf wsX8_turnsOf) := goodIn_s _ [(26, 3), (6, 1), (29, 4), (6, 1), (33, 9), (2, 1), (42, 4), (49, 40)] rfl (by decide +kernel)
set_option maxRecDepth 20000 in
theorem gX8_odds_X8_lowest : GoodIn wsX8_odds (va_wsS RX8 370 yX8_lowest wsX8_lowest) := goodIn_s _ [(46, 2), (6, 1), (48, 1)] rfl (by decide +kernel)
set_option maxRecDepth 20000 in
theorem gX8_mean_X8_good : GoodIn wsX8_mean (wsV RX8 160 RX8 yX8_good wsX8_good) := goodIn_s _ [(3, 7), (49, 40)] rfl (by decide +kernel)
set_option maxRecDepth 20000 in
theorem gX8_mean_X8_isFigure : GoodIn wsX8_mean (wsV RX8 277 RX8 yX8_isFigure wsX8_isFigure) := goodIn_s _ [(10, 3), (6, 1), (13, 2), (1, 1), (15, 2), (6, 1), (17, 1), (49, 40)] rfl (by decide +kernel)
set_option maxRecDepth 20000 in
theorem gX8_mean_X8_in : GoodIn wsX8_mean (va_wsS RX8 142 yX8_in wsX8_in) := goodIn_s _ [(15, 2), (6, 1), (17, 1)] rfl (by decide +kernel)
set_option maxRecDepth 20000 in
theorem gX8_mean_X8_why : GoodIn wsX8_mean (wsV RX8 290 RX8 yX8_why wsX8_why) := goodIn_s _ [(18, 3), (6, 1), (21, 1)] rfl (by decide +kernel)
set_option maxRecDepth 20000 in
theorem gX8_mean_X8_no : GoodIn wsX8_mean (wsV RX8 163 RX8 yX8_no wsX8_no) := goodIn_s _ [(22, 3), (6, 1), (25, 1), (9, 1), (49, 40)] rfl (by decide +kernel)
set_option maxRecDepth 20000 in
theorem gX8_mean_X8_turnsOf : GoodIn wsX8_mean (wsV RX8 365 RX8 yX8_turnsOf wsX8_turnsOf) := goodIn_s _ [(26, 3), (6, 1), (29, 4), (6, 1), (33, 9), (1, 1), (42, 4), (49, 40)] rfl (by decide +kernel)
set_option maxRecDepth 20000 in
theorem gX8_mean_X8_lowest : GoodIn wsX8_mean (va_wsS RX8 370 yX8_lowest wsX8_lowest) := goodIn_s _ [(46, 2), (6, 1), (48, 1)] rfl (by decide +kernel)
set_option maxRecDepth 20000 in
theorem gX8_drawWhy_X8_in : GoodIn wsX8_drawWhy (va_wsS RX8 142 yX8_in wsX8_in) := goodIn_s _ [(6, 4)] rfl (by decide +kernel)
set_option maxRecDepth 20000 in
theorem gX8_drawWhy_X8_why : GoodIn wsX8_drawWhy (wsV RX8 290 RX8 yX8_why wsX8_why) := goodIn_s _ [(10, 3), (8, 1), (13, 1)] rfl (by decide +kernel)
set_option maxRecDepth 20000 in
theorem gX8_drawWhy_X8_goRound : GoodIn wsX8_drawWhy (wsV RX8 294 RX8 yX8_goRound wsX8_goRound) := goodIn_s _ [(14, 3), (8, 1), (17, 8), (8, 1), (25, 1), (5, 1), (30, 40)] rfl (by decide +kernel)
set_option maxRecDepth 20000 in
theorem gX8_drawWhy_X8_turnAt : GoodIn wsX8_drawWhy (wsV RX8 297 RX8 yX8_turnAt wsX8_turnAt) := goodIn_s _ [(26, 3), (8, 1), (29, 1), (20, 1), (19, 1), (21, 1), (30, 40)] rfl (by decide +kernel)
set_option maxRecDepth 20000 in
theorem gX8_drawn_X8_good : GoodIn wsX8_drawn (wsV RX8 160 RX8 yX8_good wsX8_good) := goodIn_s _ [(2, 7), (49, 40)] rfl (by decide +kernel)
set_option maxRecDepth 20000 in
theorem gX8_drawn_X8_isFigure : GoodIn wsX8_drawn (wsV RX8 277 RX8 yX8_isFigure wsX8_isFigure) := goodIn_s _ [(9, 3), (5, 1), (12, 5), (5, 1), (17, 1), (49, 40)] rfl (by decide +kernel)
set_option maxRecDepth 20000 in
theorem gX8_drawn_X8_drawWhy : GoodIn wsX8_drawn (wsV RX8 382 RX8 yX8_drawWhy wsX8_drawWhy) := goodIn_s _ [(18, 3), (5, 1), (21, 3), (1, 1), (24, 1), (14, 3), (5, 1), (17, 1), (25, 20), (49, 40)] rfl (by decide +kernel)
set_option maxRecDepth 20000 in
theorem gX8_drawn_X8_no : GoodIn wsX8_drawn (wsV RX8 163 RX8 yX8_no wsX8_no) := goodIn_s _ [(45, 3), (5, 1), (48, 1), (8, 1), (49, 40)] rfl (by decide +kernel)
set_option maxRecDepth 20000 in
theorem gX8_firstShut_X8_good : GoodIn wsX8_firstShut (wsV RX8 160 RX8 yX8_good wsX8_good) := goodIn_s _ [(3, 7), (45, 40)] rfl (by decide +kernel)
set_option maxRecDepth 20000 in
theorem gX8_firstShut_X8_drawWhy : GoodIn wsX8_firstShut (wsV RX8 382 RX8 yX8_drawWhy wsX8_drawWhy) := goodIn_s _ [(10, 3), (6, 1), (13, 2), (2, 1), (15, 5), (6, 1), (20, 21), (45, 40)] rfl (by decide +kernel)
set_option maxRecDepth 20000 in
theorem gX8_firstShut_X8_no : GoodIn wsX8_firstShut (wsV RX8 163 RX8 yX8_no wsX8_no) := goodIn_s _ [(41, 3), (6, 1), (44, 1), (9, 1), (45, 40)] rfl (by decide +kernel)
set_option maxRecDepth 20000 in
theorem gX8_note_X8_copy : GoodIn wsX8_note (va_wsS RX8 169 yX8_copy wsX8_copy) := goodIn_s _ [(4, 4)] rfl (by decide +kernel)
set_option maxRecDepth 20000 in
theorem gX8_go_X8_good : GoodIn wsX8_go (wsV RX8 160 RX8 yX8_good wsX8_good) := goodIn_s _ [(3, 7), (68, 40)] rfl (by decide +kernel)
set_option maxRecDepth 20000 in
theorem gX8_go_X8_in : GoodIn wsX8_go (va_wsS RX8 142 yX8_in wsX8_in) := goodIn_s _ [(10, 2), (6, 1), (12, 1)] rfl (by decide +kernel)
set_option maxRecDepth 20000 in
theorem gX8_go_X8_why : GoodIn wsX8_go (wsV RX8 290 RX8 yX8_why wsX8_why) := goodIn_s _ [(13, 3), (6, 1), (16, 1)] rfl (by decide +kernel)
set_option maxRecDepth 20000 in
theorem gX8_go_X8_no : GoodIn wsX8_go (wsV RX8 163 RX8 yX8_no wsX8_no) := goodIn_s _ [(17, 3), (6, 1), (20, 1), (9, 1), (68, 40)] rfl (by decide +kernel)
set_option maxRecDepth 20000 in
theorem gX8_go_X8_note : GoodIn wsX8_go (wsV RX8 386 RX8 yX8_note wsX8_note) := goodIn_s _ [(21, 3), (6, 1), (24, 3), (2, 1), (27, 2), (6, 1), (29, 1), (68, 40)] rfl (by decide +kernel)
set_option maxRecDepth 20000 in
theorem gX8_go_X8_watchAsTold : GoodIn wsX8_go (wsV RX8 267 RX8 yX8_watchAsTold wsX8_watchAsTold) := goodIn_s _ [(30, 3), (6, 1), (33, 5), (68, 40)] rfl (by decide +kernel)
set_option maxRecDepth 20000 in
theorem gX8_go_X8_minuteOn : GoodIn wsX8_go (wsV RX8 273 RX8 yX8_minuteOn wsX8_minuteOn) := goodIn_s _ [(38, 3), (6, 1), (41, 2), (34, 1), (43, 4), (6, 1), (47, 9), (37, 1), (56, 4), (36, 1), (35, 1), (60, 48)] rfl (by decide +kernel)
set_option maxRecDepth 20000 in
theorem gX8_put_X8_good : GoodIn wsX8_put (wsV RX8 160 RX8 yX8_good wsX8_good) := goodIn_s _ [(2, 7), (34, 40)] rfl (by decide +kernel)
set_option maxRecDepth 20000 in
theorem gX8_put_X8_isFigure : GoodIn wsX8_put (wsV RX8 277 RX8 yX8_isFigure wsX8_isFigure) := goodIn_s _ [(9, 3), (5, 1), (12, 5), (5, 1), (17, 1), (34, 40)] rfl (by decide +kernel)
set_option maxRecDepth 20000 in
theorem gX8_put_X8_no : GoodIn wsX8_put (wsV RX8 163 RX8 yX8_no wsX8_no) := goodIn_s _ [(18, 3), (5, 1), (21, 1), (8, 1), (34, 40)] rfl (by decide +kernel)
set_option maxRecDepth 20000 in
theorem gX8_put_X8_hasBit : GoodIn wsX8_put (va_wsS RX8 238 yX8_hasBit wsX8_hasBit) := goodIn_s _ [(22, 2), (5, 1), (24, 1)] rfl (by decide +kernel)
set_option maxRecDepth 20000 in
theorem gX8_put_X8_note : GoodIn wsX8_put (wsV RX8 386 RX8 yX8_note wsX8_note) := goodIn_s _ [(25, 3), (5, 1), (28, 3), (1, 1), (31, 2), (5, 1), (33, 41)] rfl (by decide +kernel)
set_option maxRecDepth 20000 in
theorem gX8_wind_X8_good : GoodIn wsX8_wind (wsV RX8 160 RX8 yX8_good wsX8_good) := goodIn_s _ [(2, 7), (31, 40)] rfl (by decide +kernel)
set_option maxRecDepth 20000 in
theorem gX8_wind_X8_isFigure : GoodIn wsX8_wind (wsV RX8 277 RX8 yX8_isFigure wsX8_isFigure) := goodIn_s _ [(9, 3), (5, 1), (12, 5), (5, 1), (17, 1), (31, 40)] rfl (by decide +kernel)
set_option maxRecDepth 20000 in
theorem gX8_wind_X8_no : GoodIn wsX8_wind (wsV RX8 163 RX8 yX8_no wsX8_no) := goodIn_s _ [(18, 3), (5, 1), (21, 1), (8, 1), (31, 40)] rfl (by decide +kernel)
set_option maxRecDepth 20000 in
theorem gX8_wind_X8_note : GoodIn wsX8_wind (wsV RX8 386 RX8 yX8_note wsX8_note) := goodIn_s _ [(22, 3), (5, 1), (25, 3), (1, 1), (28, 2), (5, 1), (30, 41)] rfl (by decide +kernel)
set_option maxRecDepth 20000 in
theorem gX8_undo_X8_good : GoodIn wsX8_undo (wsV RX8 160 RX8 yX8_good wsX8_good) := goodIn_s _ [(4, 7), (18, 40)] rfl (by decide +kernel)
set_option maxRecDepth 20000 in
theorem gX8_undo_X8_isNot : GoodIn wsX8_undo (wsV RX8 389 RX8 yX8_isNot wsX8_isNot) := goodIn_s _ [(11, 3), (7, 1), (14, 1), (10, 1), (18, 40)] rfl (by decide +kernel)
set_option maxRecDepth 20000 in
theorem gX8_undo_X8_copy : GoodIn wsX8_undo (va_wsS RX8 169 yX8_copy wsX8_copy) := goodIn_s _ [(15, 2), (7, 1), (17, 1)] rfl (by decide +kernel)
set_option maxRecDepth 20000 in
theorem gX8_image_X8_good : GoodIn wsX8_image (wsV RX8 160 RX8 yX8_good wsX8_good) := goodIn_s _ [(5, 7), (19, 40)] rfl (by decide +kernel)
set_option maxRecDepth 20000 in
theorem gX8_image_X8_no : GoodIn wsX8_image (wsV RX8 163 RX8 yX8_no wsX8_no) := goodIn_s _ [(12, 3), (8, 1), (15, 1), (11, 1), (19, 40)] rfl (by decide +kernel)
set_option maxRecDepth 20000 in
theorem gX8_image_X8_copy : GoodIn wsX8_image (va_wsS RX8 169 yX8_copy wsX8_copy) := goodIn_s _ [(16, 2), (8, 1), (18, 1)] rfl (by decide +kernel)
set_option maxRecDepth 20000 in
theorem gX8_back_X8_good : GoodIn wsX8_back (wsV RX8 160 RX8 yX8_good wsX8_good) := goodIn_s _ [(5, 7), (22, 40)] rfl (by decide +kernel)
