set_option maxRecDepth 20000 in
theorem gX0_sizeTold_J6_bitCount_0f7a4 : GoodIn wsX0_sizeTold (va_wsS RX0 57 yJ6_bitCount_0f7a4 wsJ6_bitCount_0f7a4) := goodIn_s _ [(12, 7)] rfl (by decide +kernel)
set_option maxRecDepth 20000 in
theorem gX0_aliveByLaw_X7_laterTurn_n72 : GoodIn wsX0_aliveByLaw (wsX7_laterTurn) := goodIn_s _ [(5, 1)] rfl (by decide +kernel)
set_option maxRecDepth 20000 in
theorem gX0_goesLike_X0_next : GoodIn wsX0_goesLike (wsV RX0 76 RX0 yX0_next wsX0_next) := goodIn_s _ [(3, 5), (2, 1), (8, 17)] rfl (by decide +kernel)
set_option maxRecDepth 20000 in
theorem gX0_pass_X0_stepsIn : GoodIn wsX0_pass (wsV RX0 87 RX0 yX0_stepsIn wsX0_stepsIn) := goodIn_s _ [(7, 10), (76, 15)] rfl (by decide +kernel)
set_option maxRecDepth 20000 in
theorem gX0_pass_X0_step : GoodIn wsX0_pass (wsV RX0 91 RX0 yX0_step wsX0_step) := goodIn_s _ [(17, 3), (10, 1), (20, 1), (3, 2), (21, 10), (15, 1), (31, 4), (10, 1), (35, 14), (69, 26)] rfl (by decide +kernel)
set_option maxRecDepth 20000 in
theorem gX0_pass_X0_partSaid : GoodIn wsX0_pass (wsV RX0 95 RX0 yX0_partSaid wsX0_partSaid) := goodIn_s _ [(49, 3), (10, 1), (52, 1), (12, 5), (76, 15)] rfl (by decide +kernel)
set_option maxRecDepth 20000 in
theorem gX0_pass_X6_placesIn : GoodIn wsX0_pass (wsV RX0 105 RX6 yX6_placesIn wsX6_placesIn) := goodIn_s _ [(36, 10), (39, 1), (46, 3), (91, 4)] rfl (by decide +kernel)
set_option maxRecDepth 20000 in
theorem gX0_pass_X0_isHeardAt : GoodIn wsX0_pass (va_wsS RX0 108 yX0_isHeardAt wsX0_isHeardAt) := goodIn_s _ [(53, 2), (10, 1), (55, 1)] rfl (by decide +kernel)
set_option maxRecDepth 20000 in
theorem gX0_pass_X0_next : GoodIn wsX0_pass (wsV RX0 76 RX0 yX0_next wsX0_next) := goodIn_s _ [(56, 3), (10, 1), (59, 4), (76, 15)] rfl (by decide +kernel)
set_option maxRecDepth 20000 in
theorem gX0_pass_X5_startTurn : GoodIn wsX0_pass (wsV RX0 114 RX5 yX5_startTurn wsX5_startTurn) := goodIn_s _ [(63, 3), (27, 1), (66, 10)] rfl (by decide +kernel)
set_option maxRecDepth 20000 in
theorem gX0_stepsIn_X7_within_n118 : GoodIn wsX0_stepsIn (wsX7_within) := goodIn_s _ [(5, 1)] rfl (by decide +kernel)
set_option maxRecDepth 20000 in
theorem gX0_step_X5_isGone : GoodIn wsX0_step (wsV RX0 122 RX5 yX5_isGone wsX5_isGone) := goodIn_s _ [(6, 9), (33, 7)] rfl (by decide +kernel)
set_option maxRecDepth 20000 in
theorem gX0_step_X0_nearer : GoodIn wsX0_step (wsV RX0 126 RX0 yX0_nearer wsX0_nearer) := goodIn_s _ [(15, 5), (4, 1), (40, 15)] rfl (by decide +kernel)
set_option maxRecDepth 20000 in
theorem gX0_step_X6_placesIn : GoodIn wsX0_step (wsV RX0 105 RX6 yX6_placesIn wsX6_placesIn) := goodIn_s _ [(20, 10), (23, 1), (30, 3), (55, 4)] rfl (by decide +kernel)
set_option maxRecDepth 20000 in
theorem gX0_step_X7_hasBit_n129 : GoodIn wsX0_step (wsX7_hasBit) := goodIn_s _ [(14, 1)] rfl (by decide +kernel)
set_option maxRecDepth 20000 in
theorem gX0_partSaid_X7_within_n118 : GoodIn wsX0_partSaid (wsX7_within) := goodIn_s _ [(5, 1)] rfl (by decide +kernel)
set_option maxRecDepth 20000 in
theorem gX1_keep_X5_copyFrom : GoodIn wsX1_keep (wsV RX1 31 RX5 yX5_copyFrom wsX5_copyFrom) := goodIn_s _ [(8, 12), (25, 7)] rfl (by decide +kernel)
set_option maxRecDepth 20000 in
theorem gX1_takeLatest_X5_copyFrom : GoodIn wsX1_takeLatest (wsV RX1 31 RX5 yX5_copyFrom wsX5_copyFrom) := goodIn_s _ [(4, 12), (21, 7)] rfl (by decide +kernel)
set_option maxRecDepth 20000 in
theorem gX1_addImage_X5_copyFrom : GoodIn wsX1_addImage (wsV RX1 31 RX5 yX5_copyFrom wsX5_copyFrom) := goodIn_s _ [(3, 12), (20, 7)] rfl (by decide +kernel)
set_option maxRecDepth 20000 in
theorem gX1_goBack_X7_within_n41 : GoodIn wsX1_goBack (wsX7_within) := goodIn_s _ [(6, 1)] rfl (by decide +kernel)
set_option maxRecDepth 20000 in
theorem gX1_goBack_X5_copyFrom : GoodIn wsX1_goBack (wsV RX1 31 RX5 yX5_copyFrom wsX5_copyFrom) := goodIn_s _ [(7, 12), (24, 7)] rfl (by decide +kernel)
set_option maxRecDepth 20000 in
theorem gX2_list_X2_addIfFit : GoodIn wsX2_list (wsV RX2 34 RX2 yX2_addIfFit wsX2_addIfFit) := goodIn_s _ [(4, 8), (2, 1), (12, 11), (30, 15), (23, 7)] rfl (by decide +kernel)
set_option maxRecDepth 20000 in
theorem gX2_addIfFit_X0_aliveByLaw : GoodIn wsX2_addIfFit (wsV RX2 44 RX0 yX0_aliveByLaw wsX0_aliveByLaw) := goodIn_s _ [(6, 25)] rfl (by decide +kernel)
set_option maxRecDepth 20000 in
theorem gX2_chooseLook_X2_list : GoodIn wsX2_chooseLook (wsV RX2 51 RX2 yX2_list wsX2_list) := goodIn_s _ [(7, 6), (4, 1), (6, 1), (13, 3), (10, 1), (16, 15), (44, 22)] rfl (by decide +kernel)
set_option maxRecDepth 20000 in
theorem gX2_chooseLook_X2_tally : GoodIn wsX2_chooseLook (wsV RX2 64 RX2 yX2_tally wsX2_tally) := goodIn_s _ [(31, 3), (10, 1), (34, 2), (4, 1), (20, 1), (44, 7)] rfl (by decide +kernel)
set_option maxRecDepth 20000 in
theorem gX2_chooseLook_X2_mostOf : GoodIn wsX2_chooseLook (wsV RX2 68 RX2 yX2_mostOf wsX2_mostOf) := goodIn_s _ [(36, 3), (10, 1), (39, 1), (35, 1), (40, 11)] rfl (by decide +kernel)
set_option maxRecDepth 20000 in
theorem gX3_advance_X3_scanWord : GoodIn wsX3_advance (wsV RX3 75 RX3 yX3_scanWord wsX3_scanWord) := goodIn_s _ [(6, 6), (1, 5), (17, 14)] rfl (by decide +kernel)
set_option maxRecDepth 20000 in
theorem gX3_advance_X3_scanWhole : GoodIn wsX3_advance (wsV RX3 78 RX3 yX3_scanWhole wsX3_scanWhole) := goodIn_s _ [(12, 3), (9, 1), (15, 2), (1, 5), (17, 14)] rfl (by decide +kernel)
set_option maxRecDepth 20000 in
theorem gX3_isWholeWithin_X3_fails : GoodIn wsX3_isWholeWithin (wsV RX3 64 RX3 yX3_fails wsX3_fails) := goodIn_s _ [(3, 8), (14, 14)] rfl (by decide +kernel)
set_option maxRecDepth 20000 in
theorem gX3_isWholeWithin_X7_within_n223 : GoodIn wsX3_isWholeWithin (wsX7_within) := goodIn_s _ [(13, 1)] rfl (by decide +kernel)
