set_option maxRecDepth 20000 in
theorem gX8_readLine_X8_isWord : GoodIn wsX8_readLine (wsV RX8 114 RX8 yX8_isWord wsX8_isWord) := goodIn_s _ [(3, 58), (148, 40)] rfl (by decide +kernel)
set_option maxRecDepth 20000 in
theorem gX8_readLine_X8_galleryLine : GoodIn wsX8_readLine (wsV RX8 182 RX8 yX8_galleryLine wsX8_galleryLine) := goodIn_s _ [(61, 3), (6, 1), (64, 1), (1, 2), (8, 1), (65, 3), (6, 1), (68, 8), (10, 1), (76, 1), (9, 1), (11, 1), (77, 24), (3, 3), (7, 1), (12, 49), (101, 15), (148, 40)] rfl (by decide +kernel)
set_option maxRecDepth 20000 in
theorem gX8_readLine_X8_lawLine : GoodIn wsX8_readLine (wsV RX8 185 RX8 yX8_lawLine wsX8_lawLine) := goodIn_s _ [(116, 3), (6, 1), (119, 1), (1, 2), (8, 1), (65, 3), (6, 1), (68, 8), (10, 1), (76, 1), (9, 1), (11, 1), (77, 12), (120, 4), (89, 12), (3, 3), (7, 1), (12, 49), (101, 15), (148, 40)] rfl (by decide +kernel)
set_option maxRecDepth 20000 in
theorem gX8_readLine_X8_begins : GoodIn wsX8_readLine (wsV RX8 188 RX8 yX8_begins wsX8_begins) := goodIn_s _ [(124, 3), (6, 1), (127, 1), (2, 1), (1, 1), (3, 58), (65, 6), (112, 4), (71, 18), (148, 40)] rfl (by decide +kernel)
set_option maxRecDepth 20000 in
theorem gX8_readLine_X8_figureLine : GoodIn wsX8_readLine (wsV RX8 192 RX8 yX8_figureLine wsX8_figureLine) := goodIn_s _ [(128, 3), (6, 1), (131, 1), (8, 1), (1, 2), (132, 3), (6, 1), (135, 1), (9, 3), (3, 3), (7, 1), (12, 49), (65, 6), (136, 4), (71, 18), (93, 8), (120, 4), (105, 11), (101, 4), (148, 40)] rfl (by decide +kernel)
set_option maxRecDepth 20000 in
theorem gX8_readLine_X8_watcherLine : GoodIn wsX8_readLine (wsV RX8 195 RX8 yX8_watcherLine wsX8_watcherLine) := goodIn_s _ [(140, 3), (6, 1), (143, 1), (8, 1), (1, 1), (132, 3), (6, 1), (135, 1), (9, 1), (2, 1), (10, 2), (3, 3), (7, 1), (12, 49), (65, 6), (136, 4), (71, 18), (120, 4), (89, 27), (148, 40)] rfl (by decide +kernel)
set_option maxRecDepth 20000 in
theorem gX8_readLine_X8_seenLine : GoodIn wsX8_readLine (wsV RX8 198 RX8 yX8_seenLine wsX8_seenLine) := goodIn_s _ [(144, 3), (6, 1), (147, 1), (8, 1), (1, 2), (120, 3), (6, 1), (123, 1), (101, 8), (9, 1), (76, 1), (65, 6), (109, 7), (71, 5), (10, 2), (77, 12), (93, 8), (3, 3), (7, 1), (12, 49), (148, 40)] rfl (by decide +kernel)
set_option maxRecDepth 20000 in
theorem gX8_readLine_X8_wrong : GoodIn wsX8_readLine (wsV RX8 124 RX8 yX8_wrong wsX8_wrong) := goodIn_s _ [(65, 3), (6, 1), (68, 1), (8, 1), (69, 2), (148, 40)] rfl (by decide +kernel)
set_option maxRecDepth 20000 in
theorem gX8_galleryLine_X8_wrong : GoodIn wsX8_galleryLine (wsV RX8 124 RX8 yX8_wrong wsX8_wrong) := goodIn_s _ [(4, 5), (3, 1), (9, 2), (112, 40)] rfl (by decide +kernel)
set_option maxRecDepth 20000 in
theorem gX8_galleryLine_X8_next : GoodIn wsX8_galleryLine (wsV RX8 118 RX8 yX8_next wsX8_next) := goodIn_s _ [(11, 3), (7, 1), (14, 2), (2, 1), (16, 7), (7, 1), (23, 9), (112, 40)] rfl (by decide +kernel)
set_option maxRecDepth 20000 in
theorem gX8_galleryLine_X8_after : GoodIn wsX8_galleryLine (wsV RX8 203 RX8 yX8_after wsX8_after) := goodIn_s _ [(32, 3), (7, 1), (35, 4), (7, 1), (39, 1), (3, 1), (2, 1), (40, 8), (18, 1), (16, 1), (19, 1), (48, 49), (11, 5), (17, 1), (20, 12), (4, 3), (8, 3), (97, 55)] rfl (by decide +kernel)
set_option maxRecDepth 20000 in
theorem gX8_lawLine_X8_wrong : GoodIn wsX8_lawLine (wsV RX8 124 RX8 yX8_wrong wsX8_wrong) := goodIn_s _ [(4, 5), (3, 1), (9, 2), (116, 40)] rfl (by decide +kernel)
set_option maxRecDepth 20000 in
theorem gX8_lawLine_X8_next : GoodIn wsX8_lawLine (wsV RX8 118 RX8 yX8_next wsX8_next) := goodIn_s _ [(11, 3), (7, 1), (14, 2), (2, 1), (16, 7), (7, 1), (23, 9), (116, 40)] rfl (by decide +kernel)
set_option maxRecDepth 20000 in
theorem gX8_lawLine_X8_last : GoodIn wsX8_lawLine (wsV RX8 215 RX8 yX8_last wsX8_last) := goodIn_s _ [(32, 3), (7, 1), (35, 1), (1, 1), (116, 40)] rfl (by decide +kernel)
set_option maxRecDepth 20000 in
theorem gX8_lawLine_X8_after : GoodIn wsX8_lawLine (wsV RX8 203 RX8 yX8_after wsX8_after) := goodIn_s _ [(36, 3), (7, 1), (39, 4), (7, 1), (43, 1), (3, 1), (2, 1), (44, 8), (18, 1), (16, 1), (19, 1), (52, 49), (11, 5), (17, 1), (20, 12), (4, 3), (8, 3), (101, 55)] rfl (by decide +kernel)
set_option maxRecDepth 20000 in
theorem gX8_figureLine_X8_newName : GoodIn wsX8_figureLine (wsV RX8 222 RX8 yX8_newName wsX8_newName) := goodIn_s _ [(4, 5), (1, 1), (9, 1), (3, 1), (10, 1), (2, 1), (11, 4), (7, 1), (15, 78), (120, 40)] rfl (by decide +kernel)
set_option maxRecDepth 20000 in
theorem gX8_figureLine_X8_must : GoodIn wsX8_figureLine (wsV RX8 153 RX8 yX8_must wsX8_must) := goodIn_s _ [(93, 3), (7, 1), (96, 1), (1, 1), (3, 1), (97, 3), (7, 1), (100, 1), (12, 4), (9, 3), (16, 49), (75, 18), (65, 6), (120, 40)] rfl (by decide +kernel)
set_option maxRecDepth 20000 in
theorem gX8_figureLine_X8_last : GoodIn wsX8_figureLine (wsV RX8 215 RX8 yX8_last wsX8_last) := goodIn_s _ [(101, 3), (7, 1), (104, 1), (2, 1), (120, 40)] rfl (by decide +kernel)
set_option maxRecDepth 20000 in
theorem gX8_figureLine_X8_numberHere : GoodIn wsX8_figureLine (wsV RX8 146 RX8 yX8_numberHere wsX8_numberHere) := goodIn_s _ [(105, 3), (7, 1), (108, 1), (1, 1), (9, 1), (3, 1), (80, 1), (65, 3), (7, 1), (68, 3), (109, 3), (120, 40)] rfl (by decide +kernel)
set_option maxRecDepth 20000 in
theorem gX8_figureLine_X8_wrong : GoodIn wsX8_figureLine (wsV RX8 124 RX8 yX8_wrong wsX8_wrong) := goodIn_s _ [(65, 3), (7, 1), (68, 1), (1, 1), (69, 2), (120, 40)] rfl (by decide +kernel)
set_option maxRecDepth 20000 in
theorem gX8_figureLine_X8_pass : GoodIn wsX8_figureLine (wsV RX8 150 RX8 yX8_pass wsX8_pass) := goodIn_s _ [(112, 3), (7, 1), (115, 1), (1, 1), (75, 3), (7, 1), (78, 2), (3, 1), (10, 1), (80, 1), (9, 1), (11, 1), (81, 12), (120, 40)] rfl (by decide +kernel)
set_option maxRecDepth 20000 in
theorem gX8_figureLine_X8_isWord : GoodIn wsX8_figureLine (wsV RX8 114 RX8 yX8_isWord wsX8_isWord) := goodIn_s _ [(12, 3), (7, 1), (15, 1), (1, 1), (9, 3), (16, 49), (120, 40)] rfl (by decide +kernel)
set_option maxRecDepth 20000 in
theorem gX8_figureLine_X8_number : GoodIn wsX8_figureLine (wsV RX8 157 RX8 yX8_number wsX8_number) := goodIn_s _ [(116, 3), (7, 1), (119, 1), (105, 3), (7, 1), (108, 1), (1, 1), (9, 1), (3, 1), (80, 1), (65, 6), (109, 7), (75, 5), (10, 2), (81, 12), (120, 40)] rfl (by decide +kernel)
set_option maxRecDepth 20000 in
theorem gX8_watcherLine_X8_newName : GoodIn wsX8_watcherLine (wsV RX8 222 RX8 yX8_newName wsX8_newName) := goodIn_s _ [(3, 5), (1, 1), (8, 3), (2, 1), (11, 4), (6, 1), (15, 78), (124, 40)] rfl (by decide +kernel)
set_option maxRecDepth 20000 in
theorem gX8_watcherLine_X8_last : GoodIn wsX8_watcherLine (wsV RX8 215 RX8 yX8_last wsX8_last) := goodIn_s _ [(93, 3), (6, 1), (96, 1), (2, 1), (124, 40)] rfl (by decide +kernel)
set_option maxRecDepth 20000 in
theorem gX8_watcherLine_X8_after : GoodIn wsX8_watcherLine (wsV RX8 203 RX8 yX8_after wsX8_after) := goodIn_s _ [(97, 3), (6, 1), (100, 4), (6, 1), (104, 1), (1, 1), (9, 1), (105, 4), (12, 4), (8, 1), (10, 2), (16, 49), (75, 18), (65, 6), (109, 55)] rfl (by decide +kernel)
set_option maxRecDepth 20000 in
theorem gX8_seenLine_X8_last : GoodIn wsX8_seenLine (wsV RX8 215 RX8 yX8_last wsX8_last) := goodIn_s _ [(4, 5), (2, 1), (112, 40)] rfl (by decide +kernel)
set_option maxRecDepth 20000 in
theorem gX8_seenLine_X8_number : GoodIn wsX8_seenLine (wsV RX8 157 RX8 yX8_number wsX8_number) := goodIn_s _ [(9, 3), (7, 1), (12, 4), (7, 1), (16, 1), (1, 1), (17, 1), (3, 1), (18, 33), (112, 40)] rfl (by decide +kernel)
set_option maxRecDepth 20000 in
theorem gX8_seenLine_X8_must : GoodIn wsX8_seenLine (wsV RX8 153 RX8 yX8_must wsX8_must) := goodIn_s _ [(51, 3), (7, 1), (54, 1), (1, 1), (3, 1), (55, 3), (7, 1), (58, 5), (17, 1), (37, 2), (63, 49), (32, 5), (18, 1), (39, 12), (19, 6), (112, 40)] rfl (by decide +kernel)
set_option maxRecDepth 20000 in
theorem gX8_seenLine_X8_numberHere : GoodIn wsX8_seenLine (wsV RX8 146 RX8 yX8_numberHere wsX8_numberHere) := goodIn_s _ [(13, 3), (7, 1), (16, 1), (1, 1), (17, 1), (3, 1), (18, 4), (7, 1), (22, 6), (112, 40)] rfl (by decide +kernel)
set_option maxRecDepth 20000 in
theorem gX8_seenLine_X8_wrong : GoodIn wsX8_seenLine (wsV RX8 124 RX8 yX8_wrong wsX8_wrong) := goodIn_s _ [(19, 3), (7, 1), (22, 1), (1, 1), (23, 2), (112, 40)] rfl (by decide +kernel)
set_option maxRecDepth 20000 in
theorem gX8_seenLine_X8_pass : GoodIn wsX8_seenLine (wsV RX8 150 RX8 yX8_pass wsX8_pass) := goodIn_s _ [(28, 3), (7, 1), (31, 1), (1, 1), (32, 3), (7, 1), (35, 2), (3, 1), (37, 1), (18, 1), (17, 1), (38, 13), (112, 40)] rfl (by decide +kernel)
