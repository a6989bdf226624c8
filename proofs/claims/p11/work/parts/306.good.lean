set_option maxRecDepth 20000 in
theorem gX8_next_X8_see : GoodIn wsX8_next (wsV RX8 74 RX8 yX8_see wsX8_see) := goodIn_s _ [(7, 7), (20, 40)] rfl (by decide +kernel)
set_option maxRecDepth 20000 in
theorem gX8_next_X8_isSmall : GoodIn wsX8_next (va_wsS RX8 90 yX8_isSmall wsX8_isSmall) := goodIn_s _ [(14, 2), (10, 1), (16, 1)] rfl (by decide +kernel)
set_option maxRecDepth 20000 in
theorem gX8_next_X8_isDigit : GoodIn wsX8_next (va_wsS RX8 94 yX8_isDigit wsX8_isDigit) := goodIn_s _ [(17, 2), (10, 1), (19, 1)] rfl (by decide +kernel)
set_option maxRecDepth 20000 in
theorem gX8_isWord_J0_length_8abf5 : GoodIn wsX8_isWord (wsV RX8 104 RJ0 yJ0_length_8abf5 wsJ0_length_8abf5) := goodIn_s _ [(5, 9), (8, 1), (14, 3)] rfl (by decide +kernel)
set_option maxRecDepth 20000 in
theorem gX8_isWord_J0_charAt_5068e : GoodIn wsX8_isWord (wsV RX8 110 RJ0 yJ0_charAt_5068e wsJ0_charAt_5068e) := goodIn_s _ [(17, 3), (8, 1), (20, 1), (10, 1), (21, 3), (8, 1), (24, 1), (15, 2), (25, 29)] rfl (by decide +kernel)
set_option maxRecDepth 20000 in
theorem gX8_takesWord_X8_isWord : GoodIn wsX8_takesWord (wsV RX8 114 RX8 yX8_isWord wsX8_isWord) := goodIn_s _ [(1, 58), (78, 40)] rfl (by decide +kernel)
set_option maxRecDepth 20000 in
theorem gX8_takesWord_X8_next : GoodIn wsX8_takesWord (wsV RX8 118 RX8 yX8_next wsX8_next) := goodIn_s _ [(59, 3), (4, 1), (62, 3), (8, 1), (65, 1), (7, 1), (9, 1), (66, 3), (4, 1), (69, 49)] rfl (by decide +kernel)
set_option maxRecDepth 20000 in
theorem gX8_must_X8_takesWord : GoodIn wsX8_must (wsV RX8 121 RX8 yX8_takesWord wsX8_takesWord) := goodIn_s _ [(3, 8), (6, 1), (11, 1), (1, 1), (12, 57), (2, 1), (69, 13), (88, 40)] rfl (by decide +kernel)
set_option maxRecDepth 20000 in
theorem gX8_must_X8_wrong : GoodIn wsX8_must (wsV RX8 124 RX8 yX8_wrong wsX8_wrong) := goodIn_s _ [(82, 3), (6, 1), (85, 1), (1, 1), (86, 42)] rfl (by decide +kernel)
set_option maxRecDepth 20000 in
theorem gX8_newName_X8_isWord : GoodIn wsX8_newName (wsV RX8 114 RX8 yX8_isWord wsX8_isWord) := goodIn_s _ [(7, 5), (1, 2), (4, 1), (6, 1), (12, 49), (89, 40)] rfl (by decide +kernel)
set_option maxRecDepth 20000 in
theorem gX8_newName_X8_wrong : GoodIn wsX8_newName (wsV RX8 124 RX8 yX8_wrong wsX8_wrong) := goodIn_s _ [(61, 3), (10, 1), (64, 1), (1, 1), (65, 2), (89, 40)] rfl (by decide +kernel)
set_option maxRecDepth 20000 in
theorem gX8_newName_X8_isKnown : GoodIn wsX8_newName (wsV RX8 138 RX8 yX8_isKnown wsX8_isKnown) := goodIn_s _ [(67, 3), (10, 1), (70, 1), (5, 1), (4, 1), (6, 1), (89, 40)] rfl (by decide +kernel)
set_option maxRecDepth 20000 in
theorem gX8_newName_X8_next : GoodIn wsX8_newName (wsV RX8 118 RX8 yX8_next wsX8_next) := goodIn_s _ [(71, 3), (10, 1), (74, 2), (3, 2), (76, 1), (2, 1), (6, 1), (77, 3), (10, 1), (80, 49)] rfl (by decide +kernel)
set_option maxRecDepth 20000 in
theorem gX8_pass_X8_next : GoodIn wsX8_pass (wsV RX8 118 RX8 yX8_next wsX8_next) := goodIn_s _ [(2, 14), (5, 1), (16, 49)] rfl (by decide +kernel)
set_option maxRecDepth 20000 in
theorem gX8_numberHere_X8_wrong : GoodIn wsX8_numberHere (wsV RX8 124 RX8 yX8_wrong wsX8_wrong) := goodIn_s _ [(5, 5), (1, 1), (10, 2), (15, 40)] rfl (by decide +kernel)
set_option maxRecDepth 20000 in
theorem gX8_numberHere_X8_in : GoodIn wsX8_numberHere (va_wsS RX8 142 yX8_in wsX8_in) := goodIn_s _ [(12, 2), (8, 1), (14, 1)] rfl (by decide +kernel)
set_option maxRecDepth 20000 in
theorem gX8_number_X8_numberHere : GoodIn wsX8_number (wsV RX8 146 RX8 yX8_numberHere wsX8_numberHere) := goodIn_s _ [(1, 12), (4, 1), (13, 6), (42, 40)] rfl (by decide +kernel)
set_option maxRecDepth 20000 in
theorem gX8_number_X8_pass : GoodIn wsX8_number (wsV RX8 150 RX8 yX8_pass wsX8_pass) := goodIn_s _ [(19, 3), (4, 1), (22, 1), (6, 1), (23, 3), (4, 1), (26, 2), (8, 1), (28, 1), (9, 1), (7, 1), (29, 53)] rfl (by decide +kernel)
set_option maxRecDepth 20000 in
theorem gX8_after_X8_must : GoodIn wsX8_after (wsV RX8 153 RX8 yX8_must wsX8_must) := goodIn_s _ [(1, 10), (4, 1), (11, 81), (107, 40)] rfl (by decide +kernel)
set_option maxRecDepth 20000 in
theorem gX8_after_X8_number : GoodIn wsX8_after (wsV RX8 157 RX8 yX8_number wsX8_number) := goodIn_s _ [(92, 3), (4, 1), (95, 4), (4, 1), (99, 1), (6, 1), (16, 1), (7, 1), (73, 1), (86, 6), (100, 7), (68, 5), (17, 2), (74, 12), (107, 40)] rfl (by decide +kernel)
set_option maxRecDepth 20000 in
theorem gX8_gallery_X8_good : GoodIn wsX8_gallery (wsV RX8 160 RX8 yX8_good wsX8_good) := goodIn_s _ [(14, 7), (171, 40)] rfl (by decide +kernel)
set_option maxRecDepth 20000 in
theorem gX8_gallery_X8_in : GoodIn wsX8_gallery (va_wsS RX8 142 yX8_in wsX8_in) := goodIn_s _ [(21, 2), (17, 1), (23, 1)] rfl (by decide +kernel)
set_option maxRecDepth 20000 in
theorem gX8_gallery_X8_no : GoodIn wsX8_gallery (wsV RX8 163 RX8 yX8_no wsX8_no) := goodIn_s _ [(24, 3), (17, 1), (27, 1), (20, 1), (171, 40)] rfl (by decide +kernel)
set_option maxRecDepth 20000 in
theorem gX8_gallery_X8_next : GoodIn wsX8_gallery (wsV RX8 118 RX8 yX8_next wsX8_next) := goodIn_s _ [(28, 3), (17, 1), (31, 1), (6, 1), (8, 1), (32, 2), (7, 1), (34, 4), (17, 1), (38, 1), (5, 1), (39, 7), (171, 40)] rfl (by decide +kernel)
set_option maxRecDepth 20000 in
theorem gX8_gallery_X8_readLine : GoodIn wsX8_gallery (wsV RX8 166 RX8 yX8_readLine wsX8_readLine) := goodIn_s _ [(46, 3), (17, 1), (49, 1), (4, 1), (8, 1), (50, 3), (17, 1), (53, 1), (3, 1), (7, 1), (32, 1), (34, 1), (54, 57), (2, 1), (111, 1), (28, 4), (6, 1), (33, 1), (35, 4), (5, 1), (39, 7), (112, 20), (21, 3), (132, 36), (171, 40)] rfl (by decide +kernel)
set_option maxRecDepth 20000 in
theorem gX8_gallery_X8_wrong : GoodIn wsX8_gallery (wsV RX8 124 RX8 yX8_wrong wsX8_wrong) := goodIn_s _ [(107, 3), (17, 1), (110, 1), (3, 1), (2, 1), (111, 1), (171, 40)] rfl (by decide +kernel)
set_option maxRecDepth 20000 in
theorem gX8_gallery_X8_copy : GoodIn wsX8_gallery (va_wsS RX8 169 yX8_copy wsX8_copy) := goodIn_s _ [(168, 2), (17, 1), (170, 1)] rfl (by decide +kernel)
set_option maxRecDepth 20000 in
theorem gX8_begins_X8_isWord : GoodIn wsX8_begins (wsV RX8 114 RX8 yX8_isWord wsX8_isWord) := goodIn_s _ [(3, 58), (89, 40)] rfl (by decide +kernel)
set_option maxRecDepth 20000 in
theorem gX8_begins_X8_wrong : GoodIn wsX8_begins (wsV RX8 124 RX8 yX8_wrong wsX8_wrong) := goodIn_s _ [(61, 3), (6, 1), (64, 1), (8, 1), (65, 2), (89, 40)] rfl (by decide +kernel)
set_option maxRecDepth 20000 in
theorem gX8_begins_X8_pass : GoodIn wsX8_begins (wsV RX8 150 RX8 yX8_pass wsX8_pass) := goodIn_s _ [(67, 3), (6, 1), (70, 1), (8, 1), (71, 3), (6, 1), (74, 2), (1, 1), (10, 1), (76, 1), (9, 1), (11, 1), (77, 52)] rfl (by decide +kernel)
