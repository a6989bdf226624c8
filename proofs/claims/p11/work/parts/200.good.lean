set_option maxRecDepth 20000 in
theorem gX3_read_X0_clear : GoodIn wsX3_read (wsV RX3 39 RX0 yX0_clear wsX0_clear) := goodIn_s _ [(14, 13), (202, 19)] rfl (by decide +kernel)
set_option maxRecDepth 20000 in
theorem gX3_read_X3_advance : GoodIn wsX3_read (wsV RX3 54 RX3 yX3_advance wsX3_advance) := goodIn_s _ [(27, 5), (11, 1), (6, 1), (32, 2), (12, 1), (34, 3), (30, 1), (37, 7), (188, 14)] rfl (by decide +kernel)
set_option maxRecDepth 20000 in
theorem gX3_read_X3_readLine : GoodIn wsX3_read (wsV RX3 57 RX3 yX3_readLine wsX3_readLine) := goodIn_s _ [(44, 3), (30, 1), (47, 1), (7, 1), (48, 1), (13, 1), (49, 7), (30, 1), (56, 1), (12, 1), (38, 1), (57, 53), (9, 1), (33, 1), (10, 1), (110, 8), (27, 3), (31, 1), (11, 1), (6, 1), (32, 1), (34, 4), (39, 5), (118, 33), (8, 1), (151, 10), (17, 1), (161, 1), (21, 1), (25, 2), (162, 20), (22, 1), (182, 39)] rfl (by decide +kernel)
set_option maxRecDepth 20000 in
theorem gX3_read_X3_fails : GoodIn wsX3_read (wsV RX3 64 RX3 yX3_fails wsX3_fails) := goodIn_s _ [(106, 3), (30, 1), (109, 1), (9, 1), (33, 1), (10, 1), (188, 14)] rfl (by decide +kernel)
set_option maxRecDepth 20000 in
theorem gX3_isWord_J0_length_8abf5 : GoodIn wsX3_isWord (wsV RX3 88 RJ0 yJ0_length_8abf5 wsJ0_length_8abf5) := goodIn_s _ [(3, 9), (6, 1), (12, 3)] rfl (by decide +kernel)
set_option maxRecDepth 20000 in
theorem gX3_isWord_J0_charAt_5068e : GoodIn wsX3_isWord (wsV RX3 94 RJ0 yJ0_charAt_5068e wsJ0_charAt_5068e) := goodIn_s _ [(15, 3), (6, 1), (18, 1), (8, 1), (19, 3), (6, 1), (22, 1), (13, 2), (23, 29)] rfl (by decide +kernel)
set_option maxRecDepth 20000 in
theorem gX3_readLine_X3_isWord : GoodIn wsX3_readLine (wsV RX3 100 RX3 yX3_isWord wsX3_isWord) := goodIn_s _ [(8, 56), (171, 14)] rfl (by decide +kernel)
set_option maxRecDepth 20000 in
theorem gX3_readLine_X3_fails : GoodIn wsX3_readLine (wsV RX3 64 RX3 yX3_fails wsX3_fails) := goodIn_s _ [(64, 3), (11, 1), (67, 4), (171, 14)] rfl (by decide +kernel)
set_option maxRecDepth 20000 in
theorem gX3_readLine_X3_readHall : GoodIn wsX3_readLine (wsV RX3 107 RX3 yX3_readHall wsX3_readHall) := goodIn_s _ [(71, 3), (11, 1), (74, 2), (1, 1), (76, 3), (2, 1), (79, 3), (11, 1), (82, 4), (69, 1), (13, 1), (86, 4), (14, 1), (90, 9), (8, 3), (12, 1), (15, 54), (70, 1), (99, 7), (171, 29)] rfl (by decide +kernel)
set_option maxRecDepth 20000 in
theorem gX3_readLine_X3_readLaw : GoodIn wsX3_readLine (wsV RX3 118 RX3 yX3_readLaw wsX3_readLaw) := goodIn_s _ [(106, 3), (11, 1), (109, 1), (1, 2), (75, 1), (110, 3), (3, 1), (79, 3), (11, 1), (82, 4), (69, 1), (13, 1), (86, 4), (14, 1), (90, 9), (8, 3), (12, 1), (15, 54), (70, 1), (99, 7), (171, 29)] rfl (by decide +kernel)
set_option maxRecDepth 20000 in
theorem gX3_readLine_J6_bitCount_0f7a4 : GoodIn wsX3_readLine (va_wsS RX3 124 yJ6_bitCount_0f7a4 wsJ6_bitCount_0f7a4) := goodIn_s _ [(113, 7)] rfl (by decide +kernel)
set_option maxRecDepth 20000 in
theorem gX3_readLine_X3_readFigure : GoodIn wsX3_readLine (wsV RX3 130 RX3 yX3_readFigure wsX3_readFigure) := goodIn_s _ [(120, 3), (11, 1), (123, 1), (1, 2), (94, 1), (4, 1), (75, 1), (79, 3), (11, 1), (82, 4), (69, 1), (13, 1), (86, 4), (14, 1), (90, 4), (124, 6), (8, 3), (12, 1), (15, 54), (70, 1), (130, 4), (99, 7), (134, 2), (95, 4), (136, 8), (171, 29)] rfl (by decide +kernel)
set_option maxRecDepth 20000 in
theorem gX3_readLine_X3_readWatcher : GoodIn wsX3_readLine (wsV RX3 142 RX3 yX3_readWatcher wsX3_readWatcher) := goodIn_s _ [(144, 3), (11, 1), (147, 1), (1, 2), (75, 1), (5, 1), (79, 3), (11, 1), (82, 4), (69, 1), (13, 1), (86, 4), (14, 1), (90, 5), (124, 6), (8, 3), (12, 1), (15, 54), (70, 1), (95, 11), (148, 8), (171, 33)] rfl (by decide +kernel)
set_option maxRecDepth 20000 in
theorem gX3_readLine_X3_readSeen : GoodIn wsX3_readLine (wsV RX3 148 RX3 yX3_readSeen wsX3_readSeen) := goodIn_s _ [(156, 3), (11, 1), (159, 1), (1, 2), (75, 1), (94, 4), (11, 1), (98, 1), (8, 3), (12, 59), (79, 15), (99, 7), (130, 4), (160, 3), (139, 1), (163, 37)] rfl (by decide +kernel)
set_option maxRecDepth 20000 in
theorem gX3_readHall_X3_advance : GoodIn wsX3_readHall (wsV RX3 54 RX3 yX3_advance wsX3_advance) := goodIn_s _ [(7, 13), (10, 1), (20, 7), (97, 14)] rfl (by decide +kernel)
set_option maxRecDepth 20000 in
theorem gX3_readHall_X3_takeWhole : GoodIn wsX3_readHall (wsV RX3 152 RX3 yX3_takeWhole wsX3_takeWhole) := goodIn_s _ [(27, 3), (10, 1), (30, 1), (26, 1), (1, 1), (31, 3), (10, 1), (34, 1), (16, 1), (21, 1), (35, 54), (15, 1), (89, 1), (7, 3), (11, 4), (17, 4), (22, 4), (90, 21)] rfl (by decide +kernel)
set_option maxRecDepth 20000 in
theorem gX3_readLaw_X3_advance : GoodIn wsX3_readLaw (wsV RX3 54 RX3 yX3_advance wsX3_advance) := goodIn_s _ [(8, 13), (11, 1), (21, 7), (98, 14)] rfl (by decide +kernel)
set_option maxRecDepth 20000 in
theorem gX3_readLaw_X3_takeWhole : GoodIn wsX3_readLaw (wsV RX3 152 RX3 yX3_takeWhole wsX3_takeWhole) := goodIn_s _ [(28, 3), (11, 1), (31, 1), (27, 1), (3, 1), (32, 3), (11, 1), (35, 1), (17, 1), (22, 1), (36, 54), (16, 1), (90, 1), (8, 3), (12, 4), (18, 4), (23, 4), (91, 21)] rfl (by decide +kernel)
set_option maxRecDepth 20000 in
theorem gX3_readFigure_X3_advance : GoodIn wsX3_readFigure (wsV RX3 54 RX3 yX3_advance wsX3_advance) := goodIn_s _ [(6, 13), (9, 1), (19, 6), (3, 1), (115, 14)] rfl (by decide +kernel)
set_option maxRecDepth 20000 in
theorem gX3_readFigure_X3_takeName : GoodIn wsX3_readFigure (wsV RX3 184 RX3 yX3_takeName wsX3_takeName) := goodIn_s _ [(25, 3), (9, 1), (28, 1), (15, 1), (29, 2), (20, 1), (31, 3), (9, 1), (34, 55), (14, 1), (89, 1), (6, 3), (10, 4), (16, 4), (21, 4), (3, 1), (115, 14)] rfl (by decide +kernel)
set_option maxRecDepth 20000 in
theorem gX3_readFigure_X3_takeWord : GoodIn wsX3_readFigure (wsV RX3 189 RX3 yX3_takeWord wsX3_takeWord) := goodIn_s _ [(90, 3), (9, 1), (93, 1), (31, 3), (9, 1), (34, 1), (15, 1), (20, 1), (35, 54), (14, 1), (89, 1), (6, 3), (10, 4), (16, 4), (21, 4), (3, 1), (115, 14)] rfl (by decide +kernel)
set_option maxRecDepth 20000 in
theorem gX3_readFigure_X3_isWholeWithin : GoodIn wsX3_readFigure (wsV RX3 192 RX3 yX3_isWholeWithin wsX3_isWholeWithin) := goodIn_s _ [(94, 3), (9, 1), (97, 1), (15, 1), (3, 1), (84, 3), (9, 1), (87, 2), (14, 1), (89, 1), (98, 3), (115, 14)] rfl (by decide +kernel)
set_option maxRecDepth 20000 in
theorem gX3_readFigure_X7_hasBit_n196 : GoodIn wsX3_readFigure (wsX7_hasBit) := goodIn_s _ [(102, 1)] rfl (by decide +kernel)
set_option maxRecDepth 20000 in
theorem gX3_readFigure_X3_fails : GoodIn wsX3_readFigure (wsV RX3 64 RX3 yX3_fails wsX3_fails) := goodIn_s _ [(84, 3), (9, 1), (87, 2), (14, 1), (89, 1), (115, 14)] rfl (by decide +kernel)
set_option maxRecDepth 20000 in
theorem gX3_readFigure_X3_isWord : GoodIn wsX3_readFigure (wsV RX3 100 RX3 yX3_isWord wsX3_isWord) := goodIn_s _ [(31, 3), (9, 1), (34, 1), (15, 1), (20, 1), (35, 49), (115, 14)] rfl (by decide +kernel)
set_option maxRecDepth 20000 in
theorem gX3_readFigure_X3_takeWhole : GoodIn wsX3_readFigure (wsV RX3 152 RX3 yX3_takeWhole wsX3_takeWhole) := goodIn_s _ [(103, 3), (9, 1), (106, 1), (3, 1), (5, 1), (31, 3), (9, 1), (34, 1), (15, 1), (20, 1), (35, 54), (14, 1), (89, 1), (6, 3), (10, 4), (16, 4), (21, 4), (94, 7), (115, 14)] rfl (by decide +kernel)
set_option maxRecDepth 20000 in
theorem gX3_readFigure_X0_addFigure : GoodIn wsX3_readFigure (wsV RX3 203 RX0 yX0_addFigure wsX0_addFigure) := goodIn_s _ [(107, 8), (129, 15)] rfl (by decide +kernel)
set_option maxRecDepth 20000 in
theorem gX3_readWatcher_X3_advance : GoodIn wsX3_readWatcher (wsV RX3 54 RX3 yX3_advance wsX3_advance) := goodIn_s _ [(5, 13), (8, 1), (18, 7), (109, 14)] rfl (by decide +kernel)
set_option maxRecDepth 20000 in
theorem gX3_readWatcher_X3_takeName : GoodIn wsX3_readWatcher (wsV RX3 184 RX3 yX3_takeName wsX3_takeName) := goodIn_s _ [(25, 3), (8, 1), (28, 1), (14, 1), (29, 2), (19, 1), (31, 3), (8, 1), (34, 55), (13, 1), (89, 1), (5, 3), (9, 4), (15, 4), (20, 5), (109, 14)] rfl (by decide +kernel)
set_option maxRecDepth 20000 in
theorem gX3_readWatcher_X3_takeWhole : GoodIn wsX3_readWatcher (wsV RX3 152 RX3 yX3_takeWhole wsX3_takeWhole) := goodIn_s _ [(90, 3), (8, 1), (93, 1), (24, 1), (3, 1), (31, 3), (8, 1), (34, 1), (14, 1), (19, 1), (35, 54), (13, 1), (89, 1), (5, 3), (9, 4), (15, 4), (20, 4), (94, 7), (109, 14)] rfl (by decide +kernel)
theorem mnX3_read : (Cond.code Lib.Math.min.name Lib.Math.min.code 2 (some .int)) ∈ wsX3_read := List.mem_of_getElem? (i := 5) rfl
