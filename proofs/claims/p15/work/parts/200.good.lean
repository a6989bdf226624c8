section P200_good
set_option maxRecDepth 20000 in
theorem gX3_read_X0_clear : GoodIn wsX3_read (wsV RX3 39 RX0 yX0_clear wsX0_clear) := goodIn_s _ [(14, 13), (202, 19)] rfl (by decide +kernel)
set_option maxRecDepth 20000 in
theorem gX3_read_X3_advance : GoodIn wsX3_read (wsV RX3 54 RX3 yX3_advance wsX3_advance) := goodIn_s _ [(27, 5), (11, 1), (6, 1), (32, 2), (12, 1), (34, 3), (30, 1), (37, 7), (188, 14)] rfl (by decide +kernel)
set_option maxRecDepth 20000 in
theorem gX3_read_X3_readLine : GoodIn wsX3_read (wsV RX3 57 RX3 yX3_readLine wsX3_readLine) := goodIn_s _ [(44, 3), (30, 1), (47, 1), (7, 1), (48, 1), (13, 1), (49, 7), (30, 1), (56, 1), (12, 1), (38, 1), (57, 53), (9, 1), (33, 1), (10, 1), (110, 8), (27, 3), (31, 1), (11, 1), (6, 1), (32, 1), (34, 4), (39, 5), (118, 33), (8, 1), (151, 10), (17, 1), (161, 1), (21, 1), (25, 2), (162, 20), (22, 1), (182, 39)] rfl (by decide +kernel)
set_option maxRecDepth 20000 in
theorem gX3_read_X3_fails : GoodIn wsX3_read (wsV RX3 64 RX3 yX3_fails wsX3_fails) := goodIn_s _ [(106, 3), (30, 1), (109, 1), (9, 1), (33, 1), (10, 1), (188, 14)] rfl (by decide +kernel)
set_option maxRecDepth 20000 in
theorem gX3_isWord_J0_length_8abf5 : GoodIn wsX3_isWord (wsV RX3 88 RJ0 yJ0_length_8abf5 wsJ0_length_8abf5) := goodIn_s _ [(3, 9), (6, 1), (12, 3)] rfl (by decide +kernel)
set_option maxRecDepth 20000 in
theorem gX3_isWord_J0_charAt_5068e : GoodIn wsX3_isWord (wsV RX3 94 RJ0 yJ0_charAt_5068e wsJ0_charAt_5068e) := goodIn_s _ [(15, 3), (6, 1), (18, 1), (8, 1), (19, 3), (6, 1), (22, 1), (13, 2), (23, 29)] rfl (by decide +kernel)
set_option maxRecDepth 20000 in
theorem gX3_readLine_X3_isWord : GoodIn wsX3_readLine (wsV RX3 100 RX3 yX3_isWord wsX3_isWord) := goodIn_s _ [(8, 56), (171, 14)] rfl (by decide +kernel)
set_option maxRecDepth 20000 in
theorem gX3_readLine_X3_fails : GoodIn wsX3_readLine (wsV RX3 64 RX3 yX3_fails wsX3_fails) := goodIn_s _ [(64, 3), (11, 1), (67, 4), (171, 14)] rfl (by decide +kernel)
set_option maxRecDepth 20000 in
theorem gX3_readLine_X3_readHall : GoodIn wsX3_readLine (wsV RX3 107 RX3 yX3_readHall wsX3_readHall) := goodIn_s _ [(71, 3), (11, 1), (74, 2), (1, 1), (76, 3), (2, 1), (79, 3), (11, 1), (82, 4), (69, 1), (13, 1), (86, 4), (14, 1), (90, 9), (8, 3), (12, 1), (15, 54), (70, 1), (99, 7), (171, 29)] rfl (by decide +kernel)
set_option maxRecDepth 20000 in
theorem gX3_readLine_X3_readLaw : GoodIn wsX3_readLine (wsV RX3 118 RX3 yX3_readLaw wsX3_readLaw) := goodIn_s _ [(106, 3), (11, 1), (109, 1), (1, 2), (75, 1), (110, 3), (3, 1), (79, 3), (11, 1), (82, 4), (69, 1), (13, 1), (86, 4), (14, 1), (90, 9), (8, 3), (12, 1), (15, 54), (70, 1), (99, 7), (171, 29)] rfl (by decide +kernel)
set_option maxRecDepth 20000 in
theorem gX3_readLine_J6_bitCount_0f7a4 : GoodIn wsX3_readLine (va_wsS RX3 124 yJ6_bitCount_0f7a4 wsJ6_bitCount_0f7a4) := goodIn_s _ [(113, 7)] rfl (by decide +kernel)
set_option maxRecDepth 20000 in
theorem gX3_readLine_X3_readFigure : GoodIn wsX3_readLine (wsV RX3 130 RX3 yX3_readFigure wsX3_readFigure) := goodIn_s _ [(120, 3), (11, 1), (123, 1), (1, 2), (94, 1), (4, 1), (75, 1), (79, 3), (11, 1), (82, 4), (69, 1), (13, 1), (86, 4), (14, 1), (90, 4), (124, 6), (8, 3), (12, 1), (15, 54), (70, 1), (130, 4), (99, 7), (134, 2), (95, 4), (136, 8), (171, 29)] rfl (by decide +kernel)
set_option maxRecDepth 20000 in
theorem gX3_readLine_X3_readWatcher : GoodIn wsX3_readLine (wsV RX3 142 RX3 yX3_readWatcher wsX3_readWatcher) := goodIn_s _ [(144, 3), (11, 1), (147, 1), (1, 2), (75, 1), (5, 1), (79, 3), (11, 1), (82, 4), (69, 1), (13, 1), (86, 4), (14, 1), (90, 5), (124, 6), (8, 3), (12, 1), (15, 54), (70, 1), (95, 11), (148, 8), (171, 33)] rfl (by decide +kernel)
set_option maxRecDepth 20000 in
theorem gX3_readLine_X3_readSeen : GoodIn wsX3_readLine (wsV RX3 148 RX3 yX3_readSeen wsX3_readSeen) := goodIn_s _ [(156, 3), (11, 1), (159, 1), (1, 2), (75, 1), (94, 4), (11, 1), (98, 1), (8, 3), (12, 59), (79, 15), (99, 7), (130, 4), (160, 3), (139, 1), (163, 37)] rfl (by decide +kernel)
set_option maxRecDepth 20000 in
theorem gX3_readHall_X3_advance : GoodIn wsX3_readHall (wsV RX3 54 RX3 yX3_advance wsX3_advance) := goodIn_s _ [(7, 13), (10, 1), (20, 7), (97, 14)] rfl (by decide +kernel)
set_option maxRecDepth 20000 in
theorem gX3_readHall_X3_takeWhole : GoodIn wsX3_readHall (wsV RX3 152 RX3 yX3_takeWhole wsX3_takeWhole) := goodIn_s _ [(27, 3), (10, 1), (30, 1), (26, 1), (1, 1), (31, 3), (10, 1), (34, 1), (16, 1), (21, 1), (35, 54), (15, 1), (89, 1), (7, 3), (11, 4), (17, 4), (22, 4), (90, 21)] rfl (by decide +kernel)
set_option maxRecDepth 20000 in
theorem gX3_readLaw_X3_advance : GoodIn wsX3_readLaw (wsV RX3 54 RX3 yX3_advance wsX3_advance) := goodIn_s _ [(8, 13), (11, 1), (21, 7), (98, 14)] rfl (by decide +kernel)
set_option maxRecDepth 20000 in
theorem gX3_readLaw_X3_takeWhole : GoodIn wsX3_readLaw (wsV RX3 152 RX3 yX3_takeWhole wsX3_takeWhole) := goodIn_s _ [(28, 3), (11, 1), (31, 1), (27, 1), (3, 1), (32, 3), (11, 1), (35, 1), (17, 1), (22, 1), (36, 54), (16, 1), (90, 1), (8, 3), (12, 4), (18, 4), (23, 4), (91, 21)] rfl (by decide +kernel)
set_option maxRecDepth 20000 in
theorem gX3_readFigure_X3_advance : GoodIn wsX3_readFigure (wsV RX3 54 RX3 yX3_advance wsX3_advance) := goodIn_s _ [(6, 13), (9, 1), (19, 6), (3, 1), (115, 14)] rfl (by decide +kernel)
set_option maxRecDepth 20000 in
theorem gX3_readFigure_X3_takeName : GoodIn wsX3_readFigure (wsV RX3 184 RX3 yX3_takeName wsX3_takeName) := goodIn_s _ [(25, 3), (9, 1), (28, 1), (15, 1), (29, 2), (20, 1), (31, 3), (9, 1), (34, 55), (14, 1), (89, 1), (6, 3), (10, 4), (16, 4), (21, 4), (3, 1), (115, 14)] rfl (by decide +kernel)
set_option maxRecDepth 20000 in
theorem gX3_readFigure_X3_takeWord : GoodIn wsX3_readFigure (wsV RX3 189 RX3 yX3_takeWord wsX3_takeWord) := goodIn_s _ [(90, 3), (9, 1), (93, 1), (31, 3), (9, 1), (34, 1), (15, 1), (20, 1), (35, 54), (14, 1), (89, 1), (6, 3), (10, 4), (16, 4), (21, 4), (3, 1), (115, 14)] rfl (by decide +kernel)
set_option maxRecDepth 20000 in
theorem gX3_readFigure_X3_isWholeWithin : GoodIn wsX3_readFigure (wsV RX3 192 RX3 yX3_isWholeWithin wsX3_isWholeWithin) := goodIn_s _ [(94, 3), (9, 1), (97, 1), (15, 1), (3, 1), (84, 3), (9, 1), (87, 2), (14, 1), (89, 1), (98, 3), (115, 14)] rfl (by decide +kernel)
set_option maxRecDepth 20000 in
theorem gX3_readFigure_X7_hasBit_n196 : GoodIn wsX3_readFigure (wsX7_hasBit) := goodIn_s _ [(102, 1)] rfl (by decide +kernel)
set_option maxRecDepth 20000 in
theorem gX3_readFigure_X3_fails : GoodIn wsX3_readFigure (wsV RX3 64 RX3 yX3_fails wsX3_fails) := goodIn_s _ [(84, 3), (9, 1), (87, 2), (14, 1), (89, 1), (115, 14)] rfl (by decide +kernel)
set_option maxRecDepth 20000 in
theorem gX3_readFigure_X3_isWord : GoodIn wsX3_readFigure (wsV RX3 100 RX3 yX3_isWord wsX3_isWord) := goodIn_s _ [(31, 3), (9, 1), (34, 1), (15, 1), (20, 1), (35, 49), (115, 14)] rfl (by decide +kernel)
set_option maxRecDepth 20000 in
theorem gX3_readFigure_X3_takeWhole : GoodIn wsX3_readFigure (wsV RX3 152 RX3 yX3_takeWhole wsX3_takeWhole) := goodIn_s _ [(103, 3), (9, 1), (106, 1), (3, 1), (5, 1), (31, 3), (9, 1), (34, 1), (15, 1), (20, 1), (35, 54), (14, 1), (89, 1), (6, 3), (10, 4), (16, 4), (21, 4), (94, 7), (115, 14)] rfl (by decide +kernel)
set_option maxRecDepth 20000 in
theorem gX3_readFigure_X0_addFigure : GoodIn wsX3_readFigure (wsV RX3 203 RX0 yX0_addFigure wsX0_addFigure) := goodIn_s _ [(107, 8), (129, 15)] rfl (by decide +kernel)
set_option maxRecDepth 20000 in
theorem gX3_readWatcher_X3_advance : GoodIn wsX3_readWatcher (wsV RX3 54 RX3 yX3_advance wsX3_advance) := goodIn_s _ [(5, 13), (8, 1), (18, 7), (109, 14)] rfl (by decide +kernel)
set_option maxRecDepth 20000 in
theorem gX3_readWatcher_X3_takeName : GoodIn wsX3_readWatcher (wsV RX3 184 RX3 yX3_takeName wsX3_takeName) := goodIn_s _ [(25, 3), (8, 1), (28, 1), (14, 1), (29, 2), (19, 1), (31, 3), (8, 1), (34, 55), (13, 1), (89, 1), (5, 3), (9, 4), (15, 4), (20, 5), (109, 14)] rfl (by decide +kernel)
set_option maxRecDepth 20000 in
theorem gX3_readWatcher_X3_takeWhole : GoodIn wsX3_readWatcher (wsV RX3 152 RX3 yX3_takeWhole wsX3_takeWhole) := goodIn_s _ [(90, 3), (8, 1), (93, 1), (24, 1), (3, 1), (31, 3), (8, 1), (34, 1), (14, 1), (19, 1), (35, 54), (13, 1), (89, 1), (5, 3), (9, 4), (15, 4), (20, 4), (94, 7), (109, 14)] rfl (by decide +kernel)
theorem mnX3_read : (Cond.code Lib.Math.min.name Lib.Math.min.code 2 (some .int)) ∈ wsX3_read := List.mem_of_getElem? (i := 5) rfl
end P200_good
section P200_good_1
set_option maxRecDepth 20000 in
theorem gX3_readWatcher_X6_add : GoodIn wsX3_readWatcher (wsV RX3 211 RX6 yX6_add wsX6_add) := goodIn_s _ [(101, 8), (138, 4)] rfl (by decide +kernel)
set_option maxRecDepth 20000 in
theorem gX3_readSeen_X3_takeWhole : GoodIn wsX3_readSeen (wsV RX3 152 RX3 yX3_takeWhole wsX3_takeWhole) := goodIn_s _ [(5, 5), (4, 1), (3, 1), (10, 3), (8, 1), (13, 81), (110, 14)] rfl (by decide +kernel)
set_option maxRecDepth 20000 in
theorem gX3_readSeen_X3_takeWord : GoodIn wsX3_readSeen (wsV RX3 189 RX3 yX3_takeWord wsX3_takeWord) := goodIn_s _ [(94, 3), (8, 1), (97, 1), (10, 3), (8, 1), (13, 74), (4, 1), (110, 14)] rfl (by decide +kernel)
set_option maxRecDepth 20000 in
theorem gX3_readSeen_X3_isWholeWithin : GoodIn wsX3_readSeen (wsV RX3 192 RX3 yX3_isWholeWithin wsX3_isWholeWithin) := goodIn_s _ [(87, 3), (8, 1), (90, 1), (14, 1), (4, 1), (65, 3), (8, 1), (68, 4), (91, 3), (110, 14)] rfl (by decide +kernel)
set_option maxRecDepth 20000 in
theorem gX3_readSeen_X0_isSeenMinute : GoodIn wsX3_readSeen (wsV RX3 217 RX0 yX0_isSeenMinute wsX0_isSeenMinute) := goodIn_s _ [(98, 7), (124, 15)] rfl (by decide +kernel)
set_option maxRecDepth 20000 in
theorem gX3_readSeen_X3_fails : GoodIn wsX3_readSeen (wsV RX3 64 RX3 yX3_fails wsX3_fails) := goodIn_s _ [(65, 3), (8, 1), (68, 4), (110, 14)] rfl (by decide +kernel)
set_option maxRecDepth 20000 in
theorem gX3_readSeen_X0_addSeen : GoodIn wsX3_readSeen (wsV RX3 220 RX0 yX0_addSeen wsX0_addSeen) := goodIn_s _ [(105, 3), (101, 1), (108, 1), (103, 1), (109, 1), (104, 1), (124, 15)] rfl (by decide +kernel)
set_option maxRecDepth 20000 in
theorem gX3_readSeen_X3_advance : GoodIn wsX3_readSeen (wsV RX3 54 RX3 yX3_advance wsX3_advance) := goodIn_s _ [(72, 3), (8, 1), (75, 4), (70, 1), (14, 1), (79, 3), (8, 1), (82, 1), (15, 1), (83, 4), (4, 1), (110, 14)] rfl (by decide +kernel)
set_option maxRecDepth 20000 in
theorem gX3_takeWord_X3_isWord : GoodIn wsX3_takeWord (wsV RX3 100 RX3 yX3_isWord wsX3_isWord) := goodIn_s _ [(1, 56), (80, 14)] rfl (by decide +kernel)
set_option maxRecDepth 20000 in
theorem gX3_takeWord_X3_fails : GoodIn wsX3_takeWord (wsV RX3 64 RX3 yX3_fails wsX3_fails) := goodIn_s _ [(57, 3), (4, 1), (60, 4), (80, 14)] rfl (by decide +kernel)
set_option maxRecDepth 20000 in
theorem gX3_takeWord_X3_advance : GoodIn wsX3_takeWord (wsV RX3 54 RX3 yX3_advance wsX3_advance) := goodIn_s _ [(64, 3), (4, 1), (67, 4), (62, 1), (6, 1), (71, 3), (4, 1), (74, 1), (7, 1), (75, 19)] rfl (by decide +kernel)
set_option maxRecDepth 20000 in
theorem gX3_takeWhole_X3_isWord : GoodIn wsX3_takeWhole (wsV RX3 100 RX3 yX3_isWord wsX3_isWord) := goodIn_s _ [(3, 56), (88, 14)] rfl (by decide +kernel)
set_option maxRecDepth 20000 in
theorem gX3_takeWhole_X3_fails : GoodIn wsX3_takeWhole (wsV RX3 64 RX3 yX3_fails wsX3_fails) := goodIn_s _ [(59, 3), (6, 1), (62, 4), (88, 14)] rfl (by decide +kernel)
set_option maxRecDepth 20000 in
theorem gX3_takeWhole_X3_advance : GoodIn wsX3_takeWhole (wsV RX3 54 RX3 yX3_advance wsX3_advance) := goodIn_s _ [(66, 3), (6, 1), (69, 4), (64, 1), (8, 1), (73, 3), (6, 1), (76, 1), (9, 1), (77, 4), (1, 1), (88, 14)] rfl (by decide +kernel)
set_option maxRecDepth 20000 in
theorem gX3_takeWhole_X3_isWholeWithin : GoodIn wsX3_takeWhole (wsV RX3 192 RX3 yX3_isWholeWithin wsX3_isWholeWithin) := goodIn_s _ [(81, 3), (6, 1), (84, 1), (8, 1), (1, 1), (59, 3), (6, 1), (62, 4), (85, 17)] rfl (by decide +kernel)
set_option maxRecDepth 20000 in
theorem gX3_takeName_X3_isWord : GoodIn wsX3_takeName (wsV RX3 100 RX3 yX3_isWord wsX3_isWord) := goodIn_s _ [(5, 5), (1, 1), (4, 1), (10, 49), (82, 14)] rfl (by decide +kernel)
set_option maxRecDepth 20000 in
theorem gX3_takeName_X3_fails : GoodIn wsX3_takeName (wsV RX3 64 RX3 yX3_fails wsX3_fails) := goodIn_s _ [(59, 3), (8, 1), (62, 4), (82, 14)] rfl (by decide +kernel)
set_option maxRecDepth 20000 in
theorem gX3_takeName_X3_advance : GoodIn wsX3_takeName (wsV RX3 54 RX3 yX3_advance wsX3_advance) := goodIn_s _ [(66, 3), (8, 1), (69, 4), (64, 1), (1, 1), (73, 3), (8, 1), (76, 1), (4, 1), (77, 19)] rfl (by decide +kernel)
set_option maxRecDepth 20000 in
theorem gX7_feed_X3_append : GoodIn wsX7_feed (wsV RX7 74 RX3 yX3_append wsX3_append) := goodIn_s _ [(3, 7), (21, 14)] rfl (by decide +kernel)
set_option maxRecDepth 20000 in
theorem gX7_gallery_X7_within : GoodIn wsX7_gallery (va_wsS RX7 78 yX7_within wsX7_within) := goodIn_s _ [(13, 4)] rfl (by decide +kernel)
set_option maxRecDepth 20000 in
theorem gX7_gallery_X7_refused : GoodIn wsX7_gallery (wsV RX7 82 RX7 yX7_refused wsX7_refused) := goodIn_s _ [(17, 3), (15, 1), (20, 2), (248, 11)] rfl (by decide +kernel)
set_option maxRecDepth 20000 in
theorem gX7_gallery_X3_read : GoodIn wsX7_gallery (wsV RX7 86 RX3 yX3_read wsX3_read) := goodIn_s _ [(22, 34), (25, 1), (56, 95), (14, 3), (151, 59), (259, 33)] rfl (by decide +kernel)
set_option maxRecDepth 20000 in
theorem gX7_gallery_X3_exchange : GoodIn wsX7_gallery (wsV RX7 94 RX3 yX3_exchange wsX3_exchange) := goodIn_s _ [(210, 3), (25, 1), (213, 1), (33, 1), (259, 14)] rfl (by decide +kernel)
set_option maxRecDepth 20000 in
theorem gX7_gallery_X5_begin : GoodIn wsX7_gallery (wsV RX7 101 RX5 yX5_begin wsX5_begin) := goodIn_s _ [(214, 13), (217, 1), (227, 3), (292, 7)] rfl (by decide +kernel)
set_option maxRecDepth 20000 in
theorem gX7_gallery_X1_clear : GoodIn wsX7_gallery (wsV RX7 104 RX1 yX1_clear wsX1_clear) := goodIn_s _ [(230, 7), (299, 5)] rfl (by decide +kernel)
set_option maxRecDepth 20000 in
theorem gX7_gallery_X2_forget : GoodIn wsX7_gallery (wsV RX7 107 RX2 yX2_forget wsX2_forget) := goodIn_s _ [(237, 7), (304, 7)] rfl (by decide +kernel)
set_option maxRecDepth 20000 in
theorem gX7_gallery_X7_answered : GoodIn wsX7_gallery (wsV RX7 113 RX7 yX7_answered wsX7_answered) := goodIn_s _ [(244, 3), (15, 1), (247, 1), (21, 1), (248, 11)] rfl (by decide +kernel)
set_option maxRecDepth 20000 in
theorem gJ0_length_8abf5_J0_coder_7d493 : GoodIn wsJ0_length_8abf5 (wsV RJ0 335 RJ0 yJ0_coder_7d493 wsJ0_coder_7d493) := goodIn_s _ [(2, 7)] rfl (by decide +kernel)
set_option maxRecDepth 20000 in
theorem gJ0_charAt_5068e_J0_isLatin1_aae02 : GoodIn wsJ0_charAt_5068e (wsV RJ0 492 RJ0 yJ0_isLatin1_aae02 wsJ0_isLatin1_aae02) := goodIn_s _ [(2, 7)] rfl (by decide +kernel)
set_option maxRecDepth 20000 in
theorem gJ0_charAt_5068e_J1_charAt_3b067 : GoodIn wsJ0_charAt_5068e (va_wsS RJ0 495 yJ1_charAt_3b067 wsJ1_charAt_3b067) := goodIn_s _ [(9, 6), (5, 1), (15, 6)] rfl (by decide +kernel)
set_option maxRecDepth 20000 in
theorem gJ0_checkIndex_df160_J3_checkIndex_8e157 : GoodIn wsJ0_checkIndex_df160 (va_wsS RJ0 1059 yJ3_checkIndex_8e157 wsJ3_checkIndex_8e157) := goodIn_s _ [(2, 4)] rfl (by decide +kernel)
set_option maxRecDepth 20000 in
theorem gJ1_charAt_3b067_J0_checkIndex_df160 : GoodIn wsJ1_charAt_3b067 (va_wsS RJ1 9 yJ0_checkIndex_df160 wsJ0_checkIndex_df160) := goodIn_s _ [(1, 9)] rfl (by decide +kernel)
end P200_good_1
section P201_str
section STR
/-- what String's own methods rest on beside the tables -/
def sx_Z (A : Nat → Prop) (U : State) : Prop := va_Z "java/lang/String" "COMPACT_STRINGS" "Z" (.int 1) A U U.heap ∧ va_Zq "jdk/internal/util/Preconditions" "SIOOBE_FORMATTER" "Ljava/util/function/BiFunction;" A U U.heap
/-- a row of n bytes at v -/
def sx_V (v n : Nat) (f : Nat → Int32) (A : Nat → Prop) (U : State) : Prop := sx_Z A U ∧ n ≤ 8 ∧ va_T .byte v n (fun j => .int (f j)) A U U.heap
/-- a String of n bytes at w -/
def sx_W (w n : Nat) (A : Nat → Prop) (U : State) : Prop := sx_Z A U ∧ n ≤ 8 ∧ va_O "java/lang/String" w A U U.heap ∧ va_OF "java/lang/String" "code\x72" "B" (.int 0) w A U U.heap ∧ ∃ (v : Nat) (f : Nat → Int32), va_OF "java/lang/String" "value" "[B" (.ref v) w A U U.heap ∧ va_T .byte v n (fun j => .int (f j)) A U U.heap
theorem sx_Z_same {A : Nat → Prop} (a : Array Value) (U : State) (g : JFrame) (mk : MethodId) (h : sx_Z A U) : sx_Z A (U.calling g mk a) :=
  ⟨va_Z.moved (u := U) (U := U.calling g mk a) (Vm.Alike.refl U.vm) h.1, va_Zq.moved (u := U) (U := U.calling g mk a) (Vm.Alike.refl U.vm) h.2⟩
theorem sx_V_same {v n : Nat} {f : Nat → Int32} {A : Nat → Prop} (a : Array Value) (U : State) (g : JFrame) (mk : MethodId) (h : sx_V v n f A U) : sx_V v n f A (U.calling g mk a) :=
  ⟨sx_Z_same a U g mk h.1, h.2.1, va_T.moved (u := U) (U := U.calling g mk a) (Vm.Alike.refl U.vm) h.2.2⟩
theorem sx_Z_to {A B : Nat → Prop} {s U : State} {H : Heap} (h : sx_Z A s) (hq : ∀ a : Nat, a < s.heap.size → ¬ A a → H[a]? = s.heap[a]?) (hAB : ∀ q, B q → A q) (hU : U.heap = H) (hW : s.WarmedH U.vm) : sx_Z B U := by
  subst hU
  exact ⟨((h.1.kept hq).moved hW.alike).narrow hAB, ((h.2.kept hq).moved hW.alike).narrow hAB⟩
theorem sx_V_to {v n : Nat} {f : Nat → Int32} {A B : Nat → Prop} {s U : State} {H : Heap} (h : sx_V v n f A s) (hq : ∀ a : Nat, a < s.heap.size → ¬ A a → H[a]? = s.heap[a]?) (hAB : ∀ q, B q → A q) (hU : U.heap = H) (hW : s.WarmedH U.vm) : sx_V v n f B U := by
  refine ⟨sx_Z_to h.1 hq hAB hU hW, h.2.1, ?_⟩
  subst hU
  exact ((h.2.2.kept hq).moved hW.alike).narrow hAB
theorem sx_recv {w n : Nat} {A : Nat → Prop} {s : State} {H : Heap} {locs : List Loc} (h : sx_W w n A s) (hS : va_S A s.heap H locs) : ∃ cell : Cell, H[w]? = some cell ∧ cell.vm.isStatics = false ∧ s.vm.findClass "java/lang/String" = some cell.cls := by
  obtain ⟨cell, h1, h2, h3, -⟩ := h.2.2.1.kept hS.2.1
  exact ⟨cell, h1, h2, h3⟩
theorem sx_len {n : Nat} (h : n ≤ 8) : ((Int32.ofNat n) >>> ((0 : Int32) &&& 31)).toInt = (n : Int) := by
  have q : ∀ k : Fin 9, ((Int32.ofNat k.val) >>> ((0 : Int32) &&& 31)).toInt = (k.val : Int) := by decide
  exact q ⟨n, by omega⟩
theorem sx_lt {n : Nat} (h : n ≤ 8) : (Int32.ofNat n).toInt = (n : Int) := nI_toInt (by omega)
theorem ax_preE {av : List Value} {s : State} {H : Heap} {A : Nat → Prop} {dC : Nat → ClassId} {dI : Nat → Nat → Nat} {ws : va_W} {tys : List (ClassId × FieldType)} {E : State → Prop}
    (hP : va_P (dC, dI) vwCl ws H) (hK : va_K (dC, dI) vwCl tys s) (hD : va_D A ws) (hE : ∀ U : State, U.heap = H → s.WarmedH U.vm → E U) :
    ∀ U : State, U.heap = H → s.WarmedH U.vm → va_Pc av (ax_C dC dI H.size ws tys E) av.toArray U :=
  fun U hU hW => ⟨rfl, by rw [hU], by rw [hU]; exact hP, va_K.moved hW.alike hK, hD.weaken (fun _ _ _ _ => trivial), hE U hU hW⟩

set_option maxHeartbeats 4000000 in
set_option maxRecDepth 100000 in
theorem c_J3_checkIndex_8e157_r (l : Launch) (dC : Nat → ClassId) (dI : Nat → Nat → Nat) (sz : Nat) (i k : Int32) (q9 : Nat) (h0 : (0 : Int) ≤ i.toInt) (hk : i.toInt < k.toInt) : zm l yJ3_checkIndex_8e157 wsJ3_checkIndex_8e157 ({ frames := 0, cells := 0, slots := 0, locals := 0 }) [.int i, .int k, .ref q9] dC dI sz [] [] (fun A _ => True) (fun A => va_Qi (fun (r : Int32) (_ : Unit) => True) (fun (_ : Unit) (t : State) => ax_B dC dI A [] [] t) A) := by
  refine zh (cc := cJ3_checkIndex_8e157) (maxL := 3) (ret := (some .int)) zn_RJ3 rfl (Nat.le_of_ble_eq_true rfl) (fun p e s m below meth c A ls hx hb hml hr hts (hown : s.vm.findClass RJ3 = some m.cls) hlocks hA hS hP hK hD hE (hl : lv_has ls 3 [(0, .int i), (1, .int k), (2, .ref q9)]) => ?_)
  refine lv_iload_n hx hb dJ3_checkIndex_8e157_0 rfl (lv_at hl 0 rfl) ?_
  refine lv_if_lt (tgt := 9) hx hb dJ3_checkIndex_8e157_1 (by decide) (fun c9 => absurd (ai_lt c9) (by have h9 : (0 : Int32).toInt = 0 := (by decide); omega)) (fun _ => ?_)
  refine lv_iload_n hx hb dJ3_checkIndex_8e157_4 rfl (lv_at hl 0 rfl) ?_
  refine lv_iload_n hx hb dJ3_checkIndex_8e157_5 rfl (lv_at hl 1 rfl) ?_
  refine lv_icmp_lt (tgt := 16) hx hb dJ3_checkIndex_8e157_6 (by decide) (fun _ => ?_) (fun c9 => absurd (Int32.lt_iff_toInt_lt.mpr hk) c9)
  refine lv_iload_n hx hb dJ3_checkIndex_8e157_16 rfl (lv_at hl 0 rfl) ?_
  exact W.iret (v := i) hx hb hr (fun t ht hW => ⟨⟨i, (), rfl, trivial, by rw [ht]; exact hP, va_K.moved hW.alike hK, hD⟩, hS.F ht⟩) hS.2.2 dJ3_checkIndex_8e157_17

set_option maxHeartbeats 4000000 in
set_option maxRecDepth 100000 in
theorem c_J3_checkIndex_8e157_n (l : Launch) (dC : Nat → ClassId) (dI : Nat → Nat → Nat) (sz : Nat) (i k : Int32)  (h0 : (0 : Int) ≤ i.toInt) (hk : i.toInt < k.toInt) : zm l yJ3_checkIndex_8e157 wsJ3_checkIndex_8e157 ({ frames := 0, cells := 0, slots := 0, locals := 0 }) [.int i, .int k, .null] dC dI sz [] [] (fun A _ => True) (fun A => va_Qi (fun (r : Int32) (_ : Unit) => True) (fun (_ : Unit) (t : State) => ax_B dC dI A [] [] t) A) := by
  refine zh (cc := cJ3_checkIndex_8e157) (maxL := 3) (ret := (some .int)) zn_RJ3 rfl (Nat.le_of_ble_eq_true rfl) (fun p e s m below meth c A ls hx hb hml hr hts (hown : s.vm.findClass RJ3 = some m.cls) hlocks hA hS hP hK hD hE (hl : lv_has ls 3 [(0, .int i), (1, .int k), (2, .null)]) => ?_)
  refine lv_iload_n hx hb dJ3_checkIndex_8e157_0 rfl (lv_at hl 0 rfl) ?_
  refine lv_if_lt (tgt := 9) hx hb dJ3_checkIndex_8e157_1 (by decide) (fun c9 => absurd (ai_lt c9) (by have h9 : (0 : Int32).toInt = 0 := (by decide); omega)) (fun _ => ?_)
  refine lv_iload_n hx hb dJ3_checkIndex_8e157_4 rfl (lv_at hl 0 rfl) ?_
  refine lv_iload_n hx hb dJ3_checkIndex_8e157_5 rfl (lv_at hl 1 rfl) ?_
  refine lv_icmp_lt (tgt := 16) hx hb dJ3_checkIndex_8e157_6 (by decide) (fun _ => ?_) (fun c9 => absurd (Int32.lt_iff_toInt_lt.mpr hk) c9)
  refine lv_iload_n hx hb dJ3_checkIndex_8e157_16 rfl (lv_at hl 0 rfl) ?_
  exact W.iret (v := i) hx hb hr (fun t ht hW => ⟨⟨i, (), rfl, trivial, by rw [ht]; exact hP, va_K.moved hW.alike hK, hD⟩, hS.F ht⟩) hS.2.2 dJ3_checkIndex_8e157_17

set_option maxHeartbeats 4000000 in
set_option maxRecDepth 100000 in
theorem c_J0_checkIndex_df160 (l : Launch) (dC : Nat → ClassId) (dI : Nat → Nat → Nat) (sz : Nat) (i k : Int32) (h0 : (0 : Int) ≤ i.toInt) (hk : i.toInt < k.toInt) : Met l yJ0_checkIndex_df160 wsJ0_checkIndex_df160 ({ frames := 1, cells := 0, slots := 0, locals := 22 }) (va_Pc [.int i, .int k] (ax_C dC dI sz [] [] (sx_Z (va_A [] sz)))) (va_Qv (fun (_ : Unit) => True) (fun (_ : Unit) (t : State) => ax_B dC dI (va_A [] sz) [] [] t) (va_A [] sz)) 0 0 (va_A [] sz) := by
  refine Met.ofW (cc := cJ0_checkIndex_df160) (maxL := 2) (ret := none) (by decide) rfl ?_
  intro p e s m args below meth c s₁ B hml hv
  obtain ⟨rfl, hsz, hP, hK, hD0, hE⟩ := hv
  have hx := B.exec
  have hb := B.bytes
  have hr := B.returns
  have hts := atoms_spec (ws := wsJ0_checkIndex_df160) B.pre
  have hown : s.vm.findClass RJ0 = some m.cls := findClass_of_methodNamed B.named
  have hlocks := B.notSynchronized
  subst hsz
  have hD := hD0.self (sz := s.heap.size)
  generalize hAe : va_A [] s.heap.size = A at hD hE ⊢
  have hA : ∀ q : Nat, s.heap.size ≤ q → A q := fun q h => by rw [← hAe]; exact Or.inr h
  have hS : va_S A s.heap s.heap [] := va_S.rf
  have hP : va_P (dC, dI) vwCl [] s.heap := hP
  have hl := lv_entry ([.int i, .int k]) (n := 2) (Nat.le_of_ble_eq_true rfl)
  rw [lg_entry_eq]
  generalize (lg_sl ([.int i, .int k]) ++ List.replicate (2 - (lg_sl ([.int i, .int k])).length) Slot.unset).toArray = ls at hl ⊢
  have hl : lv_has ls 2 [(0, .int i), (1, .int k)] := hl
  refine lv_iload_n hx hb dJ0_checkIndex_df160_0 rfl (lv_at hl 0 rfl) ?_
  refine lv_iload_n hx hb dJ0_checkIndex_df160_1 rfl (lv_at hl 1 rfl) ?_
  rcases hE.2 with hq9 | ⟨q9, hq9⟩
  · refine va_gets hx hb hq9 hS hown (hts (.fieldLink RJ0 1053 "jdk/internal/util/Preconditions" "SIOOBE_FORMATTER" "Ljava/util/function/BiFunction;") (List.mem_cons_of_mem _ (List.mem_of_getElem? (i := 0) rfl))) (fun _ h => h) dJ0_checkIndex_df160_2 ?_
    have hFc := va_free (wc := []) hD hS hA [] rfl
    refine va_calli (va_runS (As := [.int i, .int k, .null]) (rest := []) ⟨hx, hb, hml, hown, hts⟩ (c_J3_checkIndex_8e157_n l dC dI s.heap.size i k h0 hk) (va_cwS 3 hts gJ0_checkIndex_df160_J3_checkIndex_8e157 rfl rfl rfl zd_J3_checkIndex_8e157.2 ⟨Nat.le_of_ble_eq_true rfl, Nat.le_of_ble_eq_true rfl⟩) ⟨ax_blind (fun _ _ _ _ _ => trivial), ax_preE hP hK hD (fun _ _ _ => trivial)⟩ rfl rfl hl.1 rfl (lv_room (Nat.le_of_ble_eq_true rfl)) dJ0_checkIndex_df160_5 ⟨Nat.le_of_ble_eq_true rfl, Nat.le_of_ble_eq_true rfl⟩) hS (fun q _ h => hFc q h) hFc (fun r5 u t H1 locs ht hvm hw hB hz1 hk1 hS => ?_)
    obtain ⟨hP1, hK1, hD1⟩ := hB
    rw [ht] at hP1
    generalize H1 = H at hP1 hS ⊢
    have hP : va_P (dC, dI) vwCl [] H := hP1
    refine lv_pop hx hb dJ0_checkIndex_df160_8 rfl ?_
    exact W.vret hx hb hr (fun t ht hW => ⟨⟨(), rfl, trivial, by rw [ht]; exact hP, va_K.moved hW.alike hK, hD⟩, hS.F ht⟩) hS.2.2 dJ0_checkIndex_df160_9
  · refine va_gets hx hb hq9 hS hown (hts (.fieldLink RJ0 1053 "jdk/internal/util/Preconditions" "SIOOBE_FORMATTER" "Ljava/util/function/BiFunction;") (List.mem_cons_of_mem _ (List.mem_of_getElem? (i := 0) rfl))) (fun _ h => h) dJ0_checkIndex_df160_2 ?_
    have hFc := va_free (wc := []) hD hS hA [] rfl
    refine va_calli (va_runS (As := [.int i, .int k, .ref q9]) (rest := []) ⟨hx, hb, hml, hown, hts⟩ (c_J3_checkIndex_8e157_r l dC dI s.heap.size i k q9 h0 hk) (va_cwS 3 hts gJ0_checkIndex_df160_J3_checkIndex_8e157 rfl rfl rfl zd_J3_checkIndex_8e157.2 ⟨Nat.le_of_ble_eq_true rfl, Nat.le_of_ble_eq_true rfl⟩) ⟨ax_blind (fun _ _ _ _ _ => trivial), ax_preE hP hK hD (fun _ _ _ => trivial)⟩ rfl rfl hl.1 rfl (lv_room (Nat.le_of_ble_eq_true rfl)) dJ0_checkIndex_df160_5 ⟨Nat.le_of_ble_eq_true rfl, Nat.le_of_ble_eq_true rfl⟩) hS (fun q _ h => hFc q h) hFc (fun r5 u t H1 locs ht hvm hw hB hz1 hk1 hS => ?_)
    obtain ⟨hP1, hK1, hD1⟩ := hB
    rw [ht] at hP1
    generalize H1 = H at hP1 hS ⊢
    have hP : va_P (dC, dI) vwCl [] H := hP1
    refine lv_pop hx hb dJ0_checkIndex_df160_8 rfl ?_
    exact W.vret hx hb hr (fun t ht hW => ⟨⟨(), rfl, trivial, by rw [ht]; exact hP, va_K.moved hW.alike hK, hD⟩, hS.F ht⟩) hS.2.2 dJ0_checkIndex_df160_9

end STR
section STX
def sx_ln : List Nat := [7, 3, 6, 7, 4, 7, 4, 6, 4, 5, 4, 5, 2, 5, 6, 4, 2, 2, 7, 3, 6, 7, 4, 7, 4, 6, 4, 5, 4, 5, 2, 5, 6, 4, 2, 2]
end STX
end P201_str
section P222_sxc
section SXC
def sxc_W (w n : Nat) (cs : Nat → Int32) (A : Nat → Prop) (U : State) : Prop := sx_Z A U ∧ n ≤ 8 ∧ va_O "java/lang/String" w A U U.heap ∧ va_OF "java/lang/String" "code\x72" "B" (.int 0) w A U U.heap ∧ (∀ j : Nat, j < n → (0 : Int) ≤ (cs j).toInt ∧ (cs j).toInt ≤ 127) ∧ ∃ v : Nat, va_OF "java/lang/String" "value" "[B" (.ref v) w A U U.heap ∧ va_T .byte v n (fun j => .int (cs j)) A U U.heap
theorem sxc_W_w {w n : Nat} {cs : Nat → Int32} {A : Nat → Prop} {U : State} (h : sxc_W w n cs A U) : sx_W w n A U := by
  obtain ⟨h1, h2, h3, h4, _, v, h5, h6⟩ := h
  exact ⟨h1, h2, h3, h4, v, cs, h5, h6⟩
theorem sxc_W_same {w n : Nat} {cs : Nat → Int32} {A : Nat → Prop} (a : Array Value) (U : State) (g : JFrame) (mk : MethodId) (h : sxc_W w n cs A U) : sxc_W w n cs A (U.calling g mk a) := by
  obtain ⟨h1, h2, h3, h4, h7, v, h5, h6⟩ := h
  exact ⟨sx_Z_same a U g mk h1, h2, va_O.moved (u := U) (U := U.calling g mk a) (Vm.Alike.refl U.vm) h3, va_OF.moved (u := U) (U := U.calling g mk a) (Vm.Alike.refl U.vm) h4, h7, v, va_OF.moved (u := U) (U := U.calling g mk a) (Vm.Alike.refl U.vm) h5, va_T.moved (u := U) (U := U.calling g mk a) (Vm.Alike.refl U.vm) h6⟩
theorem sxc_W_to {w n : Nat} {cs : Nat → Int32} {A B : Nat → Prop} {s U : State} {H : Heap} (h : sxc_W w n cs A s) (hq : ∀ a : Nat, a < s.heap.size → ¬ A a → H[a]? = s.heap[a]?) (hAB : ∀ q, B q → A q) (hU : U.heap = H) (hW : s.WarmedH U.vm) : sxc_W w n cs B U := by
  obtain ⟨h1, h2, h3, h4, h7, v, h5, h6⟩ := h
  refine ⟨sx_Z_to h1 hq hAB hU hW, h2, ?_⟩
  subst hU
  exact ⟨((h3.kept hq).moved hW.alike).narrow hAB, ((h4.kept hq).moved hW.alike).narrow hAB, h7, v, ((h5.kept hq).moved hW.alike).narrow hAB, ((h6.kept hq).moved hW.alike).narrow hAB⟩
theorem sxc_recv {w n : Nat} {cs : Nat → Int32} {A : Nat → Prop} {s : State} {H : Heap} {locs : List Loc} (h : sxc_W w n cs A s) (hS : va_S A s.heap H locs) : ∃ cell : Cell, H[w]? = some cell ∧ cell.vm.isStatics = false ∧ s.vm.findClass "java/lang/String" = some cell.cls := sx_recv (sxc_W_w h) hS
theorem sxc_ch {x : Int32} (h : (0 : Int) ≤ x.toInt ∧ x.toInt ≤ 127) : ((x &&& 255).toUInt32 % 65536).toInt32 = x := by
  have q : ∀ k : Fin 128, (((Int32.ofNat k.val) &&& 255).toUInt32 % 65536).toInt32 = Int32.ofNat k.val := by decide
  have h1 := q ⟨x.toInt.toNat, by omega⟩
  have h2 : Int32.ofNat x.toInt.toNat = x := by
    apply Int32.toInt_inj.mp
    exact (show (Int32.ofNat x.toInt.toNat).toInt = ((x.toInt.toNat : Nat) : Int) from nI_toInt (by omega)).trans (by omega)
  simp only [h2] at h1
  exact h1
set_option maxHeartbeats 4000000 in
set_option maxRecDepth 100000 in
theorem f_J0_coder_7d493 (l : Launch) (dC : Nat → ClassId) (dI : Nat → Nat → Nat) (sz : Nat) (w n : Nat) (cs : Nat → Int32)  : Met l yJ0_coder_7d493 wsJ0_coder_7d493 ({ frames := 0, cells := 0, slots := 0, locals := 0 }) (va_Pc [.ref w] (ax_C dC dI sz [] [] (sxc_W w n cs (va_A [] sz)))) (va_Qi (fun (r : Int32) (_ : Unit) => r = 0) (fun (_ : Unit) (t : State) => ax_B dC dI (va_A [] sz) [] [] t) (va_A [] sz)) 0 0 (va_A [] sz) := by
  refine Met.ofW (cc := cJ0_coder_7d493) (maxL := 1) (ret := (some .byte)) (by decide) rfl ?_
  intro p e s m args below meth c s₁ B hml hv
  obtain ⟨rfl, hsz, hP, hK, hD0, hE⟩ := hv
  have hx := B.exec
  have hb := B.bytes
  have hr := B.returns
  have hts := atoms_spec (ws := wsJ0_coder_7d493) B.pre
  have hown : s.vm.findClass RJ0 = some m.cls := findClass_of_methodNamed B.named
  have hlocks := B.notSynchronized
  subst hsz
  have hD := hD0.self (sz := s.heap.size)
  generalize hAe : va_A [] s.heap.size = A at hD hE ⊢
  have hA : ∀ q : Nat, s.heap.size ≤ q → A q := fun q h => by rw [← hAe]; exact Or.inr h
  have hS : va_S A s.heap s.heap [] := va_S.rf
  have hP : va_P (dC, dI) vwCl [] s.heap := hP
  have hl := lv_entry ([.ref w]) (n := 1) (Nat.le_of_ble_eq_true rfl)
  rw [lg_entry_eq]
  generalize (lg_sl ([.ref w]) ++ List.replicate (1 - (lg_sl ([.ref w])).length) Slot.unset).toArray = ls at hl ⊢
  have hl : lv_has ls 1 [(0, .ref w)] := hl
  obtain ⟨hz, hn, hO, hco, hcb, v, hv, hT⟩ := id hE
  refine va_gets hx hb hz.1 hS hown (hts (.fieldLink RJ0 38 "java/lang/String" "COMPACT_STRINGS" "Z") (List.mem_cons_of_mem _ (List.mem_of_getElem? (i := 0) rfl))) (fun _ h => h) dJ0_coder_7d493_0 ?_
  refine lv_if_eq (tgt := 13) hx hb dJ0_coder_7d493_3 (by decide) (fun c9 => absurd c9 (by decide +kernel)) (fun _ => ?_)
  refine lv_aload_n hx hb dJ0_coder_7d493_6 rfl (lv_at hl 0 rfl) ?_
  refine vk_getf hx hb hco hS hown (hts (.fieldLink RJ0 15 "java/lang/String" "code\x72" "B") (List.mem_cons_of_mem _ (List.mem_of_getElem? (i := 1) rfl))) (fun _ h => h) dJ0_coder_7d493_7 ?_
  refine lv_goto (tgt := 14) hx hb dJ0_coder_7d493_10 (by decide) ?_
  exact W.zret (v := 0) hx hb hr rfl (fun t ht hW => ⟨⟨0, (), rfl, rfl, by rw [ht]; exact hP, va_K.moved hW.alike hK, hD⟩, hS.F ht⟩) hS.2.2 dJ0_coder_7d493_14


set_option maxHeartbeats 4000000 in
set_option maxRecDepth 100000 in
theorem f_J0_isLatin1_aae02 (l : Launch) (dC : Nat → ClassId) (dI : Nat → Nat → Nat) (sz : Nat) (w n : Nat) (cs : Nat → Int32)  : Met l yJ0_isLatin1_aae02 wsJ0_isLatin1_aae02 ({ frames := 0, cells := 0, slots := 0, locals := 0 }) (va_Pc [.ref w] (ax_C dC dI sz [] [] (sxc_W w n cs (va_A [] sz)))) (va_Qi (fun (r : Int32) (_ : Unit) => r = 1) (fun (_ : Unit) (t : State) => ax_B dC dI (va_A [] sz) [] [] t) (va_A [] sz)) 0 0 (va_A [] sz) := by
  refine Met.ofW (cc := cJ0_isLatin1_aae02) (maxL := 1) (ret := (some .boolean)) (by decide) rfl ?_
  intro p e s m args below meth c s₁ B hml hv
  obtain ⟨rfl, hsz, hP, hK, hD0, hE⟩ := hv
  have hx := B.exec
  have hb := B.bytes
  have hr := B.returns
  have hts := atoms_spec (ws := wsJ0_isLatin1_aae02) B.pre
  have hown : s.vm.findClass RJ0 = some m.cls := findClass_of_methodNamed B.named
  have hlocks := B.notSynchronized
  subst hsz
  have hD := hD0.self (sz := s.heap.size)
  generalize hAe : va_A [] s.heap.size = A at hD hE ⊢
  have hA : ∀ q : Nat, s.heap.size ≤ q → A q := fun q h => by rw [← hAe]; exact Or.inr h
  have hS : va_S A s.heap s.heap [] := va_S.rf
  have hP : va_P (dC, dI) vwCl [] s.heap := hP
  have hl := lv_entry ([.ref w]) (n := 1) (Nat.le_of_ble_eq_true rfl)
  rw [lg_entry_eq]
  generalize (lg_sl ([.ref w]) ++ List.replicate (1 - (lg_sl ([.ref w])).length) Slot.unset).toArray = ls at hl ⊢
  have hl : lv_has ls 1 [(0, .ref w)] := hl
  obtain ⟨hz, hn, hO, hco, hcb, v, hv, hT⟩ := id hE
  refine va_gets hx hb hz.1 hS hown (hts (.fieldLink RJ0 38 "java/lang/String" "COMPACT_STRINGS" "Z") (List.mem_cons_of_mem _ (List.mem_of_getElem? (i := 0) rfl))) (fun _ h => h) dJ0_isLatin1_aae02_0 ?_
  refine lv_if_eq (tgt := 17) hx hb dJ0_isLatin1_aae02_3 (by decide) (fun c9 => absurd c9 (by decide +kernel)) (fun _ => ?_)
  refine lv_aload_n hx hb dJ0_isLatin1_aae02_6 rfl (lv_at hl 0 rfl) ?_
  refine vk_getf hx hb hco hS hown (hts (.fieldLink RJ0 15 "java/lang/String" "code\x72" "B") (List.mem_cons_of_mem _ (List.mem_of_getElem? (i := 1) rfl))) (fun _ h => h) dJ0_isLatin1_aae02_7 ?_
  refine lv_if_ne (tgt := 17) hx hb dJ0_isLatin1_aae02_10 (by decide) (fun c9 => absurd (by decide +kernel) c9) (fun _ => ?_)
  refine lv_iconst (v := 1) hx hb dJ0_isLatin1_aae02_13 zk_iconst_1 ?_
  refine lv_goto (tgt := 18) hx hb dJ0_isLatin1_aae02_14 (by decide) ?_
  exact W.zret (v := 1) hx hb hr rfl (fun t ht hW => ⟨⟨1, (), rfl, rfl, by rw [ht]; exact hP, va_K.moved hW.alike hK, hD⟩, hS.F ht⟩) hS.2.2 dJ0_isLatin1_aae02_18


set_option maxHeartbeats 4000000 in
set_option maxRecDepth 100000 in
theorem f_J0_length_8abf5 (l : Launch) (dC : Nat → ClassId) (dI : Nat → Nat → Nat) (sz : Nat) (w n : Nat) (cs : Nat → Int32)  : Met l yJ0_length_8abf5 wsJ0_length_8abf5 ({ frames := 1, cells := 0, slots := 0, locals := 20 }) (va_Pc [.ref w] (ax_C dC dI sz [] [] (sxc_W w n cs (va_A [] sz)))) (va_Qi (fun (r : Int32) (_ : Unit) => (r.toInt = (n : Int) ∧ n ≤ 8) ∧ r.toInt = (n : Int)) (fun (_ : Unit) (t : State) => ax_B dC dI (va_A [] sz) [] [] t) (va_A [] sz)) 0 0 (va_A [] sz) := by
  refine Met.ofW (cc := cJ0_length_8abf5) (maxL := 1) (ret := (some .int)) (by decide) rfl ?_
  intro p e s m args below meth c s₁ B hml hv
  obtain ⟨rfl, hsz, hP, hK, hD0, hE⟩ := hv
  have hx := B.exec
  have hb := B.bytes
  have hr := B.returns
  have hts := atoms_spec (ws := wsJ0_length_8abf5) B.pre
  have hown : s.vm.findClass RJ0 = some m.cls := findClass_of_methodNamed B.named
  have hlocks := B.notSynchronized
  subst hsz
  have hD := hD0.self (sz := s.heap.size)
  generalize hAe : va_A [] s.heap.size = A at hD hE ⊢
  have hA : ∀ q : Nat, s.heap.size ≤ q → A q := fun q h => by rw [← hAe]; exact Or.inr h
  have hS : va_S A s.heap s.heap [] := va_S.rf
  have hP : va_P (dC, dI) vwCl [] s.heap := hP
  have hl := lv_entry ([.ref w]) (n := 1) (Nat.le_of_ble_eq_true rfl)
  rw [lg_entry_eq]
  generalize (lg_sl ([.ref w]) ++ List.replicate (1 - (lg_sl ([.ref w])).length) Slot.unset).toArray = ls at hl ⊢
  have hl : lv_has ls 1 [(0, .ref w)] := hl
  obtain ⟨hz, hn, hO, hco, hcb, v, hv, hT⟩ := id hE
  refine lv_aload_n hx hb dJ0_length_8abf5_0 rfl (lv_at hl 0 rfl) ?_
  refine vk_getf hx hb hv hS hown (hts (.fieldLink RJ0 9 "java/lang/String" "value" "[B") (List.mem_cons_of_mem _ (List.mem_of_getElem? (i := 0) rfl))) (fun _ h => h) dJ0_length_8abf5_1 ?_
  refine va_tlen hx hb hT hS (v := Int32.ofNat n) rfl dJ0_length_8abf5_4 ?_
  refine lv_aload_n hx hb dJ0_length_8abf5_5 rfl (lv_at hl 0 rfl) ?_
  have hFc := va_free (wc := []) hD hS hA [] rfl
  refine va_calli (va_runV (As := []) (rest := [.int (Int32.ofNat n)]) ⟨hx, hb, hml, hown, hts⟩ (f_J0_coder_7d493 l dC dI s.heap.size w n cs) (cwV 0 hts gJ0_length_8abf5_J0_coder_7d493 rfl rfl rfl zd_J0_coder_7d493 ⟨Nat.le_of_ble_eq_true rfl, Nat.le_of_ble_eq_true rfl⟩) ⟨ax_blind sxc_W_same, sxc_recv hE hS, ax_preE hP hK hD (fun U hU hW => sxc_W_to hE hS.2.1 hFc hU hW)⟩ rfl rfl hl.1 rfl (lv_room (Nat.le_of_ble_eq_true rfl)) dJ0_length_8abf5_6 ⟨Nat.le_of_ble_eq_true rfl, Nat.le_of_ble_eq_true rfl⟩) hS (fun q _ h => hFc q h) hFc (fun r6 u t H1 locs ht hvm hw hB hz1 hk1 hS => ?_)
  obtain ⟨hP1, hK1, hD1⟩ := hB
  rw [ht] at hP1
  generalize H1 = H at hP1 hS ⊢
  have hP : va_P (dC, dI) vwCl [] H := hP1
  have hw : r6 = 0 := hw
  subst hw
  refine lv_ishr hx hb dJ0_length_8abf5_9 ?_
  refine lv_topi (fun x9 ex9 => ?_)
  exact W.iret (v := x9) hx hb hr (fun t ht hW => ⟨⟨x9, (), rfl, ⟨⟨by rw [ex9]; exact sx_len hn, hn⟩, by rw [ex9]; exact sx_len hn⟩, by rw [ht]; exact hP, va_K.moved hW.alike hK, hD⟩, hS.F ht⟩) hS.2.2 dJ0_length_8abf5_10


set_option maxHeartbeats 4000000 in
set_option maxRecDepth 100000 in
theorem f_J1_charAt_3b067 (l : Launch) (dC : Nat → ClassId) (dI : Nat → Nat → Nat) (sz : Nat) (v n : Nat) (f : Nat → Int32) (i : Int32) (h0 : (0 : Int) ≤ i.toInt) (hk : i.toInt < (n : Int)) : Met l yJ1_charAt_3b067 wsJ1_charAt_3b067 ({ frames := 2, cells := 0, slots := 0, locals := 43 }) (va_Pc [.ref v, .int i] (ax_C dC dI sz [] [] (sx_V v n f (va_A [] sz)))) (va_Qi (fun (r : Int32) (_ : Unit) => narrow .char (.int r) = .int r ∧ r = ((f i.toNatClampNeg &&& 255).toUInt32 % 65536).toInt32) (fun (_ : Unit) (t : State) => ax_B dC dI (va_A [] sz) [] [] t) (va_A [] sz)) 0 0 (va_A [] sz) := by
  refine Met.ofW (cc := cJ1_charAt_3b067) (maxL := 2) (ret := (some .char)) (by decide) rfl ?_
  intro p e s m args below meth c s₁ B hml hv
  obtain ⟨rfl, hsz, hP, hK, hD0, hE⟩ := hv
  have hx := B.exec
  have hb := B.bytes
  have hr := B.returns
  have hts := atoms_spec (ws := wsJ1_charAt_3b067) B.pre
  have hown : s.vm.findClass RJ1 = some m.cls := findClass_of_methodNamed B.named
  have hlocks := B.notSynchronized
  subst hsz
  have hD := hD0.self (sz := s.heap.size)
  generalize hAe : va_A [] s.heap.size = A at hD hE ⊢
  have hA : ∀ q : Nat, s.heap.size ≤ q → A q := fun q h => by rw [← hAe]; exact Or.inr h
  have hS : va_S A s.heap s.heap [] := va_S.rf
  have hP : va_P (dC, dI) vwCl [] s.heap := hP
  have hl := lv_entry ([.ref v, .int i]) (n := 2) (Nat.le_of_ble_eq_true rfl)
  rw [lg_entry_eq]
  generalize (lg_sl ([.ref v, .int i]) ++ List.replicate (2 - (lg_sl ([.ref v, .int i])).length) Slot.unset).toArray = ls at hl ⊢
  have hl : lv_has ls 2 [(0, .ref v), (1, .int i)] := hl
  obtain ⟨hz, hn, hT⟩ := id hE
  refine lv_iload_n hx hb dJ1_charAt_3b067_0 rfl (lv_at hl 1 rfl) ?_
  refine lv_aload_n hx hb dJ1_charAt_3b067_1 rfl (lv_at hl 0 rfl) ?_
  refine va_tlen hx hb hT hS (v := Int32.ofNat n) rfl dJ1_charAt_3b067_2 ?_
  have hFc := va_free (wc := []) hD hS hA [] rfl
  refine va_callv (va_runS (As := [.int i, .int (Int32.ofNat n)]) (rest := []) ⟨hx, hb, hml, hown, hts⟩ (c_J0_checkIndex_df160 l dC dI s.heap.size i (Int32.ofNat n) h0 (by rw [sx_lt hn]; exact hk)) (va_cwS 2 hts gJ1_charAt_3b067_J0_checkIndex_df160 rfl rfl rfl zd_J0_checkIndex_df160.2 ⟨Nat.le_of_ble_eq_true rfl, Nat.le_of_ble_eq_true rfl⟩) ⟨ax_blind sx_Z_same, ax_preE hP hK hD (fun U hU hW => sx_Z_to hz hS.2.1 hFc hU hW)⟩ rfl rfl hl.1 rfl (lv_room (Nat.le_of_ble_eq_true rfl)) dJ1_charAt_3b067_3 ⟨Nat.le_of_ble_eq_true rfl, Nat.le_of_ble_eq_true rfl⟩) hS (fun q _ h => hFc q h) hFc (fun u t H1 locs ht hvm hw hB hz1 hk1 hS => ?_)
  obtain ⟨hP1, hK1, hD1⟩ := hB
  rw [ht] at hP1
  generalize H1 = H at hP1 hS ⊢
  have hP : va_P (dC, dI) vwCl [] H := hP1
  refine lv_aload_n hx hb dJ1_charAt_3b067_6 rfl (lv_at hl 0 rfl) ?_
  refine lv_iload_n hx hb dJ1_charAt_3b067_7 rfl (lv_at hl 1 rfl) ?_
  refine va_tb hx hb hT hS (vp_in_iff.mpr ⟨h0, hk⟩) (v := .int (f i.toNatClampNeg)) rfl dJ1_charAt_3b067_8 ?_
  refine lv_sipush (v := 255) hx hb dJ1_charAt_3b067_9 zk_sipush_255 ?_
  refine lv_iand hx hb dJ1_charAt_3b067_12 ?_
  refine lv_topi (fun x9 ex9 => ?_)
  refine lv_i2c (v := (x9.toUInt32 % 65536).toInt32) hx hb dJ1_charAt_3b067_13 rfl ?_
  exact W.zret (v := (x9.toUInt32 % 65536).toInt32) hx hb hr (pk_nc x9) (fun t ht hW => ⟨⟨(x9.toUInt32 % 65536).toInt32, (), rfl, ⟨pk_nc x9, by rw [ex9]⟩, by rw [ht]; exact hP, va_K.moved hW.alike hK, hD⟩, hS.F ht⟩) hS.2.2 dJ1_charAt_3b067_14


set_option maxHeartbeats 4000000 in
set_option maxRecDepth 100000 in
theorem f_J0_charAt_5068e (l : Launch) (dC : Nat → ClassId) (dI : Nat → Nat → Nat) (sz : Nat) (w n : Nat) (cs : Nat → Int32) (i : Int32) (h0 : (0 : Int) ≤ i.toInt) (hk : i.toInt < (n : Int)) : Met l yJ0_charAt_5068e wsJ0_charAt_5068e ({ frames := 3, cells := 0, slots := 0, locals := 64 }) (va_Pc [.ref w, .int i] (ax_C dC dI sz [] [] (sxc_W w n cs (va_A [] sz)))) (va_Qi (fun (r : Int32) (_ : Unit) => narrow .char (.int r) = .int r ∧ r.toInt = (cs i.toNatClampNeg).toInt) (fun (_ : Unit) (t : State) => ax_B dC dI (va_A [] sz) [] [] t) (va_A [] sz)) 0 0 (va_A [] sz) := by
  refine Met.ofW (cc := cJ0_charAt_5068e) (maxL := 2) (ret := (some .char)) (by decide) rfl ?_
  intro p e s m args below meth c s₁ B hml hv
  obtain ⟨rfl, hsz, hP, hK, hD0, hE⟩ := hv
  have hx := B.exec
  have hb := B.bytes
  have hr := B.returns
  have hts := atoms_spec (ws := wsJ0_charAt_5068e) B.pre
  have hown : s.vm.findClass RJ0 = some m.cls := findClass_of_methodNamed B.named
  have hlocks := B.notSynchronized
  subst hsz
  have hD := hD0.self (sz := s.heap.size)
  generalize hAe : va_A [] s.heap.size = A at hD hE ⊢
  have hA : ∀ q : Nat, s.heap.size ≤ q → A q := fun q h => by rw [← hAe]; exact Or.inr h
  have hS : va_S A s.heap s.heap [] := va_S.rf
  have hP : va_P (dC, dI) vwCl [] s.heap := hP
  have hl := lv_entry ([.ref w, .int i]) (n := 2) (Nat.le_of_ble_eq_true rfl)
  rw [lg_entry_eq]
  generalize (lg_sl ([.ref w, .int i]) ++ List.replicate (2 - (lg_sl ([.ref w, .int i])).length) Slot.unset).toArray = ls at hl ⊢
  have hl : lv_has ls 2 [(0, .ref w), (1, .int i)] := hl
  obtain ⟨hz, hn, hO, hco, hcb, v, hv, hT⟩ := id hE
  refine lv_aload_n hx hb dJ0_charAt_5068e_0 rfl (lv_at hl 0 rfl) ?_
  have hFc := va_free (wc := []) hD hS hA [] rfl
  refine va_calli (va_runV (As := []) (rest := []) ⟨hx, hb, hml, hown, hts⟩ (f_J0_isLatin1_aae02 l dC dI s.heap.size w n cs) (cwV 0 hts gJ0_charAt_5068e_J0_isLatin1_aae02 rfl rfl rfl zd_J0_isLatin1_aae02 ⟨Nat.le_of_ble_eq_true rfl, Nat.le_of_ble_eq_true rfl⟩) ⟨ax_blind sxc_W_same, sxc_recv hE hS, ax_preE hP hK hD (fun U hU hW => sxc_W_to hE hS.2.1 hFc hU hW)⟩ rfl rfl hl.1 rfl (lv_room (Nat.le_of_ble_eq_true rfl)) dJ0_charAt_5068e_1 ⟨Nat.le_of_ble_eq_true rfl, Nat.le_of_ble_eq_true rfl⟩) hS (fun q _ h => hFc q h) hFc (fun r1 u t H1 locs ht hvm hw hB hz1 hk1 hS => ?_)
  obtain ⟨hP1, hK1, hD1⟩ := hB
  rw [ht] at hP1
  generalize H1 = H at hP1 hS ⊢
  have hP : va_P (dC, dI) vwCl [] H := hP1
  have hw : r1 = 1 := hw
  subst hw
  refine lv_if_eq (tgt := 16) hx hb dJ0_charAt_5068e_4 (by decide) (fun c9 => absurd c9 (by decide +kernel)) (fun _ => ?_)
  refine lv_aload_n hx hb dJ0_charAt_5068e_7 rfl (lv_at hl 0 rfl) ?_
  refine vk_getf hx hb hv hS hown (hts (.fieldLink RJ0 9 "java/lang/String" "value" "[B") (zm_J0_charAt_5068e_r1 (List.mem_of_getElem? (i := 0) rfl))) (fun _ h => h) dJ0_charAt_5068e_8 ?_
  refine lv_iload_n hx hb dJ0_charAt_5068e_11 rfl (lv_at hl 1 rfl) ?_
  have hFc := va_free (wc := []) hD hS hA [] rfl
  refine va_calli (va_runS (As := [.ref v, .int i]) (rest := []) ⟨hx, hb, hml, hown, hts⟩ (f_J1_charAt_3b067 l dC dI H.size v n cs i h0 hk) (va_cwS 2 hts gJ0_charAt_5068e_J1_charAt_3b067 rfl rfl rfl zd_J1_charAt_3b067.2 ⟨Nat.le_of_ble_eq_true rfl, Nat.le_of_ble_eq_true rfl⟩) ⟨ax_blind sx_V_same, ax_preE hP hK hD (fun U hU hW => sx_V_to (⟨hz, hn, hT⟩ : sx_V v n cs A s) hS.2.1 hFc hU hW)⟩ rfl rfl hl.1 rfl (lv_room (Nat.le_of_ble_eq_true rfl)) dJ0_charAt_5068e_12 ⟨Nat.le_of_ble_eq_true rfl, Nat.le_of_ble_eq_true rfl⟩) hS (fun q _ h => hFc q h) hFc (fun r12 u t H1 locs ht hvm hw hB hz1 hk1 hS => ?_)
  obtain ⟨hP1, hK1, hD1⟩ := hB
  rw [ht] at hP1
  generalize H1 = H at hP1 hS ⊢
  have hP : va_P (dC, dI) vwCl [] H := hP1
  exact W.zret (v := r12) hx hb hr hw.1 (fun t ht hW => ⟨⟨r12, (), rfl, ⟨hw.1, by rw [hw.2]; exact congrArg Int32.toInt (sxc_ch (hcb _ (by have e9 : i.toNatClampNeg = i.toInt.toNat := rfl; omega)))⟩, by rw [ht]; exact hP, va_K.moved hW.alike hK, hD⟩, hS.F ht⟩) hS.2.2 dJ0_charAt_5068e_15


def sxc_T (ad : Nat → Nat) (A : Nat → Prop) (U : State) : Prop := (∀ i : Nat, i < 36 → sxc_W (ad i) (sx_ln.getD i 0) (sxc i) A U) ∧ vk_R RX3 98 "gallery" (ad 0) U ∧ vk_R RX3 110 "law" (ad 1) U ∧ vk_R RX3 112 "figure" (ad 2) U ∧ vk_R RX3 114 "watche\x72" (ad 3) U ∧ vk_R RX3 116 "seen" (ad 4) U ∧ vk_R RX3 151 "figures" (ad 5) U ∧ vk_R RX3 159 "span" (ad 6) U ∧ vk_R RX3 163 "stairs" (ad 7) U ∧ vk_R RX3 168 "shut" (ad 8) U ∧ vk_R RX3 172 "times" (ad 9) U ∧ vk_R RX3 176 "plus" (ad 10) U ∧ vk_R RX3 180 "first" (ad 11) U ∧ vk_R RX3 187 "is" (ad 12) U ∧ vk_R RX3 199 "walks" (ad 13) U ∧ vk_R RX3 201 "speaks" (ad 14) U ∧ vk_R RX3 207 "from" (ad 15) U ∧ vk_R RX3 209 "to" (ad 16) U ∧ vk_R RX3 215 "at" (ad 17) U ∧ vk_R RX8 128 "gallery" (ad 18) U ∧ vk_R RX8 130 "law" (ad 19) U ∧ vk_R RX8 132 "figure" (ad 20) U ∧ vk_R RX8 134 "watche\x72" (ad 21) U ∧ vk_R RX8 136 "seen" (ad 22) U ∧ vk_R RX8 201 "figures" (ad 23) U ∧ vk_R RX8 207 "span" (ad 24) U ∧ vk_R RX8 209 "stairs" (ad 25) U ∧ vk_R RX8 211 "shut" (ad 26) U ∧ vk_R RX8 213 "times" (ad 27) U ∧ vk_R RX8 218 "plus" (ad 28) U ∧ vk_R RX8 220 "first" (ad 29) U ∧ vk_R RX8 226 "is" (ad 30) U ∧ vk_R RX8 228 "walks" (ad 31) U ∧ vk_R RX8 230 "speaks" (ad 32) U ∧ vk_R RX8 232 "from" (ad 33) U ∧ vk_R RX8 233 "to" (ad 34) U ∧ vk_R RX8 234 "at" (ad 35) U
theorem sxc_T_w {ad : Nat → Nat} {A : Nat → Prop} {U : State} (h : sxc_T ad A U) {i : Nat} (hi : i < 36) : sxc_W (ad i) (sx_ln.getD i 0) (sxc i) A U := h.1 i hi
theorem sxc_R0 {ad : Nat → Nat} {A : Nat → Prop} {U : State} (h : sxc_T ad A U) : vk_R RX3 98 "gallery" (ad 0) U := h.2.1
theorem sxc_R1 {ad : Nat → Nat} {A : Nat → Prop} {U : State} (h : sxc_T ad A U) : vk_R RX3 110 "law" (ad 1) U := h.2.2.1
theorem sxc_R2 {ad : Nat → Nat} {A : Nat → Prop} {U : State} (h : sxc_T ad A U) : vk_R RX3 112 "figure" (ad 2) U := h.2.2.2.1
theorem sxc_R3 {ad : Nat → Nat} {A : Nat → Prop} {U : State} (h : sxc_T ad A U) : vk_R RX3 114 "watche\x72" (ad 3) U := h.2.2.2.2.1
theorem sxc_R4 {ad : Nat → Nat} {A : Nat → Prop} {U : State} (h : sxc_T ad A U) : vk_R RX3 116 "seen" (ad 4) U := h.2.2.2.2.2.1
theorem sxc_R5 {ad : Nat → Nat} {A : Nat → Prop} {U : State} (h : sxc_T ad A U) : vk_R RX3 151 "figures" (ad 5) U := h.2.2.2.2.2.2.1
theorem sxc_R6 {ad : Nat → Nat} {A : Nat → Prop} {U : State} (h : sxc_T ad A U) : vk_R RX3 159 "span" (ad 6) U := h.2.2.2.2.2.2.2.1
theorem sxc_R7 {ad : Nat → Nat} {A : Nat → Prop} {U : State} (h : sxc_T ad A U) : vk_R RX3 163 "stairs" (ad 7) U := h.2.2.2.2.2.2.2.2.1
theorem sxc_R8 {ad : Nat → Nat} {A : Nat → Prop} {U : State} (h : sxc_T ad A U) : vk_R RX3 168 "shut" (ad 8) U := h.2.2.2.2.2.2.2.2.2.1
theorem sxc_R9 {ad : Nat → Nat} {A : Nat → Prop} {U : State} (h : sxc_T ad A U) : vk_R RX3 172 "times" (ad 9) U := h.2.2.2.2.2.2.2.2.2.2.1
theorem sxc_R10 {ad : Nat → Nat} {A : Nat → Prop} {U : State} (h : sxc_T ad A U) : vk_R RX3 176 "plus" (ad 10) U := h.2.2.2.2.2.2.2.2.2.2.2.1
theorem sxc_R11 {ad : Nat → Nat} {A : Nat → Prop} {U : State} (h : sxc_T ad A U) : vk_R RX3 180 "first" (ad 11) U := h.2.2.2.2.2.2.2.2.2.2.2.2.1
theorem sxc_R12 {ad : Nat → Nat} {A : Nat → Prop} {U : State} (h : sxc_T ad A U) : vk_R RX3 187 "is" (ad 12) U := h.2.2.2.2.2.2.2.2.2.2.2.2.2.1
theorem sxc_R13 {ad : Nat → Nat} {A : Nat → Prop} {U : State} (h : sxc_T ad A U) : vk_R RX3 199 "walks" (ad 13) U := h.2.2.2.2.2.2.2.2.2.2.2.2.2.2.1
theorem sxc_R14 {ad : Nat → Nat} {A : Nat → Prop} {U : State} (h : sxc_T ad A U) : vk_R RX3 201 "speaks" (ad 14) U := h.2.2.2.2.2.2.2.2.2.2.2.2.2.2.2.1
theorem sxc_R15 {ad : Nat → Nat} {A : Nat → Prop} {U : State} (h : sxc_T ad A U) : vk_R RX3 207 "from" (ad 15) U := h.2.2.2.2.2.2.2.2.2.2.2.2.2.2.2.2.1
theorem sxc_R16 {ad : Nat → Nat} {A : Nat → Prop} {U : State} (h : sxc_T ad A U) : vk_R RX3 209 "to" (ad 16) U := h.2.2.2.2.2.2.2.2.2.2.2.2.2.2.2.2.2.1
theorem sxc_R17 {ad : Nat → Nat} {A : Nat → Prop} {U : State} (h : sxc_T ad A U) : vk_R RX3 215 "at" (ad 17) U := h.2.2.2.2.2.2.2.2.2.2.2.2.2.2.2.2.2.2.1
theorem sxc_R18 {ad : Nat → Nat} {A : Nat → Prop} {U : State} (h : sxc_T ad A U) : vk_R RX8 128 "gallery" (ad 18) U := h.2.2.2.2.2.2.2.2.2.2.2.2.2.2.2.2.2.2.2.1
theorem sxc_R19 {ad : Nat → Nat} {A : Nat → Prop} {U : State} (h : sxc_T ad A U) : vk_R RX8 130 "law" (ad 19) U := h.2.2.2.2.2.2.2.2.2.2.2.2.2.2.2.2.2.2.2.2.1
theorem sxc_R20 {ad : Nat → Nat} {A : Nat → Prop} {U : State} (h : sxc_T ad A U) : vk_R RX8 132 "figure" (ad 20) U := h.2.2.2.2.2.2.2.2.2.2.2.2.2.2.2.2.2.2.2.2.2.1
theorem sxc_R21 {ad : Nat → Nat} {A : Nat → Prop} {U : State} (h : sxc_T ad A U) : vk_R RX8 134 "watche\x72" (ad 21) U := h.2.2.2.2.2.2.2.2.2.2.2.2.2.2.2.2.2.2.2.2.2.2.1
theorem sxc_R22 {ad : Nat → Nat} {A : Nat → Prop} {U : State} (h : sxc_T ad A U) : vk_R RX8 136 "seen" (ad 22) U := h.2.2.2.2.2.2.2.2.2.2.2.2.2.2.2.2.2.2.2.2.2.2.2.1
theorem sxc_R23 {ad : Nat → Nat} {A : Nat → Prop} {U : State} (h : sxc_T ad A U) : vk_R RX8 201 "figures" (ad 23) U := h.2.2.2.2.2.2.2.2.2.2.2.2.2.2.2.2.2.2.2.2.2.2.2.2.1
theorem sxc_R24 {ad : Nat → Nat} {A : Nat → Prop} {U : State} (h : sxc_T ad A U) : vk_R RX8 207 "span" (ad 24) U := h.2.2.2.2.2.2.2.2.2.2.2.2.2.2.2.2.2.2.2.2.2.2.2.2.2.1
theorem sxc_R25 {ad : Nat → Nat} {A : Nat → Prop} {U : State} (h : sxc_T ad A U) : vk_R RX8 209 "stairs" (ad 25) U := h.2.2.2.2.2.2.2.2.2.2.2.2.2.2.2.2.2.2.2.2.2.2.2.2.2.2.1
theorem sxc_R26 {ad : Nat → Nat} {A : Nat → Prop} {U : State} (h : sxc_T ad A U) : vk_R RX8 211 "shut" (ad 26) U := h.2.2.2.2.2.2.2.2.2.2.2.2.2.2.2.2.2.2.2.2.2.2.2.2.2.2.2.1
theorem sxc_R27 {ad : Nat → Nat} {A : Nat → Prop} {U : State} (h : sxc_T ad A U) : vk_R RX8 213 "times" (ad 27) U := h.2.2.2.2.2.2.2.2.2.2.2.2.2.2.2.2.2.2.2.2.2.2.2.2.2.2.2.2.1
theorem sxc_R28 {ad : Nat → Nat} {A : Nat → Prop} {U : State} (h : sxc_T ad A U) : vk_R RX8 218 "plus" (ad 28) U := h.2.2.2.2.2.2.2.2.2.2.2.2.2.2.2.2.2.2.2.2.2.2.2.2.2.2.2.2.2.1
theorem sxc_R29 {ad : Nat → Nat} {A : Nat → Prop} {U : State} (h : sxc_T ad A U) : vk_R RX8 220 "first" (ad 29) U := h.2.2.2.2.2.2.2.2.2.2.2.2.2.2.2.2.2.2.2.2.2.2.2.2.2.2.2.2.2.2.1
theorem sxc_R30 {ad : Nat → Nat} {A : Nat → Prop} {U : State} (h : sxc_T ad A U) : vk_R RX8 226 "is" (ad 30) U := h.2.2.2.2.2.2.2.2.2.2.2.2.2.2.2.2.2.2.2.2.2.2.2.2.2.2.2.2.2.2.2.1
theorem sxc_R31 {ad : Nat → Nat} {A : Nat → Prop} {U : State} (h : sxc_T ad A U) : vk_R RX8 228 "walks" (ad 31) U := h.2.2.2.2.2.2.2.2.2.2.2.2.2.2.2.2.2.2.2.2.2.2.2.2.2.2.2.2.2.2.2.2.1
theorem sxc_R32 {ad : Nat → Nat} {A : Nat → Prop} {U : State} (h : sxc_T ad A U) : vk_R RX8 230 "speaks" (ad 32) U := h.2.2.2.2.2.2.2.2.2.2.2.2.2.2.2.2.2.2.2.2.2.2.2.2.2.2.2.2.2.2.2.2.2.1
theorem sxc_R33 {ad : Nat → Nat} {A : Nat → Prop} {U : State} (h : sxc_T ad A U) : vk_R RX8 232 "from" (ad 33) U := h.2.2.2.2.2.2.2.2.2.2.2.2.2.2.2.2.2.2.2.2.2.2.2.2.2.2.2.2.2.2.2.2.2.2.1
theorem sxc_R34 {ad : Nat → Nat} {A : Nat → Prop} {U : State} (h : sxc_T ad A U) : vk_R RX8 233 "to" (ad 34) U := h.2.2.2.2.2.2.2.2.2.2.2.2.2.2.2.2.2.2.2.2.2.2.2.2.2.2.2.2.2.2.2.2.2.2.2.1
theorem sxc_R35 {ad : Nat → Nat} {A : Nat → Prop} {U : State} (h : sxc_T ad A U) : vk_R RX8 234 "at" (ad 35) U := h.2.2.2.2.2.2.2.2.2.2.2.2.2.2.2.2.2.2.2.2.2.2.2.2.2.2.2.2.2.2.2.2.2.2.2.2
theorem sxc_T_same {ad : Nat → Nat} {A : Nat → Prop} (a : Array Value) (U : State) (g : JFrame) (mk : MethodId) (h : sxc_T ad A U) : sxc_T ad A (U.calling g mk a) := ⟨fun i hi => sxc_W_same a U g mk (h.1 i hi), vk_R.same rfl (h.2.1), vk_R.same rfl (h.2.2.1), vk_R.same rfl (h.2.2.2.1), vk_R.same rfl (h.2.2.2.2.1), vk_R.same rfl (h.2.2.2.2.2.1), vk_R.same rfl (h.2.2.2.2.2.2.1), vk_R.same rfl (h.2.2.2.2.2.2.2.1), vk_R.same rfl (h.2.2.2.2.2.2.2.2.1), vk_R.same rfl (h.2.2.2.2.2.2.2.2.2.1), vk_R.same rfl (h.2.2.2.2.2.2.2.2.2.2.1), vk_R.same rfl (h.2.2.2.2.2.2.2.2.2.2.2.1), vk_R.same rfl (h.2.2.2.2.2.2.2.2.2.2.2.2.1), vk_R.same rfl (h.2.2.2.2.2.2.2.2.2.2.2.2.2.1), vk_R.same rfl (h.2.2.2.2.2.2.2.2.2.2.2.2.2.2.1), vk_R.same rfl (h.2.2.2.2.2.2.2.2.2.2.2.2.2.2.2.1), vk_R.same rfl (h.2.2.2.2.2.2.2.2.2.2.2.2.2.2.2.2.1), vk_R.same rfl (h.2.2.2.2.2.2.2.2.2.2.2.2.2.2.2.2.2.1), vk_R.same rfl (h.2.2.2.2.2.2.2.2.2.2.2.2.2.2.2.2.2.2.1), vk_R.same rfl (h.2.2.2.2.2.2.2.2.2.2.2.2.2.2.2.2.2.2.2.1), vk_R.same rfl (h.2.2.2.2.2.2.2.2.2.2.2.2.2.2.2.2.2.2.2.2.1), vk_R.same rfl (h.2.2.2.2.2.2.2.2.2.2.2.2.2.2.2.2.2.2.2.2.2.1), vk_R.same rfl (h.2.2.2.2.2.2.2.2.2.2.2.2.2.2.2.2.2.2.2.2.2.2.1), vk_R.same rfl (h.2.2.2.2.2.2.2.2.2.2.2.2.2.2.2.2.2.2.2.2.2.2.2.1), vk_R.same rfl (h.2.2.2.2.2.2.2.2.2.2.2.2.2.2.2.2.2.2.2.2.2.2.2.2.1), vk_R.same rfl (h.2.2.2.2.2.2.2.2.2.2.2.2.2.2.2.2.2.2.2.2.2.2.2.2.2.1), vk_R.same rfl (h.2.2.2.2.2.2.2.2.2.2.2.2.2.2.2.2.2.2.2.2.2.2.2.2.2.2.1), vk_R.same rfl (h.2.2.2.2.2.2.2.2.2.2.2.2.2.2.2.2.2.2.2.2.2.2.2.2.2.2.2.1), vk_R.same rfl (h.2.2.2.2.2.2.2.2.2.2.2.2.2.2.2.2.2.2.2.2.2.2.2.2.2.2.2.2.1), vk_R.same rfl (h.2.2.2.2.2.2.2.2.2.2.2.2.2.2.2.2.2.2.2.2.2.2.2.2.2.2.2.2.2.1), vk_R.same rfl (h.2.2.2.2.2.2.2.2.2.2.2.2.2.2.2.2.2.2.2.2.2.2.2.2.2.2.2.2.2.2.1), vk_R.same rfl (h.2.2.2.2.2.2.2.2.2.2.2.2.2.2.2.2.2.2.2.2.2.2.2.2.2.2.2.2.2.2.2.1), vk_R.same rfl (h.2.2.2.2.2.2.2.2.2.2.2.2.2.2.2.2.2.2.2.2.2.2.2.2.2.2.2.2.2.2.2.2.1), vk_R.same rfl (h.2.2.2.2.2.2.2.2.2.2.2.2.2.2.2.2.2.2.2.2.2.2.2.2.2.2.2.2.2.2.2.2.2.1), vk_R.same rfl (h.2.2.2.2.2.2.2.2.2.2.2.2.2.2.2.2.2.2.2.2.2.2.2.2.2.2.2.2.2.2.2.2.2.2.1), vk_R.same rfl (h.2.2.2.2.2.2.2.2.2.2.2.2.2.2.2.2.2.2.2.2.2.2.2.2.2.2.2.2.2.2.2.2.2.2.2.1), vk_R.same rfl (h.2.2.2.2.2.2.2.2.2.2.2.2.2.2.2.2.2.2.2.2.2.2.2.2.2.2.2.2.2.2.2.2.2.2.2.2)⟩
theorem sxc_T_to {ad : Nat → Nat} {A B : Nat → Prop} {s U : State} {H : Heap} (h : sxc_T ad A s) (hq : ∀ a : Nat, a < s.heap.size → ¬ A a → H[a]? = s.heap[a]?) (hAB : ∀ q, B q → A q) (hU : U.heap = H) (hW : s.WarmedH U.vm) : sxc_T ad B U := ⟨fun i hi => sxc_W_to (h.1 i hi) hq hAB hU hW, vk_R.warm hW (h.2.1), vk_R.warm hW (h.2.2.1), vk_R.warm hW (h.2.2.2.1), vk_R.warm hW (h.2.2.2.2.1), vk_R.warm hW (h.2.2.2.2.2.1), vk_R.warm hW (h.2.2.2.2.2.2.1), vk_R.warm hW (h.2.2.2.2.2.2.2.1), vk_R.warm hW (h.2.2.2.2.2.2.2.2.1), vk_R.warm hW (h.2.2.2.2.2.2.2.2.2.1), vk_R.warm hW (h.2.2.2.2.2.2.2.2.2.2.1), vk_R.warm hW (h.2.2.2.2.2.2.2.2.2.2.2.1), vk_R.warm hW (h.2.2.2.2.2.2.2.2.2.2.2.2.1), vk_R.warm hW (h.2.2.2.2.2.2.2.2.2.2.2.2.2.1), vk_R.warm hW (h.2.2.2.2.2.2.2.2.2.2.2.2.2.2.1), vk_R.warm hW (h.2.2.2.2.2.2.2.2.2.2.2.2.2.2.2.1), vk_R.warm hW (h.2.2.2.2.2.2.2.2.2.2.2.2.2.2.2.2.1), vk_R.warm hW (h.2.2.2.2.2.2.2.2.2.2.2.2.2.2.2.2.2.1), vk_R.warm hW (h.2.2.2.2.2.2.2.2.2.2.2.2.2.2.2.2.2.2.1), vk_R.warm hW (h.2.2.2.2.2.2.2.2.2.2.2.2.2.2.2.2.2.2.2.1), vk_R.warm hW (h.2.2.2.2.2.2.2.2.2.2.2.2.2.2.2.2.2.2.2.2.1), vk_R.warm hW (h.2.2.2.2.2.2.2.2.2.2.2.2.2.2.2.2.2.2.2.2.2.1), vk_R.warm hW (h.2.2.2.2.2.2.2.2.2.2.2.2.2.2.2.2.2.2.2.2.2.2.1), vk_R.warm hW (h.2.2.2.2.2.2.2.2.2.2.2.2.2.2.2.2.2.2.2.2.2.2.2.1), vk_R.warm hW (h.2.2.2.2.2.2.2.2.2.2.2.2.2.2.2.2.2.2.2.2.2.2.2.2.1), vk_R.warm hW (h.2.2.2.2.2.2.2.2.2.2.2.2.2.2.2.2.2.2.2.2.2.2.2.2.2.1), vk_R.warm hW (h.2.2.2.2.2.2.2.2.2.2.2.2.2.2.2.2.2.2.2.2.2.2.2.2.2.2.1), vk_R.warm hW (h.2.2.2.2.2.2.2.2.2.2.2.2.2.2.2.2.2.2.2.2.2.2.2.2.2.2.2.1), vk_R.warm hW (h.2.2.2.2.2.2.2.2.2.2.2.2.2.2.2.2.2.2.2.2.2.2.2.2.2.2.2.2.1), vk_R.warm hW (h.2.2.2.2.2.2.2.2.2.2.2.2.2.2.2.2.2.2.2.2.2.2.2.2.2.2.2.2.2.1), vk_R.warm hW (h.2.2.2.2.2.2.2.2.2.2.2.2.2.2.2.2.2.2.2.2.2.2.2.2.2.2.2.2.2.2.1), vk_R.warm hW (h.2.2.2.2.2.2.2.2.2.2.2.2.2.2.2.2.2.2.2.2.2.2.2.2.2.2.2.2.2.2.2.1), vk_R.warm hW (h.2.2.2.2.2.2.2.2.2.2.2.2.2.2.2.2.2.2.2.2.2.2.2.2.2.2.2.2.2.2.2.2.1), vk_R.warm hW (h.2.2.2.2.2.2.2.2.2.2.2.2.2.2.2.2.2.2.2.2.2.2.2.2.2.2.2.2.2.2.2.2.2.1), vk_R.warm hW (h.2.2.2.2.2.2.2.2.2.2.2.2.2.2.2.2.2.2.2.2.2.2.2.2.2.2.2.2.2.2.2.2.2.2.1), vk_R.warm hW (h.2.2.2.2.2.2.2.2.2.2.2.2.2.2.2.2.2.2.2.2.2.2.2.2.2.2.2.2.2.2.2.2.2.2.2.1), vk_R.warm hW (h.2.2.2.2.2.2.2.2.2.2.2.2.2.2.2.2.2.2.2.2.2.2.2.2.2.2.2.2.2.2.2.2.2.2.2.2)⟩
end SXC
end P222_sxc
section P225_ref
section REF
/-- rows of 23, each as a state has it -/
def md_S (f : Nat → Int32) : Prop := ∀ j : Nat, ((∀ k : Nat, 0 ≤ k → k ≤ 8 → (0 : Int) ≤ (f (23 * j + k)).toInt ∧ (f (23 * j + k)).toInt ≤ 8) ∧ (∀ k : Nat, 19 ≤ k → k ≤ 19 → (0 : Int) ≤ (f (23 * j + k)).toInt ∧ (f (23 * j + k)).toInt ≤ 8) ∧ (∀ k : Nat, 20 ≤ k → k ≤ 20 → (0 : Int) ≤ (f (23 * j + k)).toInt ∧ (f (23 * j + k)).toInt ≤ 19))
theorem md_sh {f : Nat → Int32} {i k v : Int32} (h : md_S f) (ev : v = f k.toNatClampNeg) (hk : k.toInt = i.toInt + 23) (h0 : (0 : Int) ≤ i.toInt) : md_S (upd f i.toNatClampNeg v) := by
  have e1 : k.toNatClampNeg = i.toNatClampNeg + 23 := by
    have a1 : k.toNatClampNeg = k.toInt.toNat := rfl
    have a2 : i.toNatClampNeg = i.toInt.toNat := rfl
    omega
  have q : ∀ (j r : Nat) (P : Int32 → Prop), (∀ j, P (f (23 * j + r))) → P (upd f i.toNatClampNeg v (23 * j + r)) := by
    intro j r P hp
    unfold upd
    split
    · rename_i e
      have e3 : k.toNatClampNeg = 23 * (j + 1) + r := by omega
      rw [ev, e3]; exact hp (j + 1)
    · exact hp j
  intro j
  refine ⟨fun r a b => q j r (fun x => (0 : Int) ≤ x.toInt ∧ x.toInt ≤ 8) (fun j => (h j).1 r a b), fun r a b => q j r (fun x => (0 : Int) ≤ x.toInt ∧ x.toInt ≤ 8) (fun j => (h j).2.1 r a b), fun r a b => q j r (fun x => (0 : Int) ≤ x.toInt ∧ x.toInt ≤ 19) (fun j => (h j).2.2 r a b)⟩
theorem md_0 : md_S (fun _ => 0) := fun j => ⟨fun _ _ _ => zq165, fun _ _ _ => zq165, fun _ _ _ => zq166⟩
theorem md_ix {x u : Int32} (h : x.toInt = 23 * u.toInt) (h0 : (0 : Int) ≤ u.toInt) : x.toNatClampNeg = 23 * u.toNatClampNeg := by
  have a1 : x.toNatClampNeg = x.toInt.toNat := rfl
  have a2 : u.toNatClampNeg = u.toInt.toNat := rfl
  omega
theorem cp_0 {f g : Nat → Int32} {sp dp n : Nat} (h : n = 0) : g = va_cpy f g sp dp n := by
  funext m; rw [pk_cpy_out (by omega)]
theorem cp_s {f g h h' : Nat → Int32} {sp dp : Nat} {k k2 i j v : Int32} (hh : h = va_cpy f g sp dp k.toNatClampNeg) (e1 : h' = upd h i.toNatClampNeg v) (e2 : v = f j.toNatClampNeg) (hi : i.toNatClampNeg = dp + k.toNatClampNeg) (hj : j.toNatClampNeg = sp + k.toNatClampNeg) (hk : k2.toNatClampNeg = k.toNatClampNeg + 1) : h' = va_cpy f g sp dp k2.toNatClampNeg := by
  rw [e1, hh, e2, hk, hi, hj]
  generalize k.toNatClampNeg = n
  funext m
  unfold upd
  split
  · rename_i e
    rw [pk_cpy_in (by omega) (by omega)]
    exact congrArg f (by omega)
  · rename_i e
    by_cases h2 : dp ≤ m ∧ m < dp + n
    · rw [pk_cpy_in h2.1 h2.2, pk_cpy_in h2.1 (by omega)]
    · rw [pk_cpy_out (by omega), pk_cpy_out (by omega)]
theorem cp_i {i a k : Int32} (h : i.toInt = a.toInt + k.toInt) (ha : (0 : Int) ≤ a.toInt) (hk : (0 : Int) ≤ k.toInt) : i.toNatClampNeg = a.toNatClampNeg + k.toNatClampNeg := by
  have a1 : i.toNatClampNeg = i.toInt.toNat := rfl
  have a2 : a.toNatClampNeg = a.toInt.toNat := rfl
  have a3 : k.toNatClampNeg = k.toInt.toNat := rfl
  omega
theorem cp_k {k2 k : Int32} (h : k2.toInt = k.toInt + 1) (hk : (0 : Int) ≤ k.toInt) : k2.toNatClampNeg = k.toNatClampNeg + 1 := by
  have a1 : k2.toNatClampNeg = k2.toInt.toNat := rfl
  have a3 : k.toNatClampNeg = k.toInt.toNat := rfl
  omega
theorem cp_e {k : Int32} {n : Nat} (h : k.toInt = (n : Int)) : k.toNatClampNeg = n := by
  have a3 : k.toNatClampNeg = k.toInt.toNat := rfl
  omega
theorem cp_SS {f g h : Nat → Int32} {sp dp : Nat} (e : h = va_cpy f g sp dp 23) (h1 : sp = 0) (h2 : dp = 0) (hf : ((∀ k : Nat, 0 ≤ k → k ≤ 8 → (0 : Int) ≤ (f k).toInt ∧ (f k).toInt ≤ 8) ∧ (∀ k : Nat, 19 ≤ k → k ≤ 19 → (0 : Int) ≤ (f k).toInt ∧ (f k).toInt ≤ 8) ∧ (∀ k : Nat, 20 ≤ k → k ≤ 20 → (0 : Int) ≤ (f k).toInt ∧ (f k).toInt ≤ 19))) : ((∀ k : Nat, 0 ≤ k → k ≤ 8 → (0 : Int) ≤ (h k).toInt ∧ (h k).toInt ≤ 8) ∧ (∀ k : Nat, 19 ≤ k → k ≤ 19 → (0 : Int) ≤ (h k).toInt ∧ (h k).toInt ≤ 8) ∧ (∀ k : Nat, 20 ≤ k → k ≤ 20 → (0 : Int) ≤ (h k).toInt ∧ (h k).toInt ≤ 19)) := by
  have q : ∀ k : Nat, k < 23 → h k = f k := fun k hk => by rw [e, pk_cpy_in (by omega) (by omega)]; exact congrArg f (by omega)
  exact ⟨fun k a b => by rw [q k (by omega)]; exact hf.1 k a b, fun k a b => by rw [q k (by omega)]; exact hf.2.1 k a b, fun k a b => by rw [q k (by omega)]; exact hf.2.2 k a b⟩
theorem cp_SM {f g h : Nat → Int32} {sp dp u : Nat} (e : h = va_cpy f g sp dp 23) (h1 : sp = 0) (h2 : dp = 23 * u) (hf : ((∀ k : Nat, 0 ≤ k → k ≤ 8 → (0 : Int) ≤ (f k).toInt ∧ (f k).toInt ≤ 8) ∧ (∀ k : Nat, 19 ≤ k → k ≤ 19 → (0 : Int) ≤ (f k).toInt ∧ (f k).toInt ≤ 8) ∧ (∀ k : Nat, 20 ≤ k → k ≤ 20 → (0 : Int) ≤ (f k).toInt ∧ (f k).toInt ≤ 19))) (hg : md_S g) : md_S h := by
  intro j
  by_cases hj : j = u
  · have q : ∀ k : Nat, k < 23 → h (23 * j + k) = f k := fun k hk => by rw [e, pk_cpy_in (by omega) (by omega)]; exact congrArg f (by omega)
    exact ⟨fun k a b => by rw [q k (by omega)]; exact hf.1 k a b, fun k a b => by rw [q k (by omega)]; exact hf.2.1 k a b, fun k a b => by rw [q k (by omega)]; exact hf.2.2 k a b⟩
  · have q : ∀ k : Nat, k < 23 → h (23 * j + k) = g (23 * j + k) := fun k hk => by rw [e, pk_cpy_out (by omega)]
    have hg := hg j
    exact ⟨fun k a b => by rw [q k (by omega)]; exact hg.1 k a b, fun k a b => by rw [q k (by omega)]; exact hg.2.1 k a b, fun k a b => by rw [q k (by omega)]; exact hg.2.2 k a b⟩
theorem cp_MS {f g h : Nat → Int32} {sp dp u : Nat} (e : h = va_cpy f g sp dp 23) (h1 : sp = 23 * u) (h2 : dp = 0) (hf : md_S f) : ((∀ k : Nat, 0 ≤ k → k ≤ 8 → (0 : Int) ≤ (h k).toInt ∧ (h k).toInt ≤ 8) ∧ (∀ k : Nat, 19 ≤ k → k ≤ 19 → (0 : Int) ≤ (h k).toInt ∧ (h k).toInt ≤ 8) ∧ (∀ k : Nat, 20 ≤ k → k ≤ 20 → (0 : Int) ≤ (h k).toInt ∧ (h k).toInt ≤ 19)) := by
  have q : ∀ k : Nat, k < 23 → h k = f (23 * u + k) := fun k hk => by rw [e, pk_cpy_in (by omega) (by omega)]; exact congrArg f (by omega)
  have hf := hf u
  exact ⟨fun k a b => by rw [q k (by omega)]; exact hf.1 k a b, fun k a b => by rw [q k (by omega)]; exact hf.2.1 k a b, fun k a b => by rw [q k (by omega)]; exact hf.2.2 k a b⟩
/-- the first n entries are apart, each 0 .. 8 -/
def gr_D (row : Nat → Int32) (n : Nat) : Prop := (∀ i j : Nat, i < n → j < n → row i = row j → i = j) ∧ ∀ i : Nat, i < n → (0 : Int) ≤ (row i).toInt ∧ (row i).toInt ≤ 8
theorem pg_nat : ∀ (m n : Nat) (f : Nat → Nat), (∀ i j : Nat, i < n → j < n → f i = f j → i = j) → (∀ i : Nat, i < n → f i < m) → n ≤ m := by
  intro m
  induction m with
  | zero =>
    intro n f _ hb
    cases n with
    | zero => exact Nat.le_refl _
    | succ n => exact absurd (hb 0 (by omega)) (by omega)
  | succ m ih =>
    intro n f hi hb
    by_cases h : ∃ i, i < n ∧ f i = m
    · obtain ⟨i0, h0, e0⟩ := h
      have g1 : ∀ i, i < n - 1 → (if i < i0 then i else i + 1) < n := fun i h9 => by split <;> omega
      have g2 : ∀ i, (if i < i0 then i else i + 1) ≠ i0 := fun i => by split <;> omega
      have g3 : ∀ i j, (if i < i0 then i else i + 1) = (if j < i0 then j else j + 1) → i = j := fun i j h9 => by split at h9 <;> split at h9 <;> omega
      have h1 := ih (n - 1) (fun i => f (if i < i0 then i else i + 1)) (fun i j a b e => g3 i j (hi _ _ (g1 i a) (g1 j b) e)) (fun i a => by
        have h2 := hb _ (g1 i a)
        have h3 : f (if i < i0 then i else i + 1) ≠ m := fun e => g2 i (hi _ _ (g1 i a) h0 (e.trans e0.symm))
        show f (if i < i0 then i else i + 1) < m
        omega)
      omega
    · have h1 := ih n f hi (fun i a => by
        have h2 := hb i a
        have h3 : f i ≠ m := fun e => h ⟨i, a, e⟩
        omega)
      omega
theorem gr_le {row : Nat → Int32} {n : Nat} (h : gr_D row n) : n ≤ 9 :=
  pg_nat 9 n (fun i => (row i).toInt.toNat) (fun i j a b e => h.1 i j a b (by
    have h1 := h.2 i a
    have h2 := h.2 j b
    have e : (row i).toInt.toNat = (row j).toInt.toNat := e
    exact Int32.toInt_inj.mp (by omega))) (fun i a => by
    have h1 := h.2 i a
    show (row i).toInt.toNat < 9
    omega)
theorem gr_i {row : Nat → Int32} {n : Int32} (h : gr_D row n.toNatClampNeg) : n.toInt ≤ 9 := by
  have a3 : n.toNatClampNeg = n.toInt.toNat := rfl
  have h1 := gr_le h
  omega
theorem gr_z0 {row : Nat → Int32} {n : Nat} (h : n = 0) : gr_D row n := ⟨fun i j a => by omega, fun i a => by omega⟩
theorem gr_s {row row' : Nat → Int32} {n n2 f : Int32} (h : gr_D row n.toNatClampNeg) (hne : ∀ i : Nat, i < n.toNatClampNeg → row i ≠ f) (e : row' = upd row n.toNatClampNeg f) (hf : (0 : Int) ≤ f.toInt) (hf2 : f.toInt ≤ 8) (hk : n2.toInt = n.toInt + 1) (h0 : (0 : Int) ≤ n.toInt) : gr_D row' n2.toNatClampNeg := by
  rw [cp_k hk h0, e]
  generalize n.toNatClampNeg = m at *
  refine ⟨fun i j a b q => ?_, fun i a => ?_⟩
  · unfold upd at q
    split at q <;> split at q
    · omega
    · rename_i e1 e2; exact absurd q.symm (hne j (by omega))
    · rename_i e1 e2; exact absurd q (hne i (by omega))
    · exact h.1 i j (by omega) (by omega) q
  · unfold upd; split
    · exact ⟨hf, hf2⟩
    · exact h.2 i (by omega)
/-- settled so far -/
def gr_K (row : Nat → Int32) (s k f n : Int32) : Prop := (s.toInt = -1 ∧ ∀ i : Nat, i < k.toNatClampNeg → row i ≠ f) ∨ ((0 : Int) ≤ s.toInt ∧ s.toInt < n.toInt)
theorem gr_K0 {row : Nat → Int32} {s k f n : Int32} (h : s.toInt = -1) (hk : k.toNatClampNeg = 0) : gr_K row s k f n := Or.inl ⟨h, fun i a => by omega⟩
theorem gr_Ks {row : Nat → Int32} {s k k2 f n x : Int32} (h : gr_K row s k f n) (ex : x = row k.toNatClampNeg) (hne : ¬ x = f) (hk : k2.toInt = k.toInt + 1) (h0 : (0 : Int) ≤ k.toInt) : gr_K row s k2 f n := by
  rcases h with h | h
  · refine Or.inl ⟨h.1, fun i a => ?_⟩
    rw [cp_k hk h0] at a
    by_cases e : i = k.toNatClampNeg
    · rw [e, ← ex]; exact hne
    · exact h.2 i (by omega)
  · exact Or.inr h
theorem gr_Kn {row : Nat → Int32} {s k f n : Int32} (h : gr_K row s k f n) (hs : s.toInt < 0) (hk : n.toInt ≤ k.toInt) : ∀ i : Nat, i < n.toNatClampNeg → row i ≠ f := by
  rcases h with h | h
  · intro i a
    have a1 : k.toNatClampNeg = k.toInt.toNat := rfl
    have a2 : n.toNatClampNeg = n.toInt.toNat := rfl
    exact h.2 i (by omega)
  · omega
theorem gr_Km {row : Nat → Int32} {s k f n : Int32} (h : gr_K row s k f n) (hs : s.toInt < 0) : s.toInt = -1 := by
  rcases h with h | h
  · exact h.1
  · omega
theorem gr_Kp {row : Nat → Int32} {s k f n : Int32} (h : gr_K row s k f n) (hs : (0 : Int) ≤ s.toInt) : s.toInt < n.toInt := by
  rcases h with h | h <;> omega
/-- no entry of the nine is gone or more -/
def tb_M (f : Nat → Int32) (g : Int) : Prop := ∀ i : Nat, i ≤ 8 → (-1 : Int) ≤ (f i).toInt ∧ (f i).toInt < g
theorem tb_f {f g : Nat → Int32} {k k2 v : Int32} (h : ∀ i : Nat, i < k.toNatClampNeg → (f i).toInt = -1) (e : g = upd f k.toNatClampNeg v) (hv : v.toInt = -1) (hk : k2.toInt = k.toInt + 1) (h0 : (0 : Int) ≤ k.toInt) : ∀ i : Nat, i < k2.toNatClampNeg → (g i).toInt = -1 := by
  intro i a
  rw [cp_k hk h0] at a
  rw [e]; unfold upd; split
  · exact hv
  · exact h i (by omega)
theorem tb_0 {f : Nat → Int32} {k : Int32} {g : Int} (h : ∀ i : Nat, i < k.toNatClampNeg → (f i).toInt = -1) (hk : (9 : Int) ≤ k.toInt) (hg : g = 0) : tb_M f g := by
  intro i a
  have a1 : k.toNatClampNeg = k.toInt.toNat := rfl
  have h1 := h i (by omega)
  omega
theorem tb_s {f f' : Nat → Int32} {j g g2 : Int32} (h : tb_M f g.toInt) (e : f' = upd f j.toNatClampNeg g) (hg : g2.toInt = g.toInt + 1) (h0 : (0 : Int) ≤ g.toInt) : tb_M f' g2.toInt := by
  intro i a
  rw [e]; unfold upd; split
  · omega
  · have h1 := h i a; omega
theorem tb_r {f : Nat → Int32} {j x : Int32} {g : Int} (h : tb_M f g) (ex : x = f j.toNatClampNeg) (h0 : (0 : Int) ≤ j.toInt) (h1 : j.toInt ≤ 8) : (-1 : Int) ≤ x.toInt ∧ x.toInt < g := by
  have a1 : j.toNatClampNeg = j.toInt.toNat := rfl
  rw [ex]; exact h _ (by omega)
theorem tb_c {t f p F y z w : Int32} (ht : t.toInt = 0) (ey : y.toInt = t.toInt * f.toInt) (ez : z.toInt = y.toInt + p.toInt) (ew : w.toInt = z.toInt % F.toInt) (h0 : (0 : Int) ≤ p.toInt) (hp : p.toInt < F.toInt) : w.toInt = p.toInt := by
  rw [ht, Int.zero_mul] at ey
  have e : z.toInt = p.toInt := by omega
  rw [ew, e]; exact Int.emod_eq_of_lt h0 hp
theorem bc_ok {F p c : Int} (h1 : 2 ≤ F) (h2 : F ≤ 9) (h3 : 0 ≤ p) (h4 : p < F) (hc : c = p * F + p) : c / (F * F) = 0 ∧ c / F % F = p ∧ c % F = p := by
  have h5 : c / F = p := by rcases (show F = 2 ∨ F = 3 ∨ F = 4 ∨ F = 5 ∨ F = 6 ∨ F = 7 ∨ F = 8 ∨ F = 9 by omega) with e | e | e | e | e | e | e | e <;> subst e <;> omega
  have h6 : c / (F * F) = 0 := by rcases (show F = 2 ∨ F = 3 ∨ F = 4 ∨ F = 5 ∨ F = 6 ∨ F = 7 ∨ F = 8 ∨ F = 9 by omega) with e | e | e | e | e | e | e | e <;> subst e <;> omega
  have h7 : c % F = p := by rcases (show F = 2 ∨ F = 3 ∨ F = 4 ∨ F = 5 ∨ F = 6 ∨ F = 7 ∨ F = 8 ∨ F = 9 by omega) with e | e | e | e | e | e | e | e <;> subst e <;> omega
  exact ⟨h6, by rw [h5]; exact Int.emod_eq_of_lt h3 h4, h7⟩
theorem lw_mod {x y : Int64} (hy : ¬ y = 0) : (x - x / y * y).toInt.natAbs < y.toInt.natAbs := by
  have hY : y.toInt ≠ 0 := fun h => hy (Int64.toInt_inj.mp (h.trans (by decide)))
  have e : (x - x / y * y).toInt = (x.toInt.tmod y.toInt).bmod (2 ^ 64) := by
    rw [Int64.toInt_sub, Int64.toInt_mul, Int64.toInt_div, Int.tmod_def, Int.sub_bmod_bmod, ← Int.sub_bmod_bmod, Int.bmod_mul_bmod, Int.sub_bmod_bmod, Int.mul_comm y.toInt]
  have h1 : (x.toInt.tmod y.toInt).natAbs = x.toInt.natAbs % y.toInt.natAbs := Int.natAbs_tmod _ _
  have h2 := Nat.mod_lt x.toInt.natAbs (show 0 < y.toInt.natAbs by omega)
  have h3 := Int64.le_toInt y
  have h4 := Int64.toInt_lt y
  rw [e, Int.bmod_eq_of_le (by omega) (by omega)]
  omega
theorem lw_b (y : Int64) : y.toInt.natAbs < 9223372036854775809 := by
  have h3 := Int64.le_toInt y
  have h4 := Int64.toInt_lt y
  omega
theorem sh_1 {y z : Int32} (e : z = 1 <<< (y &&& 31)) (h0 : (0 : Int) ≤ y.toInt) (h1 : y.toInt ≤ 9) : (1 : Int) ≤ z.toInt ∧ z.toInt ≤ 512 := by
  have q : ∀ k : Fin 10, (1 : Int) ≤ ((1 : Int32) <<< (Int32.ofNat k.val &&& 31)).toInt ∧ ((1 : Int32) <<< (Int32.ofNat k.val &&& 31)).toInt ≤ 512 := by decide
  have e2 : y = Int32.ofNat y.toInt.toNat := Int32.toInt_inj.mp (by rw [show (Int32.ofNat y.toInt.toNat).toInt = (y.toInt.toNat : Int) from nI_toInt (by omega)]; omega)
  rw [e, e2]; exact q ⟨y.toInt.toNat, by omega⟩
theorem tb_z {f : Nat → Int32} {n : Nat} (h : n = 0) : ∀ i : Nat, i < n → (f i).toInt = -1 := fun i a => by omega
theorem lf_s {code code2 r a : Int32} {F : Int} (h : code.toInt ≤ a.toInt * F + a.toInt) (hw : ∀ p : Int, 0 ≤ p → p < F → code.toInt = p * F + p → r.toInt = p) (hne : ¬ r = a) (h0 : 0 ≤ a.toInt) (h1 : a.toInt < F) (hc : code2.toInt = code.toInt + 1) : code2.toInt ≤ a.toInt * F + a.toInt := by
  have h2 : code.toInt ≠ a.toInt * F + a.toInt := fun e => hne (Int32.toInt_inj.mp (hw _ h0 h1 e))
  omega
theorem lf_b {a : Int32} {c F : Int} (h : c ≤ a.toInt * F + a.toInt) (h0 : 0 ≤ a.toInt) (h1 : a.toInt ≤ 8) (h2 : 0 ≤ F) (h3 : F ≤ 9) : c ≤ 80 := by
  have h4 : a.toInt * F ≤ 8 * 9 := Int.mul_le_mul h1 h3 h2 (by decide)
  omega
theorem lf_0 {a : Int32} {F : Int} (h0 : 0 ≤ a.toInt) (h2 : 0 ≤ F) : (0 : Int32).toInt ≤ a.toInt * F + a.toInt := by
  have h4 := Int.mul_nonneg h0 h2
  have h5 : (0 : Int32).toInt = 0 := by decide
  omega
end REF
end P225_ref
section P226_good
set_option maxRecDepth 20000 in
theorem gX8_begin_X8_watchAsTold : GoodIn wsX8_begin (wsV RX8 267 RX8 yX8_watchAsTold wsX8_watchAsTold) := goodIn_s _ [(3, 9), (15, 40)] rfl (by decide +kernel)
set_option maxRecDepth 20000 in
theorem gX8_begin_X8_copy : GoodIn wsX8_begin (va_wsS RX8 169 yX8_copy wsX8_copy) := goodIn_s _ [(12, 2), (6, 1), (14, 1)] rfl (by decide +kernel)
set_option maxRecDepth 20000 in
theorem gX8_minutesOn_X8_begin : GoodIn wsX8_minutesOn (wsV RX8 270 RX8 yX8_begin wsX8_begin) := goodIn_s _ [(2, 6), (1, 1), (8, 3), (5, 1), (11, 8), (49, 40)] rfl (by decide +kernel)
set_option maxRecDepth 20000 in
theorem gX8_minutesOn_X8_minuteOn : GoodIn wsX8_minutesOn (wsV RX8 273 RX8 yX8_minuteOn wsX8_minuteOn) := goodIn_s _ [(19, 3), (5, 1), (22, 2), (12, 1), (24, 4), (5, 1), (28, 9), (15, 1), (37, 4), (14, 1), (13, 1), (41, 48)] rfl (by decide +kernel)
set_option maxRecDepth 20000 in
theorem gX8_figure_X8_good : GoodIn wsX8_figure (wsV RX8 160 RX8 yX8_good wsX8_good) := goodIn_s _ [(3, 7), (22, 40)] rfl (by decide +kernel)
set_option maxRecDepth 20000 in
theorem gX8_figure_X8_isFigure : GoodIn wsX8_figure (wsV RX8 277 RX8 yX8_isFigure wsX8_isFigure) := goodIn_s _ [(10, 3), (6, 1), (13, 2), (1, 1), (15, 2), (6, 1), (17, 1), (22, 40)] rfl (by decide +kernel)
set_option maxRecDepth 20000 in
theorem gX8_figure_X8_in : GoodIn wsX8_figure (va_wsS RX8 142 yX8_in wsX8_in) := goodIn_s _ [(15, 2), (6, 1), (17, 1)] rfl (by decide +kernel)
set_option maxRecDepth 20000 in
theorem gX8_figure_X8_no : GoodIn wsX8_figure (wsV RX8 163 RX8 yX8_no wsX8_no) := goodIn_s _ [(18, 3), (6, 1), (21, 1), (9, 1), (22, 40)] rfl (by decide +kernel)
set_option maxRecDepth 20000 in
theorem gX8_watcher_X8_good : GoodIn wsX8_watcher (wsV RX8 160 RX8 yX8_good wsX8_good) := goodIn_s _ [(3, 7), (33, 40)] rfl (by decide +kernel)
set_option maxRecDepth 20000 in
theorem gX8_watcher_X8_isWatcher : GoodIn wsX8_watcher (wsV RX8 280 RX8 yX8_isWatcher wsX8_isWatcher) := goodIn_s _ [(10, 3), (6, 1), (13, 2), (1, 1), (15, 2), (6, 1), (17, 1), (33, 40)] rfl (by decide +kernel)
set_option maxRecDepth 20000 in
theorem gX8_watcher_X8_in : GoodIn wsX8_watcher (va_wsS RX8 142 yX8_in wsX8_in) := goodIn_s _ [(15, 2), (6, 1), (17, 1)] rfl (by decide +kernel)
set_option maxRecDepth 20000 in
theorem gX8_watcher_X8_no : GoodIn wsX8_watcher (wsV RX8 163 RX8 yX8_no wsX8_no) := goodIn_s _ [(18, 3), (6, 1), (21, 1), (9, 1), (33, 40)] rfl (by decide +kernel)
set_option maxRecDepth 20000 in
theorem gX8_watcher_X8_watchAsTold : GoodIn wsX8_watcher (wsV RX8 267 RX8 yX8_watchAsTold wsX8_watchAsTold) := goodIn_s _ [(22, 3), (6, 1), (25, 1), (1, 1), (26, 3), (33, 40)] rfl (by decide +kernel)
set_option maxRecDepth 20000 in
theorem gX8_watcher_X8_watcherAt : GoodIn wsX8_watcher (wsV RX8 242 RX8 yX8_watcherAt wsX8_watcherAt) := goodIn_s _ [(29, 3), (6, 1), (32, 1), (27, 1), (26, 1), (33, 40)] rfl (by decide +kernel)
set_option maxRecDepth 20000 in
theorem gX8_alive_X8_good : GoodIn wsX8_alive (wsV RX8 160 RX8 yX8_good wsX8_good) := goodIn_s _ [(3, 7), (14, 40)] rfl (by decide +kernel)
set_option maxRecDepth 20000 in
theorem gX8_alive_X8_no : GoodIn wsX8_alive (wsV RX8 163 RX8 yX8_no wsX8_no) := goodIn_s _ [(10, 3), (6, 1), (13, 1), (9, 1), (14, 40)] rfl (by decide +kernel)
set_option maxRecDepth 20000 in
theorem gX8_left_X8_good : GoodIn wsX8_left (wsV RX8 160 RX8 yX8_good wsX8_good) := goodIn_s _ [(4, 7), (15, 40)] rfl (by decide +kernel)
set_option maxRecDepth 20000 in
theorem gX8_left_X8_no : GoodIn wsX8_left (wsV RX8 163 RX8 yX8_no wsX8_no) := goodIn_s _ [(11, 3), (7, 1), (14, 1), (10, 1), (15, 40)] rfl (by decide +kernel)
set_option maxRecDepth 20000 in
theorem gX8_caught_X8_good : GoodIn wsX8_caught (wsV RX8 160 RX8 yX8_good wsX8_good) := goodIn_s _ [(3, 7), (14, 40)] rfl (by decide +kernel)
set_option maxRecDepth 20000 in
theorem gX8_caught_X8_no : GoodIn wsX8_caught (wsV RX8 163 RX8 yX8_no wsX8_no) := goodIn_s _ [(10, 3), (6, 1), (13, 1), (9, 1), (14, 40)] rfl (by decide +kernel)
set_option maxRecDepth 20000 in
theorem gX8_goRound_X8_nextOf : GoodIn wsX8_goRound (wsV RX8 264 RX8 yX8_nextOf wsX8_nextOf) := goodIn_s _ [(5, 46)] rfl (by decide +kernel)
set_option maxRecDepth 20000 in
theorem gX8_turnOf_X8_good : GoodIn wsX8_turnOf (wsV RX8 160 RX8 yX8_good wsX8_good) := goodIn_s _ [(3, 7), (38, 40)] rfl (by decide +kernel)
set_option maxRecDepth 20000 in
theorem gX8_turnOf_X8_in : GoodIn wsX8_turnOf (va_wsS RX8 142 yX8_in wsX8_in) := goodIn_s _ [(10, 2), (6, 1), (12, 1)] rfl (by decide +kernel)
set_option maxRecDepth 20000 in
theorem gX8_turnOf_X8_why : GoodIn wsX8_turnOf (wsV RX8 290 RX8 yX8_why wsX8_why) := goodIn_s _ [(13, 3), (6, 1), (16, 1)] rfl (by decide +kernel)
set_option maxRecDepth 20000 in
theorem gX8_turnOf_X8_no : GoodIn wsX8_turnOf (wsV RX8 163 RX8 yX8_no wsX8_no) := goodIn_s _ [(17, 3), (6, 1), (20, 1), (9, 1), (38, 40)] rfl (by decide +kernel)
set_option maxRecDepth 20000 in
theorem gX8_turnOf_X8_goRound : GoodIn wsX8_turnOf (wsV RX8 294 RX8 yX8_goRound wsX8_goRound) := goodIn_s _ [(21, 3), (6, 1), (24, 8), (6, 1), (32, 2), (38, 40)] rfl (by decide +kernel)
set_option maxRecDepth 20000 in
theorem gX8_turnOf_X8_turnAt : GoodIn wsX8_turnOf (wsV RX8 297 RX8 yX8_turnAt wsX8_turnAt) := goodIn_s _ [(34, 3), (6, 1), (37, 1), (27, 1), (26, 1), (28, 1), (38, 40)] rfl (by decide +kernel)
set_option maxRecDepth 20000 in
theorem gX8_turnIn_X8_good : GoodIn wsX8_turnIn (wsV RX8 160 RX8 yX8_good wsX8_good) := goodIn_s _ [(4, 7), (33, 40)] rfl (by decide +kernel)
set_option maxRecDepth 20000 in
theorem gX8_turnIn_X8_isFigure : GoodIn wsX8_turnIn (wsV RX8 277 RX8 yX8_isFigure wsX8_isFigure) := goodIn_s _ [(11, 3), (7, 1), (14, 5), (7, 1), (19, 1), (33, 40)] rfl (by decide +kernel)
set_option maxRecDepth 20000 in
theorem gX8_turnIn_X8_no : GoodIn wsX8_turnIn (wsV RX8 163 RX8 yX8_no wsX8_no) := goodIn_s _ [(20, 3), (7, 1), (23, 1), (10, 1), (33, 40)] rfl (by decide +kernel)
end P226_good
section P226_good_1
set_option maxRecDepth 20000 in
theorem gX8_turnIn_X8_goRound : GoodIn wsX8_turnIn (wsV RX8 294 RX8 yX8_goRound wsX8_goRound) := goodIn_s _ [(24, 3), (7, 1), (27, 2), (1, 1), (3, 1), (2, 1), (29, 3), (7, 1), (32, 1), (16, 1), (33, 40)] rfl (by decide +kernel)
set_option maxRecDepth 20000 in
theorem gX8_settles_X8_good : GoodIn wsX8_settles (wsV RX8 160 RX8 yX8_good wsX8_good) := goodIn_s _ [(3, 7), (26, 40)] rfl (by decide +kernel)
set_option maxRecDepth 20000 in
theorem gX8_settles_X8_no : GoodIn wsX8_settles (wsV RX8 163 RX8 yX8_no wsX8_no) := goodIn_s _ [(10, 3), (6, 1), (13, 1), (9, 1), (26, 40)] rfl (by decide +kernel)
set_option maxRecDepth 20000 in
theorem gX8_settles_X8_goRound : GoodIn wsX8_settles (wsV RX8 294 RX8 yX8_goRound wsX8_goRound) := goodIn_s _ [(14, 3), (6, 1), (17, 2), (2, 1), (19, 5), (6, 1), (24, 42)] rfl (by decide +kernel)
set_option maxRecDepth 20000 in
theorem gX8_round_X8_good : GoodIn wsX8_round (wsV RX8 160 RX8 yX8_good wsX8_good) := goodIn_s _ [(3, 7), (26, 40)] rfl (by decide +kernel)
set_option maxRecDepth 20000 in
theorem gX8_round_X8_no : GoodIn wsX8_round (wsV RX8 163 RX8 yX8_no wsX8_no) := goodIn_s _ [(10, 3), (6, 1), (13, 1), (9, 1), (26, 40)] rfl (by decide +kernel)
set_option maxRecDepth 20000 in
theorem gX8_round_X8_goRound : GoodIn wsX8_round (wsV RX8 294 RX8 yX8_goRound wsX8_goRound) := goodIn_s _ [(14, 3), (6, 1), (17, 4), (2, 1), (21, 3), (6, 1), (24, 42)] rfl (by decide +kernel)
set_option maxRecDepth 20000 in
theorem gX8_called_X8_good : GoodIn wsX8_called (wsV RX8 160 RX8 yX8_good wsX8_good) := goodIn_s _ [(5, 7), (26, 40)] rfl (by decide +kernel)
set_option maxRecDepth 20000 in
theorem gX8_called_X8_no : GoodIn wsX8_called (wsV RX8 163 RX8 yX8_no wsX8_no) := goodIn_s _ [(12, 3), (8, 1), (15, 1), (11, 1), (26, 40)] rfl (by decide +kernel)
set_option maxRecDepth 20000 in
theorem gX8_called_X8_goRound : GoodIn wsX8_called (wsV RX8 294 RX8 yX8_goRound wsX8_goRound) := goodIn_s _ [(16, 3), (8, 1), (19, 2), (2, 1), (4, 1), (3, 1), (21, 3), (8, 1), (24, 42)] rfl (by decide +kernel)
set_option maxRecDepth 20000 in
theorem gX8_minutesOf_X8_good : GoodIn wsX8_minutesOf (wsV RX8 160 RX8 yX8_good wsX8_good) := goodIn_s _ [(3, 7), (41, 40)] rfl (by decide +kernel)
set_option maxRecDepth 20000 in
theorem gX8_minutesOf_X8_isFigure : GoodIn wsX8_minutesOf (wsV RX8 277 RX8 yX8_isFigure wsX8_isFigure) := goodIn_s _ [(10, 3), (6, 1), (13, 2), (2, 1), (15, 2), (6, 1), (17, 1), (41, 40)] rfl (by decide +kernel)
set_option maxRecDepth 20000 in
theorem gX8_minutesOf_X8_in : GoodIn wsX8_minutesOf (va_wsS RX8 142 yX8_in wsX8_in) := goodIn_s _ [(15, 2), (6, 1), (17, 1)] rfl (by decide +kernel)
set_option maxRecDepth 20000 in
theorem gX8_minutesOf_X8_why : GoodIn wsX8_minutesOf (wsV RX8 290 RX8 yX8_why wsX8_why) := goodIn_s _ [(18, 3), (6, 1), (21, 1)] rfl (by decide +kernel)
set_option maxRecDepth 20000 in
theorem gX8_minutesOf_X8_no : GoodIn wsX8_minutesOf (wsV RX8 163 RX8 yX8_no wsX8_no) := goodIn_s _ [(22, 3), (6, 1), (25, 1), (9, 1), (41, 40)] rfl (by decide +kernel)
set_option maxRecDepth 20000 in
theorem gX8_minutesOf_X8_goRound : GoodIn wsX8_minutesOf (wsV RX8 294 RX8 yX8_goRound wsX8_goRound) := goodIn_s _ [(26, 3), (6, 1), (29, 1), (1, 1), (30, 6), (6, 1), (36, 1), (2, 1), (41, 40)] rfl (by decide +kernel)
set_option maxRecDepth 20000 in
theorem gX8_minutesOf_X8_turnAt : GoodIn wsX8_minutesOf (wsV RX8 297 RX8 yX8_turnAt wsX8_turnAt) := goodIn_s _ [(37, 3), (6, 1), (40, 1), (31, 1), (30, 1), (32, 1), (41, 40)] rfl (by decide +kernel)
set_option maxRecDepth 20000 in
theorem gX8_aheadWhy_X8_in : GoodIn wsX8_aheadWhy (va_wsS RX8 142 yX8_in wsX8_in) := goodIn_s _ [(1, 4)] rfl (by decide +kernel)
set_option maxRecDepth 20000 in
theorem gX8_aheadWhy_X8_why : GoodIn wsX8_aheadWhy (wsV RX8 290 RX8 yX8_why wsX8_why) := goodIn_s _ [(5, 3), (3, 1), (8, 1)] rfl (by decide +kernel)
set_option maxRecDepth 20000 in
theorem gX8_place_X8_good : GoodIn wsX8_place (wsV RX8 160 RX8 yX8_good wsX8_good) := goodIn_s _ [(2, 7), (79, 40)] rfl (by decide +kernel)
set_option maxRecDepth 20000 in
theorem gX8_place_X8_isFigure : GoodIn wsX8_place (wsV RX8 277 RX8 yX8_isFigure wsX8_isFigure) := goodIn_s _ [(9, 3), (5, 1), (12, 5), (5, 1), (17, 1), (79, 40)] rfl (by decide +kernel)
set_option maxRecDepth 20000 in
theorem gX8_place_X8_aheadWhy : GoodIn wsX8_place (wsV RX8 300 RX8 yX8_aheadWhy wsX8_aheadWhy) := goodIn_s _ [(18, 3), (5, 1), (21, 1), (15, 2), (5, 1), (17, 1), (22, 4)] rfl (by decide +kernel)
set_option maxRecDepth 20000 in
theorem gX8_place_X8_no : GoodIn wsX8_place (wsV RX8 163 RX8 yX8_no wsX8_no) := goodIn_s _ [(26, 3), (5, 1), (29, 1), (8, 1), (79, 40)] rfl (by decide +kernel)
set_option maxRecDepth 20000 in
theorem gX8_place_X8_minutesOn : GoodIn wsX8_place (wsV RX8 304 RX8 yX8_minutesOn wsX8_minutesOn) := goodIn_s _ [(30, 3), (5, 1), (33, 1), (1, 1), (34, 3), (5, 1), (37, 6), (14, 1), (43, 76)] rfl (by decide +kernel)
set_option maxRecDepth 20000 in
theorem gX8_watch_X8_good : GoodIn wsX8_watch (wsV RX8 160 RX8 yX8_good wsX8_good) := goodIn_s _ [(2, 7), (41, 40)] rfl (by decide +kernel)
set_option maxRecDepth 20000 in
theorem gX8_watch_X8_isWatcher : GoodIn wsX8_watch (wsV RX8 280 RX8 yX8_isWatcher wsX8_isWatcher) := goodIn_s _ [(9, 3), (5, 1), (12, 5), (5, 1), (17, 1), (41, 40)] rfl (by decide +kernel)
set_option maxRecDepth 20000 in
theorem gX8_watch_X8_aheadWhy : GoodIn wsX8_watch (wsV RX8 300 RX8 yX8_aheadWhy wsX8_aheadWhy) := goodIn_s _ [(18, 3), (5, 1), (21, 1), (15, 2), (5, 1), (17, 1), (22, 4)] rfl (by decide +kernel)
set_option maxRecDepth 20000 in
theorem gX8_watch_X8_no : GoodIn wsX8_watch (wsV RX8 163 RX8 yX8_no wsX8_no) := goodIn_s _ [(26, 3), (5, 1), (29, 1), (8, 1), (41, 40)] rfl (by decide +kernel)
set_option maxRecDepth 20000 in
theorem gX8_watch_X8_watchAsTold : GoodIn wsX8_watch (wsV RX8 267 RX8 yX8_watchAsTold wsX8_watchAsTold) := goodIn_s _ [(30, 3), (5, 1), (33, 1), (14, 1), (34, 3), (41, 40)] rfl (by decide +kernel)
set_option maxRecDepth 20000 in
theorem gX8_watch_X8_watcherAt : GoodIn wsX8_watch (wsV RX8 242 RX8 yX8_watcherAt wsX8_watcherAt) := goodIn_s _ [(37, 3), (5, 1), (40, 1), (35, 1), (34, 1), (41, 40)] rfl (by decide +kernel)
set_option maxRecDepth 20000 in
theorem gX8_gone_X8_good : GoodIn wsX8_gone (wsV RX8 160 RX8 yX8_good wsX8_good) := goodIn_s _ [(3, 7), (75, 40)] rfl (by decide +kernel)
set_option maxRecDepth 20000 in
theorem gX8_gone_X8_aheadWhy : GoodIn wsX8_gone (wsV RX8 300 RX8 yX8_aheadWhy wsX8_aheadWhy) := goodIn_s _ [(10, 3), (6, 1), (13, 3), (6, 1), (16, 5)] rfl (by decide +kernel)
set_option maxRecDepth 20000 in
theorem gX8_gone_X8_no : GoodIn wsX8_gone (wsV RX8 163 RX8 yX8_no wsX8_no) := goodIn_s _ [(21, 3), (6, 1), (24, 1), (9, 1), (75, 40)] rfl (by decide +kernel)
set_option maxRecDepth 20000 in
theorem gX8_gone_X8_minutesOn : GoodIn wsX8_gone (wsV RX8 304 RX8 yX8_minutesOn wsX8_minutesOn) := goodIn_s _ [(25, 3), (6, 1), (28, 1), (2, 1), (29, 3), (6, 1), (32, 83)] rfl (by decide +kernel)
set_option maxRecDepth 20000 in
theorem gX8_nextGone_X8_minuteOn : GoodIn wsX8_nextGone (wsV RX8 273 RX8 yX8_minuteOn wsX8_minuteOn) := goodIn_s _ [(2, 11), (5, 1), (13, 64)] rfl (by decide +kernel)
set_option maxRecDepth 20000 in
theorem gX8_stairs_X8_good : GoodIn wsX8_stairs (wsV RX8 160 RX8 yX8_good wsX8_good) := goodIn_s _ [(2, 7), (64, 40)] rfl (by decide +kernel)
set_option maxRecDepth 20000 in
theorem gX8_stairs_X8_no : GoodIn wsX8_stairs (wsV RX8 163 RX8 yX8_no wsX8_no) := goodIn_s _ [(9, 3), (5, 1), (12, 1), (8, 1), (64, 40)] rfl (by decide +kernel)
set_option maxRecDepth 20000 in
theorem gX8_stairs_X8_begin : GoodIn wsX8_stairs (wsV RX8 270 RX8 yX8_begin wsX8_begin) := goodIn_s _ [(13, 3), (5, 1), (16, 6), (5, 1), (22, 8), (64, 40)] rfl (by decide +kernel)
set_option maxRecDepth 20000 in
theorem gX8_stairs_X8_nextGone : GoodIn wsX8_stairs (wsV RX8 307 RX8 yX8_nextGone wsX8_nextGone) := goodIn_s _ [(30, 3), (5, 1), (33, 1), (18, 1), (34, 3), (5, 1), (37, 2), (23, 1), (39, 13), (26, 1), (52, 4), (25, 1), (24, 1), (56, 48)] rfl (by decide +kernel)
set_option maxRecDepth 20000 in
theorem gX8_catches_X8_good : GoodIn wsX8_catches (wsV RX8 160 RX8 yX8_good wsX8_good) := goodIn_s _ [(4, 7), (75, 40)] rfl (by decide +kernel)
set_option maxRecDepth 20000 in
theorem gX8_catches_X8_aheadWhy : GoodIn wsX8_catches (wsV RX8 300 RX8 yX8_aheadWhy wsX8_aheadWhy) := goodIn_s _ [(11, 3), (7, 1), (14, 3), (7, 1), (17, 5)] rfl (by decide +kernel)
set_option maxRecDepth 20000 in
theorem gX8_catches_X8_no : GoodIn wsX8_catches (wsV RX8 163 RX8 yX8_no wsX8_no) := goodIn_s _ [(22, 3), (7, 1), (25, 1), (10, 1), (75, 40)] rfl (by decide +kernel)
set_option maxRecDepth 20000 in
theorem gX8_catches_X8_minutesOn : GoodIn wsX8_catches (wsV RX8 304 RX8 yX8_minutesOn wsX8_minutesOn) := goodIn_s _ [(26, 3), (7, 1), (29, 1), (2, 1), (30, 3), (7, 1), (33, 1), (3, 1), (34, 81)] rfl (by decide +kernel)
set_option maxRecDepth 20000 in
theorem gX8_heard_X8_good : GoodIn wsX8_heard (wsV RX8 160 RX8 yX8_good wsX8_good) := goodIn_s _ [(2, 7), (75, 40)] rfl (by decide +kernel)
set_option maxRecDepth 20000 in
theorem gX8_heard_X8_isFigure : GoodIn wsX8_heard (wsV RX8 277 RX8 yX8_isFigure wsX8_isFigure) := goodIn_s _ [(9, 3), (5, 1), (12, 5), (5, 1), (17, 1), (75, 40)] rfl (by decide +kernel)
set_option maxRecDepth 20000 in
theorem gX8_heard_X8_aheadWhy : GoodIn wsX8_heard (wsV RX8 300 RX8 yX8_aheadWhy wsX8_aheadWhy) := goodIn_s _ [(18, 3), (5, 1), (21, 1), (15, 2), (5, 1), (17, 1), (22, 4)] rfl (by decide +kernel)
set_option maxRecDepth 20000 in
theorem gX8_heard_X8_no : GoodIn wsX8_heard (wsV RX8 163 RX8 yX8_no wsX8_no) := goodIn_s _ [(26, 3), (5, 1), (29, 1), (8, 1), (75, 40)] rfl (by decide +kernel)
set_option maxRecDepth 20000 in
theorem gX8_heard_X8_begin : GoodIn wsX8_heard (wsV RX8 270 RX8 yX8_begin wsX8_begin) := goodIn_s _ [(30, 3), (5, 1), (33, 2), (1, 1), (35, 3), (5, 1), (38, 1), (14, 1), (39, 6), (75, 40)] rfl (by decide +kernel)
set_option maxRecDepth 20000 in
theorem gX8_heard_X8_minuteOn : GoodIn wsX8_heard (wsV RX8 273 RX8 yX8_minuteOn wsX8_minuteOn) := goodIn_s _ [(45, 3), (5, 1), (48, 2), (14, 1), (50, 4), (5, 1), (54, 9), (41, 1), (63, 4), (40, 1), (39, 1), (67, 48)] rfl (by decide +kernel)
set_option maxRecDepth 20000 in
theorem gX8_allIn_X8_good : GoodIn wsX8_allIn (wsV RX8 160 RX8 yX8_good wsX8_good) := goodIn_s _ [(3, 7), (67, 40)] rfl (by decide +kernel)
set_option maxRecDepth 20000 in
theorem gX8_allIn_X8_isFigure : GoodIn wsX8_allIn (wsV RX8 277 RX8 yX8_isFigure wsX8_isFigure) := goodIn_s _ [(10, 3), (6, 1), (13, 2), (1, 1), (15, 2), (6, 1), (17, 1), (67, 40)] rfl (by decide +kernel)
set_option maxRecDepth 20000 in
theorem gX8_allIn_X8_no : GoodIn wsX8_allIn (wsV RX8 163 RX8 yX8_no wsX8_no) := goodIn_s _ [(18, 3), (6, 1), (21, 1), (9, 1), (67, 40)] rfl (by decide +kernel)
set_option maxRecDepth 20000 in
theorem gX8_allIn_X8_begin : GoodIn wsX8_allIn (wsV RX8 270 RX8 yX8_begin wsX8_begin) := goodIn_s _ [(22, 3), (6, 1), (25, 2), (2, 1), (27, 3), (6, 1), (30, 1), (1, 1), (31, 6), (67, 40)] rfl (by decide +kernel)
set_option maxRecDepth 20000 in
theorem gX8_allIn_X8_minuteOn : GoodIn wsX8_allIn (wsV RX8 273 RX8 yX8_minuteOn wsX8_minuteOn) := goodIn_s _ [(37, 3), (6, 1), (40, 2), (1, 1), (42, 4), (6, 1), (46, 9), (33, 1), (55, 4), (32, 1), (31, 1), (59, 48)] rfl (by decide +kernel)
set_option maxRecDepth 20000 in
theorem gX8_meets_X8_good : GoodIn wsX8_meets (wsV RX8 160 RX8 yX8_good wsX8_good) := goodIn_s _ [(3, 7), (67, 40)] rfl (by decide +kernel)
set_option maxRecDepth 20000 in
theorem gX8_meets_X8_isWatcher : GoodIn wsX8_meets (wsV RX8 280 RX8 yX8_isWatcher wsX8_isWatcher) := goodIn_s _ [(10, 3), (6, 1), (13, 5), (6, 1), (18, 1), (67, 40)] rfl (by decide +kernel)
set_option maxRecDepth 20000 in
theorem gX8_meets_X8_no : GoodIn wsX8_meets (wsV RX8 163 RX8 yX8_no wsX8_no) := goodIn_s _ [(19, 3), (6, 1), (22, 1), (9, 1), (67, 40)] rfl (by decide +kernel)
set_option maxRecDepth 20000 in
theorem gX8_meets_X8_begin : GoodIn wsX8_meets (wsV RX8 270 RX8 yX8_begin wsX8_begin) := goodIn_s _ [(23, 3), (6, 1), (26, 2), (1, 1), (28, 3), (6, 1), (31, 1), (15, 1), (32, 6), (67, 40)] rfl (by decide +kernel)
set_option maxRecDepth 20000 in
theorem gX8_meets_X8_watcherAt : GoodIn wsX8_meets (wsV RX8 242 RX8 yX8_watcherAt wsX8_watcherAt) := goodIn_s _ [(38, 3), (6, 1), (41, 1), (33, 1), (32, 1), (67, 40)] rfl (by decide +kernel)
set_option maxRecDepth 20000 in
theorem gX8_meets_X8_minuteOn : GoodIn wsX8_meets (wsV RX8 273 RX8 yX8_minuteOn wsX8_minuteOn) := goodIn_s _ [(42, 3), (6, 1), (45, 2), (15, 1), (47, 1), (2, 1), (48, 2), (6, 1), (50, 9), (34, 1), (38, 4), (33, 1), (32, 1), (59, 48)] rfl (by decide +kernel)
set_option maxRecDepth 20000 in
theorem gX8_crowd_X8_good : GoodIn wsX8_crowd (wsV RX8 160 RX8 yX8_good wsX8_good) := goodIn_s _ [(4, 7), (75, 40)] rfl (by decide +kernel)
set_option maxRecDepth 20000 in
theorem gX8_crowd_X8_aheadWhy : GoodIn wsX8_crowd (wsV RX8 300 RX8 yX8_aheadWhy wsX8_aheadWhy) := goodIn_s _ [(11, 3), (7, 1), (14, 3), (7, 1), (17, 5)] rfl (by decide +kernel)
set_option maxRecDepth 20000 in
theorem gX8_crowd_X8_no : GoodIn wsX8_crowd (wsV RX8 163 RX8 yX8_no wsX8_no) := goodIn_s _ [(22, 3), (7, 1), (25, 1), (10, 1), (75, 40)] rfl (by decide +kernel)
set_option maxRecDepth 20000 in
theorem gX8_crowd_X8_minutesOn : GoodIn wsX8_crowd (wsV RX8 304 RX8 yX8_minutesOn wsX8_minutesOn) := goodIn_s _ [(26, 3), (7, 1), (29, 1), (3, 1), (30, 3), (7, 1), (33, 6), (2, 1), (39, 76)] rfl (by decide +kernel)
set_option maxRecDepth 20000 in
theorem gX8_crowd_X8_hasBit : GoodIn wsX8_crowd (va_wsS RX8 238 yX8_hasBit wsX8_hasBit) := goodIn_s _ [(52, 2), (7, 1), (54, 1)] rfl (by decide +kernel)
set_option maxRecDepth 20000 in
theorem gX8_farthest_X8_good : GoodIn wsX8_farthest (wsV RX8 160 RX8 yX8_good wsX8_good) := goodIn_s _ [(4, 7), (78, 40)] rfl (by decide +kernel)
set_option maxRecDepth 20000 in
theorem gX8_farthest_X8_aheadWhy : GoodIn wsX8_farthest (wsV RX8 300 RX8 yX8_aheadWhy wsX8_aheadWhy) := goodIn_s _ [(11, 3), (7, 1), (14, 3), (7, 1), (17, 5)] rfl (by decide +kernel)
set_option maxRecDepth 20000 in
theorem gX8_farthest_X8_no : GoodIn wsX8_farthest (wsV RX8 163 RX8 yX8_no wsX8_no) := goodIn_s _ [(22, 3), (7, 1), (25, 1), (10, 1), (78, 40)] rfl (by decide +kernel)
set_option maxRecDepth 20000 in
theorem gX8_farthest_X8_minutesOn : GoodIn wsX8_farthest (wsV RX8 304 RX8 yX8_minutesOn wsX8_minutesOn) := goodIn_s _ [(26, 3), (7, 1), (29, 1), (3, 1), (30, 3), (7, 1), (33, 6), (2, 1), (39, 36), (78, 40)] rfl (by decide +kernel)
set_option maxRecDepth 20000 in
theorem gX8_farthest_X8_between : GoodIn wsX8_farthest (va_wsS RX8 310 yX8_between wsX8_between) := goodIn_s _ [(75, 2), (7, 1), (77, 1)] rfl (by decide +kernel)
set_option maxRecDepth 20000 in
theorem gX8_nearBy_X8_good : GoodIn wsX8_nearBy (wsV RX8 160 RX8 yX8_good wsX8_good) := goodIn_s _ [(2, 7), (75, 40)] rfl (by decide +kernel)
set_option maxRecDepth 20000 in
theorem gX8_nearBy_X8_isFigure : GoodIn wsX8_nearBy (wsV RX8 277 RX8 yX8_isFigure wsX8_isFigure) := goodIn_s _ [(9, 3), (5, 1), (12, 5), (5, 1), (17, 1), (75, 40)] rfl (by decide +kernel)
set_option maxRecDepth 20000 in
theorem gX8_nearBy_X8_aheadWhy : GoodIn wsX8_nearBy (wsV RX8 300 RX8 yX8_aheadWhy wsX8_aheadWhy) := goodIn_s _ [(18, 3), (5, 1), (21, 1), (15, 2), (5, 1), (17, 1), (22, 4)] rfl (by decide +kernel)
set_option maxRecDepth 20000 in
theorem gX8_nearBy_X8_no : GoodIn wsX8_nearBy (wsV RX8 163 RX8 yX8_no wsX8_no) := goodIn_s _ [(26, 3), (5, 1), (29, 1), (8, 1), (75, 40)] rfl (by decide +kernel)
set_option maxRecDepth 20000 in
theorem gX8_nearBy_X8_begin : GoodIn wsX8_nearBy (wsV RX8 270 RX8 yX8_begin wsX8_begin) := goodIn_s _ [(30, 3), (5, 1), (33, 2), (1, 1), (35, 3), (5, 1), (38, 1), (14, 1), (39, 6), (75, 40)] rfl (by decide +kernel)
set_option maxRecDepth 20000 in
theorem gX8_nearBy_X8_minuteOn : GoodIn wsX8_nearBy (wsV RX8 273 RX8 yX8_minuteOn wsX8_minuteOn) := goodIn_s _ [(45, 3), (5, 1), (48, 2), (14, 1), (50, 4), (5, 1), (54, 9), (41, 1), (63, 4), (40, 1), (39, 1), (67, 48)] rfl (by decide +kernel)
set_option maxRecDepth 20000 in
theorem gX8_nearBy_X8_hasBit : GoodIn wsX8_nearBy (va_wsS RX8 238 yX8_hasBit wsX8_hasBit) := goodIn_s _ [(52, 2), (5, 1), (54, 1)] rfl (by decide +kernel)
set_option maxRecDepth 20000 in
theorem gX8_nearBy_X8_isWatched : GoodIn wsX8_nearBy (wsV RX8 245 RX8 yX8_isWatched wsX8_isWatched) := goodIn_s _ [(59, 3), (5, 1), (62, 1), (41, 1), (14, 1), (52, 2), (5, 1), (54, 1), (63, 4), (40, 1), (39, 1), (75, 40)] rfl (by decide +kernel)
set_option maxRecDepth 20000 in
theorem gX8_spoken_X8_good : GoodIn wsX8_spoken (wsV RX8 160 RX8 yX8_good wsX8_good) := goodIn_s _ [(4, 7), (75, 40)] rfl (by decide +kernel)
set_option maxRecDepth 20000 in
theorem gX8_spoken_X8_isFigure : GoodIn wsX8_spoken (wsV RX8 277 RX8 yX8_isFigure wsX8_isFigure) := goodIn_s _ [(11, 3), (7, 1), (14, 5), (7, 1), (19, 1), (75, 40)] rfl (by decide +kernel)
set_option maxRecDepth 20000 in
theorem gX8_spoken_X8_aheadWhy : GoodIn wsX8_spoken (wsV RX8 300 RX8 yX8_aheadWhy wsX8_aheadWhy) := goodIn_s _ [(20, 3), (7, 1), (23, 1), (17, 2), (7, 1), (19, 1), (24, 4)] rfl (by decide +kernel)
set_option maxRecDepth 20000 in
theorem gX8_spoken_X8_no : GoodIn wsX8_spoken (wsV RX8 163 RX8 yX8_no wsX8_no) := goodIn_s _ [(28, 3), (7, 1), (31, 1), (10, 1), (75, 40)] rfl (by decide +kernel)
set_option maxRecDepth 20000 in
theorem gX8_spoken_X8_begin : GoodIn wsX8_spoken (wsV RX8 270 RX8 yX8_begin wsX8_begin) := goodIn_s _ [(32, 3), (7, 1), (35, 2), (1, 1), (37, 3), (7, 1), (40, 1), (16, 1), (41, 6), (75, 40)] rfl (by decide +kernel)
set_option maxRecDepth 20000 in
theorem gX8_spoken_X8_minuteOn : GoodIn wsX8_spoken (wsV RX8 273 RX8 yX8_minuteOn wsX8_minuteOn) := goodIn_s _ [(47, 3), (7, 1), (50, 1), (3, 1), (16, 1), (2, 1), (51, 3), (7, 1), (54, 9), (43, 1), (63, 4), (42, 1), (41, 1), (67, 48)] rfl (by decide +kernel)
set_option maxRecDepth 20000 in
theorem gX8_windBest_X8_good : GoodIn wsX8_windBest (wsV RX8 160 RX8 yX8_good wsX8_good) := goodIn_s _ [(4, 7), (64, 40)] rfl (by decide +kernel)
set_option maxRecDepth 20000 in
theorem gX8_windBest_X8_no : GoodIn wsX8_windBest (wsV RX8 163 RX8 yX8_no wsX8_no) := goodIn_s _ [(11, 3), (7, 1), (14, 1), (10, 1), (64, 40)] rfl (by decide +kernel)
set_option maxRecDepth 20000 in
theorem gX8_windBest_X8_begin : GoodIn wsX8_windBest (wsV RX8 270 RX8 yX8_begin wsX8_begin) := goodIn_s _ [(15, 3), (7, 1), (18, 2), (3, 1), (20, 3), (7, 1), (23, 1), (2, 1), (24, 6), (64, 40)] rfl (by decide +kernel)
set_option maxRecDepth 20000 in
theorem gX8_windBest_X8_nextGone : GoodIn wsX8_windBest (wsV RX8 307 RX8 yX8_nextGone wsX8_nextGone) := goodIn_s _ [(30, 3), (7, 1), (33, 1), (3, 1), (34, 3), (7, 1), (37, 2), (2, 1), (39, 13), (26, 1), (52, 4), (25, 1), (24, 1), (56, 48)] rfl (by decide +kernel)
set_option maxRecDepth 20000 in
theorem gX8_patrol_X8_good : GoodIn wsX8_patrol (wsV RX8 160 RX8 yX8_good wsX8_good) := goodIn_s _ [(6, 7), (75, 40)] rfl (by decide +kernel)
set_option maxRecDepth 20000 in
theorem gX8_patrol_X8_isWatcher : GoodIn wsX8_patrol (wsV RX8 280 RX8 yX8_isWatcher wsX8_isWatcher) := goodIn_s _ [(13, 3), (9, 1), (16, 2), (2, 1), (18, 2), (9, 1), (20, 1), (75, 40)] rfl (by decide +kernel)
set_option maxRecDepth 20000 in
theorem gX8_patrol_X8_in : GoodIn wsX8_patrol (va_wsS RX8 142 yX8_in wsX8_in) := goodIn_s _ [(18, 2), (9, 1), (20, 1)] rfl (by decide +kernel)
set_option maxRecDepth 20000 in
theorem gX8_patrol_X8_why : GoodIn wsX8_patrol (wsV RX8 290 RX8 yX8_why wsX8_why) := goodIn_s _ [(21, 3), (9, 1), (24, 1)] rfl (by decide +kernel)
set_option maxRecDepth 20000 in
theorem gX8_patrol_X8_no : GoodIn wsX8_patrol (wsV RX8 163 RX8 yX8_no wsX8_no) := goodIn_s _ [(25, 3), (9, 1), (28, 1), (12, 1), (75, 40)] rfl (by decide +kernel)
set_option maxRecDepth 20000 in
theorem gX8_patrol_X8_begin : GoodIn wsX8_patrol (wsV RX8 270 RX8 yX8_begin wsX8_begin) := goodIn_s _ [(29, 3), (9, 1), (32, 2), (5, 1), (34, 3), (9, 1), (37, 1), (2, 3), (38, 4), (75, 40)] rfl (by decide +kernel)
set_option maxRecDepth 20000 in
theorem gX8_patrol_X8_minuteOn : GoodIn wsX8_patrol (wsV RX8 273 RX8 yX8_minuteOn wsX8_minuteOn) := goodIn_s _ [(42, 3), (9, 1), (45, 2), (2, 1), (47, 4), (9, 1), (51, 9), (38, 1), (60, 4), (4, 1), (3, 1), (64, 8), (75, 40)] rfl (by decide +kernel)
set_option maxRecDepth 20000 in
theorem gX8_patrol_X8_ones : GoodIn wsX8_patrol (va_wsS RX8 314 yX8_ones wsX8_ones) := goodIn_s _ [(72, 2), (9, 1), (74, 1)] rfl (by decide +kernel)
set_option maxRecDepth 20000 in
theorem gX8_layRoute_X8_begin : GoodIn wsX8_layRoute (wsV RX8 270 RX8 yX8_begin wsX8_begin) := goodIn_s _ [(6, 6), (1, 1), (12, 3), (9, 1), (15, 1), (5, 1), (16, 6), (58, 40)] rfl (by decide +kernel)
set_option maxRecDepth 20000 in
theorem gX8_layRoute_X8_minuteOn : GoodIn wsX8_layRoute (wsV RX8 273 RX8 yX8_minuteOn wsX8_minuteOn) := goodIn_s _ [(22, 3), (9, 1), (25, 2), (5, 1), (27, 1), (3, 1), (28, 2), (9, 1), (30, 9), (18, 1), (39, 4), (17, 1), (16, 1), (43, 8), (58, 40)] rfl (by decide +kernel)
set_option maxRecDepth 20000 in
theorem gX8_layRoute_X8_bestFrom : GoodIn wsX8_layRoute (wsV RX8 317 RX8 yX8_bestFrom wsX8_bestFrom) := goodIn_s _ [(51, 3), (9, 1), (54, 1), (5, 1), (4, 1), (2, 1), (55, 2), (9, 1), (57, 41)] rfl (by decide +kernel)
set_option maxRecDepth 20000 in
theorem gX8_bestFrom_X8_in : GoodIn wsX8_bestFrom (va_wsS RX8 142 yX8_in wsX8_in) := goodIn_s _ [(4, 4)] rfl (by decide +kernel)
set_option maxRecDepth 20000 in
theorem gX8_routeWhy_X8_isFigure : GoodIn wsX8_routeWhy (wsV RX8 277 RX8 yX8_isFigure wsX8_isFigure) := goodIn_s _ [(1, 9), (4, 1), (10, 1), (15, 40)] rfl (by decide +kernel)
set_option maxRecDepth 20000 in
theorem gX8_routeWhy_X8_in : GoodIn wsX8_routeWhy (va_wsS RX8 142 yX8_in wsX8_in) := goodIn_s _ [(8, 2), (4, 1), (10, 1)] rfl (by decide +kernel)
set_option maxRecDepth 20000 in
theorem gX8_routeWhy_X8_why : GoodIn wsX8_routeWhy (wsV RX8 290 RX8 yX8_why wsX8_why) := goodIn_s _ [(11, 3), (4, 1), (14, 1)] rfl (by decide +kernel)
set_option maxRecDepth 20000 in
theorem gX8_route_X8_good : GoodIn wsX8_route (wsV RX8 160 RX8 yX8_good wsX8_good) := goodIn_s _ [(2, 7), (85, 40)] rfl (by decide +kernel)
set_option maxRecDepth 20000 in
theorem gX8_route_X8_routeWhy : GoodIn wsX8_route (wsV RX8 321 RX8 yX8_routeWhy wsX8_routeWhy) := goodIn_s _ [(9, 3), (5, 1), (12, 4), (5, 1), (16, 10), (85, 40)] rfl (by decide +kernel)
set_option maxRecDepth 20000 in
theorem gX8_route_X8_no : GoodIn wsX8_route (wsV RX8 163 RX8 yX8_no wsX8_no) := goodIn_s _ [(26, 3), (5, 1), (29, 1), (8, 1), (85, 40)] rfl (by decide +kernel)
set_option maxRecDepth 20000 in
theorem gX8_route_X8_layRoute : GoodIn wsX8_route (wsV RX8 324 RX8 yX8_layRoute wsX8_layRoute) := goodIn_s _ [(30, 3), (5, 1), (33, 4), (1, 1), (18, 1), (37, 3), (5, 1), (40, 45), (19, 3), (85, 40)] rfl (by decide +kernel)
set_option maxRecDepth 20000 in
theorem gX8_routeAt_X8_good : GoodIn wsX8_routeAt (wsV RX8 160 RX8 yX8_good wsX8_good) := goodIn_s _ [(1, 7), (85, 40)] rfl (by decide +kernel)
set_option maxRecDepth 20000 in
theorem gX8_routeAt_X8_routeWhy : GoodIn wsX8_routeAt (wsV RX8 321 RX8 yX8_routeWhy wsX8_routeWhy) := goodIn_s _ [(8, 3), (4, 1), (11, 4), (4, 1), (15, 10), (85, 40)] rfl (by decide +kernel)
set_option maxRecDepth 20000 in
theorem gX8_routeAt_X8_in : GoodIn wsX8_routeAt (va_wsS RX8 142 yX8_in wsX8_in) := goodIn_s _ [(18, 2), (4, 1), (20, 1)] rfl (by decide +kernel)
set_option maxRecDepth 20000 in
theorem gX8_routeAt_X8_no : GoodIn wsX8_routeAt (wsV RX8 163 RX8 yX8_no wsX8_no) := goodIn_s _ [(25, 3), (4, 1), (28, 1), (7, 1), (85, 40)] rfl (by decide +kernel)
set_option maxRecDepth 20000 in
theorem gX8_routeAt_X8_layRoute : GoodIn wsX8_routeAt (wsV RX8 324 RX8 yX8_layRoute wsX8_layRoute) := goodIn_s _ [(29, 3), (4, 1), (32, 5), (17, 1), (37, 3), (4, 1), (40, 45), (18, 3), (85, 40)] rfl (by decide +kernel)
set_option maxRecDepth 20000 in
theorem gX8_routeAt_X8_bestFrom : GoodIn wsX8_routeAt (wsV RX8 317 RX8 yX8_bestFrom wsX8_bestFrom) := goodIn_s _ [(81, 3), (4, 1), (84, 1), (17, 1), (36, 1), (34, 1), (18, 2), (4, 1), (20, 1), (85, 40)] rfl (by decide +kernel)
set_option maxRecDepth 20000 in
theorem gX8_stand_X8_good : GoodIn wsX8_stand (wsV RX8 160 RX8 yX8_good wsX8_good) := goodIn_s _ [(4, 7), (77, 40)] rfl (by decide +kernel)
set_option maxRecDepth 20000 in
theorem gX8_stand_X8_in : GoodIn wsX8_stand (va_wsS RX8 142 yX8_in wsX8_in) := goodIn_s _ [(11, 2), (7, 1), (13, 1)] rfl (by decide +kernel)
set_option maxRecDepth 20000 in
theorem gX8_stand_X8_why : GoodIn wsX8_stand (wsV RX8 290 RX8 yX8_why wsX8_why) := goodIn_s _ [(14, 3), (7, 1), (17, 1)] rfl (by decide +kernel)
set_option maxRecDepth 20000 in
theorem gX8_stand_X8_no : GoodIn wsX8_stand (wsV RX8 163 RX8 yX8_no wsX8_no) := goodIn_s _ [(18, 3), (7, 1), (21, 1), (10, 1), (77, 40)] rfl (by decide +kernel)
set_option maxRecDepth 20000 in
theorem gX8_stand_X8_layRoute : GoodIn wsX8_stand (wsV RX8 324 RX8 yX8_layRoute wsX8_layRoute) := goodIn_s _ [(22, 3), (7, 1), (25, 4), (3, 1), (2, 1), (29, 3), (7, 1), (32, 45), (11, 3), (77, 40)] rfl (by decide +kernel)
set_option maxRecDepth 20000 in
theorem gX8_guard_X8_good : GoodIn wsX8_guard (wsV RX8 160 RX8 yX8_good wsX8_good) := goodIn_s _ [(6, 7), (70, 40)] rfl (by decide +kernel)
set_option maxRecDepth 20000 in
theorem gX8_guard_X8_in : GoodIn wsX8_guard (va_wsS RX8 142 yX8_in wsX8_in) := goodIn_s _ [(13, 2), (9, 1), (15, 1)] rfl (by decide +kernel)
end P226_good_1
section P226_good_2
set_option maxRecDepth 20000 in
theorem gX8_guard_X8_why : GoodIn wsX8_guard (wsV RX8 290 RX8 yX8_why wsX8_why) := goodIn_s _ [(16, 3), (9, 1), (19, 1)] rfl (by decide +kernel)
set_option maxRecDepth 20000 in
theorem gX8_guard_X8_no : GoodIn wsX8_guard (wsV RX8 163 RX8 yX8_no wsX8_no) := goodIn_s _ [(20, 3), (9, 1), (23, 1), (12, 1), (70, 40)] rfl (by decide +kernel)
set_option maxRecDepth 20000 in
theorem gX8_guard_X8_ones : GoodIn wsX8_guard (va_wsS RX8 314 yX8_ones wsX8_ones) := goodIn_s _ [(24, 2), (9, 1), (26, 1)] rfl (by decide +kernel)
set_option maxRecDepth 20000 in
theorem gX8_guard_X8_begin : GoodIn wsX8_guard (wsV RX8 270 RX8 yX8_begin wsX8_begin) := goodIn_s _ [(27, 3), (9, 1), (30, 1), (5, 1), (4, 1), (31, 3), (9, 1), (34, 1), (2, 1), (35, 2), (3, 1), (37, 3), (70, 40)] rfl (by decide +kernel)
set_option maxRecDepth 20000 in
theorem gX8_guard_X8_minuteOn : GoodIn wsX8_guard (wsV RX8 273 RX8 yX8_minuteOn wsX8_minuteOn) := goodIn_s _ [(40, 3), (9, 1), (43, 2), (2, 1), (45, 4), (9, 1), (49, 9), (3, 1), (58, 4), (36, 1), (35, 1), (62, 48)] rfl (by decide +kernel)
set_option maxRecDepth 20000 in
theorem gX8_byCode_X8_turnBy : GoodIn wsX8_byCode (wsV RX8 327 RX8 yX8_turnBy wsX8_turnBy) := goodIn_s _ [(2, 6), (1, 1), (8, 40)] rfl (by decide +kernel)
set_option maxRecDepth 20000 in
theorem gX8_doesFit_X8_byCode : GoodIn wsX8_doesFit (wsV RX8 331 RX8 yX8_byCode wsX8_byCode) := goodIn_s _ [(2, 5), (1, 1), (7, 3), (5, 1), (10, 42)] rfl (by decide +kernel)
set_option maxRecDepth 20000 in
theorem gX8_fits_X8_good : GoodIn wsX8_fits (wsV RX8 160 RX8 yX8_good wsX8_good) := goodIn_s _ [(2, 7), (31, 40)] rfl (by decide +kernel)
set_option maxRecDepth 20000 in
theorem gX8_fits_X8_no : GoodIn wsX8_fits (wsV RX8 163 RX8 yX8_no wsX8_no) := goodIn_s _ [(9, 3), (5, 1), (12, 1), (8, 1), (31, 40)] rfl (by decide +kernel)
set_option maxRecDepth 20000 in
theorem gX8_fits_X8_codes : GoodIn wsX8_fits (wsV RX8 334 RX8 yX8_codes wsX8_codes) := goodIn_s _ [(13, 3), (5, 1), (16, 2), (31, 40)] rfl (by decide +kernel)
set_option maxRecDepth 20000 in
theorem gX8_fits_X8_doesFit : GoodIn wsX8_fits (wsV RX8 337 RX8 yX8_doesFit wsX8_doesFit) := goodIn_s _ [(18, 3), (5, 1), (21, 1), (17, 1), (22, 3), (5, 1), (25, 46)] rfl (by decide +kernel)
set_option maxRecDepth 20000 in
theorem gX8_fitAt_X8_good : GoodIn wsX8_fitAt (wsV RX8 160 RX8 yX8_good wsX8_good) := goodIn_s _ [(2, 7), (35, 40)] rfl (by decide +kernel)
set_option maxRecDepth 20000 in
theorem gX8_fitAt_X8_no : GoodIn wsX8_fitAt (wsV RX8 163 RX8 yX8_no wsX8_no) := goodIn_s _ [(9, 3), (5, 1), (12, 1), (8, 1), (35, 40)] rfl (by decide +kernel)
set_option maxRecDepth 20000 in
theorem gX8_fitAt_X8_codes : GoodIn wsX8_fitAt (wsV RX8 334 RX8 yX8_codes wsX8_codes) := goodIn_s _ [(13, 3), (5, 1), (16, 2), (35, 40)] rfl (by decide +kernel)
set_option maxRecDepth 20000 in
theorem gX8_fitAt_X8_doesFit : GoodIn wsX8_fitAt (wsV RX8 337 RX8 yX8_doesFit wsX8_doesFit) := goodIn_s _ [(18, 3), (5, 1), (21, 1), (17, 1), (22, 3), (5, 1), (25, 6), (35, 40)] rfl (by decide +kernel)
set_option maxRecDepth 20000 in
theorem gX8_fitAt_X8_numberOf : GoodIn wsX8_fitAt (wsV RX8 340 RX8 yX8_numberOf wsX8_numberOf) := goodIn_s _ [(31, 3), (5, 1), (34, 1), (17, 1), (35, 40)] rfl (by decide +kernel)
set_option maxRecDepth 20000 in
theorem gX8_layOften_X8_codes : GoodIn wsX8_layOften (wsV RX8 334 RX8 yX8_codes wsX8_codes) := goodIn_s _ [(2, 6), (21, 40)] rfl (by decide +kernel)
set_option maxRecDepth 20000 in
theorem gX8_layOften_X8_doesFit : GoodIn wsX8_layOften (wsV RX8 337 RX8 yX8_doesFit wsX8_doesFit) := goodIn_s _ [(8, 3), (5, 1), (11, 1), (7, 1), (12, 3), (5, 1), (15, 46)] rfl (by decide +kernel)
set_option maxRecDepth 20000 in
theorem gX8_layOften_X8_byCode : GoodIn wsX8_layOften (wsV RX8 331 RX8 yX8_byCode wsX8_byCode) := goodIn_s _ [(12, 3), (5, 1), (15, 1), (7, 1), (16, 3), (5, 1), (19, 42)] rfl (by decide +kernel)
set_option maxRecDepth 20000 in
theorem gX8_could_X8_good : GoodIn wsX8_could (wsV RX8 160 RX8 yX8_good wsX8_good) := goodIn_s _ [(4, 7), (43, 40)] rfl (by decide +kernel)
set_option maxRecDepth 20000 in
theorem gX8_could_X8_in : GoodIn wsX8_could (va_wsS RX8 142 yX8_in wsX8_in) := goodIn_s _ [(11, 2), (7, 1), (13, 1)] rfl (by decide +kernel)
set_option maxRecDepth 20000 in
theorem gX8_could_X8_why : GoodIn wsX8_could (wsV RX8 290 RX8 yX8_why wsX8_why) := goodIn_s _ [(14, 3), (7, 1), (17, 1)] rfl (by decide +kernel)
set_option maxRecDepth 20000 in
theorem gX8_could_X8_no : GoodIn wsX8_could (wsV RX8 163 RX8 yX8_no wsX8_no) := goodIn_s _ [(18, 3), (7, 1), (21, 1), (10, 1), (43, 40)] rfl (by decide +kernel)
set_option maxRecDepth 20000 in
theorem gX8_could_X8_layOften : GoodIn wsX8_could (wsV RX8 343 RX8 yX8_layOften wsX8_layOften) := goodIn_s _ [(22, 3), (7, 1), (25, 1), (3, 1), (26, 3), (7, 1), (29, 1), (2, 1), (30, 53)] rfl (by decide +kernel)
set_option maxRecDepth 20000 in
theorem gX8_aliveBy_X8_good : GoodIn wsX8_aliveBy (wsV RX8 160 RX8 yX8_good wsX8_good) := goodIn_s _ [(3, 7), (47, 40)] rfl (by decide +kernel)
set_option maxRecDepth 20000 in
theorem gX8_aliveBy_X8_isFigure : GoodIn wsX8_aliveBy (wsV RX8 277 RX8 yX8_isFigure wsX8_isFigure) := goodIn_s _ [(10, 3), (6, 1), (13, 2), (1, 1), (15, 2), (6, 1), (17, 1), (47, 40)] rfl (by decide +kernel)
set_option maxRecDepth 20000 in
theorem gX8_aliveBy_X8_in : GoodIn wsX8_aliveBy (va_wsS RX8 142 yX8_in wsX8_in) := goodIn_s _ [(15, 2), (6, 1), (17, 1)] rfl (by decide +kernel)
set_option maxRecDepth 20000 in
theorem gX8_aliveBy_X8_why : GoodIn wsX8_aliveBy (wsV RX8 290 RX8 yX8_why wsX8_why) := goodIn_s _ [(18, 3), (6, 1), (21, 1)] rfl (by decide +kernel)
set_option maxRecDepth 20000 in
theorem gX8_aliveBy_X8_no : GoodIn wsX8_aliveBy (wsV RX8 163 RX8 yX8_no wsX8_no) := goodIn_s _ [(22, 3), (6, 1), (25, 1), (9, 1), (47, 40)] rfl (by decide +kernel)
set_option maxRecDepth 20000 in
theorem gX8_aliveBy_X8_layOften : GoodIn wsX8_aliveBy (wsV RX8 343 RX8 yX8_layOften wsX8_layOften) := goodIn_s _ [(26, 3), (6, 1), (29, 1), (2, 1), (30, 3), (6, 1), (33, 1), (1, 1), (34, 53)] rfl (by decide +kernel)
set_option maxRecDepth 20000 in
theorem gX8_lookOf_X8_layOften : GoodIn wsX8_lookOf (wsV RX8 343 RX8 yX8_layOften wsX8_layOften) := goodIn_s _ [(4, 5), (3, 1), (9, 3), (7, 1), (12, 1), (2, 1), (13, 53)] rfl (by decide +kernel)
set_option maxRecDepth 20000 in
theorem gX8_look_X8_good : GoodIn wsX8_look (wsV RX8 160 RX8 yX8_good wsX8_good) := goodIn_s _ [(2, 7), (41, 40)] rfl (by decide +kernel)
set_option maxRecDepth 20000 in
theorem gX8_look_X8_lookOf : GoodIn wsX8_look (wsV RX8 349 RX8 yX8_lookOf wsX8_lookOf) := goodIn_s _ [(9, 3), (5, 1), (12, 7), (5, 1), (19, 18), (41, 40)] rfl (by decide +kernel)
set_option maxRecDepth 20000 in
theorem gX8_look_X8_no : GoodIn wsX8_look (wsV RX8 163 RX8 yX8_no wsX8_no) := goodIn_s _ [(37, 3), (5, 1), (40, 1), (8, 1), (41, 40)] rfl (by decide +kernel)
set_option maxRecDepth 20000 in
theorem gX8_lookLeaves_X8_good : GoodIn wsX8_lookLeaves (wsV RX8 160 RX8 yX8_good wsX8_good) := goodIn_s _ [(3, 7), (41, 40)] rfl (by decide +kernel)
set_option maxRecDepth 20000 in
theorem gX8_lookLeaves_X8_no : GoodIn wsX8_lookLeaves (wsV RX8 163 RX8 yX8_no wsX8_no) := goodIn_s _ [(10, 3), (6, 1), (13, 1), (9, 1), (41, 40)] rfl (by decide +kernel)
set_option maxRecDepth 20000 in
theorem gX8_lookLeaves_X8_lookOf : GoodIn wsX8_lookLeaves (wsV RX8 349 RX8 yX8_lookOf wsX8_lookOf) := goodIn_s _ [(14, 3), (6, 1), (17, 1), (2, 1), (18, 5), (6, 1), (23, 58)] rfl (by decide +kernel)
set_option maxRecDepth 20000 in
theorem gX8_judge_X8_good : GoodIn wsX8_judge (wsV RX8 160 RX8 yX8_good wsX8_good) := goodIn_s _ [(3, 7), (19, 40)] rfl (by decide +kernel)
set_option maxRecDepth 20000 in
theorem gX8_judge_X8_no : GoodIn wsX8_judge (wsV RX8 163 RX8 yX8_no wsX8_no) := goodIn_s _ [(10, 3), (6, 1), (13, 1), (9, 1), (19, 40)] rfl (by decide +kernel)
set_option maxRecDepth 20000 in
theorem gX8_judge_X8_turnBy : GoodIn wsX8_judge (wsV RX8 327 RX8 yX8_turnBy wsX8_turnBy) := goodIn_s _ [(14, 3), (6, 1), (17, 2), (2, 1), (19, 40)] rfl (by decide +kernel)
set_option maxRecDepth 20000 in
theorem gX8_lawsLike_X8_good : GoodIn wsX8_lawsLike (wsV RX8 160 RX8 yX8_good wsX8_good) := goodIn_s _ [(3, 7), (27, 40)] rfl (by decide +kernel)
set_option maxRecDepth 20000 in
theorem gX8_lawsLike_X8_no : GoodIn wsX8_lawsLike (wsV RX8 163 RX8 yX8_no wsX8_no) := goodIn_s _ [(10, 3), (6, 1), (13, 1), (9, 1), (27, 40)] rfl (by decide +kernel)
set_option maxRecDepth 20000 in
theorem gX8_lawsLike_X8_codes : GoodIn wsX8_lawsLike (wsV RX8 334 RX8 yX8_codes wsX8_codes) := goodIn_s _ [(14, 3), (6, 1), (17, 1), (2, 1), (27, 40)] rfl (by decide +kernel)
set_option maxRecDepth 20000 in
theorem gX8_lawsLike_X8_byCode : GoodIn wsX8_lawsLike (wsV RX8 331 RX8 yX8_byCode wsX8_byCode) := goodIn_s _ [(18, 3), (6, 1), (21, 1), (2, 1), (22, 3), (6, 1), (25, 42)] rfl (by decide +kernel)
set_option maxRecDepth 20000 in
theorem gX8_lawsLike_X8_turnBy : GoodIn wsX8_lawsLike (wsV RX8 327 RX8 yX8_turnBy wsX8_turnBy) := goodIn_s _ [(22, 3), (6, 1), (25, 2), (2, 1), (27, 40)] rfl (by decide +kernel)
set_option maxRecDepth 20000 in
theorem gX8_lawFor_X8_good : GoodIn wsX8_lawFor (wsV RX8 160 RX8 yX8_good wsX8_good) := goodIn_s _ [(1, 7), (38, 40)] rfl (by decide +kernel)
set_option maxRecDepth 20000 in
theorem gX8_lawFor_X8_isFigure : GoodIn wsX8_lawFor (wsV RX8 277 RX8 yX8_isFigure wsX8_isFigure) := goodIn_s _ [(8, 3), (4, 1), (11, 5), (4, 1), (16, 1), (38, 40)] rfl (by decide +kernel)
set_option maxRecDepth 20000 in
theorem gX8_lawFor_X8_in : GoodIn wsX8_lawFor (va_wsS RX8 142 yX8_in wsX8_in) := goodIn_s _ [(14, 2), (4, 1), (16, 1)] rfl (by decide +kernel)
set_option maxRecDepth 20000 in
theorem gX8_lawFor_X8_why : GoodIn wsX8_lawFor (wsV RX8 290 RX8 yX8_why wsX8_why) := goodIn_s _ [(17, 3), (4, 1), (20, 1)] rfl (by decide +kernel)
set_option maxRecDepth 20000 in
theorem gX8_lawFor_X8_no : GoodIn wsX8_lawFor (wsV RX8 163 RX8 yX8_no wsX8_no) := goodIn_s _ [(21, 3), (4, 1), (24, 1), (7, 1), (38, 40)] rfl (by decide +kernel)
set_option maxRecDepth 20000 in
theorem gX8_lawFor_X8_byCode : GoodIn wsX8_lawFor (wsV RX8 331 RX8 yX8_byCode wsX8_byCode) := goodIn_s _ [(25, 3), (4, 1), (28, 1), (13, 1), (29, 3), (4, 1), (32, 2), (38, 40)] rfl (by decide +kernel)
set_option maxRecDepth 20000 in
theorem gX8_lawFor_X8_numberOf : GoodIn wsX8_lawFor (wsV RX8 340 RX8 yX8_numberOf wsX8_numberOf) := goodIn_s _ [(34, 3), (4, 1), (37, 1), (13, 1), (38, 40)] rfl (by decide +kernel)
set_option maxRecDepth 20000 in
theorem gX8_dares_X8_good : GoodIn wsX8_dares (wsV RX8 160 RX8 yX8_good wsX8_good) := goodIn_s _ [(3, 6), (2, 1), (22, 40)] rfl (by decide +kernel)
set_option maxRecDepth 20000 in
theorem gX8_dares_X8_in : GoodIn wsX8_dares (va_wsS RX8 142 yX8_in wsX8_in) := goodIn_s _ [(9, 2), (6, 1), (11, 1)] rfl (by decide +kernel)
set_option maxRecDepth 20000 in
theorem gX8_dares_X8_why : GoodIn wsX8_dares (wsV RX8 290 RX8 yX8_why wsX8_why) := goodIn_s _ [(12, 3), (6, 1), (15, 1)] rfl (by decide +kernel)
set_option maxRecDepth 20000 in
theorem gX8_dares_X8_otherHas : GoodIn wsX8_dares (va_wsS RX8 352 yX8_otherHas wsX8_otherHas) := goodIn_s _ [(16, 2), (6, 1), (18, 1)] rfl (by decide +kernel)
set_option maxRecDepth 20000 in
theorem gX8_dares_X8_figureHas : GoodIn wsX8_dares (va_wsS RX8 355 yX8_figureHas wsX8_figureHas) := goodIn_s _ [(19, 2), (6, 1), (21, 1)] rfl (by decide +kernel)
set_option maxRecDepth 20000 in
theorem gX8_seekRests_X8_figureHas : GoodIn wsX8_seekRests (va_wsS RX8 355 yX8_figureHas wsX8_figureHas) := goodIn_s _ [(2, 4)] rfl (by decide +kernel)
set_option maxRecDepth 20000 in
theorem gX8_seekRests_X8_otherHas : GoodIn wsX8_seekRests (va_wsS RX8 352 yX8_otherHas wsX8_otherHas) := goodIn_s _ [(6, 2), (4, 1), (8, 1)] rfl (by decide +kernel)
set_option maxRecDepth 20000 in
theorem gX8_rests_X8_good : GoodIn wsX8_rests (wsV RX8 160 RX8 yX8_good wsX8_good) := goodIn_s _ [(2, 7), (31, 40)] rfl (by decide +kernel)
set_option maxRecDepth 20000 in
theorem gX8_rests_X8_in : GoodIn wsX8_rests (va_wsS RX8 142 yX8_in wsX8_in) := goodIn_s _ [(9, 2), (5, 1), (11, 1)] rfl (by decide +kernel)
set_option maxRecDepth 20000 in
theorem gX8_rests_X8_why : GoodIn wsX8_rests (wsV RX8 290 RX8 yX8_why wsX8_why) := goodIn_s _ [(12, 3), (5, 1), (15, 1)] rfl (by decide +kernel)
set_option maxRecDepth 20000 in
theorem gX8_rests_X8_no : GoodIn wsX8_rests (wsV RX8 163 RX8 yX8_no wsX8_no) := goodIn_s _ [(16, 3), (5, 1), (19, 1), (8, 1), (31, 40)] rfl (by decide +kernel)
set_option maxRecDepth 20000 in
theorem gX8_rests_X8_seekRests : GoodIn wsX8_rests (wsV RX8 362 RX8 yX8_seekRests wsX8_seekRests) := goodIn_s _ [(20, 3), (5, 1), (23, 4), (5, 1), (27, 44)] rfl (by decide +kernel)
set_option maxRecDepth 20000 in
theorem gX8_rest_X8_good : GoodIn wsX8_rest (wsV RX8 160 RX8 yX8_good wsX8_good) := goodIn_s _ [(3, 7), (31, 40)] rfl (by decide +kernel)
set_option maxRecDepth 20000 in
theorem gX8_rest_X8_in : GoodIn wsX8_rest (va_wsS RX8 142 yX8_in wsX8_in) := goodIn_s _ [(10, 2), (6, 1), (12, 1)] rfl (by decide +kernel)
set_option maxRecDepth 20000 in
theorem gX8_rest_X8_why : GoodIn wsX8_rest (wsV RX8 290 RX8 yX8_why wsX8_why) := goodIn_s _ [(13, 3), (6, 1), (16, 1)] rfl (by decide +kernel)
set_option maxRecDepth 20000 in
theorem gX8_rest_X8_no : GoodIn wsX8_rest (wsV RX8 163 RX8 yX8_no wsX8_no) := goodIn_s _ [(17, 3), (6, 1), (20, 1), (9, 1), (31, 40)] rfl (by decide +kernel)
set_option maxRecDepth 20000 in
theorem gX8_rest_X8_seekRests : GoodIn wsX8_rest (wsV RX8 362 RX8 yX8_seekRests wsX8_seekRests) := goodIn_s _ [(21, 3), (6, 1), (24, 1), (2, 1), (25, 2), (6, 1), (27, 44)] rfl (by decide +kernel)
set_option maxRecDepth 20000 in
theorem gX8_turnsOf_X8_goRound : GoodIn wsX8_turnsOf (wsV RX8 294 RX8 yX8_goRound wsX8_goRound) := goodIn_s _ [(1, 12), (4, 1), (13, 2), (19, 40)] rfl (by decide +kernel)
set_option maxRecDepth 20000 in
theorem gX8_turnsOf_X8_turnAt : GoodIn wsX8_turnsOf (wsV RX8 297 RX8 yX8_turnAt wsX8_turnAt) := goodIn_s _ [(15, 3), (4, 1), (18, 1), (8, 1), (7, 1), (9, 1), (19, 40)] rfl (by decide +kernel)
set_option maxRecDepth 20000 in
theorem gX8_odds_X8_good : GoodIn wsX8_odds (wsV RX8 160 RX8 yX8_good wsX8_good) := goodIn_s _ [(3, 7), (49, 40)] rfl (by decide +kernel)
set_option maxRecDepth 20000 in
theorem gX8_odds_X8_isFigure : GoodIn wsX8_odds (wsV RX8 277 RX8 yX8_isFigure wsX8_isFigure) := goodIn_s _ [(10, 3), (6, 1), (13, 2), (2, 1), (15, 2), (6, 1), (17, 1), (49, 40)] rfl (by decide +kernel)
set_option maxRecDepth 20000 in
theorem gX8_odds_X8_in : GoodIn wsX8_odds (va_wsS RX8 142 yX8_in wsX8_in) := goodIn_s _ [(15, 2), (6, 1), (17, 1)] rfl (by decide +kernel)
set_option maxRecDepth 20000 in
theorem gX8_odds_X8_why : GoodIn wsX8_odds (wsV RX8 290 RX8 yX8_why wsX8_why) := goodIn_s _ [(18, 3), (6, 1), (21, 1)] rfl (by decide +kernel)
set_option maxRecDepth 20000 in
theorem gX8_odds_X8_no : GoodIn wsX8_odds (wsV RX8 163 RX8 yX8_no wsX8_no) := goodIn_s _ [(22, 3), (6, 1), (25, 1), (9, 1), (49, 40)] rfl (by decide +kernel)
set_option maxRecDepth 20000 in
theorem gX8_odds_X8_turnsOf : GoodIn wsX8_odds (wsV RX8 365 RX8 yX8_turnsOf wsX8_turnsOf) := goodIn_s _ [(26, 3), (6, 1), (29, 4), (6, 1), (33, 9), (2, 1), (42, 4), (49, 40)] rfl (by decide +kernel)
set_option maxRecDepth 20000 in
theorem gX8_odds_X8_lowest : GoodIn wsX8_odds (va_wsS RX8 370 yX8_lowest wsX8_lowest) := goodIn_s _ [(46, 2), (6, 1), (48, 1)] rfl (by decide +kernel)
set_option maxRecDepth 20000 in
theorem gX8_mean_X8_good : GoodIn wsX8_mean (wsV RX8 160 RX8 yX8_good wsX8_good) := goodIn_s _ [(3, 7), (49, 40)] rfl (by decide +kernel)
set_option maxRecDepth 20000 in
theorem gX8_mean_X8_isFigure : GoodIn wsX8_mean (wsV RX8 277 RX8 yX8_isFigure wsX8_isFigure) := goodIn_s _ [(10, 3), (6, 1), (13, 2), (1, 1), (15, 2), (6, 1), (17, 1), (49, 40)] rfl (by decide +kernel)
set_option maxRecDepth 20000 in
theorem gX8_mean_X8_in : GoodIn wsX8_mean (va_wsS RX8 142 yX8_in wsX8_in) := goodIn_s _ [(15, 2), (6, 1), (17, 1)] rfl (by decide +kernel)
set_option maxRecDepth 20000 in
theorem gX8_mean_X8_why : GoodIn wsX8_mean (wsV RX8 290 RX8 yX8_why wsX8_why) := goodIn_s _ [(18, 3), (6, 1), (21, 1)] rfl (by decide +kernel)
set_option maxRecDepth 20000 in
theorem gX8_mean_X8_no : GoodIn wsX8_mean (wsV RX8 163 RX8 yX8_no wsX8_no) := goodIn_s _ [(22, 3), (6, 1), (25, 1), (9, 1), (49, 40)] rfl (by decide +kernel)
set_option maxRecDepth 20000 in
theorem gX8_mean_X8_turnsOf : GoodIn wsX8_mean (wsV RX8 365 RX8 yX8_turnsOf wsX8_turnsOf) := goodIn_s _ [(26, 3), (6, 1), (29, 4), (6, 1), (33, 9), (1, 1), (42, 4), (49, 40)] rfl (by decide +kernel)
set_option maxRecDepth 20000 in
theorem gX8_mean_X8_lowest : GoodIn wsX8_mean (va_wsS RX8 370 yX8_lowest wsX8_lowest) := goodIn_s _ [(46, 2), (6, 1), (48, 1)] rfl (by decide +kernel)
set_option maxRecDepth 20000 in
theorem gX8_drawWhy_X8_in : GoodIn wsX8_drawWhy (va_wsS RX8 142 yX8_in wsX8_in) := goodIn_s _ [(6, 4)] rfl (by decide +kernel)
set_option maxRecDepth 20000 in
theorem gX8_drawWhy_X8_why : GoodIn wsX8_drawWhy (wsV RX8 290 RX8 yX8_why wsX8_why) := goodIn_s _ [(10, 3), (8, 1), (13, 1)] rfl (by decide +kernel)
set_option maxRecDepth 20000 in
theorem gX8_drawWhy_X8_goRound : GoodIn wsX8_drawWhy (wsV RX8 294 RX8 yX8_goRound wsX8_goRound) := goodIn_s _ [(14, 3), (8, 1), (17, 8), (8, 1), (25, 1), (5, 1), (30, 40)] rfl (by decide +kernel)
set_option maxRecDepth 20000 in
theorem gX8_drawWhy_X8_turnAt : GoodIn wsX8_drawWhy (wsV RX8 297 RX8 yX8_turnAt wsX8_turnAt) := goodIn_s _ [(26, 3), (8, 1), (29, 1), (20, 1), (19, 1), (21, 1), (30, 40)] rfl (by decide +kernel)
set_option maxRecDepth 20000 in
theorem gX8_drawn_X8_good : GoodIn wsX8_drawn (wsV RX8 160 RX8 yX8_good wsX8_good) := goodIn_s _ [(2, 7), (49, 40)] rfl (by decide +kernel)
set_option maxRecDepth 20000 in
theorem gX8_drawn_X8_isFigure : GoodIn wsX8_drawn (wsV RX8 277 RX8 yX8_isFigure wsX8_isFigure) := goodIn_s _ [(9, 3), (5, 1), (12, 5), (5, 1), (17, 1), (49, 40)] rfl (by decide +kernel)
set_option maxRecDepth 20000 in
theorem gX8_drawn_X8_drawWhy : GoodIn wsX8_drawn (wsV RX8 382 RX8 yX8_drawWhy wsX8_drawWhy) := goodIn_s _ [(18, 3), (5, 1), (21, 3), (1, 1), (24, 1), (14, 3), (5, 1), (17, 1), (25, 20), (49, 40)] rfl (by decide +kernel)
set_option maxRecDepth 20000 in
theorem gX8_drawn_X8_no : GoodIn wsX8_drawn (wsV RX8 163 RX8 yX8_no wsX8_no) := goodIn_s _ [(45, 3), (5, 1), (48, 1), (8, 1), (49, 40)] rfl (by decide +kernel)
set_option maxRecDepth 20000 in
theorem gX8_firstShut_X8_good : GoodIn wsX8_firstShut (wsV RX8 160 RX8 yX8_good wsX8_good) := goodIn_s _ [(3, 7), (45, 40)] rfl (by decide +kernel)
set_option maxRecDepth 20000 in
theorem gX8_firstShut_X8_drawWhy : GoodIn wsX8_firstShut (wsV RX8 382 RX8 yX8_drawWhy wsX8_drawWhy) := goodIn_s _ [(10, 3), (6, 1), (13, 2), (2, 1), (15, 5), (6, 1), (20, 21), (45, 40)] rfl (by decide +kernel)
set_option maxRecDepth 20000 in
theorem gX8_firstShut_X8_no : GoodIn wsX8_firstShut (wsV RX8 163 RX8 yX8_no wsX8_no) := goodIn_s _ [(41, 3), (6, 1), (44, 1), (9, 1), (45, 40)] rfl (by decide +kernel)
set_option maxRecDepth 20000 in
theorem gX8_note_X8_copy : GoodIn wsX8_note (va_wsS RX8 169 yX8_copy wsX8_copy) := goodIn_s _ [(4, 4)] rfl (by decide +kernel)
set_option maxRecDepth 20000 in
theorem gX8_go_X8_good : GoodIn wsX8_go (wsV RX8 160 RX8 yX8_good wsX8_good) := goodIn_s _ [(3, 7), (68, 40)] rfl (by decide +kernel)
set_option maxRecDepth 20000 in
theorem gX8_go_X8_in : GoodIn wsX8_go (va_wsS RX8 142 yX8_in wsX8_in) := goodIn_s _ [(10, 2), (6, 1), (12, 1)] rfl (by decide +kernel)
set_option maxRecDepth 20000 in
theorem gX8_go_X8_why : GoodIn wsX8_go (wsV RX8 290 RX8 yX8_why wsX8_why) := goodIn_s _ [(13, 3), (6, 1), (16, 1)] rfl (by decide +kernel)
set_option maxRecDepth 20000 in
theorem gX8_go_X8_no : GoodIn wsX8_go (wsV RX8 163 RX8 yX8_no wsX8_no) := goodIn_s _ [(17, 3), (6, 1), (20, 1), (9, 1), (68, 40)] rfl (by decide +kernel)
set_option maxRecDepth 20000 in
theorem gX8_go_X8_note : GoodIn wsX8_go (wsV RX8 386 RX8 yX8_note wsX8_note) := goodIn_s _ [(21, 3), (6, 1), (24, 3), (2, 1), (27, 2), (6, 1), (29, 1), (68, 40)] rfl (by decide +kernel)
set_option maxRecDepth 20000 in
theorem gX8_go_X8_watchAsTold : GoodIn wsX8_go (wsV RX8 267 RX8 yX8_watchAsTold wsX8_watchAsTold) := goodIn_s _ [(30, 3), (6, 1), (33, 5), (68, 40)] rfl (by decide +kernel)
set_option maxRecDepth 20000 in
theorem gX8_go_X8_minuteOn : GoodIn wsX8_go (wsV RX8 273 RX8 yX8_minuteOn wsX8_minuteOn) := goodIn_s _ [(38, 3), (6, 1), (41, 2), (34, 1), (43, 4), (6, 1), (47, 9), (37, 1), (56, 4), (36, 1), (35, 1), (60, 48)] rfl (by decide +kernel)
set_option maxRecDepth 20000 in
theorem gX8_put_X8_good : GoodIn wsX8_put (wsV RX8 160 RX8 yX8_good wsX8_good) := goodIn_s _ [(2, 7), (34, 40)] rfl (by decide +kernel)
set_option maxRecDepth 20000 in
theorem gX8_put_X8_isFigure : GoodIn wsX8_put (wsV RX8 277 RX8 yX8_isFigure wsX8_isFigure) := goodIn_s _ [(9, 3), (5, 1), (12, 5), (5, 1), (17, 1), (34, 40)] rfl (by decide +kernel)
set_option maxRecDepth 20000 in
theorem gX8_put_X8_no : GoodIn wsX8_put (wsV RX8 163 RX8 yX8_no wsX8_no) := goodIn_s _ [(18, 3), (5, 1), (21, 1), (8, 1), (34, 40)] rfl (by decide +kernel)
set_option maxRecDepth 20000 in
theorem gX8_put_X8_hasBit : GoodIn wsX8_put (va_wsS RX8 238 yX8_hasBit wsX8_hasBit) := goodIn_s _ [(22, 2), (5, 1), (24, 1)] rfl (by decide +kernel)
set_option maxRecDepth 20000 in
theorem gX8_put_X8_note : GoodIn wsX8_put (wsV RX8 386 RX8 yX8_note wsX8_note) := goodIn_s _ [(25, 3), (5, 1), (28, 3), (1, 1), (31, 2), (5, 1), (33, 41)] rfl (by decide +kernel)
set_option maxRecDepth 20000 in
theorem gX8_wind_X8_good : GoodIn wsX8_wind (wsV RX8 160 RX8 yX8_good wsX8_good) := goodIn_s _ [(2, 7), (31, 40)] rfl (by decide +kernel)
set_option maxRecDepth 20000 in
theorem gX8_wind_X8_isFigure : GoodIn wsX8_wind (wsV RX8 277 RX8 yX8_isFigure wsX8_isFigure) := goodIn_s _ [(9, 3), (5, 1), (12, 5), (5, 1), (17, 1), (31, 40)] rfl (by decide +kernel)
set_option maxRecDepth 20000 in
theorem gX8_wind_X8_no : GoodIn wsX8_wind (wsV RX8 163 RX8 yX8_no wsX8_no) := goodIn_s _ [(18, 3), (5, 1), (21, 1), (8, 1), (31, 40)] rfl (by decide +kernel)
set_option maxRecDepth 20000 in
theorem gX8_wind_X8_note : GoodIn wsX8_wind (wsV RX8 386 RX8 yX8_note wsX8_note) := goodIn_s _ [(22, 3), (5, 1), (25, 3), (1, 1), (28, 2), (5, 1), (30, 41)] rfl (by decide +kernel)
set_option maxRecDepth 20000 in
theorem gX8_undo_X8_good : GoodIn wsX8_undo (wsV RX8 160 RX8 yX8_good wsX8_good) := goodIn_s _ [(4, 7), (18, 40)] rfl (by decide +kernel)
set_option maxRecDepth 20000 in
theorem gX8_undo_X8_isNot : GoodIn wsX8_undo (wsV RX8 389 RX8 yX8_isNot wsX8_isNot) := goodIn_s _ [(11, 3), (7, 1), (14, 1), (10, 1), (18, 40)] rfl (by decide +kernel)
set_option maxRecDepth 20000 in
theorem gX8_undo_X8_copy : GoodIn wsX8_undo (va_wsS RX8 169 yX8_copy wsX8_copy) := goodIn_s _ [(15, 2), (7, 1), (17, 1)] rfl (by decide +kernel)
set_option maxRecDepth 20000 in
theorem gX8_image_X8_good : GoodIn wsX8_image (wsV RX8 160 RX8 yX8_good wsX8_good) := goodIn_s _ [(5, 7), (19, 40)] rfl (by decide +kernel)
set_option maxRecDepth 20000 in
theorem gX8_image_X8_no : GoodIn wsX8_image (wsV RX8 163 RX8 yX8_no wsX8_no) := goodIn_s _ [(12, 3), (8, 1), (15, 1), (11, 1), (19, 40)] rfl (by decide +kernel)
set_option maxRecDepth 20000 in
theorem gX8_image_X8_copy : GoodIn wsX8_image (va_wsS RX8 169 yX8_copy wsX8_copy) := goodIn_s _ [(16, 2), (8, 1), (18, 1)] rfl (by decide +kernel)
set_option maxRecDepth 20000 in
theorem gX8_back_X8_good : GoodIn wsX8_back (wsV RX8 160 RX8 yX8_good wsX8_good) := goodIn_s _ [(5, 7), (22, 40)] rfl (by decide +kernel)
end P226_good_2
section P226_good_3
set_option maxRecDepth 20000 in
theorem gX8_back_X8_in : GoodIn wsX8_back (va_wsS RX8 142 yX8_in wsX8_in) := goodIn_s _ [(12, 2), (8, 1), (14, 1)] rfl (by decide +kernel)
set_option maxRecDepth 20000 in
theorem gX8_back_X8_isNot : GoodIn wsX8_back (wsV RX8 389 RX8 yX8_isNot wsX8_isNot) := goodIn_s _ [(15, 3), (8, 1), (18, 1), (11, 1), (22, 40)] rfl (by decide +kernel)
set_option maxRecDepth 20000 in
theorem gX8_back_X8_copy : GoodIn wsX8_back (va_wsS RX8 169 yX8_copy wsX8_copy) := goodIn_s _ [(19, 2), (8, 1), (21, 1)] rfl (by decide +kernel)
set_option maxRecDepth 20000 in
theorem gX8_size_X8_in : GoodIn wsX8_size (va_wsS RX8 142 yX8_in wsX8_in) := goodIn_s _ [(8, 4)] rfl (by decide +kernel)
end P226_good_3
section P230_00_safe
set_option maxHeartbeats 4000000 in
set_option maxRecDepth 100000 in
theorem c_X8_copy_23_23 (l : Launch) (dC : Nat → ClassId) (dI : Nat → Nat → Nat) (sz : Nat) (a1 : Nat) (a2 : Int32) (a3 : Nat) (a4 : Int32) (a5 : Int32) (ka1 : ClassId) (fa1 : Nat → Int32) (ka3 : ClassId) (fa3 : Nat → Int32) (ba2_l : (0 : Int) ≤ a2.toInt) (ba2_u : a2.toInt ≤ (0 : Int)) (ba4_l : (0 : Int) ≤ a4.toInt) (ba4_u : a4.toInt ≤ (0 : Int)) (ba5_l : (23 : Int) ≤ a5.toInt) (ba5_u : a5.toInt ≤ (23 : Int)) : zm l yX8_copy wsX8_copy ({ frames := 0, cells := 0, slots := 0, locals := 0 }) [.ref a1, .int a2, .ref a3, .int a4, .int a5] dC dI sz [(a1, .inl (ka1, 23, .inl (fa1))), (a3, .inl (ka3, 23, .inl (fa3)))] [(ka1, .int), (ka3, .int)] (fun A _ => True) (fun A => va_Qv (fun (_ : Unit) => True) (fun (_ : Unit) (t : State) => ∃ nfa3 : Nat → Int32, nfa3 = va_cpy fa1 fa3 a2.toNatClampNeg a4.toNatClampNeg 23 ∧ ax_B dC dI A [(a1, .inl (ka1, 23, .inl (fa1))), (a3, .inl (ka3, 23, .inl (nfa3)))] [(ka1, .int), (ka3, .int)] t) A) := by
  refine zh (cc := cX8_copy) (maxL := 6) (ret := none) zn_RX8 rfl (Nat.le_of_ble_eq_true rfl) (fun p e s m below meth c A ls hx hb hml hr hts (hown : s.vm.findClass RX8 = some m.cls) hlocks hA hS hP hK hD hE (hl : lv_has ls 6 [(0, .ref a1), (1, .int a2), (2, .ref a3), (3, .int a4), (4, .int a5)]) => ?_)
  refine ai_open (fun K hK0 => ?_)
  refine (hK0 _ _ _).mpr ?_
  refine lv_iconst (v := 0) hx hb dX8_copy_0 zk_iconst_0 ?_
  refine lv_istore (lv' := [(5, .int 0), (0, .ref a1), (1, .int a2), (2, .ref a3), (3, .int a4), (4, .int a5)]) hx hb dX8_copy_1 hl (by decide) rfl (fun ls hl => ?_)
  have J3 : ∀ (n : Nat) (j3l5 : Int32) (j3a3_a : Nat → Int32) (H : Heap) (locs : List Loc) (ls : Array Slot), (24 : Int) - j3l5.toInt ≤ (n : Int) → (0 : Int) ≤ j3l5.toInt → j3l5.toInt ≤ (23 : Int) → (j3a3_a = va_cpy fa1 fa3 a2.toNatClampNeg a4.toNatClampNeg j3l5.toNatClampNeg) → va_P (dC, dI) vwCl [(a1, .inl (ka1, 23, .inl (fa1))), (a3, .inl (ka3, 23, .inl (j3a3_a)))] H → va_D A [(a1, .inl (ka1, 23, .inl (fa1))), (a3, .inl (ka3, 23, .inl (j3a3_a)))] → va_S A s.heap H locs → lv_has ls 6 [(0, .ref a1), (1, .int a2), (2, .ref a3), (3, .int a4), (4, .int a5), (5, .int j3l5)] → K H locs (F0 m 3 ls []) := by
    intro n
    induction n with
    | zero =>
      intro j3l5 j3a3_a H locs ls hm bj3l5_l bj3l5_u cpy3 hP hD hS hl
      first | exact zg_0 hm bj3l5_u (by decide) | (have h8 := ai_min j3l5; have h9 := ai_max j3l5; exact absurd hm (by omega))
    | succ n ih3 =>
      intro j3l5 j3a3_a H locs ls hm bj3l5_l bj3l5_u cpy3 hP hD hS hl
      refine (hK0 _ _ _).mpr ?_
      have hm3 := hm
      refine lv_iload hx hb dX8_copy_3 (lv_at hl 5 rfl) ?_
      refine lv_iload hx hb dX8_copy_5 (lv_at hl 4 rfl) ?_
      refine lv_icmp_ge (tgt := 28) hx hb dX8_copy_7 (by decide) (fun c7 => ?_) (fun c7 => ?_)
      · have gc7 := ai_le c7
        have u7t_a5 : a5.toInt ≤ (23 : Int) := ba5_u
        have l7t_j3l5 : (23 : Int) ≤ j3l5.toInt := Int.le_trans ba5_l gc7
        exact W.vret hx hb hr (fun t ht hW => ⟨⟨(), rfl, trivial, j3a3_a, (cpy3.trans (congrArg (va_cpy fa1 fa3 a2.toNatClampNeg a4.toNatClampNeg) (cp_e (n := 23) (by omega)))), by rw [ht]; exact hP, va_K.moved hW.alike hK, hD⟩, hS.F ht⟩) hS.2.2 dX8_copy_28
      · have gc7 := ai_nle c7
        have u7f_j3l5 : j3l5.toInt ≤ (22 : Int) := ai_lthi gc7 ba5_u
        have l7f_a5 : (23 : Int) ≤ a5.toInt := ba5_l
        refine lv_aload_n hx hb dX8_copy_10 rfl (lv_at hl 2 rfl) ?_
        refine lv_iload_n hx hb dX8_copy_11 rfl (lv_at hl 3 rfl) ?_
        refine lv_iload hx hb dX8_copy_12 (lv_at hl 5 rfl) ?_
        refine lv_iadd hx hb dX8_copy_14 ?_
        refine lv_topi (fun x14 ex14 => ?_)
        have qx14 : x14.toInt = a4.toInt + j3l5.toInt := ai_add ex14 ⟨ba4_l, ba4_u⟩ ⟨bj3l5_l, u7f_j3l5⟩ (by decide) (by decide)
        have bx14 : (0 : Int) ≤ x14.toInt ∧ x14.toInt ≤ 22 := ⟨by rw [qx14]; exact Int.add_le_add ba4_l bj3l5_l, by rw [qx14]; exact Int.add_le_add ba4_u u7f_j3l5⟩
        refine lv_aload_n hx hb dX8_copy_15 rfl (lv_at hl 0 rfl) ?_
        refine lv_iload_n hx hb dX8_copy_16 rfl (lv_at hl 1 rfl) ?_
        refine lv_iload hx hb dX8_copy_17 (lv_at hl 5 rfl) ?_
        refine lv_iadd hx hb dX8_copy_19 ?_
        refine lv_topi (fun x19 ex19 => ?_)
        have qx19 : x19.toInt = a2.toInt + j3l5.toInt := ai_add ex19 ⟨ba2_l, ba2_u⟩ ⟨bj3l5_l, u7f_j3l5⟩ (by decide) (by decide)
        have bx19 : (0 : Int) ≤ x19.toInt ∧ x19.toInt ≤ 22 := ⟨by rw [qx19]; exact Int.add_le_add ba2_l bj3l5_l, by rw [qx19]; exact Int.add_le_add ba2_u u7f_j3l5⟩
        refine va_iald hx hb hK hP 0 0 rfl rfl (ai_in bx19.1 bx19.2 (by decide) (by decide)) dX8_copy_20 ?_
        refine lv_topi (fun x20 ex20 => ?_)
        refine va_iast hx hb hK hP hD hS 1 1 rfl rfl (ai_in bx14.1 bx14.2 (by decide) (by decide)) dX8_copy_21 (fun H locs hP hD hS => ?_)
        obtain ⟨f21, ef21, hP, hD⟩ : ∃ g9 : Nat → Int32, g9 = upd j3a3_a (x14 : Int32).toNatClampNeg x20 ∧ va_P (dC, dI) vwCl [(a1, .inl (ka1, 23, .inl (fa1))), (a3, .inl (ka3, 23, .inl (g9)))] H ∧ va_D A [(a1, .inl (ka1, 23, .inl (fa1))), (a3, .inl (ka3, 23, .inl (g9)))] := ⟨_, rfl, hP, hD⟩
        obtain ⟨x22, ex22⟩ : ∃ y : Int32, y = j3l5 + Int32.ofInt 1 := ⟨_, rfl⟩
        have qx22 : x22.toInt = j3l5.toInt + 1 := ai_inc ex22 (by decide) (by decide) u7f_j3l5 (by decide)
        have bx22 : (1 : Int) ≤ x22.toInt ∧ x22.toInt ≤ 23 := ⟨by rw [qx22]; exact Int.add_le_add bj3l5_l (Int.le_refl _), by rw [qx22]; exact Int.add_le_add u7f_j3l5 (Int.le_refl _)⟩
        refine lv_iinc (v := x22) (lv' := [(5, .int x22), (0, .ref a1), (1, .int a2), (2, .ref a3), (3, .int a4), (4, .int a5)]) hx hb dX8_copy_22 hl (k := 5) rfl ex22.symm (by decide) rfl (fun ls hl => ?_)
        refine lv_goto (tgt := 3) hx hb dX8_copy_25 (by decide) ?_
        exact (hK0 _ _ _).mp (ih3 x22 f21 _ _ _ (by first | exact zg_s hm3 qx22 | (have h0 := qx22; omega)) (Int.le_trans zq4 bx22.1) bx22.2 (cp_s cpy3 ef21 ex20 (cp_i qx14 ba4_l bj3l5_l) (cp_i qx19 ba2_l bj3l5_l) (cp_k qx22 bj3l5_l)) hP hD hS (lv_sub hl [1, 2, 3, 4, 5, 0] rfl))
  exact (hK0 _ _ _).mp (J3 24 0 fa3 _ _ _ (by first | decide +kernel | (have h1 : (0 : Int) ≤ (0 : Int32).toInt := zq5; have h2 : (0 : Int32).toInt ≤ (0 : Int) := zq6; omega)) zq5 (Int.le_trans zq6 zq164) (cp_0 (by decide)) hP hD hS (lv_sub hl [1, 2, 3, 4, 5, 0] rfl))

set_option maxHeartbeats 4000000 in
set_option maxRecDepth 100000 in
theorem c_X8_copy_23_368 (l : Launch) (dC : Nat → ClassId) (dI : Nat → Nat → Nat) (sz : Nat) (a1 : Nat) (a2 : Int32) (a3 : Nat) (a4 : Int32) (a5 : Int32) (ka1 : ClassId) (fa1 : Nat → Int32) (ka3 : ClassId) (fa3 : Nat → Int32) (ba2_l : (0 : Int) ≤ a2.toInt) (ba2_u : a2.toInt ≤ (0 : Int)) (ba4_l : (0 : Int) ≤ a4.toInt) (ba4_u : a4.toInt ≤ (345 : Int)) (ba5_l : (23 : Int) ≤ a5.toInt) (ba5_u : a5.toInt ≤ (23 : Int)) : zm l yX8_copy wsX8_copy ({ frames := 0, cells := 0, slots := 0, locals := 0 }) [.ref a1, .int a2, .ref a3, .int a4, .int a5] dC dI sz [(a1, .inl (ka1, 23, .inl (fa1))), (a3, .inl (ka3, 368, .inl (fa3)))] [(ka1, .int), (ka3, .int)] (fun A _ => True) (fun A => va_Qv (fun (_ : Unit) => True) (fun (_ : Unit) (t : State) => ∃ nfa3 : Nat → Int32, nfa3 = va_cpy fa1 fa3 a2.toNatClampNeg a4.toNatClampNeg 23 ∧ ax_B dC dI A [(a1, .inl (ka1, 23, .inl (fa1))), (a3, .inl (ka3, 368, .inl (nfa3)))] [(ka1, .int), (ka3, .int)] t) A) := by
  refine zh (cc := cX8_copy) (maxL := 6) (ret := none) zn_RX8 rfl (Nat.le_of_ble_eq_true rfl) (fun p e s m below meth c A ls hx hb hml hr hts (hown : s.vm.findClass RX8 = some m.cls) hlocks hA hS hP hK hD hE (hl : lv_has ls 6 [(0, .ref a1), (1, .int a2), (2, .ref a3), (3, .int a4), (4, .int a5)]) => ?_)
  refine ai_open (fun K hK0 => ?_)
  refine (hK0 _ _ _).mpr ?_
  refine lv_iconst (v := 0) hx hb dX8_copy_0 zk_iconst_0 ?_
  refine lv_istore (lv' := [(5, .int 0), (0, .ref a1), (1, .int a2), (2, .ref a3), (3, .int a4), (4, .int a5)]) hx hb dX8_copy_1 hl (by decide) rfl (fun ls hl => ?_)
  have J3 : ∀ (n : Nat) (j3l5 : Int32) (j3a3_a : Nat → Int32) (H : Heap) (locs : List Loc) (ls : Array Slot), (24 : Int) - j3l5.toInt ≤ (n : Int) → (0 : Int) ≤ j3l5.toInt → j3l5.toInt ≤ (23 : Int) → (j3a3_a = va_cpy fa1 fa3 a2.toNatClampNeg a4.toNatClampNeg j3l5.toNatClampNeg) → va_P (dC, dI) vwCl [(a1, .inl (ka1, 23, .inl (fa1))), (a3, .inl (ka3, 368, .inl (j3a3_a)))] H → va_D A [(a1, .inl (ka1, 23, .inl (fa1))), (a3, .inl (ka3, 368, .inl (j3a3_a)))] → va_S A s.heap H locs → lv_has ls 6 [(0, .ref a1), (1, .int a2), (2, .ref a3), (3, .int a4), (4, .int a5), (5, .int j3l5)] → K H locs (F0 m 3 ls []) := by
    intro n
    induction n with
    | zero =>
      intro j3l5 j3a3_a H locs ls hm bj3l5_l bj3l5_u cpy3 hP hD hS hl
      first | exact zg_0 hm bj3l5_u (by decide) | (have h8 := ai_min j3l5; have h9 := ai_max j3l5; exact absurd hm (by omega))
    | succ n ih3 =>
      intro j3l5 j3a3_a H locs ls hm bj3l5_l bj3l5_u cpy3 hP hD hS hl
      refine (hK0 _ _ _).mpr ?_
      have hm3 := hm
      refine lv_iload hx hb dX8_copy_3 (lv_at hl 5 rfl) ?_
      refine lv_iload hx hb dX8_copy_5 (lv_at hl 4 rfl) ?_
      refine lv_icmp_ge (tgt := 28) hx hb dX8_copy_7 (by decide) (fun c7 => ?_) (fun c7 => ?_)
      · have gc7 := ai_le c7
        have u7t_a5 : a5.toInt ≤ (23 : Int) := ba5_u
        have l7t_j3l5 : (23 : Int) ≤ j3l5.toInt := Int.le_trans ba5_l gc7
        exact W.vret hx hb hr (fun t ht hW => ⟨⟨(), rfl, trivial, j3a3_a, (cpy3.trans (congrArg (va_cpy fa1 fa3 a2.toNatClampNeg a4.toNatClampNeg) (cp_e (n := 23) (by omega)))), by rw [ht]; exact hP, va_K.moved hW.alike hK, hD⟩, hS.F ht⟩) hS.2.2 dX8_copy_28
      · have gc7 := ai_nle c7
        have u7f_j3l5 : j3l5.toInt ≤ (22 : Int) := ai_lthi gc7 ba5_u
        have l7f_a5 : (23 : Int) ≤ a5.toInt := ba5_l
        refine lv_aload_n hx hb dX8_copy_10 rfl (lv_at hl 2 rfl) ?_
        refine lv_iload_n hx hb dX8_copy_11 rfl (lv_at hl 3 rfl) ?_
        refine lv_iload hx hb dX8_copy_12 (lv_at hl 5 rfl) ?_
        refine lv_iadd hx hb dX8_copy_14 ?_
        refine lv_topi (fun x14 ex14 => ?_)
        have qx14 : x14.toInt = a4.toInt + j3l5.toInt := ai_add ex14 ⟨ba4_l, ba4_u⟩ ⟨bj3l5_l, u7f_j3l5⟩ (by decide) (by decide)
        have bx14 : (0 : Int) ≤ x14.toInt ∧ x14.toInt ≤ 367 := ⟨by rw [qx14]; exact Int.add_le_add ba4_l bj3l5_l, by rw [qx14]; exact Int.add_le_add ba4_u u7f_j3l5⟩
        refine lv_aload_n hx hb dX8_copy_15 rfl (lv_at hl 0 rfl) ?_
        refine lv_iload_n hx hb dX8_copy_16 rfl (lv_at hl 1 rfl) ?_
        refine lv_iload hx hb dX8_copy_17 (lv_at hl 5 rfl) ?_
        refine lv_iadd hx hb dX8_copy_19 ?_
        refine lv_topi (fun x19 ex19 => ?_)
        have qx19 : x19.toInt = a2.toInt + j3l5.toInt := ai_add ex19 ⟨ba2_l, ba2_u⟩ ⟨bj3l5_l, u7f_j3l5⟩ (by decide) (by decide)
        have bx19 : (0 : Int) ≤ x19.toInt ∧ x19.toInt ≤ 22 := ⟨by rw [qx19]; exact Int.add_le_add ba2_l bj3l5_l, by rw [qx19]; exact Int.add_le_add ba2_u u7f_j3l5⟩
        refine va_iald hx hb hK hP 0 0 rfl rfl (ai_in bx19.1 bx19.2 (by decide) (by decide)) dX8_copy_20 ?_
        refine lv_topi (fun x20 ex20 => ?_)
        refine va_iast hx hb hK hP hD hS 1 1 rfl rfl (ai_in bx14.1 bx14.2 (by decide) (by decide)) dX8_copy_21 (fun H locs hP hD hS => ?_)
        obtain ⟨f21, ef21, hP, hD⟩ : ∃ g9 : Nat → Int32, g9 = upd j3a3_a (x14 : Int32).toNatClampNeg x20 ∧ va_P (dC, dI) vwCl [(a1, .inl (ka1, 23, .inl (fa1))), (a3, .inl (ka3, 368, .inl (g9)))] H ∧ va_D A [(a1, .inl (ka1, 23, .inl (fa1))), (a3, .inl (ka3, 368, .inl (g9)))] := ⟨_, rfl, hP, hD⟩
        obtain ⟨x22, ex22⟩ : ∃ y : Int32, y = j3l5 + Int32.ofInt 1 := ⟨_, rfl⟩
        have qx22 : x22.toInt = j3l5.toInt + 1 := ai_inc ex22 (by decide) (by decide) u7f_j3l5 (by decide)
        have bx22 : (1 : Int) ≤ x22.toInt ∧ x22.toInt ≤ 23 := ⟨by rw [qx22]; exact Int.add_le_add bj3l5_l (Int.le_refl _), by rw [qx22]; exact Int.add_le_add u7f_j3l5 (Int.le_refl _)⟩
        refine lv_iinc (v := x22) (lv' := [(5, .int x22), (0, .ref a1), (1, .int a2), (2, .ref a3), (3, .int a4), (4, .int a5)]) hx hb dX8_copy_22 hl (k := 5) rfl ex22.symm (by decide) rfl (fun ls hl => ?_)
        refine lv_goto (tgt := 3) hx hb dX8_copy_25 (by decide) ?_
        exact (hK0 _ _ _).mp (ih3 x22 f21 _ _ _ (by first | exact zg_s hm3 qx22 | (have h0 := qx22; omega)) (Int.le_trans zq4 bx22.1) bx22.2 (cp_s cpy3 ef21 ex20 (cp_i qx14 ba4_l bj3l5_l) (cp_i qx19 ba2_l bj3l5_l) (cp_k qx22 bj3l5_l)) hP hD hS (lv_sub hl [1, 2, 3, 4, 5, 0] rfl))
  exact (hK0 _ _ _).mp (J3 24 0 fa3 _ _ _ (by first | decide +kernel | (have h1 : (0 : Int) ≤ (0 : Int32).toInt := zq5; have h2 : (0 : Int32).toInt ≤ (0 : Int) := zq6; omega)) zq5 (Int.le_trans zq6 zq164) (cp_0 (by decide)) hP hD hS (lv_sub hl [1, 2, 3, 4, 5, 0] rfl))

set_option maxHeartbeats 4000000 in
set_option maxRecDepth 100000 in
theorem c_X8_copy_368_23 (l : Launch) (dC : Nat → ClassId) (dI : Nat → Nat → Nat) (sz : Nat) (a1 : Nat) (a2 : Int32) (a3 : Nat) (a4 : Int32) (a5 : Int32) (ka1 : ClassId) (fa1 : Nat → Int32) (ka3 : ClassId) (fa3 : Nat → Int32) (ba2_l : (0 : Int) ≤ a2.toInt) (ba2_u : a2.toInt ≤ (345 : Int)) (ba4_l : (0 : Int) ≤ a4.toInt) (ba4_u : a4.toInt ≤ (0 : Int)) (ba5_l : (23 : Int) ≤ a5.toInt) (ba5_u : a5.toInt ≤ (23 : Int)) : zm l yX8_copy wsX8_copy ({ frames := 0, cells := 0, slots := 0, locals := 0 }) [.ref a1, .int a2, .ref a3, .int a4, .int a5] dC dI sz [(a1, .inl (ka1, 368, .inl (fa1))), (a3, .inl (ka3, 23, .inl (fa3)))] [(ka1, .int), (ka3, .int)] (fun A _ => True) (fun A => va_Qv (fun (_ : Unit) => True) (fun (_ : Unit) (t : State) => ∃ nfa3 : Nat → Int32, nfa3 = va_cpy fa1 fa3 a2.toNatClampNeg a4.toNatClampNeg 23 ∧ ax_B dC dI A [(a1, .inl (ka1, 368, .inl (fa1))), (a3, .inl (ka3, 23, .inl (nfa3)))] [(ka1, .int), (ka3, .int)] t) A) := by
  refine zh (cc := cX8_copy) (maxL := 6) (ret := none) zn_RX8 rfl (Nat.le_of_ble_eq_true rfl) (fun p e s m below meth c A ls hx hb hml hr hts (hown : s.vm.findClass RX8 = some m.cls) hlocks hA hS hP hK hD hE (hl : lv_has ls 6 [(0, .ref a1), (1, .int a2), (2, .ref a3), (3, .int a4), (4, .int a5)]) => ?_)
  refine ai_open (fun K hK0 => ?_)
  refine (hK0 _ _ _).mpr ?_
  refine lv_iconst (v := 0) hx hb dX8_copy_0 zk_iconst_0 ?_
  refine lv_istore (lv' := [(5, .int 0), (0, .ref a1), (1, .int a2), (2, .ref a3), (3, .int a4), (4, .int a5)]) hx hb dX8_copy_1 hl (by decide) rfl (fun ls hl => ?_)
  have J3 : ∀ (n : Nat) (j3l5 : Int32) (j3a3_a : Nat → Int32) (H : Heap) (locs : List Loc) (ls : Array Slot), (24 : Int) - j3l5.toInt ≤ (n : Int) → (0 : Int) ≤ j3l5.toInt → j3l5.toInt ≤ (23 : Int) → (j3a3_a = va_cpy fa1 fa3 a2.toNatClampNeg a4.toNatClampNeg j3l5.toNatClampNeg) → va_P (dC, dI) vwCl [(a1, .inl (ka1, 368, .inl (fa1))), (a3, .inl (ka3, 23, .inl (j3a3_a)))] H → va_D A [(a1, .inl (ka1, 368, .inl (fa1))), (a3, .inl (ka3, 23, .inl (j3a3_a)))] → va_S A s.heap H locs → lv_has ls 6 [(0, .ref a1), (1, .int a2), (2, .ref a3), (3, .int a4), (4, .int a5), (5, .int j3l5)] → K H locs (F0 m 3 ls []) := by
    intro n
    induction n with
    | zero =>
      intro j3l5 j3a3_a H locs ls hm bj3l5_l bj3l5_u cpy3 hP hD hS hl
      first | exact zg_0 hm bj3l5_u (by decide) | (have h8 := ai_min j3l5; have h9 := ai_max j3l5; exact absurd hm (by omega))
    | succ n ih3 =>
      intro j3l5 j3a3_a H locs ls hm bj3l5_l bj3l5_u cpy3 hP hD hS hl
      refine (hK0 _ _ _).mpr ?_
      have hm3 := hm
      refine lv_iload hx hb dX8_copy_3 (lv_at hl 5 rfl) ?_
      refine lv_iload hx hb dX8_copy_5 (lv_at hl 4 rfl) ?_
      refine lv_icmp_ge (tgt := 28) hx hb dX8_copy_7 (by decide) (fun c7 => ?_) (fun c7 => ?_)
      · have gc7 := ai_le c7
        have u7t_a5 : a5.toInt ≤ (23 : Int) := ba5_u
        have l7t_j3l5 : (23 : Int) ≤ j3l5.toInt := Int.le_trans ba5_l gc7
        exact W.vret hx hb hr (fun t ht hW => ⟨⟨(), rfl, trivial, j3a3_a, (cpy3.trans (congrArg (va_cpy fa1 fa3 a2.toNatClampNeg a4.toNatClampNeg) (cp_e (n := 23) (by omega)))), by rw [ht]; exact hP, va_K.moved hW.alike hK, hD⟩, hS.F ht⟩) hS.2.2 dX8_copy_28
      · have gc7 := ai_nle c7
        have u7f_j3l5 : j3l5.toInt ≤ (22 : Int) := ai_lthi gc7 ba5_u
        have l7f_a5 : (23 : Int) ≤ a5.toInt := ba5_l
        refine lv_aload_n hx hb dX8_copy_10 rfl (lv_at hl 2 rfl) ?_
        refine lv_iload_n hx hb dX8_copy_11 rfl (lv_at hl 3 rfl) ?_
        refine lv_iload hx hb dX8_copy_12 (lv_at hl 5 rfl) ?_
        refine lv_iadd hx hb dX8_copy_14 ?_
        refine lv_topi (fun x14 ex14 => ?_)
        have qx14 : x14.toInt = a4.toInt + j3l5.toInt := ai_add ex14 ⟨ba4_l, ba4_u⟩ ⟨bj3l5_l, u7f_j3l5⟩ (by decide) (by decide)
        have bx14 : (0 : Int) ≤ x14.toInt ∧ x14.toInt ≤ 22 := ⟨by rw [qx14]; exact Int.add_le_add ba4_l bj3l5_l, by rw [qx14]; exact Int.add_le_add ba4_u u7f_j3l5⟩
        refine lv_aload_n hx hb dX8_copy_15 rfl (lv_at hl 0 rfl) ?_
        refine lv_iload_n hx hb dX8_copy_16 rfl (lv_at hl 1 rfl) ?_
        refine lv_iload hx hb dX8_copy_17 (lv_at hl 5 rfl) ?_
        refine lv_iadd hx hb dX8_copy_19 ?_
        refine lv_topi (fun x19 ex19 => ?_)
        have qx19 : x19.toInt = a2.toInt + j3l5.toInt := ai_add ex19 ⟨ba2_l, ba2_u⟩ ⟨bj3l5_l, u7f_j3l5⟩ (by decide) (by decide)
        have bx19 : (0 : Int) ≤ x19.toInt ∧ x19.toInt ≤ 367 := ⟨by rw [qx19]; exact Int.add_le_add ba2_l bj3l5_l, by rw [qx19]; exact Int.add_le_add ba2_u u7f_j3l5⟩
        refine va_iald hx hb hK hP 0 0 rfl rfl (ai_in bx19.1 bx19.2 (by decide) (by decide)) dX8_copy_20 ?_
        refine lv_topi (fun x20 ex20 => ?_)
        refine va_iast hx hb hK hP hD hS 1 1 rfl rfl (ai_in bx14.1 bx14.2 (by decide) (by decide)) dX8_copy_21 (fun H locs hP hD hS => ?_)
        obtain ⟨f21, ef21, hP, hD⟩ : ∃ g9 : Nat → Int32, g9 = upd j3a3_a (x14 : Int32).toNatClampNeg x20 ∧ va_P (dC, dI) vwCl [(a1, .inl (ka1, 368, .inl (fa1))), (a3, .inl (ka3, 23, .inl (g9)))] H ∧ va_D A [(a1, .inl (ka1, 368, .inl (fa1))), (a3, .inl (ka3, 23, .inl (g9)))] := ⟨_, rfl, hP, hD⟩
        obtain ⟨x22, ex22⟩ : ∃ y : Int32, y = j3l5 + Int32.ofInt 1 := ⟨_, rfl⟩
        have qx22 : x22.toInt = j3l5.toInt + 1 := ai_inc ex22 (by decide) (by decide) u7f_j3l5 (by decide)
        have bx22 : (1 : Int) ≤ x22.toInt ∧ x22.toInt ≤ 23 := ⟨by rw [qx22]; exact Int.add_le_add bj3l5_l (Int.le_refl _), by rw [qx22]; exact Int.add_le_add u7f_j3l5 (Int.le_refl _)⟩
        refine lv_iinc (v := x22) (lv' := [(5, .int x22), (0, .ref a1), (1, .int a2), (2, .ref a3), (3, .int a4), (4, .int a5)]) hx hb dX8_copy_22 hl (k := 5) rfl ex22.symm (by decide) rfl (fun ls hl => ?_)
        refine lv_goto (tgt := 3) hx hb dX8_copy_25 (by decide) ?_
        exact (hK0 _ _ _).mp (ih3 x22 f21 _ _ _ (by first | exact zg_s hm3 qx22 | (have h0 := qx22; omega)) (Int.le_trans zq4 bx22.1) bx22.2 (cp_s cpy3 ef21 ex20 (cp_i qx14 ba4_l bj3l5_l) (cp_i qx19 ba2_l bj3l5_l) (cp_k qx22 bj3l5_l)) hP hD hS (lv_sub hl [1, 2, 3, 4, 5, 0] rfl))
  exact (hK0 _ _ _).mp (J3 24 0 fa3 _ _ _ (by first | decide +kernel | (have h1 : (0 : Int) ≤ (0 : Int32).toInt := zq5; have h2 : (0 : Int32).toInt ≤ (0 : Int) := zq6; omega)) zq5 (Int.le_trans zq6 zq164) (cp_0 (by decide)) hP hD hS (lv_sub hl [1, 2, 3, 4, 5, 0] rfl))

set_option maxHeartbeats 4000000 in
set_option maxRecDepth 100000 in
theorem c_X8_copy_23_69 (l : Launch) (dC : Nat → ClassId) (dI : Nat → Nat → Nat) (sz : Nat) (a1 : Nat) (a2 : Int32) (a3 : Nat) (a4 : Int32) (a5 : Int32) (ka1 : ClassId) (fa1 : Nat → Int32) (ka3 : ClassId) (fa3 : Nat → Int32) (ba2_l : (0 : Int) ≤ a2.toInt) (ba2_u : a2.toInt ≤ (0 : Int)) (ba4_l : (0 : Int) ≤ a4.toInt) (ba4_u : a4.toInt ≤ (46 : Int)) (ba5_l : (23 : Int) ≤ a5.toInt) (ba5_u : a5.toInt ≤ (23 : Int)) : zm l yX8_copy wsX8_copy ({ frames := 0, cells := 0, slots := 0, locals := 0 }) [.ref a1, .int a2, .ref a3, .int a4, .int a5] dC dI sz [(a1, .inl (ka1, 23, .inl (fa1))), (a3, .inl (ka3, 69, .inl (fa3)))] [(ka1, .int), (ka3, .int)] (fun A _ => True) (fun A => va_Qv (fun (_ : Unit) => True) (fun (_ : Unit) (t : State) => ∃ nfa3 : Nat → Int32, nfa3 = va_cpy fa1 fa3 a2.toNatClampNeg a4.toNatClampNeg 23 ∧ ax_B dC dI A [(a1, .inl (ka1, 23, .inl (fa1))), (a3, .inl (ka3, 69, .inl (nfa3)))] [(ka1, .int), (ka3, .int)] t) A) := by
  refine zh (cc := cX8_copy) (maxL := 6) (ret := none) zn_RX8 rfl (Nat.le_of_ble_eq_true rfl) (fun p e s m below meth c A ls hx hb hml hr hts (hown : s.vm.findClass RX8 = some m.cls) hlocks hA hS hP hK hD hE (hl : lv_has ls 6 [(0, .ref a1), (1, .int a2), (2, .ref a3), (3, .int a4), (4, .int a5)]) => ?_)
  refine ai_open (fun K hK0 => ?_)
  refine (hK0 _ _ _).mpr ?_
  refine lv_iconst (v := 0) hx hb dX8_copy_0 zk_iconst_0 ?_
  refine lv_istore (lv' := [(5, .int 0), (0, .ref a1), (1, .int a2), (2, .ref a3), (3, .int a4), (4, .int a5)]) hx hb dX8_copy_1 hl (by decide) rfl (fun ls hl => ?_)
  have J3 : ∀ (n : Nat) (j3l5 : Int32) (j3a3_a : Nat → Int32) (H : Heap) (locs : List Loc) (ls : Array Slot), (24 : Int) - j3l5.toInt ≤ (n : Int) → (0 : Int) ≤ j3l5.toInt → j3l5.toInt ≤ (23 : Int) → (j3a3_a = va_cpy fa1 fa3 a2.toNatClampNeg a4.toNatClampNeg j3l5.toNatClampNeg) → va_P (dC, dI) vwCl [(a1, .inl (ka1, 23, .inl (fa1))), (a3, .inl (ka3, 69, .inl (j3a3_a)))] H → va_D A [(a1, .inl (ka1, 23, .inl (fa1))), (a3, .inl (ka3, 69, .inl (j3a3_a)))] → va_S A s.heap H locs → lv_has ls 6 [(0, .ref a1), (1, .int a2), (2, .ref a3), (3, .int a4), (4, .int a5), (5, .int j3l5)] → K H locs (F0 m 3 ls []) := by
    intro n
    induction n with
    | zero =>
      intro j3l5 j3a3_a H locs ls hm bj3l5_l bj3l5_u cpy3 hP hD hS hl
      first | exact zg_0 hm bj3l5_u (by decide) | (have h8 := ai_min j3l5; have h9 := ai_max j3l5; exact absurd hm (by omega))
    | succ n ih3 =>
      intro j3l5 j3a3_a H locs ls hm bj3l5_l bj3l5_u cpy3 hP hD hS hl
      refine (hK0 _ _ _).mpr ?_
      have hm3 := hm
      refine lv_iload hx hb dX8_copy_3 (lv_at hl 5 rfl) ?_
      refine lv_iload hx hb dX8_copy_5 (lv_at hl 4 rfl) ?_
      refine lv_icmp_ge (tgt := 28) hx hb dX8_copy_7 (by decide) (fun c7 => ?_) (fun c7 => ?_)
      · have gc7 := ai_le c7
        have u7t_a5 : a5.toInt ≤ (23 : Int) := ba5_u
        have l7t_j3l5 : (23 : Int) ≤ j3l5.toInt := Int.le_trans ba5_l gc7
        exact W.vret hx hb hr (fun t ht hW => ⟨⟨(), rfl, trivial, j3a3_a, (cpy3.trans (congrArg (va_cpy fa1 fa3 a2.toNatClampNeg a4.toNatClampNeg) (cp_e (n := 23) (by omega)))), by rw [ht]; exact hP, va_K.moved hW.alike hK, hD⟩, hS.F ht⟩) hS.2.2 dX8_copy_28
      · have gc7 := ai_nle c7
        have u7f_j3l5 : j3l5.toInt ≤ (22 : Int) := ai_lthi gc7 ba5_u
        have l7f_a5 : (23 : Int) ≤ a5.toInt := ba5_l
        refine lv_aload_n hx hb dX8_copy_10 rfl (lv_at hl 2 rfl) ?_
        refine lv_iload_n hx hb dX8_copy_11 rfl (lv_at hl 3 rfl) ?_
        refine lv_iload hx hb dX8_copy_12 (lv_at hl 5 rfl) ?_
        refine lv_iadd hx hb dX8_copy_14 ?_
        refine lv_topi (fun x14 ex14 => ?_)
        have qx14 : x14.toInt = a4.toInt + j3l5.toInt := ai_add ex14 ⟨ba4_l, ba4_u⟩ ⟨bj3l5_l, u7f_j3l5⟩ (by decide) (by decide)
        have bx14 : (0 : Int) ≤ x14.toInt ∧ x14.toInt ≤ 68 := ⟨by rw [qx14]; exact Int.add_le_add ba4_l bj3l5_l, by rw [qx14]; exact Int.add_le_add ba4_u u7f_j3l5⟩
        refine lv_aload_n hx hb dX8_copy_15 rfl (lv_at hl 0 rfl) ?_
        refine lv_iload_n hx hb dX8_copy_16 rfl (lv_at hl 1 rfl) ?_
        refine lv_iload hx hb dX8_copy_17 (lv_at hl 5 rfl) ?_
        refine lv_iadd hx hb dX8_copy_19 ?_
        refine lv_topi (fun x19 ex19 => ?_)
        have qx19 : x19.toInt = a2.toInt + j3l5.toInt := ai_add ex19 ⟨ba2_l, ba2_u⟩ ⟨bj3l5_l, u7f_j3l5⟩ (by decide) (by decide)
        have bx19 : (0 : Int) ≤ x19.toInt ∧ x19.toInt ≤ 22 := ⟨by rw [qx19]; exact Int.add_le_add ba2_l bj3l5_l, by rw [qx19]; exact Int.add_le_add ba2_u u7f_j3l5⟩
        refine va_iald hx hb hK hP 0 0 rfl rfl (ai_in bx19.1 bx19.2 (by decide) (by decide)) dX8_copy_20 ?_
        refine lv_topi (fun x20 ex20 => ?_)
        refine va_iast hx hb hK hP hD hS 1 1 rfl rfl (ai_in bx14.1 bx14.2 (by decide) (by decide)) dX8_copy_21 (fun H locs hP hD hS => ?_)
        obtain ⟨f21, ef21, hP, hD⟩ : ∃ g9 : Nat → Int32, g9 = upd j3a3_a (x14 : Int32).toNatClampNeg x20 ∧ va_P (dC, dI) vwCl [(a1, .inl (ka1, 23, .inl (fa1))), (a3, .inl (ka3, 69, .inl (g9)))] H ∧ va_D A [(a1, .inl (ka1, 23, .inl (fa1))), (a3, .inl (ka3, 69, .inl (g9)))] := ⟨_, rfl, hP, hD⟩
        obtain ⟨x22, ex22⟩ : ∃ y : Int32, y = j3l5 + Int32.ofInt 1 := ⟨_, rfl⟩
        have qx22 : x22.toInt = j3l5.toInt + 1 := ai_inc ex22 (by decide) (by decide) u7f_j3l5 (by decide)
        have bx22 : (1 : Int) ≤ x22.toInt ∧ x22.toInt ≤ 23 := ⟨by rw [qx22]; exact Int.add_le_add bj3l5_l (Int.le_refl _), by rw [qx22]; exact Int.add_le_add u7f_j3l5 (Int.le_refl _)⟩
        refine lv_iinc (v := x22) (lv' := [(5, .int x22), (0, .ref a1), (1, .int a2), (2, .ref a3), (3, .int a4), (4, .int a5)]) hx hb dX8_copy_22 hl (k := 5) rfl ex22.symm (by decide) rfl (fun ls hl => ?_)
        refine lv_goto (tgt := 3) hx hb dX8_copy_25 (by decide) ?_
        exact (hK0 _ _ _).mp (ih3 x22 f21 _ _ _ (by first | exact zg_s hm3 qx22 | (have h0 := qx22; omega)) (Int.le_trans zq4 bx22.1) bx22.2 (cp_s cpy3 ef21 ex20 (cp_i qx14 ba4_l bj3l5_l) (cp_i qx19 ba2_l bj3l5_l) (cp_k qx22 bj3l5_l)) hP hD hS (lv_sub hl [1, 2, 3, 4, 5, 0] rfl))
  exact (hK0 _ _ _).mp (J3 24 0 fa3 _ _ _ (by first | decide +kernel | (have h1 : (0 : Int) ≤ (0 : Int32).toInt := zq5; have h2 : (0 : Int32).toInt ≤ (0 : Int) := zq6; omega)) zq5 (Int.le_trans zq6 zq164) (cp_0 (by decide)) hP hD hS (lv_sub hl [1, 2, 3, 4, 5, 0] rfl))

set_option maxHeartbeats 4000000 in
set_option maxRecDepth 100000 in
theorem c_X8_copy_69_23 (l : Launch) (dC : Nat → ClassId) (dI : Nat → Nat → Nat) (sz : Nat) (a1 : Nat) (a2 : Int32) (a3 : Nat) (a4 : Int32) (a5 : Int32) (ka1 : ClassId) (fa1 : Nat → Int32) (ka3 : ClassId) (fa3 : Nat → Int32) (ba2_l : (0 : Int) ≤ a2.toInt) (ba2_u : a2.toInt ≤ (46 : Int)) (ba4_l : (0 : Int) ≤ a4.toInt) (ba4_u : a4.toInt ≤ (0 : Int)) (ba5_l : (23 : Int) ≤ a5.toInt) (ba5_u : a5.toInt ≤ (23 : Int)) : zm l yX8_copy wsX8_copy ({ frames := 0, cells := 0, slots := 0, locals := 0 }) [.ref a1, .int a2, .ref a3, .int a4, .int a5] dC dI sz [(a1, .inl (ka1, 69, .inl (fa1))), (a3, .inl (ka3, 23, .inl (fa3)))] [(ka1, .int), (ka3, .int)] (fun A _ => True) (fun A => va_Qv (fun (_ : Unit) => True) (fun (_ : Unit) (t : State) => ∃ nfa3 : Nat → Int32, nfa3 = va_cpy fa1 fa3 a2.toNatClampNeg a4.toNatClampNeg 23 ∧ ax_B dC dI A [(a1, .inl (ka1, 69, .inl (fa1))), (a3, .inl (ka3, 23, .inl (nfa3)))] [(ka1, .int), (ka3, .int)] t) A) := by
  refine zh (cc := cX8_copy) (maxL := 6) (ret := none) zn_RX8 rfl (Nat.le_of_ble_eq_true rfl) (fun p e s m below meth c A ls hx hb hml hr hts (hown : s.vm.findClass RX8 = some m.cls) hlocks hA hS hP hK hD hE (hl : lv_has ls 6 [(0, .ref a1), (1, .int a2), (2, .ref a3), (3, .int a4), (4, .int a5)]) => ?_)
  refine ai_open (fun K hK0 => ?_)
  refine (hK0 _ _ _).mpr ?_
  refine lv_iconst (v := 0) hx hb dX8_copy_0 zk_iconst_0 ?_
  refine lv_istore (lv' := [(5, .int 0), (0, .ref a1), (1, .int a2), (2, .ref a3), (3, .int a4), (4, .int a5)]) hx hb dX8_copy_1 hl (by decide) rfl (fun ls hl => ?_)
  have J3 : ∀ (n : Nat) (j3l5 : Int32) (j3a3_a : Nat → Int32) (H : Heap) (locs : List Loc) (ls : Array Slot), (24 : Int) - j3l5.toInt ≤ (n : Int) → (0 : Int) ≤ j3l5.toInt → j3l5.toInt ≤ (23 : Int) → (j3a3_a = va_cpy fa1 fa3 a2.toNatClampNeg a4.toNatClampNeg j3l5.toNatClampNeg) → va_P (dC, dI) vwCl [(a1, .inl (ka1, 69, .inl (fa1))), (a3, .inl (ka3, 23, .inl (j3a3_a)))] H → va_D A [(a1, .inl (ka1, 69, .inl (fa1))), (a3, .inl (ka3, 23, .inl (j3a3_a)))] → va_S A s.heap H locs → lv_has ls 6 [(0, .ref a1), (1, .int a2), (2, .ref a3), (3, .int a4), (4, .int a5), (5, .int j3l5)] → K H locs (F0 m 3 ls []) := by
    intro n
    induction n with
    | zero =>
      intro j3l5 j3a3_a H locs ls hm bj3l5_l bj3l5_u cpy3 hP hD hS hl
      first | exact zg_0 hm bj3l5_u (by decide) | (have h8 := ai_min j3l5; have h9 := ai_max j3l5; exact absurd hm (by omega))
    | succ n ih3 =>
      intro j3l5 j3a3_a H locs ls hm bj3l5_l bj3l5_u cpy3 hP hD hS hl
      refine (hK0 _ _ _).mpr ?_
      have hm3 := hm
      refine lv_iload hx hb dX8_copy_3 (lv_at hl 5 rfl) ?_
      refine lv_iload hx hb dX8_copy_5 (lv_at hl 4 rfl) ?_
      refine lv_icmp_ge (tgt := 28) hx hb dX8_copy_7 (by decide) (fun c7 => ?_) (fun c7 => ?_)
      · have gc7 := ai_le c7
        have u7t_a5 : a5.toInt ≤ (23 : Int) := ba5_u
        have l7t_j3l5 : (23 : Int) ≤ j3l5.toInt := Int.le_trans ba5_l gc7
        exact W.vret hx hb hr (fun t ht hW => ⟨⟨(), rfl, trivial, j3a3_a, (cpy3.trans (congrArg (va_cpy fa1 fa3 a2.toNatClampNeg a4.toNatClampNeg) (cp_e (n := 23) (by omega)))), by rw [ht]; exact hP, va_K.moved hW.alike hK, hD⟩, hS.F ht⟩) hS.2.2 dX8_copy_28
      · have gc7 := ai_nle c7
        have u7f_j3l5 : j3l5.toInt ≤ (22 : Int) := ai_lthi gc7 ba5_u
        have l7f_a5 : (23 : Int) ≤ a5.toInt := ba5_l
        refine lv_aload_n hx hb dX8_copy_10 rfl (lv_at hl 2 rfl) ?_
        refine lv_iload_n hx hb dX8_copy_11 rfl (lv_at hl 3 rfl) ?_
        refine lv_iload hx hb dX8_copy_12 (lv_at hl 5 rfl) ?_
        refine lv_iadd hx hb dX8_copy_14 ?_
        refine lv_topi (fun x14 ex14 => ?_)
        have qx14 : x14.toInt = a4.toInt + j3l5.toInt := ai_add ex14 ⟨ba4_l, ba4_u⟩ ⟨bj3l5_l, u7f_j3l5⟩ (by decide) (by decide)
        have bx14 : (0 : Int) ≤ x14.toInt ∧ x14.toInt ≤ 22 := ⟨by rw [qx14]; exact Int.add_le_add ba4_l bj3l5_l, by rw [qx14]; exact Int.add_le_add ba4_u u7f_j3l5⟩
        refine lv_aload_n hx hb dX8_copy_15 rfl (lv_at hl 0 rfl) ?_
        refine lv_iload_n hx hb dX8_copy_16 rfl (lv_at hl 1 rfl) ?_
        refine lv_iload hx hb dX8_copy_17 (lv_at hl 5 rfl) ?_
        refine lv_iadd hx hb dX8_copy_19 ?_
        refine lv_topi (fun x19 ex19 => ?_)
        have qx19 : x19.toInt = a2.toInt + j3l5.toInt := ai_add ex19 ⟨ba2_l, ba2_u⟩ ⟨bj3l5_l, u7f_j3l5⟩ (by decide) (by decide)
        have bx19 : (0 : Int) ≤ x19.toInt ∧ x19.toInt ≤ 68 := ⟨by rw [qx19]; exact Int.add_le_add ba2_l bj3l5_l, by rw [qx19]; exact Int.add_le_add ba2_u u7f_j3l5⟩
        refine va_iald hx hb hK hP 0 0 rfl rfl (ai_in bx19.1 bx19.2 (by decide) (by decide)) dX8_copy_20 ?_
        refine lv_topi (fun x20 ex20 => ?_)
        refine va_iast hx hb hK hP hD hS 1 1 rfl rfl (ai_in bx14.1 bx14.2 (by decide) (by decide)) dX8_copy_21 (fun H locs hP hD hS => ?_)
        obtain ⟨f21, ef21, hP, hD⟩ : ∃ g9 : Nat → Int32, g9 = upd j3a3_a (x14 : Int32).toNatClampNeg x20 ∧ va_P (dC, dI) vwCl [(a1, .inl (ka1, 69, .inl (fa1))), (a3, .inl (ka3, 23, .inl (g9)))] H ∧ va_D A [(a1, .inl (ka1, 69, .inl (fa1))), (a3, .inl (ka3, 23, .inl (g9)))] := ⟨_, rfl, hP, hD⟩
        obtain ⟨x22, ex22⟩ : ∃ y : Int32, y = j3l5 + Int32.ofInt 1 := ⟨_, rfl⟩
        have qx22 : x22.toInt = j3l5.toInt + 1 := ai_inc ex22 (by decide) (by decide) u7f_j3l5 (by decide)
        have bx22 : (1 : Int) ≤ x22.toInt ∧ x22.toInt ≤ 23 := ⟨by rw [qx22]; exact Int.add_le_add bj3l5_l (Int.le_refl _), by rw [qx22]; exact Int.add_le_add u7f_j3l5 (Int.le_refl _)⟩
        refine lv_iinc (v := x22) (lv' := [(5, .int x22), (0, .ref a1), (1, .int a2), (2, .ref a3), (3, .int a4), (4, .int a5)]) hx hb dX8_copy_22 hl (k := 5) rfl ex22.symm (by decide) rfl (fun ls hl => ?_)
        refine lv_goto (tgt := 3) hx hb dX8_copy_25 (by decide) ?_
        exact (hK0 _ _ _).mp (ih3 x22 f21 _ _ _ (by first | exact zg_s hm3 qx22 | (have h0 := qx22; omega)) (Int.le_trans zq4 bx22.1) bx22.2 (cp_s cpy3 ef21 ex20 (cp_i qx14 ba4_l bj3l5_l) (cp_i qx19 ba2_l bj3l5_l) (cp_k qx22 bj3l5_l)) hP hD hS (lv_sub hl [1, 2, 3, 4, 5, 0] rfl))
  exact (hK0 _ _ _).mp (J3 24 0 fa3 _ _ _ (by first | decide +kernel | (have h1 : (0 : Int) ≤ (0 : Int32).toInt := zq5; have h2 : (0 : Int32).toInt ≤ (0 : Int) := zq6; omega)) zq5 (Int.le_trans zq6 zq164) (cp_0 (by decide)) hP hD hS (lv_sub hl [1, 2, 3, 4, 5, 0] rfl))

set_option maxHeartbeats 4000000 in
set_option maxRecDepth 100000 in
theorem c_X8_copy_156_156 (l : Launch) (dC : Nat → ClassId) (dI : Nat → Nat → Nat) (sz : Nat) (a1 : Nat) (a2 : Int32) (a3 : Nat) (a4 : Int32) (a5 : Int32) (ka1 : ClassId) (fa1 : Nat → Int32) (ka3 : ClassId) (fa3 : Nat → Int32) (ba2_l : (0 : Int) ≤ a2.toInt) (ba2_u : a2.toInt ≤ (0 : Int)) (ba4_l : (0 : Int) ≤ a4.toInt) (ba4_u : a4.toInt ≤ (0 : Int)) (ba5_l : (156 : Int) ≤ a5.toInt) (ba5_u : a5.toInt ≤ (156 : Int)) : zm l yX8_copy wsX8_copy ({ frames := 0, cells := 0, slots := 0, locals := 0 }) [.ref a1, .int a2, .ref a3, .int a4, .int a5] dC dI sz [(a1, .inl (ka1, 156, .inl (fa1))), (a3, .inl (ka3, 156, .inl (fa3)))] [(ka1, .int), (ka3, .int)] (fun A _ => True) (fun A => va_Qv (fun (_ : Unit) => True) (fun (_ : Unit) (t : State) => ∃ nfa3 : Nat → Int32, nfa3 = va_cpy fa1 fa3 a2.toNatClampNeg a4.toNatClampNeg 156 ∧ ax_B dC dI A [(a1, .inl (ka1, 156, .inl (fa1))), (a3, .inl (ka3, 156, .inl (nfa3)))] [(ka1, .int), (ka3, .int)] t) A) := by
  refine zh (cc := cX8_copy) (maxL := 6) (ret := none) zn_RX8 rfl (Nat.le_of_ble_eq_true rfl) (fun p e s m below meth c A ls hx hb hml hr hts (hown : s.vm.findClass RX8 = some m.cls) hlocks hA hS hP hK hD hE (hl : lv_has ls 6 [(0, .ref a1), (1, .int a2), (2, .ref a3), (3, .int a4), (4, .int a5)]) => ?_)
  refine ai_open (fun K hK0 => ?_)
  refine (hK0 _ _ _).mpr ?_
  refine lv_iconst (v := 0) hx hb dX8_copy_0 zk_iconst_0 ?_
  refine lv_istore (lv' := [(5, .int 0), (0, .ref a1), (1, .int a2), (2, .ref a3), (3, .int a4), (4, .int a5)]) hx hb dX8_copy_1 hl (by decide) rfl (fun ls hl => ?_)
  have J3 : ∀ (n : Nat) (j3l5 : Int32) (j3a3_a : Nat → Int32) (H : Heap) (locs : List Loc) (ls : Array Slot), (157 : Int) - j3l5.toInt ≤ (n : Int) → (0 : Int) ≤ j3l5.toInt → j3l5.toInt ≤ (156 : Int) → (j3a3_a = va_cpy fa1 fa3 a2.toNatClampNeg a4.toNatClampNeg j3l5.toNatClampNeg) → va_P (dC, dI) vwCl [(a1, .inl (ka1, 156, .inl (fa1))), (a3, .inl (ka3, 156, .inl (j3a3_a)))] H → va_D A [(a1, .inl (ka1, 156, .inl (fa1))), (a3, .inl (ka3, 156, .inl (j3a3_a)))] → va_S A s.heap H locs → lv_has ls 6 [(0, .ref a1), (1, .int a2), (2, .ref a3), (3, .int a4), (4, .int a5), (5, .int j3l5)] → K H locs (F0 m 3 ls []) := by
    intro n
    induction n with
    | zero =>
      intro j3l5 j3a3_a H locs ls hm bj3l5_l bj3l5_u cpy3 hP hD hS hl
      first | exact zg_0 hm bj3l5_u (by decide) | (have h8 := ai_min j3l5; have h9 := ai_max j3l5; exact absurd hm (by omega))
    | succ n ih3 =>
      intro j3l5 j3a3_a H locs ls hm bj3l5_l bj3l5_u cpy3 hP hD hS hl
      refine (hK0 _ _ _).mpr ?_
      have hm3 := hm
      refine lv_iload hx hb dX8_copy_3 (lv_at hl 5 rfl) ?_
      refine lv_iload hx hb dX8_copy_5 (lv_at hl 4 rfl) ?_
      refine lv_icmp_ge (tgt := 28) hx hb dX8_copy_7 (by decide) (fun c7 => ?_) (fun c7 => ?_)
      · have gc7 := ai_le c7
        have u7t_a5 : a5.toInt ≤ (156 : Int) := ba5_u
        have l7t_j3l5 : (156 : Int) ≤ j3l5.toInt := Int.le_trans ba5_l gc7
        exact W.vret hx hb hr (fun t ht hW => ⟨⟨(), rfl, trivial, j3a3_a, (cpy3.trans (congrArg (va_cpy fa1 fa3 a2.toNatClampNeg a4.toNatClampNeg) (cp_e (n := 156) (by omega)))), by rw [ht]; exact hP, va_K.moved hW.alike hK, hD⟩, hS.F ht⟩) hS.2.2 dX8_copy_28
      · have gc7 := ai_nle c7
        have u7f_j3l5 : j3l5.toInt ≤ (155 : Int) := ai_lthi gc7 ba5_u
        have l7f_a5 : (156 : Int) ≤ a5.toInt := ba5_l
        refine lv_aload_n hx hb dX8_copy_10 rfl (lv_at hl 2 rfl) ?_
        refine lv_iload_n hx hb dX8_copy_11 rfl (lv_at hl 3 rfl) ?_
        refine lv_iload hx hb dX8_copy_12 (lv_at hl 5 rfl) ?_
        refine lv_iadd hx hb dX8_copy_14 ?_
        refine lv_topi (fun x14 ex14 => ?_)
        have qx14 : x14.toInt = a4.toInt + j3l5.toInt := ai_add ex14 ⟨ba4_l, ba4_u⟩ ⟨bj3l5_l, u7f_j3l5⟩ (by decide) (by decide)
        have bx14 : (0 : Int) ≤ x14.toInt ∧ x14.toInt ≤ 155 := ⟨by rw [qx14]; exact Int.add_le_add ba4_l bj3l5_l, by rw [qx14]; exact Int.add_le_add ba4_u u7f_j3l5⟩
        refine lv_aload_n hx hb dX8_copy_15 rfl (lv_at hl 0 rfl) ?_
        refine lv_iload_n hx hb dX8_copy_16 rfl (lv_at hl 1 rfl) ?_
        refine lv_iload hx hb dX8_copy_17 (lv_at hl 5 rfl) ?_
        refine lv_iadd hx hb dX8_copy_19 ?_
        refine lv_topi (fun x19 ex19 => ?_)
        have qx19 : x19.toInt = a2.toInt + j3l5.toInt := ai_add ex19 ⟨ba2_l, ba2_u⟩ ⟨bj3l5_l, u7f_j3l5⟩ (by decide) (by decide)
        have bx19 : (0 : Int) ≤ x19.toInt ∧ x19.toInt ≤ 155 := ⟨by rw [qx19]; exact Int.add_le_add ba2_l bj3l5_l, by rw [qx19]; exact Int.add_le_add ba2_u u7f_j3l5⟩
        refine va_iald hx hb hK hP 0 0 rfl rfl (ai_in bx19.1 bx19.2 (by decide) (by decide)) dX8_copy_20 ?_
        refine lv_topi (fun x20 ex20 => ?_)
        refine va_iast hx hb hK hP hD hS 1 1 rfl rfl (ai_in bx14.1 bx14.2 (by decide) (by decide)) dX8_copy_21 (fun H locs hP hD hS => ?_)
        obtain ⟨f21, ef21, hP, hD⟩ : ∃ g9 : Nat → Int32, g9 = upd j3a3_a (x14 : Int32).toNatClampNeg x20 ∧ va_P (dC, dI) vwCl [(a1, .inl (ka1, 156, .inl (fa1))), (a3, .inl (ka3, 156, .inl (g9)))] H ∧ va_D A [(a1, .inl (ka1, 156, .inl (fa1))), (a3, .inl (ka3, 156, .inl (g9)))] := ⟨_, rfl, hP, hD⟩
        obtain ⟨x22, ex22⟩ : ∃ y : Int32, y = j3l5 + Int32.ofInt 1 := ⟨_, rfl⟩
        have qx22 : x22.toInt = j3l5.toInt + 1 := ai_inc ex22 (by decide) (by decide) u7f_j3l5 (by decide)
        have bx22 : (1 : Int) ≤ x22.toInt ∧ x22.toInt ≤ 156 := ⟨by rw [qx22]; exact Int.add_le_add bj3l5_l (Int.le_refl _), by rw [qx22]; exact Int.add_le_add u7f_j3l5 (Int.le_refl _)⟩
        refine lv_iinc (v := x22) (lv' := [(5, .int x22), (0, .ref a1), (1, .int a2), (2, .ref a3), (3, .int a4), (4, .int a5)]) hx hb dX8_copy_22 hl (k := 5) rfl ex22.symm (by decide) rfl (fun ls hl => ?_)
        refine lv_goto (tgt := 3) hx hb dX8_copy_25 (by decide) ?_
        exact (hK0 _ _ _).mp (ih3 x22 f21 _ _ _ (by first | exact zg_s hm3 qx22 | (have h0 := qx22; omega)) (Int.le_trans zq4 bx22.1) bx22.2 (cp_s cpy3 ef21 ex20 (cp_i qx14 ba4_l bj3l5_l) (cp_i qx19 ba2_l bj3l5_l) (cp_k qx22 bj3l5_l)) hP hD hS (lv_sub hl [1, 2, 3, 4, 5, 0] rfl))
  exact (hK0 _ _ _).mp (J3 157 0 fa3 _ _ _ (by first | decide +kernel | (have h1 : (0 : Int) ≤ (0 : Int32).toInt := zq5; have h2 : (0 : Int32).toInt ≤ (0 : Int) := zq6; omega)) zq5 (Int.le_trans zq6 zq167) (cp_0 (by decide)) hP hD hS (lv_sub hl [1, 2, 3, 4, 5, 0] rfl))
end P230_00_safe
