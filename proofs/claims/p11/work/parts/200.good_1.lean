set_option maxRecDepth 20000 in
theorem gX3_readWatcher_X6_add : GoodIn wsX3_readWatcher (wsV RX3 211 RX6 yX6_add wsX6_add) := goodIn_s _ [(101, 8), (138, 4)] rfl (by decide +kernel)
set_option maxRecDepth 20000 in
theorem gX3_readSeen_X3_takeWhole : GoodIn wsX3_readSeen (wsV RX3 152 RX3 yX3_takeWhole wsX3_takeWhole) := goodIn_s _ [(5, 5), (4, 1), (3, 1), (10, 3), (8, 1), (13, 81), (110, 14)] rfl (by decide +kernel)
set_option maxRecDepth 20000 in
theorem gX3_readSeen_X3_takeWord : GoodIn wsX3_readSeen (wsV RX3 189 RX3 yX3_takeWord wsX3_takeWord) := goodIn_s _ [(94, 3), (8, 1), (97, 1), (10, 3), (8, 1), (13, 74), (4, 1), (110, 14)] rfl (by decide +kernel)
set_option maxRecDepth 20000 in
theorem gX3_readSeen_X3_isWholeWithin : GoodIn wsX3_readSeen (wsV RX3 192 RX3 yX3_isWholeWithin wsX3_isWholeWithin) := goodIn_s _ [(87, 3), (8, 1), (90, 1), (14, 1), (4, 1), (65, 3), (8, 1), (68, 4), (91, 3), (110, 14)] rfl (by decide +kernel)
set_option maxRecDepth 20000 in
theorem gX3_readSeen_X0_isSeenMinute : GoodIn wsX3_readSeen (wsV RX3 217 RX0 yX0_isSeenMinute wsX0_isSeenMinute) := goodIn_s _ [(98, 7), (124, 15)] rfl (by decide +kernel)
set_option maxRecDepth 20000 in
theorem gX3_readSeen_X3_fails : GoodIn wsX3_readSeen (wsV RX3 64 RX3 yX3_fails wsX3_fails) := goodIn_s _ [(65, 3), (8, 1), (68, 4), (110, 14)] rfl (by decide +kernel)
set_option maxRecDepth 20000 in
theorem gX3_readSeen_X0_addSeen : GoodIn wsX3_readSeen (wsV RX3 220 RX0 yX0_addSeen wsX0_addSeen) := goodIn_s _ [(105, 3), (101, 1), (108, 1), (103, 1), (109, 1), (104, 1), (124, 15)] rfl (by decide +kernel)
set_option maxRecDepth 20000 in
theorem gX3_readSeen_X3_advance : GoodIn wsX3_readSeen (wsV RX3 54 RX3 yX3_advance wsX3_advance) := goodIn_s _ [(72, 3), (8, 1), (75, 4), (70, 1), (14, 1), (79, 3), (8, 1), (82, 1), (15, 1), (83, 4), (4, 1), (110, 14)] rfl (by decide +kernel)
set_option maxRecDepth 20000 in
theorem gX3_takeWord_X3_isWord : GoodIn wsX3_takeWord (wsV RX3 100 RX3 yX3_isWord wsX3_isWord) := goodIn_s _ [(1, 56), (80, 14)] rfl (by decide +kernel)
set_option maxRecDepth 20000 in
theorem gX3_takeWord_X3_fails : GoodIn wsX3_takeWord (wsV RX3 64 RX3 yX3_fails wsX3_fails) := goodIn_s _ [(57, 3), (4, 1), (60, 4), (80, 14)] rfl (by decide +kernel)
set_option maxRecDepth 20000 in
theorem gX3_takeWord_X3_advance : GoodIn wsX3_takeWord (wsV RX3 54 RX3 yX3_advance wsX3_advance) := goodIn_s _ [(64, 3), (4, 1), (67, 4), (62, 1), (6, 1), (71, 3), (4, 1), (74, 1), (7, 1), (75, 19)] rfl (by decide +kernel)
set_option maxRecDepth 20000 in
theorem gX3_takeWhole_X3_isWord : GoodIn wsX3_takeWhole (wsV RX3 100 RX3 yX3_isWord wsX3_isWord) := goodIn_s _ [(3, 56), (88, 14)] rfl (by decide +kernel)
set_option maxRecDepth 20000 in
theorem gX3_takeWhole_X3_fails : GoodIn wsX3_takeWhole (wsV RX3 64 RX3 yX3_fails wsX3_fails) := goodIn_s _ [(59, 3), (6, 1), (62, 4), (88, 14)] rfl (by decide +kernel)
set_option maxRecDepth 20000 in
theorem gX3_takeWhole_X3_advance : GoodIn wsX3_takeWhole (wsV RX3 54 RX3 yX3_advance wsX3_advance) := goodIn_s _ [(66, 3), (6, 1), (69, 4), (64, 1), (8, 1), (73, 3), (6, 1), (76, 1), (9, 1), (77, 4), (1, 1), (88, 14)] rfl (by decide +kernel)
set_option maxRecDepth 20000 in
theorem gX3_takeWhole_X3_isWholeWithin : GoodIn wsX3_takeWhole (wsV RX3 192 RX3 yX3_isWholeWithin wsX3_isWholeWithin) := goodIn_s _ [(81, 3), (6, 1), (84, 1), (8, 1), (1, 1), (59, 3), (6, 1), (62, 4), (85, 17)] rfl (by decide +kernel)
set_option maxRecDepth 20000 in
theorem gX3_takeName_X3_isWord : GoodIn wsX3_takeName (wsV RX3 100 RX3 yX3_isWord wsX3_isWord) := goodIn_s _ [(5, 5), (1, 1), (4, 1), (10, 49), (82, 14)] rfl (by decide +kernel)
set_option maxRecDepth 20000 in
theorem gX3_takeName_X3_fails : GoodIn wsX3_takeName (wsV RX3 64 RX3 yX3_fails wsX3_fails) := goodIn_s _ [(59, 3), (8, 1), (62, 4), (82, 14)] rfl (by decide +kernel)
set_option maxRecDepth 20000 in
theorem gX3_takeName_X3_advance : GoodIn wsX3_takeName (wsV RX3 54 RX3 yX3_advance wsX3_advance) := goodIn_s _ [(66, 3), (8, 1), (69, 4), (64, 1), (1, 1), (73, 3), (8, 1), (76, 1), (4, 1), (77, 19)] rfl (by decide +kernel)
set_option maxRecDepth 20000 in
theorem gX7_feed_X3_append : GoodIn wsX7_feed (wsV RX7 74 RX3 yX3_append wsX3_append) := goodIn_s _ [(3, 7), (21, 14)] rfl (by decide +kernel)
set_option maxRecDepth 20000 in
theorem gX7_gallery_X7_within : GoodIn wsX7_gallery (va_wsS RX7 78 yX7_within wsX7_within) := goodIn_s _ [(13, 4)] rfl (by decide +kernel)
set_option maxRecDepth 20000 in
theorem gX7_gallery_X7_refused : GoodIn wsX7_gallery (wsV RX7 82 RX7 yX7_refused wsX7_refused) := goodIn_s _ [(17, 3), (15, 1), (20, 2), (248, 11)] rfl (by decide +kernel)
set_option maxRecDepth 20000 in
theorem gX7_gallery_X3_read : GoodIn wsX7_gallery (wsV RX7 86 RX3 yX3_read wsX3_read) := goodIn_s _ [(22, 34), (25, 1), (56, 95), (14, 3), (151, 59), (259, 33)] rfl (by decide +kernel)
set_option maxRecDepth 20000 in
theorem gX7_gallery_X3_exchange : GoodIn wsX7_gallery (wsV RX7 94 RX3 yX3_exchange wsX3_exchange) := goodIn_s _ [(210, 3), (25, 1), (213, 1), (33, 1), (259, 14)] rfl (by decide +kernel)
set_option maxRecDepth 20000 in
theorem gX7_gallery_X5_begin : GoodIn wsX7_gallery (wsV RX7 101 RX5 yX5_begin wsX5_begin) := goodIn_s _ [(214, 13), (217, 1), (227, 3), (292, 7)] rfl (by decide +kernel)
set_option maxRecDepth 20000 in
theorem gX7_gallery_X1_clear : GoodIn wsX7_gallery (wsV RX7 104 RX1 yX1_clear wsX1_clear) := goodIn_s _ [(230, 7), (299, 5)] rfl (by decide +kernel)
set_option maxRecDepth 20000 in
theorem gX7_gallery_X2_forget : GoodIn wsX7_gallery (wsV RX7 107 RX2 yX2_forget wsX2_forget) := goodIn_s _ [(237, 7), (304, 7)] rfl (by decide +kernel)
set_option maxRecDepth 20000 in
theorem gX7_gallery_X7_answered : GoodIn wsX7_gallery (wsV RX7 113 RX7 yX7_answered wsX7_answered) := goodIn_s _ [(244, 3), (15, 1), (247, 1), (21, 1), (248, 11)] rfl (by decide +kernel)
set_option maxRecDepth 20000 in
theorem gJ0_length_8abf5_J0_coder_7d493 : GoodIn wsJ0_length_8abf5 (wsV RJ0 335 RJ0 yJ0_coder_7d493 wsJ0_coder_7d493) := goodIn_s _ [(2, 7)] rfl (by decide +kernel)
set_option maxRecDepth 20000 in
theorem gJ0_charAt_5068e_J0_isLatin1_aae02 : GoodIn wsJ0_charAt_5068e (wsV RJ0 492 RJ0 yJ0_isLatin1_aae02 wsJ0_isLatin1_aae02) := goodIn_s _ [(2, 7)] rfl (by decide +kernel)
set_option maxRecDepth 20000 in
theorem gJ0_charAt_5068e_J1_charAt_3b067 : GoodIn wsJ0_charAt_5068e (va_wsS RJ0 495 yJ1_charAt_3b067 wsJ1_charAt_3b067) := goodIn_s _ [(9, 6), (5, 1), (15, 6)] rfl (by decide +kernel)
set_option maxRecDepth 20000 in
theorem gJ0_checkIndex_df160_J3_checkIndex_8e157 : GoodIn wsJ0_checkIndex_df160 (va_wsS RJ0 1059 yJ3_checkIndex_8e157 wsJ3_checkIndex_8e157) := goodIn_s _ [(2, 4)] rfl (by decide +kernel)
set_option maxRecDepth 20000 in
theorem gJ1_charAt_3b067_J0_checkIndex_df160 : GoodIn wsJ1_charAt_3b067 (va_wsS RJ1 9 yJ0_checkIndex_df160 wsJ0_checkIndex_df160) := goodIn_s _ [(1, 9)] rfl (by decide +kernel)
