set_option maxRecDepth 20000 in
theorem gX3_readWatcher_X6_add : GoodIn wsX3_readWatcher (wsV RX3 211 RX6 yX6_add wsX6_add) := goodIn_r _ [101, 102, 103, 104, 105, 106, 107, 108, 138, 139, 140, 141] rfl (by decide +kernel)
set_option maxRecDepth 20000 in
theorem gX3_readSeen_X3_takeWhole : GoodIn wsX3_readSeen (wsV RX3 152 RX3 yX3_takeWhole wsX3_takeWhole) := goodIn_r _ [5, 6, 7, 8, 9, 4, 3, 10, 11, 12, 8, 13, 14, 15, 16, 17, 18, 19, 20, 21, 22, 23, 24, 25, 26, 27, 28, 29, 30, 31, 32, 33, 34, 35, 36, 37, 38, 39, 40, 41, 42, 43, 44, 45, 46, 47, 48, 49, 50, 51, 52, 53, 54, 55, 56, 57, 58, 59, 60, 61, 62, 63, 64, 65, 66, 67, 68, 69, 70, 71, 72, 73, 74, 75, 76, 77, 78, 79, 80, 81, 82, 83, 84, 85, 86, 87, 88, 89, 90, 91, 92, 93, 110, 111, 112, 113, 114, 115, 116, 117, 118, 119, 120, 121, 122, 123] rfl (by decide +kernel)
set_option maxRecDepth 20000 in
theorem gX3_readSeen_X3_takeWord : GoodIn wsX3_readSeen (wsV RX3 189 RX3 yX3_takeWord wsX3_takeWord) := goodIn_r _ [94, 95, 96, 8, 97, 10, 11, 12, 8, 13, 14, 15, 16, 17, 18, 19, 20, 21, 22, 23, 24, 25, 26, 27, 28, 29, 30, 31, 32, 33, 34, 35, 36, 37, 38, 39, 40, 41, 42, 43, 44, 45, 46, 47, 48, 49, 50, 51, 52, 53, 54, 55, 56, 57, 58, 59, 60, 61, 62, 63, 64, 65, 66, 67, 68, 69, 70, 71, 72, 73, 74, 75, 76, 77, 78, 79, 80, 81, 82, 83, 84, 85, 86, 4, 110, 111, 112, 113, 114, 115, 116, 117, 118, 119, 120, 121, 122, 123] rfl (by decide +kernel)
set_option maxRecDepth 20000 in
theorem gX3_readSeen_X3_isWholeWithin : GoodIn wsX3_readSeen (wsV RX3 192 RX3 yX3_isWholeWithin wsX3_isWholeWithin) := goodIn_r _ [87, 88, 89, 8, 90, 14, 4, 65, 66, 67, 8, 68, 69, 70, 71, 91, 92, 93, 110, 111, 112, 113, 114, 115, 116, 117, 118, 119, 120, 121, 122, 123] rfl (by decide +kernel)
set_option maxRecDepth 20000 in
theorem gX3_readSeen_X0_isSeenMinute : GoodIn wsX3_readSeen (wsV RX3 217 RX0 yX0_isSeenMinute wsX0_isSeenMinute) := goodIn_r _ [98, 99, 100, 101, 102, 103, 104, 124, 125, 126, 127, 128, 129, 130, 131, 132, 133, 134, 135, 136, 137, 138] rfl (by decide +kernel)
set_option maxRecDepth 20000 in
theorem gX3_readSeen_X3_fails : GoodIn wsX3_readSeen (wsV RX3 64 RX3 yX3_fails wsX3_fails) := goodIn_r _ [65, 66, 67, 8, 68, 69, 70, 71, 110, 111, 112, 113, 114, 115, 116, 117, 118, 119, 120, 121, 122, 123] rfl (by decide +kernel)
set_option maxRecDepth 20000 in
theorem gX3_readSeen_X0_addSeen : GoodIn wsX3_readSeen (wsV RX3 220 RX0 yX0_addSeen wsX0_addSeen) := goodIn_r _ [105, 106, 107, 101, 108, 103, 109, 104, 124, 125, 126, 127, 128, 129, 130, 131, 132, 133, 134, 135, 136, 137, 138] rfl (by decide +kernel)
set_option maxRecDepth 20000 in
theorem gX3_readSeen_X3_advance : GoodIn wsX3_readSeen (wsV RX3 54 RX3 yX3_advance wsX3_advance) := goodIn_r _ [72, 73, 74, 8, 75, 76, 77, 78, 70, 14, 79, 80, 81, 8, 82, 15, 83, 84, 85, 86, 4, 110, 111, 112, 113, 114, 115, 116, 117, 118, 119, 120, 121, 122, 123] rfl (by decide +kernel)
set_option maxRecDepth 20000 in
theorem gX3_takeWord_X3_isWord : GoodIn wsX3_takeWord (wsV RX3 100 RX3 yX3_isWord wsX3_isWord) := goodIn_r _ [1, 2, 3, 4, 5, 6, 7, 8, 9, 10, 11, 12, 13, 14, 15, 16, 17, 18, 19, 20, 21, 22, 23, 24, 25, 26, 27, 28, 29, 30, 31, 32, 33, 34, 35, 36, 37, 38, 39, 40, 41, 42, 43, 44, 45, 46, 47, 48, 49, 50, 51, 52, 53, 54, 55, 56, 80, 81, 82, 83, 84, 85, 86, 87, 88, 89, 90, 91, 92, 93] rfl (by decide +kernel)
set_option maxRecDepth 20000 in
theorem gX3_takeWord_X3_fails : GoodIn wsX3_takeWord (wsV RX3 64 RX3 yX3_fails wsX3_fails) := goodIn_r _ [57, 58, 59, 4, 60, 61, 62, 63, 80, 81, 82, 83, 84, 85, 86, 87, 88, 89, 90, 91, 92, 93] rfl (by decide +kernel)
set_option maxRecDepth 20000 in
theorem gX3_takeWord_X3_advance : GoodIn wsX3_takeWord (wsV RX3 54 RX3 yX3_advance wsX3_advance) := goodIn_r _ [64, 65, 66, 4, 67, 68, 69, 70, 62, 6, 71, 72, 73, 4, 74, 7, 75, 76, 77, 78, 79, 80, 81, 82, 83, 84, 85, 86, 87, 88, 89, 90, 91, 92, 93] rfl (by decide +kernel)
set_option maxRecDepth 20000 in
theorem gX3_takeWhole_X3_isWord : GoodIn wsX3_takeWhole (wsV RX3 100 RX3 yX3_isWord wsX3_isWord) := goodIn_r _ [3, 4, 5, 6, 7, 8, 9, 10, 11, 12, 13, 14, 15, 16, 17, 18, 19, 20, 21, 22, 23, 24, 25, 26, 27, 28, 29, 30, 31, 32, 33, 34, 35, 36, 37, 38, 39, 40, 41, 42, 43, 44, 45, 46, 47, 48, 49, 50, 51, 52, 53, 54, 55, 56, 57, 58, 88, 89, 90, 91, 92, 93, 94, 95, 96, 97, 98, 99, 100, 101] rfl (by decide +kernel)
set_option maxRecDepth 20000 in
theorem gX3_takeWhole_X3_fails : GoodIn wsX3_takeWhole (wsV RX3 64 RX3 yX3_fails wsX3_fails) := goodIn_r _ [59, 60, 61, 6, 62, 63, 64, 65, 88, 89, 90, 91, 92, 93, 94, 95, 96, 97, 98, 99, 100, 101] rfl (by decide +kernel)
set_option maxRecDepth 20000 in
theorem gX3_takeWhole_X3_advance : GoodIn wsX3_takeWhole (wsV RX3 54 RX3 yX3_advance wsX3_advance) := goodIn_r _ [66, 67, 68, 6, 69, 70, 71, 72, 64, 8, 73, 74, 75, 6, 76, 9, 77, 78, 79, 80, 1, 88, 89, 90, 91, 92, 93, 94, 95, 96, 97, 98, 99, 100, 101] rfl (by decide +kernel)
set_option maxRecDepth 20000 in
theorem gX3_takeWhole_X3_isWholeWithin : GoodIn wsX3_takeWhole (wsV RX3 192 RX3 yX3_isWholeWithin wsX3_isWholeWithin) := goodIn_r _ [81, 82, 83, 6, 84, 8, 1, 59, 60, 61, 6, 62, 63, 64, 65, 85, 86, 87, 88, 89, 90, 91, 92, 93, 94, 95, 96, 97, 98, 99, 100, 101] rfl (by decide +kernel)
set_option maxRecDepth 20000 in
theorem gX3_takeName_X3_isWord : GoodIn wsX3_takeName (wsV RX3 100 RX3 yX3_isWord wsX3_isWord) := goodIn_r _ [5, 6, 7, 8, 9, 1, 4, 10, 11, 12, 13, 14, 15, 16, 17, 18, 19, 20, 21, 22, 23, 24, 25, 26, 27, 28, 29, 30, 31, 32, 33, 34, 35, 36, 37, 38, 39, 40, 41, 42, 43, 44, 45, 46, 47, 48, 49, 50, 51, 52, 53, 54, 55, 56, 57, 58, 82, 83, 84, 85, 86, 87, 88, 89, 90, 91, 92, 93, 94, 95] rfl (by decide +kernel)
set_option maxRecDepth 20000 in
theorem gX3_takeName_X3_fails : GoodIn wsX3_takeName (wsV RX3 64 RX3 yX3_fails wsX3_fails) := goodIn_r _ [59, 60, 61, 8, 62, 63, 64, 65, 82, 83, 84, 85, 86, 87, 88, 89, 90, 91, 92, 93, 94, 95] rfl (by decide +kernel)
set_option maxRecDepth 20000 in
theorem gX3_takeName_X3_advance : GoodIn wsX3_takeName (wsV RX3 54 RX3 yX3_advance wsX3_advance) := goodIn_r _ [66, 67, 68, 8, 69, 70, 71, 72, 64, 1, 73, 74, 75, 8, 76, 4, 77, 78, 79, 80, 81, 82, 83, 84, 85, 86, 87, 88, 89, 90, 91, 92, 93, 94, 95] rfl (by decide +kernel)
set_option maxRecDepth 20000 in
theorem gX7_feed_X3_append : GoodIn wsX7_feed (wsV RX7 74 RX3 yX3_append wsX3_append) := goodIn_r _ [3, 4, 5, 6, 7, 8, 9, 21, 22, 23, 24, 25, 26, 27, 28, 29, 30, 31, 32, 33, 34] rfl (by decide +kernel)
set_option maxRecDepth 20000 in
theorem gX7_gallery_X7_within : GoodIn wsX7_gallery (va_wsS RX7 78 yX7_within wsX7_within) := goodIn_r _ [13, 14, 15, 16] rfl (by decide +kernel)
set_option maxRecDepth 20000 in
theorem gX7_gallery_X7_refused : GoodIn wsX7_gallery (wsV RX7 82 RX7 yX7_refused wsX7_refused) := goodIn_r _ [17, 18, 19, 15, 20, 21, 248, 249, 250, 251, 252, 253, 254, 255, 256, 257, 258] rfl (by decide +kernel)
set_option maxRecDepth 20000 in
theorem gX7_gallery_X3_read : GoodIn wsX7_gallery (wsV RX7 86 RX3 yX3_read wsX3_read) := goodIn_r _ [22, 23, 24, 25, 26, 27, 28, 29, 30, 31, 32, 33, 34, 35, 36, 37, 38, 39, 40, 41, 42, 43, 44, 45, 46, 47, 48, 49, 50, 51, 52, 53, 54, 55, 25, 56, 57, 58, 59, 60, 61, 62, 63, 64, 65, 66, 67, 68, 69, 70, 71, 72, 73, 74, 75, 76, 77, 78, 79, 80, 81, 82, 83, 84, 85, 86, 87, 88, 89, 90, 91, 92, 93, 94, 95, 96, 97, 98, 99, 100, 101, 102, 103, 104, 105, 106, 107, 108, 109, 110, 111, 112, 113, 114, 115, 116, 117, 118, 119, 120, 121, 122, 123, 124, 125, 126, 127, 128, 129, 130, 131, 132, 133, 134, 135, 136, 137, 138, 139, 140, 141, 142, 143, 144, 145, 146, 147, 148, 149, 150, 14, 15, 16, 151, 152, 153, 154, 155, 156, 157, 158, 159, 160, 161, 162, 163, 164, 165, 166, 167, 168, 169, 170, 171, 172, 173, 174, 175, 176, 177, 178, 179, 180, 181, 182, 183, 184, 185, 186, 187, 188, 189, 190, 191, 192, 193, 194, 195, 196, 197, 198, 199, 200, 201, 202, 203, 204, 205, 206, 207, 208, 209, 259, 260, 261, 262, 263, 264, 265, 266, 267, 268, 269, 270, 271, 272, 273, 274, 275, 276, 277, 278, 279, 280, 281, 282, 283, 284, 285, 286, 287, 288, 289, 290, 291] rfl (by decide +kernel)
set_option maxRecDepth 20000 in
theorem gX7_gallery_X3_exchange : GoodIn wsX7_gallery (wsV RX7 94 RX3 yX3_exchange wsX3_exchange) := goodIn_r _ [210, 211, 212, 25, 213, 33, 259, 260, 261, 262, 263, 264, 265, 266, 267, 268, 269, 270, 271, 272] rfl (by decide +kernel)
set_option maxRecDepth 20000 in
theorem gX7_gallery_X5_begin : GoodIn wsX7_gallery (wsV RX7 101 RX5 yX5_begin wsX5_begin) := goodIn_r _ [214, 215, 216, 217, 218, 219, 220, 221, 222, 223, 224, 225, 226, 217, 227, 228, 229, 292, 293, 294, 295, 296, 297, 298] rfl (by decide +kernel)
set_option maxRecDepth 20000 in
theorem gX7_gallery_X1_clear : GoodIn wsX7_gallery (wsV RX7 104 RX1 yX1_clear wsX1_clear) := goodIn_r _ [230, 231, 232, 233, 234, 235, 236, 299, 300, 301, 302, 303] rfl (by decide +kernel)
set_option maxRecDepth 20000 in
theorem gX7_gallery_X2_forget : GoodIn wsX7_gallery (wsV RX7 107 RX2 yX2_forget wsX2_forget) := goodIn_r _ [237, 238, 239, 240, 241, 242, 243, 304, 305, 306, 307, 308, 309, 310] rfl (by decide +kernel)
set_option maxRecDepth 20000 in
theorem gX7_gallery_X7_answered : GoodIn wsX7_gallery (wsV RX7 113 RX7 yX7_answered wsX7_answered) := goodIn_r _ [244, 245, 246, 15, 247, 21, 248, 249, 250, 251, 252, 253, 254, 255, 256, 257, 258] rfl (by decide +kernel)
set_option maxRecDepth 20000 in
theorem gJ0_length_8abf5_J0_coder_7d493 : GoodIn wsJ0_length_8abf5 (wsV RJ0 335 RJ0 yJ0_coder_7d493 wsJ0_coder_7d493) := goodIn_r _ [2, 3, 4, 5, 6, 7, 8] rfl (by decide +kernel)
set_option maxRecDepth 20000 in
theorem gJ0_charAt_5068e_J0_isLatin1_aae02 : GoodIn wsJ0_charAt_5068e (wsV RJ0 492 RJ0 yJ0_isLatin1_aae02 wsJ0_isLatin1_aae02) := goodIn_r _ [2, 3, 4, 5, 6, 7, 8] rfl (by decide +kernel)
set_option maxRecDepth 20000 in
theorem gJ0_charAt_5068e_J1_charAt_3b067 : GoodIn wsJ0_charAt_5068e (va_wsS RJ0 495 yJ1_charAt_3b067 wsJ1_charAt_3b067) := goodIn_r _ [9, 10, 11, 12, 13, 14, 5, 15, 16, 17, 18, 19, 20] rfl (by decide +kernel)
set_option maxRecDepth 20000 in
theorem gJ0_checkIndex_df160_J3_checkIndex_8e157 : GoodIn wsJ0_checkIndex_df160 (va_wsS RJ0 1059 yJ3_checkIndex_8e157 wsJ3_checkIndex_8e157) := goodIn_r _ [2, 3, 4, 5] rfl (by decide +kernel)
set_option maxRecDepth 20000 in
theorem gJ1_charAt_3b067_J0_checkIndex_df160 : GoodIn wsJ1_charAt_3b067 (va_wsS RJ1 9 yJ0_checkIndex_df160 wsJ0_checkIndex_df160) := goodIn_r _ [1, 2, 3, 4, 5, 6, 7, 8, 9] rfl (by decide +kernel)
