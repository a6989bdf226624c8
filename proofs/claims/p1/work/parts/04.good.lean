set_option maxRecDepth 20000 in
theorem ggX0_init_X6_init : GoodIn wsX0_init wsX6_init := goodIn_r _ [15, 16, 2, 3, 4, 17, 18, 34, 35, 36, 37] (by decide +kernel) (by decide +kernel)
set_option maxRecDepth 20000 in
theorem gX0_init_X6_init : GoodIn wsX0_init (wsX6_init) := ggX0_init_X6_init
set_option maxRecDepth 20000 in
theorem ggX0_sizeTold_J6_bitCount_0f7a4 : GoodIn wsX0_sizeTold wsJ6_bitCount_0f7a4 := goodIn_r _ [15, 16, 17, 18] (by decide +kernel) (by decide +kernel)
set_option maxRecDepth 20000 in
theorem gX0_sizeTold_J6_bitCount_0f7a4 : GoodIn wsX0_sizeTold (va_wsS RX0 57 yJ6_bitCount_0f7a4 wsJ6_bitCount_0f7a4) := goodIn_app (goodIn_of _ (by decide +kernel)) ggX0_sizeTold_J6_bitCount_0f7a4
set_option maxRecDepth 20000 in
theorem ggX1_init_X5_init : GoodIn wsX1_init wsX5_init := goodIn_r _ [11, 12, 2, 3, 13, 14, 15, 21, 22, 23, 24, 25, 26, 27] (by decide +kernel) (by decide +kernel)
set_option maxRecDepth 20000 in
theorem gX1_init_X5_init : GoodIn wsX1_init (wsX5_init) := ggX1_init_X5_init
set_option maxRecDepth 20000 in
theorem ggX1_goBack_X7_within : GoodIn wsX1_goBack wsX7_within := goodIn_r _ [6] (by decide +kernel) (by decide +kernel)
set_option maxRecDepth 20000 in
theorem gX1_goBack_X7_within_n41 : GoodIn wsX1_goBack (wsX7_within) := ggX1_goBack_X7_within
set_option maxRecDepth 20000 in
theorem ggX3_init_X0_init : GoodIn wsX3_init wsX0_init := goodIn_r _ [14, 15, 2, 3, 16, 17, 18, 19, 20, 21, 22, 23, 24, 25, 26, 27, 28, 29, 30, 45, 46, 47, 48, 49, 50, 51, 52, 53, 54, 55, 56, 57, 58, 59, 60, 61, 62, 63] (by decide +kernel) (by decide +kernel)
set_option maxRecDepth 20000 in
theorem gX3_init_X0_init : GoodIn wsX3_init (wsX0_init) := ggX3_init_X0_init
set_option maxRecDepth 20000 in
theorem ggX3_read_X0_clear : GoodIn wsX3_read wsX0_clear := goodIn_r _ [18, 19, 20, 21, 22, 23, 24, 25, 26, 202, 203, 204, 205, 206, 207, 208, 209, 210, 211, 212, 213, 214, 215, 216, 217, 218, 219, 220] (by decide +kernel) (by decide +kernel)
set_option maxRecDepth 20000 in
theorem gX3_read_X0_clear : GoodIn wsX3_read (wsV RX3 39 RX0 yX0_clear wsX0_clear) := goodIn_app (goodIn_of _ (by decide +kernel)) ggX3_read_X0_clear
set_option maxRecDepth 20000 in
theorem ggX3_read_X3_advance : GoodIn wsX3_read wsX3_advance := goodIn_r _ [31, 11, 6, 32, 33, 12, 34, 35, 36, 30, 37, 38, 39, 40, 41, 42, 43, 188, 189, 190, 191, 192, 193, 194, 195, 196, 197, 198, 199, 200, 201] (by decide +kernel) (by decide +kernel)
set_option maxRecDepth 20000 in
theorem gX3_read_X3_advance : GoodIn wsX3_read (wsV RX3 54 RX3 yX3_advance wsX3_advance) := goodIn_app (goodIn_of _ (by decide +kernel)) ggX3_read_X3_advance
set_option maxRecDepth 20000 in
theorem ggX3_read_X3_readLine : GoodIn wsX3_read wsX3_readLine := goodIn_r _ [47, 7, 48, 13, 49, 50, 51, 52, 53, 54, 55, 30, 56, 12, 38, 57, 58, 59, 60, 61, 62, 63, 64, 65, 66, 67, 68, 69, 70, 71, 72, 73, 74, 75, 76, 77, 78, 79, 80, 81, 82, 83, 84, 85, 86, 87, 88, 89, 90, 91, 92, 93, 94, 95, 96, 97, 98, 99, 100, 101, 102, 103, 104, 105, 106, 107, 108, 109, 9, 33, 10, 110, 111, 112, 113, 114, 115, 116, 117, 27, 28, 29, 31, 11, 6, 32, 34, 35, 36, 37, 39, 40, 41, 42, 43, 118, 119, 120, 121, 122, 123, 124, 125, 126, 127, 128, 129, 130, 131, 132, 133, 134, 135, 136, 137, 138, 139, 140, 141, 142, 143, 144, 145, 146, 147, 148, 149, 150, 8, 151, 152, 153, 154, 155, 156, 157, 158, 159, 160, 17, 161, 21, 25, 26, 162, 163, 164, 165, 166, 167, 168, 169, 170, 171, 172, 173, 174, 175, 176, 177, 178, 179, 180, 181, 22, 182, 183, 184, 185, 186, 187, 188, 189, 190, 191, 192, 193, 194, 195, 196, 197, 198, 199, 200, 201, 202, 203, 204, 205, 206, 207, 208, 209, 210, 211, 212, 213, 214, 215, 216, 217, 218, 219, 220] (by decide +kernel) (by decide +kernel)
set_option maxRecDepth 20000 in
theorem gX3_read_X3_readLine : GoodIn wsX3_read (wsV RX3 57 RX3 yX3_readLine wsX3_readLine) := goodIn_app (goodIn_of _ (by decide +kernel)) ggX3_read_X3_readLine
set_option maxRecDepth 20000 in
theorem ggX3_readLine_X3_isWord : GoodIn wsX3_readLine wsX3_isWord := goodIn_r _ [12, 13, 14, 15, 16, 17, 18, 19, 20, 21, 22, 23, 24, 25, 26, 27, 28, 29, 30, 31, 32, 33, 34, 35, 36, 37, 38, 39, 40, 41, 42, 43, 44, 45, 46, 47, 48, 49, 50, 51, 52, 53, 54, 55, 56, 57, 58, 59, 60, 61, 62, 63, 171, 172, 173, 174, 175, 176, 177, 178, 179, 180, 181, 182, 183, 184] (by decide +kernel) (by decide +kernel)
set_option maxRecDepth 20000 in
theorem gX3_readLine_X3_isWord : GoodIn wsX3_readLine (wsV RX3 100 RX3 yX3_isWord wsX3_isWord) := goodIn_app (goodIn_of _ (by decide +kernel)) ggX3_readLine_X3_isWord
set_option maxRecDepth 20000 in
theorem ggX3_readLine_X3_fails : GoodIn wsX3_readLine wsX3_fails := goodIn_r _ [67, 68, 69, 70, 171, 172, 173, 174, 175, 176, 177, 178, 179, 180, 181, 182, 183, 184] (by decide +kernel) (by decide +kernel)
set_option maxRecDepth 20000 in
theorem gX3_readLine_X3_fails : GoodIn wsX3_readLine (wsV RX3 64 RX3 yX3_fails wsX3_fails) := goodIn_app (goodIn_of _ (by decide +kernel)) ggX3_readLine_X3_fails
set_option maxRecDepth 20000 in
theorem ggX7_init_X3_init : GoodIn wsX7_init wsX3_init := goodIn_r _ [38, 39, 2, 3, 40, 41, 42, 43, 44, 30, 31, 45, 46, 47, 48, 49, 50, 51, 52, 53, 54, 55, 14, 15, 56, 57, 58, 59, 60, 61, 62, 91, 92, 93, 94, 95, 96, 97, 98, 99, 100, 101, 102, 103, 104, 142, 143, 144, 145, 146, 147, 148, 149, 150, 151, 152, 153, 154, 155, 156, 123, 124, 125, 126] (by decide +kernel) (by decide +kernel)
set_option maxRecDepth 20000 in
theorem gX7_init_X3_init : GoodIn wsX7_init (wsX3_init) := ggX7_init_X3_init
set_option maxRecDepth 20000 in
theorem ggX7_init_X5_init : GoodIn wsX7_init wsX5_init := goodIn_r _ [65, 66, 2, 3, 50, 67, 68, 116, 117, 118, 119, 120, 121, 122] (by decide +kernel) (by decide +kernel)
set_option maxRecDepth 20000 in
theorem gX7_init_X5_init : GoodIn wsX7_init (wsX5_init) := ggX7_init_X5_init
set_option maxRecDepth 20000 in
theorem ggX7_init_X6_init : GoodIn wsX7_init wsX6_init := goodIn_r _ [59, 60, 2, 3, 50, 61, 62, 123, 124, 125, 126] (by decide +kernel) (by decide +kernel)
set_option maxRecDepth 20000 in
theorem gX7_init_X6_init : GoodIn wsX7_init (wsX6_init) := ggX7_init_X6_init
set_option maxRecDepth 20000 in
theorem ggX7_init_X1_init : GoodIn wsX7_init wsX1_init := goodIn_r _ [72, 73, 2, 3, 74, 75, 9, 10, 76, 77, 64, 65, 66, 50, 67, 68, 127, 128, 129, 130, 131, 116, 117, 118, 119, 120, 121, 122] (by decide +kernel) (by decide +kernel)
set_option maxRecDepth 20000 in
theorem gX7_init_X1_init : GoodIn wsX7_init (wsX1_init) := ggX7_init_X1_init
set_option maxRecDepth 20000 in
theorem ggX7_init_X2_init : GoodIn wsX7_init wsX2_init := goodIn_r _ [80, 81, 2, 3, 50, 82, 83, 132, 133, 134, 135, 136, 137, 138] (by decide +kernel) (by decide +kernel)
set_option maxRecDepth 20000 in
theorem gX7_init_X2_init : GoodIn wsX7_init (wsX2_init) := ggX7_init_X2_init
set_option maxRecDepth 20000 in
theorem ggX7_init_X4_init : GoodIn wsX7_init wsX4_init := goodIn_r _ [86, 87, 2, 3, 50, 88, 89, 139, 140, 141] (by decide +kernel) (by decide +kernel)
set_option maxRecDepth 20000 in
theorem gX7_init_X4_init : GoodIn wsX7_init (wsX4_init) := ggX7_init_X4_init
set_option maxRecDepth 20000 in
theorem ggX7_init_X0_init : GoodIn wsX7_init wsX0_init := goodIn_r _ [48, 49, 2, 3, 50, 51, 52, 53, 54, 55, 14, 15, 56, 57, 58, 59, 60, 61, 62, 142, 143, 144, 145, 146, 147, 148, 149, 150, 151, 152, 153, 154, 155, 156, 123, 124, 125, 126] (by decide +kernel) (by decide +kernel)
set_option maxRecDepth 20000 in
theorem gX7_init_X0_init : GoodIn wsX7_init (wsX0_init) := ggX7_init_X0_init
set_option maxRecDepth 20000 in
theorem ggX7_feed_X3_append : GoodIn wsX7_feed wsX3_append := goodIn_r _ [7, 8, 9, 21, 22, 23, 24, 25, 26, 27, 28, 29, 30, 31, 32, 33, 34] (by decide +kernel) (by decide +kernel)
set_option maxRecDepth 20000 in
theorem gX7_feed_X3_append : GoodIn wsX7_feed (wsV RX7 74 RX3 yX3_append wsX3_append) := goodIn_app (goodIn_of _ (by decide +kernel)) ggX7_feed_X3_append
set_option maxRecDepth 20000 in
theorem ggX7_gallery_X7_within : GoodIn wsX7_gallery wsX7_within := goodIn_r _ [16] (by decide +kernel) (by decide +kernel)
set_option maxRecDepth 20000 in
theorem gX7_gallery_X7_within : GoodIn wsX7_gallery (va_wsS RX7 78 yX7_within wsX7_within) := goodIn_app (goodIn_of _ (by decide +kernel)) ggX7_gallery_X7_within
set_option maxRecDepth 20000 in
theorem ggX7_gallery_X7_refused : GoodIn wsX7_gallery wsX7_refused := goodIn_r _ [20, 21, 248, 249, 250, 251, 252, 253, 254, 255, 256, 257, 258] (by decide +kernel) (by decide +kernel)
set_option maxRecDepth 20000 in
theorem gX7_gallery_X7_refused : GoodIn wsX7_gallery (wsV RX7 82 RX7 yX7_refused wsX7_refused) := goodIn_app (goodIn_of _ (by decide +kernel)) ggX7_gallery_X7_refused
set_option maxRecDepth 20000 in
theorem ggX7_gallery_X3_read : GoodIn wsX7_gallery wsX3_read := goodIn_r _ [26, 27, 28, 29, 30, 31, 32, 33, 34, 35, 36, 37, 38, 39, 40, 41, 42, 43, 44, 45, 46, 47, 48, 49, 50, 51, 52, 53, 54, 55, 25, 56, 57, 58, 59, 60, 61, 62, 63, 64, 65, 66, 67, 68, 69, 70, 71, 72, 73, 74, 75, 76, 77, 78, 79, 80, 81, 82, 83, 84, 85, 86, 87, 88, 89, 90, 91, 92, 93, 94, 95, 96, 97, 98, 99, 100, 101, 102, 103, 104, 105, 106, 107, 108, 109, 110, 111, 112, 113, 114, 115, 116, 117, 118, 119, 120, 121, 122, 123, 124, 125, 126, 127, 128, 129, 130, 131, 132, 133, 134, 135, 136, 137, 138, 139, 140, 141, 142, 143, 144, 145, 146, 147, 148, 149, 150, 14, 15, 16, 151, 152, 153, 154, 155, 156, 157, 158, 159, 160, 161, 162, 163, 164, 165, 166, 167, 168, 169, 170, 171, 172, 173, 174, 175, 176, 177, 178, 179, 180, 181, 182, 183, 184, 185, 186, 187, 188, 189, 190, 191, 192, 193, 194, 195, 196, 197, 198, 199, 200, 201, 202, 203, 204, 205, 206, 207, 208, 209, 259, 260, 261, 262, 263, 264, 265, 266, 267, 268, 269, 270, 271, 272, 273, 274, 275, 276, 277, 278, 279, 280, 281, 282, 283, 284, 285, 286, 287, 288, 289, 290, 291] (by decide +kernel) (by decide +kernel)
set_option maxRecDepth 20000 in
theorem gX7_gallery_X3_read : GoodIn wsX7_gallery (wsV RX7 86 RX3 yX3_read wsX3_read) := goodIn_app (goodIn_of _ (by decide +kernel)) ggX7_gallery_X3_read
set_option maxRecDepth 20000 in
theorem ggX7_figure_X7_isFigure : GoodIn wsX7_figure wsX7_isFigure := goodIn_r _ [11, 1, 12, 13, 14, 10, 15, 33, 34, 35, 36, 37, 38, 39, 40, 41, 42, 43, 44, 45, 46, 47, 48, 49, 50, 51, 52, 53, 54, 55, 56, 57, 58] (by decide +kernel) (by decide +kernel)
set_option maxRecDepth 20000 in
theorem gX7_figure_X7_isFigure : GoodIn wsX7_figure (wsV RX7 116 RX7 yX7_isFigure wsX7_isFigure) := goodIn_app (goodIn_of _ (by decide +kernel)) ggX7_figure_X7_isFigure
set_option maxRecDepth 20000 in
theorem ggX7_figure_X7_refused : GoodIn wsX7_figure wsX7_refused := goodIn_r _ [19, 20, 33, 34, 35, 36, 37, 38, 39, 40, 41, 42, 43] (by decide +kernel) (by decide +kernel)
set_option maxRecDepth 20000 in
theorem gX7_figure_X7_refused : GoodIn wsX7_figure (wsV RX7 82 RX7 yX7_refused wsX7_refused) := goodIn_app (goodIn_of _ (by decide +kernel)) ggX7_figure_X7_refused
set_option maxRecDepth 20000 in
theorem ggX7_watcher_X7_isWatcher : GoodIn wsX7_watcher wsX7_isWatcher := goodIn_r _ [11, 1, 2, 12, 13, 14, 10, 15, 32, 33, 34, 35, 36, 37, 38, 39, 40, 41, 42, 43, 44, 45, 46, 47, 48, 49, 50, 51, 52, 53, 54, 55, 56, 57, 58, 59, 60, 61] (by decide +kernel) (by decide +kernel)
set_option maxRecDepth 20000 in
theorem gX7_watcher_X7_isWatcher : GoodIn wsX7_watcher (wsV RX7 135 RX7 yX7_isWatcher wsX7_isWatcher) := goodIn_app (goodIn_of _ (by decide +kernel)) ggX7_watcher_X7_isWatcher
set_option maxRecDepth 20000 in
theorem ggX7_watcher_X7_refused : GoodIn wsX7_watcher wsX7_refused := goodIn_r _ [19, 20, 32, 33, 34, 35, 36, 37, 38, 39, 40, 41, 42] (by decide +kernel) (by decide +kernel)
set_option maxRecDepth 20000 in
theorem gX7_watcher_X7_refused : GoodIn wsX7_watcher (wsV RX7 82 RX7 yX7_refused wsX7_refused) := goodIn_app (goodIn_of _ (by decide +kernel)) ggX7_watcher_X7_refused
set_option maxRecDepth 20000 in
theorem ggX7_alive_X7_hasGallery : GoodIn wsX7_alive wsX7_hasGallery := goodIn_r _ [7, 8, 9, 19, 20, 21, 22, 23, 24, 25, 26, 27, 28, 29, 37, 38, 39, 40, 41, 42, 43, 44, 45, 46, 47, 48, 49, 50, 51] (by decide +kernel) (by decide +kernel)
set_option maxRecDepth 20000 in
theorem gX7_alive_X7_hasGallery : GoodIn wsX7_alive (wsV RX7 154 RX7 yX7_hasGallery wsX7_hasGallery) := goodIn_app (goodIn_of _ (by decide +kernel)) ggX7_alive_X7_hasGallery
set_option maxRecDepth 20000 in
theorem ggX7_alive_X7_refused : GoodIn wsX7_alive wsX7_refused := goodIn_r _ [13, 14, 19, 20, 21, 22, 23, 24, 25, 26, 27, 28, 29] (by decide +kernel) (by decide +kernel)
set_option maxRecDepth 20000 in
theorem gX7_alive_X7_refused : GoodIn wsX7_alive (wsV RX7 82 RX7 yX7_refused wsX7_refused) := goodIn_app (goodIn_of _ (by decide +kernel)) ggX7_alive_X7_refused
set_option maxRecDepth 20000 in
theorem ggX7_left_X7_hasGallery : GoodIn wsX7_left wsX7_hasGallery := goodIn_r _ [9, 1, 10, 20, 21, 22, 23, 24, 25, 26, 27, 28, 29, 30, 31, 32, 33, 34, 35, 36, 37, 38, 39, 40, 41, 42, 43, 44, 45] (by decide +kernel) (by decide +kernel)
set_option maxRecDepth 20000 in
theorem gX7_left_X7_hasGallery : GoodIn wsX7_left (wsV RX7 154 RX7 yX7_hasGallery wsX7_hasGallery) := goodIn_app (goodIn_of _ (by decide +kernel)) ggX7_left_X7_hasGallery
set_option maxRecDepth 20000 in
theorem ggX7_left_X7_refused : GoodIn wsX7_left wsX7_refused := goodIn_r _ [14, 15, 20, 21, 22, 23, 24, 25, 26, 27, 28, 29, 30] (by decide +kernel) (by decide +kernel)
set_option maxRecDepth 20000 in
theorem gX7_left_X7_refused : GoodIn wsX7_left (wsV RX7 82 RX7 yX7_refused wsX7_refused) := goodIn_app (goodIn_of _ (by decide +kernel)) ggX7_left_X7_refused
set_option maxRecDepth 20000 in
theorem ggX7_caught_X7_hasGallery : GoodIn wsX7_caught wsX7_hasGallery := goodIn_r _ [7, 8, 9, 19, 20, 21, 22, 23, 24, 25, 26, 27, 28, 29, 37, 38, 39, 40, 41, 42, 43, 44, 45, 46, 47, 48, 49, 50, 51] (by decide +kernel) (by decide +kernel)
set_option maxRecDepth 20000 in
theorem gX7_caught_X7_hasGallery : GoodIn wsX7_caught (wsV RX7 154 RX7 yX7_hasGallery wsX7_hasGallery) := goodIn_app (goodIn_of _ (by decide +kernel)) ggX7_caught_X7_hasGallery
set_option maxRecDepth 20000 in
theorem ggX7_caught_X7_refused : GoodIn wsX7_caught wsX7_refused := goodIn_r _ [13, 14, 19, 20, 21, 22, 23, 24, 25, 26, 27, 28, 29] (by decide +kernel) (by decide +kernel)
set_option maxRecDepth 20000 in
theorem gX7_caught_X7_refused : GoodIn wsX7_caught (wsV RX7 82 RX7 yX7_refused wsX7_refused) := goodIn_app (goodIn_of _ (by decide +kernel)) ggX7_caught_X7_refused
set_option maxRecDepth 20000 in
theorem ggX7_turnOf_X7_hasGallery : GoodIn wsX7_turnOf wsX7_hasGallery := goodIn_r _ [6, 7, 8, 32, 33, 34, 35, 36, 37, 38, 39, 40, 41, 42, 43, 44, 45, 46, 47, 48, 49, 50, 51, 52, 53, 54, 55, 56, 57] (by decide +kernel) (by decide +kernel)
set_option maxRecDepth 20000 in
theorem gX7_turnOf_X7_hasGallery : GoodIn wsX7_turnOf (wsV RX7 154 RX7 yX7_hasGallery wsX7_hasGallery) := goodIn_app (goodIn_of _ (by decide +kernel)) ggX7_turnOf_X7_hasGallery
set_option maxRecDepth 20000 in
theorem ggX7_turnOf_X7_refused : GoodIn wsX7_turnOf wsX7_refused := goodIn_r _ [12, 13, 32, 33, 34, 35, 36, 37, 38, 39, 40, 41, 42] (by decide +kernel) (by decide +kernel)
set_option maxRecDepth 20000 in
theorem gX7_turnOf_X7_refused : GoodIn wsX7_turnOf (wsV RX7 82 RX7 yX7_refused wsX7_refused) := goodIn_app (goodIn_of _ (by decide +kernel)) ggX7_turnOf_X7_refused
set_option maxRecDepth 20000 in
theorem ggX7_turnIn_X7_isFigure : GoodIn wsX7_turnIn wsX7_isFigure := goodIn_r _ [9, 3, 4, 10, 11, 8, 12, 30, 31, 32, 33, 34, 35, 36, 37, 38, 39, 40, 48, 49, 50, 51, 52, 53, 54, 55, 56, 57, 58, 59, 60, 61, 62] (by decide +kernel) (by decide +kernel)
set_option maxRecDepth 20000 in
theorem gX7_turnIn_X7_isFigure : GoodIn wsX7_turnIn (wsV RX7 116 RX7 yX7_isFigure wsX7_isFigure) := goodIn_app (goodIn_of _ (by decide +kernel)) ggX7_turnIn_X7_isFigure
set_option maxRecDepth 20000 in
theorem ggX7_turnIn_X7_refused : GoodIn wsX7_turnIn wsX7_refused := goodIn_r _ [16, 17, 30, 31, 32, 33, 34, 35, 36, 37, 38, 39, 40] (by decide +kernel) (by decide +kernel)
set_option maxRecDepth 20000 in
theorem gX7_turnIn_X7_refused : GoodIn wsX7_turnIn (wsV RX7 82 RX7 yX7_refused wsX7_refused) := goodIn_app (goodIn_of _ (by decide +kernel)) ggX7_turnIn_X7_refused
set_option maxRecDepth 20000 in
theorem ggX7_settles_X7_hasGallery : GoodIn wsX7_settles wsX7_hasGallery := goodIn_r _ [7, 1, 2, 40, 41, 42, 43, 44, 45, 46, 47, 48, 49, 50, 51, 52, 53, 54, 55, 56, 57, 58, 59, 60, 61, 62, 63, 64, 65] (by decide +kernel) (by decide +kernel)
set_option maxRecDepth 20000 in
theorem gX7_settles_X7_hasGallery : GoodIn wsX7_settles (wsV RX7 154 RX7 yX7_hasGallery wsX7_hasGallery) := goodIn_app (goodIn_of _ (by decide +kernel)) ggX7_settles_X7_hasGallery
set_option maxRecDepth 20000 in
theorem ggX7_settles_X7_refused : GoodIn wsX7_settles wsX7_refused := goodIn_r _ [11, 12, 40, 41, 42, 43, 44, 45, 46, 47, 48, 49, 50] (by decide +kernel) (by decide +kernel)
set_option maxRecDepth 20000 in
theorem gX7_settles_X7_refused : GoodIn wsX7_settles (wsV RX7 82 RX7 yX7_refused wsX7_refused) := goodIn_app (goodIn_of _ (by decide +kernel)) ggX7_settles_X7_refused
set_option maxRecDepth 20000 in
theorem ggX7_round_X7_hasGallery : GoodIn wsX7_round wsX7_hasGallery := goodIn_r _ [5, 6, 7, 40, 41, 42, 43, 44, 45, 46, 47, 48, 49, 50, 51, 52, 53, 54, 55, 56, 57, 58, 59, 60, 61, 62, 63, 64, 65] (by decide +kernel) (by decide +kernel)
set_option maxRecDepth 20000 in
theorem gX7_round_X7_hasGallery : GoodIn wsX7_round (wsV RX7 154 RX7 yX7_hasGallery wsX7_hasGallery) := goodIn_app (goodIn_of _ (by decide +kernel)) ggX7_round_X7_hasGallery
set_option maxRecDepth 20000 in
theorem ggX7_round_X7_refused : GoodIn wsX7_round wsX7_refused := goodIn_r _ [11, 12, 40, 41, 42, 43, 44, 45, 46, 47, 48, 49, 50] (by decide +kernel) (by decide +kernel)
set_option maxRecDepth 20000 in
theorem gX7_round_X7_refused : GoodIn wsX7_round (wsV RX7 82 RX7 yX7_refused wsX7_refused) := goodIn_app (goodIn_of _ (by decide +kernel)) ggX7_round_X7_refused
set_option maxRecDepth 20000 in
theorem ggX7_called_X7_hasGallery : GoodIn wsX7_called wsX7_hasGallery := goodIn_r _ [9, 3, 4, 27, 28, 29, 30, 31, 32, 33, 34, 35, 36, 37, 45, 46, 47, 48, 49, 50, 51, 52, 53, 54, 55, 56, 57, 58, 59] (by decide +kernel) (by decide +kernel)
set_option maxRecDepth 20000 in
theorem gX7_called_X7_hasGallery : GoodIn wsX7_called (wsV RX7 154 RX7 yX7_hasGallery wsX7_hasGallery) := goodIn_app (goodIn_of _ (by decide +kernel)) ggX7_called_X7_hasGallery
set_option maxRecDepth 20000 in
theorem ggX7_called_X7_refused : GoodIn wsX7_called wsX7_refused := goodIn_r _ [13, 14, 27, 28, 29, 30, 31, 32, 33, 34, 35, 36, 37] (by decide +kernel) (by decide +kernel)
set_option maxRecDepth 20000 in
theorem gX7_called_X7_refused : GoodIn wsX7_called (wsV RX7 82 RX7 yX7_refused wsX7_refused) := goodIn_app (goodIn_of _ (by decide +kernel)) ggX7_called_X7_refused
set_option maxRecDepth 20000 in
theorem ggX7_minutesOf_X7_isFigure : GoodIn wsX7_minutesOf wsX7_isFigure := goodIn_r _ [10, 4, 11, 12, 13, 9, 14, 32, 33, 34, 35, 36, 37, 38, 39, 40, 41, 42, 50, 51, 52, 53, 54, 55, 56, 57, 58, 59, 60, 61, 62, 63, 64] (by decide +kernel) (by decide +kernel)
set_option maxRecDepth 20000 in
theorem gX7_minutesOf_X7_isFigure : GoodIn wsX7_minutesOf (wsV RX7 116 RX7 yX7_isFigure wsX7_isFigure) := goodIn_app (goodIn_of _ (by decide +kernel)) ggX7_minutesOf_X7_isFigure
set_option maxRecDepth 20000 in
theorem ggX7_minutesOf_X7_refused : GoodIn wsX7_minutesOf wsX7_refused := goodIn_r _ [18, 19, 32, 33, 34, 35, 36, 37, 38, 39, 40, 41, 42] (by decide +kernel) (by decide +kernel)
set_option maxRecDepth 20000 in
theorem gX7_minutesOf_X7_refused : GoodIn wsX7_minutesOf (wsV RX7 82 RX7 yX7_refused wsX7_refused) := goodIn_app (goodIn_of _ (by decide +kernel)) ggX7_minutesOf_X7_refused
set_option maxRecDepth 20000 in
theorem ggX7_place_X7_troubleOfFigureWithin : GoodIn wsX7_place wsX7_troubleOfFigureWithin := goodIn_r _ [7, 8, 9, 10, 6, 11, 12, 13, 14, 15, 16, 113, 114, 115, 116, 117, 118, 119, 120, 121, 122, 123, 131, 132, 133, 134, 135, 136, 137, 138, 139, 140, 141, 142, 143, 144, 145] (by decide +kernel) (by decide +kernel)
set_option maxRecDepth 20000 in
theorem gX7_place_X7_troubleOfFigureWithin : GoodIn wsX7_place (wsV RX7 181 RX7 yX7_troubleOfFigureWithin wsX7_troubleOfFigureWithin) := goodIn_app (goodIn_of _ (by decide +kernel)) ggX7_place_X7_troubleOfFigureWithin
set_option maxRecDepth 20000 in
theorem ggX7_place_X7_refused : GoodIn wsX7_place wsX7_refused := goodIn_r _ [20, 21, 113, 114, 115, 116, 117, 118, 119, 120, 121, 122, 123] (by decide +kernel) (by decide +kernel)
set_option maxRecDepth 20000 in
theorem gX7_place_X7_refused : GoodIn wsX7_place (wsV RX7 82 RX7 yX7_refused wsX7_refused) := goodIn_app (goodIn_of _ (by decide +kernel)) ggX7_place_X7_refused
set_option maxRecDepth 20000 in
theorem ggX7_watch_X7_isWatcher : GoodIn wsX7_watch wsX7_isWatcher := goodIn_r _ [9, 1, 2, 10, 11, 12, 8, 13, 30, 31, 32, 33, 34, 35, 36, 37, 38, 39, 40, 41, 42, 43, 44, 45, 46, 47, 48, 49, 50, 51, 52, 53, 54, 55, 63, 64, 65, 66] (by decide +kernel) (by decide +kernel)
set_option maxRecDepth 20000 in
theorem gX7_watch_X7_isWatcher : GoodIn wsX7_watch (wsV RX7 135 RX7 yX7_isWatcher wsX7_isWatcher) := goodIn_app (goodIn_of _ (by decide +kernel)) ggX7_watch_X7_isWatcher
set_option maxRecDepth 20000 in
theorem ggX7_watch_X7_refused : GoodIn wsX7_watch wsX7_refused := goodIn_r _ [17, 18, 30, 31, 32, 33, 34, 35, 36, 37, 38, 39, 40] (by decide +kernel) (by decide +kernel)
set_option maxRecDepth 20000 in
theorem gX7_watch_X7_refused : GoodIn wsX7_watch (wsV RX7 82 RX7 yX7_refused wsX7_refused) := goodIn_app (goodIn_of _ (by decide +kernel)) ggX7_watch_X7_refused
set_option maxRecDepth 20000 in
theorem ggX7_gone_X7_troubleOfNumber : GoodIn wsX7_gone wsX7_troubleOfNumber := goodIn_r _ [7, 8, 9, 10, 6, 11, 12, 13, 14, 15, 16, 113, 114, 115, 116, 117, 118, 119, 120, 121, 122, 123, 131, 132, 133, 134, 135, 136, 137, 138, 139, 140, 141, 142, 143, 144, 145] (by decide +kernel) (by decide +kernel)
set_option maxRecDepth 20000 in
theorem gX7_gone_X7_troubleOfNumber : GoodIn wsX7_gone (wsV RX7 188 RX7 yX7_troubleOfNumber wsX7_troubleOfNumber) := goodIn_app (goodIn_of _ (by decide +kernel)) ggX7_gone_X7_troubleOfNumber
set_option maxRecDepth 20000 in
theorem ggX7_gone_X7_refused : GoodIn wsX7_gone wsX7_refused := goodIn_r _ [20, 21, 113, 114, 115, 116, 117, 118, 119, 120, 121, 122, 123] (by decide +kernel) (by decide +kernel)
set_option maxRecDepth 20000 in
theorem gX7_gone_X7_refused : GoodIn wsX7_gone (wsV RX7 82 RX7 yX7_refused wsX7_refused) := goodIn_app (goodIn_of _ (by decide +kernel)) ggX7_gone_X7_refused
set_option maxRecDepth 20000 in
theorem ggX7_stairs_X7_hasGallery : GoodIn wsX7_stairs wsX7_hasGallery := goodIn_r _ [9, 3, 10, 104, 105, 106, 107, 108, 109, 110, 111, 112, 113, 114, 115, 116, 117, 118, 119, 120, 121, 122, 123, 124, 125, 126, 127, 128, 129] (by decide +kernel) (by decide +kernel)
set_option maxRecDepth 20000 in
theorem gX7_stairs_X7_hasGallery : GoodIn wsX7_stairs (wsV RX7 154 RX7 yX7_hasGallery wsX7_hasGallery) := goodIn_app (goodIn_of _ (by decide +kernel)) ggX7_stairs_X7_hasGallery
set_option maxRecDepth 20000 in
theorem ggX7_stairs_X7_refused : GoodIn wsX7_stairs wsX7_refused := goodIn_r _ [14, 15, 104, 105, 106, 107, 108, 109, 110, 111, 112, 113, 114] (by decide +kernel) (by decide +kernel)
set_option maxRecDepth 20000 in
theorem gX7_stairs_X7_refused : GoodIn wsX7_stairs (wsV RX7 82 RX7 yX7_refused wsX7_refused) := goodIn_app (goodIn_of _ (by decide +kernel)) ggX7_stairs_X7_refused
set_option maxRecDepth 20000 in
theorem ggX7_catches_X7_troubleOfNumber : GoodIn wsX7_catches wsX7_troubleOfNumber := goodIn_r _ [8, 9, 10, 11, 7, 12, 13, 14, 15, 16, 17, 113, 114, 115, 116, 117, 118, 119, 120, 121, 122, 123, 131, 132, 133, 134, 135, 136, 137, 138, 139, 140, 141, 142, 143, 144, 145] (by decide +kernel) (by decide +kernel)
set_option maxRecDepth 20000 in
theorem gX7_catches_X7_troubleOfNumber : GoodIn wsX7_catches (wsV RX7 188 RX7 yX7_troubleOfNumber wsX7_troubleOfNumber) := goodIn_app (goodIn_of _ (by decide +kernel)) ggX7_catches_X7_troubleOfNumber
set_option maxRecDepth 20000 in
theorem ggX7_catches_X7_refused : GoodIn wsX7_catches wsX7_refused := goodIn_r _ [21, 22, 113, 114, 115, 116, 117, 118, 119, 120, 121, 122, 123] (by decide +kernel) (by decide +kernel)
set_option maxRecDepth 20000 in
theorem gX7_catches_X7_refused : GoodIn wsX7_catches (wsV RX7 82 RX7 yX7_refused wsX7_refused) := goodIn_app (goodIn_of _ (by decide +kernel)) ggX7_catches_X7_refused
set_option maxRecDepth 20000 in
theorem ggX7_heard_X7_troubleOfFigureWithin : GoodIn wsX7_heard wsX7_troubleOfFigureWithin := goodIn_r _ [8, 9, 10, 11, 7, 12, 13, 14, 15, 16, 17, 109, 110, 111, 112, 113, 114, 115, 116, 117, 118, 119, 127, 128, 129, 130, 131, 132, 133, 134, 135, 136, 137, 138, 139, 140, 141] (by decide +kernel) (by decide +kernel)
set_option maxRecDepth 20000 in
theorem gX7_heard_X7_troubleOfFigureWithin : GoodIn wsX7_heard (wsV RX7 181 RX7 yX7_troubleOfFigureWithin wsX7_troubleOfFigureWithin) := goodIn_app (goodIn_of _ (by decide +kernel)) ggX7_heard_X7_troubleOfFigureWithin
set_option maxRecDepth 20000 in
theorem ggX7_heard_X7_refused : GoodIn wsX7_heard wsX7_refused := goodIn_r _ [21, 22, 109, 110, 111, 112, 113, 114, 115, 116, 117, 118, 119] (by decide +kernel) (by decide +kernel)
set_option maxRecDepth 20000 in
theorem gX7_heard_X7_refused : GoodIn wsX7_heard (wsV RX7 82 RX7 yX7_refused wsX7_refused) := goodIn_app (goodIn_of _ (by decide +kernel)) ggX7_heard_X7_refused
set_option maxRecDepth 20000 in
theorem ggX7_allIn_X7_isFigure : GoodIn wsX7_allIn wsX7_isFigure := goodIn_r _ [12, 1, 13, 14, 15, 11, 16, 103, 104, 105, 106, 107, 108, 109, 110, 111, 112, 113, 114, 115, 116, 117, 118, 119, 120, 121, 122, 123, 124, 125, 126, 127, 128] (by decide +kernel) (by decide +kernel)
set_option maxRecDepth 20000 in
theorem gX7_allIn_X7_isFigure : GoodIn wsX7_allIn (wsV RX7 116 RX7 yX7_isFigure wsX7_isFigure) := goodIn_app (goodIn_of _ (by decide +kernel)) ggX7_allIn_X7_isFigure
set_option maxRecDepth 20000 in
theorem ggX7_allIn_X7_refused : GoodIn wsX7_allIn wsX7_refused := goodIn_r _ [20, 21, 103, 104, 105, 106, 107, 108, 109, 110, 111, 112, 113] (by decide +kernel) (by decide +kernel)
set_option maxRecDepth 20000 in
theorem gX7_allIn_X7_refused : GoodIn wsX7_allIn (wsV RX7 82 RX7 yX7_refused wsX7_refused) := goodIn_app (goodIn_of _ (by decide +kernel)) ggX7_allIn_X7_refused
set_option maxRecDepth 20000 in
theorem ggX7_meets_X7_isWatcher : GoodIn wsX7_meets wsX7_isWatcher := goodIn_r _ [10, 3, 4, 11, 12, 13, 9, 14, 109, 110, 111, 112, 113, 114, 115, 116, 117, 118, 119, 120, 121, 122, 123, 124, 125, 126, 127, 128, 129, 130, 131, 132, 133, 134, 142, 143, 144, 145] (by decide +kernel) (by decide +kernel)
set_option maxRecDepth 20000 in
theorem gX7_meets_X7_isWatcher : GoodIn wsX7_meets (wsV RX7 135 RX7 yX7_isWatcher wsX7_isWatcher) := goodIn_app (goodIn_of _ (by decide +kernel)) ggX7_meets_X7_isWatcher
set_option maxRecDepth 20000 in
theorem ggX7_meets_X7_refused : GoodIn wsX7_meets wsX7_refused := goodIn_r _ [18, 19, 109, 110, 111, 112, 113, 114, 115, 116, 117, 118, 119] (by decide +kernel) (by decide +kernel)
set_option maxRecDepth 20000 in
theorem gX7_meets_X7_refused : GoodIn wsX7_meets (wsV RX7 82 RX7 yX7_refused wsX7_refused) := goodIn_app (goodIn_of _ (by decide +kernel)) ggX7_meets_X7_refused
set_option maxRecDepth 20000 in
theorem ggX7_crowd_X7_troubleOfNumber : GoodIn wsX7_crowd wsX7_troubleOfNumber := goodIn_r _ [7, 8, 9, 10, 6, 11, 1, 2, 12, 13, 14, 118, 119, 120, 121, 122, 123, 124, 125, 126, 127, 128, 129, 130, 131, 132, 133, 134, 135, 136, 137, 138, 139, 140, 141, 142, 143] (by decide +kernel) (by decide +kernel)
set_option maxRecDepth 20000 in
theorem gX7_crowd_X7_troubleOfNumber : GoodIn wsX7_crowd (wsV RX7 188 RX7 yX7_troubleOfNumber wsX7_troubleOfNumber) := goodIn_app (goodIn_of _ (by decide +kernel)) ggX7_crowd_X7_troubleOfNumber
set_option maxRecDepth 20000 in
theorem ggX7_crowd_X7_refused : GoodIn wsX7_crowd wsX7_refused := goodIn_r _ [18, 19, 118, 119, 120, 121, 122, 123, 124, 125, 126, 127, 128] (by decide +kernel) (by decide +kernel)
set_option maxRecDepth 20000 in
theorem gX7_crowd_X7_refused : GoodIn wsX7_crowd (wsV RX7 82 RX7 yX7_refused wsX7_refused) := goodIn_app (goodIn_of _ (by decide +kernel)) ggX7_crowd_X7_refused
set_option maxRecDepth 20000 in
theorem ggX7_farthest_X7_troubleOfNumber : GoodIn wsX7_farthest wsX7_troubleOfNumber := goodIn_r _ [13, 14, 15, 16, 12, 17, 1, 2, 18, 19, 20, 117, 118, 119, 120, 121, 122, 123, 124, 125, 126, 127, 128, 129, 130, 131, 132, 133, 134, 135, 136, 137, 138, 139, 140, 141, 142] (by decide +kernel) (by decide +kernel)
set_option maxRecDepth 20000 in
theorem gX7_farthest_X7_troubleOfNumber : GoodIn wsX7_farthest (wsV RX7 188 RX7 yX7_troubleOfNumber wsX7_troubleOfNumber) := goodIn_app (goodIn_of _ (by decide +kernel)) ggX7_farthest_X7_troubleOfNumber
set_option maxRecDepth 20000 in
theorem ggX7_farthest_X7_refused : GoodIn wsX7_farthest wsX7_refused := goodIn_r _ [24, 25, 117, 118, 119, 120, 121, 122, 123, 124, 125, 126, 127] (by decide +kernel) (by decide +kernel)
set_option maxRecDepth 20000 in
theorem gX7_farthest_X7_refused : GoodIn wsX7_farthest (wsV RX7 82 RX7 yX7_refused wsX7_refused) := goodIn_app (goodIn_of _ (by decide +kernel)) ggX7_farthest_X7_refused
set_option maxRecDepth 20000 in
theorem ggX7_nearBy_X7_troubleOfFigureWithin : GoodIn wsX7_nearBy wsX7_troubleOfFigureWithin := goodIn_r _ [11, 12, 13, 14, 10, 15, 3, 16, 17, 18, 19, 109, 110, 111, 112, 113, 114, 115, 116, 117, 118, 119, 120, 121, 122, 123, 124, 125, 126, 127, 128, 129, 130, 131, 132, 133, 134] (by decide +kernel) (by decide +kernel)
set_option maxRecDepth 20000 in
theorem gX7_nearBy_X7_troubleOfFigureWithin : GoodIn wsX7_nearBy (wsV RX7 181 RX7 yX7_troubleOfFigureWithin wsX7_troubleOfFigureWithin) := goodIn_app (goodIn_of _ (by decide +kernel)) ggX7_nearBy_X7_troubleOfFigureWithin
set_option maxRecDepth 20000 in
theorem ggX7_nearBy_X7_refused : GoodIn wsX7_nearBy wsX7_refused := goodIn_r _ [23, 24, 109, 110, 111, 112, 113, 114, 115, 116, 117, 118, 119] (by decide +kernel) (by decide +kernel)
set_option maxRecDepth 20000 in
theorem gX7_nearBy_X7_refused : GoodIn wsX7_nearBy (wsV RX7 82 RX7 yX7_refused wsX7_refused) := goodIn_app (goodIn_of _ (by decide +kernel)) ggX7_nearBy_X7_refused
set_option maxRecDepth 20000 in
theorem ggX7_spoken_X7_troubleOfFigureWithin : GoodIn wsX7_spoken wsX7_troubleOfFigureWithin := goodIn_r _ [11, 12, 13, 14, 10, 15, 4, 16, 17, 18, 19, 107, 108, 109, 110, 111, 112, 113, 114, 115, 116, 117, 125, 126, 127, 128, 129, 130, 131, 132, 133, 134, 135, 136, 137, 138, 139] (by decide +kernel) (by decide +kernel)
set_option maxRecDepth 20000 in
theorem gX7_spoken_X7_troubleOfFigureWithin : GoodIn wsX7_spoken (wsV RX7 181 RX7 yX7_troubleOfFigureWithin wsX7_troubleOfFigureWithin) := goodIn_app (goodIn_of _ (by decide +kernel)) ggX7_spoken_X7_troubleOfFigureWithin
set_option maxRecDepth 20000 in
theorem ggX7_spoken_X7_refused : GoodIn wsX7_spoken wsX7_refused := goodIn_r _ [23, 24, 107, 108, 109, 110, 111, 112, 113, 114, 115, 116, 117] (by decide +kernel) (by decide +kernel)
set_option maxRecDepth 20000 in
theorem gX7_spoken_X7_refused : GoodIn wsX7_spoken (wsV RX7 82 RX7 yX7_refused wsX7_refused) := goodIn_app (goodIn_of _ (by decide +kernel)) ggX7_spoken_X7_refused
set_option maxRecDepth 20000 in
theorem ggX7_route_X7_isPlace : GoodIn wsX7_route wsX7_isPlace := goodIn_r _ [6, 7, 8, 9, 10, 5, 11, 140, 141, 142, 143, 144, 145, 146, 147, 148, 149, 150, 151, 152, 153, 154, 155, 156, 157, 158, 159, 160, 161, 162, 163, 164, 165] (by decide +kernel) (by decide +kernel)
set_option maxRecDepth 20000 in
theorem gX7_route_X7_isPlace : GoodIn wsX7_route (wsV RX7 230 RX7 yX7_isPlace wsX7_isPlace) := goodIn_app (goodIn_of _ (by decide +kernel)) ggX7_route_X7_isPlace
set_option maxRecDepth 20000 in
theorem ggX7_route_X7_refused : GoodIn wsX7_route wsX7_refused := goodIn_r _ [15, 16, 140, 141, 142, 143, 144, 145, 146, 147, 148, 149, 150] (by decide +kernel) (by decide +kernel)
set_option maxRecDepth 20000 in
theorem gX7_route_X7_refused : GoodIn wsX7_route (wsV RX7 82 RX7 yX7_refused wsX7_refused) := goodIn_app (goodIn_of _ (by decide +kernel)) ggX7_route_X7_refused
set_option maxRecDepth 20000 in
theorem ggX7_routeAt_X7_isPlace : GoodIn wsX7_routeAt wsX7_isPlace := goodIn_r _ [6, 7, 8, 9, 10, 5, 11, 140, 141, 142, 143, 144, 145, 146, 147, 148, 149, 150, 151, 152, 153, 154, 155, 156, 157, 158, 159, 160, 161, 162, 163, 164, 165] (by decide +kernel) (by decide +kernel)
set_option maxRecDepth 20000 in
theorem gX7_routeAt_X7_isPlace : GoodIn wsX7_routeAt (wsV RX7 230 RX7 yX7_isPlace wsX7_isPlace) := goodIn_app (goodIn_of _ (by decide +kernel)) ggX7_routeAt_X7_isPlace
set_option maxRecDepth 20000 in
theorem ggX7_routeAt_X7_refused : GoodIn wsX7_routeAt wsX7_refused := goodIn_r _ [15, 16, 140, 141, 142, 143, 144, 145, 146, 147, 148, 149, 150] (by decide +kernel) (by decide +kernel)
set_option maxRecDepth 20000 in
theorem gX7_routeAt_X7_refused : GoodIn wsX7_routeAt (wsV RX7 82 RX7 yX7_refused wsX7_refused) := goodIn_app (goodIn_of _ (by decide +kernel)) ggX7_routeAt_X7_refused
set_option maxRecDepth 20000 in
theorem ggX7_stand_X7_troubleOfNumber : GoodIn wsX7_stand wsX7_troubleOfNumber := goodIn_r _ [8, 9, 10, 11, 7, 12, 1, 2, 13, 14, 15, 144, 145, 146, 147, 148, 149, 150, 151, 152, 153, 154, 155, 156, 157, 158, 159, 160, 161, 162, 163, 164, 165, 166, 167, 168, 169] (by decide +kernel) (by decide +kernel)
set_option maxRecDepth 20000 in
theorem gX7_stand_X7_troubleOfNumber : GoodIn wsX7_stand (wsV RX7 188 RX7 yX7_troubleOfNumber wsX7_troubleOfNumber) := goodIn_app (goodIn_of _ (by decide +kernel)) ggX7_stand_X7_troubleOfNumber
set_option maxRecDepth 20000 in
theorem ggX7_stand_X7_refused : GoodIn wsX7_stand wsX7_refused := goodIn_r _ [19, 20, 144, 145, 146, 147, 148, 149, 150, 151, 152, 153, 154] (by decide +kernel) (by decide +kernel)
set_option maxRecDepth 20000 in
theorem gX7_stand_X7_refused : GoodIn wsX7_stand (wsV RX7 82 RX7 yX7_refused wsX7_refused) := goodIn_app (goodIn_of _ (by decide +kernel)) ggX7_stand_X7_refused
set_option maxRecDepth 20000 in
theorem ggX7_guard_X7_troubleOfNumber : GoodIn wsX7_guard wsX7_troubleOfNumber := goodIn_r _ [9, 10, 11, 12, 8, 13, 2, 4, 14, 15, 16, 119, 120, 121, 122, 123, 124, 125, 126, 127, 128, 129, 130, 131, 132, 133, 134, 135, 136, 137, 138, 139, 140, 141, 142, 143, 144] (by decide +kernel) (by decide +kernel)
set_option maxRecDepth 20000 in
theorem gX7_guard_X7_troubleOfNumber : GoodIn wsX7_guard (wsV RX7 188 RX7 yX7_troubleOfNumber wsX7_troubleOfNumber) := goodIn_app (goodIn_of _ (by decide +kernel)) ggX7_guard_X7_troubleOfNumber
set_option maxRecDepth 20000 in
theorem ggX7_guard_X7_refused : GoodIn wsX7_guard wsX7_refused := goodIn_r _ [20, 21, 119, 120, 121, 122, 123, 124, 125, 126, 127, 128, 129] (by decide +kernel) (by decide +kernel)
set_option maxRecDepth 20000 in
theorem gX7_guard_X7_refused : GoodIn wsX7_guard (wsV RX7 82 RX7 yX7_refused wsX7_refused) := goodIn_app (goodIn_of _ (by decide +kernel)) ggX7_guard_X7_refused
set_option maxRecDepth 20000 in
theorem ggX7_windBest_X7_hasGallery : GoodIn wsX7_windBest wsX7_hasGallery := goodIn_r _ [10, 1, 2, 105, 106, 107, 108, 109, 110, 111, 112, 113, 114, 115, 116, 117, 118, 119, 120, 121, 122, 123, 124, 125, 126, 127, 128, 129, 130] (by decide +kernel) (by decide +kernel)
set_option maxRecDepth 20000 in
theorem gX7_windBest_X7_hasGallery : GoodIn wsX7_windBest (wsV RX7 154 RX7 yX7_hasGallery wsX7_hasGallery) := goodIn_app (goodIn_of _ (by decide +kernel)) ggX7_windBest_X7_hasGallery
set_option maxRecDepth 20000 in
theorem ggX7_windBest_X7_refused : GoodIn wsX7_windBest wsX7_refused := goodIn_r _ [14, 15, 105, 106, 107, 108, 109, 110, 111, 112, 113, 114, 115] (by decide +kernel) (by decide +kernel)
set_option maxRecDepth 20000 in
theorem gX7_windBest_X7_refused : GoodIn wsX7_windBest (wsV RX7 82 RX7 yX7_refused wsX7_refused) := goodIn_app (goodIn_of _ (by decide +kernel)) ggX7_windBest_X7_refused
set_option maxRecDepth 20000 in
theorem ggX7_patrol_X7_isWatcher : GoodIn wsX7_patrol wsX7_isWatcher := goodIn_r _ [14, 2, 3, 15, 16, 17, 13, 18, 121, 122, 123, 124, 125, 126, 127, 128, 129, 130, 131, 132, 133, 134, 135, 136, 137, 138, 139, 140, 141, 142, 143, 144, 145, 146, 147, 148, 149, 150] (by decide +kernel) (by decide +kernel)
set_option maxRecDepth 20000 in
theorem gX7_patrol_X7_isWatcher : GoodIn wsX7_patrol (wsV RX7 135 RX7 yX7_isWatcher wsX7_isWatcher) := goodIn_app (goodIn_of _ (by decide +kernel)) ggX7_patrol_X7_isWatcher
set_option maxRecDepth 20000 in
theorem ggX7_patrol_X7_refused : GoodIn wsX7_patrol wsX7_refused := goodIn_r _ [22, 23, 121, 122, 123, 124, 125, 126, 127, 128, 129, 130, 131] (by decide +kernel) (by decide +kernel)
set_option maxRecDepth 20000 in
theorem gX7_patrol_X7_refused : GoodIn wsX7_patrol (wsV RX7 82 RX7 yX7_refused wsX7_refused) := goodIn_app (goodIn_of _ (by decide +kernel)) ggX7_patrol_X7_refused
set_option maxRecDepth 20000 in
theorem ggX7_fits_X7_hasGallery : GoodIn wsX7_fits wsX7_hasGallery := goodIn_r _ [8, 2, 9, 44, 45, 46, 47, 48, 49, 50, 51, 52, 53, 54, 62, 63, 64, 65, 66, 67, 68, 69, 70, 71, 72, 73, 74, 75, 76] (by decide +kernel) (by decide +kernel)
set_option maxRecDepth 20000 in
theorem gX7_fits_X7_hasGallery : GoodIn wsX7_fits (wsV RX7 154 RX7 yX7_hasGallery wsX7_hasGallery) := goodIn_app (goodIn_of _ (by decide +kernel)) ggX7_fits_X7_hasGallery
set_option maxRecDepth 20000 in
theorem ggX7_fits_X7_refused : GoodIn wsX7_fits wsX7_refused := goodIn_r _ [13, 14, 44, 45, 46, 47, 48, 49, 50, 51, 52, 53, 54] (by decide +kernel) (by decide +kernel)
set_option maxRecDepth 20000 in
theorem gX7_fits_X7_refused : GoodIn wsX7_fits (wsV RX7 82 RX7 yX7_refused wsX7_refused) := goodIn_app (goodIn_of _ (by decide +kernel)) ggX7_fits_X7_refused
set_option maxRecDepth 20000 in
theorem ggX7_fitAt_X7_hasGallery : GoodIn wsX7_fitAt wsX7_hasGallery := goodIn_r _ [9, 2, 10, 48, 49, 50, 51, 52, 53, 54, 55, 56, 57, 58, 66, 67, 68, 69, 70, 71, 72, 73, 74, 75, 76, 77, 78, 79, 80] (by decide +kernel) (by decide +kernel)
set_option maxRecDepth 20000 in
theorem gX7_fitAt_X7_hasGallery : GoodIn wsX7_fitAt (wsV RX7 154 RX7 yX7_hasGallery wsX7_hasGallery) := goodIn_app (goodIn_of _ (by decide +kernel)) ggX7_fitAt_X7_hasGallery
set_option maxRecDepth 20000 in
theorem ggX7_fitAt_X7_refused : GoodIn wsX7_fitAt wsX7_refused := goodIn_r _ [14, 15, 48, 49, 50, 51, 52, 53, 54, 55, 56, 57, 58] (by decide +kernel) (by decide +kernel)
set_option maxRecDepth 20000 in
theorem gX7_fitAt_X7_refused : GoodIn wsX7_fitAt (wsV RX7 82 RX7 yX7_refused wsX7_refused) := goodIn_app (goodIn_of _ (by decide +kernel)) ggX7_fitAt_X7_refused
set_option maxRecDepth 20000 in
theorem ggX7_could_X7_troubleOfNumber : GoodIn wsX7_could wsX7_troubleOfNumber := goodIn_r _ [9, 10, 11, 12, 8, 13, 2, 14, 15, 16, 17, 53, 54, 55, 56, 57, 58, 59, 60, 61, 62, 63, 71, 72, 73, 74, 75, 76, 77, 78, 79, 80, 81, 82, 83, 84, 85] (by decide +kernel) (by decide +kernel)
set_option maxRecDepth 20000 in
theorem gX7_could_X7_troubleOfNumber : GoodIn wsX7_could (wsV RX7 188 RX7 yX7_troubleOfNumber wsX7_troubleOfNumber) := goodIn_app (goodIn_of _ (by decide +kernel)) ggX7_could_X7_troubleOfNumber
set_option maxRecDepth 20000 in
theorem ggX7_could_X7_refused : GoodIn wsX7_could wsX7_refused := goodIn_r _ [21, 22, 53, 54, 55, 56, 57, 58, 59, 60, 61, 62, 63] (by decide +kernel) (by decide +kernel)
set_option maxRecDepth 20000 in
theorem gX7_could_X7_refused : GoodIn wsX7_could (wsV RX7 82 RX7 yX7_refused wsX7_refused) := goodIn_app (goodIn_of _ (by decide +kernel)) ggX7_could_X7_refused
set_option maxRecDepth 20000 in
theorem ggX7_aliveBy_X7_troubleOfFigureWithin : GoodIn wsX7_aliveBy wsX7_troubleOfFigureWithin := goodIn_r _ [9, 10, 11, 12, 8, 13, 2, 14, 15, 16, 17, 53, 54, 55, 56, 57, 58, 59, 60, 61, 62, 63, 71, 72, 73, 74, 75, 76, 77, 78, 79, 80, 81, 82, 83, 84, 85] (by decide +kernel) (by decide +kernel)
set_option maxRecDepth 20000 in
theorem gX7_aliveBy_X7_troubleOfFigureWithin : GoodIn wsX7_aliveBy (wsV RX7 181 RX7 yX7_troubleOfFigureWithin wsX7_troubleOfFigureWithin) := goodIn_app (goodIn_of _ (by decide +kernel)) ggX7_aliveBy_X7_troubleOfFigureWithin
set_option maxRecDepth 20000 in
theorem ggX7_aliveBy_X7_refused : GoodIn wsX7_aliveBy wsX7_refused := goodIn_r _ [21, 22, 53, 54, 55, 56, 57, 58, 59, 60, 61, 62, 63] (by decide +kernel) (by decide +kernel)
set_option maxRecDepth 20000 in
theorem gX7_aliveBy_X7_refused : GoodIn wsX7_aliveBy (wsV RX7 82 RX7 yX7_refused wsX7_refused) := goodIn_app (goodIn_of _ (by decide +kernel)) ggX7_aliveBy_X7_refused
set_option maxRecDepth 20000 in
theorem ggX7_look_X7_hasGallery : GoodIn wsX7_look wsX7_hasGallery := goodIn_r _ [8, 2, 9, 65, 66, 67, 68, 69, 70, 71, 72, 73, 74, 75, 83, 84, 85, 86, 87, 88, 89, 90, 91, 92, 93, 94, 95, 96, 97] (by decide +kernel) (by decide +kernel)
set_option maxRecDepth 20000 in
theorem gX7_look_X7_hasGallery : GoodIn wsX7_look (wsV RX7 154 RX7 yX7_hasGallery wsX7_hasGallery) := goodIn_app (goodIn_of _ (by decide +kernel)) ggX7_look_X7_hasGallery
set_option maxRecDepth 20000 in
theorem ggX7_look_X7_refused : GoodIn wsX7_look wsX7_refused := goodIn_r _ [13, 14, 65, 66, 67, 68, 69, 70, 71, 72, 73, 74, 75] (by decide +kernel) (by decide +kernel)
set_option maxRecDepth 20000 in
theorem gX7_look_X7_refused : GoodIn wsX7_look (wsV RX7 82 RX7 yX7_refused wsX7_refused) := goodIn_app (goodIn_of _ (by decide +kernel)) ggX7_look_X7_refused
set_option maxRecDepth 20000 in
theorem ggX7_lookLeaves_X7_hasGallery : GoodIn wsX7_lookLeaves wsX7_hasGallery := goodIn_r _ [8, 2, 9, 65, 66, 67, 68, 69, 70, 71, 72, 73, 74, 75, 83, 84, 85, 86, 87, 88, 89, 90, 91, 92, 93, 94, 95, 96, 97] (by decide +kernel) (by decide +kernel)
set_option maxRecDepth 20000 in
theorem gX7_lookLeaves_X7_hasGallery : GoodIn wsX7_lookLeaves (wsV RX7 154 RX7 yX7_hasGallery wsX7_hasGallery) := goodIn_app (goodIn_of _ (by decide +kernel)) ggX7_lookLeaves_X7_hasGallery
set_option maxRecDepth 20000 in
theorem ggX7_lookLeaves_X7_refused : GoodIn wsX7_lookLeaves wsX7_refused := goodIn_r _ [13, 14, 65, 66, 67, 68, 69, 70, 71, 72, 73, 74, 75] (by decide +kernel) (by decide +kernel)
set_option maxRecDepth 20000 in
theorem gX7_lookLeaves_X7_refused : GoodIn wsX7_lookLeaves (wsV RX7 82 RX7 yX7_refused wsX7_refused) := goodIn_app (goodIn_of _ (by decide +kernel)) ggX7_lookLeaves_X7_refused
set_option maxRecDepth 20000 in
theorem ggX7_lawsLike_X7_hasGallery : GoodIn wsX7_lawsLike wsX7_hasGallery := goodIn_r _ [7, 1, 2, 30, 31, 32, 33, 34, 35, 36, 37, 38, 39, 40, 41, 42, 43, 44, 45, 46, 47, 48, 49, 50, 51, 52, 53, 54, 55] (by decide +kernel) (by decide +kernel)
set_option maxRecDepth 20000 in
theorem gX7_lawsLike_X7_hasGallery : GoodIn wsX7_lawsLike (wsV RX7 154 RX7 yX7_hasGallery wsX7_hasGallery) := goodIn_app (goodIn_of _ (by decide +kernel)) ggX7_lawsLike_X7_hasGallery
set_option maxRecDepth 20000 in
theorem ggX7_lawsLike_X7_refused : GoodIn wsX7_lawsLike wsX7_refused := goodIn_r _ [11, 12, 30, 31, 32, 33, 34, 35, 36, 37, 38, 39, 40] (by decide +kernel) (by decide +kernel)
set_option maxRecDepth 20000 in
theorem gX7_lawsLike_X7_refused : GoodIn wsX7_lawsLike (wsV RX7 82 RX7 yX7_refused wsX7_refused) := goodIn_app (goodIn_of _ (by decide +kernel)) ggX7_lawsLike_X7_refused
set_option maxRecDepth 20000 in
theorem ggX7_lawFor_X7_troubleOfFigureWithin : GoodIn wsX7_lawFor wsX7_troubleOfFigureWithin := goodIn_r _ [5, 6, 7, 8, 4, 9, 10, 11, 12, 13, 14, 24, 25, 26, 27, 28, 29, 30, 31, 32, 33, 34, 35, 36, 37, 38, 39, 40, 41, 42, 43, 44, 45, 46, 47, 48, 49] (by decide +kernel) (by decide +kernel)
set_option maxRecDepth 20000 in
theorem gX7_lawFor_X7_troubleOfFigureWithin : GoodIn wsX7_lawFor (wsV RX7 181 RX7 yX7_troubleOfFigureWithin wsX7_troubleOfFigureWithin) := goodIn_app (goodIn_of _ (by decide +kernel)) ggX7_lawFor_X7_troubleOfFigureWithin
set_option maxRecDepth 20000 in
theorem ggX7_lawFor_X7_refused : GoodIn wsX7_lawFor wsX7_refused := goodIn_r _ [18, 19, 24, 25, 26, 27, 28, 29, 30, 31, 32, 33, 34] (by decide +kernel) (by decide +kernel)
set_option maxRecDepth 20000 in
theorem gX7_lawFor_X7_refused : GoodIn wsX7_lawFor (wsV RX7 82 RX7 yX7_refused wsX7_refused) := goodIn_app (goodIn_of _ (by decide +kernel)) ggX7_lawFor_X7_refused
set_option maxRecDepth 20000 in
theorem ggX7_judge_X7_hasGallery : GoodIn wsX7_judge wsX7_hasGallery := goodIn_r _ [12, 1, 13, 32, 33, 34, 35, 36, 37, 38, 39, 40, 41, 42, 43, 44, 45, 46, 47, 48, 49, 50, 51, 52, 53, 54, 55, 56, 57] (by decide +kernel) (by decide +kernel)
set_option maxRecDepth 20000 in
theorem gX7_judge_X7_hasGallery : GoodIn wsX7_judge (wsV RX7 154 RX7 yX7_hasGallery wsX7_hasGallery) := goodIn_app (goodIn_of _ (by decide +kernel)) ggX7_judge_X7_hasGallery
set_option maxRecDepth 20000 in
theorem ggX7_judge_X7_refused : GoodIn wsX7_judge wsX7_refused := goodIn_r _ [17, 18, 32, 33, 34, 35, 36, 37, 38, 39, 40, 41, 42] (by decide +kernel) (by decide +kernel)
set_option maxRecDepth 20000 in
theorem gX7_judge_X7_refused : GoodIn wsX7_judge (wsV RX7 82 RX7 yX7_refused wsX7_refused) := goodIn_app (goodIn_of _ (by decide +kernel)) ggX7_judge_X7_refused
set_option maxRecDepth 20000 in
theorem ggX7_dares_X7_troubleOfNumber : GoodIn wsX7_dares wsX7_troubleOfNumber := goodIn_r _ [6, 7, 8, 9, 5, 10, 11, 12, 13, 14, 15, 26, 27, 28, 29, 30, 31, 32, 33, 34, 35, 36, 37, 38, 39, 40, 41, 42, 43, 44, 45, 46, 47, 48, 49, 50, 51] (by decide +kernel) (by decide +kernel)
set_option maxRecDepth 20000 in
theorem gX7_dares_X7_troubleOfNumber : GoodIn wsX7_dares (wsV RX7 188 RX7 yX7_troubleOfNumber wsX7_troubleOfNumber) := goodIn_app (goodIn_of _ (by decide +kernel)) ggX7_dares_X7_troubleOfNumber
set_option maxRecDepth 20000 in
theorem ggX7_rests_X7_troubleOfNumber : GoodIn wsX7_rests wsX7_troubleOfNumber := goodIn_r _ [5, 6, 7, 8, 4, 9, 10, 11, 12, 13, 14, 33, 34, 35, 36, 37, 38, 39, 40, 41, 42, 43, 44, 45, 46, 47, 48, 49, 50, 51, 52, 53, 54, 55, 56, 57, 58] (by decide +kernel) (by decide +kernel)
set_option maxRecDepth 20000 in
theorem gX7_rests_X7_troubleOfNumber : GoodIn wsX7_rests (wsV RX7 188 RX7 yX7_troubleOfNumber wsX7_troubleOfNumber) := goodIn_app (goodIn_of _ (by decide +kernel)) ggX7_rests_X7_troubleOfNumber
set_option maxRecDepth 20000 in
theorem ggX7_rests_X7_refused : GoodIn wsX7_rests wsX7_refused := goodIn_r _ [18, 19, 33, 34, 35, 36, 37, 38, 39, 40, 41, 42, 43] (by decide +kernel) (by decide +kernel)
set_option maxRecDepth 20000 in
theorem gX7_rests_X7_refused : GoodIn wsX7_rests (wsV RX7 82 RX7 yX7_refused wsX7_refused) := goodIn_app (goodIn_of _ (by decide +kernel)) ggX7_rests_X7_refused
set_option maxRecDepth 20000 in
theorem ggX7_rest_X7_troubleOfNumber : GoodIn wsX7_rest wsX7_troubleOfNumber := goodIn_r _ [5, 6, 7, 8, 4, 9, 10, 11, 12, 13, 14, 33, 34, 35, 36, 37, 38, 39, 40, 41, 42, 43, 44, 45, 46, 47, 48, 49, 50, 51, 52, 53, 54, 55, 56, 57, 58] (by decide +kernel) (by decide +kernel)
set_option maxRecDepth 20000 in
theorem gX7_rest_X7_troubleOfNumber : GoodIn wsX7_rest (wsV RX7 188 RX7 yX7_troubleOfNumber wsX7_troubleOfNumber) := goodIn_app (goodIn_of _ (by decide +kernel)) ggX7_rest_X7_troubleOfNumber
set_option maxRecDepth 20000 in
theorem ggX7_rest_X7_refused : GoodIn wsX7_rest wsX7_refused := goodIn_r _ [18, 19, 33, 34, 35, 36, 37, 38, 39, 40, 41, 42, 43] (by decide +kernel) (by decide +kernel)
set_option maxRecDepth 20000 in
theorem gX7_rest_X7_refused : GoodIn wsX7_rest (wsV RX7 82 RX7 yX7_refused wsX7_refused) := goodIn_app (goodIn_of _ (by decide +kernel)) ggX7_rest_X7_refused
set_option maxRecDepth 20000 in
theorem ggX7_odds_X7_troubleOfFigureWithin : GoodIn wsX7_odds wsX7_troubleOfFigureWithin := goodIn_r _ [9, 10, 11, 12, 8, 13, 2, 14, 15, 16, 17, 39, 40, 41, 42, 43, 44, 45, 46, 47, 48, 49, 50, 51, 52, 53, 54, 55, 56, 57, 58, 59, 60, 61, 62, 63, 64] (by decide +kernel) (by decide +kernel)
set_option maxRecDepth 20000 in
theorem gX7_odds_X7_troubleOfFigureWithin : GoodIn wsX7_odds (wsV RX7 181 RX7 yX7_troubleOfFigureWithin wsX7_troubleOfFigureWithin) := goodIn_app (goodIn_of _ (by decide +kernel)) ggX7_odds_X7_troubleOfFigureWithin
set_option maxRecDepth 20000 in
theorem ggX7_odds_X7_refused : GoodIn wsX7_odds wsX7_refused := goodIn_r _ [21, 4, 39, 40, 41, 42, 43, 44, 45, 46, 47, 48, 49] (by decide +kernel) (by decide +kernel)
set_option maxRecDepth 20000 in
theorem gX7_odds_X7_refused : GoodIn wsX7_odds (wsV RX7 82 RX7 yX7_refused wsX7_refused) := goodIn_app (goodIn_of _ (by decide +kernel)) ggX7_odds_X7_refused
set_option maxRecDepth 20000 in
theorem ggX7_mean_X7_troubleOfFigureWithin : GoodIn wsX7_mean wsX7_troubleOfFigureWithin := goodIn_r _ [9, 10, 11, 12, 8, 13, 2, 14, 15, 16, 17, 39, 40, 41, 42, 43, 44, 45, 46, 47, 48, 49, 50, 51, 52, 53, 54, 55, 56, 57, 58, 59, 60, 61, 62, 63, 64] (by decide +kernel) (by decide +kernel)
set_option maxRecDepth 20000 in
theorem gX7_mean_X7_troubleOfFigureWithin : GoodIn wsX7_mean (wsV RX7 181 RX7 yX7_troubleOfFigureWithin wsX7_troubleOfFigureWithin) := goodIn_app (goodIn_of _ (by decide +kernel)) ggX7_mean_X7_troubleOfFigureWithin
set_option maxRecDepth 20000 in
theorem ggX7_mean_X7_refused : GoodIn wsX7_mean wsX7_refused := goodIn_r _ [21, 1, 39, 40, 41, 42, 43, 44, 45, 46, 47, 48, 49] (by decide +kernel) (by decide +kernel)
set_option maxRecDepth 20000 in
theorem gX7_mean_X7_refused : GoodIn wsX7_mean (wsV RX7 82 RX7 yX7_refused wsX7_refused) := goodIn_app (goodIn_of _ (by decide +kernel)) ggX7_mean_X7_refused
set_option maxRecDepth 20000 in
theorem ggX7_drawn_X7_isFigure : GoodIn wsX7_drawn wsX7_isFigure := goodIn_r _ [9, 4, 10, 11, 12, 8, 13, 40, 41, 42, 43, 44, 45, 46, 47, 48, 49, 50, 58, 59, 60, 61, 62, 63, 64, 65, 66, 67, 68, 69, 70, 71, 72] (by decide +kernel) (by decide +kernel)
set_option maxRecDepth 20000 in
theorem gX7_drawn_X7_isFigure : GoodIn wsX7_drawn (wsV RX7 116 RX7 yX7_isFigure wsX7_isFigure) := goodIn_app (goodIn_of _ (by decide +kernel)) ggX7_drawn_X7_isFigure
set_option maxRecDepth 20000 in
theorem ggX7_drawn_X7_refused : GoodIn wsX7_drawn wsX7_refused := goodIn_r _ [17, 18, 40, 41, 42, 43, 44, 45, 46, 47, 48, 49, 50] (by decide +kernel) (by decide +kernel)
set_option maxRecDepth 20000 in
theorem gX7_drawn_X7_refused : GoodIn wsX7_drawn (wsV RX7 82 RX7 yX7_refused wsX7_refused) := goodIn_app (goodIn_of _ (by decide +kernel)) ggX7_drawn_X7_refused
set_option maxRecDepth 20000 in
theorem ggX7_firstShut_X7_hasGallery : GoodIn wsX7_firstShut wsX7_hasGallery := goodIn_r _ [6, 7, 8, 30, 31, 32, 33, 34, 35, 36, 37, 38, 39, 40, 41, 42, 43, 44, 45, 46, 47, 48, 49, 50, 51, 52, 53, 54, 55] (by decide +kernel) (by decide +kernel)
set_option maxRecDepth 20000 in
theorem gX7_firstShut_X7_hasGallery : GoodIn wsX7_firstShut (wsV RX7 154 RX7 yX7_hasGallery wsX7_hasGallery) := goodIn_app (goodIn_of _ (by decide +kernel)) ggX7_firstShut_X7_hasGallery
set_option maxRecDepth 20000 in
theorem ggX7_firstShut_X7_refused : GoodIn wsX7_firstShut wsX7_refused := goodIn_r _ [12, 13, 30, 31, 32, 33, 34, 35, 36, 37, 38, 39, 40] (by decide +kernel) (by decide +kernel)
set_option maxRecDepth 20000 in
theorem gX7_firstShut_X7_refused : GoodIn wsX7_firstShut (wsV RX7 82 RX7 yX7_refused wsX7_refused) := goodIn_app (goodIn_of _ (by decide +kernel)) ggX7_firstShut_X7_refused
set_option maxRecDepth 20000 in
theorem ggX7_go_X7_troubleOfNumber : GoodIn wsX7_go wsX7_troubleOfNumber := goodIn_r _ [11, 12, 13, 14, 10, 15, 5, 16, 17, 18, 19, 118, 119, 120, 121, 122, 123, 124, 125, 126, 127, 128, 136, 137, 138, 139, 140, 141, 142, 143, 144, 145, 146, 147, 148, 149, 150] (by decide +kernel) (by decide +kernel)
set_option maxRecDepth 20000 in
theorem gX7_go_X7_troubleOfNumber : GoodIn wsX7_go (wsV RX7 188 RX7 yX7_troubleOfNumber wsX7_troubleOfNumber) := goodIn_app (goodIn_of _ (by decide +kernel)) ggX7_go_X7_troubleOfNumber
set_option maxRecDepth 20000 in
theorem ggX7_go_X7_refused : GoodIn wsX7_go wsX7_refused := goodIn_r _ [23, 24, 118, 119, 120, 121, 122, 123, 124, 125, 126, 127, 128] (by decide +kernel) (by decide +kernel)
set_option maxRecDepth 20000 in
theorem gX7_go_X7_refused : GoodIn wsX7_go (wsV RX7 82 RX7 yX7_refused wsX7_refused) := goodIn_app (goodIn_of _ (by decide +kernel)) ggX7_go_X7_refused
set_option maxRecDepth 20000 in
theorem ggX7_put_X7_isFigure : GoodIn wsX7_put wsX7_isFigure := goodIn_r _ [8, 9, 10, 11, 12, 7, 13, 53, 54, 55, 56, 57, 58, 59, 60, 61, 62, 63, 71, 72, 73, 74, 75, 76, 77, 78, 79, 80, 81, 82, 83, 84, 85] (by decide +kernel) (by decide +kernel)
set_option maxRecDepth 20000 in
theorem gX7_put_X7_isFigure : GoodIn wsX7_put (wsV RX7 116 RX7 yX7_isFigure wsX7_isFigure) := goodIn_app (goodIn_of _ (by decide +kernel)) ggX7_put_X7_isFigure
set_option maxRecDepth 20000 in
theorem ggX7_put_X7_refused : GoodIn wsX7_put wsX7_refused := goodIn_r _ [17, 18, 53, 54, 55, 56, 57, 58, 59, 60, 61, 62, 63] (by decide +kernel) (by decide +kernel)
set_option maxRecDepth 20000 in
theorem gX7_put_X7_refused : GoodIn wsX7_put (wsV RX7 82 RX7 yX7_refused wsX7_refused) := goodIn_app (goodIn_of _ (by decide +kernel)) ggX7_put_X7_refused
set_option maxRecDepth 20000 in
theorem ggX7_wind_X7_isFigure : GoodIn wsX7_wind wsX7_isFigure := goodIn_r _ [9, 10, 11, 12, 13, 8, 14, 52, 53, 54, 55, 56, 57, 58, 59, 60, 61, 62, 70, 71, 72, 73, 74, 75, 76, 77, 78, 79, 80, 81, 82, 83, 84] (by decide +kernel) (by decide +kernel)
set_option maxRecDepth 20000 in
theorem gX7_wind_X7_isFigure : GoodIn wsX7_wind (wsV RX7 116 RX7 yX7_isFigure wsX7_isFigure) := goodIn_app (goodIn_of _ (by decide +kernel)) ggX7_wind_X7_isFigure
set_option maxRecDepth 20000 in
theorem ggX7_wind_X7_refused : GoodIn wsX7_wind wsX7_refused := goodIn_r _ [18, 19, 52, 53, 54, 55, 56, 57, 58, 59, 60, 61, 62] (by decide +kernel) (by decide +kernel)
set_option maxRecDepth 20000 in
theorem gX7_wind_X7_refused : GoodIn wsX7_wind (wsV RX7 82 RX7 yX7_refused wsX7_refused) := goodIn_app (goodIn_of _ (by decide +kernel)) ggX7_wind_X7_refused
set_option maxRecDepth 20000 in
theorem ggX7_undo_X1_takeLatest : GoodIn wsX7_undo wsX1_takeLatest := goodIn_r _ [8, 9, 10, 11, 12, 13, 14, 15, 16, 17, 18, 19, 20, 21, 22, 23, 35, 36, 37, 38, 39, 40, 41, 42, 43, 44, 45, 46] (by decide +kernel) (by decide +kernel)
set_option maxRecDepth 20000 in
theorem gX7_undo_X1_takeLatest : GoodIn wsX7_undo (wsV RX7 333 RX1 yX1_takeLatest wsX1_takeLatest) := goodIn_app (goodIn_of _ (by decide +kernel)) ggX7_undo_X1_takeLatest
set_option maxRecDepth 20000 in
theorem ggX7_image_X7_hasGallery : GoodIn wsX7_image wsX7_hasGallery := goodIn_r _ [8, 9, 10, 39, 40, 41, 42, 43, 44, 45, 46, 47, 48, 49, 55, 56, 57, 58, 59, 60, 61, 62, 63, 64, 65, 66, 67, 68, 69] (by decide +kernel) (by decide +kernel)
set_option maxRecDepth 20000 in
theorem gX7_image_X7_hasGallery : GoodIn wsX7_image (wsV RX7 154 RX7 yX7_hasGallery wsX7_hasGallery) := goodIn_app (goodIn_of _ (by decide +kernel)) ggX7_image_X7_hasGallery
set_option maxRecDepth 20000 in
theorem ggX7_image_X7_refused : GoodIn wsX7_image wsX7_refused := goodIn_r _ [14, 15, 39, 40, 41, 42, 43, 44, 45, 46, 47, 48, 49] (by decide +kernel) (by decide +kernel)
set_option maxRecDepth 20000 in
theorem gX7_image_X7_refused : GoodIn wsX7_image (wsV RX7 82 RX7 yX7_refused wsX7_refused) := goodIn_app (goodIn_of _ (by decide +kernel)) ggX7_image_X7_refused
set_option maxRecDepth 20000 in
theorem ggX7_back_X1_goBack : GoodIn wsX7_back wsX1_goBack := goodIn_r _ [8, 9, 10, 11, 12, 13, 14, 15, 16, 17, 18, 19, 20, 21, 22, 23, 24, 25, 26, 38, 39, 40, 41, 42, 43, 44, 45, 46, 47, 48, 49] (by decide +kernel) (by decide +kernel)
set_option maxRecDepth 20000 in
theorem gX7_back_X1_goBack : GoodIn wsX7_back (wsV RX7 344 RX1 yX1_goBack wsX1_goBack) := goodIn_app (goodIn_of _ (by decide +kernel)) ggX7_back_X1_goBack
set_option maxRecDepth 20000 in
theorem ggX7_size_X0_sizeTold : GoodIn wsX7_size wsX0_sizeTold := goodIn_r _ [13, 14, 15, 16, 17, 18, 19, 20, 21, 22, 23, 24, 25, 26, 27, 28, 29, 30, 31, 69, 70, 71, 72, 73, 74, 75, 76, 77, 78, 79, 80, 81, 82, 83, 84, 85, 86, 87] (by decide +kernel) (by decide +kernel)
set_option maxRecDepth 20000 in
theorem gX7_size_X0_sizeTold : GoodIn wsX7_size (wsV RX7 358 RX0 yX0_sizeTold wsX0_sizeTold) := goodIn_app (goodIn_of _ (by decide +kernel)) ggX7_size_X0_sizeTold
set_option maxRecDepth 20000 in
theorem ggX7_isFigure_X7_within : GoodIn wsX7_isFigure wsX7_within := goodIn_r _ [6] (by decide +kernel) (by decide +kernel)
set_option maxRecDepth 20000 in
theorem gX7_isFigure_X7_within : GoodIn wsX7_isFigure (va_wsS RX7 78 yX7_within wsX7_within) := goodIn_app (goodIn_of _ (by decide +kernel)) ggX7_isFigure_X7_within
set_option maxRecDepth 20000 in
theorem ggX7_isPlace_X7_within : GoodIn wsX7_isPlace wsX7_within := goodIn_r _ [6] (by decide +kernel) (by decide +kernel)
set_option maxRecDepth 20000 in
theorem gX7_isPlace_X7_within : GoodIn wsX7_isPlace (va_wsS RX7 78 yX7_within wsX7_within) := goodIn_app (goodIn_of _ (by decide +kernel)) ggX7_isPlace_X7_within
set_option maxRecDepth 20000 in
theorem ggX7_isWatcher_X7_within : GoodIn wsX7_isWatcher wsX7_within := goodIn_r _ [7] (by decide +kernel) (by decide +kernel)
set_option maxRecDepth 20000 in
theorem gX7_isWatcher_X7_within : GoodIn wsX7_isWatcher (va_wsS RX7 78 yX7_within wsX7_within) := goodIn_app (goodIn_of _ (by decide +kernel)) ggX7_isWatcher_X7_within
set_option maxRecDepth 20000 in
theorem ggX7_troubleOfNumber_X7_hasGallery : GoodIn wsX7_troubleOfNumber wsX7_hasGallery := goodIn_r _ [5, 6, 7, 11, 12, 13, 14, 15, 16, 17, 18, 19, 20, 21, 22, 23, 24, 25, 26, 27, 28, 29, 30, 31, 32, 33, 34, 35, 36] (by decide +kernel) (by decide +kernel)
set_option maxRecDepth 20000 in
theorem gX7_troubleOfNumber_X7_hasGallery : GoodIn wsX7_troubleOfNumber (wsV RX7 154 RX7 yX7_hasGallery wsX7_hasGallery) := goodIn_app (goodIn_of _ (by decide +kernel)) ggX7_troubleOfNumber_X7_hasGallery
set_option maxRecDepth 20000 in
theorem ggX7_troubleOfFigureWithin_X7_isFigure : GoodIn wsX7_troubleOfFigureWithin wsX7_isFigure := goodIn_r _ [5, 6, 7, 8, 9, 4, 10, 11, 12, 13, 14, 15, 16, 17, 18, 19, 20, 21, 22, 23, 24, 25, 26, 27, 28, 29, 30, 31, 32, 33, 34, 35, 36] (by decide +kernel) (by decide +kernel)
set_option maxRecDepth 20000 in
theorem gX7_troubleOfFigureWithin_X7_isFigure : GoodIn wsX7_troubleOfFigureWithin (wsV RX7 116 RX7 yX7_isFigure wsX7_isFigure) := goodIn_app (goodIn_of _ (by decide +kernel)) ggX7_troubleOfFigureWithin_X7_isFigure
set_option maxRecDepth 20000 in
theorem ggX8_next_X8_see : GoodIn wsX8_next wsX8_see := goodIn_r _ [11, 12, 13, 20, 21, 22, 23, 24, 25, 26, 27, 28, 29, 30, 31, 32, 33, 34, 35, 36, 37, 38, 39, 40, 41, 42, 43, 44, 45, 46, 47, 48, 49, 50, 51, 52, 53, 54, 55, 56, 57, 58, 59] (by decide +kernel) (by decide +kernel)
set_option maxRecDepth 20000 in
theorem gX8_next_X8_see : GoodIn wsX8_next (wsV RX8 74 RX8 yX8_see wsX8_see) := goodIn_app (goodIn_of _ (by decide +kernel)) ggX8_next_X8_see
set_option maxRecDepth 20000 in
theorem ggX8_gallery_X8_good : GoodIn wsX8_gallery wsX8_good := goodIn_r _ [18, 19, 20, 171, 172, 173, 174, 175, 176, 177, 178, 179, 180, 181, 182, 183, 184, 185, 186, 187, 188, 189, 190, 191, 192, 193, 194, 195, 196, 197, 198, 199, 200, 201, 202, 203, 204, 205, 206, 207, 208, 209, 210] (by decide +kernel) (by decide +kernel)
set_option maxRecDepth 20000 in
theorem gX8_gallery_X8_good : GoodIn wsX8_gallery (wsV RX8 160 RX8 yX8_good wsX8_good) := goodIn_app (goodIn_of _ (by decide +kernel)) ggX8_gallery_X8_good
set_option maxRecDepth 20000 in
theorem ggX8_gallery_X8_in : GoodIn wsX8_gallery wsX8_in := goodIn_r _ [23] (by decide +kernel) (by decide +kernel)
set_option maxRecDepth 20000 in
theorem gX8_gallery_X8_in : GoodIn wsX8_gallery (va_wsS RX8 142 yX8_in wsX8_in) := goodIn_app (goodIn_of _ (by decide +kernel)) ggX8_gallery_X8_in
set_option maxRecDepth 20000 in
theorem ggX8_gallery_X8_no : GoodIn wsX8_gallery wsX8_no := goodIn_r _ [27, 20, 171, 172, 173, 174, 175, 176, 177, 178, 179, 180, 181, 182, 183, 184, 185, 186, 187, 188, 189, 190, 191, 192, 193, 194, 195, 196, 197, 198, 199, 200, 201, 202, 203, 204, 205, 206, 207, 208, 209, 210] (by decide +kernel) (by decide +kernel)
set_option maxRecDepth 20000 in
theorem gX8_gallery_X8_no : GoodIn wsX8_gallery (wsV RX8 163 RX8 yX8_no wsX8_no) := goodIn_app (goodIn_of _ (by decide +kernel)) ggX8_gallery_X8_no
set_option maxRecDepth 20000 in
theorem ggX8_gallery_X8_next : GoodIn wsX8_gallery wsX8_next := goodIn_r _ [31, 6, 8, 32, 33, 7, 34, 35, 36, 37, 17, 38, 5, 39, 40, 41, 42, 43, 44, 45, 171, 172, 173, 174, 175, 176, 177, 178, 179, 180, 181, 182, 183, 184, 185, 186, 187, 188, 189, 190, 191, 192, 193, 194, 195, 196, 197, 198, 199, 200, 201, 202, 203, 204, 205, 206, 207, 208, 209, 210] (by decide +kernel) (by decide +kernel)
set_option maxRecDepth 20000 in
theorem gX8_gallery_X8_next : GoodIn wsX8_gallery (wsV RX8 118 RX8 yX8_next wsX8_next) := goodIn_app (goodIn_of _ (by decide +kernel)) ggX8_gallery_X8_next
set_option maxRecDepth 20000 in
theorem ggX8_gallery_X8_readLine : GoodIn wsX8_gallery wsX8_readLine := goodIn_r _ [49, 4, 8, 50, 51, 52, 17, 53, 3, 7, 32, 34, 54, 55, 56, 57, 58, 59, 60, 61, 62, 63, 64, 65, 66, 67, 68, 69, 70, 71, 72, 73, 74, 75, 76, 77, 78, 79, 80, 81, 82, 83, 84, 85, 86, 87, 88, 89, 90, 91, 92, 93, 94, 95, 96, 97, 98, 99, 100, 101, 102, 103, 104, 105, 106, 107, 108, 109, 110, 2, 111, 28, 29, 30, 31, 6, 33, 35, 36, 37, 38, 5, 39, 40, 41, 42, 43, 44, 45, 112, 113, 114, 115, 116, 117, 118, 119, 120, 121, 122, 123, 124, 125, 126, 127, 128, 129, 130, 131, 21, 22, 23, 132, 133, 134, 135, 136, 137, 138, 139, 140, 141, 142, 143, 144, 145, 146, 147, 148, 149, 150, 151, 152, 153, 154, 155, 156, 157, 158, 159, 160, 161, 162, 163, 164, 165, 166, 167, 171, 172, 173, 174, 175, 176, 177, 178, 179, 180, 181, 182, 183, 184, 185, 186, 187, 188, 189, 190, 191, 192, 193, 194, 195, 196, 197, 198, 199, 200, 201, 202, 203, 204, 205, 206, 207, 208, 209, 210] (by decide +kernel) (by decide +kernel)
set_option maxRecDepth 20000 in
theorem gX8_gallery_X8_readLine : GoodIn wsX8_gallery (wsV RX8 166 RX8 yX8_readLine wsX8_readLine) := goodIn_app (goodIn_of _ (by decide +kernel)) ggX8_gallery_X8_readLine
set_option maxRecDepth 20000 in
theorem ggX8_begins_X8_isWord : GoodIn wsX8_begins wsX8_isWord := goodIn_r _ [7, 8, 9, 10, 11, 12, 13, 14, 15, 16, 17, 18, 19, 20, 21, 22, 23, 24, 25, 26, 27, 28, 29, 30, 31, 32, 33, 34, 35, 36, 37, 38, 39, 40, 41, 42, 43, 44, 45, 46, 47, 48, 49, 50, 51, 52, 53, 54, 55, 56, 57, 58, 59, 60, 89, 90, 91, 92, 93, 94, 95, 96, 97, 98, 99, 100, 101, 102, 103, 104, 105, 106, 107, 108, 109, 110, 111, 112, 113, 114, 115, 116, 117, 118, 119, 120, 121, 122, 123, 124, 125, 126, 127, 128] (by decide +kernel) (by decide +kernel)
set_option maxRecDepth 20000 in
theorem gX8_begins_X8_isWord : GoodIn wsX8_begins (wsV RX8 114 RX8 yX8_isWord wsX8_isWord) := goodIn_app (goodIn_of _ (by decide +kernel)) ggX8_begins_X8_isWord
set_option maxRecDepth 20000 in
theorem ggX8_readLine_X8_isWord : GoodIn wsX8_readLine wsX8_isWord := goodIn_r _ [7, 8, 9, 10, 11, 12, 13, 14, 15, 16, 17, 18, 19, 20, 21, 22, 23, 24, 25, 26, 27, 28, 29, 30, 31, 32, 33, 34, 35, 36, 37, 38, 39, 40, 41, 42, 43, 44, 45, 46, 47, 48, 49, 50, 51, 52, 53, 54, 55, 56, 57, 58, 59, 60, 148, 149, 150, 151, 152, 153, 154, 155, 156, 157, 158, 159, 160, 161, 162, 163, 164, 165, 166, 167, 168, 169, 170, 171, 172, 173, 174, 175, 176, 177, 178, 179, 180, 181, 182, 183, 184, 185, 186, 187] (by decide +kernel) (by decide +kernel)
set_option maxRecDepth 20000 in
theorem gX8_readLine_X8_isWord : GoodIn wsX8_readLine (wsV RX8 114 RX8 yX8_isWord wsX8_isWord) := goodIn_app (goodIn_of _ (by decide +kernel)) ggX8_readLine_X8_isWord
set_option maxRecDepth 20000 in
theorem ggX8_readLine_X8_begins : GoodIn wsX8_readLine wsX8_begins := goodIn_r _ [127, 2, 1, 3, 4, 5, 6, 7, 8, 9, 10, 11, 12, 13, 14, 15, 16, 17, 18, 19, 20, 21, 22, 23, 24, 25, 26, 27, 28, 29, 30, 31, 32, 33, 34, 35, 36, 37, 38, 39, 40, 41, 42, 43, 44, 45, 46, 47, 48, 49, 50, 51, 52, 53, 54, 55, 56, 57, 58, 59, 60, 65, 66, 67, 68, 69, 70, 112, 113, 114, 115, 71, 72, 73, 74, 75, 76, 77, 78, 79, 80, 81, 82, 83, 84, 85, 86, 87, 88, 148, 149, 150, 151, 152, 153, 154, 155, 156, 157, 158, 159, 160, 161, 162, 163, 164, 165, 166, 167, 168, 169, 170, 171, 172, 173, 174, 175, 176, 177, 178, 179, 180, 181, 182, 183, 184, 185, 186, 187] (by decide +kernel) (by decide +kernel)
set_option maxRecDepth 20000 in
theorem gX8_readLine_X8_begins : GoodIn wsX8_readLine (wsV RX8 188 RX8 yX8_begins wsX8_begins) := goodIn_app (goodIn_of _ (by decide +kernel)) ggX8_readLine_X8_begins
set_option maxRecDepth 20000 in
theorem ggX8_readLine_X8_wrong : GoodIn wsX8_readLine wsX8_wrong := goodIn_r _ [68, 8, 69, 70, 148, 149, 150, 151, 152, 153, 154, 155, 156, 157, 158, 159, 160, 161, 162, 163, 164, 165, 166, 167, 168, 169, 170, 171, 172, 173, 174, 175, 176, 177, 178, 179, 180, 181, 182, 183, 184, 185, 186, 187] (by decide +kernel) (by decide +kernel)
set_option maxRecDepth 20000 in
theorem gX8_readLine_X8_wrong : GoodIn wsX8_readLine (wsV RX8 124 RX8 yX8_wrong wsX8_wrong) := goodIn_app (goodIn_of _ (by decide +kernel)) ggX8_readLine_X8_wrong
set_option maxRecDepth 20000 in
theorem ggX8_figure_X8_good : GoodIn wsX8_figure wsX8_good := goodIn_r _ [7, 8, 9, 22, 23, 24, 25, 26, 27, 28, 29, 30, 31, 32, 33, 34, 35, 36, 37, 38, 39, 40, 41, 42, 43, 44, 45, 46, 47, 48, 49, 50, 51, 52, 53, 54, 55, 56, 57, 58, 59, 60, 61] (by decide +kernel) (by decide +kernel)
set_option maxRecDepth 20000 in
theorem gX8_figure_X8_good : GoodIn wsX8_figure (wsV RX8 160 RX8 yX8_good wsX8_good) := goodIn_app (goodIn_of _ (by decide +kernel)) ggX8_figure_X8_good
set_option maxRecDepth 20000 in
theorem ggX8_figure_X8_isFigure : GoodIn wsX8_figure wsX8_isFigure := goodIn_r _ [13, 14, 1, 15, 16, 6, 17, 22, 23, 24, 25, 26, 27, 28, 29, 30, 31, 32, 33, 34, 35, 36, 37, 38, 39, 40, 41, 42, 43, 44, 45, 46, 47, 48, 49, 50, 51, 52, 53, 54, 55, 56, 57, 58, 59, 60, 61] (by decide +kernel) (by decide +kernel)
set_option maxRecDepth 20000 in
theorem gX8_figure_X8_isFigure : GoodIn wsX8_figure (wsV RX8 277 RX8 yX8_isFigure wsX8_isFigure) := goodIn_app (goodIn_of _ (by decide +kernel)) ggX8_figure_X8_isFigure
set_option maxRecDepth 20000 in
theorem ggX8_figure_X8_no : GoodIn wsX8_figure wsX8_no := goodIn_r _ [21, 9, 22, 23, 24, 25, 26, 27, 28, 29, 30, 31, 32, 33, 34, 35, 36, 37, 38, 39, 40, 41, 42, 43, 44, 45, 46, 47, 48, 49, 50, 51, 52, 53, 54, 55, 56, 57, 58, 59, 60, 61] (by decide +kernel) (by decide +kernel)
set_option maxRecDepth 20000 in
theorem gX8_figure_X8_no : GoodIn wsX8_figure (wsV RX8 163 RX8 yX8_no wsX8_no) := goodIn_app (goodIn_of _ (by decide +kernel)) ggX8_figure_X8_no
set_option maxRecDepth 20000 in
theorem ggX8_watcher_X8_good : GoodIn wsX8_watcher wsX8_good := goodIn_r _ [7, 8, 9, 33, 34, 35, 36, 37, 38, 39, 40, 41, 42, 43, 44, 45, 46, 47, 48, 49, 50, 51, 52, 53, 54, 55, 56, 57, 58, 59, 60, 61, 62, 63, 64, 65, 66, 67, 68, 69, 70, 71, 72] (by decide +kernel) (by decide +kernel)
set_option maxRecDepth 20000 in
theorem gX8_watcher_X8_good : GoodIn wsX8_watcher (wsV RX8 160 RX8 yX8_good wsX8_good) := goodIn_app (goodIn_of _ (by decide +kernel)) ggX8_watcher_X8_good
set_option maxRecDepth 20000 in
theorem ggX8_watcher_X8_isWatcher : GoodIn wsX8_watcher wsX8_isWatcher := goodIn_r _ [13, 14, 1, 15, 16, 6, 17, 33, 34, 35, 36, 37, 38, 39, 40, 41, 42, 43, 44, 45, 46, 47, 48, 49, 50, 51, 52, 53, 54, 55, 56, 57, 58, 59, 60, 61, 62, 63, 64, 65, 66, 67, 68, 69, 70, 71, 72] (by decide +kernel) (by decide +kernel)
set_option maxRecDepth 20000 in
theorem gX8_watcher_X8_isWatcher : GoodIn wsX8_watcher (wsV RX8 280 RX8 yX8_isWatcher wsX8_isWatcher) := goodIn_app (goodIn_of _ (by decide +kernel)) ggX8_watcher_X8_isWatcher
set_option maxRecDepth 20000 in
theorem ggX8_watcher_X8_no : GoodIn wsX8_watcher wsX8_no := goodIn_r _ [21, 9, 33, 34, 35, 36, 37, 38, 39, 40, 41, 42, 43, 44, 45, 46, 47, 48, 49, 50, 51, 52, 53, 54, 55, 56, 57, 58, 59, 60, 61, 62, 63, 64, 65, 66, 67, 68, 69, 70, 71, 72] (by decide +kernel) (by decide +kernel)
set_option maxRecDepth 20000 in
theorem gX8_watcher_X8_no : GoodIn wsX8_watcher (wsV RX8 163 RX8 yX8_no wsX8_no) := goodIn_app (goodIn_of _ (by decide +kernel)) ggX8_watcher_X8_no
set_option maxRecDepth 20000 in
theorem ggX8_alive_X8_good : GoodIn wsX8_alive wsX8_good := goodIn_r _ [7, 8, 9, 14, 15, 16, 17, 18, 19, 20, 21, 22, 23, 24, 25, 26, 27, 28, 29, 30, 31, 32, 33, 34, 35, 36, 37, 38, 39, 40, 41, 42, 43, 44, 45, 46, 47, 48, 49, 50, 51, 52, 53] (by decide +kernel) (by decide +kernel)
set_option maxRecDepth 20000 in
theorem gX8_alive_X8_good : GoodIn wsX8_alive (wsV RX8 160 RX8 yX8_good wsX8_good) := goodIn_app (goodIn_of _ (by decide +kernel)) ggX8_alive_X8_good
set_option maxRecDepth 20000 in
theorem ggX8_alive_X8_no : GoodIn wsX8_alive wsX8_no := goodIn_r _ [13, 9, 14, 15, 16, 17, 18, 19, 20, 21, 22, 23, 24, 25, 26, 27, 28, 29, 30, 31, 32, 33, 34, 35, 36, 37, 38, 39, 40, 41, 42, 43, 44, 45, 46, 47, 48, 49, 50, 51, 52, 53] (by decide +kernel) (by decide +kernel)
set_option maxRecDepth 20000 in
theorem gX8_alive_X8_no : GoodIn wsX8_alive (wsV RX8 163 RX8 yX8_no wsX8_no) := goodIn_app (goodIn_of _ (by decide +kernel)) ggX8_alive_X8_no
set_option maxRecDepth 20000 in
theorem ggX8_left_X8_good : GoodIn wsX8_left wsX8_good := goodIn_r _ [8, 9, 10, 15, 16, 17, 18, 19, 20, 21, 22, 23, 24, 25, 26, 27, 28, 29, 30, 31, 32, 33, 34, 35, 36, 37, 38, 39, 40, 41, 42, 43, 44, 45, 46, 47, 48, 49, 50, 51, 52, 53, 54] (by decide +kernel) (by decide +kernel)
set_option maxRecDepth 20000 in
theorem gX8_left_X8_good : GoodIn wsX8_left (wsV RX8 160 RX8 yX8_good wsX8_good) := goodIn_app (goodIn_of _ (by decide +kernel)) ggX8_left_X8_good
set_option maxRecDepth 20000 in
theorem ggX8_left_X8_no : GoodIn wsX8_left wsX8_no := goodIn_r _ [14, 10, 15, 16, 17, 18, 19, 20, 21, 22, 23, 24, 25, 26, 27, 28, 29, 30, 31, 32, 33, 34, 35, 36, 37, 38, 39, 40, 41, 42, 43, 44, 45, 46, 47, 48, 49, 50, 51, 52, 53, 54] (by decide +kernel) (by decide +kernel)
set_option maxRecDepth 20000 in
theorem gX8_left_X8_no : GoodIn wsX8_left (wsV RX8 163 RX8 yX8_no wsX8_no) := goodIn_app (goodIn_of _ (by decide +kernel)) ggX8_left_X8_no
set_option maxRecDepth 20000 in
theorem ggX8_caught_X8_good : GoodIn wsX8_caught wsX8_good := goodIn_r _ [7, 8, 9, 14, 15, 16, 17, 18, 19, 20, 21, 22, 23, 24, 25, 26, 27, 28, 29, 30, 31, 32, 33, 34, 35, 36, 37, 38, 39, 40, 41, 42, 43, 44, 45, 46, 47, 48, 49, 50, 51, 52, 53] (by decide +kernel) (by decide +kernel)
set_option maxRecDepth 20000 in
theorem gX8_caught_X8_good : GoodIn wsX8_caught (wsV RX8 160 RX8 yX8_good wsX8_good) := goodIn_app (goodIn_of _ (by decide +kernel)) ggX8_caught_X8_good
set_option maxRecDepth 20000 in
theorem ggX8_caught_X8_no : GoodIn wsX8_caught wsX8_no := goodIn_r _ [13, 9, 14, 15, 16, 17, 18, 19, 20, 21, 22, 23, 24, 25, 26, 27, 28, 29, 30, 31, 32, 33, 34, 35, 36, 37, 38, 39, 40, 41, 42, 43, 44, 45, 46, 47, 48, 49, 50, 51, 52, 53] (by decide +kernel) (by decide +kernel)
set_option maxRecDepth 20000 in
theorem gX8_caught_X8_no : GoodIn wsX8_caught (wsV RX8 163 RX8 yX8_no wsX8_no) := goodIn_app (goodIn_of _ (by decide +kernel)) ggX8_caught_X8_no
set_option maxRecDepth 20000 in
theorem ggX8_turnOf_X8_good : GoodIn wsX8_turnOf wsX8_good := goodIn_r _ [7, 8, 9, 38, 39, 40, 41, 42, 43, 44, 45, 46, 47, 48, 49, 50, 51, 52, 53, 54, 55, 56, 57, 58, 59, 60, 61, 62, 63, 64, 65, 66, 67, 68, 69, 70, 71, 72, 73, 74, 75, 76, 77] (by decide +kernel) (by decide +kernel)
set_option maxRecDepth 20000 in
theorem gX8_turnOf_X8_good : GoodIn wsX8_turnOf (wsV RX8 160 RX8 yX8_good wsX8_good) := goodIn_app (goodIn_of _ (by decide +kernel)) ggX8_turnOf_X8_good
set_option maxRecDepth 20000 in
theorem ggX8_turnOf_X8_in : GoodIn wsX8_turnOf wsX8_in := goodIn_r _ [12] (by decide +kernel) (by decide +kernel)
set_option maxRecDepth 20000 in
theorem gX8_turnOf_X8_in : GoodIn wsX8_turnOf (va_wsS RX8 142 yX8_in wsX8_in) := goodIn_app (goodIn_of _ (by decide +kernel)) ggX8_turnOf_X8_in
set_option maxRecDepth 20000 in
theorem ggX8_turnOf_X8_why : GoodIn wsX8_turnOf wsX8_why := goodIn_r _ [16] (by decide +kernel) (by decide +kernel)
set_option maxRecDepth 20000 in
theorem gX8_turnOf_X8_why : GoodIn wsX8_turnOf (wsV RX8 290 RX8 yX8_why wsX8_why) := goodIn_app (goodIn_of _ (by decide +kernel)) ggX8_turnOf_X8_why
set_option maxRecDepth 20000 in
theorem ggX8_turnOf_X8_no : GoodIn wsX8_turnOf wsX8_no := goodIn_r _ [20, 9, 38, 39, 40, 41, 42, 43, 44, 45, 46, 47, 48, 49, 50, 51, 52, 53, 54, 55, 56, 57, 58, 59, 60, 61, 62, 63, 64, 65, 66, 67, 68, 69, 70, 71, 72, 73, 74, 75, 76, 77] (by decide +kernel) (by decide +kernel)
set_option maxRecDepth 20000 in
theorem gX8_turnOf_X8_no : GoodIn wsX8_turnOf (wsV RX8 163 RX8 yX8_no wsX8_no) := goodIn_app (goodIn_of _ (by decide +kernel)) ggX8_turnOf_X8_no
set_option maxRecDepth 20000 in
theorem ggX8_turnIn_X8_good : GoodIn wsX8_turnIn wsX8_good := goodIn_r _ [8, 9, 10, 33, 34, 35, 36, 37, 38, 39, 40, 41, 42, 43, 44, 45, 46, 47, 48, 49, 50, 51, 52, 53, 54, 55, 56, 57, 58, 59, 60, 61, 62, 63, 64, 65, 66, 67, 68, 69, 70, 71, 72] (by decide +kernel) (by decide +kernel)
set_option maxRecDepth 20000 in
theorem gX8_turnIn_X8_good : GoodIn wsX8_turnIn (wsV RX8 160 RX8 yX8_good wsX8_good) := goodIn_app (goodIn_of _ (by decide +kernel)) ggX8_turnIn_X8_good
set_option maxRecDepth 20000 in
theorem ggX8_turnIn_X8_isFigure : GoodIn wsX8_turnIn wsX8_isFigure := goodIn_r _ [14, 15, 16, 17, 18, 7, 19, 33, 34, 35, 36, 37, 38, 39, 40, 41, 42, 43, 44, 45, 46, 47, 48, 49, 50, 51, 52, 53, 54, 55, 56, 57, 58, 59, 60, 61, 62, 63, 64, 65, 66, 67, 68, 69, 70, 71, 72] (by decide +kernel) (by decide +kernel)
set_option maxRecDepth 20000 in
theorem gX8_turnIn_X8_isFigure : GoodIn wsX8_turnIn (wsV RX8 277 RX8 yX8_isFigure wsX8_isFigure) := goodIn_app (goodIn_of _ (by decide +kernel)) ggX8_turnIn_X8_isFigure
set_option maxRecDepth 20000 in
theorem ggX8_turnIn_X8_no : GoodIn wsX8_turnIn wsX8_no := goodIn_r _ [23, 10, 33, 34, 35, 36, 37, 38, 39, 40, 41, 42, 43, 44, 45, 46, 47, 48, 49, 50, 51, 52, 53, 54, 55, 56, 57, 58, 59, 60, 61, 62, 63, 64, 65, 66, 67, 68, 69, 70, 71, 72] (by decide +kernel) (by decide +kernel)
set_option maxRecDepth 20000 in
theorem gX8_turnIn_X8_no : GoodIn wsX8_turnIn (wsV RX8 163 RX8 yX8_no wsX8_no) := goodIn_app (goodIn_of _ (by decide +kernel)) ggX8_turnIn_X8_no
set_option maxRecDepth 20000 in
theorem ggX8_settles_X8_good : GoodIn wsX8_settles wsX8_good := goodIn_r _ [7, 8, 9, 26, 27, 28, 29, 30, 31, 32, 33, 34, 35, 36, 37, 38, 39, 40, 41, 42, 43, 44, 45, 46, 47, 48, 49, 50, 51, 52, 53, 54, 55, 56, 57, 58, 59, 60, 61, 62, 63, 64, 65] (by decide +kernel) (by decide +kernel)
set_option maxRecDepth 20000 in
theorem gX8_settles_X8_good : GoodIn wsX8_settles (wsV RX8 160 RX8 yX8_good wsX8_good) := goodIn_app (goodIn_of _ (by decide +kernel)) ggX8_settles_X8_good
set_option maxRecDepth 20000 in
theorem ggX8_settles_X8_no : GoodIn wsX8_settles wsX8_no := goodIn_r _ [13, 9, 26, 27, 28, 29, 30, 31, 32, 33, 34, 35, 36, 37, 38, 39, 40, 41, 42, 43, 44, 45, 46, 47, 48, 49, 50, 51, 52, 53, 54, 55, 56, 57, 58, 59, 60, 61, 62, 63, 64, 65] (by decide +kernel) (by decide +kernel)
set_option maxRecDepth 20000 in
theorem gX8_settles_X8_no : GoodIn wsX8_settles (wsV RX8 163 RX8 yX8_no wsX8_no) := goodIn_app (goodIn_of _ (by decide +kernel)) ggX8_settles_X8_no
set_option maxRecDepth 20000 in
theorem ggX8_round_X8_good : GoodIn wsX8_round wsX8_good := goodIn_r _ [7, 8, 9, 26, 27, 28, 29, 30, 31, 32, 33, 34, 35, 36, 37, 38, 39, 40, 41, 42, 43, 44, 45, 46, 47, 48, 49, 50, 51, 52, 53, 54, 55, 56, 57, 58, 59, 60, 61, 62, 63, 64, 65] (by decide +kernel) (by decide +kernel)
set_option maxRecDepth 20000 in
theorem gX8_round_X8_good : GoodIn wsX8_round (wsV RX8 160 RX8 yX8_good wsX8_good) := goodIn_app (goodIn_of _ (by decide +kernel)) ggX8_round_X8_good
set_option maxRecDepth 20000 in
theorem ggX8_round_X8_no : GoodIn wsX8_round wsX8_no := goodIn_r _ [13, 9, 26, 27, 28, 29, 30, 31, 32, 33, 34, 35, 36, 37, 38, 39, 40, 41, 42, 43, 44, 45, 46, 47, 48, 49, 50, 51, 52, 53, 54, 55, 56, 57, 58, 59, 60, 61, 62, 63, 64, 65] (by decide +kernel) (by decide +kernel)
set_option maxRecDepth 20000 in
theorem gX8_round_X8_no : GoodIn wsX8_round (wsV RX8 163 RX8 yX8_no wsX8_no) := goodIn_app (goodIn_of _ (by decide +kernel)) ggX8_round_X8_no
set_option maxRecDepth 20000 in
theorem ggX8_called_X8_good : GoodIn wsX8_called wsX8_good := goodIn_r _ [9, 10, 11, 26, 27, 28, 29, 30, 31, 32, 33, 34, 35, 36, 37, 38, 39, 40, 41, 42, 43, 44, 45, 46, 47, 48, 49, 50, 51, 52, 53, 54, 55, 56, 57, 58, 59, 60, 61, 62, 63, 64, 65] (by decide +kernel) (by decide +kernel)
set_option maxRecDepth 20000 in
theorem gX8_called_X8_good : GoodIn wsX8_called (wsV RX8 160 RX8 yX8_good wsX8_good) := goodIn_app (goodIn_of _ (by decide +kernel)) ggX8_called_X8_good
set_option maxRecDepth 20000 in
theorem ggX8_called_X8_no : GoodIn wsX8_called wsX8_no := goodIn_r _ [15, 11, 26, 27, 28, 29, 30, 31, 32, 33, 34, 35, 36, 37, 38, 39, 40, 41, 42, 43, 44, 45, 46, 47, 48, 49, 50, 51, 52, 53, 54, 55, 56, 57, 58, 59, 60, 61, 62, 63, 64, 65] (by decide +kernel) (by decide +kernel)
set_option maxRecDepth 20000 in
theorem gX8_called_X8_no : GoodIn wsX8_called (wsV RX8 163 RX8 yX8_no wsX8_no) := goodIn_app (goodIn_of _ (by decide +kernel)) ggX8_called_X8_no
set_option maxRecDepth 20000 in
theorem ggX8_minutesOf_X8_good : GoodIn wsX8_minutesOf wsX8_good := goodIn_r _ [7, 8, 9, 41, 42, 43, 44, 45, 46, 47, 48, 49, 50, 51, 52, 53, 54, 55, 56, 57, 58, 59, 60, 61, 62, 63, 64, 65, 66, 67, 68, 69, 70, 71, 72, 73, 74, 75, 76, 77, 78, 79, 80] (by decide +kernel) (by decide +kernel)
set_option maxRecDepth 20000 in
theorem gX8_minutesOf_X8_good : GoodIn wsX8_minutesOf (wsV RX8 160 RX8 yX8_good wsX8_good) := goodIn_app (goodIn_of _ (by decide +kernel)) ggX8_minutesOf_X8_good
set_option maxRecDepth 20000 in
theorem ggX8_minutesOf_X8_isFigure : GoodIn wsX8_minutesOf wsX8_isFigure := goodIn_r _ [13, 14, 2, 15, 16, 6, 17, 41, 42, 43, 44, 45, 46, 47, 48, 49, 50, 51, 52, 53, 54, 55, 56, 57, 58, 59, 60, 61, 62, 63, 64, 65, 66, 67, 68, 69, 70, 71, 72, 73, 74, 75, 76, 77, 78, 79, 80] (by decide +kernel) (by decide +kernel)
set_option maxRecDepth 20000 in
theorem gX8_minutesOf_X8_isFigure : GoodIn wsX8_minutesOf (wsV RX8 277 RX8 yX8_isFigure wsX8_isFigure) := goodIn_app (goodIn_of _ (by decide +kernel)) ggX8_minutesOf_X8_isFigure
set_option maxRecDepth 20000 in
theorem ggX8_minutesOf_X8_in : GoodIn wsX8_minutesOf wsX8_in := goodIn_r _ [17] (by decide +kernel) (by decide +kernel)
set_option maxRecDepth 20000 in
theorem gX8_minutesOf_X8_in : GoodIn wsX8_minutesOf (va_wsS RX8 142 yX8_in wsX8_in) := goodIn_app (goodIn_of _ (by decide +kernel)) ggX8_minutesOf_X8_in
set_option maxRecDepth 20000 in
theorem ggX8_minutesOf_X8_why : GoodIn wsX8_minutesOf wsX8_why := goodIn_r _ [21] (by decide +kernel) (by decide +kernel)
set_option maxRecDepth 20000 in
theorem gX8_minutesOf_X8_why : GoodIn wsX8_minutesOf (wsV RX8 290 RX8 yX8_why wsX8_why) := goodIn_app (goodIn_of _ (by decide +kernel)) ggX8_minutesOf_X8_why
set_option maxRecDepth 20000 in
theorem ggX8_minutesOf_X8_no : GoodIn wsX8_minutesOf wsX8_no := goodIn_r _ [25, 9, 41, 42, 43, 44, 45, 46, 47, 48, 49, 50, 51, 52, 53, 54, 55, 56, 57, 58, 59, 60, 61, 62, 63, 64, 65, 66, 67, 68, 69, 70, 71, 72, 73, 74, 75, 76, 77, 78, 79, 80] (by decide +kernel) (by decide +kernel)
set_option maxRecDepth 20000 in
theorem gX8_minutesOf_X8_no : GoodIn wsX8_minutesOf (wsV RX8 163 RX8 yX8_no wsX8_no) := goodIn_app (goodIn_of _ (by decide +kernel)) ggX8_minutesOf_X8_no
set_option maxRecDepth 20000 in
theorem ggX8_aheadWhy_X8_in : GoodIn wsX8_aheadWhy wsX8_in := goodIn_r _ [4] (by decide +kernel) (by decide +kernel)
set_option maxRecDepth 20000 in
theorem gX8_aheadWhy_X8_in : GoodIn wsX8_aheadWhy (va_wsS RX8 142 yX8_in wsX8_in) := goodIn_app (goodIn_of _ (by decide +kernel)) ggX8_aheadWhy_X8_in
set_option maxRecDepth 20000 in
theorem ggX8_aheadWhy_X8_why : GoodIn wsX8_aheadWhy wsX8_why := goodIn_r _ [8] (by decide +kernel) (by decide +kernel)
set_option maxRecDepth 20000 in
theorem gX8_aheadWhy_X8_why : GoodIn wsX8_aheadWhy (wsV RX8 290 RX8 yX8_why wsX8_why) := goodIn_app (goodIn_of _ (by decide +kernel)) ggX8_aheadWhy_X8_why
set_option maxRecDepth 20000 in
theorem ggX8_place_X8_good : GoodIn wsX8_place wsX8_good := goodIn_r _ [6, 7, 8, 79, 80, 81, 82, 83, 84, 85, 86, 87, 88, 89, 90, 91, 92, 93, 94, 95, 96, 97, 98, 99, 100, 101, 102, 103, 104, 105, 106, 107, 108, 109, 110, 111, 112, 113, 114, 115, 116, 117, 118] (by decide +kernel) (by decide +kernel)
set_option maxRecDepth 20000 in
theorem gX8_place_X8_good : GoodIn wsX8_place (wsV RX8 160 RX8 yX8_good wsX8_good) := goodIn_app (goodIn_of _ (by decide +kernel)) ggX8_place_X8_good
set_option maxRecDepth 20000 in
theorem ggX8_place_X8_isFigure : GoodIn wsX8_place wsX8_isFigure := goodIn_r _ [12, 13, 14, 15, 16, 5, 17, 79, 80, 81, 82, 83, 84, 85, 86, 87, 88, 89, 90, 91, 92, 93, 94, 95, 96, 97, 98, 99, 100, 101, 102, 103, 104, 105, 106, 107, 108, 109, 110, 111, 112, 113, 114, 115, 116, 117, 118] (by decide +kernel) (by decide +kernel)
set_option maxRecDepth 20000 in
theorem gX8_place_X8_isFigure : GoodIn wsX8_place (wsV RX8 277 RX8 yX8_isFigure wsX8_isFigure) := goodIn_app (goodIn_of _ (by decide +kernel)) ggX8_place_X8_isFigure
set_option maxRecDepth 20000 in
theorem ggX8_place_X8_aheadWhy : GoodIn wsX8_place wsX8_aheadWhy := goodIn_r _ [21, 15, 16, 5, 17, 22, 23, 24, 25] (by decide +kernel) (by decide +kernel)
set_option maxRecDepth 20000 in
theorem gX8_place_X8_aheadWhy : GoodIn wsX8_place (wsV RX8 300 RX8 yX8_aheadWhy wsX8_aheadWhy) := goodIn_app (goodIn_of _ (by decide +kernel)) ggX8_place_X8_aheadWhy
set_option maxRecDepth 20000 in
theorem ggX8_place_X8_no : GoodIn wsX8_place wsX8_no := goodIn_r _ [29, 8, 79, 80, 81, 82, 83, 84, 85, 86, 87, 88, 89, 90, 91, 92, 93, 94, 95, 96, 97, 98, 99, 100, 101, 102, 103, 104, 105, 106, 107, 108, 109, 110, 111, 112, 113, 114, 115, 116, 117, 118] (by decide +kernel) (by decide +kernel)
set_option maxRecDepth 20000 in
theorem gX8_place_X8_no : GoodIn wsX8_place (wsV RX8 163 RX8 yX8_no wsX8_no) := goodIn_app (goodIn_of _ (by decide +kernel)) ggX8_place_X8_no
set_option maxRecDepth 20000 in
theorem ggX8_watch_X8_good : GoodIn wsX8_watch wsX8_good := goodIn_r _ [6, 7, 8, 41, 42, 43, 44, 45, 46, 47, 48, 49, 50, 51, 52, 53, 54, 55, 56, 57, 58, 59, 60, 61, 62, 63, 64, 65, 66, 67, 68, 69, 70, 71, 72, 73, 74, 75, 76, 77, 78, 79, 80] (by decide +kernel) (by decide +kernel)
set_option maxRecDepth 20000 in
theorem gX8_watch_X8_good : GoodIn wsX8_watch (wsV RX8 160 RX8 yX8_good wsX8_good) := goodIn_app (goodIn_of _ (by decide +kernel)) ggX8_watch_X8_good
set_option maxRecDepth 20000 in
theorem ggX8_watch_X8_isWatcher : GoodIn wsX8_watch wsX8_isWatcher := goodIn_r _ [12, 13, 14, 15, 16, 5, 17, 41, 42, 43, 44, 45, 46, 47, 48, 49, 50, 51, 52, 53, 54, 55, 56, 57, 58, 59, 60, 61, 62, 63, 64, 65, 66, 67, 68, 69, 70, 71, 72, 73, 74, 75, 76, 77, 78, 79, 80] (by decide +kernel) (by decide +kernel)
set_option maxRecDepth 20000 in
theorem gX8_watch_X8_isWatcher : GoodIn wsX8_watch (wsV RX8 280 RX8 yX8_isWatcher wsX8_isWatcher) := goodIn_app (goodIn_of _ (by decide +kernel)) ggX8_watch_X8_isWatcher
set_option maxRecDepth 20000 in
theorem ggX8_watch_X8_aheadWhy : GoodIn wsX8_watch wsX8_aheadWhy := goodIn_r _ [21, 15, 16, 5, 17, 22, 23, 24, 25] (by decide +kernel) (by decide +kernel)
set_option maxRecDepth 20000 in
theorem gX8_watch_X8_aheadWhy : GoodIn wsX8_watch (wsV RX8 300 RX8 yX8_aheadWhy wsX8_aheadWhy) := goodIn_app (goodIn_of _ (by decide +kernel)) ggX8_watch_X8_aheadWhy
set_option maxRecDepth 20000 in
theorem ggX8_watch_X8_no : GoodIn wsX8_watch wsX8_no := goodIn_r _ [29, 8, 41, 42, 43, 44, 45, 46, 47, 48, 49, 50, 51, 52, 53, 54, 55, 56, 57, 58, 59, 60, 61, 62, 63, 64, 65, 66, 67, 68, 69, 70, 71, 72, 73, 74, 75, 76, 77, 78, 79, 80] (by decide +kernel) (by decide +kernel)
set_option maxRecDepth 20000 in
theorem gX8_watch_X8_no : GoodIn wsX8_watch (wsV RX8 163 RX8 yX8_no wsX8_no) := goodIn_app (goodIn_of _ (by decide +kernel)) ggX8_watch_X8_no
set_option maxRecDepth 20000 in
theorem ggX8_gone_X8_good : GoodIn wsX8_gone wsX8_good := goodIn_r _ [7, 8, 9, 75, 76, 77, 78, 79, 80, 81, 82, 83, 84, 85, 86, 87, 88, 89, 90, 91, 92, 93, 94, 95, 96, 97, 98, 99, 100, 101, 102, 103, 104, 105, 106, 107, 108, 109, 110, 111, 112, 113, 114] (by decide +kernel) (by decide +kernel)
set_option maxRecDepth 20000 in
theorem gX8_gone_X8_good : GoodIn wsX8_gone (wsV RX8 160 RX8 yX8_good wsX8_good) := goodIn_app (goodIn_of _ (by decide +kernel)) ggX8_gone_X8_good
set_option maxRecDepth 20000 in
theorem ggX8_gone_X8_aheadWhy : GoodIn wsX8_gone wsX8_aheadWhy := goodIn_r _ [13, 14, 15, 6, 16, 17, 18, 19, 20] (by decide +kernel) (by decide +kernel)
set_option maxRecDepth 20000 in
theorem gX8_gone_X8_aheadWhy : GoodIn wsX8_gone (wsV RX8 300 RX8 yX8_aheadWhy wsX8_aheadWhy) := goodIn_app (goodIn_of _ (by decide +kernel)) ggX8_gone_X8_aheadWhy
set_option maxRecDepth 20000 in
theorem ggX8_gone_X8_no : GoodIn wsX8_gone wsX8_no := goodIn_r _ [24, 9, 75, 76, 77, 78, 79, 80, 81, 82, 83, 84, 85, 86, 87, 88, 89, 90, 91, 92, 93, 94, 95, 96, 97, 98, 99, 100, 101, 102, 103, 104, 105, 106, 107, 108, 109, 110, 111, 112, 113, 114] (by decide +kernel) (by decide +kernel)
set_option maxRecDepth 20000 in
theorem gX8_gone_X8_no : GoodIn wsX8_gone (wsV RX8 163 RX8 yX8_no wsX8_no) := goodIn_app (goodIn_of _ (by decide +kernel)) ggX8_gone_X8_no
set_option maxRecDepth 20000 in
theorem ggX8_stairs_X8_good : GoodIn wsX8_stairs wsX8_good := goodIn_r _ [6, 7, 8, 64, 65, 66, 67, 68, 69, 70, 71, 72, 73, 74, 75, 76, 77, 78, 79, 80, 81, 82, 83, 84, 85, 86, 87, 88, 89, 90, 91, 92, 93, 94, 95, 96, 97, 98, 99, 100, 101, 102, 103] (by decide +kernel) (by decide +kernel)
set_option maxRecDepth 20000 in
theorem gX8_stairs_X8_good : GoodIn wsX8_stairs (wsV RX8 160 RX8 yX8_good wsX8_good) := goodIn_app (goodIn_of _ (by decide +kernel)) ggX8_stairs_X8_good
set_option maxRecDepth 20000 in
theorem ggX8_stairs_X8_no : GoodIn wsX8_stairs wsX8_no := goodIn_r _ [12, 8, 64, 65, 66, 67, 68, 69, 70, 71, 72, 73, 74, 75, 76, 77, 78, 79, 80, 81, 82, 83, 84, 85, 86, 87, 88, 89, 90, 91, 92, 93, 94, 95, 96, 97, 98, 99, 100, 101, 102, 103] (by decide +kernel) (by decide +kernel)
set_option maxRecDepth 20000 in
theorem gX8_stairs_X8_no : GoodIn wsX8_stairs (wsV RX8 163 RX8 yX8_no wsX8_no) := goodIn_app (goodIn_of _ (by decide +kernel)) ggX8_stairs_X8_no
set_option maxRecDepth 20000 in
theorem ggX8_catches_X8_good : GoodIn wsX8_catches wsX8_good := goodIn_r _ [8, 9, 10, 75, 76, 77, 78, 79, 80, 81, 82, 83, 84, 85, 86, 87, 88, 89, 90, 91, 92, 93, 94, 95, 96, 97, 98, 99, 100, 101, 102, 103, 104, 105, 106, 107, 108, 109, 110, 111, 112, 113, 114] (by decide +kernel) (by decide +kernel)
set_option maxRecDepth 20000 in
theorem gX8_catches_X8_good : GoodIn wsX8_catches (wsV RX8 160 RX8 yX8_good wsX8_good) := goodIn_app (goodIn_of _ (by decide +kernel)) ggX8_catches_X8_good
set_option maxRecDepth 20000 in
theorem ggX8_catches_X8_aheadWhy : GoodIn wsX8_catches wsX8_aheadWhy := goodIn_r _ [14, 15, 16, 7, 17, 18, 19, 20, 21] (by decide +kernel) (by decide +kernel)
set_option maxRecDepth 20000 in
theorem gX8_catches_X8_aheadWhy : GoodIn wsX8_catches (wsV RX8 300 RX8 yX8_aheadWhy wsX8_aheadWhy) := goodIn_app (goodIn_of _ (by decide +kernel)) ggX8_catches_X8_aheadWhy
set_option maxRecDepth 20000 in
theorem ggX8_catches_X8_no : GoodIn wsX8_catches wsX8_no := goodIn_r _ [25, 10, 75, 76, 77, 78, 79, 80, 81, 82, 83, 84, 85, 86, 87, 88, 89, 90, 91, 92, 93, 94, 95, 96, 97, 98, 99, 100, 101, 102, 103, 104, 105, 106, 107, 108, 109, 110, 111, 112, 113, 114] (by decide +kernel) (by decide +kernel)
set_option maxRecDepth 20000 in
theorem gX8_catches_X8_no : GoodIn wsX8_catches (wsV RX8 163 RX8 yX8_no wsX8_no) := goodIn_app (goodIn_of _ (by decide +kernel)) ggX8_catches_X8_no
set_option maxRecDepth 20000 in
theorem ggX8_heard_X8_good : GoodIn wsX8_heard wsX8_good := goodIn_r _ [6, 7, 8, 75, 76, 77, 78, 79, 80, 81, 82, 83, 84, 85, 86, 87, 88, 89, 90, 91, 92, 93, 94, 95, 96, 97, 98, 99, 100, 101, 102, 103, 104, 105, 106, 107, 108, 109, 110, 111, 112, 113, 114] (by decide +kernel) (by decide +kernel)
set_option maxRecDepth 20000 in
theorem gX8_heard_X8_good : GoodIn wsX8_heard (wsV RX8 160 RX8 yX8_good wsX8_good) := goodIn_app (goodIn_of _ (by decide +kernel)) ggX8_heard_X8_good
set_option maxRecDepth 20000 in
theorem ggX8_heard_X8_isFigure : GoodIn wsX8_heard wsX8_isFigure := goodIn_r _ [12, 13, 14, 15, 16, 5, 17, 75, 76, 77, 78, 79, 80, 81, 82, 83, 84, 85, 86, 87, 88, 89, 90, 91, 92, 93, 94, 95, 96, 97, 98, 99, 100, 101, 102, 103, 104, 105, 106, 107, 108, 109, 110, 111, 112, 113, 114] (by decide +kernel) (by decide +kernel)
set_option maxRecDepth 20000 in
theorem gX8_heard_X8_isFigure : GoodIn wsX8_heard (wsV RX8 277 RX8 yX8_isFigure wsX8_isFigure) := goodIn_app (goodIn_of _ (by decide +kernel)) ggX8_heard_X8_isFigure
set_option maxRecDepth 20000 in
theorem ggX8_heard_X8_aheadWhy : GoodIn wsX8_heard wsX8_aheadWhy := goodIn_r _ [21, 15, 16, 5, 17, 22, 23, 24, 25] (by decide +kernel) (by decide +kernel)
set_option maxRecDepth 20000 in
theorem gX8_heard_X8_aheadWhy : GoodIn wsX8_heard (wsV RX8 300 RX8 yX8_aheadWhy wsX8_aheadWhy) := goodIn_app (goodIn_of _ (by decide +kernel)) ggX8_heard_X8_aheadWhy
set_option maxRecDepth 20000 in
theorem ggX8_heard_X8_no : GoodIn wsX8_heard wsX8_no := goodIn_r _ [29, 8, 75, 76, 77, 78, 79, 80, 81, 82, 83, 84, 85, 86, 87, 88, 89, 90, 91, 92, 93, 94, 95, 96, 97, 98, 99, 100, 101, 102, 103, 104, 105, 106, 107, 108, 109, 110, 111, 112, 113, 114] (by decide +kernel) (by decide +kernel)
set_option maxRecDepth 20000 in
theorem gX8_heard_X8_no : GoodIn wsX8_heard (wsV RX8 163 RX8 yX8_no wsX8_no) := goodIn_app (goodIn_of _ (by decide +kernel)) ggX8_heard_X8_no
set_option maxRecDepth 20000 in
theorem ggX8_allIn_X8_good : GoodIn wsX8_allIn wsX8_good := goodIn_r _ [7, 8, 9, 67, 68, 69, 70, 71, 72, 73, 74, 75, 76, 77, 78, 79, 80, 81, 82, 83, 84, 85, 86, 87, 88, 89, 90, 91, 92, 93, 94, 95, 96, 97, 98, 99, 100, 101, 102, 103, 104, 105, 106] (by decide +kernel) (by decide +kernel)
set_option maxRecDepth 20000 in
theorem gX8_allIn_X8_good : GoodIn wsX8_allIn (wsV RX8 160 RX8 yX8_good wsX8_good) := goodIn_app (goodIn_of _ (by decide +kernel)) ggX8_allIn_X8_good
set_option maxRecDepth 20000 in
theorem ggX8_allIn_X8_isFigure : GoodIn wsX8_allIn wsX8_isFigure := goodIn_r _ [13, 14, 1, 15, 16, 6, 17, 67, 68, 69, 70, 71, 72, 73, 74, 75, 76, 77, 78, 79, 80, 81, 82, 83, 84, 85, 86, 87, 88, 89, 90, 91, 92, 93, 94, 95, 96, 97, 98, 99, 100, 101, 102, 103, 104, 105, 106] (by decide +kernel) (by decide +kernel)
set_option maxRecDepth 20000 in
theorem gX8_allIn_X8_isFigure : GoodIn wsX8_allIn (wsV RX8 277 RX8 yX8_isFigure wsX8_isFigure) := goodIn_app (goodIn_of _ (by decide +kernel)) ggX8_allIn_X8_isFigure
set_option maxRecDepth 20000 in
theorem ggX8_allIn_X8_no : GoodIn wsX8_allIn wsX8_no := goodIn_r _ [21, 9, 67, 68, 69, 70, 71, 72, 73, 74, 75, 76, 77, 78, 79, 80, 81, 82, 83, 84, 85, 86, 87, 88, 89, 90, 91, 92, 93, 94, 95, 96, 97, 98, 99, 100, 101, 102, 103, 104, 105, 106] (by decide +kernel) (by decide +kernel)
set_option maxRecDepth 20000 in
theorem gX8_allIn_X8_no : GoodIn wsX8_allIn (wsV RX8 163 RX8 yX8_no wsX8_no) := goodIn_app (goodIn_of _ (by decide +kernel)) ggX8_allIn_X8_no
set_option maxRecDepth 20000 in
theorem ggX8_meets_X8_good : GoodIn wsX8_meets wsX8_good := goodIn_r _ [7, 8, 9, 67, 68, 69, 70, 71, 72, 73, 74, 75, 76, 77, 78, 79, 80, 81, 82, 83, 84, 85, 86, 87, 88, 89, 90, 91, 92, 93, 94, 95, 96, 97, 98, 99, 100, 101, 102, 103, 104, 105, 106] (by decide +kernel) (by decide +kernel)
set_option maxRecDepth 20000 in
theorem gX8_meets_X8_good : GoodIn wsX8_meets (wsV RX8 160 RX8 yX8_good wsX8_good) := goodIn_app (goodIn_of _ (by decide +kernel)) ggX8_meets_X8_good
set_option maxRecDepth 20000 in
theorem ggX8_meets_X8_isWatcher : GoodIn wsX8_meets wsX8_isWatcher := goodIn_r _ [13, 14, 15, 16, 17, 6, 18, 67, 68, 69, 70, 71, 72, 73, 74, 75, 76, 77, 78, 79, 80, 81, 82, 83, 84, 85, 86, 87, 88, 89, 90, 91, 92, 93, 94, 95, 96, 97, 98, 99, 100, 101, 102, 103, 104, 105, 106] (by decide +kernel) (by decide +kernel)
set_option maxRecDepth 20000 in
theorem gX8_meets_X8_isWatcher : GoodIn wsX8_meets (wsV RX8 280 RX8 yX8_isWatcher wsX8_isWatcher) := goodIn_app (goodIn_of _ (by decide +kernel)) ggX8_meets_X8_isWatcher
set_option maxRecDepth 20000 in
theorem ggX8_meets_X8_no : GoodIn wsX8_meets wsX8_no := goodIn_r _ [22, 9, 67, 68, 69, 70, 71, 72, 73, 74, 75, 76, 77, 78, 79, 80, 81, 82, 83, 84, 85, 86, 87, 88, 89, 90, 91, 92, 93, 94, 95, 96, 97, 98, 99, 100, 101, 102, 103, 104, 105, 106] (by decide +kernel) (by decide +kernel)
set_option maxRecDepth 20000 in
theorem gX8_meets_X8_no : GoodIn wsX8_meets (wsV RX8 163 RX8 yX8_no wsX8_no) := goodIn_app (goodIn_of _ (by decide +kernel)) ggX8_meets_X8_no
set_option maxRecDepth 20000 in
theorem ggX8_crowd_X8_good : GoodIn wsX8_crowd wsX8_good := goodIn_r _ [8, 9, 10, 75, 76, 77, 78, 79, 80, 81, 82, 83, 84, 85, 86, 87, 88, 89, 90, 91, 92, 93, 94, 95, 96, 97, 98, 99, 100, 101, 102, 103, 104, 105, 106, 107, 108, 109, 110, 111, 112, 113, 114] (by decide +kernel) (by decide +kernel)
set_option maxRecDepth 20000 in
theorem gX8_crowd_X8_good : GoodIn wsX8_crowd (wsV RX8 160 RX8 yX8_good wsX8_good) := goodIn_app (goodIn_of _ (by decide +kernel)) ggX8_crowd_X8_good
set_option maxRecDepth 20000 in
theorem ggX8_crowd_X8_aheadWhy : GoodIn wsX8_crowd wsX8_aheadWhy := goodIn_r _ [14, 15, 16, 7, 17, 18, 19, 20, 21] (by decide +kernel) (by decide +kernel)
set_option maxRecDepth 20000 in
theorem gX8_crowd_X8_aheadWhy : GoodIn wsX8_crowd (wsV RX8 300 RX8 yX8_aheadWhy wsX8_aheadWhy) := goodIn_app (goodIn_of _ (by decide +kernel)) ggX8_crowd_X8_aheadWhy
set_option maxRecDepth 20000 in
theorem ggX8_crowd_X8_no : GoodIn wsX8_crowd wsX8_no := goodIn_r _ [25, 10, 75, 76, 77, 78, 79, 80, 81, 82, 83, 84, 85, 86, 87, 88, 89, 90, 91, 92, 93, 94, 95, 96, 97, 98, 99, 100, 101, 102, 103, 104, 105, 106, 107, 108, 109, 110, 111, 112, 113, 114] (by decide +kernel) (by decide +kernel)
set_option maxRecDepth 20000 in
theorem gX8_crowd_X8_no : GoodIn wsX8_crowd (wsV RX8 163 RX8 yX8_no wsX8_no) := goodIn_app (goodIn_of _ (by decide +kernel)) ggX8_crowd_X8_no
set_option maxRecDepth 20000 in
theorem ggX8_farthest_X8_good : GoodIn wsX8_farthest wsX8_good := goodIn_r _ [8, 9, 10, 78, 79, 80, 81, 82, 83, 84, 85, 86, 87, 88, 89, 90, 91, 92, 93, 94, 95, 96, 97, 98, 99, 100, 101, 102, 103, 104, 105, 106, 107, 108, 109, 110, 111, 112, 113, 114, 115, 116, 117] (by decide +kernel) (by decide +kernel)
set_option maxRecDepth 20000 in
theorem gX8_farthest_X8_good : GoodIn wsX8_farthest (wsV RX8 160 RX8 yX8_good wsX8_good) := goodIn_app (goodIn_of _ (by decide +kernel)) ggX8_farthest_X8_good
set_option maxRecDepth 20000 in
theorem ggX8_farthest_X8_aheadWhy : GoodIn wsX8_farthest wsX8_aheadWhy := goodIn_r _ [14, 15, 16, 7, 17, 18, 19, 20, 21] (by decide +kernel) (by decide +kernel)
set_option maxRecDepth 20000 in
theorem gX8_farthest_X8_aheadWhy : GoodIn wsX8_farthest (wsV RX8 300 RX8 yX8_aheadWhy wsX8_aheadWhy) := goodIn_app (goodIn_of _ (by decide +kernel)) ggX8_farthest_X8_aheadWhy
set_option maxRecDepth 20000 in
theorem ggX8_farthest_X8_no : GoodIn wsX8_farthest wsX8_no := goodIn_r _ [25, 10, 78, 79, 80, 81, 82, 83, 84, 85, 86, 87, 88, 89, 90, 91, 92, 93, 94, 95, 96, 97, 98, 99, 100, 101, 102, 103, 104, 105, 106, 107, 108, 109, 110, 111, 112, 113, 114, 115, 116, 117] (by decide +kernel) (by decide +kernel)
set_option maxRecDepth 20000 in
theorem gX8_farthest_X8_no : GoodIn wsX8_farthest (wsV RX8 163 RX8 yX8_no wsX8_no) := goodIn_app (goodIn_of _ (by decide +kernel)) ggX8_farthest_X8_no
set_option maxRecDepth 20000 in
theorem ggX8_nearBy_X8_good : GoodIn wsX8_nearBy wsX8_good := goodIn_r _ [6, 7, 8, 75, 76, 77, 78, 79, 80, 81, 82, 83, 84, 85, 86, 87, 88, 89, 90, 91, 92, 93, 94, 95, 96, 97, 98, 99, 100, 101, 102, 103, 104, 105, 106, 107, 108, 109, 110, 111, 112, 113, 114] (by decide +kernel) (by decide +kernel)
set_option maxRecDepth 20000 in
theorem gX8_nearBy_X8_good : GoodIn wsX8_nearBy (wsV RX8 160 RX8 yX8_good wsX8_good) := goodIn_app (goodIn_of _ (by decide +kernel)) ggX8_nearBy_X8_good
set_option maxRecDepth 20000 in
theorem ggX8_nearBy_X8_isFigure : GoodIn wsX8_nearBy wsX8_isFigure := goodIn_r _ [12, 13, 14, 15, 16, 5, 17, 75, 76, 77, 78, 79, 80, 81, 82, 83, 84, 85, 86, 87, 88, 89, 90, 91, 92, 93, 94, 95, 96, 97, 98, 99, 100, 101, 102, 103, 104, 105, 106, 107, 108, 109, 110, 111, 112, 113, 114] (by decide +kernel) (by decide +kernel)
set_option maxRecDepth 20000 in
theorem gX8_nearBy_X8_isFigure : GoodIn wsX8_nearBy (wsV RX8 277 RX8 yX8_isFigure wsX8_isFigure) := goodIn_app (goodIn_of _ (by decide +kernel)) ggX8_nearBy_X8_isFigure
set_option maxRecDepth 20000 in
theorem ggX8_nearBy_X8_aheadWhy : GoodIn wsX8_nearBy wsX8_aheadWhy := goodIn_r _ [21, 15, 16, 5, 17, 22, 23, 24, 25] (by decide +kernel) (by decide +kernel)
set_option maxRecDepth 20000 in
theorem gX8_nearBy_X8_aheadWhy : GoodIn wsX8_nearBy (wsV RX8 300 RX8 yX8_aheadWhy wsX8_aheadWhy) := goodIn_app (goodIn_of _ (by decide +kernel)) ggX8_nearBy_X8_aheadWhy
set_option maxRecDepth 20000 in
theorem ggX8_nearBy_X8_no : GoodIn wsX8_nearBy wsX8_no := goodIn_r _ [29, 8, 75, 76, 77, 78, 79, 80, 81, 82, 83, 84, 85, 86, 87, 88, 89, 90, 91, 92, 93, 94, 95, 96, 97, 98, 99, 100, 101, 102, 103, 104, 105, 106, 107, 108, 109, 110, 111, 112, 113, 114] (by decide +kernel) (by decide +kernel)
set_option maxRecDepth 20000 in
theorem gX8_nearBy_X8_no : GoodIn wsX8_nearBy (wsV RX8 163 RX8 yX8_no wsX8_no) := goodIn_app (goodIn_of _ (by decide +kernel)) ggX8_nearBy_X8_no
set_option maxRecDepth 20000 in
theorem ggX8_spoken_X8_good : GoodIn wsX8_spoken wsX8_good := goodIn_r _ [8, 9, 10, 75, 76, 77, 78, 79, 80, 81, 82, 83, 84, 85, 86, 87, 88, 89, 90, 91, 92, 93, 94, 95, 96, 97, 98, 99, 100, 101, 102, 103, 104, 105, 106, 107, 108, 109, 110, 111, 112, 113, 114] (by decide +kernel) (by decide +kernel)
set_option maxRecDepth 20000 in
theorem gX8_spoken_X8_good : GoodIn wsX8_spoken (wsV RX8 160 RX8 yX8_good wsX8_good) := goodIn_app (goodIn_of _ (by decide +kernel)) ggX8_spoken_X8_good
set_option maxRecDepth 20000 in
theorem ggX8_spoken_X8_isFigure : GoodIn wsX8_spoken wsX8_isFigure := goodIn_r _ [14, 15, 16, 17, 18, 7, 19, 75, 76, 77, 78, 79, 80, 81, 82, 83, 84, 85, 86, 87, 88, 89, 90, 91, 92, 93, 94, 95, 96, 97, 98, 99, 100, 101, 102, 103, 104, 105, 106, 107, 108, 109, 110, 111, 112, 113, 114] (by decide +kernel) (by decide +kernel)
set_option maxRecDepth 20000 in
theorem gX8_spoken_X8_isFigure : GoodIn wsX8_spoken (wsV RX8 277 RX8 yX8_isFigure wsX8_isFigure) := goodIn_app (goodIn_of _ (by decide +kernel)) ggX8_spoken_X8_isFigure
set_option maxRecDepth 20000 in
theorem ggX8_spoken_X8_aheadWhy : GoodIn wsX8_spoken wsX8_aheadWhy := goodIn_r _ [23, 17, 18, 7, 19, 24, 25, 26, 27] (by decide +kernel) (by decide +kernel)
set_option maxRecDepth 20000 in
theorem gX8_spoken_X8_aheadWhy : GoodIn wsX8_spoken (wsV RX8 300 RX8 yX8_aheadWhy wsX8_aheadWhy) := goodIn_app (goodIn_of _ (by decide +kernel)) ggX8_spoken_X8_aheadWhy
set_option maxRecDepth 20000 in
theorem ggX8_spoken_X8_no : GoodIn wsX8_spoken wsX8_no := goodIn_r _ [31, 10, 75, 76, 77, 78, 79, 80, 81, 82, 83, 84, 85, 86, 87, 88, 89, 90, 91, 92, 93, 94, 95, 96, 97, 98, 99, 100, 101, 102, 103, 104, 105, 106, 107, 108, 109, 110, 111, 112, 113, 114] (by decide +kernel) (by decide +kernel)
set_option maxRecDepth 20000 in
theorem gX8_spoken_X8_no : GoodIn wsX8_spoken (wsV RX8 163 RX8 yX8_no wsX8_no) := goodIn_app (goodIn_of _ (by decide +kernel)) ggX8_spoken_X8_no
set_option maxRecDepth 20000 in
theorem ggX8_windBest_X8_good : GoodIn wsX8_windBest wsX8_good := goodIn_r _ [8, 9, 10, 64, 65, 66, 67, 68, 69, 70, 71, 72, 73, 74, 75, 76, 77, 78, 79, 80, 81, 82, 83, 84, 85, 86, 87, 88, 89, 90, 91, 92, 93, 94, 95, 96, 97, 98, 99, 100, 101, 102, 103] (by decide +kernel) (by decide +kernel)
set_option maxRecDepth 20000 in
theorem gX8_windBest_X8_good : GoodIn wsX8_windBest (wsV RX8 160 RX8 yX8_good wsX8_good) := goodIn_app (goodIn_of _ (by decide +kernel)) ggX8_windBest_X8_good
set_option maxRecDepth 20000 in
theorem ggX8_windBest_X8_no : GoodIn wsX8_windBest wsX8_no := goodIn_r _ [14, 10, 64, 65, 66, 67, 68, 69, 70, 71, 72, 73, 74, 75, 76, 77, 78, 79, 80, 81, 82, 83, 84, 85, 86, 87, 88, 89, 90, 91, 92, 93, 94, 95, 96, 97, 98, 99, 100, 101, 102, 103] (by decide +kernel) (by decide +kernel)
set_option maxRecDepth 20000 in
theorem gX8_windBest_X8_no : GoodIn wsX8_windBest (wsV RX8 163 RX8 yX8_no wsX8_no) := goodIn_app (goodIn_of _ (by decide +kernel)) ggX8_windBest_X8_no
set_option maxRecDepth 20000 in
theorem ggX8_patrol_X8_good : GoodIn wsX8_patrol wsX8_good := goodIn_r _ [10, 11, 12, 75, 76, 77, 78, 79, 80, 81, 82, 83, 84, 85, 86, 87, 88, 89, 90, 91, 92, 93, 94, 95, 96, 97, 98, 99, 100, 101, 102, 103, 104, 105, 106, 107, 108, 109, 110, 111, 112, 113, 114] (by decide +kernel) (by decide +kernel)
set_option maxRecDepth 20000 in
theorem gX8_patrol_X8_good : GoodIn wsX8_patrol (wsV RX8 160 RX8 yX8_good wsX8_good) := goodIn_app (goodIn_of _ (by decide +kernel)) ggX8_patrol_X8_good
set_option maxRecDepth 20000 in
theorem ggX8_patrol_X8_isWatcher : GoodIn wsX8_patrol wsX8_isWatcher := goodIn_r _ [16, 17, 2, 18, 19, 9, 20, 75, 76, 77, 78, 79, 80, 81, 82, 83, 84, 85, 86, 87, 88, 89, 90, 91, 92, 93, 94, 95, 96, 97, 98, 99, 100, 101, 102, 103, 104, 105, 106, 107, 108, 109, 110, 111, 112, 113, 114] (by decide +kernel) (by decide +kernel)
set_option maxRecDepth 20000 in
theorem gX8_patrol_X8_isWatcher : GoodIn wsX8_patrol (wsV RX8 280 RX8 yX8_isWatcher wsX8_isWatcher) := goodIn_app (goodIn_of _ (by decide +kernel)) ggX8_patrol_X8_isWatcher
set_option maxRecDepth 20000 in
theorem ggX8_patrol_X8_in : GoodIn wsX8_patrol wsX8_in := goodIn_r _ [20] (by decide +kernel) (by decide +kernel)
set_option maxRecDepth 20000 in
theorem gX8_patrol_X8_in : GoodIn wsX8_patrol (va_wsS RX8 142 yX8_in wsX8_in) := goodIn_app (goodIn_of _ (by decide +kernel)) ggX8_patrol_X8_in
set_option maxRecDepth 20000 in
theorem ggX8_patrol_X8_why : GoodIn wsX8_patrol wsX8_why := goodIn_r _ [24] (by decide +kernel) (by decide +kernel)
set_option maxRecDepth 20000 in
theorem gX8_patrol_X8_why : GoodIn wsX8_patrol (wsV RX8 290 RX8 yX8_why wsX8_why) := goodIn_app (goodIn_of _ (by decide +kernel)) ggX8_patrol_X8_why
set_option maxRecDepth 20000 in
theorem ggX8_patrol_X8_no : GoodIn wsX8_patrol wsX8_no := goodIn_r _ [28, 12, 75, 76, 77, 78, 79, 80, 81, 82, 83, 84, 85, 86, 87, 88, 89, 90, 91, 92, 93, 94, 95, 96, 97, 98, 99, 100, 101, 102, 103, 104, 105, 106, 107, 108, 109, 110, 111, 112, 113, 114] (by decide +kernel) (by decide +kernel)
set_option maxRecDepth 20000 in
theorem gX8_patrol_X8_no : GoodIn wsX8_patrol (wsV RX8 163 RX8 yX8_no wsX8_no) := goodIn_app (goodIn_of _ (by decide +kernel)) ggX8_patrol_X8_no
set_option maxRecDepth 20000 in
theorem ggX8_routeWhy_X8_isFigure : GoodIn wsX8_routeWhy wsX8_isFigure := goodIn_r _ [5, 6, 7, 8, 9, 4, 10, 15, 16, 17, 18, 19, 20, 21, 22, 23, 24, 25, 26, 27, 28, 29, 30, 31, 32, 33, 34, 35, 36, 37, 38, 39, 40, 41, 42, 43, 44, 45, 46, 47, 48, 49, 50, 51, 52, 53, 54] (by decide +kernel) (by decide +kernel)
set_option maxRecDepth 20000 in
theorem gX8_routeWhy_X8_isFigure : GoodIn wsX8_routeWhy (wsV RX8 277 RX8 yX8_isFigure wsX8_isFigure) := goodIn_app (goodIn_of _ (by decide +kernel)) ggX8_routeWhy_X8_isFigure
set_option maxRecDepth 20000 in
theorem ggX8_routeWhy_X8_in : GoodIn wsX8_routeWhy wsX8_in := goodIn_r _ [10] (by decide +kernel) (by decide +kernel)
set_option maxRecDepth 20000 in
theorem gX8_routeWhy_X8_in : GoodIn wsX8_routeWhy (va_wsS RX8 142 yX8_in wsX8_in) := goodIn_app (goodIn_of _ (by decide +kernel)) ggX8_routeWhy_X8_in
set_option maxRecDepth 20000 in
theorem ggX8_routeWhy_X8_why : GoodIn wsX8_routeWhy wsX8_why := goodIn_r _ [14] (by decide +kernel) (by decide +kernel)
set_option maxRecDepth 20000 in
theorem gX8_routeWhy_X8_why : GoodIn wsX8_routeWhy (wsV RX8 290 RX8 yX8_why wsX8_why) := goodIn_app (goodIn_of _ (by decide +kernel)) ggX8_routeWhy_X8_why
set_option maxRecDepth 20000 in
theorem ggX8_route_X8_good : GoodIn wsX8_route wsX8_good := goodIn_r _ [6, 7, 8, 85, 86, 87, 88, 89, 90, 91, 92, 93, 94, 95, 96, 97, 98, 99, 100, 101, 102, 103, 104, 105, 106, 107, 108, 109, 110, 111, 112, 113, 114, 115, 116, 117, 118, 119, 120, 121, 122, 123, 124] (by decide +kernel) (by decide +kernel)
set_option maxRecDepth 20000 in
theorem gX8_route_X8_good : GoodIn wsX8_route (wsV RX8 160 RX8 yX8_good wsX8_good) := goodIn_app (goodIn_of _ (by decide +kernel)) ggX8_route_X8_good
set_option maxRecDepth 20000 in
theorem ggX8_route_X8_routeWhy : GoodIn wsX8_route wsX8_routeWhy := goodIn_r _ [12, 13, 14, 15, 5, 16, 17, 18, 19, 20, 21, 22, 23, 24, 25, 85, 86, 87, 88, 89, 90, 91, 92, 93, 94, 95, 96, 97, 98, 99, 100, 101, 102, 103, 104, 105, 106, 107, 108, 109, 110, 111, 112, 113, 114, 115, 116, 117, 118, 119, 120, 121, 122, 123, 124] (by decide +kernel) (by decide +kernel)
set_option maxRecDepth 20000 in
theorem gX8_route_X8_routeWhy : GoodIn wsX8_route (wsV RX8 321 RX8 yX8_routeWhy wsX8_routeWhy) := goodIn_app (goodIn_of _ (by decide +kernel)) ggX8_route_X8_routeWhy
set_option maxRecDepth 20000 in
theorem ggX8_route_X8_no : GoodIn wsX8_route wsX8_no := goodIn_r _ [29, 8, 85, 86, 87, 88, 89, 90, 91, 92, 93, 94, 95, 96, 97, 98, 99, 100, 101, 102, 103, 104, 105, 106, 107, 108, 109, 110, 111, 112, 113, 114, 115, 116, 117, 118, 119, 120, 121, 122, 123, 124] (by decide +kernel) (by decide +kernel)
set_option maxRecDepth 20000 in
theorem gX8_route_X8_no : GoodIn wsX8_route (wsV RX8 163 RX8 yX8_no wsX8_no) := goodIn_app (goodIn_of _ (by decide +kernel)) ggX8_route_X8_no
set_option maxRecDepth 20000 in
theorem ggX8_routeAt_X8_good : GoodIn wsX8_routeAt wsX8_good := goodIn_r _ [5, 6, 7, 85, 86, 87, 88, 89, 90, 91, 92, 93, 94, 95, 96, 97, 98, 99, 100, 101, 102, 103, 104, 105, 106, 107, 108, 109, 110, 111, 112, 113, 114, 115, 116, 117, 118, 119, 120, 121, 122, 123, 124] (by decide +kernel) (by decide +kernel)
set_option maxRecDepth 20000 in
theorem gX8_routeAt_X8_good : GoodIn wsX8_routeAt (wsV RX8 160 RX8 yX8_good wsX8_good) := goodIn_app (goodIn_of _ (by decide +kernel)) ggX8_routeAt_X8_good
set_option maxRecDepth 20000 in
theorem ggX8_routeAt_X8_routeWhy : GoodIn wsX8_routeAt wsX8_routeWhy := goodIn_r _ [11, 12, 13, 14, 4, 15, 16, 17, 18, 19, 20, 21, 22, 23, 24, 85, 86, 87, 88, 89, 90, 91, 92, 93, 94, 95, 96, 97, 98, 99, 100, 101, 102, 103, 104, 105, 106, 107, 108, 109, 110, 111, 112, 113, 114, 115, 116, 117, 118, 119, 120, 121, 122, 123, 124] (by decide +kernel) (by decide +kernel)
set_option maxRecDepth 20000 in
theorem gX8_routeAt_X8_routeWhy : GoodIn wsX8_routeAt (wsV RX8 321 RX8 yX8_routeWhy wsX8_routeWhy) := goodIn_app (goodIn_of _ (by decide +kernel)) ggX8_routeAt_X8_routeWhy
set_option maxRecDepth 20000 in
theorem ggX8_routeAt_X8_no : GoodIn wsX8_routeAt wsX8_no := goodIn_r _ [28, 7, 85, 86, 87, 88, 89, 90, 91, 92, 93, 94, 95, 96, 97, 98, 99, 100, 101, 102, 103, 104, 105, 106, 107, 108, 109, 110, 111, 112, 113, 114, 115, 116, 117, 118, 119, 120, 121, 122, 123, 124] (by decide +kernel) (by decide +kernel)
set_option maxRecDepth 20000 in
theorem gX8_routeAt_X8_no : GoodIn wsX8_routeAt (wsV RX8 163 RX8 yX8_no wsX8_no) := goodIn_app (goodIn_of _ (by decide +kernel)) ggX8_routeAt_X8_no
set_option maxRecDepth 20000 in
theorem ggX8_stand_X8_good : GoodIn wsX8_stand wsX8_good := goodIn_r _ [8, 9, 10, 77, 78, 79, 80, 81, 82, 83, 84, 85, 86, 87, 88, 89, 90, 91, 92, 93, 94, 95, 96, 97, 98, 99, 100, 101, 102, 103, 104, 105, 106, 107, 108, 109, 110, 111, 112, 113, 114, 115, 116] (by decide +kernel) (by decide +kernel)
set_option maxRecDepth 20000 in
theorem gX8_stand_X8_good : GoodIn wsX8_stand (wsV RX8 160 RX8 yX8_good wsX8_good) := goodIn_app (goodIn_of _ (by decide +kernel)) ggX8_stand_X8_good
set_option maxRecDepth 20000 in
theorem ggX8_stand_X8_in : GoodIn wsX8_stand wsX8_in := goodIn_r _ [13] (by decide +kernel) (by decide +kernel)
set_option maxRecDepth 20000 in
theorem gX8_stand_X8_in : GoodIn wsX8_stand (va_wsS RX8 142 yX8_in wsX8_in) := goodIn_app (goodIn_of _ (by decide +kernel)) ggX8_stand_X8_in
set_option maxRecDepth 20000 in
theorem ggX8_stand_X8_why : GoodIn wsX8_stand wsX8_why := goodIn_r _ [17] (by decide +kernel) (by decide +kernel)
set_option maxRecDepth 20000 in
theorem gX8_stand_X8_why : GoodIn wsX8_stand (wsV RX8 290 RX8 yX8_why wsX8_why) := goodIn_app (goodIn_of _ (by decide +kernel)) ggX8_stand_X8_why
set_option maxRecDepth 20000 in
theorem ggX8_stand_X8_no : GoodIn wsX8_stand wsX8_no := goodIn_r _ [21, 10, 77, 78, 79, 80, 81, 82, 83, 84, 85, 86, 87, 88, 89, 90, 91, 92, 93, 94, 95, 96, 97, 98, 99, 100, 101, 102, 103, 104, 105, 106, 107, 108, 109, 110, 111, 112, 113, 114, 115, 116] (by decide +kernel) (by decide +kernel)
set_option maxRecDepth 20000 in
theorem gX8_stand_X8_no : GoodIn wsX8_stand (wsV RX8 163 RX8 yX8_no wsX8_no) := goodIn_app (goodIn_of _ (by decide +kernel)) ggX8_stand_X8_no
set_option maxRecDepth 20000 in
theorem ggX8_guard_X8_good : GoodIn wsX8_guard wsX8_good := goodIn_r _ [10, 11, 12, 70, 71, 72, 73, 74, 75, 76, 77, 78, 79, 80, 81, 82, 83, 84, 85, 86, 87, 88, 89, 90, 91, 92, 93, 94, 95, 96, 97, 98, 99, 100, 101, 102, 103, 104, 105, 106, 107, 108, 109] (by decide +kernel) (by decide +kernel)
set_option maxRecDepth 20000 in
theorem gX8_guard_X8_good : GoodIn wsX8_guard (wsV RX8 160 RX8 yX8_good wsX8_good) := goodIn_app (goodIn_of _ (by decide +kernel)) ggX8_guard_X8_good
set_option maxRecDepth 20000 in
theorem ggX8_guard_X8_in : GoodIn wsX8_guard wsX8_in := goodIn_r _ [15] (by decide +kernel) (by decide +kernel)
set_option maxRecDepth 20000 in
theorem gX8_guard_X8_in : GoodIn wsX8_guard (va_wsS RX8 142 yX8_in wsX8_in) := goodIn_app (goodIn_of _ (by decide +kernel)) ggX8_guard_X8_in
set_option maxRecDepth 20000 in
theorem ggX8_guard_X8_why : GoodIn wsX8_guard wsX8_why := goodIn_r _ [19] (by decide +kernel) (by decide +kernel)
set_option maxRecDepth 20000 in
theorem gX8_guard_X8_why : GoodIn wsX8_guard (wsV RX8 290 RX8 yX8_why wsX8_why) := goodIn_app (goodIn_of _ (by decide +kernel)) ggX8_guard_X8_why
set_option maxRecDepth 20000 in
theorem ggX8_guard_X8_no : GoodIn wsX8_guard wsX8_no := goodIn_r _ [23, 12, 70, 71, 72, 73, 74, 75, 76, 77, 78, 79, 80, 81, 82, 83, 84, 85, 86, 87, 88, 89, 90, 91, 92, 93, 94, 95, 96, 97, 98, 99, 100, 101, 102, 103, 104, 105, 106, 107, 108, 109] (by decide +kernel) (by decide +kernel)
set_option maxRecDepth 20000 in
theorem gX8_guard_X8_no : GoodIn wsX8_guard (wsV RX8 163 RX8 yX8_no wsX8_no) := goodIn_app (goodIn_of _ (by decide +kernel)) ggX8_guard_X8_no
set_option maxRecDepth 20000 in
theorem ggX8_fits_X8_good : GoodIn wsX8_fits wsX8_good := goodIn_r _ [6, 7, 8, 31, 32, 33, 34, 35, 36, 37, 38, 39, 40, 41, 42, 43, 44, 45, 46, 47, 48, 49, 50, 51, 52, 53, 54, 55, 56, 57, 58, 59, 60, 61, 62, 63, 64, 65, 66, 67, 68, 69, 70] (by decide +kernel) (by decide +kernel)
set_option maxRecDepth 20000 in
theorem gX8_fits_X8_good : GoodIn wsX8_fits (wsV RX8 160 RX8 yX8_good wsX8_good) := goodIn_app (goodIn_of _ (by decide +kernel)) ggX8_fits_X8_good
set_option maxRecDepth 20000 in
theorem ggX8_fits_X8_no : GoodIn wsX8_fits wsX8_no := goodIn_r _ [12, 8, 31, 32, 33, 34, 35, 36, 37, 38, 39, 40, 41, 42, 43, 44, 45, 46, 47, 48, 49, 50, 51, 52, 53, 54, 55, 56, 57, 58, 59, 60, 61, 62, 63, 64, 65, 66, 67, 68, 69, 70] (by decide +kernel) (by decide +kernel)
set_option maxRecDepth 20000 in
theorem gX8_fits_X8_no : GoodIn wsX8_fits (wsV RX8 163 RX8 yX8_no wsX8_no) := goodIn_app (goodIn_of _ (by decide +kernel)) ggX8_fits_X8_no
set_option maxRecDepth 20000 in
theorem ggX8_fitAt_X8_good : GoodIn wsX8_fitAt wsX8_good := goodIn_r _ [6, 7, 8, 35, 36, 37, 38, 39, 40, 41, 42, 43, 44, 45, 46, 47, 48, 49, 50, 51, 52, 53, 54, 55, 56, 57, 58, 59, 60, 61, 62, 63, 64, 65, 66, 67, 68, 69, 70, 71, 72, 73, 74] (by decide +kernel) (by decide +kernel)
set_option maxRecDepth 20000 in
theorem gX8_fitAt_X8_good : GoodIn wsX8_fitAt (wsV RX8 160 RX8 yX8_good wsX8_good) := goodIn_app (goodIn_of _ (by decide +kernel)) ggX8_fitAt_X8_good
set_option maxRecDepth 20000 in
theorem ggX8_fitAt_X8_no : GoodIn wsX8_fitAt wsX8_no := goodIn_r _ [12, 8, 35, 36, 37, 38, 39, 40, 41, 42, 43, 44, 45, 46, 47, 48, 49, 50, 51, 52, 53, 54, 55, 56, 57, 58, 59, 60, 61, 62, 63, 64, 65, 66, 67, 68, 69, 70, 71, 72, 73, 74] (by decide +kernel) (by decide +kernel)
set_option maxRecDepth 20000 in
theorem gX8_fitAt_X8_no : GoodIn wsX8_fitAt (wsV RX8 163 RX8 yX8_no wsX8_no) := goodIn_app (goodIn_of _ (by decide +kernel)) ggX8_fitAt_X8_no
set_option maxRecDepth 20000 in
theorem ggX8_could_X8_good : GoodIn wsX8_could wsX8_good := goodIn_r _ [8, 9, 10, 43, 44, 45, 46, 47, 48, 49, 50, 51, 52, 53, 54, 55, 56, 57, 58, 59, 60, 61, 62, 63, 64, 65, 66, 67, 68, 69, 70, 71, 72, 73, 74, 75, 76, 77, 78, 79, 80, 81, 82] (by decide +kernel) (by decide +kernel)
set_option maxRecDepth 20000 in
theorem gX8_could_X8_good : GoodIn wsX8_could (wsV RX8 160 RX8 yX8_good wsX8_good) := goodIn_app (goodIn_of _ (by decide +kernel)) ggX8_could_X8_good
set_option maxRecDepth 20000 in
theorem ggX8_could_X8_in : GoodIn wsX8_could wsX8_in := goodIn_r _ [13] (by decide +kernel) (by decide +kernel)
set_option maxRecDepth 20000 in
theorem gX8_could_X8_in : GoodIn wsX8_could (va_wsS RX8 142 yX8_in wsX8_in) := goodIn_app (goodIn_of _ (by decide +kernel)) ggX8_could_X8_in
set_option maxRecDepth 20000 in
theorem ggX8_could_X8_why : GoodIn wsX8_could wsX8_why := goodIn_r _ [17] (by decide +kernel) (by decide +kernel)
set_option maxRecDepth 20000 in
theorem gX8_could_X8_why : GoodIn wsX8_could (wsV RX8 290 RX8 yX8_why wsX8_why) := goodIn_app (goodIn_of _ (by decide +kernel)) ggX8_could_X8_why
set_option maxRecDepth 20000 in
theorem ggX8_could_X8_no : GoodIn wsX8_could wsX8_no := goodIn_r _ [21, 10, 43, 44, 45, 46, 47, 48, 49, 50, 51, 52, 53, 54, 55, 56, 57, 58, 59, 60, 61, 62, 63, 64, 65, 66, 67, 68, 69, 70, 71, 72, 73, 74, 75, 76, 77, 78, 79, 80, 81, 82] (by decide +kernel) (by decide +kernel)
set_option maxRecDepth 20000 in
theorem gX8_could_X8_no : GoodIn wsX8_could (wsV RX8 163 RX8 yX8_no wsX8_no) := goodIn_app (goodIn_of _ (by decide +kernel)) ggX8_could_X8_no
set_option maxRecDepth 20000 in
theorem ggX8_aliveBy_X8_good : GoodIn wsX8_aliveBy wsX8_good := goodIn_r _ [7, 8, 9, 47, 48, 49, 50, 51, 52, 53, 54, 55, 56, 57, 58, 59, 60, 61, 62, 63, 64, 65, 66, 67, 68, 69, 70, 71, 72, 73, 74, 75, 76, 77, 78, 79, 80, 81, 82, 83, 84, 85, 86] (by decide +kernel) (by decide +kernel)
set_option maxRecDepth 20000 in
theorem gX8_aliveBy_X8_good : GoodIn wsX8_aliveBy (wsV RX8 160 RX8 yX8_good wsX8_good) := goodIn_app (goodIn_of _ (by decide +kernel)) ggX8_aliveBy_X8_good
set_option maxRecDepth 20000 in
theorem ggX8_aliveBy_X8_isFigure : GoodIn wsX8_aliveBy wsX8_isFigure := goodIn_r _ [13, 14, 1, 15, 16, 6, 17, 47, 48, 49, 50, 51, 52, 53, 54, 55, 56, 57, 58, 59, 60, 61, 62, 63, 64, 65, 66, 67, 68, 69, 70, 71, 72, 73, 74, 75, 76, 77, 78, 79, 80, 81, 82, 83, 84, 85, 86] (by decide +kernel) (by decide +kernel)
set_option maxRecDepth 20000 in
theorem gX8_aliveBy_X8_isFigure : GoodIn wsX8_aliveBy (wsV RX8 277 RX8 yX8_isFigure wsX8_isFigure) := goodIn_app (goodIn_of _ (by decide +kernel)) ggX8_aliveBy_X8_isFigure
set_option maxRecDepth 20000 in
theorem ggX8_aliveBy_X8_in : GoodIn wsX8_aliveBy wsX8_in := goodIn_r _ [17] (by decide +kernel) (by decide +kernel)
set_option maxRecDepth 20000 in
theorem gX8_aliveBy_X8_in : GoodIn wsX8_aliveBy (va_wsS RX8 142 yX8_in wsX8_in) := goodIn_app (goodIn_of _ (by decide +kernel)) ggX8_aliveBy_X8_in
set_option maxRecDepth 20000 in
theorem ggX8_aliveBy_X8_why : GoodIn wsX8_aliveBy wsX8_why := goodIn_r _ [21] (by decide +kernel) (by decide +kernel)
set_option maxRecDepth 20000 in
theorem gX8_aliveBy_X8_why : GoodIn wsX8_aliveBy (wsV RX8 290 RX8 yX8_why wsX8_why) := goodIn_app (goodIn_of _ (by decide +kernel)) ggX8_aliveBy_X8_why
set_option maxRecDepth 20000 in
theorem ggX8_aliveBy_X8_no : GoodIn wsX8_aliveBy wsX8_no := goodIn_r _ [25, 9, 47, 48, 49, 50, 51, 52, 53, 54, 55, 56, 57, 58, 59, 60, 61, 62, 63, 64, 65, 66, 67, 68, 69, 70, 71, 72, 73, 74, 75, 76, 77, 78, 79, 80, 81, 82, 83, 84, 85, 86] (by decide +kernel) (by decide +kernel)
set_option maxRecDepth 20000 in
theorem gX8_aliveBy_X8_no : GoodIn wsX8_aliveBy (wsV RX8 163 RX8 yX8_no wsX8_no) := goodIn_app (goodIn_of _ (by decide +kernel)) ggX8_aliveBy_X8_no
set_option maxRecDepth 20000 in
theorem ggX8_look_X8_good : GoodIn wsX8_look wsX8_good := goodIn_r _ [6, 7, 8, 41, 42, 43, 44, 45, 46, 47, 48, 49, 50, 51, 52, 53, 54, 55, 56, 57, 58, 59, 60, 61, 62, 63, 64, 65, 66, 67, 68, 69, 70, 71, 72, 73, 74, 75, 76, 77, 78, 79, 80] (by decide +kernel) (by decide +kernel)
set_option maxRecDepth 20000 in
theorem gX8_look_X8_good : GoodIn wsX8_look (wsV RX8 160 RX8 yX8_good wsX8_good) := goodIn_app (goodIn_of _ (by decide +kernel)) ggX8_look_X8_good
set_option maxRecDepth 20000 in
theorem ggX8_look_X8_no : GoodIn wsX8_look wsX8_no := goodIn_r _ [40, 8, 41, 42, 43, 44, 45, 46, 47, 48, 49, 50, 51, 52, 53, 54, 55, 56, 57, 58, 59, 60, 61, 62, 63, 64, 65, 66, 67, 68, 69, 70, 71, 72, 73, 74, 75, 76, 77, 78, 79, 80] (by decide +kernel) (by decide +kernel)
set_option maxRecDepth 20000 in
theorem gX8_look_X8_no : GoodIn wsX8_look (wsV RX8 163 RX8 yX8_no wsX8_no) := goodIn_app (goodIn_of _ (by decide +kernel)) ggX8_look_X8_no
set_option maxRecDepth 20000 in
theorem ggX8_lookLeaves_X8_good : GoodIn wsX8_lookLeaves wsX8_good := goodIn_r _ [7, 8, 9, 41, 42, 43, 44, 45, 46, 47, 48, 49, 50, 51, 52, 53, 54, 55, 56, 57, 58, 59, 60, 61, 62, 63, 64, 65, 66, 67, 68, 69, 70, 71, 72, 73, 74, 75, 76, 77, 78, 79, 80] (by decide +kernel) (by decide +kernel)
set_option maxRecDepth 20000 in
theorem gX8_lookLeaves_X8_good : GoodIn wsX8_lookLeaves (wsV RX8 160 RX8 yX8_good wsX8_good) := goodIn_app (goodIn_of _ (by decide +kernel)) ggX8_lookLeaves_X8_good
set_option maxRecDepth 20000 in
theorem ggX8_lookLeaves_X8_no : GoodIn wsX8_lookLeaves wsX8_no := goodIn_r _ [13, 9, 41, 42, 43, 44, 45, 46, 47, 48, 49, 50, 51, 52, 53, 54, 55, 56, 57, 58, 59, 60, 61, 62, 63, 64, 65, 66, 67, 68, 69, 70, 71, 72, 73, 74, 75, 76, 77, 78, 79, 80] (by decide +kernel) (by decide +kernel)
set_option maxRecDepth 20000 in
theorem gX8_lookLeaves_X8_no : GoodIn wsX8_lookLeaves (wsV RX8 163 RX8 yX8_no wsX8_no) := goodIn_app (goodIn_of _ (by decide +kernel)) ggX8_lookLeaves_X8_no
set_option maxRecDepth 20000 in
theorem ggX8_judge_X8_good : GoodIn wsX8_judge wsX8_good := goodIn_r _ [7, 8, 9, 19, 20, 21, 22, 23, 24, 25, 26, 27, 28, 29, 30, 31, 32, 33, 34, 35, 36, 37, 38, 39, 40, 41, 42, 43, 44, 45, 46, 47, 48, 49, 50, 51, 52, 53, 54, 55, 56, 57, 58] (by decide +kernel) (by decide +kernel)
set_option maxRecDepth 20000 in
theorem gX8_judge_X8_good : GoodIn wsX8_judge (wsV RX8 160 RX8 yX8_good wsX8_good) := goodIn_app (goodIn_of _ (by decide +kernel)) ggX8_judge_X8_good
set_option maxRecDepth 20000 in
theorem ggX8_judge_X8_no : GoodIn wsX8_judge wsX8_no := goodIn_r _ [13, 9, 19, 20, 21, 22, 23, 24, 25, 26, 27, 28, 29, 30, 31, 32, 33, 34, 35, 36, 37, 38, 39, 40, 41, 42, 43, 44, 45, 46, 47, 48, 49, 50, 51, 52, 53, 54, 55, 56, 57, 58] (by decide +kernel) (by decide +kernel)
set_option maxRecDepth 20000 in
theorem gX8_judge_X8_no : GoodIn wsX8_judge (wsV RX8 163 RX8 yX8_no wsX8_no) := goodIn_app (goodIn_of _ (by decide +kernel)) ggX8_judge_X8_no
set_option maxRecDepth 20000 in
theorem ggX8_lawsLike_X8_good : GoodIn wsX8_lawsLike wsX8_good := goodIn_r _ [7, 8, 9, 27, 28, 29, 30, 31, 32, 33, 34, 35, 36, 37, 38, 39, 40, 41, 42, 43, 44, 45, 46, 47, 48, 49, 50, 51, 52, 53, 54, 55, 56, 57, 58, 59, 60, 61, 62, 63, 64, 65, 66] (by decide +kernel) (by decide +kernel)
set_option maxRecDepth 20000 in
theorem gX8_lawsLike_X8_good : GoodIn wsX8_lawsLike (wsV RX8 160 RX8 yX8_good wsX8_good) := goodIn_app (goodIn_of _ (by decide +kernel)) ggX8_lawsLike_X8_good
set_option maxRecDepth 20000 in
theorem ggX8_lawsLike_X8_no : GoodIn wsX8_lawsLike wsX8_no := goodIn_r _ [13, 9, 27, 28, 29, 30, 31, 32, 33, 34, 35, 36, 37, 38, 39, 40, 41, 42, 43, 44, 45, 46, 47, 48, 49, 50, 51, 52, 53, 54, 55, 56, 57, 58, 59, 60, 61, 62, 63, 64, 65, 66] (by decide +kernel) (by decide +kernel)
set_option maxRecDepth 20000 in
theorem gX8_lawsLike_X8_no : GoodIn wsX8_lawsLike (wsV RX8 163 RX8 yX8_no wsX8_no) := goodIn_app (goodIn_of _ (by decide +kernel)) ggX8_lawsLike_X8_no
set_option maxRecDepth 20000 in
theorem ggX8_lawFor_X8_good : GoodIn wsX8_lawFor wsX8_good := goodIn_r _ [5, 6, 7, 38, 39, 40, 41, 42, 43, 44, 45, 46, 47, 48, 49, 50, 51, 52, 53, 54, 55, 56, 57, 58, 59, 60, 61, 62, 63, 64, 65, 66, 67, 68, 69, 70, 71, 72, 73, 74, 75, 76, 77] (by decide +kernel) (by decide +kernel)
set_option maxRecDepth 20000 in
theorem gX8_lawFor_X8_good : GoodIn wsX8_lawFor (wsV RX8 160 RX8 yX8_good wsX8_good) := goodIn_app (goodIn_of _ (by decide +kernel)) ggX8_lawFor_X8_good
set_option maxRecDepth 20000 in
theorem ggX8_lawFor_X8_isFigure : GoodIn wsX8_lawFor wsX8_isFigure := goodIn_r _ [11, 12, 13, 14, 15, 4, 16, 38, 39, 40, 41, 42, 43, 44, 45, 46, 47, 48, 49, 50, 51, 52, 53, 54, 55, 56, 57, 58, 59, 60, 61, 62, 63, 64, 65, 66, 67, 68, 69, 70, 71, 72, 73, 74, 75, 76, 77] (by decide +kernel) (by decide +kernel)
set_option maxRecDepth 20000 in
theorem gX8_lawFor_X8_isFigure : GoodIn wsX8_lawFor (wsV RX8 277 RX8 yX8_isFigure wsX8_isFigure) := goodIn_app (goodIn_of _ (by decide +kernel)) ggX8_lawFor_X8_isFigure
set_option maxRecDepth 20000 in
theorem ggX8_lawFor_X8_in : GoodIn wsX8_lawFor wsX8_in := goodIn_r _ [16] (by decide +kernel) (by decide +kernel)
set_option maxRecDepth 20000 in
theorem gX8_lawFor_X8_in : GoodIn wsX8_lawFor (va_wsS RX8 142 yX8_in wsX8_in) := goodIn_app (goodIn_of _ (by decide +kernel)) ggX8_lawFor_X8_in
set_option maxRecDepth 20000 in
theorem ggX8_lawFor_X8_why : GoodIn wsX8_lawFor wsX8_why := goodIn_r _ [20] (by decide +kernel) (by decide +kernel)
set_option maxRecDepth 20000 in
theorem gX8_lawFor_X8_why : GoodIn wsX8_lawFor (wsV RX8 290 RX8 yX8_why wsX8_why) := goodIn_app (goodIn_of _ (by decide +kernel)) ggX8_lawFor_X8_why
set_option maxRecDepth 20000 in
theorem ggX8_lawFor_X8_no : GoodIn wsX8_lawFor wsX8_no := goodIn_r _ [24, 7, 38, 39, 40, 41, 42, 43, 44, 45, 46, 47, 48, 49, 50, 51, 52, 53, 54, 55, 56, 57, 58, 59, 60, 61, 62, 63, 64, 65, 66, 67, 68, 69, 70, 71, 72, 73, 74, 75, 76, 77] (by decide +kernel) (by decide +kernel)
set_option maxRecDepth 20000 in
theorem gX8_lawFor_X8_no : GoodIn wsX8_lawFor (wsV RX8 163 RX8 yX8_no wsX8_no) := goodIn_app (goodIn_of _ (by decide +kernel)) ggX8_lawFor_X8_no
set_option maxRecDepth 20000 in
theorem ggX8_dares_X8_good : GoodIn wsX8_dares wsX8_good := goodIn_r _ [7, 8, 2, 22, 23, 24, 25, 26, 27, 28, 29, 30, 31, 32, 33, 34, 35, 36, 37, 38, 39, 40, 41, 42, 43, 44, 45, 46, 47, 48, 49, 50, 51, 52, 53, 54, 55, 56, 57, 58, 59, 60, 61] (by decide +kernel) (by decide +kernel)
set_option maxRecDepth 20000 in
theorem gX8_dares_X8_good : GoodIn wsX8_dares (wsV RX8 160 RX8 yX8_good wsX8_good) := goodIn_app (goodIn_of _ (by decide +kernel)) ggX8_dares_X8_good
set_option maxRecDepth 20000 in
theorem ggX8_dares_X8_in : GoodIn wsX8_dares wsX8_in := goodIn_r _ [11] (by decide +kernel) (by decide +kernel)
set_option maxRecDepth 20000 in
theorem gX8_dares_X8_in : GoodIn wsX8_dares (va_wsS RX8 142 yX8_in wsX8_in) := goodIn_app (goodIn_of _ (by decide +kernel)) ggX8_dares_X8_in
set_option maxRecDepth 20000 in
theorem ggX8_dares_X8_why : GoodIn wsX8_dares wsX8_why := goodIn_r _ [15] (by decide +kernel) (by decide +kernel)
set_option maxRecDepth 20000 in
theorem gX8_dares_X8_why : GoodIn wsX8_dares (wsV RX8 290 RX8 yX8_why wsX8_why) := goodIn_app (goodIn_of _ (by decide +kernel)) ggX8_dares_X8_why
set_option maxRecDepth 20000 in
theorem ggX8_rests_X8_good : GoodIn wsX8_rests wsX8_good := goodIn_r _ [6, 7, 8, 31, 32, 33, 34, 35, 36, 37, 38, 39, 40, 41, 42, 43, 44, 45, 46, 47, 48, 49, 50, 51, 52, 53, 54, 55, 56, 57, 58, 59, 60, 61, 62, 63, 64, 65, 66, 67, 68, 69, 70] (by decide +kernel) (by decide +kernel)
set_option maxRecDepth 20000 in
theorem gX8_rests_X8_good : GoodIn wsX8_rests (wsV RX8 160 RX8 yX8_good wsX8_good) := goodIn_app (goodIn_of _ (by decide +kernel)) ggX8_rests_X8_good
set_option maxRecDepth 20000 in
theorem ggX8_rests_X8_in : GoodIn wsX8_rests wsX8_in := goodIn_r _ [11] (by decide +kernel) (by decide +kernel)
set_option maxRecDepth 20000 in
theorem gX8_rests_X8_in : GoodIn wsX8_rests (va_wsS RX8 142 yX8_in wsX8_in) := goodIn_app (goodIn_of _ (by decide +kernel)) ggX8_rests_X8_in
set_option maxRecDepth 20000 in
theorem ggX8_rests_X8_why : GoodIn wsX8_rests wsX8_why := goodIn_r _ [15] (by decide +kernel) (by decide +kernel)
set_option maxRecDepth 20000 in
theorem gX8_rests_X8_why : GoodIn wsX8_rests (wsV RX8 290 RX8 yX8_why wsX8_why) := goodIn_app (goodIn_of _ (by decide +kernel)) ggX8_rests_X8_why
set_option maxRecDepth 20000 in
theorem ggX8_rests_X8_no : GoodIn wsX8_rests wsX8_no := goodIn_r _ [19, 8, 31, 32, 33, 34, 35, 36, 37, 38, 39, 40, 41, 42, 43, 44, 45, 46, 47, 48, 49, 50, 51, 52, 53, 54, 55, 56, 57, 58, 59, 60, 61, 62, 63, 64, 65, 66, 67, 68, 69, 70] (by decide +kernel) (by decide +kernel)
set_option maxRecDepth 20000 in
theorem gX8_rests_X8_no : GoodIn wsX8_rests (wsV RX8 163 RX8 yX8_no wsX8_no) := goodIn_app (goodIn_of _ (by decide +kernel)) ggX8_rests_X8_no
set_option maxRecDepth 20000 in
theorem ggX8_rest_X8_good : GoodIn wsX8_rest wsX8_good := goodIn_r _ [7, 8, 9, 31, 32, 33, 34, 35, 36, 37, 38, 39, 40, 41, 42, 43, 44, 45, 46, 47, 48, 49, 50, 51, 52, 53, 54, 55, 56, 57, 58, 59, 60, 61, 62, 63, 64, 65, 66, 67, 68, 69, 70] (by decide +kernel) (by decide +kernel)
set_option maxRecDepth 20000 in
theorem gX8_rest_X8_good : GoodIn wsX8_rest (wsV RX8 160 RX8 yX8_good wsX8_good) := goodIn_app (goodIn_of _ (by decide +kernel)) ggX8_rest_X8_good
set_option maxRecDepth 20000 in
theorem ggX8_rest_X8_in : GoodIn wsX8_rest wsX8_in := goodIn_r _ [12] (by decide +kernel) (by decide +kernel)
set_option maxRecDepth 20000 in
theorem gX8_rest_X8_in : GoodIn wsX8_rest (va_wsS RX8 142 yX8_in wsX8_in) := goodIn_app (goodIn_of _ (by decide +kernel)) ggX8_rest_X8_in
set_option maxRecDepth 20000 in
theorem ggX8_rest_X8_why : GoodIn wsX8_rest wsX8_why := goodIn_r _ [16] (by decide +kernel) (by decide +kernel)
set_option maxRecDepth 20000 in
theorem gX8_rest_X8_why : GoodIn wsX8_rest (wsV RX8 290 RX8 yX8_why wsX8_why) := goodIn_app (goodIn_of _ (by decide +kernel)) ggX8_rest_X8_why
set_option maxRecDepth 20000 in
theorem ggX8_rest_X8_no : GoodIn wsX8_rest wsX8_no := goodIn_r _ [20, 9, 31, 32, 33, 34, 35, 36, 37, 38, 39, 40, 41, 42, 43, 44, 45, 46, 47, 48, 49, 50, 51, 52, 53, 54, 55, 56, 57, 58, 59, 60, 61, 62, 63, 64, 65, 66, 67, 68, 69, 70] (by decide +kernel) (by decide +kernel)
set_option maxRecDepth 20000 in
theorem gX8_rest_X8_no : GoodIn wsX8_rest (wsV RX8 163 RX8 yX8_no wsX8_no) := goodIn_app (goodIn_of _ (by decide +kernel)) ggX8_rest_X8_no
set_option maxRecDepth 20000 in
theorem ggX8_odds_X8_good : GoodIn wsX8_odds wsX8_good := goodIn_r _ [7, 8, 9, 49, 50, 51, 52, 53, 54, 55, 56, 57, 58, 59, 60, 61, 62, 63, 64, 65, 66, 67, 68, 69, 70, 71, 72, 73, 74, 75, 76, 77, 78, 79, 80, 81, 82, 83, 84, 85, 86, 87, 88] (by decide +kernel) (by decide +kernel)
set_option maxRecDepth 20000 in
theorem gX8_odds_X8_good : GoodIn wsX8_odds (wsV RX8 160 RX8 yX8_good wsX8_good) := goodIn_app (goodIn_of _ (by decide +kernel)) ggX8_odds_X8_good
set_option maxRecDepth 20000 in
theorem ggX8_odds_X8_isFigure : GoodIn wsX8_odds wsX8_isFigure := goodIn_r _ [13, 14, 2, 15, 16, 6, 17, 49, 50, 51, 52, 53, 54, 55, 56, 57, 58, 59, 60, 61, 62, 63, 64, 65, 66, 67, 68, 69, 70, 71, 72, 73, 74, 75, 76, 77, 78, 79, 80, 81, 82, 83, 84, 85, 86, 87, 88] (by decide +kernel) (by decide +kernel)
set_option maxRecDepth 20000 in
theorem gX8_odds_X8_isFigure : GoodIn wsX8_odds (wsV RX8 277 RX8 yX8_isFigure wsX8_isFigure) := goodIn_app (goodIn_of _ (by decide +kernel)) ggX8_odds_X8_isFigure
set_option maxRecDepth 20000 in
theorem ggX8_odds_X8_in : GoodIn wsX8_odds wsX8_in := goodIn_r _ [17] (by decide +kernel) (by decide +kernel)
set_option maxRecDepth 20000 in
theorem gX8_odds_X8_in : GoodIn wsX8_odds (va_wsS RX8 142 yX8_in wsX8_in) := goodIn_app (goodIn_of _ (by decide +kernel)) ggX8_odds_X8_in
set_option maxRecDepth 20000 in
theorem ggX8_odds_X8_why : GoodIn wsX8_odds wsX8_why := goodIn_r _ [21] (by decide +kernel) (by decide +kernel)
set_option maxRecDepth 20000 in
theorem gX8_odds_X8_why : GoodIn wsX8_odds (wsV RX8 290 RX8 yX8_why wsX8_why) := goodIn_app (goodIn_of _ (by decide +kernel)) ggX8_odds_X8_why
set_option maxRecDepth 20000 in
theorem ggX8_odds_X8_no : GoodIn wsX8_odds wsX8_no := goodIn_r _ [25, 9, 49, 50, 51, 52, 53, 54, 55, 56, 57, 58, 59, 60, 61, 62, 63, 64, 65, 66, 67, 68, 69, 70, 71, 72, 73, 74, 75, 76, 77, 78, 79, 80, 81, 82, 83, 84, 85, 86, 87, 88] (by decide +kernel) (by decide +kernel)
set_option maxRecDepth 20000 in
theorem gX8_odds_X8_no : GoodIn wsX8_odds (wsV RX8 163 RX8 yX8_no wsX8_no) := goodIn_app (goodIn_of _ (by decide +kernel)) ggX8_odds_X8_no
set_option maxRecDepth 20000 in
theorem ggX8_mean_X8_good : GoodIn wsX8_mean wsX8_good := goodIn_r _ [7, 8, 9, 49, 50, 51, 52, 53, 54, 55, 56, 57, 58, 59, 60, 61, 62, 63, 64, 65, 66, 67, 68, 69, 70, 71, 72, 73, 74, 75, 76, 77, 78, 79, 80, 81, 82, 83, 84, 85, 86, 87, 88] (by decide +kernel) (by decide +kernel)
set_option maxRecDepth 20000 in
theorem gX8_mean_X8_good : GoodIn wsX8_mean (wsV RX8 160 RX8 yX8_good wsX8_good) := goodIn_app (goodIn_of _ (by decide +kernel)) ggX8_mean_X8_good
set_option maxRecDepth 20000 in
theorem ggX8_mean_X8_isFigure : GoodIn wsX8_mean wsX8_isFigure := goodIn_r _ [13, 14, 1, 15, 16, 6, 17, 49, 50, 51, 52, 53, 54, 55, 56, 57, 58, 59, 60, 61, 62, 63, 64, 65, 66, 67, 68, 69, 70, 71, 72, 73, 74, 75, 76, 77, 78, 79, 80, 81, 82, 83, 84, 85, 86, 87, 88] (by decide +kernel) (by decide +kernel)
set_option maxRecDepth 20000 in
theorem gX8_mean_X8_isFigure : GoodIn wsX8_mean (wsV RX8 277 RX8 yX8_isFigure wsX8_isFigure) := goodIn_app (goodIn_of _ (by decide +kernel)) ggX8_mean_X8_isFigure
set_option maxRecDepth 20000 in
theorem ggX8_mean_X8_in : GoodIn wsX8_mean wsX8_in := goodIn_r _ [17] (by decide +kernel) (by decide +kernel)
set_option maxRecDepth 20000 in
theorem gX8_mean_X8_in : GoodIn wsX8_mean (va_wsS RX8 142 yX8_in wsX8_in) := goodIn_app (goodIn_of _ (by decide +kernel)) ggX8_mean_X8_in
set_option maxRecDepth 20000 in
theorem ggX8_mean_X8_why : GoodIn wsX8_mean wsX8_why := goodIn_r _ [21] (by decide +kernel) (by decide +kernel)
set_option maxRecDepth 20000 in
theorem gX8_mean_X8_why : GoodIn wsX8_mean (wsV RX8 290 RX8 yX8_why wsX8_why) := goodIn_app (goodIn_of _ (by decide +kernel)) ggX8_mean_X8_why
set_option maxRecDepth 20000 in
theorem ggX8_mean_X8_no : GoodIn wsX8_mean wsX8_no := goodIn_r _ [25, 9, 49, 50, 51, 52, 53, 54, 55, 56, 57, 58, 59, 60, 61, 62, 63, 64, 65, 66, 67, 68, 69, 70, 71, 72, 73, 74, 75, 76, 77, 78, 79, 80, 81, 82, 83, 84, 85, 86, 87, 88] (by decide +kernel) (by decide +kernel)
set_option maxRecDepth 20000 in
theorem gX8_mean_X8_no : GoodIn wsX8_mean (wsV RX8 163 RX8 yX8_no wsX8_no) := goodIn_app (goodIn_of _ (by decide +kernel)) ggX8_mean_X8_no
set_option maxRecDepth 20000 in
theorem ggX8_drawWhy_X8_in : GoodIn wsX8_drawWhy wsX8_in := goodIn_r _ [9] (by decide +kernel) (by decide +kernel)
set_option maxRecDepth 20000 in
theorem gX8_drawWhy_X8_in : GoodIn wsX8_drawWhy (va_wsS RX8 142 yX8_in wsX8_in) := goodIn_app (goodIn_of _ (by decide +kernel)) ggX8_drawWhy_X8_in
set_option maxRecDepth 20000 in
theorem ggX8_drawWhy_X8_why : GoodIn wsX8_drawWhy wsX8_why := goodIn_r _ [13] (by decide +kernel) (by decide +kernel)
set_option maxRecDepth 20000 in
theorem gX8_drawWhy_X8_why : GoodIn wsX8_drawWhy (wsV RX8 290 RX8 yX8_why wsX8_why) := goodIn_app (goodIn_of _ (by decide +kernel)) ggX8_drawWhy_X8_why
set_option maxRecDepth 20000 in
theorem ggX8_drawn_X8_good : GoodIn wsX8_drawn wsX8_good := goodIn_r _ [6, 7, 8, 49, 50, 51, 52, 53, 54, 55, 56, 57, 58, 59, 60, 61, 62, 63, 64, 65, 66, 67, 68, 69, 70, 71, 72, 73, 74, 75, 76, 77, 78, 79, 80, 81, 82, 83, 84, 85, 86, 87, 88] (by decide +kernel) (by decide +kernel)
set_option maxRecDepth 20000 in
theorem gX8_drawn_X8_good : GoodIn wsX8_drawn (wsV RX8 160 RX8 yX8_good wsX8_good) := goodIn_app (goodIn_of _ (by decide +kernel)) ggX8_drawn_X8_good
set_option maxRecDepth 20000 in
theorem ggX8_drawn_X8_isFigure : GoodIn wsX8_drawn wsX8_isFigure := goodIn_r _ [12, 13, 14, 15, 16, 5, 17, 49, 50, 51, 52, 53, 54, 55, 56, 57, 58, 59, 60, 61, 62, 63, 64, 65, 66, 67, 68, 69, 70, 71, 72, 73, 74, 75, 76, 77, 78, 79, 80, 81, 82, 83, 84, 85, 86, 87, 88] (by decide +kernel) (by decide +kernel)
set_option maxRecDepth 20000 in
theorem gX8_drawn_X8_isFigure : GoodIn wsX8_drawn (wsV RX8 277 RX8 yX8_isFigure wsX8_isFigure) := goodIn_app (goodIn_of _ (by decide +kernel)) ggX8_drawn_X8_isFigure
set_option maxRecDepth 20000 in
theorem ggX8_drawn_X8_drawWhy : GoodIn wsX8_drawn wsX8_drawWhy := goodIn_r _ [21, 22, 23, 1, 24, 14, 15, 16, 5, 17, 25, 26, 27, 28, 29, 30, 31, 32, 33, 34, 35, 36, 37, 38, 39, 40, 41, 42, 43, 44, 49, 50, 51, 52, 53, 54, 55, 56, 57, 58, 59, 60, 61, 62, 63, 64, 65, 66, 67, 68, 69, 70, 71, 72, 73, 74, 75, 76, 77, 78, 79, 80, 81, 82, 83, 84, 85, 86, 87, 88] (by decide +kernel) (by decide +kernel)
set_option maxRecDepth 20000 in
theorem gX8_drawn_X8_drawWhy : GoodIn wsX8_drawn (wsV RX8 382 RX8 yX8_drawWhy wsX8_drawWhy) := goodIn_app (goodIn_of _ (by decide +kernel)) ggX8_drawn_X8_drawWhy
set_option maxRecDepth 20000 in
theorem ggX8_drawn_X8_no : GoodIn wsX8_drawn wsX8_no := goodIn_r _ [48, 8, 49, 50, 51, 52, 53, 54, 55, 56, 57, 58, 59, 60, 61, 62, 63, 64, 65, 66, 67, 68, 69, 70, 71, 72, 73, 74, 75, 76, 77, 78, 79, 80, 81, 82, 83, 84, 85, 86, 87, 88] (by decide +kernel) (by decide +kernel)
set_option maxRecDepth 20000 in
theorem gX8_drawn_X8_no : GoodIn wsX8_drawn (wsV RX8 163 RX8 yX8_no wsX8_no) := goodIn_app (goodIn_of _ (by decide +kernel)) ggX8_drawn_X8_no
set_option maxRecDepth 20000 in
theorem ggX8_firstShut_X8_good : GoodIn wsX8_firstShut wsX8_good := goodIn_r _ [7, 8, 9, 45, 46, 47, 48, 49, 50, 51, 52, 53, 54, 55, 56, 57, 58, 59, 60, 61, 62, 63, 64, 65, 66, 67, 68, 69, 70, 71, 72, 73, 74, 75, 76, 77, 78, 79, 80, 81, 82, 83, 84] (by decide +kernel) (by decide +kernel)
set_option maxRecDepth 20000 in
theorem gX8_firstShut_X8_good : GoodIn wsX8_firstShut (wsV RX8 160 RX8 yX8_good wsX8_good) := goodIn_app (goodIn_of _ (by decide +kernel)) ggX8_firstShut_X8_good
set_option maxRecDepth 20000 in
theorem ggX8_firstShut_X8_drawWhy : GoodIn wsX8_firstShut wsX8_drawWhy := goodIn_r _ [13, 14, 2, 15, 16, 17, 18, 19, 6, 20, 21, 22, 23, 24, 25, 26, 27, 28, 29, 30, 31, 32, 33, 34, 35, 36, 37, 38, 39, 40, 45, 46, 47, 48, 49, 50, 51, 52, 53, 54, 55, 56, 57, 58, 59, 60, 61, 62, 63, 64, 65, 66, 67, 68, 69, 70, 71, 72, 73, 74, 75, 76, 77, 78, 79, 80, 81, 82, 83, 84] (by decide +kernel) (by decide +kernel)
set_option maxRecDepth 20000 in
theorem gX8_firstShut_X8_drawWhy : GoodIn wsX8_firstShut (wsV RX8 382 RX8 yX8_drawWhy wsX8_drawWhy) := goodIn_app (goodIn_of _ (by decide +kernel)) ggX8_firstShut_X8_drawWhy
set_option maxRecDepth 20000 in
theorem ggX8_firstShut_X8_no : GoodIn wsX8_firstShut wsX8_no := goodIn_r _ [44, 9, 45, 46, 47, 48, 49, 50, 51, 52, 53, 54, 55, 56, 57, 58, 59, 60, 61, 62, 63, 64, 65, 66, 67, 68, 69, 70, 71, 72, 73, 74, 75, 76, 77, 78, 79, 80, 81, 82, 83, 84] (by decide +kernel) (by decide +kernel)
set_option maxRecDepth 20000 in
theorem gX8_firstShut_X8_no : GoodIn wsX8_firstShut (wsV RX8 163 RX8 yX8_no wsX8_no) := goodIn_app (goodIn_of _ (by decide +kernel)) ggX8_firstShut_X8_no
set_option maxRecDepth 20000 in
theorem ggX8_go_X8_good : GoodIn wsX8_go wsX8_good := goodIn_r _ [7, 8, 9, 68, 69, 70, 71, 72, 73, 74, 75, 76, 77, 78, 79, 80, 81, 82, 83, 84, 85, 86, 87, 88, 89, 90, 91, 92, 93, 94, 95, 96, 97, 98, 99, 100, 101, 102, 103, 104, 105, 106, 107] (by decide +kernel) (by decide +kernel)
set_option maxRecDepth 20000 in
theorem gX8_go_X8_good : GoodIn wsX8_go (wsV RX8 160 RX8 yX8_good wsX8_good) := goodIn_app (goodIn_of _ (by decide +kernel)) ggX8_go_X8_good
set_option maxRecDepth 20000 in
theorem ggX8_go_X8_in : GoodIn wsX8_go wsX8_in := goodIn_r _ [12] (by decide +kernel) (by decide +kernel)
set_option maxRecDepth 20000 in
theorem gX8_go_X8_in : GoodIn wsX8_go (va_wsS RX8 142 yX8_in wsX8_in) := goodIn_app (goodIn_of _ (by decide +kernel)) ggX8_go_X8_in
set_option maxRecDepth 20000 in
theorem ggX8_go_X8_why : GoodIn wsX8_go wsX8_why := goodIn_r _ [16] (by decide +kernel) (by decide +kernel)
set_option maxRecDepth 20000 in
theorem gX8_go_X8_why : GoodIn wsX8_go (wsV RX8 290 RX8 yX8_why wsX8_why) := goodIn_app (goodIn_of _ (by decide +kernel)) ggX8_go_X8_why
set_option maxRecDepth 20000 in
theorem ggX8_go_X8_no : GoodIn wsX8_go wsX8_no := goodIn_r _ [20, 9, 68, 69, 70, 71, 72, 73, 74, 75, 76, 77, 78, 79, 80, 81, 82, 83, 84, 85, 86, 87, 88, 89, 90, 91, 92, 93, 94, 95, 96, 97, 98, 99, 100, 101, 102, 103, 104, 105, 106, 107] (by decide +kernel) (by decide +kernel)
set_option maxRecDepth 20000 in
theorem gX8_go_X8_no : GoodIn wsX8_go (wsV RX8 163 RX8 yX8_no wsX8_no) := goodIn_app (goodIn_of _ (by decide +kernel)) ggX8_go_X8_no
set_option maxRecDepth 20000 in
theorem ggX8_put_X8_good : GoodIn wsX8_put wsX8_good := goodIn_r _ [6, 7, 8, 34, 35, 36, 37, 38, 39, 40, 41, 42, 43, 44, 45, 46, 47, 48, 49, 50, 51, 52, 53, 54, 55, 56, 57, 58, 59, 60, 61, 62, 63, 64, 65, 66, 67, 68, 69, 70, 71, 72, 73] (by decide +kernel) (by decide +kernel)
set_option maxRecDepth 20000 in
theorem gX8_put_X8_good : GoodIn wsX8_put (wsV RX8 160 RX8 yX8_good wsX8_good) := goodIn_app (goodIn_of _ (by decide +kernel)) ggX8_put_X8_good
set_option maxRecDepth 20000 in
theorem ggX8_put_X8_isFigure : GoodIn wsX8_put wsX8_isFigure := goodIn_r _ [12, 13, 14, 15, 16, 5, 17, 34, 35, 36, 37, 38, 39, 40, 41, 42, 43, 44, 45, 46, 47, 48, 49, 50, 51, 52, 53, 54, 55, 56, 57, 58, 59, 60, 61, 62, 63, 64, 65, 66, 67, 68, 69, 70, 71, 72, 73] (by decide +kernel) (by decide +kernel)
set_option maxRecDepth 20000 in
theorem gX8_put_X8_isFigure : GoodIn wsX8_put (wsV RX8 277 RX8 yX8_isFigure wsX8_isFigure) := goodIn_app (goodIn_of _ (by decide +kernel)) ggX8_put_X8_isFigure
set_option maxRecDepth 20000 in
theorem ggX8_put_X8_no : GoodIn wsX8_put wsX8_no := goodIn_r _ [21, 8, 34, 35, 36, 37, 38, 39, 40, 41, 42, 43, 44, 45, 46, 47, 48, 49, 50, 51, 52, 53, 54, 55, 56, 57, 58, 59, 60, 61, 62, 63, 64, 65, 66, 67, 68, 69, 70, 71, 72, 73] (by decide +kernel) (by decide +kernel)
set_option maxRecDepth 20000 in
theorem gX8_put_X8_no : GoodIn wsX8_put (wsV RX8 163 RX8 yX8_no wsX8_no) := goodIn_app (goodIn_of _ (by decide +kernel)) ggX8_put_X8_no
set_option maxRecDepth 20000 in
theorem ggX8_wind_X8_good : GoodIn wsX8_wind wsX8_good := goodIn_r _ [6, 7, 8, 31, 32, 33, 34, 35, 36, 37, 38, 39, 40, 41, 42, 43, 44, 45, 46, 47, 48, 49, 50, 51, 52, 53, 54, 55, 56, 57, 58, 59, 60, 61, 62, 63, 64, 65, 66, 67, 68, 69, 70] (by decide +kernel) (by decide +kernel)
set_option maxRecDepth 20000 in
theorem gX8_wind_X8_good : GoodIn wsX8_wind (wsV RX8 160 RX8 yX8_good wsX8_good) := goodIn_app (goodIn_of _ (by decide +kernel)) ggX8_wind_X8_good
set_option maxRecDepth 20000 in
theorem ggX8_wind_X8_isFigure : GoodIn wsX8_wind wsX8_isFigure := goodIn_r _ [12, 13, 14, 15, 16, 5, 17, 31, 32, 33, 34, 35, 36, 37, 38, 39, 40, 41, 42, 43, 44, 45, 46, 47, 48, 49, 50, 51, 52, 53, 54, 55, 56, 57, 58, 59, 60, 61, 62, 63, 64, 65, 66, 67, 68, 69, 70] (by decide +kernel) (by decide +kernel)
set_option maxRecDepth 20000 in
theorem gX8_wind_X8_isFigure : GoodIn wsX8_wind (wsV RX8 277 RX8 yX8_isFigure wsX8_isFigure) := goodIn_app (goodIn_of _ (by decide +kernel)) ggX8_wind_X8_isFigure
set_option maxRecDepth 20000 in
theorem ggX8_wind_X8_no : GoodIn wsX8_wind wsX8_no := goodIn_r _ [21, 8, 31, 32, 33, 34, 35, 36, 37, 38, 39, 40, 41, 42, 43, 44, 45, 46, 47, 48, 49, 50, 51, 52, 53, 54, 55, 56, 57, 58, 59, 60, 61, 62, 63, 64, 65, 66, 67, 68, 69, 70] (by decide +kernel) (by decide +kernel)
set_option maxRecDepth 20000 in
theorem gX8_wind_X8_no : GoodIn wsX8_wind (wsV RX8 163 RX8 yX8_no wsX8_no) := goodIn_app (goodIn_of _ (by decide +kernel)) ggX8_wind_X8_no
set_option maxRecDepth 20000 in
theorem ggX8_undo_X8_good : GoodIn wsX8_undo wsX8_good := goodIn_r _ [8, 9, 10, 18, 19, 20, 21, 22, 23, 24, 25, 26, 27, 28, 29, 30, 31, 32, 33, 34, 35, 36, 37, 38, 39, 40, 41, 42, 43, 44, 45, 46, 47, 48, 49, 50, 51, 52, 53, 54, 55, 56, 57] (by decide +kernel) (by decide +kernel)
set_option maxRecDepth 20000 in
theorem gX8_undo_X8_good : GoodIn wsX8_undo (wsV RX8 160 RX8 yX8_good wsX8_good) := goodIn_app (goodIn_of _ (by decide +kernel)) ggX8_undo_X8_good
set_option maxRecDepth 20000 in
theorem ggX8_undo_X8_isNot : GoodIn wsX8_undo wsX8_isNot := goodIn_r _ [14, 10, 18, 19, 20, 21, 22, 23, 24, 25, 26, 27, 28, 29, 30, 31, 32, 33, 34, 35, 36, 37, 38, 39, 40, 41, 42, 43, 44, 45, 46, 47, 48, 49, 50, 51, 52, 53, 54, 55, 56, 57] (by decide +kernel) (by decide +kernel)
set_option maxRecDepth 20000 in
theorem gX8_undo_X8_isNot : GoodIn wsX8_undo (wsV RX8 389 RX8 yX8_isNot wsX8_isNot) := goodIn_app (goodIn_of _ (by decide +kernel)) ggX8_undo_X8_isNot
set_option maxRecDepth 20000 in
theorem ggX8_image_X8_good : GoodIn wsX8_image wsX8_good := goodIn_r _ [9, 10, 11, 19, 20, 21, 22, 23, 24, 25, 26, 27, 28, 29, 30, 31, 32, 33, 34, 35, 36, 37, 38, 39, 40, 41, 42, 43, 44, 45, 46, 47, 48, 49, 50, 51, 52, 53, 54, 55, 56, 57, 58] (by decide +kernel) (by decide +kernel)
set_option maxRecDepth 20000 in
theorem gX8_image_X8_good : GoodIn wsX8_image (wsV RX8 160 RX8 yX8_good wsX8_good) := goodIn_app (goodIn_of _ (by decide +kernel)) ggX8_image_X8_good
set_option maxRecDepth 20000 in
theorem ggX8_image_X8_no : GoodIn wsX8_image wsX8_no := goodIn_r _ [15, 11, 19, 20, 21, 22, 23, 24, 25, 26, 27, 28, 29, 30, 31, 32, 33, 34, 35, 36, 37, 38, 39, 40, 41, 42, 43, 44, 45, 46, 47, 48, 49, 50, 51, 52, 53, 54, 55, 56, 57, 58] (by decide +kernel) (by decide +kernel)
set_option maxRecDepth 20000 in
theorem gX8_image_X8_no : GoodIn wsX8_image (wsV RX8 163 RX8 yX8_no wsX8_no) := goodIn_app (goodIn_of _ (by decide +kernel)) ggX8_image_X8_no
set_option maxRecDepth 20000 in
theorem ggX8_back_X8_good : GoodIn wsX8_back wsX8_good := goodIn_r _ [9, 10, 11, 22, 23, 24, 25, 26, 27, 28, 29, 30, 31, 32, 33, 34, 35, 36, 37, 38, 39, 40, 41, 42, 43, 44, 45, 46, 47, 48, 49, 50, 51, 52, 53, 54, 55, 56, 57, 58, 59, 60, 61] (by decide +kernel) (by decide +kernel)
set_option maxRecDepth 20000 in
theorem gX8_back_X8_good : GoodIn wsX8_back (wsV RX8 160 RX8 yX8_good wsX8_good) := goodIn_app (goodIn_of _ (by decide +kernel)) ggX8_back_X8_good
set_option maxRecDepth 20000 in
theorem ggX8_back_X8_in : GoodIn wsX8_back wsX8_in := goodIn_r _ [14] (by decide +kernel) (by decide +kernel)
set_option maxRecDepth 20000 in
theorem gX8_back_X8_in : GoodIn wsX8_back (va_wsS RX8 142 yX8_in wsX8_in) := goodIn_app (goodIn_of _ (by decide +kernel)) ggX8_back_X8_in
set_option maxRecDepth 20000 in
theorem ggX8_back_X8_isNot : GoodIn wsX8_back wsX8_isNot := goodIn_r _ [18, 11, 22, 23, 24, 25, 26, 27, 28, 29, 30, 31, 32, 33, 34, 35, 36, 37, 38, 39, 40, 41, 42, 43, 44, 45, 46, 47, 48, 49, 50, 51, 52, 53, 54, 55, 56, 57, 58, 59, 60, 61] (by decide +kernel) (by decide +kernel)
set_option maxRecDepth 20000 in
theorem gX8_back_X8_isNot : GoodIn wsX8_back (wsV RX8 389 RX8 yX8_isNot wsX8_isNot) := goodIn_app (goodIn_of _ (by decide +kernel)) ggX8_back_X8_isNot
set_option maxRecDepth 20000 in
theorem ggX8_size_X8_in : GoodIn wsX8_size wsX8_in := goodIn_r _ [11] (by decide +kernel) (by decide +kernel)
set_option maxRecDepth 20000 in
theorem gX8_size_X8_in : GoodIn wsX8_size (va_wsS RX8 142 yX8_in wsX8_in) := goodIn_app (goodIn_of _ (by decide +kernel)) ggX8_size_X8_in
