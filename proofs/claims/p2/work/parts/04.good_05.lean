set_option maxRecDepth 20000 in
theorem ggX8_fits_X8_codes : GoodIn wsX8_fits wsX8_codes := goodIn_r _ [16, 17, 31, 32, 33, 34, 35, 36, 37, 38, 39, 40, 41, 42, 43, 44, 45, 46, 47, 48, 49, 50, 51, 52, 53, 54, 55, 56, 57, 58, 59, 60, 61, 62, 63, 64, 65, 66, 67, 68, 69, 70] (by decide +kernel) (by decide +kernel)
set_option maxRecDepth 20000 in
theorem gX8_fits_X8_codes : GoodIn wsX8_fits (wsV RX8 334 RX8 yX8_codes wsX8_codes) := goodIn_app (goodIn_of _ (by decide +kernel)) ggX8_fits_X8_codes
set_option maxRecDepth 20000 in
theorem ggX8_fits_X8_doesFit : GoodIn wsX8_fits wsX8_doesFit := goodIn_r _ [21, 17, 22, 23, 24, 5, 25, 26, 27, 28, 29, 30, 31, 32, 33, 34, 35, 36, 37, 38, 39, 40, 41, 42, 43, 44, 45, 46, 47, 48, 49, 50, 51, 52, 53, 54, 55, 56, 57, 58, 59, 60, 61, 62, 63, 64, 65, 66, 67, 68, 69, 70] (by decide +kernel) (by decide +kernel)
set_option maxRecDepth 20000 in
theorem gX8_fits_X8_doesFit : GoodIn wsX8_fits (wsV RX8 337 RX8 yX8_doesFit wsX8_doesFit) := goodIn_app (goodIn_of _ (by decide +kernel)) ggX8_fits_X8_doesFit
set_option maxRecDepth 20000 in
theorem ggX8_fitAt_X8_good : GoodIn wsX8_fitAt wsX8_good := goodIn_r _ [6, 7, 8, 35, 36, 37, 38, 39, 40, 41, 42, 43, 44, 45, 46, 47, 48, 49, 50, 51, 52, 53, 54, 55, 56, 57, 58, 59, 60, 61, 62, 63, 64, 65, 66, 67, 68, 69, 70, 71, 72, 73, 74] (by decide +kernel) (by decide +kernel)
set_option maxRecDepth 20000 in
theorem gX8_fitAt_X8_good : GoodIn wsX8_fitAt (wsV RX8 160 RX8 yX8_good wsX8_good) := goodIn_app (goodIn_of _ (by decide +kernel)) ggX8_fitAt_X8_good
set_option maxRecDepth 20000 in
theorem ggX8_fitAt_X8_no : GoodIn wsX8_fitAt wsX8_no := goodIn_r _ [12, 8, 35, 36, 37, 38, 39, 40, 41, 42, 43, 44, 45, 46, 47, 48, 49, 50, 51, 52, 53, 54, 55, 56, 57, 58, 59, 60, 61, 62, 63, 64, 65, 66, 67, 68, 69, 70, 71, 72, 73, 74] (by decide +kernel) (by decide +kernel)
set_option maxRecDepth 20000 in
theorem gX8_fitAt_X8_no : GoodIn wsX8_fitAt (wsV RX8 163 RX8 yX8_no wsX8_no) := goodIn_app (goodIn_of _ (by decide +kernel)) ggX8_fitAt_X8_no
set_option maxRecDepth 20000 in
theorem ggX8_fitAt_X8_codes : GoodIn wsX8_fitAt wsX8_codes := goodIn_r _ [16, 17, 35, 36, 37, 38, 39, 40, 41, 42, 43, 44, 45, 46, 47, 48, 49, 50, 51, 52, 53, 54, 55, 56, 57, 58, 59, 60, 61, 62, 63, 64, 65, 66, 67, 68, 69, 70, 71, 72, 73, 74] (by decide +kernel) (by decide +kernel)
set_option maxRecDepth 20000 in
theorem gX8_fitAt_X8_codes : GoodIn wsX8_fitAt (wsV RX8 334 RX8 yX8_codes wsX8_codes) := goodIn_app (goodIn_of _ (by decide +kernel)) ggX8_fitAt_X8_codes
set_option maxRecDepth 20000 in
theorem ggX8_fitAt_X8_doesFit : GoodIn wsX8_fitAt wsX8_doesFit := goodIn_r _ [21, 17, 22, 23, 24, 5, 25, 26, 27, 28, 29, 30, 35, 36, 37, 38, 39, 40, 41, 42, 43, 44, 45, 46, 47, 48, 49, 50, 51, 52, 53, 54, 55, 56, 57, 58, 59, 60, 61, 62, 63, 64, 65, 66, 67, 68, 69, 70, 71, 72, 73, 74] (by decide +kernel) (by decide +kernel)
set_option maxRecDepth 20000 in
theorem gX8_fitAt_X8_doesFit : GoodIn wsX8_fitAt (wsV RX8 337 RX8 yX8_doesFit wsX8_doesFit) := goodIn_app (goodIn_of _ (by decide +kernel)) ggX8_fitAt_X8_doesFit
set_option maxRecDepth 20000 in
theorem ggX8_fitAt_X8_numberOf : GoodIn wsX8_fitAt wsX8_numberOf := goodIn_r _ [34, 17, 35, 36, 37, 38, 39, 40, 41, 42, 43, 44, 45, 46, 47, 48, 49, 50, 51, 52, 53, 54, 55, 56, 57, 58, 59, 60, 61, 62, 63, 64, 65, 66, 67, 68, 69, 70, 71, 72, 73, 74] (by decide +kernel) (by decide +kernel)
set_option maxRecDepth 20000 in
theorem gX8_fitAt_X8_numberOf : GoodIn wsX8_fitAt (wsV RX8 340 RX8 yX8_numberOf wsX8_numberOf) := goodIn_app (goodIn_of _ (by decide +kernel)) ggX8_fitAt_X8_numberOf
set_option maxRecDepth 20000 in
theorem ggX8_layOften_X8_codes : GoodIn wsX8_layOften wsX8_codes := goodIn_r _ [6, 7, 21, 22, 23, 24, 25, 26, 27, 28, 29, 30, 31, 32, 33, 34, 35, 36, 37, 38, 39, 40, 41, 42, 43, 44, 45, 46, 47, 48, 49, 50, 51, 52, 53, 54, 55, 56, 57, 58, 59, 60] (by decide +kernel) (by decide +kernel)
set_option maxRecDepth 20000 in
theorem gX8_layOften_X8_codes : GoodIn wsX8_layOften (wsV RX8 334 RX8 yX8_codes wsX8_codes) := goodIn_app (goodIn_of _ (by decide +kernel)) ggX8_layOften_X8_codes
set_option maxRecDepth 20000 in
theorem ggX8_layOften_X8_doesFit : GoodIn wsX8_layOften wsX8_doesFit := goodIn_r _ [11, 7, 12, 13, 14, 5, 15, 16, 17, 18, 19, 20, 21, 22, 23, 24, 25, 26, 27, 28, 29, 30, 31, 32, 33, 34, 35, 36, 37, 38, 39, 40, 41, 42, 43, 44, 45, 46, 47, 48, 49, 50, 51, 52, 53, 54, 55, 56, 57, 58, 59, 60] (by decide +kernel) (by decide +kernel)
set_option maxRecDepth 20000 in
theorem gX8_layOften_X8_doesFit : GoodIn wsX8_layOften (wsV RX8 337 RX8 yX8_doesFit wsX8_doesFit) := goodIn_app (goodIn_of _ (by decide +kernel)) ggX8_layOften_X8_doesFit
set_option maxRecDepth 20000 in
theorem ggX8_layOften_X8_byCode : GoodIn wsX8_layOften wsX8_byCode := goodIn_r _ [15, 7, 16, 17, 18, 5, 19, 20, 21, 22, 23, 24, 25, 26, 27, 28, 29, 30, 31, 32, 33, 34, 35, 36, 37, 38, 39, 40, 41, 42, 43, 44, 45, 46, 47, 48, 49, 50, 51, 52, 53, 54, 55, 56, 57, 58, 59, 60] (by decide +kernel) (by decide +kernel)
set_option maxRecDepth 20000 in
theorem gX8_layOften_X8_byCode : GoodIn wsX8_layOften (wsV RX8 331 RX8 yX8_byCode wsX8_byCode) := goodIn_app (goodIn_of _ (by decide +kernel)) ggX8_layOften_X8_byCode
set_option maxRecDepth 20000 in
theorem ggX8_could_X8_good : GoodIn wsX8_could wsX8_good := goodIn_r _ [8, 9, 10, 43, 44, 45, 46, 47, 48, 49, 50, 51, 52, 53, 54, 55, 56, 57, 58, 59, 60, 61, 62, 63, 64, 65, 66, 67, 68, 69, 70, 71, 72, 73, 74, 75, 76, 77, 78, 79, 80, 81, 82] (by decide +kernel) (by decide +kernel)
set_option maxRecDepth 20000 in
theorem gX8_could_X8_good : GoodIn wsX8_could (wsV RX8 160 RX8 yX8_good wsX8_good) := goodIn_app (goodIn_of _ (by decide +kernel)) ggX8_could_X8_good
set_option maxRecDepth 20000 in
theorem ggX8_could_X8_in : GoodIn wsX8_could wsX8_in := goodIn_r _ [13] (by decide +kernel) (by decide +kernel)
set_option maxRecDepth 20000 in
theorem gX8_could_X8_in : GoodIn wsX8_could (va_wsS RX8 142 yX8_in wsX8_in) := goodIn_app (goodIn_of _ (by decide +kernel)) ggX8_could_X8_in
set_option maxRecDepth 20000 in
theorem ggX8_could_X8_why : GoodIn wsX8_could wsX8_why := goodIn_r _ [17] (by decide +kernel) (by decide +kernel)
set_option maxRecDepth 20000 in
theorem gX8_could_X8_why : GoodIn wsX8_could (wsV RX8 290 RX8 yX8_why wsX8_why) := goodIn_app (goodIn_of _ (by decide +kernel)) ggX8_could_X8_why
set_option maxRecDepth 20000 in
theorem ggX8_could_X8_no : GoodIn wsX8_could wsX8_no := goodIn_r _ [21, 10, 43, 44, 45, 46, 47, 48, 49, 50, 51, 52, 53, 54, 55, 56, 57, 58, 59, 60, 61, 62, 63, 64, 65, 66, 67, 68, 69, 70, 71, 72, 73, 74, 75, 76, 77, 78, 79, 80, 81, 82] (by decide +kernel) (by decide +kernel)
set_option maxRecDepth 20000 in
theorem gX8_could_X8_no : GoodIn wsX8_could (wsV RX8 163 RX8 yX8_no wsX8_no) := goodIn_app (goodIn_of _ (by decide +kernel)) ggX8_could_X8_no
set_option maxRecDepth 20000 in
theorem ggX8_could_X8_layOften : GoodIn wsX8_could wsX8_layOften := goodIn_r _ [25, 3, 26, 27, 28, 7, 29, 2, 30, 31, 32, 33, 34, 35, 36, 37, 38, 39, 40, 41, 42, 43, 44, 45, 46, 47, 48, 49, 50, 51, 52, 53, 54, 55, 56, 57, 58, 59, 60, 61, 62, 63, 64, 65, 66, 67, 68, 69, 70, 71, 72, 73, 74, 75, 76, 77, 78, 79, 80, 81, 82] (by decide +kernel) (by decide +kernel)
set_option maxRecDepth 20000 in
theorem gX8_could_X8_layOften : GoodIn wsX8_could (wsV RX8 343 RX8 yX8_layOften wsX8_layOften) := goodIn_app (goodIn_of _ (by decide +kernel)) ggX8_could_X8_layOften
set_option maxRecDepth 20000 in
theorem ggX8_aliveBy_X8_good : GoodIn wsX8_aliveBy wsX8_good := goodIn_r _ [7, 8, 9, 47, 48, 49, 50, 51, 52, 53, 54, 55, 56, 57, 58, 59, 60, 61, 62, 63, 64, 65, 66, 67, 68, 69, 70, 71, 72, 73, 74, 75, 76, 77, 78, 79, 80, 81, 82, 83, 84, 85, 86] (by decide +kernel) (by decide +kernel)
set_option maxRecDepth 20000 in
theorem gX8_aliveBy_X8_good : GoodIn wsX8_aliveBy (wsV RX8 160 RX8 yX8_good wsX8_good) := goodIn_app (goodIn_of _ (by decide +kernel)) ggX8_aliveBy_X8_good
set_option maxRecDepth 20000 in
theorem ggX8_aliveBy_X8_isFigure : GoodIn wsX8_aliveBy wsX8_isFigure := goodIn_r _ [13, 14, 1, 15, 16, 6, 17, 47, 48, 49, 50, 51, 52, 53, 54, 55, 56, 57, 58, 59, 60, 61, 62, 63, 64, 65, 66, 67, 68, 69, 70, 71, 72, 73, 74, 75, 76, 77, 78, 79, 80, 81, 82, 83, 84, 85, 86] (by decide +kernel) (by decide +kernel)
set_option maxRecDepth 20000 in
theorem gX8_aliveBy_X8_isFigure : GoodIn wsX8_aliveBy (wsV RX8 277 RX8 yX8_isFigure wsX8_isFigure) := goodIn_app (goodIn_of _ (by decide +kernel)) ggX8_aliveBy_X8_isFigure
set_option maxRecDepth 20000 in
theorem ggX8_aliveBy_X8_in : GoodIn wsX8_aliveBy wsX8_in := goodIn_r _ [17] (by decide +kernel) (by decide +kernel)
set_option maxRecDepth 20000 in
theorem gX8_aliveBy_X8_in : GoodIn wsX8_aliveBy (va_wsS RX8 142 yX8_in wsX8_in) := goodIn_app (goodIn_of _ (by decide +kernel)) ggX8_aliveBy_X8_in
set_option maxRecDepth 20000 in
theorem ggX8_aliveBy_X8_why : GoodIn wsX8_aliveBy wsX8_why := goodIn_r _ [21] (by decide +kernel) (by decide +kernel)
set_option maxRecDepth 20000 in
theorem gX8_aliveBy_X8_why : GoodIn wsX8_aliveBy (wsV RX8 290 RX8 yX8_why wsX8_why) := goodIn_app (goodIn_of _ (by decide +kernel)) ggX8_aliveBy_X8_why
set_option maxRecDepth 20000 in
theorem ggX8_aliveBy_X8_no : GoodIn wsX8_aliveBy wsX8_no := goodIn_r _ [25, 9, 47, 48, 49, 50, 51, 52, 53, 54, 55, 56, 57, 58, 59, 60, 61, 62, 63, 64, 65, 66, 67, 68, 69, 70, 71, 72, 73, 74, 75, 76, 77, 78, 79, 80, 81, 82, 83, 84, 85, 86] (by decide +kernel) (by decide +kernel)
set_option maxRecDepth 20000 in
theorem gX8_aliveBy_X8_no : GoodIn wsX8_aliveBy (wsV RX8 163 RX8 yX8_no wsX8_no) := goodIn_app (goodIn_of _ (by decide +kernel)) ggX8_aliveBy_X8_no
set_option maxRecDepth 20000 in
theorem ggX8_aliveBy_X8_layOften : GoodIn wsX8_aliveBy wsX8_layOften := goodIn_r _ [29, 2, 30, 31, 32, 6, 33, 1, 34, 35, 36, 37, 38, 39, 40, 41, 42, 43, 44, 45, 46, 47, 48, 49, 50, 51, 52, 53, 54, 55, 56, 57, 58, 59, 60, 61, 62, 63, 64, 65, 66, 67, 68, 69, 70, 71, 72, 73, 74, 75, 76, 77, 78, 79, 80, 81, 82, 83, 84, 85, 86] (by decide +kernel) (by decide +kernel)
set_option maxRecDepth 20000 in
theorem gX8_aliveBy_X8_layOften : GoodIn wsX8_aliveBy (wsV RX8 343 RX8 yX8_layOften wsX8_layOften) := goodIn_app (goodIn_of _ (by decide +kernel)) ggX8_aliveBy_X8_layOften
set_option maxRecDepth 20000 in
theorem ggX8_lookOf_X8_layOften : GoodIn wsX8_lookOf wsX8_layOften := goodIn_r _ [8, 3, 9, 10, 11, 7, 12, 2, 13, 14, 15, 16, 17, 18, 19, 20, 21, 22, 23, 24, 25, 26, 27, 28, 29, 30, 31, 32, 33, 34, 35, 36, 37, 38, 39, 40, 41, 42, 43, 44, 45, 46, 47, 48, 49, 50, 51, 52, 53, 54, 55, 56, 57, 58, 59, 60, 61, 62, 63, 64, 65] (by decide +kernel) (by decide +kernel)
set_option maxRecDepth 20000 in
theorem gX8_lookOf_X8_layOften : GoodIn wsX8_lookOf (wsV RX8 343 RX8 yX8_layOften wsX8_layOften) := goodIn_app (goodIn_of _ (by decide +kernel)) ggX8_lookOf_X8_layOften
set_option maxRecDepth 20000 in
theorem ggX8_look_X8_good : GoodIn wsX8_look wsX8_good := goodIn_r _ [6, 7, 8, 41, 42, 43, 44, 45, 46, 47, 48, 49, 50, 51, 52, 53, 54, 55, 56, 57, 58, 59, 60, 61, 62, 63, 64, 65, 66, 67, 68, 69, 70, 71, 72, 73, 74, 75, 76, 77, 78, 79, 80] (by decide +kernel) (by decide +kernel)
set_option maxRecDepth 20000 in
theorem gX8_look_X8_good : GoodIn wsX8_look (wsV RX8 160 RX8 yX8_good wsX8_good) := goodIn_app (goodIn_of _ (by decide +kernel)) ggX8_look_X8_good
set_option maxRecDepth 20000 in
theorem ggX8_look_X8_lookOf : GoodIn wsX8_look wsX8_lookOf := goodIn_r _ [12, 13, 14, 15, 16, 17, 18, 5, 19, 20, 21, 22, 23, 24, 25, 26, 27, 28, 29, 30, 31, 32, 33, 34, 35, 36, 41, 42, 43, 44, 45, 46, 47, 48, 49, 50, 51, 52, 53, 54, 55, 56, 57, 58, 59, 60, 61, 62, 63, 64, 65, 66, 67, 68, 69, 70, 71, 72, 73, 74, 75, 76, 77, 78, 79, 80] (by decide +kernel) (by decide +kernel)
set_option maxRecDepth 20000 in
theorem gX8_look_X8_lookOf : GoodIn wsX8_look (wsV RX8 349 RX8 yX8_lookOf wsX8_lookOf) := goodIn_app (goodIn_of _ (by decide +kernel)) ggX8_look_X8_lookOf
set_option maxRecDepth 20000 in
theorem ggX8_look_X8_no : GoodIn wsX8_look wsX8_no := goodIn_r _ [40, 8, 41, 42, 43, 44, 45, 46, 47, 48, 49, 50, 51, 52, 53, 54, 55, 56, 57, 58, 59, 60, 61, 62, 63, 64, 65, 66, 67, 68, 69, 70, 71, 72, 73, 74, 75, 76, 77, 78, 79, 80] (by decide +kernel) (by decide +kernel)
set_option maxRecDepth 20000 in
theorem gX8_look_X8_no : GoodIn wsX8_look (wsV RX8 163 RX8 yX8_no wsX8_no) := goodIn_app (goodIn_of _ (by decide +kernel)) ggX8_look_X8_no
set_option maxRecDepth 20000 in
theorem ggX8_lookLeaves_X8_good : GoodIn wsX8_lookLeaves wsX8_good := goodIn_r _ [7, 8, 9, 41, 42, 43, 44, 45, 46, 47, 48, 49, 50, 51, 52, 53, 54, 55, 56, 57, 58, 59, 60, 61, 62, 63, 64, 65, 66, 67, 68, 69, 70, 71, 72, 73, 74, 75, 76, 77, 78, 79, 80] (by decide +kernel) (by decide +kernel)
set_option maxRecDepth 20000 in
theorem gX8_lookLeaves_X8_good : GoodIn wsX8_lookLeaves (wsV RX8 160 RX8 yX8_good wsX8_good) := goodIn_app (goodIn_of _ (by decide +kernel)) ggX8_lookLeaves_X8_good
set_option maxRecDepth 20000 in
theorem ggX8_lookLeaves_X8_no : GoodIn wsX8_lookLeaves wsX8_no := goodIn_r _ [13, 9, 41, 42, 43, 44, 45, 46, 47, 48, 49, 50, 51, 52, 53, 54, 55, 56, 57, 58, 59, 60, 61, 62, 63, 64, 65, 66, 67, 68, 69, 70, 71, 72, 73, 74, 75, 76, 77, 78, 79, 80] (by decide +kernel) (by decide +kernel)
set_option maxRecDepth 20000 in
theorem gX8_lookLeaves_X8_no : GoodIn wsX8_lookLeaves (wsV RX8 163 RX8 yX8_no wsX8_no) := goodIn_app (goodIn_of _ (by decide +kernel)) ggX8_lookLeaves_X8_no
set_option maxRecDepth 20000 in
theorem ggX8_lookLeaves_X8_lookOf : GoodIn wsX8_lookLeaves wsX8_lookOf := goodIn_r _ [17, 2, 18, 19, 20, 21, 22, 6, 23, 24, 25, 26, 27, 28, 29, 30, 31, 32, 33, 34, 35, 36, 37, 38, 39, 40, 41, 42, 43, 44, 45, 46, 47, 48, 49, 50, 51, 52, 53, 54, 55, 56, 57, 58, 59, 60, 61, 62, 63, 64, 65, 66, 67, 68, 69, 70, 71, 72, 73, 74, 75, 76, 77, 78, 79, 80] (by decide +kernel) (by decide +kernel)
set_option maxRecDepth 20000 in
theorem gX8_lookLeaves_X8_lookOf : GoodIn wsX8_lookLeaves (wsV RX8 349 RX8 yX8_lookOf wsX8_lookOf) := goodIn_app (goodIn_of _ (by decide +kernel)) ggX8_lookLeaves_X8_lookOf
set_option maxRecDepth 20000 in
theorem ggX8_judge_X8_good : GoodIn wsX8_judge wsX8_good := goodIn_r _ [7, 8, 9, 19, 20, 21, 22, 23, 24, 25, 26, 27, 28, 29, 30, 31, 32, 33, 34, 35, 36, 37, 38, 39, 40, 41, 42, 43, 44, 45, 46, 47, 48, 49, 50, 51, 52, 53, 54, 55, 56, 57, 58] (by decide +kernel) (by decide +kernel)
set_option maxRecDepth 20000 in
theorem gX8_judge_X8_good : GoodIn wsX8_judge (wsV RX8 160 RX8 yX8_good wsX8_good) := goodIn_app (goodIn_of _ (by decide +kernel)) ggX8_judge_X8_good
set_option maxRecDepth 20000 in
theorem ggX8_judge_X8_no : GoodIn wsX8_judge wsX8_no := goodIn_r _ [13, 9, 19, 20, 21, 22, 23, 24, 25, 26, 27, 28, 29, 30, 31, 32, 33, 34, 35, 36, 37, 38, 39, 40, 41, 42, 43, 44, 45, 46, 47, 48, 49, 50, 51, 52, 53, 54, 55, 56, 57, 58] (by decide +kernel) (by decide +kernel)
set_option maxRecDepth 20000 in
theorem gX8_judge_X8_no : GoodIn wsX8_judge (wsV RX8 163 RX8 yX8_no wsX8_no) := goodIn_app (goodIn_of _ (by decide +kernel)) ggX8_judge_X8_no
set_option maxRecDepth 20000 in
theorem ggX8_judge_X8_turnBy : GoodIn wsX8_judge wsX8_turnBy := goodIn_r _ [17, 18, 2, 19, 20, 21, 22, 23, 24, 25, 26, 27, 28, 29, 30, 31, 32, 33, 34, 35, 36, 37, 38, 39, 40, 41, 42, 43, 44, 45, 46, 47, 48, 49, 50, 51, 52, 53, 54, 55, 56, 57, 58] (by decide +kernel) (by decide +kernel)
set_option maxRecDepth 20000 in
theorem gX8_judge_X8_turnBy : GoodIn wsX8_judge (wsV RX8 327 RX8 yX8_turnBy wsX8_turnBy) := goodIn_app (goodIn_of _ (by decide +kernel)) ggX8_judge_X8_turnBy
set_option maxRecDepth 20000 in
theorem ggX8_lawsLike_X8_good : GoodIn wsX8_lawsLike wsX8_good := goodIn_r _ [7, 8, 9, 27, 28, 29, 30, 31, 32, 33, 34, 35, 36, 37, 38, 39, 40, 41, 42, 43, 44, 45, 46, 47, 48, 49, 50, 51, 52, 53, 54, 55, 56, 57, 58, 59, 60, 61, 62, 63, 64, 65, 66] (by decide +kernel) (by decide +kernel)
set_option maxRecDepth 20000 in
theorem gX8_lawsLike_X8_good : GoodIn wsX8_lawsLike (wsV RX8 160 RX8 yX8_good wsX8_good) := goodIn_app (goodIn_of _ (by decide +kernel)) ggX8_lawsLike_X8_good
set_option maxRecDepth 20000 in
theorem ggX8_lawsLike_X8_no : GoodIn wsX8_lawsLike wsX8_no := goodIn_r _ [13, 9, 27, 28, 29, 30, 31, 32, 33, 34, 35, 36, 37, 38, 39, 40, 41, 42, 43, 44, 45, 46, 47, 48, 49, 50, 51, 52, 53, 54, 55, 56, 57, 58, 59, 60, 61, 62, 63, 64, 65, 66] (by decide +kernel) (by decide +kernel)
set_option maxRecDepth 20000 in
theorem gX8_lawsLike_X8_no : GoodIn wsX8_lawsLike (wsV RX8 163 RX8 yX8_no wsX8_no) := goodIn_app (goodIn_of _ (by decide +kernel)) ggX8_lawsLike_X8_no
set_option maxRecDepth 20000 in
theorem ggX8_lawsLike_X8_codes : GoodIn wsX8_lawsLike wsX8_codes := goodIn_r _ [17, 2, 27, 28, 29, 30, 31, 32, 33, 34, 35, 36, 37, 38, 39, 40, 41, 42, 43, 44, 45, 46, 47, 48, 49, 50, 51, 52, 53, 54, 55, 56, 57, 58, 59, 60, 61, 62, 63, 64, 65, 66] (by decide +kernel) (by decide +kernel)
set_option maxRecDepth 20000 in
theorem gX8_lawsLike_X8_codes : GoodIn wsX8_lawsLike (wsV RX8 334 RX8 yX8_codes wsX8_codes) := goodIn_app (goodIn_of _ (by decide +kernel)) ggX8_lawsLike_X8_codes
set_option maxRecDepth 20000 in
theorem ggX8_lawsLike_X8_byCode : GoodIn wsX8_lawsLike wsX8_byCode := goodIn_r _ [21, 2, 22, 23, 24, 6, 25, 26, 27, 28, 29, 30, 31, 32, 33, 34, 35, 36, 37, 38, 39, 40, 41, 42, 43, 44, 45, 46, 47, 48, 49, 50, 51, 52, 53, 54, 55, 56, 57, 58, 59, 60, 61, 62, 63, 64, 65, 66] (by decide +kernel) (by decide +kernel)
set_option maxRecDepth 20000 in
theorem gX8_lawsLike_X8_byCode : GoodIn wsX8_lawsLike (wsV RX8 331 RX8 yX8_byCode wsX8_byCode) := goodIn_app (goodIn_of _ (by decide +kernel)) ggX8_lawsLike_X8_byCode
set_option maxRecDepth 20000 in
theorem ggX8_lawsLike_X8_turnBy : GoodIn wsX8_lawsLike wsX8_turnBy := goodIn_r _ [25, 26, 2, 27, 28, 29, 30, 31, 32, 33, 34, 35, 36, 37, 38, 39, 40, 41, 42, 43, 44, 45, 46, 47, 48, 49, 50, 51, 52, 53, 54, 55, 56, 57, 58, 59, 60, 61, 62, 63, 64, 65, 66] (by decide +kernel) (by decide +kernel)
set_option maxRecDepth 20000 in
theorem gX8_lawsLike_X8_turnBy : GoodIn wsX8_lawsLike (wsV RX8 327 RX8 yX8_turnBy wsX8_turnBy) := goodIn_app (goodIn_of _ (by decide +kernel)) ggX8_lawsLike_X8_turnBy
set_option maxRecDepth 20000 in
theorem ggX8_lawFor_X8_good : GoodIn wsX8_lawFor wsX8_good := goodIn_r _ [5, 6, 7, 38, 39, 40, 41, 42, 43, 44, 45, 46, 47, 48, 49, 50, 51, 52, 53, 54, 55, 56, 57, 58, 59, 60, 61, 62, 63, 64, 65, 66, 67, 68, 69, 70, 71, 72, 73, 74, 75, 76, 77] (by decide +kernel) (by decide +kernel)
set_option maxRecDepth 20000 in
theorem gX8_lawFor_X8_good : GoodIn wsX8_lawFor (wsV RX8 160 RX8 yX8_good wsX8_good) := goodIn_app (goodIn_of _ (by decide +kernel)) ggX8_lawFor_X8_good
set_option maxRecDepth 20000 in
theorem ggX8_lawFor_X8_isFigure : GoodIn wsX8_lawFor wsX8_isFigure := goodIn_r _ [11, 12, 13, 14, 15, 4, 16, 38, 39, 40, 41, 42, 43, 44, 45, 46, 47, 48, 49, 50, 51, 52, 53, 54, 55, 56, 57, 58, 59, 60, 61, 62, 63, 64, 65, 66, 67, 68, 69, 70, 71, 72, 73, 74, 75, 76, 77] (by decide +kernel) (by decide +kernel)
set_option maxRecDepth 20000 in
theorem gX8_lawFor_X8_isFigure : GoodIn wsX8_lawFor (wsV RX8 277 RX8 yX8_isFigure wsX8_isFigure) := goodIn_app (goodIn_of _ (by decide +kernel)) ggX8_lawFor_X8_isFigure
set_option maxRecDepth 20000 in
theorem ggX8_lawFor_X8_in : GoodIn wsX8_lawFor wsX8_in := goodIn_r _ [16] (by decide +kernel) (by decide +kernel)
set_option maxRecDepth 20000 in
theorem gX8_lawFor_X8_in : GoodIn wsX8_lawFor (va_wsS RX8 142 yX8_in wsX8_in) := goodIn_app (goodIn_of _ (by decide +kernel)) ggX8_lawFor_X8_in
set_option maxRecDepth 20000 in
theorem ggX8_lawFor_X8_why : GoodIn wsX8_lawFor wsX8_why := goodIn_r _ [20] (by decide +kernel) (by decide +kernel)
set_option maxRecDepth 20000 in
theorem gX8_lawFor_X8_why : GoodIn wsX8_lawFor (wsV RX8 290 RX8 yX8_why wsX8_why) := goodIn_app (goodIn_of _ (by decide +kernel)) ggX8_lawFor_X8_why
set_option maxRecDepth 20000 in
theorem ggX8_lawFor_X8_no : GoodIn wsX8_lawFor wsX8_no := goodIn_r _ [24, 7, 38, 39, 40, 41, 42, 43, 44, 45, 46, 47, 48, 49, 50, 51, 52, 53, 54, 55, 56, 57, 58, 59, 60, 61, 62, 63, 64, 65, 66, 67, 68, 69, 70, 71, 72, 73, 74, 75, 76, 77] (by decide +kernel) (by decide +kernel)
set_option maxRecDepth 20000 in
theorem gX8_lawFor_X8_no : GoodIn wsX8_lawFor (wsV RX8 163 RX8 yX8_no wsX8_no) := goodIn_app (goodIn_of _ (by decide +kernel)) ggX8_lawFor_X8_no
set_option maxRecDepth 20000 in
theorem ggX8_lawFor_X8_byCode : GoodIn wsX8_lawFor wsX8_byCode := goodIn_r _ [28, 13, 29, 30, 31, 4, 32, 33, 38, 39, 40, 41, 42, 43, 44, 45, 46, 47, 48, 49, 50, 51, 52, 53, 54, 55, 56, 57, 58, 59, 60, 61, 62, 63, 64, 65, 66, 67, 68, 69, 70, 71, 72, 73, 74, 75, 76, 77] (by decide +kernel) (by decide +kernel)
set_option maxRecDepth 20000 in
theorem gX8_lawFor_X8_byCode : GoodIn wsX8_lawFor (wsV RX8 331 RX8 yX8_byCode wsX8_byCode) := goodIn_app (goodIn_of _ (by decide +kernel)) ggX8_lawFor_X8_byCode
set_option maxRecDepth 20000 in
theorem ggX8_lawFor_X8_numberOf : GoodIn wsX8_lawFor wsX8_numberOf := goodIn_r _ [37, 13, 38, 39, 40, 41, 42, 43, 44, 45, 46, 47, 48, 49, 50, 51, 52, 53, 54, 55, 56, 57, 58, 59, 60, 61, 62, 63, 64, 65, 66, 67, 68, 69, 70, 71, 72, 73, 74, 75, 76, 77] (by decide +kernel) (by decide +kernel)
set_option maxRecDepth 20000 in
theorem gX8_lawFor_X8_numberOf : GoodIn wsX8_lawFor (wsV RX8 340 RX8 yX8_numberOf wsX8_numberOf) := goodIn_app (goodIn_of _ (by decide +kernel)) ggX8_lawFor_X8_numberOf
set_option maxRecDepth 20000 in
theorem ggX8_dares_X8_good : GoodIn wsX8_dares wsX8_good := goodIn_r _ [7, 8, 2, 22, 23, 24, 25, 26, 27, 28, 29, 30, 31, 32, 33, 34, 35, 36, 37, 38, 39, 40, 41, 42, 43, 44, 45, 46, 47, 48, 49, 50, 51, 52, 53, 54, 55, 56, 57, 58, 59, 60, 61] (by decide +kernel) (by decide +kernel)
set_option maxRecDepth 20000 in
theorem gX8_dares_X8_good : GoodIn wsX8_dares (wsV RX8 160 RX8 yX8_good wsX8_good) := goodIn_app (goodIn_of _ (by decide +kernel)) ggX8_dares_X8_good
set_option maxRecDepth 20000 in
theorem ggX8_dares_X8_in : GoodIn wsX8_dares wsX8_in := goodIn_r _ [11] (by decide +kernel) (by decide +kernel)
set_option maxRecDepth 20000 in
theorem gX8_dares_X8_in : GoodIn wsX8_dares (va_wsS RX8 142 yX8_in wsX8_in) := goodIn_app (goodIn_of _ (by decide +kernel)) ggX8_dares_X8_in
set_option maxRecDepth 20000 in
theorem ggX8_dares_X8_why : GoodIn wsX8_dares wsX8_why := goodIn_r _ [15] (by decide +kernel) (by decide +kernel)
set_option maxRecDepth 20000 in
theorem gX8_dares_X8_why : GoodIn wsX8_dares (wsV RX8 290 RX8 yX8_why wsX8_why) := goodIn_app (goodIn_of _ (by decide +kernel)) ggX8_dares_X8_why
set_option maxRecDepth 20000 in
theorem ggX8_dares_X8_otherHas : GoodIn wsX8_dares wsX8_otherHas := goodIn_r _ [18] (by decide +kernel) (by decide +kernel)
set_option maxRecDepth 20000 in
theorem gX8_dares_X8_otherHas : GoodIn wsX8_dares (va_wsS RX8 352 yX8_otherHas wsX8_otherHas) := goodIn_app (goodIn_of _ (by decide +kernel)) ggX8_dares_X8_otherHas
set_option maxRecDepth 20000 in
theorem ggX8_dares_X8_figureHas : GoodIn wsX8_dares wsX8_figureHas := goodIn_r _ [21] (by decide +kernel) (by decide +kernel)
set_option maxRecDepth 20000 in
theorem gX8_dares_X8_figureHas : GoodIn wsX8_dares (va_wsS RX8 355 yX8_figureHas wsX8_figureHas) := goodIn_app (goodIn_of _ (by decide +kernel)) ggX8_dares_X8_figureHas
set_option maxRecDepth 20000 in
theorem ggX8_seekRests_X8_figureHas : GoodIn wsX8_seekRests wsX8_figureHas := goodIn_r _ [5] (by decide +kernel) (by decide +kernel)
set_option maxRecDepth 20000 in
theorem gX8_seekRests_X8_figureHas : GoodIn wsX8_seekRests (va_wsS RX8 355 yX8_figureHas wsX8_figureHas) := goodIn_app (goodIn_of _ (by decide +kernel)) ggX8_seekRests_X8_figureHas
set_option maxRecDepth 20000 in
theorem ggX8_seekRests_X8_otherHas : GoodIn wsX8_seekRests wsX8_otherHas := goodIn_r _ [8] (by decide +kernel) (by decide +kernel)
set_option maxRecDepth 20000 in
theorem gX8_seekRests_X8_otherHas : GoodIn wsX8_seekRests (va_wsS RX8 352 yX8_otherHas wsX8_otherHas) := goodIn_app (goodIn_of _ (by decide +kernel)) ggX8_seekRests_X8_otherHas
set_option maxRecDepth 20000 in
theorem ggX8_rests_X8_good : GoodIn wsX8_rests wsX8_good := goodIn_r _ [6, 7, 8, 31, 32, 33, 34, 35, 36, 37, 38, 39, 40, 41, 42, 43, 44, 45, 46, 47, 48, 49, 50, 51, 52, 53, 54, 55, 56, 57, 58, 59, 60, 61, 62, 63, 64, 65, 66, 67, 68, 69, 70] (by decide +kernel) (by decide +kernel)
set_option maxRecDepth 20000 in
theorem gX8_rests_X8_good : GoodIn wsX8_rests (wsV RX8 160 RX8 yX8_good wsX8_good) := goodIn_app (goodIn_of _ (by decide +kernel)) ggX8_rests_X8_good
set_option maxRecDepth 20000 in
theorem ggX8_rests_X8_in : GoodIn wsX8_rests wsX8_in := goodIn_r _ [11] (by decide +kernel) (by decide +kernel)
set_option maxRecDepth 20000 in
theorem gX8_rests_X8_in : GoodIn wsX8_rests (va_wsS RX8 142 yX8_in wsX8_in) := goodIn_app (goodIn_of _ (by decide +kernel)) ggX8_rests_X8_in
set_option maxRecDepth 20000 in
theorem ggX8_rests_X8_why : GoodIn wsX8_rests wsX8_why := goodIn_r _ [15] (by decide +kernel) (by decide +kernel)
set_option maxRecDepth 20000 in
theorem gX8_rests_X8_why : GoodIn wsX8_rests (wsV RX8 290 RX8 yX8_why wsX8_why) := goodIn_app (goodIn_of _ (by decide +kernel)) ggX8_rests_X8_why
set_option maxRecDepth 20000 in
theorem ggX8_rests_X8_no : GoodIn wsX8_rests wsX8_no := goodIn_r _ [19, 8, 31, 32, 33, 34, 35, 36, 37, 38, 39, 40, 41, 42, 43, 44, 45, 46, 47, 48, 49, 50, 51, 52, 53, 54, 55, 56, 57, 58, 59, 60, 61, 62, 63, 64, 65, 66, 67, 68, 69, 70] (by decide +kernel) (by decide +kernel)
set_option maxRecDepth 20000 in
theorem gX8_rests_X8_no : GoodIn wsX8_rests (wsV RX8 163 RX8 yX8_no wsX8_no) := goodIn_app (goodIn_of _ (by decide +kernel)) ggX8_rests_X8_no
set_option maxRecDepth 20000 in
theorem ggX8_rests_X8_seekRests : GoodIn wsX8_rests wsX8_seekRests := goodIn_r _ [23, 24, 25, 26, 5, 27, 28, 29, 30, 31, 32, 33, 34, 35, 36, 37, 38, 39, 40, 41, 42, 43, 44, 45, 46, 47, 48, 49, 50, 51, 52, 53, 54, 55, 56, 57, 58, 59, 60, 61, 62, 63, 64, 65, 66, 67, 68, 69, 70] (by decide +kernel) (by decide +kernel)
set_option maxRecDepth 20000 in
theorem gX8_rests_X8_seekRests : GoodIn wsX8_rests (wsV RX8 362 RX8 yX8_seekRests wsX8_seekRests) := goodIn_app (goodIn_of _ (by decide +kernel)) ggX8_rests_X8_seekRests
set_option maxRecDepth 20000 in
theorem ggX8_rest_X8_good : GoodIn wsX8_rest wsX8_good := goodIn_r _ [7, 8, 9, 31, 32, 33, 34, 35, 36, 37, 38, 39, 40, 41, 42, 43, 44, 45, 46, 47, 48, 49, 50, 51, 52, 53, 54, 55, 56, 57, 58, 59, 60, 61, 62, 63, 64, 65, 66, 67, 68, 69, 70] (by decide +kernel) (by decide +kernel)
set_option maxRecDepth 20000 in
theorem gX8_rest_X8_good : GoodIn wsX8_rest (wsV RX8 160 RX8 yX8_good wsX8_good) := goodIn_app (goodIn_of _ (by decide +kernel)) ggX8_rest_X8_good
set_option maxRecDepth 20000 in
theorem ggX8_rest_X8_in : GoodIn wsX8_rest wsX8_in := goodIn_r _ [12] (by decide +kernel) (by decide +kernel)
set_option maxRecDepth 20000 in
theorem gX8_rest_X8_in : GoodIn wsX8_rest (va_wsS RX8 142 yX8_in wsX8_in) := goodIn_app (goodIn_of _ (by decide +kernel)) ggX8_rest_X8_in
set_option maxRecDepth 20000 in
theorem ggX8_rest_X8_why : GoodIn wsX8_rest wsX8_why := goodIn_r _ [16] (by decide +kernel) (by decide +kernel)
set_option maxRecDepth 20000 in
theorem gX8_rest_X8_why : GoodIn wsX8_rest (wsV RX8 290 RX8 yX8_why wsX8_why) := goodIn_app (goodIn_of _ (by decide +kernel)) ggX8_rest_X8_why
set_option maxRecDepth 20000 in
theorem ggX8_rest_X8_no : GoodIn wsX8_rest wsX8_no := goodIn_r _ [20, 9, 31, 32, 33, 34, 35, 36, 37, 38, 39, 40, 41, 42, 43, 44, 45, 46, 47, 48, 49, 50, 51, 52, 53, 54, 55, 56, 57, 58, 59, 60, 61, 62, 63, 64, 65, 66, 67, 68, 69, 70] (by decide +kernel) (by decide +kernel)
set_option maxRecDepth 20000 in
theorem gX8_rest_X8_no : GoodIn wsX8_rest (wsV RX8 163 RX8 yX8_no wsX8_no) := goodIn_app (goodIn_of _ (by decide +kernel)) ggX8_rest_X8_no
set_option maxRecDepth 20000 in
theorem ggX8_rest_X8_seekRests : GoodIn wsX8_rest wsX8_seekRests := goodIn_r _ [24, 2, 25, 26, 6, 27, 28, 29, 30, 31, 32, 33, 34, 35, 36, 37, 38, 39, 40, 41, 42, 43, 44, 45, 46, 47, 48, 49, 50, 51, 52, 53, 54, 55, 56, 57, 58, 59, 60, 61, 62, 63, 64, 65, 66, 67, 68, 69, 70] (by decide +kernel) (by decide +kernel)
set_option maxRecDepth 20000 in
theorem gX8_rest_X8_seekRests : GoodIn wsX8_rest (wsV RX8 362 RX8 yX8_seekRests wsX8_seekRests) := goodIn_app (goodIn_of _ (by decide +kernel)) ggX8_rest_X8_seekRests
set_option maxRecDepth 20000 in
theorem ggX8_turnsOf_X8_goRound : GoodIn wsX8_turnsOf wsX8_goRound := goodIn_r _ [5, 6, 7, 8, 9, 10, 11, 12, 4, 13, 14, 19, 20, 21, 22, 23, 24, 25, 26, 27, 28, 29, 30, 31, 32, 33, 34, 35, 36, 37, 38, 39, 40, 41, 42, 43, 44, 45, 46, 47, 48, 49, 50, 51, 52, 53, 54, 55, 56, 57, 58] (by decide +kernel) (by decide +kernel)
set_option maxRecDepth 20000 in
theorem gX8_turnsOf_X8_goRound : GoodIn wsX8_turnsOf (wsV RX8 294 RX8 yX8_goRound wsX8_goRound) := goodIn_app (goodIn_of _ (by decide +kernel)) ggX8_turnsOf_X8_goRound
set_option maxRecDepth 20000 in
theorem ggX8_turnsOf_X8_turnAt : GoodIn wsX8_turnsOf wsX8_turnAt := goodIn_r _ [18, 8, 7, 9, 19, 20, 21, 22, 23, 24, 25, 26, 27, 28, 29, 30, 31, 32, 33, 34, 35, 36, 37, 38, 39, 40, 41, 42, 43, 44, 45, 46, 47, 48, 49, 50, 51, 52, 53, 54, 55, 56, 57, 58] (by decide +kernel) (by decide +kernel)
set_option maxRecDepth 20000 in
theorem gX8_turnsOf_X8_turnAt : GoodIn wsX8_turnsOf (wsV RX8 297 RX8 yX8_turnAt wsX8_turnAt) := goodIn_app (goodIn_of _ (by decide +kernel)) ggX8_turnsOf_X8_turnAt
set_option maxRecDepth 20000 in
theorem ggX8_odds_X8_good : GoodIn wsX8_odds wsX8_good := goodIn_r _ [7, 8, 9, 49, 50, 51, 52, 53, 54, 55, 56, 57, 58, 59, 60, 61, 62, 63, 64, 65, 66, 67, 68, 69, 70, 71, 72, 73, 74, 75, 76, 77, 78, 79, 80, 81, 82, 83, 84, 85, 86, 87, 88] (by decide +kernel) (by decide +kernel)
set_option maxRecDepth 20000 in
theorem gX8_odds_X8_good : GoodIn wsX8_odds (wsV RX8 160 RX8 yX8_good wsX8_good) := goodIn_app (goodIn_of _ (by decide +kernel)) ggX8_odds_X8_good
set_option maxRecDepth 20000 in
theorem ggX8_odds_X8_isFigure : GoodIn wsX8_odds wsX8_isFigure := goodIn_r _ [13, 14, 2, 15, 16, 6, 17, 49, 50, 51, 52, 53, 54, 55, 56, 57, 58, 59, 60, 61, 62, 63, 64, 65, 66, 67, 68, 69, 70, 71, 72, 73, 74, 75, 76, 77, 78, 79, 80, 81, 82, 83, 84, 85, 86, 87, 88] (by decide +kernel) (by decide +kernel)
set_option maxRecDepth 20000 in
theorem gX8_odds_X8_isFigure : GoodIn wsX8_odds (wsV RX8 277 RX8 yX8_isFigure wsX8_isFigure) := goodIn_app (goodIn_of _ (by decide +kernel)) ggX8_odds_X8_isFigure
set_option maxRecDepth 20000 in
theorem ggX8_odds_X8_in : GoodIn wsX8_odds wsX8_in := goodIn_r _ [17] (by decide +kernel) (by decide +kernel)
set_option maxRecDepth 20000 in
theorem gX8_odds_X8_in : GoodIn wsX8_odds (va_wsS RX8 142 yX8_in wsX8_in) := goodIn_app (goodIn_of _ (by decide +kernel)) ggX8_odds_X8_in
set_option maxRecDepth 20000 in
theorem ggX8_odds_X8_why : GoodIn wsX8_odds wsX8_why := goodIn_r _ [21] (by decide +kernel) (by decide +kernel)
set_option maxRecDepth 20000 in
theorem gX8_odds_X8_why : GoodIn wsX8_odds (wsV RX8 290 RX8 yX8_why wsX8_why) := goodIn_app (goodIn_of _ (by decide +kernel)) ggX8_odds_X8_why
set_option maxRecDepth 20000 in
theorem ggX8_odds_X8_no : GoodIn wsX8_odds wsX8_no := goodIn_r _ [25, 9, 49, 50, 51, 52, 53, 54, 55, 56, 57, 58, 59, 60, 61, 62, 63, 64, 65, 66, 67, 68, 69, 70, 71, 72, 73, 74, 75, 76, 77, 78, 79, 80, 81, 82, 83, 84, 85, 86, 87, 88] (by decide +kernel) (by decide +kernel)
set_option maxRecDepth 20000 in
theorem gX8_odds_X8_no : GoodIn wsX8_odds (wsV RX8 163 RX8 yX8_no wsX8_no) := goodIn_app (goodIn_of _ (by decide +kernel)) ggX8_odds_X8_no
set_option maxRecDepth 20000 in
theorem ggX8_odds_X8_turnsOf : GoodIn wsX8_odds wsX8_turnsOf := goodIn_r _ [29, 30, 31, 32, 6, 33, 34, 35, 36, 37, 38, 39, 40, 41, 2, 42, 43, 44, 45, 49, 50, 51, 52, 53, 54, 55, 56, 57, 58, 59, 60, 61, 62, 63, 64, 65, 66, 67, 68, 69, 70, 71, 72, 73, 74, 75, 76, 77, 78, 79, 80, 81, 82, 83, 84, 85, 86, 87, 88] (by decide +kernel) (by decide +kernel)
set_option maxRecDepth 20000 in
theorem gX8_odds_X8_turnsOf : GoodIn wsX8_odds (wsV RX8 365 RX8 yX8_turnsOf wsX8_turnsOf) := goodIn_app (goodIn_of _ (by decide +kernel)) ggX8_odds_X8_turnsOf
set_option maxRecDepth 20000 in
theorem ggX8_odds_X8_lowest : GoodIn wsX8_odds wsX8_lowest := goodIn_r _ [48] (by decide +kernel) (by decide +kernel)
set_option maxRecDepth 20000 in
theorem gX8_odds_X8_lowest : GoodIn wsX8_odds (va_wsS RX8 370 yX8_lowest wsX8_lowest) := goodIn_app (goodIn_of _ (by decide +kernel)) ggX8_odds_X8_lowest
set_option maxRecDepth 20000 in
theorem ggX8_mean_X8_good : GoodIn wsX8_mean wsX8_good := goodIn_r _ [7, 8, 9, 49, 50, 51, 52, 53, 54, 55, 56, 57, 58, 59, 60, 61, 62, 63, 64, 65, 66, 67, 68, 69, 70, 71, 72, 73, 74, 75, 76, 77, 78, 79, 80, 81, 82, 83, 84, 85, 86, 87, 88] (by decide +kernel) (by decide +kernel)
set_option maxRecDepth 20000 in
theorem gX8_mean_X8_good : GoodIn wsX8_mean (wsV RX8 160 RX8 yX8_good wsX8_good) := goodIn_app (goodIn_of _ (by decide +kernel)) ggX8_mean_X8_good
set_option maxRecDepth 20000 in
theorem ggX8_mean_X8_isFigure : GoodIn wsX8_mean wsX8_isFigure := goodIn_r _ [13, 14, 1, 15, 16, 6, 17, 49, 50, 51, 52, 53, 54, 55, 56, 57, 58, 59, 60, 61, 62, 63, 64, 65, 66, 67, 68, 69, 70, 71, 72, 73, 74, 75, 76, 77, 78, 79, 80, 81, 82, 83, 84, 85, 86, 87, 88] (by decide +kernel) (by decide +kernel)
set_option maxRecDepth 20000 in
theorem gX8_mean_X8_isFigure : GoodIn wsX8_mean (wsV RX8 277 RX8 yX8_isFigure wsX8_isFigure) := goodIn_app (goodIn_of _ (by decide +kernel)) ggX8_mean_X8_isFigure
set_option maxRecDepth 20000 in
theorem ggX8_mean_X8_in : GoodIn wsX8_mean wsX8_in := goodIn_r _ [17] (by decide +kernel) (by decide +kernel)
set_option maxRecDepth 20000 in
theorem gX8_mean_X8_in : GoodIn wsX8_mean (va_wsS RX8 142 yX8_in wsX8_in) := goodIn_app (goodIn_of _ (by decide +kernel)) ggX8_mean_X8_in
set_option maxRecDepth 20000 in
theorem ggX8_mean_X8_why : GoodIn wsX8_mean wsX8_why := goodIn_r _ [21] (by decide +kernel) (by decide +kernel)
set_option maxRecDepth 20000 in
theorem gX8_mean_X8_why : GoodIn wsX8_mean (wsV RX8 290 RX8 yX8_why wsX8_why) := goodIn_app (goodIn_of _ (by decide +kernel)) ggX8_mean_X8_why
set_option maxRecDepth 20000 in
theorem ggX8_mean_X8_no : GoodIn wsX8_mean wsX8_no := goodIn_r _ [25, 9, 49, 50, 51, 52, 53, 54, 55, 56, 57, 58, 59, 60, 61, 62, 63, 64, 65, 66, 67, 68, 69, 70, 71, 72, 73, 74, 75, 76, 77, 78, 79, 80, 81, 82, 83, 84, 85, 86, 87, 88] (by decide +kernel) (by decide +kernel)
set_option maxRecDepth 20000 in
theorem gX8_mean_X8_no : GoodIn wsX8_mean (wsV RX8 163 RX8 yX8_no wsX8_no) := goodIn_app (goodIn_of _ (by decide +kernel)) ggX8_mean_X8_no
set_option maxRecDepth 20000 in
theorem ggX8_mean_X8_turnsOf : GoodIn wsX8_mean wsX8_turnsOf := goodIn_r _ [29, 30, 31, 32, 6, 33, 34, 35, 36, 37, 38, 39, 40, 41, 1, 42, 43, 44, 45, 49, 50, 51, 52, 53, 54, 55, 56, 57, 58, 59, 60, 61, 62, 63, 64, 65, 66, 67, 68, 69, 70, 71, 72, 73, 74, 75, 76, 77, 78, 79, 80, 81, 82, 83, 84, 85, 86, 87, 88] (by decide +kernel) (by decide +kernel)
set_option maxRecDepth 20000 in
theorem gX8_mean_X8_turnsOf : GoodIn wsX8_mean (wsV RX8 365 RX8 yX8_turnsOf wsX8_turnsOf) := goodIn_app (goodIn_of _ (by decide +kernel)) ggX8_mean_X8_turnsOf
set_option maxRecDepth 20000 in
theorem ggX8_mean_X8_lowest : GoodIn wsX8_mean wsX8_lowest := goodIn_r _ [48] (by decide +kernel) (by decide +kernel)
set_option maxRecDepth 20000 in
theorem gX8_mean_X8_lowest : GoodIn wsX8_mean (va_wsS RX8 370 yX8_lowest wsX8_lowest) := goodIn_app (goodIn_of _ (by decide +kernel)) ggX8_mean_X8_lowest
set_option maxRecDepth 20000 in
theorem ggX8_drawWhy_X8_in : GoodIn wsX8_drawWhy wsX8_in := goodIn_r _ [9] (by decide +kernel) (by decide +kernel)
set_option maxRecDepth 20000 in
theorem gX8_drawWhy_X8_in : GoodIn wsX8_drawWhy (va_wsS RX8 142 yX8_in wsX8_in) := goodIn_app (goodIn_of _ (by decide +kernel)) ggX8_drawWhy_X8_in
set_option maxRecDepth 20000 in
theorem ggX8_drawWhy_X8_why : GoodIn wsX8_drawWhy wsX8_why := goodIn_r _ [13] (by decide +kernel) (by decide +kernel)
set_option maxRecDepth 20000 in
theorem gX8_drawWhy_X8_why : GoodIn wsX8_drawWhy (wsV RX8 290 RX8 yX8_why wsX8_why) := goodIn_app (goodIn_of _ (by decide +kernel)) ggX8_drawWhy_X8_why
set_option maxRecDepth 20000 in
theorem ggX8_drawWhy_X8_goRound : GoodIn wsX8_drawWhy wsX8_goRound := goodIn_r _ [17, 18, 19, 20, 21, 22, 23, 24, 8, 25, 5, 30, 31, 32, 33, 34, 35, 36, 37, 38, 39, 40, 41, 42, 43, 44, 45, 46, 47, 48, 49, 50, 51, 52, 53, 54, 55, 56, 57, 58, 59, 60, 61, 62, 63, 64, 65, 66, 67, 68, 69] (by decide +kernel) (by decide +kernel)
set_option maxRecDepth 20000 in
theorem gX8_drawWhy_X8_goRound : GoodIn wsX8_drawWhy (wsV RX8 294 RX8 yX8_goRound wsX8_goRound) := goodIn_app (goodIn_of _ (by decide +kernel)) ggX8_drawWhy_X8_goRound
set_option maxRecDepth 20000 in
theorem ggX8_drawWhy_X8_turnAt : GoodIn wsX8_drawWhy wsX8_turnAt := goodIn_r _ [29, 20, 19, 21, 30, 31, 32, 33, 34, 35, 36, 37, 38, 39, 40, 41, 42, 43, 44, 45, 46, 47, 48, 49, 50, 51, 52, 53, 54, 55, 56, 57, 58, 59, 60, 61, 62, 63, 64, 65, 66, 67, 68, 69] (by decide +kernel) (by decide +kernel)
set_option maxRecDepth 20000 in
theorem gX8_drawWhy_X8_turnAt : GoodIn wsX8_drawWhy (wsV RX8 297 RX8 yX8_turnAt wsX8_turnAt) := goodIn_app (goodIn_of _ (by decide +kernel)) ggX8_drawWhy_X8_turnAt
set_option maxRecDepth 20000 in
theorem ggX8_drawn_X8_good : GoodIn wsX8_drawn wsX8_good := goodIn_r _ [6, 7, 8, 49, 50, 51, 52, 53, 54, 55, 56, 57, 58, 59, 60, 61, 62, 63, 64, 65, 66, 67, 68, 69, 70, 71, 72, 73, 74, 75, 76, 77, 78, 79, 80, 81, 82, 83, 84, 85, 86, 87, 88] (by decide +kernel) (by decide +kernel)
set_option maxRecDepth 20000 in
theorem gX8_drawn_X8_good : GoodIn wsX8_drawn (wsV RX8 160 RX8 yX8_good wsX8_good) := goodIn_app (goodIn_of _ (by decide +kernel)) ggX8_drawn_X8_good
set_option maxRecDepth 20000 in
theorem ggX8_drawn_X8_isFigure : GoodIn wsX8_drawn wsX8_isFigure := goodIn_r _ [12, 13, 14, 15, 16, 5, 17, 49, 50, 51, 52, 53, 54, 55, 56, 57, 58, 59, 60, 61, 62, 63, 64, 65, 66, 67, 68, 69, 70, 71, 72, 73, 74, 75, 76, 77, 78, 79, 80, 81, 82, 83, 84, 85, 86, 87, 88] (by decide +kernel) (by decide +kernel)
set_option maxRecDepth 20000 in
theorem gX8_drawn_X8_isFigure : GoodIn wsX8_drawn (wsV RX8 277 RX8 yX8_isFigure wsX8_isFigure) := goodIn_app (goodIn_of _ (by decide +kernel)) ggX8_drawn_X8_isFigure
set_option maxRecDepth 20000 in
theorem ggX8_drawn_X8_drawWhy : GoodIn wsX8_drawn wsX8_drawWhy := goodIn_r _ [21, 22, 23, 1, 24, 14, 15, 16, 5, 17, 25, 26, 27, 28, 29, 30, 31, 32, 33, 34, 35, 36, 37, 38, 39, 40, 41, 42, 43, 44, 49, 50, 51, 52, 53, 54, 55, 56, 57, 58, 59, 60, 61, 62, 63, 64, 65, 66, 67, 68, 69, 70, 71, 72, 73, 74, 75, 76, 77, 78, 79, 80, 81, 82, 83, 84, 85, 86, 87, 88] (by decide +kernel) (by decide +kernel)
set_option maxRecDepth 20000 in
theorem gX8_drawn_X8_drawWhy : GoodIn wsX8_drawn (wsV RX8 382 RX8 yX8_drawWhy wsX8_drawWhy) := goodIn_app (goodIn_of _ (by decide +kernel)) ggX8_drawn_X8_drawWhy
set_option maxRecDepth 20000 in
theorem ggX8_drawn_X8_no : GoodIn wsX8_drawn wsX8_no := goodIn_r _ [48, 8, 49, 50, 51, 52, 53, 54, 55, 56, 57, 58, 59, 60, 61, 62, 63, 64, 65, 66, 67, 68, 69, 70, 71, 72, 73, 74, 75, 76, 77, 78, 79, 80, 81, 82, 83, 84, 85, 86, 87, 88] (by decide +kernel) (by decide +kernel)
set_option maxRecDepth 20000 in
theorem gX8_drawn_X8_no : GoodIn wsX8_drawn (wsV RX8 163 RX8 yX8_no wsX8_no) := goodIn_app (goodIn_of _ (by decide +kernel)) ggX8_drawn_X8_no
set_option maxRecDepth 20000 in
theorem ggX8_firstShut_X8_good : GoodIn wsX8_firstShut wsX8_good := goodIn_r _ [7, 8, 9, 45, 46, 47, 48, 49, 50, 51, 52, 53, 54, 55, 56, 57, 58, 59, 60, 61, 62, 63, 64, 65, 66, 67, 68, 69, 70, 71, 72, 73, 74, 75, 76, 77, 78, 79, 80, 81, 82, 83, 84] (by decide +kernel) (by decide +kernel)
set_option maxRecDepth 20000 in
theorem gX8_firstShut_X8_good : GoodIn wsX8_firstShut (wsV RX8 160 RX8 yX8_good wsX8_good) := goodIn_app (goodIn_of _ (by decide +kernel)) ggX8_firstShut_X8_good
set_option maxRecDepth 20000 in
theorem ggX8_firstShut_X8_drawWhy : GoodIn wsX8_firstShut wsX8_drawWhy := goodIn_r _ [13, 14, 2, 15, 16, 17, 18, 19, 6, 20, 21, 22, 23, 24, 25, 26, 27, 28, 29, 30, 31, 32, 33, 34, 35, 36, 37, 38, 39, 40, 45, 46, 47, 48, 49, 50, 51, 52, 53, 54, 55, 56, 57, 58, 59, 60, 61, 62, 63, 64, 65, 66, 67, 68, 69, 70, 71, 72, 73, 74, 75, 76, 77, 78, 79, 80, 81, 82, 83, 84] (by decide +kernel) (by decide +kernel)
set_option maxRecDepth 20000 in
theorem gX8_firstShut_X8_drawWhy : GoodIn wsX8_firstShut (wsV RX8 382 RX8 yX8_drawWhy wsX8_drawWhy) := goodIn_app (goodIn_of _ (by decide +kernel)) ggX8_firstShut_X8_drawWhy
set_option maxRecDepth 20000 in
theorem ggX8_firstShut_X8_no : GoodIn wsX8_firstShut wsX8_no := goodIn_r _ [44, 9, 45, 46, 47, 48, 49, 50, 51, 52, 53, 54, 55, 56, 57, 58, 59, 60, 61, 62, 63, 64, 65, 66, 67, 68, 69, 70, 71, 72, 73, 74, 75, 76, 77, 78, 79, 80, 81, 82, 83, 84] (by decide +kernel) (by decide +kernel)
set_option maxRecDepth 20000 in
theorem gX8_firstShut_X8_no : GoodIn wsX8_firstShut (wsV RX8 163 RX8 yX8_no wsX8_no) := goodIn_app (goodIn_of _ (by decide +kernel)) ggX8_firstShut_X8_no
set_option maxRecDepth 20000 in
theorem ggX8_note_X8_copy : GoodIn wsX8_note wsX8_copy := goodIn_r _ [7] (by decide +kernel) (by decide +kernel)
set_option maxRecDepth 20000 in
theorem gX8_note_X8_copy : GoodIn wsX8_note (va_wsS RX8 169 yX8_copy wsX8_copy) := goodIn_app (goodIn_of _ (by decide +kernel)) ggX8_note_X8_copy
set_option maxRecDepth 20000 in
theorem ggX8_go_X8_good : GoodIn wsX8_go wsX8_good := goodIn_r _ [7, 8, 9, 68, 69, 70, 71, 72, 73, 74, 75, 76, 77, 78, 79, 80, 81, 82, 83, 84, 85, 86, 87, 88, 89, 90, 91, 92, 93, 94, 95, 96, 97, 98, 99, 100, 101, 102, 103, 104, 105, 106, 107] (by decide +kernel) (by decide +kernel)
set_option maxRecDepth 20000 in
theorem gX8_go_X8_good : GoodIn wsX8_go (wsV RX8 160 RX8 yX8_good wsX8_good) := goodIn_app (goodIn_of _ (by decide +kernel)) ggX8_go_X8_good
set_option maxRecDepth 20000 in
theorem ggX8_go_X8_in : GoodIn wsX8_go wsX8_in := goodIn_r _ [12] (by decide +kernel) (by decide +kernel)
set_option maxRecDepth 20000 in
theorem gX8_go_X8_in : GoodIn wsX8_go (va_wsS RX8 142 yX8_in wsX8_in) := goodIn_app (goodIn_of _ (by decide +kernel)) ggX8_go_X8_in
set_option maxRecDepth 20000 in
theorem ggX8_go_X8_why : GoodIn wsX8_go wsX8_why := goodIn_r _ [16] (by decide +kernel) (by decide +kernel)
set_option maxRecDepth 20000 in
theorem gX8_go_X8_why : GoodIn wsX8_go (wsV RX8 290 RX8 yX8_why wsX8_why) := goodIn_app (goodIn_of _ (by decide +kernel)) ggX8_go_X8_why
set_option maxRecDepth 20000 in
theorem ggX8_go_X8_no : GoodIn wsX8_go wsX8_no := goodIn_r _ [20, 9, 68, 69, 70, 71, 72, 73, 74, 75, 76, 77, 78, 79, 80, 81, 82, 83, 84, 85, 86, 87, 88, 89, 90, 91, 92, 93, 94, 95, 96, 97, 98, 99, 100, 101, 102, 103, 104, 105, 106, 107] (by decide +kernel) (by decide +kernel)
set_option maxRecDepth 20000 in
theorem gX8_go_X8_no : GoodIn wsX8_go (wsV RX8 163 RX8 yX8_no wsX8_no) := goodIn_app (goodIn_of _ (by decide +kernel)) ggX8_go_X8_no
set_option maxRecDepth 20000 in
theorem ggX8_go_X8_note : GoodIn wsX8_go wsX8_note := goodIn_r _ [24, 25, 26, 2, 27, 28, 6, 29, 68, 69, 70, 71, 72, 73, 74, 75, 76, 77, 78, 79, 80, 81, 82, 83, 84, 85, 86, 87, 88, 89, 90, 91, 92, 93, 94, 95, 96, 97, 98, 99, 100, 101, 102, 103, 104, 105, 106, 107] (by decide +kernel) (by decide +kernel)
set_option maxRecDepth 20000 in
theorem gX8_go_X8_note : GoodIn wsX8_go (wsV RX8 386 RX8 yX8_note wsX8_note) := goodIn_app (goodIn_of _ (by decide +kernel)) ggX8_go_X8_note
set_option maxRecDepth 20000 in
theorem ggX8_go_X8_watchAsTold : GoodIn wsX8_go wsX8_watchAsTold := goodIn_r _ [33, 34, 35, 36, 37, 68, 69, 70, 71, 72, 73, 74, 75, 76, 77, 78, 79, 80, 81, 82, 83, 84, 85, 86, 87, 88, 89, 90, 91, 92, 93, 94, 95, 96, 97, 98, 99, 100, 101, 102, 103, 104, 105, 106, 107] (by decide +kernel) (by decide +kernel)
set_option maxRecDepth 20000 in
theorem gX8_go_X8_watchAsTold : GoodIn wsX8_go (wsV RX8 267 RX8 yX8_watchAsTold wsX8_watchAsTold) := goodIn_app (goodIn_of _ (by decide +kernel)) ggX8_go_X8_watchAsTold
set_option maxRecDepth 20000 in
theorem ggX8_go_X8_minuteOn : GoodIn wsX8_go wsX8_minuteOn := goodIn_r _ [41, 42, 34, 43, 44, 45, 46, 6, 47, 48, 49, 50, 51, 52, 53, 54, 55, 37, 56, 57, 58, 59, 36, 35, 60, 61, 62, 63, 64, 65, 66, 67, 68, 69, 70, 71, 72, 73, 74, 75, 76, 77, 78, 79, 80, 81, 82, 83, 84, 85, 86, 87, 88, 89, 90, 91, 92, 93, 94, 95, 96, 97, 98, 99, 100, 101, 102, 103, 104, 105, 106, 107] (by decide +kernel) (by decide +kernel)
set_option maxRecDepth 20000 in
theorem gX8_go_X8_minuteOn : GoodIn wsX8_go (wsV RX8 273 RX8 yX8_minuteOn wsX8_minuteOn) := goodIn_app (goodIn_of _ (by decide +kernel)) ggX8_go_X8_minuteOn
set_option maxRecDepth 20000 in
theorem ggX8_put_X8_good : GoodIn wsX8_put wsX8_good := goodIn_r _ [6, 7, 8, 34, 35, 36, 37, 38, 39, 40, 41, 42, 43, 44, 45, 46, 47, 48, 49, 50, 51, 52, 53, 54, 55, 56, 57, 58, 59, 60, 61, 62, 63, 64, 65, 66, 67, 68, 69, 70, 71, 72, 73] (by decide +kernel) (by decide +kernel)
set_option maxRecDepth 20000 in
theorem gX8_put_X8_good : GoodIn wsX8_put (wsV RX8 160 RX8 yX8_good wsX8_good) := goodIn_app (goodIn_of _ (by decide +kernel)) ggX8_put_X8_good
set_option maxRecDepth 20000 in
theorem ggX8_put_X8_isFigure : GoodIn wsX8_put wsX8_isFigure := goodIn_r _ [12, 13, 14, 15, 16, 5, 17, 34, 35, 36, 37, 38, 39, 40, 41, 42, 43, 44, 45, 46, 47, 48, 49, 50, 51, 52, 53, 54, 55, 56, 57, 58, 59, 60, 61, 62, 63, 64, 65, 66, 67, 68, 69, 70, 71, 72, 73] (by decide +kernel) (by decide +kernel)
set_option maxRecDepth 20000 in
theorem gX8_put_X8_isFigure : GoodIn wsX8_put (wsV RX8 277 RX8 yX8_isFigure wsX8_isFigure) := goodIn_app (goodIn_of _ (by decide +kernel)) ggX8_put_X8_isFigure
set_option maxRecDepth 20000 in
theorem ggX8_put_X8_no : GoodIn wsX8_put wsX8_no := goodIn_r _ [21, 8, 34, 35, 36, 37, 38, 39, 40, 41, 42, 43, 44, 45, 46, 47, 48, 49, 50, 51, 52, 53, 54, 55, 56, 57, 58, 59, 60, 61, 62, 63, 64, 65, 66, 67, 68, 69, 70, 71, 72, 73] (by decide +kernel) (by decide +kernel)
set_option maxRecDepth 20000 in
theorem gX8_put_X8_no : GoodIn wsX8_put (wsV RX8 163 RX8 yX8_no wsX8_no) := goodIn_app (goodIn_of _ (by decide +kernel)) ggX8_put_X8_no
set_option maxRecDepth 20000 in
theorem ggX8_put_X8_hasBit : GoodIn wsX8_put wsX8_hasBit := goodIn_r _ [24] (by decide +kernel) (by decide +kernel)
set_option maxRecDepth 20000 in
theorem gX8_put_X8_hasBit : GoodIn wsX8_put (va_wsS RX8 238 yX8_hasBit wsX8_hasBit) := goodIn_app (goodIn_of _ (by decide +kernel)) ggX8_put_X8_hasBit
set_option maxRecDepth 20000 in
theorem ggX8_put_X8_note : GoodIn wsX8_put wsX8_note := goodIn_r _ [28, 29, 30, 1, 31, 32, 5, 33, 34, 35, 36, 37, 38, 39, 40, 41, 42, 43, 44, 45, 46, 47, 48, 49, 50, 51, 52, 53, 54, 55, 56, 57, 58, 59, 60, 61, 62, 63, 64, 65, 66, 67, 68, 69, 70, 71, 72, 73] (by decide +kernel) (by decide +kernel)
set_option maxRecDepth 20000 in
theorem gX8_put_X8_note : GoodIn wsX8_put (wsV RX8 386 RX8 yX8_note wsX8_note) := goodIn_app (goodIn_of _ (by decide +kernel)) ggX8_put_X8_note
set_option maxRecDepth 20000 in
theorem ggX8_wind_X8_good : GoodIn wsX8_wind wsX8_good := goodIn_r _ [6, 7, 8, 31, 32, 33, 34, 35, 36, 37, 38, 39, 40, 41, 42, 43, 44, 45, 46, 47, 48, 49, 50, 51, 52, 53, 54, 55, 56, 57, 58, 59, 60, 61, 62, 63, 64, 65, 66, 67, 68, 69, 70] (by decide +kernel) (by decide +kernel)
set_option maxRecDepth 20000 in
theorem gX8_wind_X8_good : GoodIn wsX8_wind (wsV RX8 160 RX8 yX8_good wsX8_good) := goodIn_app (goodIn_of _ (by decide +kernel)) ggX8_wind_X8_good
set_option maxRecDepth 20000 in
theorem ggX8_wind_X8_isFigure : GoodIn wsX8_wind wsX8_isFigure := goodIn_r _ [12, 13, 14, 15, 16, 5, 17, 31, 32, 33, 34, 35, 36, 37, 38, 39, 40, 41, 42, 43, 44, 45, 46, 47, 48, 49, 50, 51, 52, 53, 54, 55, 56, 57, 58, 59, 60, 61, 62, 63, 64, 65, 66, 67, 68, 69, 70] (by decide +kernel) (by decide +kernel)
set_option maxRecDepth 20000 in
theorem gX8_wind_X8_isFigure : GoodIn wsX8_wind (wsV RX8 277 RX8 yX8_isFigure wsX8_isFigure) := goodIn_app (goodIn_of _ (by decide +kernel)) ggX8_wind_X8_isFigure
set_option maxRecDepth 20000 in
theorem ggX8_wind_X8_no : GoodIn wsX8_wind wsX8_no := goodIn_r _ [21, 8, 31, 32, 33, 34, 35, 36, 37, 38, 39, 40, 41, 42, 43, 44, 45, 46, 47, 48, 49, 50, 51, 52, 53, 54, 55, 56, 57, 58, 59, 60, 61, 62, 63, 64, 65, 66, 67, 68, 69, 70] (by decide +kernel) (by decide +kernel)
set_option maxRecDepth 20000 in
theorem gX8_wind_X8_no : GoodIn wsX8_wind (wsV RX8 163 RX8 yX8_no wsX8_no) := goodIn_app (goodIn_of _ (by decide +kernel)) ggX8_wind_X8_no
set_option maxRecDepth 20000 in
theorem ggX8_wind_X8_note : GoodIn wsX8_wind wsX8_note := goodIn_r _ [25, 26, 27, 1, 28, 29, 5, 30, 31, 32, 33, 34, 35, 36, 37, 38, 39, 40, 41, 42, 43, 44, 45, 46, 47, 48, 49, 50, 51, 52, 53, 54, 55, 56, 57, 58, 59, 60, 61, 62, 63, 64, 65, 66, 67, 68, 69, 70] (by decide +kernel) (by decide +kernel)
set_option maxRecDepth 20000 in
theorem gX8_wind_X8_note : GoodIn wsX8_wind (wsV RX8 386 RX8 yX8_note wsX8_note) := goodIn_app (goodIn_of _ (by decide +kernel)) ggX8_wind_X8_note
set_option maxRecDepth 20000 in
theorem ggX8_undo_X8_good : GoodIn wsX8_undo wsX8_good := goodIn_r _ [8, 9, 10, 18, 19, 20, 21, 22, 23, 24, 25, 26, 27, 28, 29, 30, 31, 32, 33, 34, 35, 36, 37, 38, 39, 40, 41, 42, 43, 44, 45, 46, 47, 48, 49, 50, 51, 52, 53, 54, 55, 56, 57] (by decide +kernel) (by decide +kernel)
set_option maxRecDepth 20000 in
theorem gX8_undo_X8_good : GoodIn wsX8_undo (wsV RX8 160 RX8 yX8_good wsX8_good) := goodIn_app (goodIn_of _ (by decide +kernel)) ggX8_undo_X8_good
set_option maxRecDepth 20000 in
theorem ggX8_undo_X8_isNot : GoodIn wsX8_undo wsX8_isNot := goodIn_r _ [14, 10, 18, 19, 20, 21, 22, 23, 24, 25, 26, 27, 28, 29, 30, 31, 32, 33, 34, 35, 36, 37, 38, 39, 40, 41, 42, 43, 44, 45, 46, 47, 48, 49, 50, 51, 52, 53, 54, 55, 56, 57] (by decide +kernel) (by decide +kernel)
set_option maxRecDepth 20000 in
theorem gX8_undo_X8_isNot : GoodIn wsX8_undo (wsV RX8 389 RX8 yX8_isNot wsX8_isNot) := goodIn_app (goodIn_of _ (by decide +kernel)) ggX8_undo_X8_isNot
set_option maxRecDepth 20000 in
theorem ggX8_undo_X8_copy : GoodIn wsX8_undo wsX8_copy := goodIn_r _ [17] (by decide +kernel) (by decide +kernel)
set_option maxRecDepth 20000 in
theorem gX8_undo_X8_copy : GoodIn wsX8_undo (va_wsS RX8 169 yX8_copy wsX8_copy) := goodIn_app (goodIn_of _ (by decide +kernel)) ggX8_undo_X8_copy
set_option maxRecDepth 20000 in
theorem ggX8_image_X8_good : GoodIn wsX8_image wsX8_good := goodIn_r _ [9, 10, 11, 19, 20, 21, 22, 23, 24, 25, 26, 27, 28, 29, 30, 31, 32, 33, 34, 35, 36, 37, 38, 39, 40, 41, 42, 43, 44, 45, 46, 47, 48, 49, 50, 51, 52, 53, 54, 55, 56, 57, 58] (by decide +kernel) (by decide +kernel)
set_option maxRecDepth 20000 in
theorem gX8_image_X8_good : GoodIn wsX8_image (wsV RX8 160 RX8 yX8_good wsX8_good) := goodIn_app (goodIn_of _ (by decide +kernel)) ggX8_image_X8_good
set_option maxRecDepth 20000 in
theorem ggX8_image_X8_no : GoodIn wsX8_image wsX8_no := goodIn_r _ [15, 11, 19, 20, 21, 22, 23, 24, 25, 26, 27, 28, 29, 30, 31, 32, 33, 34, 35, 36, 37, 38, 39, 40, 41, 42, 43, 44, 45, 46, 47, 48, 49, 50, 51, 52, 53, 54, 55, 56, 57, 58] (by decide +kernel) (by decide +kernel)
set_option maxRecDepth 20000 in
theorem gX8_image_X8_no : GoodIn wsX8_image (wsV RX8 163 RX8 yX8_no wsX8_no) := goodIn_app (goodIn_of _ (by decide +kernel)) ggX8_image_X8_no
set_option maxRecDepth 20000 in
theorem ggX8_image_X8_copy : GoodIn wsX8_image wsX8_copy := goodIn_r _ [18] (by decide +kernel) (by decide +kernel)
set_option maxRecDepth 20000 in
theorem gX8_image_X8_copy : GoodIn wsX8_image (va_wsS RX8 169 yX8_copy wsX8_copy) := goodIn_app (goodIn_of _ (by decide +kernel)) ggX8_image_X8_copy
set_option maxRecDepth 20000 in
theorem ggX8_back_X8_good : GoodIn wsX8_back wsX8_good := goodIn_r _ [9, 10, 11, 22, 23, 24, 25, 26, 27, 28, 29, 30, 31, 32, 33, 34, 35, 36, 37, 38, 39, 40, 41, 42, 43, 44, 45, 46, 47, 48, 49, 50, 51, 52, 53, 54, 55, 56, 57, 58, 59, 60, 61] (by decide +kernel) (by decide +kernel)
set_option maxRecDepth 20000 in
theorem gX8_back_X8_good : GoodIn wsX8_back (wsV RX8 160 RX8 yX8_good wsX8_good) := goodIn_app (goodIn_of _ (by decide +kernel)) ggX8_back_X8_good
set_option maxRecDepth 20000 in
theorem ggX8_back_X8_in : GoodIn wsX8_back wsX8_in := goodIn_r _ [14] (by decide +kernel) (by decide +kernel)
set_option maxRecDepth 20000 in
theorem gX8_back_X8_in : GoodIn wsX8_back (va_wsS RX8 142 yX8_in wsX8_in) := goodIn_app (goodIn_of _ (by decide +kernel)) ggX8_back_X8_in
set_option maxRecDepth 20000 in
theorem ggX8_back_X8_isNot : GoodIn wsX8_back wsX8_isNot := goodIn_r _ [18, 11, 22, 23, 24, 25, 26, 27, 28, 29, 30, 31, 32, 33, 34, 35, 36, 37, 38, 39, 40, 41, 42, 43, 44, 45, 46, 47, 48, 49, 50, 51, 52, 53, 54, 55, 56, 57, 58, 59, 60, 61] (by decide +kernel) (by decide +kernel)
set_option maxRecDepth 20000 in
theorem gX8_back_X8_isNot : GoodIn wsX8_back (wsV RX8 389 RX8 yX8_isNot wsX8_isNot) := goodIn_app (goodIn_of _ (by decide +kernel)) ggX8_back_X8_isNot
set_option maxRecDepth 20000 in
theorem ggX8_back_X8_copy : GoodIn wsX8_back wsX8_copy := goodIn_r _ [21] (by decide +kernel) (by decide +kernel)
set_option maxRecDepth 20000 in
theorem gX8_back_X8_copy : GoodIn wsX8_back (va_wsS RX8 169 yX8_copy wsX8_copy) := goodIn_app (goodIn_of _ (by decide +kernel)) ggX8_back_X8_copy
set_option maxRecDepth 20000 in
theorem ggX8_size_X8_in : GoodIn wsX8_size wsX8_in := goodIn_r _ [11] (by decide +kernel) (by decide +kernel)
set_option maxRecDepth 20000 in
theorem gX8_size_X8_in : GoodIn wsX8_size (va_wsS RX8 142 yX8_in wsX8_in) := goodIn_app (goodIn_of _ (by decide +kernel)) ggX8_size_X8_in
set_option maxRecDepth 20000 in
theorem ggJ0_length_8abf5_J0_coder_7d493 : GoodIn wsJ0_length_8abf5 wsJ0_coder_7d493 := goodIn_r _ [6, 7, 8] (by decide +kernel) (by decide +kernel)
set_option maxRecDepth 20000 in
theorem gJ0_length_8abf5_J0_coder_7d493 : GoodIn wsJ0_length_8abf5 (wsV RJ0 335 RJ0 yJ0_coder_7d493 wsJ0_coder_7d493) := goodIn_app (goodIn_of _ (by decide +kernel)) ggJ0_length_8abf5_J0_coder_7d493
set_option maxRecDepth 20000 in
theorem ggJ0_charAt_5068e_J0_isLatin1_aae02 : GoodIn wsJ0_charAt_5068e wsJ0_isLatin1_aae02 := goodIn_r _ [6, 7, 8] (by decide +kernel) (by decide +kernel)
set_option maxRecDepth 20000 in
theorem gJ0_charAt_5068e_J0_isLatin1_aae02 : GoodIn wsJ0_charAt_5068e (wsV RJ0 492 RJ0 yJ0_isLatin1_aae02 wsJ0_isLatin1_aae02) := goodIn_app (goodIn_of _ (by decide +kernel)) ggJ0_charAt_5068e_J0_isLatin1_aae02
set_option maxRecDepth 20000 in
theorem ggJ0_charAt_5068e_J1_charAt_3b067 : GoodIn wsJ0_charAt_5068e wsJ1_charAt_3b067 := goodIn_r _ [12, 13, 14, 5, 15, 16, 17, 18, 19, 20] (by decide +kernel) (by decide +kernel)
set_option maxRecDepth 20000 in
theorem gJ0_charAt_5068e_J1_charAt_3b067 : GoodIn wsJ0_charAt_5068e (va_wsS RJ0 495 yJ1_charAt_3b067 wsJ1_charAt_3b067) := goodIn_app (goodIn_of _ (by decide +kernel)) ggJ0_charAt_5068e_J1_charAt_3b067
set_option maxRecDepth 20000 in
theorem ggJ0_charAt_5068e_J2_charAt_3b067 : GoodIn wsJ0_charAt_5068e wsJ2_charAt_3b067 := goodIn_r _ [24, 25, 26, 23, 27, 28, 29, 30, 31, 14, 5, 15, 16, 17, 18, 19, 20, 32, 33, 34, 35, 36, 37] (by decide +kernel) (by decide +kernel)
set_option maxRecDepth 20000 in
theorem gJ0_charAt_5068e_J2_charAt_3b067 : GoodIn wsJ0_charAt_5068e (va_wsS RJ0 498 yJ2_charAt_3b067 wsJ2_charAt_3b067) := goodIn_app (goodIn_of _ (by decide +kernel)) ggJ0_charAt_5068e_J2_charAt_3b067
set_option maxRecDepth 20000 in
theorem ggJ0_checkIndex_df160_J3_checkIndex_8e157 : GoodIn wsJ0_checkIndex_df160 wsJ3_checkIndex_8e157 := goodIn_r _ [5] (by decide +kernel) (by decide +kernel)
set_option maxRecDepth 20000 in
theorem gJ0_checkIndex_df160_J3_checkIndex_8e157 : GoodIn wsJ0_checkIndex_df160 (va_wsS RJ0 1059 yJ3_checkIndex_8e157 wsJ3_checkIndex_8e157) := goodIn_app (goodIn_of _ (by decide +kernel)) ggJ0_checkIndex_df160_J3_checkIndex_8e157
