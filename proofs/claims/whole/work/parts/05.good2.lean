set_option maxRecDepth 20000 in
theorem ggX10_worth_X10_lowest : GoodIn wsX10_worth wsX10_lowest := goodIn_r _ [94] (by decide +kernel) (by decide +kernel)
set_option maxRecDepth 20000 in
theorem gX10_worth_X10_lowest : GoodIn wsX10_worth (va_wsS RX10 229 yX10_lowest wsX10_lowest) := goodIn_app (goodIn_of _ (by decide +kernel)) ggX10_worth_X10_lowest
set_option maxRecDepth 20000 in
theorem ggX10_likeliest_X6_thinkOfOne : GoodIn wsX10_likeliest wsX6_thinkOfOne := goodIn_r _ [6, 7, 8, 9, 10, 11, 12, 13, 14, 15, 16, 5, 17, 18, 19, 20, 21, 22, 23, 24, 25, 26, 27, 28, 29, 30, 31, 32, 33, 34, 35, 36, 37, 38, 39, 40, 41, 42, 43, 44, 45, 46, 47, 48, 49, 50, 51, 52, 53, 54, 55, 56, 57, 58, 72, 73, 74, 75, 76, 77, 78, 79, 80, 81, 82, 83, 84, 85, 86, 87, 88, 89, 90, 91, 92, 93, 94, 95, 96, 97, 98, 99, 100, 101, 102, 103, 104, 105, 106, 107, 108, 109, 110, 111, 112, 113, 114, 115, 116] (by decide +kernel) (by decide +kernel)
set_option maxRecDepth 20000 in
theorem gX10_likeliest_X6_thinkOfOne : GoodIn wsX10_likeliest (wsV RX10 213 RX6 yX6_thinkOfOne wsX6_thinkOfOne) := goodIn_app (goodIn_of _ (by decide +kernel)) ggX10_likeliest_X6_thinkOfOne
set_option maxRecDepth 20000 in
theorem ggX10_likeliest_X6_most : GoodIn wsX10_likeliest wsX6_most := goodIn_r _ [62, 9, 11, 72, 73, 74, 75, 76, 77, 78, 79, 80, 81, 82, 83, 84] (by decide +kernel) (by decide +kernel)
set_option maxRecDepth 20000 in
theorem gX10_likeliest_X6_most : GoodIn wsX10_likeliest (wsV RX10 248 RX6 yX6_most wsX6_most) := goodIn_app (goodIn_of _ (by decide +kernel)) ggX10_likeliest_X6_most
set_option maxRecDepth 20000 in
theorem ggX10_lacks_X6_nodesThatFit : GoodIn wsX10_lacks wsX6_nodesThatFit := goodIn_r _ [6, 7, 8, 9, 10, 11, 12, 13, 14, 15, 16, 17, 18, 19, 20, 21, 22, 23, 5, 24, 25, 26, 27, 28, 29, 30, 31, 32, 33, 34, 35, 36, 37, 38, 39, 40, 41, 42, 43, 44, 45, 46, 47, 48, 49, 50, 51, 52, 53, 54, 64, 65, 66, 67, 68, 69, 70, 71, 72, 73, 74, 75, 76, 77, 78, 79, 80, 81, 82, 83, 84, 85, 86, 87, 88, 89, 90, 91, 92, 93, 94, 95, 96, 97, 98, 99, 100, 101, 102, 103, 104, 105] (by decide +kernel) (by decide +kernel)
set_option maxRecDepth 20000 in
theorem gX10_lacks_X6_nodesThatFit : GoodIn wsX10_lacks (wsV RX10 251 RX6 yX6_nodesThatFit wsX6_nodesThatFit) := goodIn_app (goodIn_of _ (by decide +kernel)) ggX10_lacks_X6_nodesThatFit
set_option maxRecDepth 20000 in
theorem ggX10_fewest_X10_isPart : GoodIn wsX10_fewest wsX10_isPart := goodIn_r _ [6] (by decide +kernel) (by decide +kernel)
set_option maxRecDepth 20000 in
theorem gX10_fewest_X10_isPart : GoodIn wsX10_fewest (va_wsS RX10 168 yX10_isPart wsX10_isPart) := goodIn_app (goodIn_of _ (by decide +kernel)) ggX10_fewest_X10_isPart
set_option maxRecDepth 20000 in
theorem ggX10_fewest_X2_solve : GoodIn wsX10_fewest wsX2_solve := goodIn_r _ [11, 12, 13, 14, 15, 16, 17, 10, 18, 19, 20, 21, 22, 23, 24, 25, 26, 27, 28, 29, 30, 31, 32, 33, 34, 35, 36, 37, 38, 39, 40, 41, 42, 43, 44, 45, 46, 47, 48, 49, 50, 51, 52, 53, 54, 55, 56, 57, 58, 59, 60, 61, 62, 63, 64, 65, 66, 67, 68, 5, 69, 70, 71, 72, 73, 74, 75, 76, 77, 91, 92, 93, 94, 95, 96, 97, 98, 99, 100, 101, 102, 103, 104, 105, 106, 107, 108, 109, 110, 111, 112, 113, 114, 115] (by decide +kernel) (by decide +kernel)
set_option maxRecDepth 20000 in
theorem gX10_fewest_X2_solve : GoodIn wsX10_fewest (wsV RX10 255 RX2 yX2_solve wsX2_solve) := goodIn_app (goodIn_of _ (by decide +kernel)) ggX10_fewest_X2_solve
set_option maxRecDepth 20000 in
theorem ggX10_fewest_X2_firstOfFewest : GoodIn wsX10_fewest wsX2_firstOfFewest := goodIn_r _ [81, 13, 14, 31, 32, 33, 10, 34, 50, 51, 52, 53, 54, 55, 41, 56, 91, 92, 93, 94, 95, 96, 97, 98, 99] (by decide +kernel) (by decide +kernel)
set_option maxRecDepth 20000 in
theorem gX10_fewest_X2_firstOfFewest : GoodIn wsX10_fewest (wsV RX10 264 RX2 yX2_firstOfFewest wsX2_firstOfFewest) := goodIn_app (goodIn_of _ (by decide +kernel)) ggX10_fewest_X2_firstOfFewest
set_option maxRecDepth 20000 in
theorem ggX10_mean_X10_isPart : GoodIn wsX10_mean wsX10_isPart := goodIn_r _ [6] (by decide +kernel) (by decide +kernel)
set_option maxRecDepth 20000 in
theorem gX10_mean_X10_isPart : GoodIn wsX10_mean (va_wsS RX10 168 yX10_isPart wsX10_isPart) := goodIn_app (goodIn_of _ (by decide +kernel)) ggX10_mean_X10_isPart
set_option maxRecDepth 20000 in
theorem ggX10_mean_X2_solve : GoodIn wsX10_mean wsX2_solve := goodIn_r _ [11, 12, 13, 14, 15, 16, 17, 10, 18, 19, 20, 21, 22, 23, 24, 25, 26, 27, 28, 29, 30, 31, 32, 33, 34, 35, 36, 37, 38, 39, 40, 41, 42, 43, 44, 45, 46, 47, 48, 49, 50, 51, 52, 53, 54, 55, 56, 57, 58, 59, 60, 61, 62, 63, 64, 65, 66, 67, 68, 5, 69, 70, 71, 72, 73, 74, 75, 76, 77, 94, 95, 96, 97, 98, 99, 91, 92, 93, 100, 101, 102, 103, 104, 105, 106, 107, 108, 109, 110, 111, 112, 113, 114, 115] (by decide +kernel) (by decide +kernel)
set_option maxRecDepth 20000 in
theorem gX10_mean_X2_solve : GoodIn wsX10_mean (wsV RX10 255 RX2 yX2_solve wsX2_solve) := goodIn_app (goodIn_of _ (by decide +kernel)) ggX10_mean_X2_solve
set_option maxRecDepth 20000 in
theorem ggX10_mean_X9_likelyOf : GoodIn wsX10_mean wsX9_likelyOf := goodIn_r _ [66, 67, 68, 5, 69, 91, 92, 93, 100, 101, 102, 103, 104, 105, 106, 107, 108, 109, 110, 111, 112, 113, 114, 115] (by decide +kernel) (by decide +kernel)
set_option maxRecDepth 20000 in
theorem gX10_mean_X9_likelyOf : GoodIn wsX10_mean (wsV RX10 270 RX9 yX9_likelyOf wsX9_likelyOf) := goodIn_app (goodIn_of _ (by decide +kernel)) ggX10_mean_X9_likelyOf
set_option maxRecDepth 20000 in
theorem ggX10_mean_X10_lowest : GoodIn wsX10_mean wsX10_lowest := goodIn_r _ [81] (by decide +kernel) (by decide +kernel)
set_option maxRecDepth 20000 in
theorem gX10_mean_X10_lowest : GoodIn wsX10_mean (va_wsS RX10 229 yX10_lowest wsX10_lowest) := goodIn_app (goodIn_of _ (by decide +kernel)) ggX10_mean_X10_lowest
set_option maxRecDepth 20000 in
theorem ggX10_soon_X10_isThere : GoodIn wsX10_soon wsX10_isThere := goodIn_r _ [7, 8, 9, 10, 6, 11, 92, 93, 94, 95, 96, 97, 98, 99, 100, 110, 111, 112, 113, 114, 115, 116, 117, 118, 119, 120, 121, 122, 123, 124, 125] (by decide +kernel) (by decide +kernel)
set_option maxRecDepth 20000 in
theorem gX10_soon_X10_isThere : GoodIn wsX10_soon (wsV RX10 112 RX10 yX10_isThere wsX10_isThere) := goodIn_app (goodIn_of _ (by decide +kernel)) ggX10_soon_X10_isThere
set_option maxRecDepth 20000 in
theorem ggX10_soon_X10_isPart : GoodIn wsX10_soon wsX10_isPart := goodIn_r _ [14] (by decide +kernel) (by decide +kernel)
set_option maxRecDepth 20000 in
theorem gX10_soon_X10_isPart : GoodIn wsX10_soon (va_wsS RX10 168 yX10_isPart wsX10_isPart) := goodIn_app (goodIn_of _ (by decide +kernel)) ggX10_soon_X10_isPart
set_option maxRecDepth 20000 in
theorem ggX10_soon_X2_solve : GoodIn wsX10_soon wsX2_solve := goodIn_r _ [19, 20, 21, 22, 23, 24, 25, 18, 26, 27, 28, 29, 30, 31, 32, 33, 34, 35, 36, 37, 38, 39, 40, 41, 42, 43, 44, 45, 46, 47, 48, 49, 50, 51, 52, 53, 54, 55, 56, 57, 58, 59, 60, 61, 62, 63, 64, 65, 66, 67, 68, 69, 70, 71, 72, 73, 74, 75, 10, 6, 11, 76, 77, 78, 79, 80, 81, 82, 83, 101, 102, 103, 104, 105, 106, 107, 108, 109, 110, 111, 112, 113, 114, 115, 116, 117, 118, 119, 120, 121, 122, 123, 124, 125] (by decide +kernel) (by decide +kernel)
set_option maxRecDepth 20000 in
theorem gX10_soon_X2_solve : GoodIn wsX10_soon (wsV RX10 255 RX2 yX2_solve wsX2_solve) := goodIn_app (goodIn_of _ (by decide +kernel)) ggX10_soon_X2_solve
set_option maxRecDepth 20000 in
theorem ggX10_soon_X2_nextLid : GoodIn wsX10_soon wsX2_nextLid := goodIn_r _ [87, 21, 29, 39, 40, 41, 18, 42, 88, 89, 90, 73, 91, 75, 65, 66, 67, 68, 69, 62, 63, 49, 64, 101, 102, 103, 104, 105, 106, 107, 108, 109, 110, 111, 112, 113, 114, 115, 116, 117, 118, 119, 120, 121, 122, 123, 124, 125] (by decide +kernel) (by decide +kernel)
set_option maxRecDepth 20000 in
theorem gX10_soon_X2_nextLid : GoodIn wsX10_soon (wsV RX10 276 RX2 yX2_nextLid wsX2_nextLid) := goodIn_app (goodIn_of _ (by decide +kernel)) ggX10_soon_X2_nextLid
set_option maxRecDepth 20000 in
theorem ggX10_row_X10_areLids : GoodIn wsX10_row wsX10_areLids := goodIn_r _ [6, 7, 8, 9, 10, 11, 12, 13, 5, 14, 15, 16, 17, 18, 58, 59, 60, 61, 62, 63, 64, 65, 66, 67, 68, 69, 70, 71, 72, 73, 74, 75, 76, 77, 78, 79, 80, 81, 82] (by decide +kernel) (by decide +kernel)
set_option maxRecDepth 20000 in
theorem gX10_row_X10_areLids : GoodIn wsX10_row (wsV RX10 279 RX10 yX10_areLids wsX10_areLids) := goodIn_app (goodIn_of _ (by decide +kernel)) ggX10_row_X10_areLids
set_option maxRecDepth 20000 in
theorem ggX10_row_X10_isPart : GoodIn wsX10_row wsX10_isPart := goodIn_r _ [21] (by decide +kernel) (by decide +kernel)
set_option maxRecDepth 20000 in
theorem gX10_row_X10_isPart : GoodIn wsX10_row (va_wsS RX10 168 yX10_isPart wsX10_isPart) := goodIn_app (goodIn_of _ (by decide +kernel)) ggX10_row_X10_isPart
set_option maxRecDepth 20000 in
theorem ggX10_row_X10_isShyness : GoodIn wsX10_row wsX10_isShyness := goodIn_r _ [24] (by decide +kernel) (by decide +kernel)
set_option maxRecDepth 20000 in
theorem gX10_row_X10_isShyness : GoodIn wsX10_row (va_wsS RX10 283 yX10_isShyness wsX10_isShyness) := goodIn_app (goodIn_of _ (by decide +kernel)) ggX10_row_X10_isShyness
set_option maxRecDepth 20000 in
theorem ggX10_row_X3_kindsIn : GoodIn wsX10_row wsX3_kindsIn := goodIn_r _ [28, 29, 30, 31, 9, 32, 33, 34, 17, 5, 18, 35, 36, 37, 38, 39, 8, 10, 40, 41, 42, 43, 44, 45, 46, 47, 48, 49, 83, 84, 85, 86, 87, 88, 89, 67, 68, 69, 70, 71, 72, 73, 74, 75, 76, 77, 78, 79, 80, 81, 82] (by decide +kernel) (by decide +kernel)
set_option maxRecDepth 20000 in
theorem gX10_row_X3_kindsIn : GoodIn wsX10_row (wsV RX10 286 RX3 yX3_kindsIn wsX3_kindsIn) := goodIn_app (goodIn_of _ (by decide +kernel)) ggX10_row_X3_kindsIn
set_option maxRecDepth 20000 in
theorem ggX10_row_X3_largestIn : GoodIn wsX10_row wsX3_largestIn := goodIn_r _ [53, 54, 55, 56, 57, 29, 30, 31, 9, 32, 33, 34, 17, 5, 18, 35, 36, 37, 38, 39, 8, 10, 40, 41, 42, 43, 44, 45, 46, 47, 48, 49, 83, 84, 85, 86, 87, 88, 89, 67, 68, 69, 70, 71, 72, 73, 74, 75, 76, 77, 78, 79, 80, 81, 82] (by decide +kernel) (by decide +kernel)
set_option maxRecDepth 20000 in
theorem gX10_row_X3_largestIn : GoodIn wsX10_row (wsV RX10 290 RX3 yX3_largestIn wsX3_largestIn) := goodIn_app (goodIn_of _ (by decide +kernel)) ggX10_row_X3_largestIn
set_option maxRecDepth 20000 in
theorem ggX10_answers_X10_isSource : GoodIn wsX10_answers wsX10_isSource := goodIn_r _ [6, 7, 8, 9, 10, 5, 11, 12, 13, 14, 15, 39, 40, 41, 42, 43, 44, 45, 46, 47, 48, 49, 50, 51, 52, 53, 54, 55, 56, 57, 58, 59, 60, 61, 62, 63, 64, 65, 66] (by decide +kernel) (by decide +kernel)
set_option maxRecDepth 20000 in
theorem gX10_answers_X10_isSource : GoodIn wsX10_answers (wsV RX10 206 RX10 yX10_isSource wsX10_isSource) := goodIn_app (goodIn_of _ (by decide +kernel)) ggX10_answers_X10_isSource
set_option maxRecDepth 20000 in
theorem ggX10_answers_X10_areLids : GoodIn wsX10_answers wsX10_areLids := goodIn_r _ [19, 20, 21, 22, 23, 8, 9, 10, 5, 11, 12, 13, 14, 15, 39, 40, 41, 42, 43, 44, 45, 46, 47, 51, 52, 53, 54, 55, 56, 57, 58, 59, 60, 61, 62, 63, 64, 65, 66] (by decide +kernel) (by decide +kernel)
set_option maxRecDepth 20000 in
theorem gX10_answers_X10_areLids : GoodIn wsX10_answers (wsV RX10 279 RX10 yX10_areLids wsX10_areLids) := goodIn_app (goodIn_of _ (by decide +kernel)) ggX10_answers_X10_areLids
set_option maxRecDepth 20000 in
theorem ggX10_answers_X10_isShyness : GoodIn wsX10_answers wsX10_isShyness := goodIn_r _ [26] (by decide +kernel) (by decide +kernel)
set_option maxRecDepth 20000 in
theorem gX10_answers_X10_isShyness : GoodIn wsX10_answers (va_wsS RX10 283 yX10_isShyness wsX10_isShyness) := goodIn_app (goodIn_of _ (by decide +kernel)) ggX10_answers_X10_isShyness
set_option maxRecDepth 20000 in
theorem ggX10_answers_X3_answersOf : GoodIn wsX10_answers wsX3_answersOf := goodIn_r _ [30, 31, 32, 21, 22, 23, 14, 5, 15, 33, 34, 35, 36, 37, 38, 67, 68, 69, 70, 48, 49, 50, 51, 52, 53, 54, 55, 56, 57, 58, 59, 60, 61, 62, 63, 64, 65, 66] (by decide +kernel) (by decide +kernel)
set_option maxRecDepth 20000 in
theorem gX10_answers_X3_answersOf : GoodIn wsX10_answers (wsV RX10 293 RX3 yX3_answersOf wsX3_answersOf) := goodIn_app (goodIn_of _ (by decide +kernel)) ggX10_answers_X3_answersOf
set_option maxRecDepth 20000 in
theorem ggX10_hang_X3_fewestToHang : GoodIn wsX10_hang wsX3_fewestToHang := goodIn_r _ [6, 7, 8, 9, 10, 5, 11, 12, 13, 14, 15, 16, 17, 18, 19, 20, 21, 22, 23, 24, 25, 26, 27, 28, 29, 30, 31, 32, 33, 34, 35, 36, 37, 47, 48, 49, 50, 51, 52, 53, 54, 55, 56, 57, 58, 59, 60, 61, 62, 63, 64, 65, 66, 67, 68, 69] (by decide +kernel) (by decide +kernel)
set_option maxRecDepth 20000 in
theorem gX10_hang_X3_fewestToHang : GoodIn wsX10_hang (wsV RX10 297 RX3 yX3_fewestToHang wsX3_fewestToHang) := goodIn_app (goodIn_of _ (by decide +kernel)) ggX10_hang_X3_fewestToHang
set_option maxRecDepth 20000 in
theorem ggX10_day_X10_isCup : GoodIn wsX10_day wsX10_isCup := goodIn_r _ [7] (by decide +kernel) (by decide +kernel)
set_option maxRecDepth 20000 in
theorem gX10_day_X10_isCup : GoodIn wsX10_day (va_wsS RX10 143 yX10_isCup wsX10_isCup) := goodIn_app (goodIn_of _ (by decide +kernel)) ggX10_day_X10_isCup
set_option maxRecDepth 20000 in
theorem ggX10_day_X0_go : GoodIn wsX10_day wsX0_go := goodIn_r _ [12, 13, 14, 15, 16, 17, 18, 19, 20, 21, 22, 23, 24, 25, 26, 27, 28, 29, 30, 31, 32, 33, 34, 35, 36, 37, 38, 39, 40, 41, 42, 43, 44, 45, 46, 47, 48, 49, 50, 51, 52, 53, 54, 55, 56, 57, 58, 59, 60, 61, 62, 63, 64, 65, 66, 67, 68, 69, 70, 71, 72, 73, 74, 75, 76, 77, 78, 79, 80, 81, 82, 6, 83, 84, 85, 86, 87, 88, 89, 90, 91, 92, 93, 94, 11, 95, 96, 97, 98, 99, 100, 101, 102, 103, 104, 105, 106, 107, 108, 109, 110, 111, 112, 113, 114, 115, 116, 117, 118, 119, 132, 133, 134, 135, 136, 137, 138, 139, 129, 130, 131, 140, 141, 142, 143, 144, 145, 146, 147, 148, 149, 150, 151, 152, 153, 154, 155, 156, 157, 158, 159, 160, 161] (by decide +kernel) (by decide +kernel)
set_option maxRecDepth 20000 in
theorem gX10_day_X0_go : GoodIn wsX10_day (wsV RX10 301 RX0 yX0_go wsX0_go) := goodIn_app (goodIn_of _ (by decide +kernel)) ggX10_day_X0_go
set_option maxRecDepth 20000 in
theorem ggX10_count_J6_bitCount_0f7a4 : GoodIn wsX10_count wsJ6_bitCount_0f7a4 := goodIn_r _ [8, 9, 10, 11] (by decide +kernel) (by decide +kernel)
set_option maxRecDepth 20000 in
theorem gX10_count_J6_bitCount_0f7a4 : GoodIn wsX10_count (va_wsS RX10 319 yJ6_bitCount_0f7a4 wsJ6_bitCount_0f7a4) := goodIn_app (goodIn_of _ (by decide +kernel)) ggX10_count_J6_bitCount_0f7a4
set_option maxRecDepth 20000 in
theorem ggX10_count_X9_allPaces : GoodIn wsX10_count wsX9_allPaces := goodIn_r _ [16, 17, 18, 19, 20, 53, 54, 55, 30, 31, 32, 33, 34, 35, 36, 37, 38, 39, 40, 41, 42, 43, 44, 45] (by decide +kernel) (by decide +kernel)
set_option maxRecDepth 20000 in
theorem gX10_count_X9_allPaces : GoodIn wsX10_count (wsV RX10 330 RX9 yX9_allPaces wsX9_allPaces) := goodIn_app (goodIn_of _ (by decide +kernel)) ggX10_count_X9_allPaces
set_option maxRecDepth 20000 in
theorem ggX10_lookAgain_X9_renew : GoodIn wsX10_lookAgain wsX9_renew := goodIn_r _ [9, 10, 11, 12, 13, 14, 15, 16, 17, 18, 8, 19, 64, 65, 66, 67, 68, 69, 70, 71, 72, 73, 74, 75, 76, 77, 78, 79, 80, 81, 82] (by decide +kernel) (by decide +kernel)
set_option maxRecDepth 20000 in
theorem gX10_lookAgain_X9_renew : GoodIn wsX10_lookAgain (wsV RX10 333 RX9 yX9_renew wsX9_renew) := goodIn_app (goodIn_of _ (by decide +kernel)) ggX10_lookAgain_X9_renew
set_option maxRecDepth 20000 in
theorem ggX10_lookAgain_X8_renew : GoodIn wsX10_lookAgain wsX8_renew := goodIn_r _ [24, 25, 26, 27, 28, 29, 30, 31, 23, 32, 13, 14, 15, 33, 34, 35, 36, 37, 38, 39, 40, 41, 83, 84, 85, 86, 64, 65, 66, 67, 68, 69, 70, 71, 72, 73, 74, 75, 76, 77, 78, 79, 80, 81, 82, 87, 88, 89, 90] (by decide +kernel) (by decide +kernel)
set_option maxRecDepth 20000 in
theorem gX10_lookAgain_X8_renew : GoodIn wsX10_lookAgain (wsV RX10 336 RX8 yX8_renew wsX8_renew) := goodIn_app (goodIn_of _ (by decide +kernel)) ggX10_lookAgain_X8_renew
set_option maxRecDepth 20000 in
theorem ggX10_lookAgain_X6_doubt : GoodIn wsX10_lookAgain wsX6_doubt := goodIn_r _ [46, 47, 48, 91, 92, 93, 94, 95, 96, 97, 98, 99, 100, 101, 102, 103] (by decide +kernel) (by decide +kernel)
set_option maxRecDepth 20000 in
theorem gX10_lookAgain_X6_doubt : GoodIn wsX10_lookAgain (wsV RX10 337 RX6 yX6_doubt wsX6_doubt) := goodIn_app (goodIn_of _ (by decide +kernel)) ggX10_lookAgain_X6_doubt
set_option maxRecDepth 20000 in
theorem ggX10_lookAgain_X2_doubt : GoodIn wsX10_lookAgain wsX2_doubt := goodIn_r _ [53, 54, 104, 105, 106, 107, 108, 109] (by decide +kernel) (by decide +kernel)
set_option maxRecDepth 20000 in
theorem gX10_lookAgain_X2_doubt : GoodIn wsX10_lookAgain (wsV RX10 340 RX2 yX2_doubt wsX2_doubt) := goodIn_app (goodIn_of _ (by decide +kernel)) ggX10_lookAgain_X2_doubt
set_option maxRecDepth 20000 in
theorem ggX10_isThere_X10_has : GoodIn wsX10_isThere wsX10_has := goodIn_r _ [5] (by decide +kernel) (by decide +kernel)
set_option maxRecDepth 20000 in
theorem gX10_isThere_X10_has : GoodIn wsX10_isThere (va_wsS RX10 341 yX10_has wsX10_has) := goodIn_app (goodIn_of _ (by decide +kernel)) ggX10_isThere_X10_has
set_option maxRecDepth 20000 in
theorem ggX10_isSource_X10_isThere : GoodIn wsX10_isSource wsX10_isThere := goodIn_r _ [6, 7, 8, 9, 5, 10, 11, 12, 13, 14, 15, 16, 17, 18, 19, 23, 24, 25, 26, 27, 28, 29, 30, 31, 32, 33, 34, 35, 36, 37, 38] (by decide +kernel) (by decide +kernel)
set_option maxRecDepth 20000 in
theorem gX10_isSource_X10_isThere : GoodIn wsX10_isSource (wsV RX10 112 RX10 yX10_isThere wsX10_isThere) := goodIn_app (goodIn_of _ (by decide +kernel)) ggX10_isSource_X10_isThere
set_option maxRecDepth 20000 in
theorem ggX10_isSource_X10_has : GoodIn wsX10_isSource wsX10_has := goodIn_r _ [10] (by decide +kernel) (by decide +kernel)
set_option maxRecDepth 20000 in
theorem gX10_isSource_X10_has : GoodIn wsX10_isSource (va_wsS RX10 341 yX10_has wsX10_has) := goodIn_app (goodIn_of _ (by decide +kernel)) ggX10_isSource_X10_has
set_option maxRecDepth 20000 in
theorem ggX10_areLids_X3_lidOf : GoodIn wsX10_areLids wsX3_lidOf := goodIn_r _ [4] (by decide +kernel) (by decide +kernel)
set_option maxRecDepth 20000 in
theorem gX10_areLids_X3_lidOf : GoodIn wsX10_areLids (va_wsS RX10 344 yX3_lidOf wsX3_lidOf) := goodIn_app (goodIn_of _ (by decide +kernel)) ggX10_areLids_X3_lidOf
set_option maxRecDepth 20000 in
theorem ggX10_areLids_X10_isThere : GoodIn wsX10_areLids wsX10_isThere := goodIn_r _ [9, 10, 11, 12, 8, 13, 14, 15, 16, 17, 18, 19, 20, 21, 22, 23, 24, 25, 26, 27, 28, 29, 30, 31, 32, 33, 34, 35, 36, 37, 38] (by decide +kernel) (by decide +kernel)
set_option maxRecDepth 20000 in
theorem gX10_areLids_X10_isThere : GoodIn wsX10_areLids (wsV RX10 112 RX10 yX10_isThere wsX10_isThere) := goodIn_app (goodIn_of _ (by decide +kernel)) ggX10_areLids_X10_isThere
set_option maxRecDepth 20000 in
theorem ggX10_canFill_X10_isMinute : GoodIn wsX10_canFill wsX10_isMinute := goodIn_r _ [5] (by decide +kernel) (by decide +kernel)
set_option maxRecDepth 20000 in
theorem gX10_canFill_X10_isMinute : GoodIn wsX10_canFill (va_wsS RX10 165 yX10_isMinute wsX10_isMinute) := goodIn_app (goodIn_of _ (by decide +kernel)) ggX10_canFill_X10_isMinute
set_option maxRecDepth 20000 in
theorem ggX11_isNode_X11_in : GoodIn wsX11_isNode wsX11_in := goodIn_r _ [6] (by decide +kernel) (by decide +kernel)
set_option maxRecDepth 20000 in
theorem gX11_isNode_X11_in : GoodIn wsX11_isNode (va_wsS RX11 83 yX11_in wsX11_in) := goodIn_app (goodIn_of _ (by decide +kernel)) ggX11_isNode_X11_in
set_option maxRecDepth 20000 in
theorem ggX11_isNode_X11_has : GoodIn wsX11_isNode wsX11_has := goodIn_r _ [9] (by decide +kernel) (by decide +kernel)
set_option maxRecDepth 20000 in
theorem gX11_isNode_X11_has : GoodIn wsX11_isNode (va_wsS RX11 87 yX11_has wsX11_has) := goodIn_app (goodIn_of _ (by decide +kernel)) ggX11_isNode_X11_has
set_option maxRecDepth 20000 in
theorem ggX11_write_X11_in : GoodIn wsX11_write wsX11_in := goodIn_r _ [8] (by decide +kernel) (by decide +kernel)
set_option maxRecDepth 20000 in
theorem gX11_write_X11_in : GoodIn wsX11_write (va_wsS RX11 83 yX11_in wsX11_in) := goodIn_app (goodIn_of _ (by decide +kernel)) ggX11_write_X11_in
set_option maxRecDepth 20000 in
theorem ggX11_token_X11_sort : GoodIn wsX11_token wsX11_sort := goodIn_r _ [9] (by decide +kernel) (by decide +kernel)
set_option maxRecDepth 20000 in
theorem gX11_token_X11_sort : GoodIn wsX11_token (va_wsS RX11 104 yX11_sort wsX11_sort) := goodIn_app (goodIn_of _ (by decide +kernel)) ggX11_token_X11_sort
set_option maxRecDepth 20000 in
theorem ggX11_reads_X11_sort : GoodIn wsX11_reads wsX11_sort := goodIn_r _ [10] (by decide +kernel) (by decide +kernel)
set_option maxRecDepth 20000 in
theorem gX11_reads_X11_sort : GoodIn wsX11_reads (va_wsS RX11 104 yX11_sort wsX11_sort) := goodIn_app (goodIn_of _ (by decide +kernel)) ggX11_reads_X11_sort
set_option maxRecDepth 20000 in
theorem ggX11_reads_X11_in : GoodIn wsX11_reads wsX11_in := goodIn_r _ [13] (by decide +kernel) (by decide +kernel)
set_option maxRecDepth 20000 in
theorem gX11_reads_X11_in : GoodIn wsX11_reads (va_wsS RX11 83 yX11_in wsX11_in) := goodIn_app (goodIn_of _ (by decide +kernel)) ggX11_reads_X11_in
set_option maxRecDepth 20000 in
theorem ggX11_reads_X11_token : GoodIn wsX11_reads wsX11_token := goodIn_r _ [17, 18, 2, 3, 1, 4, 7, 8, 9, 10, 19, 20, 21, 22, 23, 24, 25, 26, 27, 28, 29, 30, 31, 32, 33, 34, 35, 36, 37, 38, 39, 40, 41, 42, 43, 44, 45, 46, 47, 48, 49, 50] (by decide +kernel) (by decide +kernel)
set_option maxRecDepth 20000 in
theorem gX11_reads_X11_token : GoodIn wsX11_reads (wsV RX11 114 RX11 yX11_token wsX11_token) := goodIn_app (goodIn_of _ (by decide +kernel)) ggX11_reads_X11_token
set_option maxRecDepth 20000 in
theorem ggX11_readsRest_X11_reads : GoodIn wsX11_readsRest wsX11_reads := goodIn_r _ [7, 8, 9, 10, 11, 2, 1, 12, 13, 6, 14, 15, 16, 17, 18, 19, 20, 21, 22, 23, 24, 25, 26, 27, 28, 29, 30, 31, 32, 33, 34, 35, 36, 37, 38, 39, 40, 41, 42, 43, 44, 45, 46, 47, 48, 49, 50, 51, 52, 53, 54] (by decide +kernel) (by decide +kernel)
set_option maxRecDepth 20000 in
theorem gX11_readsRest_X11_reads : GoodIn wsX11_readsRest (wsV RX11 117 RX11 yX11_reads wsX11_reads) := goodIn_app (goodIn_of _ (by decide +kernel)) ggX11_readsRest_X11_reads
set_option maxRecDepth 20000 in
theorem ggX11_readsLine_X11_isWord : GoodIn wsX11_readsLine wsX11_isWord := goodIn_r _ [14, 15, 16, 17, 38, 39, 40, 41, 42, 43, 44, 45, 46, 47, 48, 49, 50, 51, 52, 53, 54, 55, 56, 57, 58, 59, 60, 61, 62, 63, 64, 65, 66, 67, 68, 69] (by decide +kernel) (by decide +kernel)
set_option maxRecDepth 20000 in
theorem gX11_readsLine_X11_isWord : GoodIn wsX11_readsLine (wsV RX11 122 RX11 yX11_isWord wsX11_isWord) := goodIn_app (goodIn_of _ (by decide +kernel)) ggX11_readsLine_X11_isWord
set_option maxRecDepth 20000 in
theorem ggX11_readsLine_X11_token : GoodIn wsX11_readsLine wsX11_token := goodIn_r _ [21, 22, 23, 17, 16, 15, 24, 25, 13, 26, 38, 39, 40, 41, 42, 43, 44, 45, 46, 47, 48, 49, 50, 51, 52, 53, 54, 55, 56, 57, 58, 59, 60, 61, 62, 63, 64, 65, 66, 67, 68, 69] (by decide +kernel) (by decide +kernel)
set_option maxRecDepth 20000 in
theorem gX11_readsLine_X11_token : GoodIn wsX11_readsLine (wsV RX11 114 RX11 yX11_token wsX11_token) := goodIn_app (goodIn_of _ (by decide +kernel)) ggX11_readsLine_X11_token
set_option maxRecDepth 20000 in
theorem ggX11_readsLine_X11_readsRest : GoodIn wsX11_readsLine wsX11_readsRest := goodIn_r _ [30, 9, 8, 31, 32, 33, 13, 34, 16, 23, 17, 15, 24, 25, 26, 35, 36, 37, 18, 19, 20, 21, 22, 38, 39, 40, 41, 42, 43, 44, 45, 46, 47, 48, 49, 50, 51, 52, 53, 54, 55, 56, 57, 58, 59, 60, 61, 62, 63, 64, 65, 66, 67, 68, 69] (by decide +kernel) (by decide +kernel)
set_option maxRecDepth 20000 in
theorem gX11_readsLine_X11_readsRest : GoodIn wsX11_readsLine (wsV RX11 131 RX11 yX11_readsRest wsX11_readsRest) := goodIn_app (goodIn_of _ (by decide +kernel)) ggX11_readsLine_X11_readsRest
set_option maxRecDepth 20000 in
theorem ggX11_fault_X11_token : GoodIn wsX11_fault wsX11_token := goodIn_r _ [11, 1, 4, 6, 3, 5, 12, 13, 10, 14, 42, 43, 44, 45, 46, 47, 48, 49, 50, 51, 52, 53, 54, 55, 56, 57, 58, 59, 60, 61, 62, 63, 64, 65, 66, 67, 68, 69, 70, 71, 72, 73] (by decide +kernel) (by decide +kernel)
set_option maxRecDepth 20000 in
theorem gX11_fault_X11_token : GoodIn wsX11_fault (wsV RX11 114 RX11 yX11_token wsX11_token) := goodIn_app (goodIn_of _ (by decide +kernel)) ggX11_fault_X11_token
set_option maxRecDepth 20000 in
theorem ggX11_fault_X11_readsLine : GoodIn wsX11_fault wsX11_readsLine := goodIn_r _ [18, 19, 20, 21, 22, 23, 24, 25, 26, 2, 27, 28, 29, 10, 30, 5, 3, 6, 7, 8, 9, 11, 1, 4, 12, 13, 14, 31, 32, 33, 34, 35, 36, 37, 38, 39, 40, 41, 42, 43, 44, 45, 46, 47, 48, 49, 50, 51, 52, 53, 54, 55, 56, 57, 58, 59, 60, 61, 62, 63, 64, 65, 66, 67, 68, 69, 70, 71, 72, 73] (by decide +kernel) (by decide +kernel)
set_option maxRecDepth 20000 in
theorem gX11_fault_X11_readsLine : GoodIn wsX11_fault (wsV RX11 135 RX11 yX11_readsLine wsX11_readsLine) := goodIn_app (goodIn_of _ (by decide +kernel)) ggX11_fault_X11_readsLine
set_option maxRecDepth 20000 in
theorem ggX11_run_X11_has : GoodIn wsX11_run wsX11_has := goodIn_r _ [17] (by decide +kernel) (by decide +kernel)
set_option maxRecDepth 20000 in
theorem gX11_run_X11_has : GoodIn wsX11_run (va_wsS RX11 87 yX11_has wsX11_has) := goodIn_app (goodIn_of _ (by decide +kernel)) ggX11_run_X11_has
set_option maxRecDepth 20000 in
theorem ggX11_run_X11_lay : GoodIn wsX11_run wsX11_lay := goodIn_r _ [21, 22, 23, 24, 25, 2, 26, 27, 28, 29, 30, 31, 32, 33, 34, 35, 36, 37, 38, 39, 40, 41, 42, 43, 44, 45, 46, 47, 48, 49, 50, 51, 52, 53, 54, 55, 56, 57] (by decide +kernel) (by decide +kernel)
set_option maxRecDepth 20000 in
theorem gX11_run_X11_lay : GoodIn wsX11_run (wsV RX11 139 RX11 yX11_lay wsX11_lay) := goodIn_app (goodIn_of _ (by decide +kernel)) ggX11_run_X11_lay
set_option maxRecDepth 20000 in
theorem ggX11_town_X11_fault : GoodIn wsX11_town wsX11_fault := goodIn_r _ [7, 8, 1, 9, 2, 10, 11, 12, 13, 14, 6, 15, 16, 17, 18, 19, 20, 21, 22, 23, 24, 25, 26, 27, 28, 29, 30, 31, 32, 33, 34, 35, 36, 37, 38, 39, 40, 41, 42, 43, 44, 45, 73, 74, 75, 76, 77, 78, 79, 80, 81, 82, 83, 84, 85, 86, 87, 88, 89, 90, 91, 92, 93, 94, 95, 96, 97, 98, 99, 100, 101, 102, 103, 104] (by decide +kernel) (by decide +kernel)
set_option maxRecDepth 20000 in
theorem gX11_town_X11_fault : GoodIn wsX11_town (wsV RX11 149 RX11 yX11_fault wsX11_fault) := goodIn_app (goodIn_of _ (by decide +kernel)) ggX11_town_X11_fault
set_option maxRecDepth 20000 in
theorem ggX11_town_X11_run : GoodIn wsX11_town wsX11_run := goodIn_r _ [49, 30, 50, 51, 52, 53, 54, 55, 56, 57, 58, 59, 60, 61, 62, 63, 6, 64, 65, 66, 67, 68, 69, 70, 71, 72, 73, 74, 75, 76, 77, 78, 79, 80, 81, 82, 83, 84, 85, 86, 87, 88, 89, 90, 91, 92, 93, 94, 95, 96, 97, 98, 99, 100, 101, 102, 103, 104] (by decide +kernel) (by decide +kernel)
set_option maxRecDepth 20000 in
theorem gX11_town_X11_run : GoodIn wsX11_town (wsV RX11 153 RX11 yX11_run wsX11_run) := goodIn_app (goodIn_of _ (by decide +kernel)) ggX11_town_X11_run
set_option maxRecDepth 20000 in
theorem ggX11_of_X11_isNode : GoodIn wsX11_of wsX11_isNode := goodIn_r _ [14, 15, 16, 17, 18, 13, 19, 20, 21, 22, 23, 24, 25, 26, 27, 28, 29, 30, 31, 32, 33, 34, 35, 36, 37, 38, 39, 40, 41, 42, 43, 44, 45, 46, 47, 48, 49, 50, 51, 52, 53, 54] (by decide +kernel) (by decide +kernel)
set_option maxRecDepth 20000 in
theorem gX11_of_X11_isNode : GoodIn wsX11_of (wsV RX11 157 RX11 yX11_isNode wsX11_isNode) := goodIn_app (goodIn_of _ (by decide +kernel)) ggX11_of_X11_isNode
set_option maxRecDepth 20000 in
theorem ggX11_isCup_X11_in : GoodIn wsX11_isCup wsX11_in := goodIn_r _ [5] (by decide +kernel) (by decide +kernel)
set_option maxRecDepth 20000 in
theorem gX11_isCup_X11_in : GoodIn wsX11_isCup (va_wsS RX11 83 yX11_in wsX11_in) := goodIn_app (goodIn_of _ (by decide +kernel)) ggX11_isCup_X11_in
set_option maxRecDepth 20000 in
theorem ggX11_cup_X11_isCup : GoodIn wsX11_cup wsX11_isCup := goodIn_r _ [7, 8, 9, 10, 6, 11] (by decide +kernel) (by decide +kernel)
set_option maxRecDepth 20000 in
theorem gX11_cup_X11_isCup : GoodIn wsX11_cup (va_wsS RX11 162 yX11_isCup wsX11_isCup) := goodIn_app (goodIn_of _ (by decide +kernel)) ggX11_cup_X11_isCup
set_option maxRecDepth 20000 in
theorem ggX11_aboveOf_X11_has : GoodIn wsX11_aboveOf wsX11_has := goodIn_r _ [5] (by decide +kernel) (by decide +kernel)
set_option maxRecDepth 20000 in
theorem gX11_aboveOf_X11_has : GoodIn wsX11_aboveOf (va_wsS RX11 87 yX11_has wsX11_has) := goodIn_app (goodIn_of _ (by decide +kernel)) ggX11_aboveOf_X11_has
set_option maxRecDepth 20000 in
theorem ggX11_aboveOf_X11_wayOf : GoodIn wsX11_aboveOf wsX11_wayOf := goodIn_r _ [9, 10, 11, 12, 13, 14, 15, 16, 17, 18, 19, 20, 21, 22, 23, 24, 25, 26, 27, 28, 29, 30, 31, 32, 33, 34, 35, 36, 37, 38, 39, 40, 41, 42] (by decide +kernel) (by decide +kernel)
set_option maxRecDepth 20000 in
theorem gX11_aboveOf_X11_wayOf : GoodIn wsX11_aboveOf (wsV RX11 165 RX11 yX11_wayOf wsX11_wayOf) := goodIn_app (goodIn_of _ (by decide +kernel)) ggX11_aboveOf_X11_wayOf
set_option maxRecDepth 20000 in
theorem ggX11_above_X11_isNode : GoodIn wsX11_above wsX11_isNode := goodIn_r _ [5, 6, 7, 8, 9, 4, 10, 11, 12, 13, 23, 24, 25, 26, 27, 28, 29, 30, 31, 32, 33, 34, 35, 36, 37, 38, 39, 40, 41, 42, 43, 44, 45, 46, 47, 48, 49, 50, 51, 52, 53, 54] (by decide +kernel) (by decide +kernel)
set_option maxRecDepth 20000 in
theorem gX11_above_X11_isNode : GoodIn wsX11_above (wsV RX11 157 RX11 yX11_isNode wsX11_isNode) := goodIn_app (goodIn_of _ (by decide +kernel)) ggX11_above_X11_isNode
set_option maxRecDepth 20000 in
theorem ggX11_above_X11_aboveOf : GoodIn wsX11_above wsX11_aboveOf := goodIn_r _ [17, 7, 11, 12, 4, 13, 18, 19, 20, 21, 22, 23, 24, 25, 26, 27, 28, 29, 30, 31, 32, 33, 34, 35, 36, 37, 38, 39, 40, 41, 42, 43, 44, 45, 46, 47, 48, 49, 50, 51, 52, 53, 54] (by decide +kernel) (by decide +kernel)
set_option maxRecDepth 20000 in
theorem gX11_above_X11_aboveOf : GoodIn wsX11_above (wsV RX11 168 RX11 yX11_aboveOf wsX11_aboveOf) := goodIn_app (goodIn_of _ (by decide +kernel)) ggX11_above_X11_aboveOf
set_option maxRecDepth 20000 in
theorem ggX11_walkOf_X11_wayOf : GoodIn wsX11_walkOf wsX11_wayOf := goodIn_r _ [6, 7, 11, 12, 13, 14, 15, 16, 17, 18, 19, 20, 21, 22, 23, 24, 25, 26, 27, 28, 29, 30, 31, 32, 33, 34, 35, 36, 37, 38, 39, 40, 41, 42] (by decide +kernel) (by decide +kernel)
set_option maxRecDepth 20000 in
theorem gX11_walkOf_X11_wayOf : GoodIn wsX11_walkOf (wsV RX11 165 RX11 yX11_wayOf wsX11_wayOf) := goodIn_app (goodIn_of _ (by decide +kernel)) ggX11_walkOf_X11_wayOf
set_option maxRecDepth 20000 in
theorem ggX11_walkOf_X11_has : GoodIn wsX11_walkOf wsX11_has := goodIn_r _ [10] (by decide +kernel) (by decide +kernel)
set_option maxRecDepth 20000 in
theorem gX11_walkOf_X11_has : GoodIn wsX11_walkOf (va_wsS RX11 87 yX11_has wsX11_has) := goodIn_app (goodIn_of _ (by decide +kernel)) ggX11_walkOf_X11_has
set_option maxRecDepth 20000 in
theorem ggX11_walk_X11_isNode : GoodIn wsX11_walk wsX11_isNode := goodIn_r _ [5, 6, 7, 8, 9, 4, 10, 11, 12, 13, 24, 25, 26, 27, 28, 29, 30, 31, 32, 33, 34, 35, 36, 37, 38, 39, 40, 41, 42, 43, 44, 45, 46, 47, 48, 49, 50, 51, 52, 53, 54, 55] (by decide +kernel) (by decide +kernel)
set_option maxRecDepth 20000 in
theorem gX11_walk_X11_isNode : GoodIn wsX11_walk (wsV RX11 157 RX11 yX11_isNode wsX11_isNode) := goodIn_app (goodIn_of _ (by decide +kernel)) ggX11_walk_X11_isNode
set_option maxRecDepth 20000 in
theorem ggX11_walk_X11_walkOf : GoodIn wsX11_walk wsX11_walkOf := goodIn_r _ [17, 18, 19, 20, 21, 4, 22, 23, 11, 12, 13, 24, 25, 26, 27, 28, 29, 30, 31, 32, 33, 34, 35, 36, 37, 38, 39, 40, 41, 42, 43, 44, 45, 46, 47, 48, 49, 50, 51, 52, 53, 54, 55] (by decide +kernel) (by decide +kernel)
set_option maxRecDepth 20000 in
theorem gX11_walk_X11_walkOf : GoodIn wsX11_walk (wsV RX11 171 RX11 yX11_walkOf wsX11_walkOf) := goodIn_app (goodIn_of _ (by decide +kernel)) ggX11_walk_X11_walkOf
set_option maxRecDepth 20000 in
theorem ggX11_flowOf_X11_aboveOf : GoodIn wsX11_flowOf wsX11_aboveOf := goodIn_r _ [7, 8, 9, 10, 6, 11, 12, 13, 14, 15, 16, 17, 18, 19, 20, 21, 22, 23, 24, 25, 26, 27, 28, 29, 30, 31, 32, 33, 34, 35, 36, 37, 38, 39, 40, 41, 42, 43, 44, 45, 46, 47, 48] (by decide +kernel) (by decide +kernel)
set_option maxRecDepth 20000 in
theorem gX11_flowOf_X11_aboveOf : GoodIn wsX11_flowOf (wsV RX11 168 RX11 yX11_aboveOf wsX11_aboveOf) := goodIn_app (goodIn_of _ (by decide +kernel)) ggX11_flowOf_X11_aboveOf
set_option maxRecDepth 20000 in
theorem ggX11_flowOf_X11_has : GoodIn wsX11_flowOf wsX11_has := goodIn_r _ [11] (by decide +kernel) (by decide +kernel)
set_option maxRecDepth 20000 in
theorem gX11_flowOf_X11_has : GoodIn wsX11_flowOf (va_wsS RX11 87 yX11_has wsX11_has) := goodIn_app (goodIn_of _ (by decide +kernel)) ggX11_flowOf_X11_has
set_option maxRecDepth 20000 in
theorem ggX11_flow_X11_isNode : GoodIn wsX11_flow wsX11_isNode := goodIn_r _ [6, 7, 8, 9, 10, 5, 11, 12, 13, 14, 30, 31, 32, 33, 34, 35, 36, 37, 38, 39, 40, 41, 42, 43, 44, 45, 46, 47, 48, 49, 50, 51, 52, 53, 54, 55, 56, 57, 58, 59, 60, 61] (by decide +kernel) (by decide +kernel)
set_option maxRecDepth 20000 in
theorem gX11_flow_X11_isNode : GoodIn wsX11_flow (wsV RX11 157 RX11 yX11_isNode wsX11_isNode) := goodIn_app (goodIn_of _ (by decide +kernel)) ggX11_flow_X11_isNode
set_option maxRecDepth 20000 in
theorem ggX11_flow_X11_in : GoodIn wsX11_flow wsX11_in := goodIn_r _ [11] (by decide +kernel) (by decide +kernel)
set_option maxRecDepth 20000 in
theorem gX11_flow_X11_in : GoodIn wsX11_flow (va_wsS RX11 83 yX11_in wsX11_in) := goodIn_app (goodIn_of _ (by decide +kernel)) ggX11_flow_X11_in
set_option maxRecDepth 20000 in
theorem ggX11_flow_X11_flowOf : GoodIn wsX11_flow wsX11_flowOf := goodIn_r _ [18, 19, 20, 21, 22, 23, 5, 24, 8, 12, 13, 14, 25, 26, 27, 28, 29, 30, 31, 32, 33, 34, 35, 36, 37, 38, 39, 40, 41, 42, 43, 44, 45, 46, 47, 48, 49, 50, 51, 52, 53, 54, 55, 56, 57, 58, 59, 60, 61] (by decide +kernel) (by decide +kernel)
set_option maxRecDepth 20000 in
theorem gX11_flow_X11_flowOf : GoodIn wsX11_flow (wsV RX11 177 RX11 yX11_flowOf wsX11_flowOf) := goodIn_app (goodIn_of _ (by decide +kernel)) ggX11_flow_X11_flowOf
set_option maxRecDepth 20000 in
theorem ggX11_comesOf_X11_wayOf : GoodIn wsX11_comesOf wsX11_wayOf := goodIn_r _ [8, 3, 12, 13, 14, 15, 16, 17, 18, 19, 20, 21, 22, 23, 24, 25, 26, 27, 28, 29, 30, 31, 32, 33, 34, 35, 36, 37, 38, 39, 40, 41, 42, 43] (by decide +kernel) (by decide +kernel)
set_option maxRecDepth 20000 in
theorem gX11_comesOf_X11_wayOf : GoodIn wsX11_comesOf (wsV RX11 165 RX11 yX11_wayOf wsX11_wayOf) := goodIn_app (goodIn_of _ (by decide +kernel)) ggX11_comesOf_X11_wayOf
set_option maxRecDepth 20000 in
theorem ggX11_comesOf_X11_has : GoodIn wsX11_comesOf wsX11_has := goodIn_r _ [11] (by decide +kernel) (by decide +kernel)
set_option maxRecDepth 20000 in
theorem gX11_comesOf_X11_has : GoodIn wsX11_comesOf (va_wsS RX11 87 yX11_has wsX11_has) := goodIn_app (goodIn_of _ (by decide +kernel)) ggX11_comesOf_X11_has
set_option maxRecDepth 20000 in
theorem ggX11_told_X11_comesOf : GoodIn wsX11_told wsX11_comesOf := goodIn_r _ [8, 9, 10, 11, 12, 13, 14, 7, 15, 16, 17, 18, 19, 20, 21, 22, 23, 24, 25, 26, 27, 28, 29, 30, 31, 32, 33, 34, 35, 36, 37, 38, 39, 40, 41, 42, 43, 44, 45, 46, 47, 48, 49, 50] (by decide +kernel) (by decide +kernel)
set_option maxRecDepth 20000 in
theorem gX11_told_X11_comesOf : GoodIn wsX11_told (wsV RX11 180 RX11 yX11_comesOf wsX11_comesOf) := goodIn_app (goodIn_of _ (by decide +kernel)) ggX11_told_X11_comesOf
