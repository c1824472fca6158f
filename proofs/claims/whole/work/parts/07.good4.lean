set_option maxRecDepth 20000 in
theorem ggX11_mean_X11_many : GoodIn wsX11_mean wsX11_many := goodIn_r _ [41] (by decide +kernel) (by decide +kernel)
set_option maxRecDepth 20000 in
theorem gX11_mean_X11_many : GoodIn wsX11_mean (va_wsS RX11 193 yX11_many wsX11_many) := goodIn_app (goodIn_of _ (by decide +kernel)) ggX11_mean_X11_many
set_option maxRecDepth 20000 in
theorem ggX11_mean_X11_parts : GoodIn wsX11_mean wsX11_parts := goodIn_r _ [45, 15, 3, 17, 18, 6, 19, 56, 57, 58, 59, 60, 61, 62, 63, 64, 65, 66, 67, 68, 69, 70, 71, 72, 73, 74, 75, 76, 77, 78, 79, 80, 81, 82, 83, 84, 85, 86, 87] (by decide +kernel) (by decide +kernel)
set_option maxRecDepth 20000 in
theorem gX11_mean_X11_parts : GoodIn wsX11_mean (wsV RX11 264 RX11 yX11_parts wsX11_parts) := goodIn_app (goodIn_of _ (by decide +kernel)) ggX11_mean_X11_parts
set_option maxRecDepth 20000 in
theorem ggX11_mean_X11_likelyOf : GoodIn wsX11_mean wsX11_likelyOf := goodIn_r _ [49, 16, 17, 18, 6, 19, 56, 57, 58, 59, 60, 61, 62, 63, 64, 65, 66, 67, 68, 69, 70, 71, 72, 73, 74, 75, 76, 77, 78, 79, 80, 81, 82, 83, 84, 85, 86, 87] (by decide +kernel) (by decide +kernel)
set_option maxRecDepth 20000 in
theorem gX11_mean_X11_likelyOf : GoodIn wsX11_mean (wsV RX11 273 RX11 yX11_likelyOf wsX11_likelyOf) := goodIn_app (goodIn_of _ (by decide +kernel)) ggX11_mean_X11_likelyOf
set_option maxRecDepth 20000 in
theorem ggX11_mean_X11_lowest : GoodIn wsX11_mean wsX11_lowest := goodIn_r _ [52, 53, 54, 6, 55] (by decide +kernel) (by decide +kernel)
set_option maxRecDepth 20000 in
theorem gX11_mean_X11_lowest : GoodIn wsX11_mean (va_wsS RX11 245 yX11_lowest wsX11_lowest) := goodIn_app (goodIn_of _ (by decide +kernel)) ggX11_mean_X11_lowest
set_option maxRecDepth 20000 in
theorem ggX11_soonBy_X11_greater : GoodIn wsX11_soonBy wsX11_greater := goodIn_r _ [8] (by decide +kernel) (by decide +kernel)
set_option maxRecDepth 20000 in
theorem gX11_soonBy_X11_greater : GoodIn wsX11_soonBy (va_wsS RX11 257 yX11_greater wsX11_greater) := goodIn_app (goodIn_of _ (by decide +kernel)) ggX11_soonBy_X11_greater
set_option maxRecDepth 20000 in
theorem ggX11_laySoon_X11_layWays : GoodIn wsX11_laySoon wsX11_layWays := goodIn_r _ [7, 8, 9, 10, 11, 12, 6, 13, 14, 15, 16, 17, 18, 19, 20, 21, 22, 23, 24, 25, 26, 27, 43, 44, 45, 46, 47, 48, 49, 50, 51, 52, 53, 54, 55, 56, 57, 58, 59, 60, 61, 62, 63, 64, 65, 66, 67, 68, 69, 70, 71, 72, 73, 74] (by decide +kernel) (by decide +kernel)
set_option maxRecDepth 20000 in
theorem gX11_laySoon_X11_layWays : GoodIn wsX11_laySoon (wsV RX11 260 RX11 yX11_layWays wsX11_layWays) := goodIn_app (goodIn_of _ (by decide +kernel)) ggX11_laySoon_X11_layWays
set_option maxRecDepth 20000 in
theorem ggX11_laySoon_X11_many : GoodIn wsX11_laySoon wsX11_many := goodIn_r _ [30] (by decide +kernel) (by decide +kernel)
set_option maxRecDepth 20000 in
theorem gX11_laySoon_X11_many : GoodIn wsX11_laySoon (va_wsS RX11 193 yX11_many wsX11_many) := goodIn_app (goodIn_of _ (by decide +kernel)) ggX11_laySoon_X11_many
set_option maxRecDepth 20000 in
theorem ggX11_laySoon_X11_parts : GoodIn wsX11_laySoon wsX11_parts := goodIn_r _ [34, 9, 8, 11, 12, 6, 13, 43, 44, 45, 46, 47, 48, 49, 50, 51, 52, 53, 54, 55, 56, 57, 58, 59, 60, 61, 62, 63, 64, 65, 66, 67, 68, 69, 70, 71, 72, 73, 74] (by decide +kernel) (by decide +kernel)
set_option maxRecDepth 20000 in
theorem gX11_laySoon_X11_parts : GoodIn wsX11_laySoon (wsV RX11 264 RX11 yX11_parts wsX11_parts) := goodIn_app (goodIn_of _ (by decide +kernel)) ggX11_laySoon_X11_parts
set_option maxRecDepth 20000 in
theorem ggX11_laySoon_X11_soonBy : GoodIn wsX11_laySoon wsX11_soonBy := goodIn_r _ [38, 10, 39, 1, 8, 40, 41, 6, 42, 43, 44, 45, 46, 47, 48, 49, 50, 51, 52, 53, 54, 55, 56, 57, 58, 59, 60, 61, 62, 63, 64, 65, 66, 67, 68, 69, 70, 71, 72, 73, 74] (by decide +kernel) (by decide +kernel)
set_option maxRecDepth 20000 in
theorem gX11_laySoon_X11_soonBy : GoodIn wsX11_laySoon (wsV RX11 276 RX11 yX11_soonBy wsX11_soonBy) := goodIn_app (goodIn_of _ (by decide +kernel)) ggX11_laySoon_X11_soonBy
set_option maxRecDepth 20000 in
theorem ggX11_soonLid_X11_parts : GoodIn wsX11_soonLid wsX11_parts := goodIn_r _ [6, 7, 8, 9, 10, 5, 11, 21, 22, 23, 24, 25, 26, 27, 28, 29, 30, 31, 32, 33, 34, 35, 36, 37, 38, 39, 40, 41, 42, 43, 44, 45, 46, 47, 48, 49, 50, 51, 52] (by decide +kernel) (by decide +kernel)
set_option maxRecDepth 20000 in
theorem gX11_soonLid_X11_parts : GoodIn wsX11_soonLid (wsV RX11 264 RX11 yX11_parts wsX11_parts) := goodIn_app (goodIn_of _ (by decide +kernel)) ggX11_soonLid_X11_parts
set_option maxRecDepth 20000 in
theorem ggX11_soonLid_X11_soonBy : GoodIn wsX11_soonLid wsX11_soonBy := goodIn_r _ [15, 16, 17, 1, 8, 18, 19, 5, 20, 21, 22, 23, 24, 25, 26, 27, 28, 29, 30, 31, 32, 33, 34, 35, 36, 37, 38, 39, 40, 41, 42, 43, 44, 45, 46, 47, 48, 49, 50, 51, 52] (by decide +kernel) (by decide +kernel)
set_option maxRecDepth 20000 in
theorem gX11_soonLid_X11_soonBy : GoodIn wsX11_soonLid (wsV RX11 276 RX11 yX11_soonBy wsX11_soonBy) := goodIn_app (goodIn_of _ (by decide +kernel)) ggX11_soonLid_X11_soonBy
set_option maxRecDepth 20000 in
theorem ggX11_soon_X11_isNode : GoodIn wsX11_soon wsX11_isNode := goodIn_r _ [6, 7, 8, 9, 10, 5, 11, 12, 13, 14, 64, 65, 66, 67, 68, 69, 70, 71, 72, 73, 74, 75, 76, 77, 78, 79, 80, 81, 82, 83, 84, 85, 86, 87, 88, 89, 90, 91, 92, 93, 94, 95] (by decide +kernel) (by decide +kernel)
set_option maxRecDepth 20000 in
theorem gX11_soon_X11_isNode : GoodIn wsX11_soon (wsV RX11 157 RX11 yX11_isNode wsX11_isNode) := goodIn_app (goodIn_of _ (by decide +kernel)) ggX11_soon_X11_isNode
set_option maxRecDepth 20000 in
theorem ggX11_soon_X11_in : GoodIn wsX11_soon wsX11_in := goodIn_r _ [11] (by decide +kernel) (by decide +kernel)
set_option maxRecDepth 20000 in
theorem gX11_soon_X11_in : GoodIn wsX11_soon (va_wsS RX11 83 yX11_in wsX11_in) := goodIn_app (goodIn_of _ (by decide +kernel)) ggX11_soon_X11_in
set_option maxRecDepth 20000 in
theorem ggX11_soon_X11_sources : GoodIn wsX11_soon wsX11_sources := goodIn_r _ [18, 8, 19, 12, 13, 5, 14, 64, 65, 66, 67, 68, 69, 70, 71, 72, 73, 74, 75, 76, 77, 78, 79, 80, 81, 82, 83, 84, 85, 86, 87, 88, 89, 90, 91, 92, 93, 94, 95] (by decide +kernel) (by decide +kernel)
set_option maxRecDepth 20000 in
theorem gX11_soon_X11_sources : GoodIn wsX11_soon (wsV RX11 218 RX11 yX11_sources wsX11_sources) := goodIn_app (goodIn_of _ (by decide +kernel)) ggX11_soon_X11_sources
set_option maxRecDepth 20000 in
theorem ggX11_soon_X11_laySoon : GoodIn wsX11_soon wsX11_laySoon := goodIn_r _ [23, 1, 24, 25, 26, 27, 5, 28, 29, 8, 30, 12, 13, 14, 31, 32, 33, 34, 35, 36, 37, 38, 39, 40, 41, 42, 43, 44, 45, 46, 47, 48, 49, 50, 51, 52, 53, 54, 55, 56, 57, 58, 59, 64, 65, 66, 67, 68, 69, 70, 71, 72, 73, 74, 75, 76, 77, 78, 79, 80, 81, 82, 83, 84, 85, 86, 87, 88, 89, 90, 91, 92, 93, 94, 95] (by decide +kernel) (by decide +kernel)
set_option maxRecDepth 20000 in
theorem gX11_soon_X11_laySoon : GoodIn wsX11_soon (wsV RX11 279 RX11 yX11_laySoon wsX11_laySoon) := goodIn_app (goodIn_of _ (by decide +kernel)) ggX11_soon_X11_laySoon
set_option maxRecDepth 20000 in
theorem ggX11_soon_X11_soonLid : GoodIn wsX11_soon wsX11_soonLid := goodIn_r _ [63, 1, 48, 49, 50, 5, 51, 8, 29, 12, 13, 14, 52, 53, 54, 55, 30, 56, 57, 58, 59, 64, 65, 66, 67, 68, 69, 70, 71, 72, 73, 74, 75, 76, 77, 78, 79, 80, 81, 82, 83, 84, 85, 86, 87, 88, 89, 90, 91, 92, 93, 94, 95] (by decide +kernel) (by decide +kernel)
set_option maxRecDepth 20000 in
theorem gX11_soon_X11_soonLid : GoodIn wsX11_soon (wsV RX11 282 RX11 yX11_soonLid wsX11_soonLid) := goodIn_app (goodIn_of _ (by decide +kernel)) ggX11_soon_X11_soonLid
set_option maxRecDepth 20000 in
theorem ggX11_answersOf_X11_wayOf : GoodIn wsX11_answersOf wsX11_wayOf := goodIn_r _ [5, 6, 15, 16, 17, 18, 19, 20, 21, 22, 23, 24, 25, 26, 27, 28, 29, 30, 31, 32, 33, 34, 35, 36, 37, 38, 39, 40, 41, 42, 43, 44, 45, 46] (by decide +kernel) (by decide +kernel)
set_option maxRecDepth 20000 in
theorem gX11_answersOf_X11_wayOf : GoodIn wsX11_answersOf (wsV RX11 165 RX11 yX11_wayOf wsX11_wayOf) := goodIn_app (goodIn_of _ (by decide +kernel)) ggX11_answersOf_X11_wayOf
set_option maxRecDepth 20000 in
theorem ggX11_answersOf_X11_has : GoodIn wsX11_answersOf wsX11_has := goodIn_r _ [9] (by decide +kernel) (by decide +kernel)
set_option maxRecDepth 20000 in
theorem gX11_answersOf_X11_has : GoodIn wsX11_answersOf (va_wsS RX11 87 yX11_has wsX11_has) := goodIn_app (goodIn_of _ (by decide +kernel)) ggX11_answersOf_X11_has
set_option maxRecDepth 20000 in
theorem ggX11_answersOf_X11_walkOf : GoodIn wsX11_answersOf wsX11_walkOf := goodIn_r _ [13, 14, 1, 2, 3, 4, 5, 6, 7, 8, 9, 15, 16, 17, 18, 19, 20, 21, 22, 23, 24, 25, 26, 27, 28, 29, 30, 31, 32, 33, 34, 35, 36, 37, 38, 39, 40, 41, 42, 43, 44, 45, 46] (by decide +kernel) (by decide +kernel)
set_option maxRecDepth 20000 in
theorem gX11_answersOf_X11_walkOf : GoodIn wsX11_answersOf (wsV RX11 171 RX11 yX11_walkOf wsX11_walkOf) := goodIn_app (goodIn_of _ (by decide +kernel)) ggX11_answersOf_X11_walkOf
set_option maxRecDepth 20000 in
theorem ggX11_areLids_X11_isNode : GoodIn wsX11_areLids wsX11_isNode := goodIn_r _ [5, 6, 7, 8, 9, 4, 10, 11, 12, 13, 14, 15, 16, 17, 18, 19, 20, 21, 22, 23, 24, 25, 26, 27, 28, 29, 30, 31, 32, 33, 34, 35, 36, 37, 38, 39, 40, 41, 42, 43, 44, 45] (by decide +kernel) (by decide +kernel)
set_option maxRecDepth 20000 in
theorem gX11_areLids_X11_isNode : GoodIn wsX11_areLids (wsV RX11 157 RX11 yX11_isNode wsX11_isNode) := goodIn_app (goodIn_of _ (by decide +kernel)) ggX11_areLids_X11_isNode
set_option maxRecDepth 20000 in
theorem ggX11_row_X11_in : GoodIn wsX11_row wsX11_in := goodIn_r _ [8] (by decide +kernel) (by decide +kernel)
set_option maxRecDepth 20000 in
theorem gX11_row_X11_in : GoodIn wsX11_row (va_wsS RX11 83 yX11_in wsX11_in) := goodIn_app (goodIn_of _ (by decide +kernel)) ggX11_row_X11_in
set_option maxRecDepth 20000 in
theorem ggX11_row_X11_areLids : GoodIn wsX11_row wsX11_areLids := goodIn_r _ [12, 13, 14, 15, 7, 16, 17, 18, 5, 6, 8, 19, 20, 21, 44, 45, 46, 47, 48, 49, 50, 51, 52, 53, 54, 55, 56, 57, 58, 59, 60, 61, 62, 63, 64, 65, 66, 67, 68, 69, 70, 71, 72, 73, 74, 75] (by decide +kernel) (by decide +kernel)
set_option maxRecDepth 20000 in
theorem gX11_row_X11_areLids : GoodIn wsX11_row (wsV RX11 285 RX11 yX11_areLids wsX11_areLids) := goodIn_app (goodIn_of _ (by decide +kernel)) ggX11_row_X11_areLids
set_option maxRecDepth 20000 in
theorem ggX11_row_X11_sources : GoodIn wsX11_row wsX11_sources := goodIn_r _ [25, 18, 26, 19, 20, 7, 21, 44, 45, 46, 47, 48, 49, 50, 51, 52, 53, 54, 55, 56, 57, 58, 59, 60, 61, 62, 63, 64, 65, 66, 67, 68, 69, 70, 71, 72, 73, 74, 75] (by decide +kernel) (by decide +kernel)
set_option maxRecDepth 20000 in
theorem gX11_row_X11_sources : GoodIn wsX11_row (wsV RX11 218 RX11 yX11_sources wsX11_sources) := goodIn_app (goodIn_of _ (by decide +kernel)) ggX11_row_X11_sources
set_option maxRecDepth 20000 in
theorem ggX11_row_X11_has : GoodIn wsX11_row wsX11_has := goodIn_r _ [21] (by decide +kernel) (by decide +kernel)
set_option maxRecDepth 20000 in
theorem gX11_row_X11_has : GoodIn wsX11_row (va_wsS RX11 87 yX11_has wsX11_has) := goodIn_app (goodIn_of _ (by decide +kernel)) ggX11_row_X11_has
set_option maxRecDepth 20000 in
theorem ggX11_row_X11_answersOf : GoodIn wsX11_row wsX11_answersOf := goodIn_r _ [30, 31, 32, 33, 7, 34, 35, 19, 20, 21, 36, 37, 38, 39, 40, 44, 45, 46, 47, 48, 49, 50, 51, 52, 53, 54, 55, 56, 57, 58, 59, 60, 61, 62, 63, 64, 65, 66, 67, 68, 69, 70, 71, 72, 73, 74, 75] (by decide +kernel) (by decide +kernel)
set_option maxRecDepth 20000 in
theorem gX11_row_X11_answersOf : GoodIn wsX11_row (wsV RX11 292 RX11 yX11_answersOf wsX11_answersOf) := goodIn_app (goodIn_of _ (by decide +kernel)) ggX11_row_X11_answersOf
set_option maxRecDepth 20000 in
theorem ggX11_row_X11_greater : GoodIn wsX11_row wsX11_greater := goodIn_r _ [43] (by decide +kernel) (by decide +kernel)
set_option maxRecDepth 20000 in
theorem gX11_row_X11_greater : GoodIn wsX11_row (va_wsS RX11 257 yX11_greater wsX11_greater) := goodIn_app (goodIn_of _ (by decide +kernel)) ggX11_row_X11_greater
set_option maxRecDepth 20000 in
theorem ggX11_answers_X11_in : GoodIn wsX11_answers wsX11_in := goodIn_r _ [7] (by decide +kernel) (by decide +kernel)
set_option maxRecDepth 20000 in
theorem gX11_answers_X11_in : GoodIn wsX11_answers (va_wsS RX11 83 yX11_in wsX11_in) := goodIn_app (goodIn_of _ (by decide +kernel)) ggX11_answers_X11_in
set_option maxRecDepth 20000 in
theorem ggX11_answers_X11_isSource : GoodIn wsX11_answers wsX11_isSource := goodIn_r _ [11, 12, 4, 5, 6, 7, 13, 14, 15, 16, 17, 18, 19, 20, 21, 44, 45, 46, 47, 48, 49, 50, 51, 52, 53, 54, 55, 56, 57, 58, 59, 60, 61, 62, 63, 64, 65, 66, 67, 68, 69, 70, 71, 72, 73, 74, 75] (by decide +kernel) (by decide +kernel)
set_option maxRecDepth 20000 in
theorem gX11_answers_X11_isSource : GoodIn wsX11_answers (wsV RX11 229 RX11 yX11_isSource wsX11_isSource) := goodIn_app (goodIn_of _ (by decide +kernel)) ggX11_answers_X11_isSource
set_option maxRecDepth 20000 in
theorem ggX11_answers_X11_areLids : GoodIn wsX11_answers wsX11_areLids := goodIn_r _ [25, 26, 27, 28, 6, 29, 12, 17, 4, 5, 7, 19, 20, 21, 44, 45, 46, 47, 48, 49, 50, 51, 52, 53, 54, 55, 56, 57, 58, 59, 60, 61, 62, 63, 64, 65, 66, 67, 68, 69, 70, 71, 72, 73, 74, 75] (by decide +kernel) (by decide +kernel)
set_option maxRecDepth 20000 in
theorem gX11_answers_X11_areLids : GoodIn wsX11_answers (wsV RX11 285 RX11 yX11_areLids wsX11_areLids) := goodIn_app (goodIn_of _ (by decide +kernel)) ggX11_answers_X11_areLids
set_option maxRecDepth 20000 in
theorem ggX11_answers_X11_answersOf : GoodIn wsX11_answers wsX11_answersOf := goodIn_r _ [33, 34, 35, 36, 6, 37, 38, 19, 20, 21, 39, 40, 41, 42, 43, 44, 45, 46, 47, 48, 49, 50, 51, 52, 53, 54, 55, 56, 57, 58, 59, 60, 61, 62, 63, 64, 65, 66, 67, 68, 69, 70, 71, 72, 73, 74, 75] (by decide +kernel) (by decide +kernel)
set_option maxRecDepth 20000 in
theorem gX11_answers_X11_answersOf : GoodIn wsX11_answers (wsV RX11 292 RX11 yX11_answersOf wsX11_answersOf) := goodIn_app (goodIn_of _ (by decide +kernel)) ggX11_answers_X11_answersOf
set_option maxRecDepth 20000 in
theorem ggX11_hang_X11_in : GoodIn wsX11_hang wsX11_in := goodIn_r _ [7] (by decide +kernel) (by decide +kernel)
set_option maxRecDepth 20000 in
theorem gX11_hang_X11_in : GoodIn wsX11_hang (va_wsS RX11 83 yX11_in wsX11_in) := goodIn_app (goodIn_of _ (by decide +kernel)) ggX11_hang_X11_in
set_option maxRecDepth 20000 in
theorem ggX11_hang_X11_layWays : GoodIn wsX11_hang wsX11_layWays := goodIn_r _ [11, 12, 2, 3, 13, 14, 6, 15, 16, 17, 18, 19, 20, 21, 22, 23, 24, 25, 26, 27, 28, 29, 38, 39, 40, 41, 42, 43, 44, 45, 46, 47, 48, 49, 50, 51, 52, 53, 54, 55, 56, 57, 58, 59, 60, 61, 62, 63, 64, 65, 66, 67, 68, 69] (by decide +kernel) (by decide +kernel)
set_option maxRecDepth 20000 in
theorem gX11_hang_X11_layWays : GoodIn wsX11_hang (wsV RX11 260 RX11 yX11_layWays wsX11_layWays) := goodIn_app (goodIn_of _ (by decide +kernel)) ggX11_hang_X11_layWays
set_option maxRecDepth 20000 in
theorem ggX11_hang_X11_sources : GoodIn wsX11_hang wsX11_sources := goodIn_r _ [33, 2, 34, 13, 14, 6, 15, 38, 39, 40, 41, 42, 43, 44, 45, 46, 47, 48, 49, 50, 51, 52, 53, 54, 55, 56, 57, 58, 59, 60, 61, 62, 63, 64, 65, 66, 67, 68, 69] (by decide +kernel) (by decide +kernel)
set_option maxRecDepth 20000 in
theorem gX11_hang_X11_sources : GoodIn wsX11_hang (wsV RX11 218 RX11 yX11_sources wsX11_sources) := goodIn_app (goodIn_of _ (by decide +kernel)) ggX11_hang_X11_sources
set_option maxRecDepth 20000 in
theorem ggX11_hang_X11_many : GoodIn wsX11_hang wsX11_many := goodIn_r _ [37] (by decide +kernel) (by decide +kernel)
set_option maxRecDepth 20000 in
theorem gX11_hang_X11_many : GoodIn wsX11_hang (va_wsS RX11 193 yX11_many wsX11_many) := goodIn_app (goodIn_of _ (by decide +kernel)) ggX11_hang_X11_many
set_option maxRecDepth 20000 in
theorem ggX11_hang_X11_has : GoodIn wsX11_hang wsX11_has := goodIn_r _ [15] (by decide +kernel) (by decide +kernel)
set_option maxRecDepth 20000 in
theorem gX11_hang_X11_has : GoodIn wsX11_hang (va_wsS RX11 87 yX11_has wsX11_has) := goodIn_app (goodIn_of _ (by decide +kernel)) ggX11_hang_X11_has
set_option maxRecDepth 20000 in
theorem ggX11_hang_X11_wayOf : GoodIn wsX11_hang wsX11_wayOf := goodIn_r _ [23, 24, 38, 39, 40, 41, 42, 43, 44, 45, 46, 47, 48, 49, 50, 51, 52, 53, 54, 55, 56, 57, 58, 59, 60, 61, 62, 63, 64, 65, 66, 67, 68, 69] (by decide +kernel) (by decide +kernel)
set_option maxRecDepth 20000 in
theorem gX11_hang_X11_wayOf : GoodIn wsX11_hang (wsV RX11 165 RX11 yX11_wayOf wsX11_wayOf) := goodIn_app (goodIn_of _ (by decide +kernel)) ggX11_hang_X11_wayOf
set_option maxRecDepth 20000 in
theorem ggX11_drawSource_X11_likelyOf : GoodIn wsX11_drawSource wsX11_likelyOf := goodIn_r _ [6, 1, 7, 8, 5, 9, 16, 17, 18, 19, 20, 21, 22, 23, 24, 25, 26, 27, 28, 29, 30, 31, 32, 33, 34, 35, 36, 37, 38, 39, 40, 41, 42, 43, 44, 45, 46, 47] (by decide +kernel) (by decide +kernel)
set_option maxRecDepth 20000 in
theorem gX11_drawSource_X11_likelyOf : GoodIn wsX11_drawSource (wsV RX11 273 RX11 yX11_likelyOf wsX11_likelyOf) := goodIn_app (goodIn_of _ (by decide +kernel)) ggX11_drawSource_X11_likelyOf
set_option maxRecDepth 20000 in
theorem ggX11_drawSource_X11_draw : GoodIn wsX11_drawSource wsX11_draw := goodIn_r _ [13, 14, 15, 16, 17, 18, 19, 20, 21, 22, 23, 24, 25, 26, 27, 28, 29, 30, 31, 32, 33, 34, 35, 36, 37, 38, 39, 40, 41, 42, 43, 44, 45, 46, 47] (by decide +kernel) (by decide +kernel)
set_option maxRecDepth 20000 in
theorem gX11_drawSource_X11_draw : GoodIn wsX11_drawSource (wsV RX11 300 RX11 yX11_draw wsX11_draw) := goodIn_app (goodIn_of _ (by decide +kernel)) ggX11_drawSource_X11_draw
set_option maxRecDepth 20000 in
theorem ggX11_drawSource_X11_has : GoodIn wsX11_drawSource wsX11_has := goodIn_r _ [9] (by decide +kernel) (by decide +kernel)
set_option maxRecDepth 20000 in
theorem gX11_drawSource_X11_has : GoodIn wsX11_drawSource (va_wsS RX11 87 yX11_has wsX11_has) := goodIn_app (goodIn_of _ (by decide +kernel)) ggX11_drawSource_X11_has
set_option maxRecDepth 20000 in
theorem ggX11_least_X11_has : GoodIn wsX11_least wsX11_has := goodIn_r _ [4] (by decide +kernel) (by decide +kernel)
set_option maxRecDepth 20000 in
theorem gX11_least_X11_has : GoodIn wsX11_least (va_wsS RX11 87 yX11_has wsX11_has) := goodIn_app (goodIn_of _ (by decide +kernel)) ggX11_least_X11_has
set_option maxRecDepth 20000 in
theorem ggX11_day_X11_isCup : GoodIn wsX11_day wsX11_isCup := goodIn_r _ [12, 2, 13, 14, 11, 15] (by decide +kernel) (by decide +kernel)
set_option maxRecDepth 20000 in
theorem gX11_day_X11_isCup : GoodIn wsX11_day (va_wsS RX11 162 yX11_isCup wsX11_isCup) := goodIn_app (goodIn_of _ (by decide +kernel)) ggX11_day_X11_isCup
set_option maxRecDepth 20000 in
theorem ggX11_day_X11_in : GoodIn wsX11_day wsX11_in := goodIn_r _ [15] (by decide +kernel) (by decide +kernel)
set_option maxRecDepth 20000 in
theorem gX11_day_X11_in : GoodIn wsX11_day (va_wsS RX11 83 yX11_in wsX11_in) := goodIn_app (goodIn_of _ (by decide +kernel)) ggX11_day_X11_in
set_option maxRecDepth 20000 in
theorem ggX11_day_X11_sources : GoodIn wsX11_day wsX11_sources := goodIn_r _ [19, 20, 21, 22, 23, 11, 24, 83, 84, 85, 86, 87, 88, 89, 90, 91, 92, 93, 94, 95, 96, 97, 98, 99, 100, 101, 102, 103, 104, 105, 106, 107, 108, 109, 110, 111, 112, 113, 114] (by decide +kernel) (by decide +kernel)
set_option maxRecDepth 20000 in
theorem gX11_day_X11_sources : GoodIn wsX11_day (wsV RX11 218 RX11 yX11_sources wsX11_sources) := goodIn_app (goodIn_of _ (by decide +kernel)) ggX11_day_X11_sources
set_option maxRecDepth 20000 in
theorem ggX11_day_X11_laySoon : GoodIn wsX11_day wsX11_laySoon := goodIn_r _ [28, 29, 30, 31, 32, 33, 11, 34, 4, 20, 7, 22, 23, 24, 35, 36, 37, 38, 39, 40, 41, 42, 43, 44, 45, 46, 47, 48, 49, 50, 51, 52, 53, 54, 55, 56, 57, 58, 59, 8, 60, 61, 62, 83, 84, 85, 86, 87, 88, 89, 90, 91, 92, 93, 94, 95, 96, 97, 98, 99, 100, 101, 102, 103, 104, 105, 106, 107, 108, 109, 110, 111, 112, 113, 114] (by decide +kernel) (by decide +kernel)
set_option maxRecDepth 20000 in
theorem gX11_day_X11_laySoon : GoodIn wsX11_day (wsV RX11 279 RX11 yX11_laySoon wsX11_laySoon) := goodIn_app (goodIn_of _ (by decide +kernel)) ggX11_day_X11_laySoon
set_option maxRecDepth 20000 in
theorem ggX11_day_X11_drawSource : GoodIn wsX11_day wsX11_drawSource := goodIn_r _ [66, 21, 67, 68, 69, 11, 70, 22, 23, 24, 71, 72, 73, 74, 3, 75, 83, 84, 85, 86, 87, 88, 89, 90, 91, 92, 93, 94, 95, 96, 97, 98, 99, 100, 101, 102, 103, 104, 105, 106, 107, 108, 109, 110, 111, 112, 113, 114] (by decide +kernel) (by decide +kernel)
set_option maxRecDepth 20000 in
theorem gX11_day_X11_drawSource : GoodIn wsX11_day (wsV RX11 305 RX11 yX11_drawSource wsX11_drawSource) := goodIn_app (goodIn_of _ (by decide +kernel)) ggX11_day_X11_drawSource
set_option maxRecDepth 20000 in
theorem ggX11_day_X11_many : GoodIn wsX11_day wsX11_many := goodIn_r _ [51] (by decide +kernel) (by decide +kernel)
set_option maxRecDepth 20000 in
theorem gX11_day_X11_many : GoodIn wsX11_day (va_wsS RX11 193 yX11_many wsX11_many) := goodIn_app (goodIn_of _ (by decide +kernel)) ggX11_day_X11_many
set_option maxRecDepth 20000 in
theorem ggX11_day_X11_soonLid : GoodIn wsX11_day wsX11_soonLid := goodIn_r _ [79, 29, 52, 53, 54, 11, 55, 20, 4, 22, 23, 24, 56, 57, 58, 59, 7, 8, 60, 61, 62, 83, 84, 85, 86, 87, 88, 89, 90, 91, 92, 93, 94, 95, 96, 97, 98, 99, 100, 101, 102, 103, 104, 105, 106, 107, 108, 109, 110, 111, 112, 113, 114] (by decide +kernel) (by decide +kernel)
set_option maxRecDepth 20000 in
theorem gX11_day_X11_soonLid : GoodIn wsX11_day (wsV RX11 282 RX11 yX11_soonLid wsX11_soonLid) := goodIn_app (goodIn_of _ (by decide +kernel)) ggX11_day_X11_soonLid
set_option maxRecDepth 20000 in
theorem ggX11_day_X11_has : GoodIn wsX11_day wsX11_has := goodIn_r _ [24] (by decide +kernel) (by decide +kernel)
set_option maxRecDepth 20000 in
theorem gX11_day_X11_has : GoodIn wsX11_day (va_wsS RX11 87 yX11_has wsX11_has) := goodIn_app (goodIn_of _ (by decide +kernel)) ggX11_day_X11_has
set_option maxRecDepth 20000 in
theorem ggX11_day_X11_draw : GoodIn wsX11_day wsX11_draw := goodIn_r _ [74, 3, 75, 83, 84, 85, 86, 87, 88, 89, 90, 91, 92, 93, 94, 95, 96, 97, 98, 99, 100, 101, 102, 103, 104, 105, 106, 107, 108, 109, 110, 111, 112, 113, 114] (by decide +kernel) (by decide +kernel)
set_option maxRecDepth 20000 in
theorem gX11_day_X11_draw : GoodIn wsX11_day (wsV RX11 300 RX11 yX11_draw wsX11_draw) := goodIn_app (goodIn_of _ (by decide +kernel)) ggX11_day_X11_draw
set_option maxRecDepth 20000 in
theorem ggX11_day_X11_least : GoodIn wsX11_day wsX11_least := goodIn_r _ [82, 22, 23, 11, 24] (by decide +kernel) (by decide +kernel)
set_option maxRecDepth 20000 in
theorem gX11_day_X11_least : GoodIn wsX11_day (va_wsS RX11 308 yX11_least wsX11_least) := goodIn_app (goodIn_of _ (by decide +kernel)) ggX11_day_X11_least
set_option maxRecDepth 20000 in
theorem ggX11_count_X11_has : GoodIn wsX11_count wsX11_has := goodIn_r _ [10] (by decide +kernel) (by decide +kernel)
set_option maxRecDepth 20000 in
theorem gX11_count_X11_has : GoodIn wsX11_count (va_wsS RX11 87 yX11_has wsX11_has) := goodIn_app (goodIn_of _ (by decide +kernel)) ggX11_count_X11_has
set_option maxRecDepth 20000 in
theorem ggX11_count_X11_many : GoodIn wsX11_count wsX11_many := goodIn_r _ [13] (by decide +kernel) (by decide +kernel)
set_option maxRecDepth 20000 in
theorem gX11_count_X11_many : GoodIn wsX11_count (va_wsS RX11 193 yX11_many wsX11_many) := goodIn_app (goodIn_of _ (by decide +kernel)) ggX11_count_X11_many
set_option maxRecDepth 20000 in
theorem ggX11_count_X11_sources : GoodIn wsX11_count wsX11_sources := goodIn_r _ [17, 1, 18, 7, 8, 9, 10, 19, 20, 21, 22, 23, 24, 25, 26, 27, 28, 29, 30, 31, 32, 33, 34, 35, 36, 37, 38, 39, 40, 41, 42, 43, 44, 45, 46, 47, 48, 49, 50] (by decide +kernel) (by decide +kernel)
set_option maxRecDepth 20000 in
theorem gX11_count_X11_sources : GoodIn wsX11_count (wsV RX11 218 RX11 yX11_sources wsX11_sources) := goodIn_app (goodIn_of _ (by decide +kernel)) ggX11_count_X11_sources
set_option maxRecDepth 20000 in
theorem ggJ0_length_8abf5_J0_coder_7d493 : GoodIn wsJ0_length_8abf5 wsJ0_coder_7d493 := goodIn_r _ [6, 7, 8] (by decide +kernel) (by decide +kernel)
set_option maxRecDepth 20000 in
theorem gJ0_length_8abf5_J0_coder_7d493 : GoodIn wsJ0_length_8abf5 (wsV RJ0 335 RJ0 yJ0_coder_7d493 wsJ0_coder_7d493) := goodIn_app (goodIn_of _ (by decide +kernel)) ggJ0_length_8abf5_J0_coder_7d493
set_option maxRecDepth 20000 in
theorem ggJ0_charAt_5068e_J0_isLatin1_aae02 : GoodIn wsJ0_charAt_5068e wsJ0_isLatin1_aae02 := goodIn_r _ [6, 7, 8] (by decide +kernel) (by decide +kernel)
set_option maxRecDepth 20000 in
theorem gJ0_charAt_5068e_J0_isLatin1_aae02 : GoodIn wsJ0_charAt_5068e (wsV RJ0 492 RJ0 yJ0_isLatin1_aae02 wsJ0_isLatin1_aae02) := goodIn_app (goodIn_of _ (by decide +kernel)) ggJ0_charAt_5068e_J0_isLatin1_aae02
set_option maxRecDepth 20000 in
theorem ggJ0_charAt_5068e_J1_charAt_3b067 : GoodIn wsJ0_charAt_5068e wsJ1_charAt_3b067 := goodIn_r _ [12, 13, 14, 5, 15, 16, 17, 18, 19, 20] (by decide +kernel) (by decide +kernel)
set_option maxRecDepth 20000 in
theorem gJ0_charAt_5068e_J1_charAt_3b067 : GoodIn wsJ0_charAt_5068e (va_wsS RJ0 495 yJ1_charAt_3b067 wsJ1_charAt_3b067) := goodIn_app (goodIn_of _ (by decide +kernel)) ggJ0_charAt_5068e_J1_charAt_3b067
set_option maxRecDepth 20000 in
theorem ggJ0_charAt_5068e_J2_charAt_3b067 : GoodIn wsJ0_charAt_5068e wsJ2_charAt_3b067 := goodIn_r _ [24, 25, 26, 23, 27, 28, 29, 30, 31, 14, 5, 15, 16, 17, 18, 19, 20, 32, 33, 34, 35, 36, 37] (by decide +kernel) (by decide +kernel)
set_option maxRecDepth 20000 in
theorem gJ0_charAt_5068e_J2_charAt_3b067 : GoodIn wsJ0_charAt_5068e (va_wsS RJ0 498 yJ2_charAt_3b067 wsJ2_charAt_3b067) := goodIn_app (goodIn_of _ (by decide +kernel)) ggJ0_charAt_5068e_J2_charAt_3b067
set_option maxRecDepth 20000 in
theorem ggJ0_checkIndex_df160_J3_checkIndex_8e157 : GoodIn wsJ0_checkIndex_df160 wsJ3_checkIndex_8e157 := goodIn_r _ [5] (by decide +kernel) (by decide +kernel)
set_option maxRecDepth 20000 in
theorem gJ0_checkIndex_df160_J3_checkIndex_8e157 : GoodIn wsJ0_checkIndex_df160 (va_wsS RJ0 1059 yJ3_checkIndex_8e157 wsJ3_checkIndex_8e157) := goodIn_app (goodIn_of _ (by decide +kernel)) ggJ0_checkIndex_df160_J3_checkIndex_8e157
set_option maxRecDepth 20000 in
theorem ggJ1_charAt_3b067_J0_checkIndex_df160 : GoodIn wsJ1_charAt_3b067 wsJ0_checkIndex_df160 := goodIn_r _ [4, 5, 6, 7, 8, 9] (by decide +kernel) (by decide +kernel)
set_option maxRecDepth 20000 in
theorem gJ1_charAt_3b067_J0_checkIndex_df160 : GoodIn wsJ1_charAt_3b067 (va_wsS RJ1 9 yJ0_checkIndex_df160 wsJ0_checkIndex_df160) := goodIn_app (goodIn_of _ (by decide +kernel)) ggJ1_charAt_3b067_J0_checkIndex_df160
set_option maxRecDepth 20000 in
theorem ggJ2_getChar_3b067_J2_length_9d52b : GoodIn wsJ2_getChar_3b067 wsJ2_length_9d52b := goodIn_r _ [7] (by decide +kernel) (by decide +kernel)
set_option maxRecDepth 20000 in
theorem gJ2_getChar_3b067_J2_length_9d52b : GoodIn wsJ2_getChar_3b067 (va_wsS RJ2 48 yJ2_length_9d52b wsJ2_length_9d52b) := goodIn_app (goodIn_of _ (by decide +kernel)) ggJ2_getChar_3b067_J2_length_9d52b
set_option maxRecDepth 20000 in
theorem ggJ2_charAt_3b067_J2_checkIndex_2214a : GoodIn wsJ2_charAt_3b067 wsJ2_checkIndex_2214a := goodIn_r _ [4, 5, 6, 3, 7, 8, 9, 10, 11, 12, 13, 14, 15, 16] (by decide +kernel) (by decide +kernel)
set_option maxRecDepth 20000 in
theorem gJ2_charAt_3b067_J2_checkIndex_2214a : GoodIn wsJ2_charAt_3b067 (va_wsS RJ2 67 yJ2_checkIndex_2214a wsJ2_checkIndex_2214a) := goodIn_app (goodIn_of _ (by decide +kernel)) ggJ2_charAt_3b067_J2_checkIndex_2214a
set_option maxRecDepth 20000 in
theorem ggJ2_charAt_3b067_J2_getChar_3b067 : GoodIn wsJ2_charAt_3b067 wsJ2_getChar_3b067 := goodIn_r _ [19, 20, 21, 22, 5, 6, 3, 7] (by decide +kernel) (by decide +kernel)
set_option maxRecDepth 20000 in
theorem gJ2_charAt_3b067_J2_getChar_3b067 : GoodIn wsJ2_charAt_3b067 (va_wsS RJ2 71 yJ2_getChar_3b067 wsJ2_getChar_3b067) := goodIn_app (goodIn_of _ (by decide +kernel)) ggJ2_charAt_3b067_J2_getChar_3b067
set_option maxRecDepth 20000 in
theorem ggJ2_checkIndex_2214a_J2_length_9d52b : GoodIn wsJ2_checkIndex_2214a wsJ2_length_9d52b := goodIn_r _ [4] (by decide +kernel) (by decide +kernel)
set_option maxRecDepth 20000 in
theorem gJ2_checkIndex_2214a_J2_length_9d52b : GoodIn wsJ2_checkIndex_2214a (va_wsS RJ2 48 yJ2_length_9d52b wsJ2_length_9d52b) := goodIn_app (goodIn_of _ (by decide +kernel)) ggJ2_checkIndex_2214a_J2_length_9d52b
set_option maxRecDepth 20000 in
theorem ggJ2_checkIndex_2214a_J0_checkIndex_df160 : GoodIn wsJ2_checkIndex_2214a wsJ0_checkIndex_df160 := goodIn_r _ [8, 9, 10, 11, 12, 13] (by decide +kernel) (by decide +kernel)
set_option maxRecDepth 20000 in
theorem gJ2_checkIndex_2214a_J0_checkIndex_df160 : GoodIn wsJ2_checkIndex_2214a (va_wsS RJ2 414 yJ0_checkIndex_df160 wsJ0_checkIndex_df160) := goodIn_app (goodIn_of _ (by decide +kernel)) ggJ2_checkIndex_2214a_J0_checkIndex_df160
