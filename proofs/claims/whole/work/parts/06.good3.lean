set_option maxRecDepth 20000 in
theorem ggX11_thin_X11_flowOf : GoodIn wsX11_thin wsX11_flowOf := goodIn_r _ [5, 6, 7, 8, 9, 10, 4, 11, 12, 13, 14, 15, 16, 17, 18, 19, 20, 21, 22, 23, 24, 25, 26, 27, 28, 29, 30, 31, 32, 33, 34, 35, 36, 37, 38, 39, 40, 41, 42, 43, 44, 45, 46, 47, 48, 49, 50, 51, 52] (by decide +kernel) (by decide +kernel)
set_option maxRecDepth 20000 in
theorem gX11_thin_X11_flowOf : GoodIn wsX11_thin (wsV RX11 177 RX11 yX11_flowOf wsX11_flowOf) := goodIn_app (goodIn_of _ (by decide +kernel)) ggX11_thin_X11_flowOf
set_option maxRecDepth 20000 in
theorem ggX11_comes_X11_isNode : GoodIn wsX11_comes wsX11_isNode := goodIn_r _ [6, 7, 8, 9, 10, 5, 11, 12, 13, 14, 47, 48, 49, 50, 51, 52, 53, 54, 55, 56, 57, 58, 59, 60, 61, 62, 63, 64, 65, 66, 67, 68, 69, 70, 71, 72, 73, 74, 75, 76, 77, 78] (by decide +kernel) (by decide +kernel)
set_option maxRecDepth 20000 in
theorem gX11_comes_X11_isNode : GoodIn wsX11_comes (wsV RX11 157 RX11 yX11_isNode wsX11_isNode) := goodIn_app (goodIn_of _ (by decide +kernel)) ggX11_comes_X11_isNode
set_option maxRecDepth 20000 in
theorem ggX11_comes_X11_in : GoodIn wsX11_comes wsX11_in := goodIn_r _ [11] (by decide +kernel) (by decide +kernel)
set_option maxRecDepth 20000 in
theorem gX11_comes_X11_in : GoodIn wsX11_comes (va_wsS RX11 83 yX11_in wsX11_in) := goodIn_app (goodIn_of _ (by decide +kernel)) ggX11_comes_X11_in
set_option maxRecDepth 20000 in
theorem ggX11_comes_X11_told : GoodIn wsX11_comes wsX11_told := goodIn_r _ [18, 19, 20, 21, 22, 23, 24, 5, 25, 26, 27, 28, 29, 30, 31, 32, 12, 13, 14, 47, 48, 49, 50, 51, 52, 53, 54, 55, 56, 57, 58, 59, 60, 61, 62, 63, 64, 65, 66, 67, 68, 69, 70, 71, 72, 73, 74, 75, 76, 77, 78] (by decide +kernel) (by decide +kernel)
set_option maxRecDepth 20000 in
theorem gX11_comes_X11_told : GoodIn wsX11_comes (wsV RX11 186 RX11 yX11_told wsX11_told) := goodIn_app (goodIn_of _ (by decide +kernel)) ggX11_comes_X11_told
set_option maxRecDepth 20000 in
theorem ggX11_comes_X11_thin : GoodIn wsX11_comes wsX11_thin := goodIn_r _ [36, 37, 38, 39, 5, 40, 41, 42, 43, 44, 45, 46, 8, 12, 13, 14, 29, 30, 31, 32, 28, 47, 48, 49, 50, 51, 52, 53, 54, 55, 56, 57, 58, 59, 60, 61, 62, 63, 64, 65, 66, 67, 68, 69, 70, 71, 72, 73, 74, 75, 76, 77, 78] (by decide +kernel) (by decide +kernel)
set_option maxRecDepth 20000 in
theorem gX11_comes_X11_thin : GoodIn wsX11_comes (wsV RX11 190 RX11 yX11_thin wsX11_thin) := goodIn_app (goodIn_of _ (by decide +kernel)) ggX11_comes_X11_thin
set_option maxRecDepth 20000 in
theorem ggX11_shouldBy_X11_has : GoodIn wsX11_shouldBy wsX11_has := goodIn_r _ [5] (by decide +kernel) (by decide +kernel)
set_option maxRecDepth 20000 in
theorem gX11_shouldBy_X11_has : GoodIn wsX11_shouldBy (va_wsS RX11 87 yX11_has wsX11_has) := goodIn_app (goodIn_of _ (by decide +kernel)) ggX11_shouldBy_X11_has
set_option maxRecDepth 20000 in
theorem ggX11_shouldBy_X11_told : GoodIn wsX11_shouldBy wsX11_told := goodIn_r _ [9, 10, 11, 12, 13, 14, 15, 4, 16, 17, 18, 19, 20, 21, 22, 23, 2, 3, 5, 42, 43, 44, 45, 46, 47, 48, 49, 50, 51, 52, 53, 54, 55, 56, 57, 58, 59, 60, 61, 62, 63, 64, 65, 66, 67, 68, 69, 70, 71, 72, 73] (by decide +kernel) (by decide +kernel)
set_option maxRecDepth 20000 in
theorem gX11_shouldBy_X11_told : GoodIn wsX11_shouldBy (wsV RX11 186 RX11 yX11_told wsX11_told) := goodIn_app (goodIn_of _ (by decide +kernel)) ggX11_shouldBy_X11_told
set_option maxRecDepth 20000 in
theorem ggX11_shouldBy_X11_comesOf : GoodIn wsX11_shouldBy wsX11_comesOf := goodIn_r _ [16, 17, 18, 19, 20, 21, 22, 4, 23, 2, 3, 5, 42, 43, 44, 45, 46, 47, 48, 49, 50, 51, 52, 53, 54, 55, 56, 57, 58, 59, 60, 61, 62, 63, 64, 65, 66, 67, 68, 69, 70, 71, 72, 73] (by decide +kernel) (by decide +kernel)
set_option maxRecDepth 20000 in
theorem gX11_shouldBy_X11_comesOf : GoodIn wsX11_shouldBy (wsV RX11 180 RX11 yX11_comesOf wsX11_comesOf) := goodIn_app (goodIn_of _ (by decide +kernel)) ggX11_shouldBy_X11_comesOf
set_option maxRecDepth 20000 in
theorem ggX11_shouldBy_X11_thin : GoodIn wsX11_shouldBy wsX11_thin := goodIn_r _ [27, 28, 29, 30, 4, 31, 32, 33, 34, 35, 36, 37, 38, 2, 3, 5, 20, 21, 22, 23, 19, 42, 43, 44, 45, 46, 47, 48, 49, 50, 51, 52, 53, 54, 55, 56, 57, 58, 59, 60, 61, 62, 63, 64, 65, 66, 67, 68, 69, 70, 71, 72, 73] (by decide +kernel) (by decide +kernel)
set_option maxRecDepth 20000 in
theorem gX11_shouldBy_X11_thin : GoodIn wsX11_shouldBy (wsV RX11 190 RX11 yX11_thin wsX11_thin) := goodIn_app (goodIn_of _ (by decide +kernel)) ggX11_shouldBy_X11_thin
set_option maxRecDepth 20000 in
theorem ggX11_shouldBy_X11_many : GoodIn wsX11_shouldBy wsX11_many := goodIn_r _ [41] (by decide +kernel) (by decide +kernel)
set_option maxRecDepth 20000 in
theorem gX11_shouldBy_X11_many : GoodIn wsX11_shouldBy (va_wsS RX11 193 yX11_many wsX11_many) := goodIn_app (goodIn_of _ (by decide +kernel)) ggX11_shouldBy_X11_many
set_option maxRecDepth 20000 in
theorem ggX11_isFill_X11_in : GoodIn wsX11_isFill wsX11_in := goodIn_r _ [8] (by decide +kernel) (by decide +kernel)
set_option maxRecDepth 20000 in
theorem gX11_isFill_X11_in : GoodIn wsX11_isFill (va_wsS RX11 83 yX11_in wsX11_in) := goodIn_app (goodIn_of _ (by decide +kernel)) ggX11_isFill_X11_in
set_option maxRecDepth 20000 in
theorem ggX11_should_X11_isNode : GoodIn wsX11_should wsX11_isNode := goodIn_r _ [5, 6, 7, 8, 9, 4, 10, 11, 12, 13, 65, 66, 67, 68, 69, 70, 71, 72, 73, 74, 75, 76, 77, 78, 79, 80, 81, 82, 83, 84, 85, 86, 87, 88, 89, 90, 91, 92, 93, 94, 95, 96] (by decide +kernel) (by decide +kernel)
set_option maxRecDepth 20000 in
theorem gX11_should_X11_isNode : GoodIn wsX11_should (wsV RX11 157 RX11 yX11_isNode wsX11_isNode) := goodIn_app (goodIn_of _ (by decide +kernel)) ggX11_should_X11_isNode
set_option maxRecDepth 20000 in
theorem ggX11_should_X11_isCup : GoodIn wsX11_should wsX11_isCup := goodIn_r _ [16, 17, 8, 9, 4, 10] (by decide +kernel) (by decide +kernel)
set_option maxRecDepth 20000 in
theorem gX11_should_X11_isCup : GoodIn wsX11_should (va_wsS RX11 162 yX11_isCup wsX11_isCup) := goodIn_app (goodIn_of _ (by decide +kernel)) ggX11_should_X11_isCup
set_option maxRecDepth 20000 in
theorem ggX11_should_X11_isFill : GoodIn wsX11_should wsX11_isFill := goodIn_r _ [21, 22, 7, 23, 24, 8, 9, 4, 10, 65, 66, 67, 68, 69, 70, 71, 72, 73, 74, 75, 76, 77, 78, 79, 80, 81, 82, 83, 84, 85, 86, 87, 88, 89, 90, 91, 92, 93, 94, 95, 96] (by decide +kernel) (by decide +kernel)
set_option maxRecDepth 20000 in
theorem gX11_should_X11_isFill : GoodIn wsX11_should (wsV RX11 200 RX11 yX11_isFill wsX11_isFill) := goodIn_app (goodIn_of _ (by decide +kernel)) ggX11_should_X11_isFill
set_option maxRecDepth 20000 in
theorem ggX11_should_X11_shouldBy : GoodIn wsX11_should wsX11_shouldBy := goodIn_r _ [28, 29, 11, 12, 4, 13, 30, 31, 32, 33, 34, 35, 36, 37, 38, 39, 40, 41, 42, 43, 44, 45, 46, 47, 48, 49, 50, 51, 52, 53, 54, 55, 56, 57, 58, 59, 60, 61, 7, 62, 63, 64, 65, 66, 67, 68, 69, 70, 71, 72, 73, 74, 75, 76, 77, 78, 79, 80, 81, 82, 83, 84, 85, 86, 87, 88, 89, 90, 91, 92, 93, 94, 95, 96] (by decide +kernel) (by decide +kernel)
set_option maxRecDepth 20000 in
theorem gX11_should_X11_shouldBy : GoodIn wsX11_should (wsV RX11 203 RX11 yX11_shouldBy wsX11_shouldBy) := goodIn_app (goodIn_of _ (by decide +kernel)) ggX11_should_X11_shouldBy
set_option maxRecDepth 20000 in
theorem ggX11_found_X11_isCup : GoodIn wsX11_found wsX11_isCup := goodIn_r _ [6, 7, 8, 9, 5, 10] (by decide +kernel) (by decide +kernel)
set_option maxRecDepth 20000 in
theorem gX11_found_X11_isCup : GoodIn wsX11_found (va_wsS RX11 162 yX11_isCup wsX11_isCup) := goodIn_app (goodIn_of _ (by decide +kernel)) ggX11_found_X11_isCup
set_option maxRecDepth 20000 in
theorem ggX11_found_X11_isFill : GoodIn wsX11_found wsX11_isFill := goodIn_r _ [14, 15, 16, 17, 18, 8, 9, 5, 10, 19, 20, 21, 22, 23, 24, 25, 26, 27, 28, 29, 30, 31, 32, 33, 34, 35, 36, 37, 38, 39, 40, 41, 42, 43, 44, 45, 46, 47, 48, 49, 50] (by decide +kernel) (by decide +kernel)
set_option maxRecDepth 20000 in
theorem gX11_found_X11_isFill : GoodIn wsX11_found (wsV RX11 200 RX11 yX11_isFill wsX11_isFill) := goodIn_app (goodIn_of _ (by decide +kernel)) ggX11_found_X11_isFill
set_option maxRecDepth 20000 in
theorem ggX11_thought_X11_shouldBy : GoodIn wsX11_thought wsX11_shouldBy := goodIn_r _ [7, 8, 9, 10, 6, 11, 12, 13, 14, 15, 16, 17, 18, 19, 20, 21, 22, 23, 24, 25, 26, 27, 28, 29, 30, 31, 32, 33, 34, 35, 36, 37, 38, 39, 40, 41, 42, 43, 44, 45, 46, 47, 54, 55, 56, 57, 58, 59, 60, 61, 62, 63, 64, 65, 66, 67, 68, 69, 70, 71, 72, 73, 74, 75, 76, 77, 78, 79, 80, 81, 82, 83, 84, 85] (by decide +kernel) (by decide +kernel)
set_option maxRecDepth 20000 in
theorem gX11_thought_X11_shouldBy : GoodIn wsX11_thought (wsV RX11 203 RX11 yX11_shouldBy wsX11_shouldBy) := goodIn_app (goodIn_of _ (by decide +kernel)) ggX11_thought_X11_shouldBy
set_option maxRecDepth 20000 in
theorem ggX11_thought_X11_yes : GoodIn wsX11_thought wsX11_yes := goodIn_r _ [51, 52, 53, 54, 55, 56, 57, 58, 59, 60, 61, 62, 63, 64, 65, 66, 67, 68, 69, 70, 71, 72, 73, 74, 75, 76, 77, 78, 79, 80, 81, 82, 83, 84, 85] (by decide +kernel) (by decide +kernel)
set_option maxRecDepth 20000 in
theorem gX11_thought_X11_yes : GoodIn wsX11_thought (wsV RX11 210 RX11 yX11_yes wsX11_yes) := goodIn_app (goodIn_of _ (by decide +kernel)) ggX11_thought_X11_yes
set_option maxRecDepth 20000 in
theorem ggX11_sources_X11_has : GoodIn wsX11_sources wsX11_has := goodIn_r _ [6] (by decide +kernel) (by decide +kernel)
set_option maxRecDepth 20000 in
theorem gX11_sources_X11_has : GoodIn wsX11_sources (va_wsS RX11 87 yX11_has wsX11_has) := goodIn_app (goodIn_of _ (by decide +kernel)) ggX11_sources_X11_has
set_option maxRecDepth 20000 in
theorem ggX11_thoughtOf_X11_thought : GoodIn wsX11_thoughtOf wsX11_thought := goodIn_r _ [7, 8, 9, 10, 11, 12, 6, 13, 14, 15, 16, 17, 18, 19, 20, 21, 22, 23, 24, 25, 26, 27, 28, 29, 30, 31, 32, 33, 34, 35, 36, 37, 38, 39, 40, 41, 42, 43, 44, 45, 46, 47, 48, 49, 50, 51, 52, 53, 54, 55, 56, 57, 58, 59, 60, 61, 62, 63, 64, 65, 66, 67, 68, 69, 70, 71, 72, 73, 74, 75, 76, 77, 78, 79, 80, 81, 82, 83, 84, 85, 86, 87, 88, 89, 90, 91] (by decide +kernel) (by decide +kernel)
set_option maxRecDepth 20000 in
theorem gX11_thoughtOf_X11_thought : GoodIn wsX11_thoughtOf (wsV RX11 214 RX11 yX11_thought wsX11_thought) := goodIn_app (goodIn_of _ (by decide +kernel)) ggX11_thoughtOf_X11_thought
set_option maxRecDepth 20000 in
theorem ggX11_allThought_X11_sources : GoodIn wsX11_allThought wsX11_sources := goodIn_r _ [5, 6, 7, 8, 9, 4, 10, 68, 69, 70, 71, 72, 73, 74, 75, 76, 77, 78, 79, 80, 81, 82, 83, 84, 85, 86, 87, 88, 89, 90, 91, 92, 93, 94, 95, 96, 97, 98, 99] (by decide +kernel) (by decide +kernel)
set_option maxRecDepth 20000 in
theorem gX11_allThought_X11_sources : GoodIn wsX11_allThought (wsV RX11 218 RX11 yX11_sources wsX11_sources) := goodIn_app (goodIn_of _ (by decide +kernel)) ggX11_allThought_X11_sources
set_option maxRecDepth 20000 in
theorem ggX11_allThought_X11_thoughtOf : GoodIn wsX11_allThought wsX11_thoughtOf := goodIn_r _ [14, 15, 7, 16, 17, 18, 4, 19, 20, 21, 22, 23, 24, 25, 26, 8, 9, 10, 27, 28, 29, 30, 31, 32, 33, 34, 35, 36, 37, 38, 39, 40, 41, 42, 43, 44, 45, 46, 47, 48, 49, 50, 51, 52, 53, 54, 55, 56, 57, 58, 6, 59, 60, 61, 62, 63, 64, 65, 66, 67, 68, 69, 70, 71, 72, 73, 74, 75, 76, 77, 78, 79, 80, 81, 82, 83, 84, 85, 86, 87, 88, 89, 90, 91, 92, 93, 94, 95, 96, 97, 98, 99] (by decide +kernel) (by decide +kernel)
set_option maxRecDepth 20000 in
theorem gX11_allThought_X11_thoughtOf : GoodIn wsX11_allThought (wsV RX11 221 RX11 yX11_thoughtOf wsX11_thoughtOf) := goodIn_app (goodIn_of _ (by decide +kernel)) ggX11_allThought_X11_thoughtOf
set_option maxRecDepth 20000 in
theorem ggX11_allThought_X11_has : GoodIn wsX11_allThought wsX11_has := goodIn_r _ [10] (by decide +kernel) (by decide +kernel)
set_option maxRecDepth 20000 in
theorem gX11_allThought_X11_has : GoodIn wsX11_allThought (va_wsS RX11 87 yX11_has wsX11_has) := goodIn_app (goodIn_of _ (by decide +kernel)) ggX11_allThought_X11_has
set_option maxRecDepth 20000 in
theorem ggX11_lowest_X11_divisor : GoodIn wsX11_lowest wsX11_divisor := goodIn_r _ [4] (by decide +kernel) (by decide +kernel)
set_option maxRecDepth 20000 in
theorem gX11_lowest_X11_divisor : GoodIn wsX11_lowest (va_wsS RX11 225 yX11_divisor wsX11_divisor) := goodIn_app (goodIn_of _ (by decide +kernel)) ggX11_lowest_X11_divisor
set_option maxRecDepth 20000 in
theorem ggX11_isPart_X11_in : GoodIn wsX11_isPart wsX11_in := goodIn_r _ [4] (by decide +kernel) (by decide +kernel)
set_option maxRecDepth 20000 in
theorem gX11_isPart_X11_in : GoodIn wsX11_isPart (va_wsS RX11 83 yX11_in wsX11_in) := goodIn_app (goodIn_of _ (by decide +kernel)) ggX11_isPart_X11_in
set_option maxRecDepth 20000 in
theorem ggX11_isSource_X11_in : GoodIn wsX11_isSource wsX11_in := goodIn_r _ [5] (by decide +kernel) (by decide +kernel)
set_option maxRecDepth 20000 in
theorem gX11_isSource_X11_in : GoodIn wsX11_isSource (va_wsS RX11 83 yX11_in wsX11_in) := goodIn_app (goodIn_of _ (by decide +kernel)) ggX11_isSource_X11_in
set_option maxRecDepth 20000 in
theorem ggX11_isSource_X11_sources : GoodIn wsX11_isSource wsX11_sources := goodIn_r _ [9, 10, 11, 12, 13, 4, 14, 15, 16, 17, 18, 19, 20, 21, 22, 23, 24, 25, 26, 27, 28, 29, 30, 31, 32, 33, 34, 35, 36, 37, 38, 39, 40, 41, 42, 43, 44, 45, 46] (by decide +kernel) (by decide +kernel)
set_option maxRecDepth 20000 in
theorem gX11_isSource_X11_sources : GoodIn wsX11_isSource (wsV RX11 218 RX11 yX11_sources wsX11_sources) := goodIn_app (goodIn_of _ (by decide +kernel)) ggX11_isSource_X11_sources
set_option maxRecDepth 20000 in
theorem ggX11_isSource_X11_has : GoodIn wsX11_isSource wsX11_has := goodIn_r _ [14] (by decide +kernel) (by decide +kernel)
set_option maxRecDepth 20000 in
theorem gX11_isSource_X11_has : GoodIn wsX11_isSource (va_wsS RX11 87 yX11_has wsX11_has) := goodIn_app (goodIn_of _ (by decide +kernel)) ggX11_isSource_X11_has
set_option maxRecDepth 20000 in
theorem ggX11_chance_X11_isSource : GoodIn wsX11_chance wsX11_isSource := goodIn_r _ [8, 9, 10, 11, 7, 12, 13, 14, 15, 16, 17, 18, 19, 20, 21, 92, 93, 94, 95, 96, 97, 98, 99, 100, 101, 102, 103, 104, 105, 106, 107, 108, 109, 110, 111, 112, 113, 114, 115, 116, 117, 118, 119, 120, 121, 122, 123] (by decide +kernel) (by decide +kernel)
set_option maxRecDepth 20000 in
theorem gX11_chance_X11_isSource : GoodIn wsX11_chance (wsV RX11 229 RX11 yX11_isSource wsX11_isSource) := goodIn_app (goodIn_of _ (by decide +kernel)) ggX11_chance_X11_isSource
set_option maxRecDepth 20000 in
theorem ggX11_chance_X11_isPart : GoodIn wsX11_chance wsX11_isPart := goodIn_r _ [24, 10, 11, 7, 12] (by decide +kernel) (by decide +kernel)
set_option maxRecDepth 20000 in
theorem gX11_chance_X11_isPart : GoodIn wsX11_chance (va_wsS RX11 234 yX11_isPart wsX11_isPart) := goodIn_app (goodIn_of _ (by decide +kernel)) ggX11_chance_X11_isPart
set_option maxRecDepth 20000 in
theorem ggX11_chance_X11_allThought : GoodIn wsX11_chance wsX11_allThought := goodIn_r _ [28, 13, 14, 15, 7, 16, 17, 18, 19, 20, 21, 29, 30, 31, 32, 33, 34, 35, 36, 37, 38, 39, 40, 41, 42, 43, 44, 45, 46, 47, 48, 49, 50, 51, 52, 53, 54, 55, 56, 57, 58, 59, 60, 61, 62, 63, 64, 65, 66, 67, 68, 69, 70, 71, 72, 73, 74, 75, 76, 77, 78, 79, 80, 81, 82, 83, 84, 85, 92, 93, 94, 95, 96, 97, 98, 99, 100, 101, 102, 103, 104, 105, 106, 107, 108, 109, 110, 111, 112, 113, 114, 115, 116, 117, 118, 119, 120, 121, 122, 123] (by decide +kernel) (by decide +kernel)
set_option maxRecDepth 20000 in
theorem gX11_chance_X11_allThought : GoodIn wsX11_chance (wsV RX11 239 RX11 yX11_allThought wsX11_allThought) := goodIn_app (goodIn_of _ (by decide +kernel)) ggX11_chance_X11_allThought
set_option maxRecDepth 20000 in
theorem ggX11_chance_X11_thoughtOf : GoodIn wsX11_chance wsX11_thoughtOf := goodIn_r _ [32, 33, 18, 34, 35, 36, 7, 37, 38, 39, 40, 41, 42, 43, 44, 19, 20, 21, 45, 46, 47, 48, 49, 50, 51, 52, 53, 54, 55, 56, 57, 58, 59, 60, 61, 62, 63, 64, 65, 66, 67, 68, 69, 70, 71, 72, 73, 74, 75, 76, 17, 77, 78, 79, 80, 81, 82, 83, 84, 85, 92, 93, 94, 95, 96, 97, 98, 99, 100, 101, 102, 103, 104, 105, 106, 107, 108, 109, 110, 111, 112, 113, 114, 115, 116, 117, 118, 119, 120, 121, 122, 123] (by decide +kernel) (by decide +kernel)
set_option maxRecDepth 20000 in
theorem gX11_chance_X11_thoughtOf : GoodIn wsX11_chance (wsV RX11 221 RX11 yX11_thoughtOf wsX11_thoughtOf) := goodIn_app (goodIn_of _ (by decide +kernel)) ggX11_chance_X11_thoughtOf
set_option maxRecDepth 20000 in
theorem ggX11_chance_X11_lowest : GoodIn wsX11_chance wsX11_lowest := goodIn_r _ [88, 89, 90, 7, 91] (by decide +kernel) (by decide +kernel)
set_option maxRecDepth 20000 in
theorem gX11_chance_X11_lowest : GoodIn wsX11_chance (va_wsS RX11 245 yX11_lowest wsX11_lowest) := goodIn_app (goodIn_of _ (by decide +kernel)) ggX11_chance_X11_lowest
set_option maxRecDepth 20000 in
theorem ggX11_pair_X11_thought : GoodIn wsX11_pair wsX11_thought := goodIn_r _ [6, 7, 8, 9, 10, 11, 5, 12, 13, 14, 15, 16, 17, 18, 19, 20, 21, 22, 23, 24, 25, 26, 27, 28, 29, 30, 31, 32, 33, 34, 35, 36, 37, 38, 39, 40, 41, 42, 43, 44, 45, 46, 47, 48, 49, 50, 51, 52, 53, 54, 55, 56, 57, 58, 59, 60, 61, 62, 63, 64, 65, 66, 67, 68, 69, 70, 71, 72, 73, 74, 75, 76, 77, 78, 79, 80, 81, 82, 83, 84, 85, 86, 87, 88, 89, 90] (by decide +kernel) (by decide +kernel)
set_option maxRecDepth 20000 in
theorem gX11_pair_X11_thought : GoodIn wsX11_pair (wsV RX11 214 RX11 yX11_thought wsX11_thought) := goodIn_app (goodIn_of _ (by decide +kernel)) ggX11_pair_X11_thought
set_option maxRecDepth 20000 in
theorem ggX11_two_X11_isSource : GoodIn wsX11_two wsX11_isSource := goodIn_r _ [8, 9, 10, 11, 7, 12, 13, 14, 15, 16, 17, 18, 19, 20, 21, 87, 88, 89, 90, 91, 92, 93, 94, 95, 96, 97, 98, 99, 100, 101, 102, 103, 104, 105, 106, 107, 108, 109, 110, 111, 112, 113, 114, 115, 116, 117, 118] (by decide +kernel) (by decide +kernel)
set_option maxRecDepth 20000 in
theorem gX11_two_X11_isSource : GoodIn wsX11_two (wsV RX11 229 RX11 yX11_isSource wsX11_isSource) := goodIn_app (goodIn_of _ (by decide +kernel)) ggX11_two_X11_isSource
set_option maxRecDepth 20000 in
theorem ggX11_two_X11_isPart : GoodIn wsX11_two wsX11_isPart := goodIn_r _ [24, 10, 11, 7, 12] (by decide +kernel) (by decide +kernel)
set_option maxRecDepth 20000 in
theorem gX11_two_X11_isPart : GoodIn wsX11_two (va_wsS RX11 234 yX11_isPart wsX11_isPart) := goodIn_app (goodIn_of _ (by decide +kernel)) ggX11_two_X11_isPart
set_option maxRecDepth 20000 in
theorem ggX11_two_X11_sources : GoodIn wsX11_two wsX11_sources := goodIn_r _ [16, 17, 18, 19, 20, 7, 21, 87, 88, 89, 90, 91, 92, 93, 94, 95, 96, 97, 98, 99, 100, 101, 102, 103, 104, 105, 106, 107, 108, 109, 110, 111, 112, 113, 114, 115, 116, 117, 118] (by decide +kernel) (by decide +kernel)
set_option maxRecDepth 20000 in
theorem gX11_two_X11_sources : GoodIn wsX11_two (wsV RX11 218 RX11 yX11_sources wsX11_sources) := goodIn_app (goodIn_of _ (by decide +kernel)) ggX11_two_X11_sources
set_option maxRecDepth 20000 in
theorem ggX11_two_X11_has : GoodIn wsX11_two wsX11_has := goodIn_r _ [21] (by decide +kernel) (by decide +kernel)
set_option maxRecDepth 20000 in
theorem gX11_two_X11_has : GoodIn wsX11_two (va_wsS RX11 87 yX11_has wsX11_has) := goodIn_app (goodIn_of _ (by decide +kernel)) ggX11_two_X11_has
set_option maxRecDepth 20000 in
theorem ggX11_two_X11_pair : GoodIn wsX11_two wsX11_pair := goodIn_r _ [28, 18, 29, 30, 31, 7, 32, 33, 34, 35, 36, 37, 38, 39, 19, 20, 21, 40, 41, 42, 43, 44, 45, 46, 47, 48, 49, 50, 51, 52, 53, 54, 55, 56, 57, 58, 59, 60, 61, 62, 63, 64, 65, 66, 67, 68, 69, 70, 71, 17, 72, 73, 74, 75, 76, 77, 78, 79, 80, 87, 88, 89, 90, 91, 92, 93, 94, 95, 96, 97, 98, 99, 100, 101, 102, 103, 104, 105, 106, 107, 108, 109, 110, 111, 112, 113, 114, 115, 116, 117, 118] (by decide +kernel) (by decide +kernel)
set_option maxRecDepth 20000 in
theorem gX11_two_X11_pair : GoodIn wsX11_two (wsV RX11 249 RX11 yX11_pair wsX11_pair) := goodIn_app (goodIn_of _ (by decide +kernel)) ggX11_two_X11_pair
set_option maxRecDepth 20000 in
theorem ggX11_two_X11_lowest : GoodIn wsX11_two wsX11_lowest := goodIn_r _ [83, 84, 85, 7, 86] (by decide +kernel) (by decide +kernel)
set_option maxRecDepth 20000 in
theorem gX11_two_X11_lowest : GoodIn wsX11_two (va_wsS RX11 245 yX11_lowest wsX11_lowest) := goodIn_app (goodIn_of _ (by decide +kernel)) ggX11_two_X11_lowest
set_option maxRecDepth 20000 in
theorem ggX11_worth_X11_isCup : GoodIn wsX11_worth wsX11_isCup := goodIn_r _ [8, 9, 10, 11, 7, 12] (by decide +kernel) (by decide +kernel)
set_option maxRecDepth 20000 in
theorem gX11_worth_X11_isCup : GoodIn wsX11_worth (va_wsS RX11 162 yX11_isCup wsX11_isCup) := goodIn_app (goodIn_of _ (by decide +kernel)) ggX11_worth_X11_isCup
set_option maxRecDepth 20000 in
theorem ggX11_worth_X11_isFill : GoodIn wsX11_worth wsX11_isFill := goodIn_r _ [16, 17, 18, 19, 20, 10, 11, 7, 12, 99, 100, 101, 102, 103, 104, 105, 106, 107, 108, 109, 110, 111, 112, 113, 114, 115, 116, 117, 118, 119, 120, 121, 122, 123, 124, 125, 126, 127, 128, 129, 130] (by decide +kernel) (by decide +kernel)
set_option maxRecDepth 20000 in
theorem gX11_worth_X11_isFill : GoodIn wsX11_worth (wsV RX11 200 RX11 yX11_isFill wsX11_isFill) := goodIn_app (goodIn_of _ (by decide +kernel)) ggX11_worth_X11_isFill
set_option maxRecDepth 20000 in
theorem ggX11_worth_X11_isPart : GoodIn wsX11_worth wsX11_isPart := goodIn_r _ [23, 10, 11, 7, 12] (by decide +kernel) (by decide +kernel)
set_option maxRecDepth 20000 in
theorem gX11_worth_X11_isPart : GoodIn wsX11_worth (va_wsS RX11 234 yX11_isPart wsX11_isPart) := goodIn_app (goodIn_of _ (by decide +kernel)) ggX11_worth_X11_isPart
set_option maxRecDepth 20000 in
theorem ggX11_worth_X11_allThought : GoodIn wsX11_worth wsX11_allThought := goodIn_r _ [27, 28, 29, 30, 7, 31, 18, 32, 33, 34, 35, 36, 37, 38, 39, 40, 41, 42, 43, 44, 45, 46, 47, 48, 49, 50, 51, 52, 53, 54, 55, 56, 57, 58, 59, 60, 61, 62, 63, 64, 65, 66, 67, 68, 69, 70, 71, 72, 73, 74, 75, 76, 77, 78, 79, 80, 81, 82, 83, 84, 85, 86, 87, 88, 89, 90, 91, 92, 99, 100, 101, 102, 103, 104, 105, 106, 107, 108, 109, 110, 111, 112, 113, 114, 115, 116, 117, 118, 119, 120, 121, 122, 123, 124, 125, 126, 127, 128, 129, 130] (by decide +kernel) (by decide +kernel)
set_option maxRecDepth 20000 in
theorem gX11_worth_X11_allThought : GoodIn wsX11_worth (wsV RX11 239 RX11 yX11_allThought wsX11_allThought) := goodIn_app (goodIn_of _ (by decide +kernel)) ggX11_worth_X11_allThought
set_option maxRecDepth 20000 in
theorem ggX11_worth_X11_sources : GoodIn wsX11_worth wsX11_sources := goodIn_r _ [31, 18, 32, 33, 34, 7, 35, 99, 100, 101, 102, 103, 104, 105, 106, 107, 108, 109, 110, 111, 112, 113, 114, 115, 116, 117, 118, 119, 120, 121, 122, 123, 124, 125, 126, 127, 128, 129, 130] (by decide +kernel) (by decide +kernel)
set_option maxRecDepth 20000 in
theorem gX11_worth_X11_sources : GoodIn wsX11_worth (wsV RX11 218 RX11 yX11_sources wsX11_sources) := goodIn_app (goodIn_of _ (by decide +kernel)) ggX11_worth_X11_sources
set_option maxRecDepth 20000 in
theorem ggX11_worth_X11_thoughtOf : GoodIn wsX11_worth wsX11_thoughtOf := goodIn_r _ [39, 40, 32, 41, 42, 43, 7, 44, 45, 46, 47, 48, 49, 50, 51, 33, 34, 35, 52, 53, 54, 55, 56, 57, 58, 59, 60, 61, 62, 63, 64, 65, 66, 67, 68, 69, 70, 71, 72, 73, 74, 75, 76, 77, 78, 79, 80, 81, 82, 83, 18, 84, 85, 86, 87, 88, 89, 90, 91, 92, 99, 100, 101, 102, 103, 104, 105, 106, 107, 108, 109, 110, 111, 112, 113, 114, 115, 116, 117, 118, 119, 120, 121, 122, 123, 124, 125, 126, 127, 128, 129, 130] (by decide +kernel) (by decide +kernel)
set_option maxRecDepth 20000 in
theorem gX11_worth_X11_thoughtOf : GoodIn wsX11_worth (wsV RX11 221 RX11 yX11_thoughtOf wsX11_thoughtOf) := goodIn_app (goodIn_of _ (by decide +kernel)) ggX11_worth_X11_thoughtOf
set_option maxRecDepth 20000 in
theorem ggX11_worth_X11_yes : GoodIn wsX11_worth wsX11_yes := goodIn_r _ [90, 91, 92, 99, 100, 101, 102, 103, 104, 105, 106, 107, 108, 109, 110, 111, 112, 113, 114, 115, 116, 117, 118, 119, 120, 121, 122, 123, 124, 125, 126, 127, 128, 129, 130] (by decide +kernel) (by decide +kernel)
set_option maxRecDepth 20000 in
theorem gX11_worth_X11_yes : GoodIn wsX11_worth (wsV RX11 210 RX11 yX11_yes wsX11_yes) := goodIn_app (goodIn_of _ (by decide +kernel)) ggX11_worth_X11_yes
set_option maxRecDepth 20000 in
theorem ggX11_worth_X11_has : GoodIn wsX11_worth wsX11_has := goodIn_r _ [35] (by decide +kernel) (by decide +kernel)
set_option maxRecDepth 20000 in
theorem gX11_worth_X11_has : GoodIn wsX11_worth (va_wsS RX11 87 yX11_has wsX11_has) := goodIn_app (goodIn_of _ (by decide +kernel)) ggX11_worth_X11_has
set_option maxRecDepth 20000 in
theorem ggX11_worth_X11_shouldBy : GoodIn wsX11_worth wsX11_shouldBy := goodIn_r _ [50, 51, 33, 34, 7, 35, 52, 53, 54, 55, 56, 57, 58, 59, 60, 61, 62, 63, 64, 65, 66, 67, 68, 69, 70, 71, 72, 73, 74, 75, 76, 77, 78, 79, 80, 81, 82, 83, 18, 84, 85, 86, 99, 100, 101, 102, 103, 104, 105, 106, 107, 108, 109, 110, 111, 112, 113, 114, 115, 116, 117, 118, 119, 120, 121, 122, 123, 124, 125, 126, 127, 128, 129, 130] (by decide +kernel) (by decide +kernel)
set_option maxRecDepth 20000 in
theorem gX11_worth_X11_shouldBy : GoodIn wsX11_worth (wsV RX11 203 RX11 yX11_shouldBy wsX11_shouldBy) := goodIn_app (goodIn_of _ (by decide +kernel)) ggX11_worth_X11_shouldBy
set_option maxRecDepth 20000 in
theorem ggX11_worth_X11_lowest : GoodIn wsX11_worth wsX11_lowest := goodIn_r _ [95, 96, 97, 7, 98] (by decide +kernel) (by decide +kernel)
set_option maxRecDepth 20000 in
theorem gX11_worth_X11_lowest : GoodIn wsX11_worth (va_wsS RX11 245 yX11_lowest wsX11_lowest) := goodIn_app (goodIn_of _ (by decide +kernel)) ggX11_worth_X11_lowest
set_option maxRecDepth 20000 in
theorem ggX11_likeliest_X11_sources : GoodIn wsX11_likeliest wsX11_sources := goodIn_r _ [5, 6, 7, 8, 9, 4, 10, 68, 69, 70, 71, 72, 73, 74, 75, 76, 77, 78, 79, 80, 81, 82, 83, 84, 85, 86, 87, 88, 89, 90, 91, 92, 93, 94, 95, 96, 97, 98, 99] (by decide +kernel) (by decide +kernel)
set_option maxRecDepth 20000 in
theorem gX11_likeliest_X11_sources : GoodIn wsX11_likeliest (wsV RX11 218 RX11 yX11_sources wsX11_sources) := goodIn_app (goodIn_of _ (by decide +kernel)) ggX11_likeliest_X11_sources
set_option maxRecDepth 20000 in
theorem ggX11_likeliest_X11_thoughtOf : GoodIn wsX11_likeliest wsX11_thoughtOf := goodIn_r _ [14, 15, 7, 16, 17, 18, 4, 19, 20, 21, 22, 23, 24, 25, 26, 8, 9, 10, 27, 28, 29, 30, 31, 32, 33, 34, 35, 36, 37, 38, 39, 40, 41, 42, 43, 44, 45, 46, 47, 48, 49, 50, 51, 52, 53, 54, 55, 56, 57, 58, 6, 59, 60, 61, 62, 63, 64, 65, 66, 67, 68, 69, 70, 71, 72, 73, 74, 75, 76, 77, 78, 79, 80, 81, 82, 83, 84, 85, 86, 87, 88, 89, 90, 91, 92, 93, 94, 95, 96, 97, 98, 99] (by decide +kernel) (by decide +kernel)
set_option maxRecDepth 20000 in
theorem gX11_likeliest_X11_thoughtOf : GoodIn wsX11_likeliest (wsV RX11 221 RX11 yX11_thoughtOf wsX11_thoughtOf) := goodIn_app (goodIn_of _ (by decide +kernel)) ggX11_likeliest_X11_thoughtOf
set_option maxRecDepth 20000 in
theorem ggX11_likeliest_X11_has : GoodIn wsX11_likeliest wsX11_has := goodIn_r _ [10] (by decide +kernel) (by decide +kernel)
set_option maxRecDepth 20000 in
theorem gX11_likeliest_X11_has : GoodIn wsX11_likeliest (va_wsS RX11 87 yX11_has wsX11_has) := goodIn_app (goodIn_of _ (by decide +kernel)) ggX11_likeliest_X11_has
set_option maxRecDepth 20000 in
theorem ggX11_lacks_X11_in : GoodIn wsX11_lacks wsX11_in := goodIn_r _ [8] (by decide +kernel) (by decide +kernel)
set_option maxRecDepth 20000 in
theorem gX11_lacks_X11_in : GoodIn wsX11_lacks (va_wsS RX11 83 yX11_in wsX11_in) := goodIn_app (goodIn_of _ (by decide +kernel)) ggX11_lacks_X11_in
set_option maxRecDepth 20000 in
theorem ggX11_lacks_X11_has : GoodIn wsX11_lacks wsX11_has := goodIn_r _ [11] (by decide +kernel) (by decide +kernel)
set_option maxRecDepth 20000 in
theorem gX11_lacks_X11_has : GoodIn wsX11_lacks (va_wsS RX11 87 yX11_has wsX11_has) := goodIn_app (goodIn_of _ (by decide +kernel)) ggX11_lacks_X11_has
set_option maxRecDepth 20000 in
theorem ggX11_lacks_X11_shouldBy : GoodIn wsX11_lacks wsX11_shouldBy := goodIn_r _ [15, 16, 9, 10, 7, 11, 17, 18, 19, 20, 21, 22, 23, 24, 25, 26, 27, 28, 29, 30, 31, 32, 33, 34, 35, 36, 37, 38, 39, 40, 41, 42, 43, 44, 45, 46, 47, 48, 2, 49, 50, 51, 52, 53, 54, 55, 56, 57, 58, 59, 60, 61, 62, 63, 64, 65, 66, 67, 68, 69, 70, 71, 72, 73, 74, 75, 76, 77, 78, 79, 80, 81, 82, 83] (by decide +kernel) (by decide +kernel)
set_option maxRecDepth 20000 in
theorem gX11_lacks_X11_shouldBy : GoodIn wsX11_lacks (wsV RX11 203 RX11 yX11_shouldBy wsX11_shouldBy) := goodIn_app (goodIn_of _ (by decide +kernel)) ggX11_lacks_X11_shouldBy
set_option maxRecDepth 20000 in
theorem ggX11_layWays_X11_has : GoodIn wsX11_layWays wsX11_has := goodIn_r _ [7] (by decide +kernel) (by decide +kernel)
set_option maxRecDepth 20000 in
theorem gX11_layWays_X11_has : GoodIn wsX11_layWays (va_wsS RX11 87 yX11_has wsX11_has) := goodIn_app (goodIn_of _ (by decide +kernel)) ggX11_layWays_X11_has
set_option maxRecDepth 20000 in
theorem ggX11_layWays_X11_aboveOf : GoodIn wsX11_layWays wsX11_aboveOf := goodIn_r _ [11, 2, 4, 5, 6, 7, 12, 13, 14, 15, 16, 22, 23, 24, 25, 26, 27, 28, 29, 30, 31, 32, 33, 34, 35, 36, 37, 38, 39, 40, 41, 42, 43, 44, 45, 46, 47, 48, 49, 50, 51, 52, 53] (by decide +kernel) (by decide +kernel)
set_option maxRecDepth 20000 in
theorem gX11_layWays_X11_aboveOf : GoodIn wsX11_layWays (wsV RX11 168 RX11 yX11_aboveOf wsX11_aboveOf) := goodIn_app (goodIn_of _ (by decide +kernel)) ggX11_layWays_X11_aboveOf
set_option maxRecDepth 20000 in
theorem ggX11_layWays_X11_walkOf : GoodIn wsX11_layWays wsX11_walkOf := goodIn_r _ [20, 21, 12, 13, 14, 6, 15, 16, 4, 5, 7, 22, 23, 24, 25, 26, 27, 28, 29, 30, 31, 32, 33, 34, 35, 36, 37, 38, 39, 40, 41, 42, 43, 44, 45, 46, 47, 48, 49, 50, 51, 52, 53] (by decide +kernel) (by decide +kernel)
set_option maxRecDepth 20000 in
theorem gX11_layWays_X11_walkOf : GoodIn wsX11_layWays (wsV RX11 171 RX11 yX11_walkOf wsX11_walkOf) := goodIn_app (goodIn_of _ (by decide +kernel)) ggX11_layWays_X11_walkOf
set_option maxRecDepth 20000 in
theorem ggX11_parts_X11_has : GoodIn wsX11_parts wsX11_has := goodIn_r _ [6] (by decide +kernel) (by decide +kernel)
set_option maxRecDepth 20000 in
theorem gX11_parts_X11_has : GoodIn wsX11_parts (va_wsS RX11 87 yX11_has wsX11_has) := goodIn_app (goodIn_of _ (by decide +kernel)) ggX11_parts_X11_has
set_option maxRecDepth 20000 in
theorem ggX11_fewBy_X11_greater : GoodIn wsX11_fewBy wsX11_greater := goodIn_r _ [6] (by decide +kernel) (by decide +kernel)
set_option maxRecDepth 20000 in
theorem gX11_fewBy_X11_greater : GoodIn wsX11_fewBy (va_wsS RX11 257 yX11_greater wsX11_greater) := goodIn_app (goodIn_of _ (by decide +kernel)) ggX11_fewBy_X11_greater
set_option maxRecDepth 20000 in
theorem ggX11_layFew_X11_layWays : GoodIn wsX11_layFew wsX11_layWays := goodIn_r _ [7, 8, 9, 10, 11, 12, 6, 13, 14, 15, 16, 17, 18, 19, 20, 21, 22, 23, 24, 25, 26, 27, 42, 43, 44, 45, 46, 47, 48, 49, 50, 51, 52, 53, 54, 55, 56, 57, 58, 59, 60, 61, 62, 63, 64, 65, 66, 67, 68, 69, 70, 71, 72, 73] (by decide +kernel) (by decide +kernel)
set_option maxRecDepth 20000 in
theorem gX11_layFew_X11_layWays : GoodIn wsX11_layFew (wsV RX11 260 RX11 yX11_layWays wsX11_layWays) := goodIn_app (goodIn_of _ (by decide +kernel)) ggX11_layFew_X11_layWays
set_option maxRecDepth 20000 in
theorem ggX11_layFew_X11_many : GoodIn wsX11_layFew wsX11_many := goodIn_r _ [30] (by decide +kernel) (by decide +kernel)
set_option maxRecDepth 20000 in
theorem gX11_layFew_X11_many : GoodIn wsX11_layFew (va_wsS RX11 193 yX11_many wsX11_many) := goodIn_app (goodIn_of _ (by decide +kernel)) ggX11_layFew_X11_many
set_option maxRecDepth 20000 in
theorem ggX11_layFew_X11_parts : GoodIn wsX11_layFew wsX11_parts := goodIn_r _ [34, 9, 8, 11, 12, 6, 13, 42, 43, 44, 45, 46, 47, 48, 49, 50, 51, 52, 53, 54, 55, 56, 57, 58, 59, 60, 61, 62, 63, 64, 65, 66, 67, 68, 69, 70, 71, 72, 73] (by decide +kernel) (by decide +kernel)
set_option maxRecDepth 20000 in
theorem gX11_layFew_X11_parts : GoodIn wsX11_layFew (wsV RX11 264 RX11 yX11_parts wsX11_parts) := goodIn_app (goodIn_of _ (by decide +kernel)) ggX11_layFew_X11_parts
set_option maxRecDepth 20000 in
theorem ggX11_layFew_X11_fewBy : GoodIn wsX11_layFew wsX11_fewBy := goodIn_r _ [38, 1, 8, 39, 40, 6, 41, 42, 43, 44, 45, 46, 47, 48, 49, 50, 51, 52, 53, 54, 55, 56, 57, 58, 59, 60, 61, 62, 63, 64, 65, 66, 67, 68, 69, 70, 71, 72, 73] (by decide +kernel) (by decide +kernel)
set_option maxRecDepth 20000 in
theorem gX11_layFew_X11_fewBy : GoodIn wsX11_layFew (wsV RX11 267 RX11 yX11_fewBy wsX11_fewBy) := goodIn_app (goodIn_of _ (by decide +kernel)) ggX11_layFew_X11_fewBy
set_option maxRecDepth 20000 in
theorem ggX11_fewest_X11_in : GoodIn wsX11_fewest wsX11_in := goodIn_r _ [5] (by decide +kernel) (by decide +kernel)
set_option maxRecDepth 20000 in
theorem gX11_fewest_X11_in : GoodIn wsX11_fewest (va_wsS RX11 83 yX11_in wsX11_in) := goodIn_app (goodIn_of _ (by decide +kernel)) ggX11_fewest_X11_in
set_option maxRecDepth 20000 in
theorem ggX11_fewest_X11_sources : GoodIn wsX11_fewest wsX11_sources := goodIn_r _ [9, 10, 11, 12, 13, 4, 14, 54, 55, 56, 57, 58, 59, 60, 61, 62, 63, 64, 65, 66, 67, 68, 69, 70, 71, 72, 73, 74, 75, 76, 77, 78, 79, 80, 81, 82, 83, 84, 85] (by decide +kernel) (by decide +kernel)
set_option maxRecDepth 20000 in
theorem gX11_fewest_X11_sources : GoodIn wsX11_fewest (wsV RX11 218 RX11 yX11_sources wsX11_sources) := goodIn_app (goodIn_of _ (by decide +kernel)) ggX11_fewest_X11_sources
set_option maxRecDepth 20000 in
theorem ggX11_fewest_X11_layFew : GoodIn wsX11_fewest wsX11_layFew := goodIn_r _ [18, 1, 19, 20, 21, 22, 4, 23, 24, 10, 25, 12, 13, 14, 26, 27, 28, 29, 30, 31, 32, 33, 34, 35, 36, 37, 38, 39, 40, 41, 42, 43, 44, 45, 46, 47, 48, 49, 50, 51, 52, 53, 54, 55, 56, 57, 58, 59, 60, 61, 62, 63, 64, 65, 66, 67, 68, 69, 70, 71, 72, 73, 74, 75, 76, 77, 78, 79, 80, 81, 82, 83, 84, 85] (by decide +kernel) (by decide +kernel)
set_option maxRecDepth 20000 in
theorem gX11_fewest_X11_layFew : GoodIn wsX11_fewest (wsV RX11 270 RX11 yX11_layFew wsX11_layFew) := goodIn_app (goodIn_of _ (by decide +kernel)) ggX11_fewest_X11_layFew
set_option maxRecDepth 20000 in
theorem ggX11_fewest_X11_parts : GoodIn wsX11_fewest wsX11_parts := goodIn_r _ [46, 10, 24, 12, 13, 4, 14, 54, 55, 56, 57, 58, 59, 60, 61, 62, 63, 64, 65, 66, 67, 68, 69, 70, 71, 72, 73, 74, 75, 76, 77, 78, 79, 80, 81, 82, 83, 84, 85] (by decide +kernel) (by decide +kernel)
set_option maxRecDepth 20000 in
theorem gX11_fewest_X11_parts : GoodIn wsX11_fewest (wsV RX11 264 RX11 yX11_parts wsX11_parts) := goodIn_app (goodIn_of _ (by decide +kernel)) ggX11_fewest_X11_parts
set_option maxRecDepth 20000 in
theorem ggX11_fewest_X11_fewBy : GoodIn wsX11_fewest wsX11_fewBy := goodIn_r _ [50, 1, 24, 51, 52, 4, 53, 54, 55, 56, 57, 58, 59, 60, 61, 62, 63, 64, 65, 66, 67, 68, 69, 70, 71, 72, 73, 74, 75, 76, 77, 78, 79, 80, 81, 82, 83, 84, 85] (by decide +kernel) (by decide +kernel)
set_option maxRecDepth 20000 in
theorem gX11_fewest_X11_fewBy : GoodIn wsX11_fewest (wsV RX11 267 RX11 yX11_fewBy wsX11_fewBy) := goodIn_app (goodIn_of _ (by decide +kernel)) ggX11_fewest_X11_fewBy
set_option maxRecDepth 20000 in
theorem ggX11_likelyOf_X11_has : GoodIn wsX11_likelyOf wsX11_has := goodIn_r _ [5] (by decide +kernel) (by decide +kernel)
set_option maxRecDepth 20000 in
theorem gX11_likelyOf_X11_has : GoodIn wsX11_likelyOf (va_wsS RX11 87 yX11_has wsX11_has) := goodIn_app (goodIn_of _ (by decide +kernel)) ggX11_likelyOf_X11_has
set_option maxRecDepth 20000 in
theorem ggX11_mean_X11_isPart : GoodIn wsX11_mean wsX11_isPart := goodIn_r _ [7, 8, 9, 6, 10] (by decide +kernel) (by decide +kernel)
set_option maxRecDepth 20000 in
theorem gX11_mean_X11_isPart : GoodIn wsX11_mean (va_wsS RX11 234 yX11_isPart wsX11_isPart) := goodIn_app (goodIn_of _ (by decide +kernel)) ggX11_mean_X11_isPart
set_option maxRecDepth 20000 in
theorem ggX11_mean_X11_sources : GoodIn wsX11_mean wsX11_sources := goodIn_r _ [14, 15, 16, 17, 18, 6, 19, 56, 57, 58, 59, 60, 61, 62, 63, 64, 65, 66, 67, 68, 69, 70, 71, 72, 73, 74, 75, 76, 77, 78, 79, 80, 81, 82, 83, 84, 85, 86, 87] (by decide +kernel) (by decide +kernel)
set_option maxRecDepth 20000 in
theorem gX11_mean_X11_sources : GoodIn wsX11_mean (wsV RX11 218 RX11 yX11_sources wsX11_sources) := goodIn_app (goodIn_of _ (by decide +kernel)) ggX11_mean_X11_sources
set_option maxRecDepth 20000 in
theorem ggX11_mean_X11_layWays : GoodIn wsX11_mean wsX11_layWays := goodIn_r _ [23, 3, 15, 24, 17, 18, 6, 19, 25, 26, 27, 28, 29, 30, 31, 32, 33, 34, 35, 36, 37, 38, 56, 57, 58, 59, 60, 61, 62, 63, 64, 65, 66, 67, 68, 69, 70, 71, 72, 73, 74, 75, 76, 77, 78, 79, 80, 81, 82, 83, 84, 85, 86, 87] (by decide +kernel) (by decide +kernel)
set_option maxRecDepth 20000 in
theorem gX11_mean_X11_layWays : GoodIn wsX11_mean (wsV RX11 260 RX11 yX11_layWays wsX11_layWays) := goodIn_app (goodIn_of _ (by decide +kernel)) ggX11_mean_X11_layWays
