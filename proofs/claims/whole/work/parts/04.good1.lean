set_option maxRecDepth 20000 in
theorem ggX6_nodesThatFit_X6_trialFits : GoodIn wsX6_nodesThatFit wsX6_trialFits := goodIn_r _ [19, 20, 21, 22, 2, 23, 24, 25, 26, 27, 28, 29, 30, 31, 32, 33, 34, 35, 36, 3, 4, 5, 37, 38, 39, 40, 41, 42, 43, 9, 44, 14, 11, 12, 13, 45, 46, 47, 48, 49, 50, 51, 52, 53, 54, 55, 56, 57, 58, 59, 60, 61, 62, 83, 84, 85, 86, 87, 88, 89, 90, 91, 63, 64, 65, 66, 67, 68, 69, 70, 71, 72, 73, 74, 75, 76, 77, 78, 79, 80, 81, 82] (by decide +kernel) (by decide +kernel)
set_option maxRecDepth 20000 in
theorem gX6_nodesThatFit_X6_trialFits : GoodIn wsX6_nodesThatFit (wsV RX6 127 RX6 yX6_trialFits wsX6_trialFits) := goodIn_app (goodIn_of _ (by decide +kernel)) ggX6_nodesThatFit_X6_trialFits
set_option maxRecDepth 20000 in
theorem ggX6_trialFits_X8_shouldSayYes : GoodIn wsX6_trialFits wsX8_shouldSayYes := goodIn_r _ [9, 10, 11, 12, 13, 8, 14, 15, 16, 17, 18, 19, 20, 21, 22, 23, 24, 25, 26, 27, 28, 29, 30, 31, 32, 33, 34, 35, 36, 37, 38, 39, 53, 54, 55, 56, 57, 58, 59, 60, 61, 62, 63, 64, 65, 66, 67, 68, 69, 70, 71, 72, 73, 74, 75, 76, 77, 78, 79, 80, 81] (by decide +kernel) (by decide +kernel)
set_option maxRecDepth 20000 in
theorem gX6_trialFits_X8_shouldSayYes : GoodIn wsX6_trialFits (wsV RX6 100 RX8 yX8_shouldSayYes wsX8_shouldSayYes) := goodIn_app (goodIn_of _ (by decide +kernel)) ggX6_trialFits_X8_shouldSayYes
set_option maxRecDepth 20000 in
theorem ggX7_tell_X7_layFrom : GoodIn wsX7_tell wsX7_layFrom := goodIn_r _ [9, 10, 11, 12, 13, 14, 15, 16, 8, 17, 18, 19, 20, 21, 41, 42, 43, 44, 45, 46, 47, 48, 49, 50, 51, 52, 53, 54, 55, 56] (by decide +kernel) (by decide +kernel)
set_option maxRecDepth 20000 in
theorem gX7_tell_X7_layFrom : GoodIn wsX7_tell (wsV RX7 57 RX7 yX7_layFrom wsX7_layFrom) := goodIn_app (goodIn_of _ (by decide +kernel)) ggX7_tell_X7_layFrom
set_option maxRecDepth 20000 in
theorem ggX7_tell_X7_letIn : GoodIn wsX7_tell wsX7_letIn := goodIn_r _ [25, 26, 27, 28, 29, 30, 8, 31, 32, 33, 41, 42, 43, 44, 45, 46, 47, 48, 49, 50, 51, 52, 53, 54, 55, 56] (by decide +kernel) (by decide +kernel)
set_option maxRecDepth 20000 in
theorem gX7_tell_X7_letIn : GoodIn wsX7_tell (wsV RX7 61 RX7 yX7_letIn wsX7_letIn) := goodIn_app (goodIn_of _ (by decide +kernel)) ggX7_tell_X7_letIn
set_option maxRecDepth 20000 in
theorem ggX7_tell_X7_openBetween : GoodIn wsX7_tell wsX7_openBetween := goodIn_r _ [31, 32, 33, 41, 42, 43, 44, 45, 46, 47, 48, 49, 50, 51, 52, 53, 54, 55, 56] (by decide +kernel) (by decide +kernel)
set_option maxRecDepth 20000 in
theorem gX7_tell_X7_openBetween : GoodIn wsX7_tell (wsV RX7 65 RX7 yX7_openBetween wsX7_openBetween) := goodIn_app (goodIn_of _ (by decide +kernel)) ggX7_tell_X7_openBetween
set_option maxRecDepth 20000 in
theorem ggX7_tell_X7_giveCup : GoodIn wsX7_tell wsX7_giveCup := goodIn_r _ [37, 38, 39, 40, 41, 42, 43, 44, 45, 46, 47, 48, 49, 50, 51, 52, 53, 54, 55, 56] (by decide +kernel) (by decide +kernel)
set_option maxRecDepth 20000 in
theorem gX7_tell_X7_giveCup : GoodIn wsX7_tell (wsV RX7 68 RX7 yX7_giveCup wsX7_giveCup) := goodIn_app (goodIn_of _ (by decide +kernel)) ggX7_tell_X7_giveCup
set_option maxRecDepth 20000 in
theorem ggX7_layFrom_X10_has : GoodIn wsX7_layFrom wsX10_has := goodIn_r _ [4] (by decide +kernel) (by decide +kernel)
set_option maxRecDepth 20000 in
theorem gX7_layFrom_X10_has_n78 : GoodIn wsX7_layFrom (wsX10_has) := ggX7_layFrom_X10_has
set_option maxRecDepth 20000 in
theorem ggX7_layFrom_X7_lay : GoodIn wsX7_layFrom wsX7_lay := goodIn_r _ [9, 1, 10, 11, 12, 13, 14, 15, 16, 17, 18, 19, 20, 21, 22, 23, 24, 25, 26, 27, 28, 29] (by decide +kernel) (by decide +kernel)
set_option maxRecDepth 20000 in
theorem gX7_layFrom_X7_lay : GoodIn wsX7_layFrom (wsV RX7 82 RX7 yX7_lay wsX7_lay) := goodIn_app (goodIn_of _ (by decide +kernel)) ggX7_layFrom_X7_lay
set_option maxRecDepth 20000 in
theorem ggX7_letIn_X7_openBetween : GoodIn wsX7_letIn wsX7_openBetween := goodIn_r _ [7, 8, 9, 10, 11, 12, 13, 14, 15, 16, 17, 18, 19, 20, 21, 22, 23, 24, 25] (by decide +kernel) (by decide +kernel)
set_option maxRecDepth 20000 in
theorem gX7_letIn_X7_openBetween : GoodIn wsX7_letIn (wsV RX7 65 RX7 yX7_openBetween wsX7_openBetween) := goodIn_app (goodIn_of _ (by decide +kernel)) ggX7_letIn_X7_openBetween
set_option maxRecDepth 20000 in
theorem ggX8_init_X4_init : GoodIn wsX8_init wsX4_init := goodIn_r _ [13, 14, 2, 3, 4, 15, 16, 21, 22, 23, 24] (by decide +kernel) (by decide +kernel)
set_option maxRecDepth 20000 in
theorem gX8_init_X4_init_n29 : GoodIn wsX8_init (wsX4_init) := ggX8_init_X4_init
set_option maxRecDepth 20000 in
theorem ggX8_renew_X8_inflowOf : GoodIn wsX8_renew wsX8_inflowOf := goodIn_r _ [9, 3, 10, 11, 12, 22, 23, 24, 25, 29, 30, 31, 32, 33, 34, 35, 36, 37, 38, 39, 40, 41, 42, 43, 44] (by decide +kernel) (by decide +kernel)
set_option maxRecDepth 20000 in
theorem gX8_renew_X8_inflowOf : GoodIn wsX8_renew (wsV RX8 35 RX8 yX8_inflowOf wsX8_inflowOf) := goodIn_app (goodIn_of _ (by decide +kernel)) ggX8_renew_X8_inflowOf
set_option maxRecDepth 20000 in
theorem ggX8_renew_X10_has : GoodIn wsX8_renew wsX10_has := goodIn_r _ [12] (by decide +kernel) (by decide +kernel)
set_option maxRecDepth 20000 in
theorem gX8_renew_X10_has_n45 : GoodIn wsX8_renew (wsX10_has) := ggX8_renew_X10_has
set_option maxRecDepth 20000 in
theorem ggX8_renew_X4_follow : GoodIn wsX8_renew wsX4_follow := goodIn_r _ [17, 18, 19, 20, 21, 45, 46, 47, 48, 29, 30, 31, 32, 33, 34, 35, 36, 37, 38, 39, 40, 41, 42, 43, 44] (by decide +kernel) (by decide +kernel)
set_option maxRecDepth 20000 in
theorem gX8_renew_X4_follow : GoodIn wsX8_renew (wsV RX8 58 RX4 yX4_follow wsX4_follow) := goodIn_app (goodIn_of _ (by decide +kernel)) ggX8_renew_X4_follow
set_option maxRecDepth 20000 in
theorem ggX8_inflowOf_X10_has : GoodIn wsX8_inflowOf wsX10_has := goodIn_r _ [4] (by decide +kernel) (by decide +kernel)
set_option maxRecDepth 20000 in
theorem gX8_inflowOf_X10_has_n45 : GoodIn wsX8_inflowOf (wsX10_has) := ggX8_inflowOf_X10_has
set_option maxRecDepth 20000 in
theorem ggX8_thinAt_X4_amountAt : GoodIn wsX8_thinAt wsX4_amountAt := goodIn_r _ [5, 6, 7, 8, 9, 17, 18, 19, 20] (by decide +kernel) (by decide +kernel)
set_option maxRecDepth 20000 in
theorem gX8_thinAt_X4_amountAt : GoodIn wsX8_thinAt (wsV RX8 68 RX4 yX4_amountAt wsX4_amountAt) := goodIn_app (goodIn_of _ (by decide +kernel)) ggX8_thinAt_X4_amountAt
set_option maxRecDepth 20000 in
theorem ggX8_thinAt_X8_flowAt : GoodIn wsX8_thinAt wsX8_flowAt := goodIn_r _ [14, 15, 16, 21, 22, 23, 24, 25, 26, 27, 28, 29, 30, 31, 32, 33, 34, 35, 36, 37, 38, 39, 40] (by decide +kernel) (by decide +kernel)
set_option maxRecDepth 20000 in
theorem gX8_thinAt_X8_flowAt : GoodIn wsX8_thinAt (wsV RX8 72 RX8 yX8_flowAt wsX8_flowAt) := goodIn_app (goodIn_of _ (by decide +kernel)) ggX8_thinAt_X8_flowAt
set_option maxRecDepth 20000 in
theorem ggX8_shouldSayYes_X8_pouredTogether : GoodIn wsX8_shouldSayYes wsX8_pouredTogether := goodIn_r _ [6, 7, 8, 9, 10, 11, 12, 13, 14, 15, 16, 5, 17, 18, 19, 20, 21, 22, 23, 24, 25, 26, 27, 28, 29, 30, 31, 1, 57, 58, 59, 60, 37, 38, 39, 40, 41, 42, 43, 44, 45, 46, 47, 48, 49, 50, 51, 52, 53, 54, 55, 56] (by decide +kernel) (by decide +kernel)
set_option maxRecDepth 20000 in
theorem gX8_shouldSayYes_X8_pouredTogether : GoodIn wsX8_shouldSayYes (wsV RX8 86 RX8 yX8_pouredTogether wsX8_pouredTogether) := goodIn_app (goodIn_of _ (by decide +kernel)) ggX8_shouldSayYes_X8_pouredTogether
set_option maxRecDepth 20000 in
theorem ggX8_pouredTogether_X10_has : GoodIn wsX8_pouredTogether wsX10_has := goodIn_r _ [7] (by decide +kernel) (by decide +kernel)
set_option maxRecDepth 20000 in
theorem gX8_pouredTogether_X10_has_n45 : GoodIn wsX8_pouredTogether (wsX10_has) := ggX8_pouredTogether_X10_has
set_option maxRecDepth 20000 in
theorem ggX8_pouredTogether_X8_thinAt : GoodIn wsX8_pouredTogether wsX8_thinAt := goodIn_r _ [12, 13, 14, 15, 16, 17, 18, 19, 20, 21, 22, 23, 24, 11, 25, 26, 27, 28, 29, 30, 31, 32, 33, 34, 35, 36, 37, 38, 39, 40, 41, 42, 43, 44, 45, 46, 47, 48, 49, 50, 51] (by decide +kernel) (by decide +kernel)
set_option maxRecDepth 20000 in
theorem gX8_pouredTogether_X8_thinAt : GoodIn wsX8_pouredTogether (wsV RX8 96 RX8 yX8_thinAt wsX8_thinAt) := goodIn_app (goodIn_of _ (by decide +kernel)) ggX8_pouredTogether_X8_thinAt
set_option maxRecDepth 20000 in
theorem ggX9_renew_X10_has : GoodIn wsX9_renew wsX10_has := goodIn_r _ [6] (by decide +kernel) (by decide +kernel)
set_option maxRecDepth 20000 in
theorem gX9_renew_X10_has_n28 : GoodIn wsX9_renew (wsX10_has) := ggX9_renew_X10_has
set_option maxRecDepth 20000 in
theorem ggX9_renew_X9_standOverAllBelow : GoodIn wsX9_renew wsX9_standOverAllBelow := goodIn_r _ [11, 2, 3, 12, 13, 14, 15, 16, 17, 18, 19, 20, 21, 22, 23, 24, 25, 26, 27, 28, 29, 30] (by decide +kernel) (by decide +kernel)
set_option maxRecDepth 20000 in
theorem gX9_renew_X9_standOverAllBelow : GoodIn wsX9_renew (wsV RX9 32 RX9 yX9_standOverAllBelow wsX9_standOverAllBelow) := goodIn_app (goodIn_of _ (by decide +kernel)) ggX9_renew_X9_standOverAllBelow
set_option maxRecDepth 20000 in
theorem ggX9_likelyOf_X10_has : GoodIn wsX9_likelyOf wsX10_has := goodIn_r _ [4] (by decide +kernel) (by decide +kernel)
set_option maxRecDepth 20000 in
theorem gX9_likelyOf_X10_has_n28 : GoodIn wsX9_likelyOf (wsX10_has) := ggX9_likelyOf_X10_has
set_option maxRecDepth 20000 in
theorem ggX9_allPaces_X10_has : GoodIn wsX9_allPaces wsX10_has := goodIn_r _ [4] (by decide +kernel) (by decide +kernel)
set_option maxRecDepth 20000 in
theorem gX9_allPaces_X10_has_n28 : GoodIn wsX9_allPaces (wsX10_has) := ggX9_allPaces_X10_has
set_option maxRecDepth 20000 in
theorem ggX10_init_X5_init : GoodIn wsX10_init wsX5_init := goodIn_r _ [41, 42, 2, 3, 43, 44, 45, 46, 169, 170, 171, 172, 173, 174, 175] (by decide +kernel) (by decide +kernel)
set_option maxRecDepth 20000 in
theorem gX10_init_X5_init_n9 : GoodIn wsX10_init (wsX5_init) := ggX10_init_X5_init
set_option maxRecDepth 20000 in
theorem ggX10_init_X7_init : GoodIn wsX10_init wsX7_init := goodIn_r _ [49, 50, 2, 3, 43, 51, 52, 53, 54, 55, 56, 57, 58, 59, 60, 61, 62, 63, 64, 185, 186, 187, 188, 189, 190, 191, 192, 193, 194, 195, 196, 197, 198, 199, 200] (by decide +kernel) (by decide +kernel)
set_option maxRecDepth 20000 in
theorem gX10_init_X7_init : GoodIn wsX10_init (wsX7_init) := ggX10_init_X7_init
set_option maxRecDepth 20000 in
theorem ggX10_init_X9_init : GoodIn wsX10_init wsX9_init := goodIn_r _ [67, 68, 2, 3, 43, 69, 70, 201, 202, 203] (by decide +kernel) (by decide +kernel)
set_option maxRecDepth 20000 in
theorem gX10_init_X9_init : GoodIn wsX10_init (wsX9_init) := ggX10_init_X9_init
set_option maxRecDepth 20000 in
theorem ggX10_init_X8_init : GoodIn wsX10_init wsX8_init := goodIn_r _ [73, 74, 2, 3, 43, 75, 76, 77, 78, 79, 80, 81, 82, 83, 84, 85, 86, 204, 205, 206, 207, 244, 245, 246, 247] (by decide +kernel) (by decide +kernel)
set_option maxRecDepth 20000 in
theorem gX10_init_X8_init : GoodIn wsX10_init (wsX8_init) := ggX10_init_X8_init
set_option maxRecDepth 20000 in
theorem ggX10_init_X6_init : GoodIn wsX10_init wsX6_init := goodIn_r _ [89, 90, 2, 3, 91, 92, 93, 80, 81, 94, 95, 96, 97, 98, 99, 100, 37, 38, 82, 83, 84, 43, 85, 86, 101, 102, 103, 208, 209, 210, 211, 212, 213, 214, 215, 216, 217, 218, 219, 220, 244, 245, 246, 247, 239, 240, 241, 242, 243] (by decide +kernel) (by decide +kernel)
set_option maxRecDepth 20000 in
theorem gX10_init_X6_init : GoodIn wsX10_init (wsX6_init) := ggX10_init_X6_init
set_option maxRecDepth 20000 in
theorem ggX10_init_X2_init : GoodIn wsX10_init wsX2_init := goodIn_r _ [106, 107, 2, 3, 43, 108, 109, 110, 111, 112, 221, 222, 223, 224, 225, 226] (by decide +kernel) (by decide +kernel)
set_option maxRecDepth 20000 in
theorem gX10_init_X2_init : GoodIn wsX10_init (wsX2_init) := ggX10_init_X2_init
set_option maxRecDepth 20000 in
theorem ggX10_init_X3_init : GoodIn wsX10_init wsX3_init := goodIn_r _ [115, 116, 2, 3, 43, 117, 118, 119, 120, 227, 228, 229, 230] (by decide +kernel) (by decide +kernel)
set_option maxRecDepth 20000 in
theorem gX10_init_X3_init : GoodIn wsX10_init (wsX3_init) := ggX10_init_X3_init
set_option maxRecDepth 20000 in
theorem ggX10_init_X0_init : GoodIn wsX10_init wsX0_init := goodIn_r _ [123, 124, 2, 3, 125, 126, 127, 231, 232, 233, 234, 235, 236, 237, 238] (by decide +kernel) (by decide +kernel)
set_option maxRecDepth 20000 in
theorem gX10_init_X0_init : GoodIn wsX10_init (wsX0_init) := ggX10_init_X0_init
set_option maxRecDepth 20000 in
theorem ggX10_init_X1_init : GoodIn wsX10_init wsX1_init := goodIn_r _ [102, 103, 2, 3] (by decide +kernel) (by decide +kernel)
set_option maxRecDepth 20000 in
theorem gX10_init_X1_init_n75 : GoodIn wsX10_init (wsX1_init) := ggX10_init_X1_init
set_option maxRecDepth 20000 in
theorem ggX10_init_X10_lookAgain : GoodIn wsX10_init wsX10_lookAgain := goodIn_r _ [132, 15, 19, 23, 27, 133, 134, 135, 14, 136, 137, 69, 70, 138, 131, 139, 140, 141, 142, 143, 144, 145, 146, 18, 147, 75, 79, 78, 77, 148, 149, 150, 151, 152, 153, 154, 81, 155, 156, 157, 85, 86, 158, 159, 160, 22, 161, 162, 163, 164, 165, 166, 26, 167, 168, 176, 177, 178, 179, 180, 181, 182, 183, 184, 201, 202, 203, 185, 186, 187, 188, 189, 190, 191, 192, 193, 194, 195, 196, 197, 198, 199, 200, 204, 205, 206, 207, 244, 245, 246, 247, 208, 209, 210, 211, 212, 213, 214, 215, 216, 217, 218, 219, 220, 221, 222, 223, 224, 225, 226] (by decide +kernel) (by decide +kernel)
set_option maxRecDepth 20000 in
theorem gX10_init_X10_lookAgain : GoodIn wsX10_init (wsV RX10 80 RX10 yX10_lookAgain wsX10_lookAgain) := goodIn_app (goodIn_of _ (by decide +kernel)) ggX10_init_X10_lookAgain
set_option maxRecDepth 20000 in
theorem ggX10_write_X5_append : GoodIn wsX10_write wsX5_append := goodIn_r _ [6, 7, 8, 9, 19, 20, 21, 22, 23, 24, 25] (by decide +kernel) (by decide +kernel)
set_option maxRecDepth 20000 in
theorem gX10_write_X5_append : GoodIn wsX10_write (wsV RX10 87 RX5 yX5_append wsX5_append) := goodIn_app (goodIn_of _ (by decide +kernel)) ggX10_write_X5_append
set_option maxRecDepth 20000 in
theorem ggX10_erase_X5_empty : GoodIn wsX10_erase wsX5_empty := goodIn_r _ [6, 7, 17, 18, 19, 20, 21, 22, 23] (by decide +kernel) (by decide +kernel)
set_option maxRecDepth 20000 in
theorem gX10_erase_X5_empty : GoodIn wsX10_erase (wsV RX10 91 RX5 yX5_empty wsX5_empty) := goodIn_app (goodIn_of _ (by decide +kernel)) ggX10_erase_X5_empty
set_option maxRecDepth 20000 in
theorem ggX10_fault_X5_read : GoodIn wsX10_fault wsX5_read := goodIn_r _ [6, 7, 8, 9, 10, 11, 12, 13, 14, 5, 15, 16, 17, 18, 19, 20, 21, 22, 23, 24, 25, 26, 27, 28, 29, 30, 31, 32, 33, 34, 35, 36, 37, 38, 39, 40, 41, 42, 43, 44, 45, 46, 47, 48, 49, 50, 51, 52, 53, 54, 55, 56, 57, 58, 59, 60, 61, 62, 63, 64, 65, 66, 67, 68, 69, 70, 71, 72, 73, 74, 75, 76, 77, 78, 79, 80, 81, 82, 83, 84, 85, 86, 87, 88, 89, 90, 91, 92, 93, 94, 104, 105, 106, 107, 108, 109, 110] (by decide +kernel) (by decide +kernel)
set_option maxRecDepth 20000 in
theorem gX10_fault_X5_read : GoodIn wsX10_fault (wsV RX10 95 RX5 yX5_read wsX5_read) := goodIn_app (goodIn_of _ (by decide +kernel)) ggX10_fault_X5_read
set_option maxRecDepth 20000 in
theorem ggX10_town_X5_read : GoodIn wsX10_town wsX5_read := goodIn_r _ [7, 8, 9, 10, 11, 12, 13, 14, 15, 6, 16, 17, 18, 19, 20, 21, 22, 23, 24, 25, 26, 27, 28, 29, 30, 31, 32, 33, 34, 35, 36, 37, 38, 39, 40, 41, 42, 43, 44, 45, 46, 47, 48, 49, 50, 51, 52, 53, 54, 55, 56, 57, 58, 59, 60, 61, 62, 63, 64, 65, 66, 67, 68, 69, 70, 71, 72, 73, 74, 75, 76, 77, 78, 79, 80, 81, 82, 83, 84, 85, 86, 87, 88, 89, 90, 91, 92, 93, 94, 95, 208, 209, 210, 211, 212, 213, 214] (by decide +kernel) (by decide +kernel)
set_option maxRecDepth 20000 in
theorem gX10_town_X5_read : GoodIn wsX10_town (wsV RX10 95 RX5 yX5_read wsX5_read) := goodIn_app (goodIn_of _ (by decide +kernel)) ggX10_town_X5_read
set_option maxRecDepth 20000 in
theorem ggX10_town_X7_tell : GoodIn wsX10_town wsX7_tell := goodIn_r _ [100, 101, 102, 103, 104, 105, 106, 107, 99, 108, 109, 110, 111, 112, 113, 114, 115, 116, 117, 118, 119, 120, 121, 122, 123, 124, 125, 126, 127, 128, 129, 130, 131, 132, 133, 134, 135, 136, 137, 138, 139, 215, 216, 217, 218, 219, 220, 221, 222, 223, 224, 225, 226, 227, 228, 229, 230] (by decide +kernel) (by decide +kernel)
set_option maxRecDepth 20000 in
theorem gX10_town_X7_tell : GoodIn wsX10_town (wsV RX10 108 RX7 yX7_tell wsX7_tell) := goodIn_app (goodIn_of _ (by decide +kernel)) ggX10_town_X7_tell
set_option maxRecDepth 20000 in
theorem ggX10_town_X5_empty : GoodIn wsX10_town wsX5_empty := goodIn_r _ [143, 11, 208, 209, 210, 211, 212, 213, 214] (by decide +kernel) (by decide +kernel)
set_option maxRecDepth 20000 in
theorem gX10_town_X5_empty : GoodIn wsX10_town (wsV RX10 91 RX5 yX5_empty wsX5_empty) := goodIn_app (goodIn_of _ (by decide +kernel)) ggX10_town_X5_empty
set_option maxRecDepth 20000 in
theorem ggX10_town_X10_lookAgain : GoodIn wsX10_town wsX10_lookAgain := goodIn_r _ [147, 148, 149, 150, 151, 152, 153, 154, 155, 156, 157, 158, 159, 110, 111, 112, 160, 161, 162, 163, 164, 165, 166, 167, 168, 169, 170, 171, 172, 173, 174, 175, 176, 177, 178, 179, 180, 181, 182, 183, 184, 185, 186, 187, 188, 189, 190, 191, 192, 193, 194, 195, 196, 197, 198, 199, 200, 201, 202, 203, 204, 205, 206, 207, 231, 232, 233, 215, 216, 217, 218, 219, 220, 221, 222, 223, 224, 225, 226, 227, 228, 229, 230, 234, 235, 236, 237, 238, 239, 240, 241, 242, 243, 244, 245, 246, 247, 248, 249, 250, 251, 252, 253, 254, 255, 256, 257, 258, 259, 260] (by decide +kernel) (by decide +kernel)
set_option maxRecDepth 20000 in
theorem gX10_town_X10_lookAgain : GoodIn wsX10_town (wsV RX10 80 RX10 yX10_lookAgain wsX10_lookAgain) := goodIn_app (goodIn_of _ (by decide +kernel)) ggX10_town_X10_lookAgain
set_option maxRecDepth 20000 in
theorem ggX10_of_X10_isThere : GoodIn wsX10_of wsX10_isThere := goodIn_r _ [6, 1, 7, 8, 5, 9, 10, 11, 12, 13, 14, 15, 16, 17, 18, 19, 20, 21, 22, 23, 24, 25, 26, 27, 28, 29, 30, 31, 32, 33, 34] (by decide +kernel) (by decide +kernel)
set_option maxRecDepth 20000 in
theorem gX10_of_X10_isThere : GoodIn wsX10_of (wsV RX10 112 RX10 yX10_isThere wsX10_isThere) := goodIn_app (goodIn_of _ (by decide +kernel)) ggX10_of_X10_isThere
set_option maxRecDepth 20000 in
theorem ggX10_cup_X10_isCup : GoodIn wsX10_cup wsX10_isCup := goodIn_r _ [5] (by decide +kernel) (by decide +kernel)
set_option maxRecDepth 20000 in
theorem gX10_cup_X10_isCup : GoodIn wsX10_cup (va_wsS RX10 143 yX10_isCup wsX10_isCup) := goodIn_app (goodIn_of _ (by decide +kernel)) ggX10_cup_X10_isCup
set_option maxRecDepth 20000 in
theorem ggX10_above_X10_isThere : GoodIn wsX10_above wsX10_isThere := goodIn_r _ [6, 7, 8, 9, 5, 10, 11, 12, 13, 14, 15, 16, 17, 18, 19, 23, 24, 25, 26, 27, 28, 29, 30, 31, 32, 33, 34, 35, 36, 37, 38] (by decide +kernel) (by decide +kernel)
set_option maxRecDepth 20000 in
theorem gX10_above_X10_isThere : GoodIn wsX10_above (wsV RX10 112 RX10 yX10_isThere wsX10_isThere) := goodIn_app (goodIn_of _ (by decide +kernel)) ggX10_above_X10_isThere
set_option maxRecDepth 20000 in
theorem ggX10_walk_X10_isThere : GoodIn wsX10_walk wsX10_isThere := goodIn_r _ [6, 7, 8, 9, 5, 10, 17, 18, 19, 20, 21, 22, 23, 24, 25, 26, 27, 28, 29, 30, 31, 32, 33, 34, 35, 36, 37, 38, 39, 40, 41] (by decide +kernel) (by decide +kernel)
set_option maxRecDepth 20000 in
theorem gX10_walk_X10_isThere : GoodIn wsX10_walk (wsV RX10 112 RX10 yX10_isThere wsX10_isThere) := goodIn_app (goodIn_of _ (by decide +kernel)) ggX10_walk_X10_isThere
set_option maxRecDepth 20000 in
theorem ggX10_walk_X9_minutesBetween : GoodIn wsX10_walk wsX9_minutesBetween := goodIn_r _ [15, 16, 42, 43, 44, 26, 27, 28, 29, 30, 31, 32, 33, 34, 35, 36, 37, 38, 39, 40, 41] (by decide +kernel) (by decide +kernel)
set_option maxRecDepth 20000 in
theorem gX10_walk_X9_minutesBetween : GoodIn wsX10_walk (wsV RX10 158 RX9 yX9_minutesBetween wsX9_minutesBetween) := goodIn_app (goodIn_of _ (by decide +kernel)) ggX10_walk_X9_minutesBetween
set_option maxRecDepth 20000 in
theorem ggX10_flow_X10_isThere : GoodIn wsX10_flow wsX10_isThere := goodIn_r _ [6, 7, 8, 9, 5, 10, 18, 19, 20, 21, 22, 23, 24, 25, 26, 27, 28, 29, 30, 31, 32, 33, 34, 35, 36, 37, 38, 39, 40, 41, 42] (by decide +kernel) (by decide +kernel)
set_option maxRecDepth 20000 in
theorem gX10_flow_X10_isThere : GoodIn wsX10_flow (wsV RX10 112 RX10 yX10_isThere wsX10_isThere) := goodIn_app (goodIn_of _ (by decide +kernel)) ggX10_flow_X10_isThere
set_option maxRecDepth 20000 in
theorem ggX10_flow_X8_flowAt : GoodIn wsX10_flow wsX8_flowAt := goodIn_r _ [15, 16, 17, 43, 44, 45, 46, 27, 28, 29, 30, 31, 32, 33, 34, 35, 36, 37, 38, 39, 40, 41, 42] (by decide +kernel) (by decide +kernel)
set_option maxRecDepth 20000 in
theorem gX10_flow_X8_flowAt : GoodIn wsX10_flow (wsV RX10 162 RX8 yX8_flowAt wsX8_flowAt) := goodIn_app (goodIn_of _ (by decide +kernel)) ggX10_flow_X8_flowAt
set_option maxRecDepth 20000 in
theorem ggX10_comes_X10_isThere : GoodIn wsX10_comes wsX10_isThere := goodIn_r _ [6, 7, 8, 9, 5, 10, 38, 39, 40, 41, 42, 43, 44, 45, 46, 51, 52, 53, 54, 55, 56, 57, 58, 59, 60, 61, 62, 63, 64, 65, 66] (by decide +kernel) (by decide +kernel)
set_option maxRecDepth 20000 in
theorem gX10_comes_X10_isThere : GoodIn wsX10_comes (wsV RX10 112 RX10 yX10_isThere wsX10_isThere) := goodIn_app (goodIn_of _ (by decide +kernel)) ggX10_comes_X10_isThere
set_option maxRecDepth 20000 in
theorem ggX10_comes_X10_isMinute : GoodIn wsX10_comes wsX10_isMinute := goodIn_r _ [13] (by decide +kernel) (by decide +kernel)
set_option maxRecDepth 20000 in
theorem gX10_comes_X10_isMinute : GoodIn wsX10_comes (va_wsS RX10 165 yX10_isMinute wsX10_isMinute) := goodIn_app (goodIn_of _ (by decide +kernel)) ggX10_comes_X10_isMinute
set_option maxRecDepth 20000 in
theorem ggX10_comes_X10_isPart : GoodIn wsX10_comes wsX10_isPart := goodIn_r _ [16] (by decide +kernel) (by decide +kernel)
set_option maxRecDepth 20000 in
theorem gX10_comes_X10_isPart : GoodIn wsX10_comes (va_wsS RX10 168 yX10_isPart wsX10_isPart) := goodIn_app (goodIn_of _ (by decide +kernel)) ggX10_comes_X10_isPart
set_option maxRecDepth 20000 in
theorem ggX10_comes_X4_amountAt : GoodIn wsX10_comes wsX4_amountAt := goodIn_r _ [21, 22, 23, 24, 25, 67, 68, 69, 70] (by decide +kernel) (by decide +kernel)
set_option maxRecDepth 20000 in
theorem gX10_comes_X4_amountAt : GoodIn wsX10_comes (wsV RX10 175 RX4 yX4_amountAt wsX4_amountAt) := goodIn_app (goodIn_of _ (by decide +kernel)) ggX10_comes_X4_amountAt
set_option maxRecDepth 20000 in
theorem ggX10_comes_X8_thinAt : GoodIn wsX10_comes wsX8_thinAt := goodIn_r _ [30, 31, 18, 19, 20, 21, 22, 23, 24, 25, 32, 33, 34, 29, 35, 36, 37, 67, 68, 69, 70, 47, 48, 49, 50, 51, 52, 53, 54, 55, 56, 57, 58, 59, 60, 61, 62, 63, 64, 65, 66] (by decide +kernel) (by decide +kernel)
set_option maxRecDepth 20000 in
theorem gX10_comes_X8_thinAt : GoodIn wsX10_comes (wsV RX10 180 RX8 yX8_thinAt wsX8_thinAt) := goodIn_app (goodIn_of _ (by decide +kernel)) ggX10_comes_X8_thinAt
set_option maxRecDepth 20000 in
theorem ggX10_should_X10_isThere : GoodIn wsX10_should wsX10_isThere := goodIn_r _ [7, 8, 9, 10, 6, 11, 64, 65, 66, 67, 68, 69, 70, 71, 72, 77, 78, 79, 80, 81, 82, 83, 84, 85, 86, 87, 88, 89, 90, 91, 92] (by decide +kernel) (by decide +kernel)
set_option maxRecDepth 20000 in
theorem gX10_should_X10_isThere : GoodIn wsX10_should (wsV RX10 112 RX10 yX10_isThere wsX10_isThere) := goodIn_app (goodIn_of _ (by decide +kernel)) ggX10_should_X10_isThere
set_option maxRecDepth 20000 in
theorem ggX10_should_X10_isCup : GoodIn wsX10_should wsX10_isCup := goodIn_r _ [14] (by decide +kernel) (by decide +kernel)
set_option maxRecDepth 20000 in
theorem gX10_should_X10_isCup : GoodIn wsX10_should (va_wsS RX10 143 yX10_isCup wsX10_isCup) := goodIn_app (goodIn_of _ (by decide +kernel)) ggX10_should_X10_isCup
set_option maxRecDepth 20000 in
theorem ggX10_should_X10_canFill : GoodIn wsX10_should wsX10_canFill := goodIn_r _ [18, 8, 19, 20, 6, 21, 64, 65, 66, 67, 68, 69, 70, 71, 72, 77, 78, 79, 80, 81, 82, 83, 84, 85, 86, 87, 88, 89, 90, 91, 92] (by decide +kernel) (by decide +kernel)
set_option maxRecDepth 20000 in
theorem gX10_should_X10_canFill : GoodIn wsX10_should (wsV RX10 184 RX10 yX10_canFill wsX10_canFill) := goodIn_app (goodIn_of _ (by decide +kernel)) ggX10_should_X10_canFill
set_option maxRecDepth 20000 in
theorem ggX10_should_X1_put : GoodIn wsX10_should wsX1_put := goodIn_r _ [26, 27, 28, 29, 30, 31, 93, 94, 95, 96, 97] (by decide +kernel) (by decide +kernel)
set_option maxRecDepth 20000 in
theorem gX10_should_X1_put : GoodIn wsX10_should (wsV RX10 188 RX1 yX1_put wsX1_put) := goodIn_app (goodIn_of _ (by decide +kernel)) ggX10_should_X1_put
set_option maxRecDepth 20000 in
theorem ggX10_should_X8_shouldSayYes : GoodIn wsX10_should wsX8_shouldSayYes := goodIn_r _ [36, 37, 38, 39, 40, 35, 41, 42, 43, 44, 45, 10, 6, 11, 46, 47, 48, 49, 50, 51, 52, 53, 54, 55, 56, 57, 58, 59, 60, 61, 62, 63, 93, 94, 95, 96, 97, 73, 74, 75, 76, 77, 78, 79, 80, 81, 82, 83, 84, 85, 86, 87, 88, 89, 90, 91, 92, 98, 99, 100, 101] (by decide +kernel) (by decide +kernel)
set_option maxRecDepth 20000 in
theorem gX10_should_X8_shouldSayYes : GoodIn wsX10_should (wsV RX10 192 RX8 yX8_shouldSayYes wsX8_shouldSayYes) := goodIn_app (goodIn_of _ (by decide +kernel)) ggX10_should_X8_shouldSayYes
set_option maxRecDepth 20000 in
theorem ggX10_found_X10_isCup : GoodIn wsX10_found wsX10_isCup := goodIn_r _ [5] (by decide +kernel) (by decide +kernel)
set_option maxRecDepth 20000 in
theorem gX10_found_X10_isCup : GoodIn wsX10_found (va_wsS RX10 143 yX10_isCup wsX10_isCup) := goodIn_app (goodIn_of _ (by decide +kernel)) ggX10_found_X10_isCup
set_option maxRecDepth 20000 in
theorem ggX10_found_X10_canFill : GoodIn wsX10_found wsX10_canFill := goodIn_r _ [9, 10, 11, 12, 4, 13, 37, 38, 39, 40, 41, 42, 43, 44, 45, 59, 60, 61, 62, 63, 64, 65, 66, 67, 68, 69, 70, 71, 72, 73, 74] (by decide +kernel) (by decide +kernel)
set_option maxRecDepth 20000 in
theorem gX10_found_X10_canFill : GoodIn wsX10_found (wsV RX10 184 RX10 yX10_canFill wsX10_canFill) := goodIn_app (goodIn_of _ (by decide +kernel)) ggX10_found_X10_canFill
set_option maxRecDepth 20000 in
theorem ggX10_found_X6_keep : GoodIn wsX10_found wsX6_keep := goodIn_r _ [18, 19, 20, 21, 22, 23, 24, 25, 26, 27, 28, 29, 30, 31, 32, 33, 17, 34, 35, 36, 46, 47, 48, 49, 50, 51, 52, 53, 54, 55, 56, 57, 58, 75, 76, 77, 78, 79] (by decide +kernel) (by decide +kernel)
set_option maxRecDepth 20000 in
theorem gX10_found_X6_keep : GoodIn wsX10_found (wsV RX10 199 RX6 yX6_keep wsX6_keep) := goodIn_app (goodIn_of _ (by decide +kernel)) ggX10_found_X6_keep
set_option maxRecDepth 20000 in
theorem ggX10_forget_X6_drop : GoodIn wsX10_forget wsX6_drop := goodIn_r _ [6, 7, 8, 9, 10, 5, 11, 12, 13, 23, 24, 25, 26, 27, 28, 29, 30, 31, 32, 33, 34, 35] (by decide +kernel) (by decide +kernel)
set_option maxRecDepth 20000 in
theorem gX10_forget_X6_drop : GoodIn wsX10_forget (wsV RX10 203 RX6 yX6_drop wsX6_drop) := goodIn_app (goodIn_of _ (by decide +kernel)) ggX10_forget_X6_drop
set_option maxRecDepth 20000 in
theorem ggX10_chance_X10_isSource : GoodIn wsX10_chance wsX10_isSource := goodIn_r _ [9, 10, 11, 12, 13, 8, 14, 15, 16, 17, 18, 79, 80, 81, 82, 83, 84, 85, 86, 87, 101, 102, 103, 104, 105, 106, 107, 108, 109, 110, 111, 112, 113, 114, 115, 116, 117, 118, 119] (by decide +kernel) (by decide +kernel)
set_option maxRecDepth 20000 in
theorem gX10_chance_X10_isSource : GoodIn wsX10_chance (wsV RX10 206 RX10 yX10_isSource wsX10_isSource) := goodIn_app (goodIn_of _ (by decide +kernel)) ggX10_chance_X10_isSource
set_option maxRecDepth 20000 in
theorem ggX10_chance_X10_isPart : GoodIn wsX10_chance wsX10_isPart := goodIn_r _ [21] (by decide +kernel) (by decide +kernel)
set_option maxRecDepth 20000 in
theorem gX10_chance_X10_isPart : GoodIn wsX10_chance (va_wsS RX10 168 yX10_isPart wsX10_isPart) := goodIn_app (goodIn_of _ (by decide +kernel)) ggX10_chance_X10_isPart
set_option maxRecDepth 20000 in
theorem ggX10_chance_X6_thinkOfOne : GoodIn wsX10_chance wsX6_thinkOfOne := goodIn_r _ [26, 27, 28, 29, 30, 31, 32, 33, 34, 35, 36, 25, 37, 38, 39, 40, 41, 42, 43, 44, 45, 46, 47, 48, 49, 50, 51, 52, 53, 17, 8, 18, 54, 55, 56, 57, 58, 59, 60, 61, 62, 63, 64, 65, 66, 67, 68, 69, 70, 71, 72, 73, 74, 75, 88, 89, 90, 91, 92, 93, 94, 95, 96, 97, 98, 99, 100, 104, 105, 106, 107, 108, 109, 110, 111, 112, 113, 114, 115, 116, 117, 118, 119, 101, 102, 103, 120, 121, 122, 123, 124, 125, 126, 127, 128, 129, 130, 131, 132] (by decide +kernel) (by decide +kernel)
set_option maxRecDepth 20000 in
theorem gX10_chance_X6_thinkOfOne : GoodIn wsX10_chance (wsV RX10 213 RX6 yX6_thinkOfOne wsX6_thinkOfOne) := goodIn_app (goodIn_of _ (by decide +kernel)) ggX10_chance_X6_thinkOfOne
set_option maxRecDepth 20000 in
theorem ggX10_chance_X10_lowest : GoodIn wsX10_chance wsX10_lowest := goodIn_r _ [78] (by decide +kernel) (by decide +kernel)
set_option maxRecDepth 20000 in
theorem gX10_chance_X10_lowest : GoodIn wsX10_chance (va_wsS RX10 229 yX10_lowest wsX10_lowest) := goodIn_app (goodIn_of _ (by decide +kernel)) ggX10_chance_X10_lowest
set_option maxRecDepth 20000 in
theorem ggX10_two_X10_isSource : GoodIn wsX10_two wsX10_isSource := goodIn_r _ [9, 10, 11, 12, 13, 8, 14, 15, 16, 17, 18, 78, 79, 80, 81, 82, 83, 84, 85, 86, 100, 101, 102, 103, 104, 105, 106, 107, 108, 109, 110, 111, 112, 113, 114, 115, 116, 117, 118] (by decide +kernel) (by decide +kernel)
set_option maxRecDepth 20000 in
theorem gX10_two_X10_isSource : GoodIn wsX10_two (wsV RX10 206 RX10 yX10_isSource wsX10_isSource) := goodIn_app (goodIn_of _ (by decide +kernel)) ggX10_two_X10_isSource
set_option maxRecDepth 20000 in
theorem ggX10_two_X10_isPart : GoodIn wsX10_two wsX10_isPart := goodIn_r _ [21] (by decide +kernel) (by decide +kernel)
set_option maxRecDepth 20000 in
theorem gX10_two_X10_isPart : GoodIn wsX10_two (va_wsS RX10 168 yX10_isPart wsX10_isPart) := goodIn_app (goodIn_of _ (by decide +kernel)) ggX10_two_X10_isPart
set_option maxRecDepth 20000 in
theorem ggX10_two_X6_thinkOfTwo : GoodIn wsX10_two wsX6_thinkOfTwo := goodIn_r _ [26, 27, 28, 29, 30, 31, 32, 17, 8, 18, 33, 34, 35, 25, 36, 37, 38, 39, 40, 41, 42, 43, 44, 45, 46, 47, 48, 49, 50, 51, 52, 53, 54, 55, 56, 57, 58, 59, 60, 61, 62, 63, 64, 65, 66, 67, 68, 69, 70, 71, 72, 73, 74, 87, 88, 89, 90, 91, 92, 93, 94, 95, 96, 97, 98, 99, 100, 101, 102, 103, 104, 105, 106, 107, 108, 109, 110, 111, 112, 113, 114, 115, 116, 117, 118, 119, 120, 121, 122, 123, 124, 125, 126, 127, 128, 129, 130, 131] (by decide +kernel) (by decide +kernel)
set_option maxRecDepth 20000 in
theorem gX10_two_X6_thinkOfTwo : GoodIn wsX10_two (wsV RX10 233 RX6 yX6_thinkOfTwo wsX6_thinkOfTwo) := goodIn_app (goodIn_of _ (by decide +kernel)) ggX10_two_X6_thinkOfTwo
set_option maxRecDepth 20000 in
theorem ggX10_two_X10_lowest : GoodIn wsX10_two wsX10_lowest := goodIn_r _ [77] (by decide +kernel) (by decide +kernel)
set_option maxRecDepth 20000 in
theorem gX10_two_X10_lowest : GoodIn wsX10_two (va_wsS RX10 229 yX10_lowest wsX10_lowest) := goodIn_app (goodIn_of _ (by decide +kernel)) ggX10_two_X10_lowest
set_option maxRecDepth 20000 in
theorem ggX10_worth_X10_isCup : GoodIn wsX10_worth wsX10_isCup := goodIn_r _ [10] (by decide +kernel) (by decide +kernel)
set_option maxRecDepth 20000 in
theorem gX10_worth_X10_isCup : GoodIn wsX10_worth (va_wsS RX10 143 yX10_isCup wsX10_isCup) := goodIn_app (goodIn_of _ (by decide +kernel)) ggX10_worth_X10_isCup
set_option maxRecDepth 20000 in
theorem ggX10_worth_X10_canFill : GoodIn wsX10_worth wsX10_canFill := goodIn_r _ [14, 15, 16, 17, 9, 18, 95, 96, 97, 98, 99, 100, 101, 102, 103, 117, 118, 119, 120, 121, 122, 123, 124, 125, 126, 127, 128, 129, 130, 131, 132] (by decide +kernel) (by decide +kernel)
set_option maxRecDepth 20000 in
theorem gX10_worth_X10_canFill : GoodIn wsX10_worth (wsV RX10 184 RX10 yX10_canFill wsX10_canFill) := goodIn_app (goodIn_of _ (by decide +kernel)) ggX10_worth_X10_canFill
set_option maxRecDepth 20000 in
theorem ggX10_worth_X10_isPart : GoodIn wsX10_worth wsX10_isPart := goodIn_r _ [21] (by decide +kernel) (by decide +kernel)
set_option maxRecDepth 20000 in
theorem gX10_worth_X10_isPart : GoodIn wsX10_worth (va_wsS RX10 168 yX10_isPart wsX10_isPart) := goodIn_app (goodIn_of _ (by decide +kernel)) ggX10_worth_X10_isPart
set_option maxRecDepth 20000 in
theorem ggX10_worth_X6_thinkOfOne : GoodIn wsX10_worth wsX6_thinkOfOne := goodIn_r _ [26, 27, 28, 29, 30, 31, 32, 33, 34, 35, 36, 25, 37, 38, 39, 40, 41, 42, 43, 44, 45, 46, 47, 48, 49, 50, 51, 52, 53, 54, 9, 55, 56, 57, 58, 59, 60, 61, 62, 63, 64, 65, 66, 67, 68, 69, 70, 71, 72, 73, 74, 75, 76, 77, 104, 105, 106, 107, 108, 109, 110, 111, 112, 113, 114, 115, 116, 117, 118, 119, 120, 121, 122, 123, 124, 125, 126, 127, 128, 129, 130, 131, 132, 133, 134, 135, 136, 137, 138, 139, 140, 141, 142, 143, 144, 145, 146, 147, 148] (by decide +kernel) (by decide +kernel)
set_option maxRecDepth 20000 in
theorem gX10_worth_X6_thinkOfOne : GoodIn wsX10_worth (wsV RX10 213 RX6 yX6_thinkOfOne wsX6_thinkOfOne) := goodIn_app (goodIn_of _ (by decide +kernel)) ggX10_worth_X6_thinkOfOne
set_option maxRecDepth 20000 in
theorem ggX10_worth_X1_put : GoodIn wsX10_worth wsX1_put := goodIn_r _ [82, 83, 84, 85, 86, 87, 140, 141, 142, 143, 144] (by decide +kernel) (by decide +kernel)
set_option maxRecDepth 20000 in
theorem gX10_worth_X1_put : GoodIn wsX10_worth (wsV RX10 188 RX1 yX1_put wsX1_put) := goodIn_app (goodIn_of _ (by decide +kernel)) ggX10_worth_X1_put
set_option maxRecDepth 20000 in
theorem ggX10_worth_X6_tenthsOf : GoodIn wsX10_worth wsX6_tenthsOf := goodIn_r _ [91, 29, 31, 33, 74, 75, 76, 25, 77, 28, 40, 41, 42, 43, 44, 45, 46, 47, 48, 49, 50, 51, 52, 53, 54, 9, 55, 56, 57, 58, 59, 60, 61, 62, 63, 64, 65, 66, 67, 68, 69, 70, 71, 72, 73, 104, 105, 106, 107, 108, 109, 110, 111, 112, 113, 114, 115, 116, 136, 137, 138, 139, 117, 118, 119, 120, 121, 122, 123, 124, 125, 126, 127, 128, 129, 130, 131, 132, 140, 141, 142, 143, 144, 145, 146, 147, 148] (by decide +kernel) (by decide +kernel)
set_option maxRecDepth 20000 in
theorem gX10_worth_X6_tenthsOf : GoodIn wsX10_worth (wsV RX10 242 RX6 yX6_tenthsOf wsX6_tenthsOf) := goodIn_app (goodIn_of _ (by decide +kernel)) ggX10_worth_X6_tenthsOf
