theorem goodIn_r {big : List Cond} (ws : List Cond) (ps : List Nat) (hp : ws = ps.filterMap (fun i => big[i]?)) (h : ws.all goodWord = true) : GoodIn big ws := by
  intro w hw
  have h1 := List.all_eq_true.mp h w hw
  rw [hp] at hw
  obtain ⟨i, -, hi⟩ := List.mem_filterMap.mp hw
  have hm : w ∈ big := by first | exact List.mem_of_getElem? hi | exact List.getElem?_mem hi
  exact ⟨hm, good_of_word h1⟩
theorem goodIn_app {big a b : List Cond} (ha : GoodIn big a) (hb : GoodIn big b) : GoodIn big (a ++ b) := fun w h => (List.mem_append.mp h).elim (ha w) (hb w)
theorem goodIn_ca {big a b : List Cond} {c : Cond} (ha : GoodIn big (c :: a)) (hb : GoodIn big b) : GoodIn big (c :: (a ++ b)) := fun w h => (List.mem_cons.mp h).elim (fun e => ha w (List.mem_cons.mpr (Or.inl e))) (fun h => (List.mem_append.mp h).elim (fun h => ha w (List.mem_cons.mpr (Or.inr h))) (hb w))
theorem goodIn_sub {big ws : List Cond} (hm : ∀ w ∈ ws, w ∈ big) (h : ws.all goodWord = true) : GoodIn big ws := fun w hw => ⟨hm w hw, good_of_word (List.all_eq_true.mp h w hw)⟩
set_option maxRecDepth 20000 in
theorem ggX0_go_X2_solve : GoodIn wsX0_go wsX2_solve := goodIn_r _ [13, 14, 15, 16, 17, 18, 19, 12, 20, 21, 22, 23, 24, 25, 26, 27, 28, 29, 30, 31, 32, 33, 34, 35, 36, 37, 38, 39, 40, 41, 42, 43, 44, 45, 46, 47, 48, 49, 50, 51, 52, 53, 54, 55, 56, 57, 58, 59, 60, 61, 62, 63, 64, 65, 66, 67, 68, 69, 70, 71, 72, 73, 74, 75, 76, 77, 78, 79, 80, 137, 138, 139, 140, 141, 142, 118, 119, 120, 121, 122, 123, 124, 125, 126, 127, 128, 129, 130, 131, 132, 133, 134, 135, 136] (by decide +kernel) (by decide +kernel)
set_option maxRecDepth 20000 in
theorem gX0_go_X2_solve : GoodIn wsX0_go (wsV RX0 23 RX2 yX2_solve wsX2_solve) := goodIn_app (goodIn_of _ (by decide +kernel)) ggX0_go_X2_solve
set_option maxRecDepth 20000 in
theorem ggX0_go_X0_drawSource : GoodIn wsX0_go wsX0_drawSource := goodIn_r _ [85, 6, 86, 57, 43, 58, 7, 87, 88, 89, 84, 90, 2, 91, 92, 65, 66, 67, 68, 69, 70, 71, 72, 110, 111, 112, 113, 114, 115, 116, 117, 118, 119, 120, 121, 122, 123, 124, 125, 126, 127, 128, 129, 130, 131, 132, 133, 134, 135, 136] (by decide +kernel) (by decide +kernel)
set_option maxRecDepth 20000 in
theorem gX0_go_X0_drawSource : GoodIn wsX0_go (wsV RX0 38 RX0 yX0_drawSource wsX0_drawSource) := goodIn_app (goodIn_of _ (by decide +kernel)) ggX0_go_X0_drawSource
set_option maxRecDepth 20000 in
theorem ggX0_go_J6_bitCount_0f7a4 : GoodIn wsX0_go wsJ6_bitCount_0f7a4 := goodIn_r _ [48, 49, 50, 51] (by decide +kernel) (by decide +kernel)
set_option maxRecDepth 20000 in
theorem gX0_go_J6_bitCount_0f7a4 : GoodIn wsX0_go (va_wsS RX0 50 yJ6_bitCount_0f7a4 wsJ6_bitCount_0f7a4) := goodIn_app (goodIn_of _ (by decide +kernel)) ggX0_go_J6_bitCount_0f7a4
set_option maxRecDepth 20000 in
theorem ggX0_go_X2_nextLid : GoodIn wsX0_go wsX2_nextLid := goodIn_r _ [97, 15, 23, 33, 34, 35, 12, 36, 98, 99, 100, 67, 101, 69, 59, 60, 61, 62, 63, 56, 57, 43, 58, 137, 138, 139, 140, 141, 142, 118, 119, 120, 121, 122, 123, 124, 125, 126, 127, 128, 129, 130, 131, 132, 133, 134, 135, 136] (by decide +kernel) (by decide +kernel)
set_option maxRecDepth 20000 in
theorem gX0_go_X2_nextLid : GoodIn wsX0_go (wsV RX0 56 RX2 yX2_nextLid wsX2_nextLid) := goodIn_app (goodIn_of _ (by decide +kernel)) ggX0_go_X2_nextLid
set_option maxRecDepth 20000 in
theorem ggX0_go_X9_minutesBetween : GoodIn wsX0_go wsX9_minutesBetween := goodIn_r _ [101, 69, 118, 119, 120, 121, 122, 123, 124, 125, 126, 127, 128, 129, 130, 131, 132, 133, 134, 135, 136] (by decide +kernel) (by decide +kernel)
set_option maxRecDepth 20000 in
theorem gX0_go_X9_minutesBetween : GoodIn wsX0_go (wsV RX0 60 RX9 yX9_minutesBetween wsX9_minutesBetween) := goodIn_app (goodIn_of _ (by decide +kernel)) ggX0_go_X9_minutesBetween
set_option maxRecDepth 20000 in
theorem ggX0_go_X0_drawAnswer : GoodIn wsX0_go wsX0_drawAnswer := goodIn_r _ [106, 6, 5, 7, 70, 71, 72, 87, 88, 89, 84, 90, 2, 91, 110, 111, 112, 113, 114, 115, 116, 117, 118, 119, 120, 121, 122, 123, 124, 125, 126, 127, 128, 129, 130, 131, 132, 133, 134, 135, 136] (by decide +kernel) (by decide +kernel)
set_option maxRecDepth 20000 in
theorem gX0_go_X0_drawAnswer : GoodIn wsX0_go (wsV RX0 68 RX0 yX0_drawAnswer wsX0_drawAnswer) := goodIn_app (goodIn_of _ (by decide +kernel)) ggX0_go_X0_drawAnswer
set_option maxRecDepth 20000 in
theorem ggX0_go_X0_leastOf : GoodIn wsX0_go wsX0_leastOf := goodIn_r _ [109, 70, 71, 72] (by decide +kernel) (by decide +kernel)
set_option maxRecDepth 20000 in
theorem gX0_go_X0_leastOf : GoodIn wsX0_go (va_wsS RX0 76 yX0_leastOf wsX0_leastOf) := goodIn_app (goodIn_of _ (by decide +kernel)) ggX0_go_X0_leastOf
set_option maxRecDepth 20000 in
theorem ggX0_leastOf_X10_has : GoodIn wsX0_leastOf wsX10_has := goodIn_r _ [3] (by decide +kernel) (by decide +kernel)
set_option maxRecDepth 20000 in
theorem gX0_leastOf_X10_has_n82 : GoodIn wsX0_leastOf (wsX10_has) := ggX0_leastOf_X10_has
set_option maxRecDepth 20000 in
theorem ggX0_drawSource_X0_draw : GoodIn wsX0_drawSource wsX0_draw := goodIn_r _ [11, 12, 13, 23, 24, 25, 26, 27, 28, 29, 30] (by decide +kernel) (by decide +kernel)
set_option maxRecDepth 20000 in
theorem gX0_drawSource_X0_draw : GoodIn wsX0_drawSource (wsV RX0 86 RX0 yX0_draw wsX0_draw) := goodIn_app (goodIn_of _ (by decide +kernel)) ggX0_drawSource_X0_draw
set_option maxRecDepth 20000 in
theorem ggX0_drawSource_X9_likelyOf : GoodIn wsX0_drawSource wsX9_likelyOf := goodIn_r _ [18, 19, 20, 21, 22, 31, 32, 33, 34, 35, 36, 37, 38, 39, 40, 41, 42, 43, 44, 45, 46, 47, 48, 49] (by decide +kernel) (by decide +kernel)
set_option maxRecDepth 20000 in
theorem gX0_drawSource_X9_likelyOf : GoodIn wsX0_drawSource (wsV RX0 89 RX9 yX9_likelyOf wsX9_likelyOf) := goodIn_app (goodIn_of _ (by decide +kernel)) ggX0_drawSource_X9_likelyOf
set_option maxRecDepth 20000 in
theorem ggX0_drawSource_X10_has : GoodIn wsX0_drawSource wsX10_has := goodIn_r _ [22] (by decide +kernel) (by decide +kernel)
set_option maxRecDepth 20000 in
theorem gX0_drawSource_X10_has_n82 : GoodIn wsX0_drawSource (wsX10_has) := ggX0_drawSource_X10_has
set_option maxRecDepth 20000 in
theorem ggX0_drawAnswer_X10_has : GoodIn wsX0_drawAnswer wsX10_has := goodIn_r _ [6] (by decide +kernel) (by decide +kernel)
set_option maxRecDepth 20000 in
theorem gX0_drawAnswer_X10_has_n82 : GoodIn wsX0_drawAnswer (wsX10_has) := ggX0_drawAnswer_X10_has
set_option maxRecDepth 20000 in
theorem ggX0_drawAnswer_X0_draw : GoodIn wsX0_drawAnswer wsX0_draw := goodIn_r _ [11, 12, 13, 14, 15, 16, 17, 18, 19, 20, 21] (by decide +kernel) (by decide +kernel)
set_option maxRecDepth 20000 in
theorem gX0_drawAnswer_X0_draw : GoodIn wsX0_drawAnswer (wsV RX0 86 RX0 yX0_draw wsX0_draw) := goodIn_app (goodIn_of _ (by decide +kernel)) ggX0_drawAnswer_X0_draw
set_option maxRecDepth 20000 in
theorem ggX2_solve_X2_makeRoomFor : GoodIn wsX2_solve wsX2_makeRoomFor := goodIn_r _ [8, 3, 9, 10, 11, 69, 70, 71, 72, 73, 74] (by decide +kernel) (by decide +kernel)
set_option maxRecDepth 20000 in
theorem gX2_solve_X2_makeRoomFor : GoodIn wsX2_solve (wsV RX2 39 RX2 yX2_makeRoomFor wsX2_makeRoomFor) := goodIn_app (goodIn_of _ (by decide +kernel)) ggX2_solve_X2_makeRoomFor
set_option maxRecDepth 20000 in
theorem ggX2_solve_X2_markWhatMayBeLeft : GoodIn wsX2_solve wsX2_markWhatMayBeLeft := goodIn_r _ [15, 3, 16, 17, 18, 19, 7, 20, 2, 21, 22, 23, 24, 69, 70, 71, 72, 73, 74, 75, 76, 77] (by decide +kernel) (by decide +kernel)
set_option maxRecDepth 20000 in
theorem gX2_solve_X2_markWhatMayBeLeft : GoodIn wsX2_solve (wsV RX2 43 RX2 yX2_markWhatMayBeLeft wsX2_markWhatMayBeLeft) := goodIn_app (goodIn_of _ (by decide +kernel)) ggX2_solve_X2_markWhatMayBeLeft
set_option maxRecDepth 20000 in
theorem ggX2_solve_X2_solveFor : GoodIn wsX2_solve wsX2_solveFor := goodIn_r _ [28, 11, 16, 2, 29, 30, 31, 32, 10, 3, 33, 34, 35, 36, 37, 38, 39, 21, 22, 23, 7, 24, 40, 41, 42, 43, 44, 45, 46, 47, 48, 49, 50, 51, 52, 53, 54, 55, 56, 57, 58, 59, 60, 61, 62, 63, 64, 65, 66, 67, 68, 69, 70, 71, 72, 73, 74, 75, 76, 77, 78, 79, 80, 81, 82, 83, 84, 85, 86, 87, 88, 89, 90, 91, 92, 93] (by decide +kernel) (by decide +kernel)
set_option maxRecDepth 20000 in
theorem gX2_solve_X2_solveFor : GoodIn wsX2_solve (wsV RX2 46 RX2 yX2_solveFor wsX2_solveFor) := goodIn_app (goodIn_of _ (by decide +kernel)) ggX2_solve_X2_solveFor
set_option maxRecDepth 20000 in
theorem ggX2_markWhatMayBeLeft_X2_markPartsOf : GoodIn wsX2_markWhatMayBeLeft wsX2_markPartsOf := goodIn_r _ [7, 8, 1, 2, 9, 10, 11, 6, 12, 13, 14, 15, 16, 17, 18, 19, 20, 21] (by decide +kernel) (by decide +kernel)
set_option maxRecDepth 20000 in
theorem gX2_markWhatMayBeLeft_X2_markPartsOf : GoodIn wsX2_markWhatMayBeLeft (wsV RX2 50 RX2 yX2_markPartsOf wsX2_markPartsOf) := goodIn_app (goodIn_of _ (by decide +kernel)) ggX2_markWhatMayBeLeft_X2_markPartsOf
set_option maxRecDepth 20000 in
theorem ggX2_markPartsOf_X2_splits : GoodIn wsX2_markPartsOf wsX2_splits := goodIn_r _ [8, 1, 9, 10, 11, 12, 13, 14, 15, 16, 17] (by decide +kernel) (by decide +kernel)
set_option maxRecDepth 20000 in
theorem gX2_markPartsOf_X2_splits : GoodIn wsX2_markPartsOf (wsV RX2 53 RX2 yX2_splits wsX2_splits) := goodIn_app (goodIn_of _ (by decide +kernel)) ggX2_markPartsOf_X2_splits
set_option maxRecDepth 20000 in
theorem ggX2_solveFor_J6_bitCount_0f7a4 : GoodIn wsX2_solveFor wsJ6_bitCount_0f7a4 := goodIn_r _ [13, 14, 15, 16] (by decide +kernel) (by decide +kernel)
set_option maxRecDepth 20000 in
theorem gX2_solveFor_J6_bitCount_0f7a4 : GoodIn wsX2_solveFor (va_wsS RX2 60 yJ6_bitCount_0f7a4 wsJ6_bitCount_0f7a4) := goodIn_app (goodIn_of _ (by decide +kernel)) ggX2_solveFor_J6_bitCount_0f7a4
set_option maxRecDepth 20000 in
theorem ggX2_solveFor_X2_splits : GoodIn wsX2_solveFor wsX2_splits := goodIn_r _ [21, 3, 51, 52, 53, 54, 55, 56, 57, 58, 59] (by decide +kernel) (by decide +kernel)
set_option maxRecDepth 20000 in
theorem gX2_solveFor_X2_splits : GoodIn wsX2_solveFor (wsV RX2 53 RX2 yX2_splits wsX2_splits) := goodIn_app (goodIn_of _ (by decide +kernel)) ggX2_solveFor_X2_splits
set_option maxRecDepth 20000 in
theorem ggX2_solveFor_X2_lidsBy : GoodIn wsX2_solveFor wsX2_lidsBy := goodIn_r _ [25, 3, 9, 26, 27, 6, 28, 51, 52, 53, 54, 55, 56, 57, 58, 59] (by decide +kernel) (by decide +kernel)
set_option maxRecDepth 20000 in
theorem gX2_solveFor_X2_lidsBy : GoodIn wsX2_solveFor (wsV RX2 66 RX2 yX2_lidsBy wsX2_lidsBy) := goodIn_app (goodIn_of _ (by decide +kernel)) ggX2_solveFor_X2_lidsBy
set_option maxRecDepth 20000 in
theorem ggX2_solveFor_X2_minutesBy : GoodIn wsX2_solveFor wsX2_minutesBy := goodIn_r _ [32, 3, 1, 33, 26, 27, 6, 28, 51, 52, 53, 54, 55, 56, 57, 58, 59, 60, 61, 62, 63, 64, 65, 66, 67, 68, 69, 70, 71, 72, 73, 74, 75] (by decide +kernel) (by decide +kernel)
set_option maxRecDepth 20000 in
theorem gX2_solveFor_X2_minutesBy : GoodIn wsX2_solveFor (wsV RX2 75 RX2 yX2_minutesBy wsX2_minutesBy) := goodIn_app (goodIn_of _ (by decide +kernel)) ggX2_solveFor_X2_minutesBy
set_option maxRecDepth 20000 in
theorem ggX2_solveFor_X9_likelyOf : GoodIn wsX2_solveFor wsX9_likelyOf := goodIn_r _ [38, 39, 40, 41, 42, 57, 58, 59, 60, 61, 62, 63, 64, 65, 66, 67, 68, 69, 70, 71, 72, 73, 74, 75] (by decide +kernel) (by decide +kernel)
set_option maxRecDepth 20000 in
theorem gX2_solveFor_X9_likelyOf : GoodIn wsX2_solveFor (wsV RX2 78 RX9 yX9_likelyOf wsX9_likelyOf) := goodIn_app (goodIn_of _ (by decide +kernel)) ggX2_solveFor_X9_likelyOf
set_option maxRecDepth 20000 in
theorem ggX2_solveFor_X2_walkToLids : GoodIn wsX2_solveFor wsX2_walkToLids := goodIn_r _ [46, 33, 47, 48, 49, 20, 50, 1, 4, 5, 6, 7, 51, 52, 53, 54, 55, 56, 60, 61, 62, 63, 64, 65, 66, 67, 68, 69, 70, 71, 72, 73, 74, 75] (by decide +kernel) (by decide +kernel)
set_option maxRecDepth 20000 in
theorem gX2_solveFor_X2_walkToLids : GoodIn wsX2_solveFor (wsV RX2 81 RX2 yX2_walkToLids wsX2_walkToLids) := goodIn_app (goodIn_of _ (by decide +kernel)) ggX2_solveFor_X2_walkToLids
set_option maxRecDepth 20000 in
theorem ggX2_walkToLids_X2_shorten : GoodIn wsX2_walkToLids wsX2_shorten := goodIn_r _ [6, 7, 8, 9, 10, 11, 12, 13, 14, 15, 16, 17] (by decide +kernel) (by decide +kernel)
set_option maxRecDepth 20000 in
theorem gX2_walkToLids_X2_shorten : GoodIn wsX2_walkToLids (wsV RX2 92 RX2 yX2_shorten wsX2_shorten) := goodIn_app (goodIn_of _ (by decide +kernel)) ggX2_walkToLids_X2_shorten
set_option maxRecDepth 20000 in
theorem ggX2_firstOfFewest_X2_splits : GoodIn wsX2_firstOfFewest wsX2_splits := goodIn_r _ [7, 1, 16, 17, 18, 19, 20, 21, 22, 23, 24] (by decide +kernel) (by decide +kernel)
set_option maxRecDepth 20000 in
theorem gX2_firstOfFewest_X2_splits : GoodIn wsX2_firstOfFewest (wsV RX2 53 RX2 yX2_splits wsX2_splits) := goodIn_app (goodIn_of _ (by decide +kernel)) ggX2_firstOfFewest_X2_splits
set_option maxRecDepth 20000 in
theorem ggX2_firstOfFewest_X2_lidsBy : GoodIn wsX2_firstOfFewest wsX2_lidsBy := goodIn_r _ [11, 1, 2, 12, 13, 14, 15, 16, 17, 18, 19, 20, 21, 22, 23, 24] (by decide +kernel) (by decide +kernel)
set_option maxRecDepth 20000 in
theorem gX2_firstOfFewest_X2_lidsBy : GoodIn wsX2_firstOfFewest (wsV RX2 66 RX2 yX2_lidsBy wsX2_lidsBy) := goodIn_app (goodIn_of _ (by decide +kernel)) ggX2_firstOfFewest_X2_lidsBy
set_option maxRecDepth 20000 in
theorem ggX2_nextLid_X2_splits : GoodIn wsX2_nextLid wsX2_splits := goodIn_r _ [7, 1, 23, 24, 25, 26, 27, 28, 29, 30, 31] (by decide +kernel) (by decide +kernel)
set_option maxRecDepth 20000 in
theorem gX2_nextLid_X2_splits : GoodIn wsX2_nextLid (wsV RX2 53 RX2 yX2_splits wsX2_splits) := goodIn_app (goodIn_of _ (by decide +kernel)) ggX2_nextLid_X2_splits
set_option maxRecDepth 20000 in
theorem ggX2_nextLid_X9_minutesBetween : GoodIn wsX2_nextLid wsX9_minutesBetween := goodIn_r _ [12, 13, 29, 30, 31, 32, 33, 34, 35, 36, 37, 38, 39, 40, 41, 42, 43, 44, 45, 46, 47] (by decide +kernel) (by decide +kernel)
set_option maxRecDepth 20000 in
theorem gX2_nextLid_X9_minutesBetween : GoodIn wsX2_nextLid (wsV RX2 102 RX9 yX9_minutesBetween wsX9_minutesBetween) := goodIn_app (goodIn_of _ (by decide +kernel)) ggX2_nextLid_X9_minutesBetween
set_option maxRecDepth 20000 in
theorem ggX2_nextLid_X2_minutesBy : GoodIn wsX2_nextLid wsX2_minutesBy := goodIn_r _ [17, 1, 2, 18, 19, 20, 21, 22, 23, 24, 25, 26, 27, 28, 29, 30, 31, 32, 33, 34, 35, 36, 37, 38, 39, 40, 41, 42, 43, 44, 45, 46, 47] (by decide +kernel) (by decide +kernel)
set_option maxRecDepth 20000 in
theorem gX2_nextLid_X2_minutesBy : GoodIn wsX2_nextLid (wsV RX2 75 RX2 yX2_minutesBy wsX2_minutesBy) := goodIn_app (goodIn_of _ (by decide +kernel)) ggX2_nextLid_X2_minutesBy
set_option maxRecDepth 20000 in
theorem ggX3_answersOf_X3_lidOf : GoodIn wsX3_answersOf wsX3_lidOf := goodIn_r _ [5] (by decide +kernel) (by decide +kernel)
set_option maxRecDepth 20000 in
theorem gX3_answersOf_X3_lidOf : GoodIn wsX3_answersOf (va_wsS RX3 26 yX3_lidOf wsX3_lidOf) := goodIn_app (goodIn_of _ (by decide +kernel)) ggX3_answersOf_X3_lidOf
set_option maxRecDepth 20000 in
theorem ggX3_answersOf_X10_has : GoodIn wsX3_answersOf wsX10_has := goodIn_r _ [8] (by decide +kernel) (by decide +kernel)
set_option maxRecDepth 20000 in
theorem gX3_answersOf_X10_has_n35 : GoodIn wsX3_answersOf (wsX10_has) := ggX3_answersOf_X10_has
set_option maxRecDepth 20000 in
theorem ggX3_answersOf_X9_minutesBetween : GoodIn wsX3_answersOf wsX9_minutesBetween := goodIn_r _ [13, 14, 19, 20, 21, 22, 23, 24, 25, 26, 27, 28, 29, 30, 31, 32, 33, 34, 35, 36, 37] (by decide +kernel) (by decide +kernel)
set_option maxRecDepth 20000 in
theorem gX3_answersOf_X9_minutesBetween : GoodIn wsX3_answersOf (wsV RX3 39 RX9 yX9_minutesBetween wsX9_minutesBetween) := goodIn_app (goodIn_of _ (by decide +kernel)) ggX3_answersOf_X9_minutesBetween
set_option maxRecDepth 20000 in
theorem ggX3_kindsIn_X3_answerAll : GoodIn wsX3_kindsIn wsX3_answerAll := goodIn_r _ [5, 6, 7, 8, 9, 10, 11, 12, 13, 4, 14, 15, 16, 17, 18, 19, 20, 21, 22, 23, 28, 29, 30, 31, 32, 33, 34, 35, 36, 37, 38, 39, 40, 41, 42, 43, 44, 45, 46, 47, 48, 49, 50] (by decide +kernel) (by decide +kernel)
set_option maxRecDepth 20000 in
theorem gX3_kindsIn_X3_answerAll : GoodIn wsX3_kindsIn (wsV RX3 42 RX3 yX3_answerAll wsX3_answerAll) := goodIn_app (goodIn_of _ (by decide +kernel)) ggX3_kindsIn_X3_answerAll
set_option maxRecDepth 20000 in
theorem ggX3_kindsIn_X3_likeAhead : GoodIn wsX3_kindsIn wsX3_likeAhead := goodIn_r _ [27, 7, 28, 29, 30, 31] (by decide +kernel) (by decide +kernel)
set_option maxRecDepth 20000 in
theorem gX3_kindsIn_X3_likeAhead : GoodIn wsX3_kindsIn (wsV RX3 46 RX3 yX3_likeAhead wsX3_likeAhead) := goodIn_app (goodIn_of _ (by decide +kernel)) ggX3_kindsIn_X3_likeAhead
set_option maxRecDepth 20000 in
theorem ggX3_largestIn_X3_answerAll : GoodIn wsX3_largestIn wsX3_answerAll := goodIn_r _ [9, 10, 11, 12, 13, 14, 15, 16, 17, 8, 18, 19, 20, 21, 22, 23, 24, 25, 26, 27, 32, 33, 34, 35, 36, 37, 38, 39, 40, 41, 42, 43, 44, 45, 46, 47, 48, 49, 50, 51, 52, 53, 54] (by decide +kernel) (by decide +kernel)
set_option maxRecDepth 20000 in
theorem gX3_largestIn_X3_answerAll : GoodIn wsX3_largestIn (wsV RX3 42 RX3 yX3_answerAll wsX3_answerAll) := goodIn_app (goodIn_of _ (by decide +kernel)) ggX3_largestIn_X3_answerAll
set_option maxRecDepth 20000 in
theorem ggX3_largestIn_X3_likeAhead : GoodIn wsX3_largestIn wsX3_likeAhead := goodIn_r _ [31, 11, 32, 33, 34, 35] (by decide +kernel) (by decide +kernel)
set_option maxRecDepth 20000 in
theorem gX3_largestIn_X3_likeAhead : GoodIn wsX3_largestIn (wsV RX3 46 RX3 yX3_likeAhead wsX3_likeAhead) := goodIn_app (goodIn_of _ (by decide +kernel)) ggX3_largestIn_X3_likeAhead
set_option maxRecDepth 20000 in
theorem ggX3_answerAll_X10_has : GoodIn wsX3_answerAll wsX10_has := goodIn_r _ [5] (by decide +kernel) (by decide +kernel)
set_option maxRecDepth 20000 in
theorem gX3_answerAll_X10_has_n35 : GoodIn wsX3_answerAll (wsX10_has) := ggX3_answerAll_X10_has
set_option maxRecDepth 20000 in
theorem ggX3_answerAll_X3_answersOf : GoodIn wsX3_answerAll wsX3_answersOf := goodIn_r _ [10, 1, 11, 12, 9, 13, 3, 4, 5, 14, 15, 16, 17, 18, 19, 20, 21, 22, 23, 24, 25, 26, 27, 28, 29, 30, 31, 32, 33, 34, 35, 36, 37, 38, 39, 40, 41, 42] (by decide +kernel) (by decide +kernel)
set_option maxRecDepth 20000 in
theorem gX3_answerAll_X3_answersOf : GoodIn wsX3_answerAll (wsV RX3 58 RX3 yX3_answersOf wsX3_answersOf) := goodIn_app (goodIn_of _ (by decide +kernel)) ggX3_answerAll_X3_answersOf
set_option maxRecDepth 20000 in
theorem ggX3_fewestToHang_X3_pairsFartherThan : GoodIn wsX3_fewestToHang wsX3_pairsFartherThan := goodIn_r _ [6, 7, 8, 9, 10, 11, 12, 13, 14, 15, 16, 17, 18, 19, 20, 5, 21, 33, 34, 35, 36, 53, 54, 55, 37, 38, 39, 40, 41, 42, 43, 44, 45, 46, 47, 48, 49, 50, 51, 52] (by decide +kernel) (by decide +kernel)
set_option maxRecDepth 20000 in
theorem gX3_fewestToHang_X3_pairsFartherThan : GoodIn wsX3_fewestToHang (wsV RX3 62 RX3 yX3_pairsFartherThan wsX3_pairsFartherThan) := goodIn_app (goodIn_of _ (by decide +kernel)) ggX3_fewestToHang_X3_pairsFartherThan
set_option maxRecDepth 20000 in
theorem ggX3_fewestToHang_J6_bitCount_0f7a4 : GoodIn wsX3_fewestToHang wsJ6_bitCount_0f7a4 := goodIn_r _ [25, 26, 27, 28] (by decide +kernel) (by decide +kernel)
set_option maxRecDepth 20000 in
theorem gX3_fewestToHang_J6_bitCount_0f7a4 : GoodIn wsX3_fewestToHang (va_wsS RX3 71 yJ6_bitCount_0f7a4 wsJ6_bitCount_0f7a4) := goodIn_app (goodIn_of _ (by decide +kernel)) ggX3_fewestToHang_J6_bitCount_0f7a4
set_option maxRecDepth 20000 in
theorem ggX3_fewestToHang_X3_tellsApart : GoodIn wsX3_fewestToHang wsX3_tellsApart := goodIn_r _ [32, 8, 33, 34, 35, 36] (by decide +kernel) (by decide +kernel)
set_option maxRecDepth 20000 in
theorem gX3_fewestToHang_X3_tellsApart : GoodIn wsX3_fewestToHang (wsV RX3 76 RX3 yX3_tellsApart wsX3_tellsApart) := goodIn_app (goodIn_of _ (by decide +kernel)) ggX3_fewestToHang_X3_tellsApart
set_option maxRecDepth 20000 in
theorem ggX3_pairsFartherThan_X10_has : GoodIn wsX3_pairsFartherThan wsX10_has := goodIn_r _ [5] (by decide +kernel) (by decide +kernel)
set_option maxRecDepth 20000 in
theorem gX3_pairsFartherThan_X10_has_n35 : GoodIn wsX3_pairsFartherThan (wsX10_has) := ggX3_pairsFartherThan_X10_has
set_option maxRecDepth 20000 in
theorem ggX3_pairsFartherThan_X9_minutesBetween : GoodIn wsX3_pairsFartherThan wsX9_minutesBetween := goodIn_r _ [10, 11, 21, 22, 23, 24, 25, 26, 27, 28, 29, 30, 31, 32, 33, 34, 35, 36, 37, 38, 39] (by decide +kernel) (by decide +kernel)
set_option maxRecDepth 20000 in
theorem gX3_pairsFartherThan_X9_minutesBetween : GoodIn wsX3_pairsFartherThan (wsV RX3 39 RX9 yX9_minutesBetween wsX9_minutesBetween) := goodIn_app (goodIn_of _ (by decide +kernel)) ggX3_pairsFartherThan_X9_minutesBetween
set_option maxRecDepth 20000 in
theorem ggX3_pairsFartherThan_X3_nodesBelowOne : GoodIn wsX3_pairsFartherThan wsX3_nodesBelowOne := goodIn_r _ [16, 1, 3, 4, 5, 17, 18, 19, 20, 21, 22, 23] (by decide +kernel) (by decide +kernel)
set_option maxRecDepth 20000 in
theorem gX3_pairsFartherThan_X3_nodesBelowOne : GoodIn wsX3_pairsFartherThan (wsV RX3 79 RX3 yX3_nodesBelowOne wsX3_nodesBelowOne) := goodIn_app (goodIn_of _ (by decide +kernel)) ggX3_pairsFartherThan_X3_nodesBelowOne
set_option maxRecDepth 20000 in
theorem ggX3_nodesBelowOne_X10_has : GoodIn wsX3_nodesBelowOne wsX10_has := goodIn_r _ [4] (by decide +kernel) (by decide +kernel)
set_option maxRecDepth 20000 in
theorem gX3_nodesBelowOne_X10_has_n35 : GoodIn wsX3_nodesBelowOne (wsX10_has) := ggX3_nodesBelowOne_X10_has
set_option maxRecDepth 20000 in
theorem ggX5_read_X5_readLine : GoodIn wsX5_read wsX5_readLine := goodIn_r _ [10, 11, 12, 13, 14, 15, 16, 17, 18, 9, 19, 2, 4, 5, 3, 20, 21, 22, 23, 24, 25, 26, 27, 28, 29, 30, 31, 32, 33, 34, 35, 36, 37, 38, 39, 40, 41, 42, 43, 44, 45, 46, 47, 48, 49, 50, 51, 52, 53, 54, 55, 56, 57, 58, 59, 60, 61, 62, 63, 64, 65, 66, 67, 68, 69, 70, 71, 72, 73, 74, 75, 76, 77, 78, 79, 80, 81, 82, 83, 84, 85, 86, 87, 88, 89, 90, 91, 92, 93, 94, 95, 96] (by decide +kernel) (by decide +kernel)
set_option maxRecDepth 20000 in
theorem gX5_read_X5_readLine : GoodIn wsX5_read (wsV RX5 33 RX5 yX5_readLine wsX5_readLine) := goodIn_app (goodIn_of _ (by decide +kernel)) ggX5_read_X5_readLine
set_option maxRecDepth 20000 in
theorem ggX5_read_X5_nextToken : GoodIn wsX5_read wsX5_nextToken := goodIn_r _ [19, 2, 4, 5, 3, 20, 21, 9, 22, 23, 24, 25, 90, 91, 92, 93, 94, 95, 96] (by decide +kernel) (by decide +kernel)
set_option maxRecDepth 20000 in
theorem gX5_read_X5_nextToken : GoodIn wsX5_read (wsV RX5 40 RX5 yX5_nextToken wsX5_nextToken) := goodIn_app (goodIn_of _ (by decide +kernel)) ggX5_read_X5_nextToken
set_option maxRecDepth 20000 in
theorem ggX5_readLine_X5_nextToken : GoodIn wsX5_readLine wsX5_nextToken := goodIn_r _ [10, 11, 12, 13, 14, 15, 16, 9, 17, 18, 19, 20, 85, 86, 87, 88, 89, 90, 91] (by decide +kernel) (by decide +kernel)
set_option maxRecDepth 20000 in
theorem gX5_readLine_X5_nextToken : GoodIn wsX5_readLine (wsV RX5 40 RX5 yX5_nextToken wsX5_nextToken) := goodIn_app (goodIn_of _ (by decide +kernel)) ggX5_readLine_X5_nextToken
set_option maxRecDepth 20000 in
theorem ggX5_readLine_X5_kindOfToken : GoodIn wsX5_readLine wsX5_kindOfToken := goodIn_r _ [24, 25, 26, 9, 27, 28, 29, 30, 31, 11, 14, 13, 32, 33, 34, 35, 36, 37, 38, 39, 40, 41, 42, 43, 44, 45, 46, 47, 48, 49, 50, 51, 52, 53, 54, 55, 56, 57, 58, 59, 60, 61, 62, 63, 64, 65, 66, 67, 68, 69, 70, 71, 72, 73, 74, 75, 76, 77, 78, 79, 80, 85, 86, 87, 88, 89, 90, 91] (by decide +kernel) (by decide +kernel)
set_option maxRecDepth 20000 in
theorem gX5_readLine_X5_kindOfToken : GoodIn wsX5_readLine (wsV RX5 43 RX5 yX5_kindOfToken wsX5_kindOfToken) := goodIn_app (goodIn_of _ (by decide +kernel)) ggX5_readLine_X5_kindOfToken
set_option maxRecDepth 20000 in
theorem ggX5_readLine_X5_numberOfToken : GoodIn wsX5_readLine wsX5_numberOfToken := goodIn_r _ [84, 11, 14, 13, 18, 19, 9, 20, 85, 86, 87, 88, 89, 90, 91] (by decide +kernel) (by decide +kernel)
set_option maxRecDepth 20000 in
theorem gX5_readLine_X5_numberOfToken : GoodIn wsX5_readLine (wsV RX5 50 RX5 yX5_numberOfToken wsX5_numberOfToken) := goodIn_app (goodIn_of _ (by decide +kernel)) ggX5_readLine_X5_numberOfToken
set_option maxRecDepth 20000 in
theorem ggX5_nextToken_X5_isLetter : GoodIn wsX5_nextToken wsX5_isLetter := goodIn_r _ [8] (by decide +kernel) (by decide +kernel)
set_option maxRecDepth 20000 in
theorem gX5_nextToken_X5_isLetter : GoodIn wsX5_nextToken (va_wsS RX5 59 yX5_isLetter wsX5_isLetter) := goodIn_app (goodIn_of _ (by decide +kernel)) ggX5_nextToken_X5_isLetter
set_option maxRecDepth 20000 in
theorem ggX5_nextToken_X5_isDigit : GoodIn wsX5_nextToken wsX5_isDigit := goodIn_r _ [11] (by decide +kernel) (by decide +kernel)
set_option maxRecDepth 20000 in
theorem gX5_nextToken_X5_isDigit : GoodIn wsX5_nextToken (va_wsS RX5 62 yX5_isDigit wsX5_isDigit) := goodIn_app (goodIn_of _ (by decide +kernel)) ggX5_nextToken_X5_isDigit
set_option maxRecDepth 20000 in
theorem ggX5_kindOfToken_X5_wordOf : GoodIn wsX5_kindOfToken wsX5_wordOf := goodIn_r _ [4] (by decide +kernel) (by decide +kernel)
set_option maxRecDepth 20000 in
theorem gX5_kindOfToken_X5_wordOf : GoodIn wsX5_kindOfToken (va_wsS RX5 65 yX5_wordOf wsX5_wordOf) := goodIn_app (goodIn_of _ (by decide +kernel)) ggX5_kindOfToken_X5_wordOf
set_option maxRecDepth 20000 in
theorem ggX5_kindOfToken_X5_tokenIs : GoodIn wsX5_kindOfToken wsX5_tokenIs := goodIn_r _ [8, 9, 10, 11, 12, 13, 14, 15, 16, 17, 18, 19, 20, 21, 22, 23, 24, 25, 26, 27, 28, 29, 30, 31, 32, 33, 34, 35, 36, 37, 38, 39, 40, 41, 42, 43, 44, 45, 46, 47, 48, 49, 50, 51, 52, 53, 54, 55, 56, 57, 58, 59, 60, 61, 62, 63, 64, 65, 66, 67] (by decide +kernel) (by decide +kernel)
set_option maxRecDepth 20000 in
theorem gX5_kindOfToken_X5_tokenIs : GoodIn wsX5_kindOfToken (wsV RX5 69 RX5 yX5_tokenIs wsX5_tokenIs) := goodIn_app (goodIn_of _ (by decide +kernel)) ggX5_kindOfToken_X5_tokenIs
set_option maxRecDepth 20000 in
theorem ggX5_tokenIs_J0_length_8abf5 : GoodIn wsX5_tokenIs wsJ0_length_8abf5 := goodIn_r _ [8, 9, 10, 11, 12, 7, 13, 14, 15] (by decide +kernel) (by decide +kernel)
set_option maxRecDepth 20000 in
theorem gX5_tokenIs_J0_length_8abf5 : GoodIn wsX5_tokenIs (wsV RX5 73 RJ0 yJ0_length_8abf5 wsJ0_length_8abf5) := goodIn_app (goodIn_of _ (by decide +kernel)) ggX5_tokenIs_J0_length_8abf5
set_option maxRecDepth 20000 in
theorem ggX5_tokenIs_J0_charAt_5068e : GoodIn wsX5_tokenIs wsJ0_charAt_5068e := goodIn_r _ [19, 9, 20, 21, 22, 7, 23, 14, 15, 24, 25, 26, 27, 28, 29, 30, 31, 32, 33, 34, 35, 36, 37, 38, 39, 40, 41, 42, 43, 44, 45, 46, 47, 48, 49, 50, 51, 52] (by decide +kernel) (by decide +kernel)
set_option maxRecDepth 20000 in
theorem gX5_tokenIs_J0_charAt_5068e : GoodIn wsX5_tokenIs (wsV RX5 77 RJ0 yJ0_charAt_5068e wsJ0_charAt_5068e) := goodIn_app (goodIn_of _ (by decide +kernel)) ggX5_tokenIs_J0_charAt_5068e
set_option maxRecDepth 20000 in
theorem ggX5_numberOfToken_X5_isDigit : GoodIn wsX5_numberOfToken wsX5_isDigit := goodIn_r _ [7] (by decide +kernel) (by decide +kernel)
set_option maxRecDepth 20000 in
theorem gX5_numberOfToken_X5_isDigit : GoodIn wsX5_numberOfToken (va_wsS RX5 62 yX5_isDigit wsX5_isDigit) := goodIn_app (goodIn_of _ (by decide +kernel)) ggX5_numberOfToken_X5_isDigit
set_option maxRecDepth 20000 in
theorem ggX6_init_X4_init : GoodIn wsX6_init wsX4_init := goodIn_r _ [19, 20, 2, 3, 21, 22, 23, 40, 41, 42, 43] (by decide +kernel) (by decide +kernel)
set_option maxRecDepth 20000 in
theorem gX6_init_X4_init_n19 : GoodIn wsX6_init (wsX4_init) := ggX6_init_X4_init
set_option maxRecDepth 20000 in
theorem ggX6_init_X1_init : GoodIn wsX6_init wsX1_init := goodIn_r _ [25, 26, 2, 3] (by decide +kernel) (by decide +kernel)
set_option maxRecDepth 20000 in
theorem gX6_init_X1_init_n43 : GoodIn wsX6_init (wsX1_init) := ggX6_init_X1_init
set_option maxRecDepth 20000 in
theorem ggX6_keep_X1_put : GoodIn wsX6_keep wsX1_put := goodIn_r _ [7, 8, 9, 10, 11, 12, 33, 34, 35, 36, 37] (by decide +kernel) (by decide +kernel)
set_option maxRecDepth 20000 in
theorem gX6_keep_X1_put : GoodIn wsX6_keep (wsV RX6 55 RX1 yX1_put wsX1_put) := goodIn_app (goodIn_of _ (by decide +kernel)) ggX6_keep_X1_put
set_option maxRecDepth 20000 in
theorem ggX6_keep_X6_doubt : GoodIn wsX6_keep wsX6_doubt := goodIn_r _ [17, 18, 19, 20, 21, 22, 23, 24, 25, 26, 27, 28, 29, 30, 31, 32] (by decide +kernel) (by decide +kernel)
set_option maxRecDepth 20000 in
theorem gX6_keep_X6_doubt : GoodIn wsX6_keep (wsV RX6 59 RX6 yX6_doubt wsX6_doubt) := goodIn_app (goodIn_of _ (by decide +kernel)) ggX6_keep_X6_doubt
set_option maxRecDepth 20000 in
theorem ggX6_drop_X6_doubt : GoodIn wsX6_drop wsX6_doubt := goodIn_r _ [6, 7, 8, 9, 10, 11, 12, 13, 14, 15, 16, 17, 18, 19, 20, 21] (by decide +kernel) (by decide +kernel)
set_option maxRecDepth 20000 in
theorem gX6_drop_X6_doubt : GoodIn wsX6_drop (wsV RX6 59 RX6 yX6_doubt wsX6_doubt) := goodIn_app (goodIn_of _ (by decide +kernel)) ggX6_drop_X6_doubt
set_option maxRecDepth 20000 in
theorem ggX6_thinkOfOne_X6_thoughtBy : GoodIn wsX6_thinkOfOne wsX6_thoughtBy := goodIn_r _ [12, 13, 14, 7, 15, 16, 17, 18, 19, 20, 21, 22, 23, 24, 25, 26, 27, 28, 29, 30, 31, 32, 33, 34, 35, 36, 37, 38, 39, 40, 41, 42, 43, 44, 45, 46, 47, 48, 49, 50, 51, 52, 11, 53, 2, 54, 55, 56, 57, 58, 59, 60, 61, 62, 63, 64, 65, 66, 90, 91, 92, 93, 94, 86, 87, 88, 89, 67, 68, 69, 70, 71, 72, 73, 74, 75, 76, 77, 78, 79, 80, 81, 82, 95, 96, 97, 98] (by decide +kernel) (by decide +kernel)
set_option maxRecDepth 20000 in
theorem gX6_thinkOfOne_X6_thoughtBy : GoodIn wsX6_thinkOfOne (wsV RX6 67 RX6 yX6_thoughtBy wsX6_thoughtBy) := goodIn_app (goodIn_of _ (by decide +kernel)) ggX6_thinkOfOne_X6_thoughtBy
set_option maxRecDepth 20000 in
theorem ggX6_thinkOfOne_X10_has : GoodIn wsX6_thinkOfOne wsX10_has := goodIn_r _ [31] (by decide +kernel) (by decide +kernel)
set_option maxRecDepth 20000 in
theorem gX6_thinkOfOne_X10_has_n83 : GoodIn wsX6_thinkOfOne (wsX10_has) := ggX6_thinkOfOne_X10_has
set_option maxRecDepth 20000 in
theorem ggX6_thinkOfTwo_X10_has : GoodIn wsX6_thinkOfTwo wsX10_has := goodIn_r _ [9] (by decide +kernel) (by decide +kernel)
set_option maxRecDepth 20000 in
theorem gX6_thinkOfTwo_X10_has_n83 : GoodIn wsX6_thinkOfTwo (wsX10_has) := ggX6_thinkOfTwo_X10_has
set_option maxRecDepth 20000 in
theorem ggX6_thinkOfTwo_X6_thoughtBy : GoodIn wsX6_thinkOfTwo wsX6_thoughtBy := goodIn_r _ [14, 15, 16, 5, 17, 18, 19, 20, 21, 22, 23, 24, 25, 26, 27, 28, 29, 30, 7, 8, 9, 31, 32, 33, 34, 35, 36, 37, 38, 39, 40, 41, 42, 43, 44, 45, 46, 47, 48, 49, 50, 51, 13, 52, 4, 53, 54, 55, 56, 57, 58, 59, 60, 61, 62, 63, 64, 65, 89, 90, 91, 92, 93, 85, 86, 87, 88, 69, 70, 71, 72, 73, 74, 75, 76, 77, 78, 79, 80, 81, 82, 83, 84, 94, 95, 96, 97] (by decide +kernel) (by decide +kernel)
set_option maxRecDepth 20000 in
theorem gX6_thinkOfTwo_X6_thoughtBy : GoodIn wsX6_thinkOfTwo (wsV RX6 67 RX6 yX6_thoughtBy wsX6_thoughtBy) := goodIn_app (goodIn_of _ (by decide +kernel)) ggX6_thinkOfTwo_X6_thoughtBy
set_option maxRecDepth 20000 in
theorem ggX6_thoughtBy_X8_shouldSayYes : GoodIn wsX6_thoughtBy wsX8_shouldSayYes := goodIn_r _ [8, 9, 10, 11, 12, 7, 13, 14, 15, 16, 17, 18, 19, 20, 21, 22, 23, 24, 25, 26, 27, 28, 29, 30, 31, 32, 33, 34, 35, 36, 37, 38, 58, 59, 60, 61, 62, 63, 64, 65, 66, 67, 68, 69, 70, 71, 72, 73, 74, 75, 76, 77, 78, 79, 80, 81, 82, 83, 84, 85, 86] (by decide +kernel) (by decide +kernel)
set_option maxRecDepth 20000 in
theorem gX6_thoughtBy_X8_shouldSayYes : GoodIn wsX6_thoughtBy (wsV RX6 100 RX8 yX8_shouldSayYes wsX8_shouldSayYes) := goodIn_app (goodIn_of _ (by decide +kernel)) ggX6_thoughtBy_X8_shouldSayYes
set_option maxRecDepth 20000 in
theorem ggX6_thoughtBy_X6_tenthsToSay : GoodIn wsX6_thoughtBy wsX6_tenthsToSay := goodIn_r _ [43, 44, 45, 46, 47, 48, 49, 50, 51, 52, 53, 54, 55, 56, 57, 67, 68, 69, 70, 71, 72, 73, 74, 75, 76, 77, 78, 79, 80, 81, 82, 58, 59, 60, 61, 62] (by decide +kernel) (by decide +kernel)
set_option maxRecDepth 20000 in
theorem gX6_thoughtBy_X6_tenthsToSay : GoodIn wsX6_thoughtBy (wsV RX6 104 RX6 yX6_tenthsToSay wsX6_tenthsToSay) := goodIn_app (goodIn_of _ (by decide +kernel)) ggX6_thoughtBy_X6_tenthsToSay
set_option maxRecDepth 20000 in
theorem ggX6_tenthsOf_X6_tenthsToSay : GoodIn wsX6_tenthsOf wsX6_tenthsToSay := goodIn_r _ [8, 9, 45, 46, 47, 48, 49, 50, 51, 52, 53, 54, 55, 56, 57, 62, 63, 64, 65, 66, 67, 68, 69, 70, 71, 72, 73, 74, 75, 76, 77, 78, 79, 80, 81, 82] (by decide +kernel) (by decide +kernel)
set_option maxRecDepth 20000 in
theorem gX6_tenthsOf_X6_tenthsToSay : GoodIn wsX6_tenthsOf (wsV RX6 104 RX6 yX6_tenthsToSay wsX6_tenthsToSay) := goodIn_app (goodIn_of _ (by decide +kernel)) ggX6_tenthsOf_X6_tenthsToSay
set_option maxRecDepth 20000 in
theorem ggX6_tenthsOf_X8_shouldSayYes : GoodIn wsX6_tenthsOf wsX8_shouldSayYes := goodIn_r _ [14, 15, 16, 17, 18, 13, 19, 20, 21, 22, 23, 24, 25, 26, 27, 28, 29, 30, 31, 32, 33, 34, 35, 36, 37, 38, 39, 40, 41, 42, 43, 44, 78, 79, 80, 81, 82, 58, 59, 60, 61, 62, 63, 64, 65, 66, 67, 68, 69, 70, 71, 72, 73, 74, 75, 76, 77, 83, 84, 85, 86] (by decide +kernel) (by decide +kernel)
set_option maxRecDepth 20000 in
theorem gX6_tenthsOf_X8_shouldSayYes : GoodIn wsX6_tenthsOf (wsV RX6 100 RX8 yX8_shouldSayYes wsX8_shouldSayYes) := goodIn_app (goodIn_of _ (by decide +kernel)) ggX6_tenthsOf_X8_shouldSayYes
set_option maxRecDepth 20000 in
theorem ggX6_nodesThatFit_X10_has : GoodIn wsX6_nodesThatFit wsX10_has := goodIn_r _ [5] (by decide +kernel) (by decide +kernel)
set_option maxRecDepth 20000 in
theorem gX6_nodesThatFit_X10_has_n83 : GoodIn wsX6_nodesThatFit (wsX10_has) := ggX6_nodesThatFit_X10_has
set_option maxRecDepth 20000 in
theorem ggX6_nodesThatFit_X4_follow : GoodIn wsX6_nodesThatFit wsX4_follow := goodIn_r _ [10, 11, 12, 13, 14, 79, 80, 81, 82, 63, 64, 65, 66, 67, 68, 69, 70, 71, 72, 73, 74, 75, 76, 77, 78] (by decide +kernel) (by decide +kernel)
set_option maxRecDepth 20000 in
theorem gX6_nodesThatFit_X4_follow : GoodIn wsX6_nodesThatFit (wsV RX6 123 RX4 yX4_follow wsX4_follow) := goodIn_app (goodIn_of _ (by decide +kernel)) ggX6_nodesThatFit_X4_follow
