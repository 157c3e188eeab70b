/-! ===== part 80c0: the law's calls ===== -/
theorem inX0 : ∀ w ∈ wsX00, w ∈ lw_tbl := fun w h => wsL_law_in w (inlX0 w h)
theorem inX1 : ∀ w ∈ wsX10, w ∈ lw_tbl := fun w h => wsL_law_in w (inlX1 w h)
set_option maxRecDepth 20000 in
theorem ggL_law_X0_init : GoodIn wsL_law wsX0_init := goodIn_r _ [8, 9, 10, 11, 12, 13, 14, 15, 16, 17, 18, 19, 20, 21, 22, 23, 579, 580, 581, 582, 583, 584, 585, 586, 587, 588, 589, 590] (by decide +kernel) (by decide +kernel)
set_option maxRecDepth 20000 in
theorem gL_law_X0_init : GoodIn wsL_law (wsX0_init) := ggL_law_X0_init
set_option maxRecDepth 20000 in
theorem ggL_law_X1_init : GoodIn wsL_law wsX1_init := goodIn_r _ [26, 27, 10, 11, 28, 15, 29, 30, 31, 19, 32, 33, 34, 591, 592, 593, 594, 595, 596, 597, 598, 599, 600, 601, 602, 603] (by decide +kernel) (by decide +kernel)
set_option maxRecDepth 20000 in
theorem gL_law_X1_init : GoodIn wsL_law (wsX1_init) := ggL_law_X1_init
set_option maxRecDepth 20000 in
theorem ggL_law_X0_newSchedule : GoodIn wsL_law wsX0_newSchedule := goodIn_r _ [38, 12, 13, 14, 39, 40, 41, 2, 42, 43, 44, 579, 580, 581, 582, 583, 584, 585, 586, 587, 588, 589, 590] (by decide +kernel) (by decide +kernel)
set_option maxRecDepth 20000 in
theorem gL_law_X0_newSchedule : GoodIn wsL_law (wsV RL 13 RX0 yX0_newSchedule wsX0_newSchedule) := goodIn_app (goodIn_of _ (by decide +kernel)) ggL_law_X0_newSchedule
set_option maxRecDepth 20000 in
theorem ggL_law_X1_newSchedule : GoodIn wsL_law wsX1_newSchedule := goodIn_r _ [48, 28, 49, 50, 51, 52, 53, 54, 5, 55, 591, 592, 593, 594, 595, 596, 597, 598, 599, 600, 601, 602, 603] (by decide +kernel) (by decide +kernel)
set_option maxRecDepth 20000 in
theorem gL_law_X1_newSchedule : GoodIn wsL_law (wsV RL 17 RX1 yX1_newSchedule wsX1_newSchedule) := goodIn_app (goodIn_of _ (by decide +kernel)) ggL_law_X1_newSchedule
set_option maxRecDepth 20000 in
theorem ggL_law_X0_setGraph : GoodIn wsL_law wsX0_setGraph := goodIn_r _ [59, 14, 60, 61, 62, 2, 63, 12, 64, 65, 66, 67, 68, 69, 70, 579, 580, 581, 582, 583, 584, 585, 586, 587, 588, 589, 590] (by decide +kernel) (by decide +kernel)
set_option maxRecDepth 20000 in
theorem gL_law_X0_setGraph : GoodIn wsL_law (wsV RL 18 RX0 yX0_setGraph wsX0_setGraph) := goodIn_app (goodIn_of _ (by decide +kernel)) ggL_law_X0_setGraph
set_option maxRecDepth 20000 in
theorem ggL_law_X1_setGraph : GoodIn wsL_law wsX1_setGraph := goodIn_r _ [74, 50, 53, 54, 5, 55, 75, 76, 77, 78, 28, 591, 592, 593, 594, 595, 596, 597, 598, 599, 600, 601, 602, 603] (by decide +kernel) (by decide +kernel)
set_option maxRecDepth 20000 in
theorem gL_law_X1_setGraph : GoodIn wsL_law (wsV RL 22 RX1 yX1_setGraph wsX1_setGraph) := goodIn_app (goodIn_of _ (by decide +kernel)) ggL_law_X1_setGraph
set_option maxRecDepth 20000 in
theorem ggL_law_X0_areNeighbors : GoodIn wsL_law wsX0_areNeighbors := goodIn_r _ [82, 83, 84, 85, 2, 86, 12, 87, 88, 89, 90, 91, 92, 93, 94, 14, 64, 65, 66, 67, 68, 69, 70, 579, 580, 581, 582, 583, 584, 585, 586, 587, 588, 589, 590] (by decide +kernel) (by decide +kernel)
set_option maxRecDepth 20000 in
theorem gL_law_X0_areNeighbors : GoodIn wsL_law (wsV RL 23 RX0 yX0_areNeighbors wsX0_areNeighbors) := goodIn_app (goodIn_of _ (by decide +kernel)) ggL_law_X0_areNeighbors
set_option maxRecDepth 20000 in
theorem ggL_law_X1_areNeighbors : GoodIn wsL_law wsX1_areNeighbors := goodIn_r _ [98, 99, 100, 101, 5, 102, 28, 53, 54, 55, 103, 104, 105, 106, 50, 591, 592, 593, 594, 595, 596, 597, 598, 599, 600, 601, 602, 603] (by decide +kernel) (by decide +kernel)
set_option maxRecDepth 20000 in
theorem gL_law_X1_areNeighbors : GoodIn wsL_law (wsV RL 26 RX1 yX1_areNeighbors wsX1_areNeighbors) := goodIn_app (goodIn_of _ (by decide +kernel)) ggL_law_X1_areNeighbors
set_option maxRecDepth 20000 in
theorem ggL_law_X0_addRound : GoodIn wsL_law wsX0_addRound := goodIn_r _ [110, 43, 579, 580, 581, 582, 583, 584, 585, 586, 587, 588, 589, 590] (by decide +kernel) (by decide +kernel)
set_option maxRecDepth 20000 in
theorem gL_law_X0_addRound : GoodIn wsL_law (wsV RL 27 RX0 yX0_addRound wsX0_addRound) := goodIn_app (goodIn_of _ (by decide +kernel)) ggL_law_X0_addRound
set_option maxRecDepth 20000 in
theorem ggL_law_X1_addRound : GoodIn wsL_law wsX1_addRound := goodIn_r _ [114, 51, 591, 592, 593, 594, 595, 596, 597, 598, 599, 600, 601, 602, 603] (by decide +kernel) (by decide +kernel)
set_option maxRecDepth 20000 in
theorem gL_law_X1_addRound : GoodIn wsL_law (wsV RL 31 RX1 yX1_addRound wsX1_addRound) := goodIn_app (goodIn_of _ (by decide +kernel)) ggL_law_X1_addRound
set_option maxRecDepth 20000 in
theorem ggL_law_X0_addCall : GoodIn wsL_law wsX0_addCall := goodIn_r _ [118, 43, 44, 83, 84, 85, 2, 86, 12, 87, 88, 89, 90, 91, 92, 93, 94, 14, 64, 65, 66, 67, 68, 69, 70, 119, 120, 121, 122, 16, 17, 18, 123, 124, 125, 126, 127, 128, 129, 13, 130, 131, 132, 133, 20, 579, 580, 581, 582, 583, 584, 585, 586, 587, 588, 589, 590] (by decide +kernel) (by decide +kernel)
set_option maxRecDepth 20000 in
theorem gL_law_X0_addCall : GoodIn wsL_law (wsV RL 32 RX0 yX0_addCall wsX0_addCall) := goodIn_app (goodIn_of _ (by decide +kernel)) ggL_law_X0_addCall
set_option maxRecDepth 20000 in
theorem ggL_law_X1_addCall : GoodIn wsL_law wsX1_addCall := goodIn_r _ [137, 51, 52, 99, 100, 101, 5, 102, 28, 53, 54, 55, 103, 104, 105, 106, 50, 138, 139, 140, 141, 29, 30, 31, 142, 143, 144, 145, 49, 146, 147, 148, 149, 32, 591, 592, 593, 594, 595, 596, 597, 598, 599, 600, 601, 602, 603] (by decide +kernel) (by decide +kernel)
set_option maxRecDepth 20000 in
theorem gL_law_X1_addCall : GoodIn wsL_law (wsV RL 36 RX1 yX1_addCall wsX1_addCall) := goodIn_app (goodIn_of _ (by decide +kernel)) ggL_law_X1_addCall
