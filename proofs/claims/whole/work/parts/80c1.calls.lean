/-! ===== part 80c1: the law's calls ===== -/
set_option maxRecDepth 20000 in
theorem ggL_law_X0_removeLastRound : GoodIn wsL_law wsX0_removeLastRound := goodIn_r _ [153, 43, 44, 16, 579, 580, 581, 582, 583, 584, 585, 586, 587, 588, 589, 590] (by decide +kernel) (by decide +kernel)
set_option maxRecDepth 20000 in
theorem gL_law_X0_removeLastRound : GoodIn wsL_law (wsV RL 37 RX0 yX0_removeLastRound wsX0_removeLastRound) := goodIn_app (goodIn_of _ (by decide +kernel)) ggL_law_X0_removeLastRound
set_option maxRecDepth 20000 in
theorem ggL_law_X1_removeLastRound : GoodIn wsL_law wsX1_removeLastRound := goodIn_r _ [157, 51, 52, 29, 591, 592, 593, 594, 595, 596, 597, 598, 599, 600, 601, 602, 603] (by decide +kernel) (by decide +kernel)
set_option maxRecDepth 20000 in
theorem gL_law_X1_removeLastRound : GoodIn wsL_law (wsV RL 40 RX1 yX1_removeLastRound wsX1_removeLastRound) := goodIn_app (goodIn_of _ (by decide +kernel)) ggL_law_X1_removeLastRound
set_option maxRecDepth 20000 in
theorem ggL_law_X0_append : GoodIn wsL_law wsX0_append := goodIn_r _ [161, 162, 21, 579, 580, 581, 582, 583, 584, 585, 586, 587, 588, 589, 590] (by decide +kernel) (by decide +kernel)
set_option maxRecDepth 20000 in
theorem gL_law_X0_append : GoodIn wsL_law (wsV RL 41 RX0 yX0_append wsX0_append) := goodIn_app (goodIn_of _ (by decide +kernel)) ggL_law_X0_append
set_option maxRecDepth 20000 in
theorem ggL_law_X1_append : GoodIn wsL_law wsX1_append := goodIn_r _ [166, 167, 33, 53, 54, 5, 55, 591, 592, 593, 594, 595, 596, 597, 598, 599, 600, 601, 602, 603] (by decide +kernel) (by decide +kernel)
set_option maxRecDepth 20000 in
theorem gL_law_X1_append : GoodIn wsL_law (wsV RL 44 RX1 yX1_append wsX1_append) := goodIn_app (goodIn_of _ (by decide +kernel)) ggL_law_X1_append
set_option maxRecDepth 20000 in
theorem ggL_law_X0_clearInput : GoodIn wsL_law wsX0_clearInput := goodIn_r _ [171, 162, 579, 580, 581, 582, 583, 584, 585, 586, 587, 588, 589, 590] (by decide +kernel) (by decide +kernel)
set_option maxRecDepth 20000 in
theorem gL_law_X0_clearInput : GoodIn wsL_law (wsV RL 45 RX0 yX0_clearInput wsX0_clearInput) := goodIn_app (goodIn_of _ (by decide +kernel)) ggL_law_X0_clearInput
set_option maxRecDepth 20000 in
theorem ggL_law_X1_clearInput : GoodIn wsL_law wsX1_clearInput := goodIn_r _ [175, 167, 591, 592, 593, 594, 595, 596, 597, 598, 599, 600, 601, 602, 603] (by decide +kernel) (by decide +kernel)
set_option maxRecDepth 20000 in
theorem gL_law_X1_clearInput : GoodIn wsL_law (wsV RL 48 RX1 yX1_clearInput wsX1_clearInput) := goodIn_app (goodIn_of _ (by decide +kernel)) ggL_law_X1_clearInput
set_option maxRecDepth 20000 in
theorem ggL_law_X0_firstError : GoodIn wsL_law wsX0_firstError := goodIn_r _ [179, 162, 180, 181, 182, 2, 183, 21, 184, 185, 186, 187, 83, 84, 85, 86, 12, 579, 580, 581, 582, 583, 584, 585, 586, 587, 588, 589, 590] (by decide +kernel) (by decide +kernel)
set_option maxRecDepth 20000 in
theorem gL_law_X0_firstError : GoodIn wsL_law (wsV RL 49 RX0 yX0_firstError wsX0_firstError) := goodIn_app (goodIn_of _ (by decide +kernel)) ggL_law_X0_firstError
set_option maxRecDepth 20000 in
theorem ggL_law_X1_firstError : GoodIn wsL_law wsX1_firstError := goodIn_r _ [191, 192, 193, 194, 5, 195, 167, 196, 197, 198, 199, 33, 28, 53, 54, 55, 591, 592, 593, 594, 595, 596, 597, 598, 599, 600, 601, 602, 603] (by decide +kernel) (by decide +kernel)
set_option maxRecDepth 20000 in
theorem gL_law_X1_firstError : GoodIn wsL_law (wsV RL 52 RX1 yX1_firstError wsX1_firstError) := goodIn_app (goodIn_of _ (by decide +kernel)) ggL_law_X1_firstError
set_option maxRecDepth 20000 in
theorem ggL_law_X0_load : GoodIn wsL_law wsX0_load := goodIn_r _ [203, 162, 44, 204, 205, 206, 2, 207, 208, 177, 178, 179, 180, 181, 182, 183, 21, 184, 185, 186, 187, 83, 84, 85, 86, 12, 209, 210, 211, 212, 213, 214, 215, 216, 87, 88, 89, 90, 91, 92, 93, 94, 14, 64, 65, 66, 67, 68, 69, 70, 123, 124, 125, 126, 127, 128, 129, 13, 217, 218, 219, 220, 43, 39, 40, 41, 42, 130, 131, 132, 133, 16, 17, 18, 20, 579, 580, 581, 582, 583, 584, 585, 586, 587, 588, 589, 590] (by decide +kernel) (by decide +kernel)
set_option maxRecDepth 20000 in
theorem gL_law_X0_load : GoodIn wsL_law (wsV RL 53 RX0 yX0_load wsX0_load) := goodIn_app (goodIn_of _ (by decide +kernel)) ggL_law_X0_load
set_option maxRecDepth 20000 in
theorem ggL_law_X1_load : GoodIn wsL_law wsX1_load := goodIn_r _ [224, 167, 51, 52, 33, 192, 193, 194, 5, 195, 196, 197, 198, 199, 28, 53, 54, 55, 225, 226, 227, 228, 103, 104, 105, 106, 50, 229, 230, 231, 232, 142, 143, 144, 145, 49, 146, 147, 148, 149, 29, 30, 31, 32, 591, 592, 593, 594, 595, 596, 597, 598, 599, 600, 601, 602, 603] (by decide +kernel) (by decide +kernel)
set_option maxRecDepth 20000 in
theorem gL_law_X1_load : GoodIn wsL_law (wsV RL 56 RX1 yX1_load wsX1_load) := goodIn_app (goodIn_of _ (by decide +kernel)) ggL_law_X1_load
set_option maxRecDepth 20000 in
theorem ggL_law_X0_buildDoubling : GoodIn wsL_law wsX0_buildDoubling := goodIn_r _ [236, 13, 14, 12, 43, 44, 60, 61, 62, 2, 63, 64, 65, 66, 67, 68, 69, 70, 39, 40, 41, 42, 237, 238, 239, 240, 130, 131, 132, 133, 16, 17, 18, 20, 579, 580, 581, 582, 583, 584, 585, 586, 587, 588, 589, 590] (by decide +kernel) (by decide +kernel)
set_option maxRecDepth 20000 in
theorem gL_law_X0_buildDoubling : GoodIn wsL_law (wsV RL 57 RX0 yX0_buildDoubling wsX0_buildDoubling) := goodIn_app (goodIn_of _ (by decide +kernel)) ggL_law_X0_buildDoubling
set_option maxRecDepth 20000 in
theorem ggL_law_X1_buildDoubling : GoodIn wsL_law wsX1_buildDoubling := goodIn_r _ [244, 49, 50, 28, 51, 52, 75, 76, 77, 5, 78, 245, 246, 247, 248, 146, 147, 148, 149, 29, 30, 31, 32, 591, 592, 593, 594, 595, 596, 597, 598, 599, 600, 601, 602, 603] (by decide +kernel) (by decide +kernel)
set_option maxRecDepth 20000 in
theorem gL_law_X1_buildDoubling : GoodIn wsL_law (wsV RL 60 RX1 yX1_buildDoubling wsX1_buildDoubling) := goodIn_app (goodIn_of _ (by decide +kernel)) ggL_law_X1_buildDoubling
set_option maxRecDepth 20000 in
theorem ggL_law_X0_buildFourCore : GoodIn wsL_law wsX0_buildFourCore := goodIn_r _ [252, 12, 13, 14, 43, 44, 39, 40, 41, 2, 42, 253, 254, 255, 256, 130, 131, 132, 133, 16, 17, 18, 20, 257, 258, 259, 260, 579, 580, 581, 582, 583, 584, 585, 586, 587, 588, 589, 590] (by decide +kernel) (by decide +kernel)
set_option maxRecDepth 20000 in
theorem gL_law_X0_buildFourCore : GoodIn wsL_law (wsV RL 61 RX0 yX0_buildFourCore wsX0_buildFourCore) := goodIn_app (goodIn_of _ (by decide +kernel)) ggL_law_X0_buildFourCore
