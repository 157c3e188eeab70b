/-! ===== part 80c2: the law's calls ===== -/
set_option maxRecDepth 20000 in
theorem ggL_law_X1_buildFourCore : GoodIn wsL_law wsX1_buildFourCore := goodIn_r _ [264, 28, 49, 50, 52, 245, 246, 247, 5, 248, 51, 265, 266, 267, 268, 146, 147, 148, 149, 29, 30, 31, 32, 591, 592, 593, 594, 595, 596, 597, 598, 599, 600, 601, 602, 603] (by decide +kernel) (by decide +kernel)
set_option maxRecDepth 20000 in
theorem gL_law_X1_buildFourCore : GoodIn wsL_law (wsV RL 64 RX1 yX1_buildFourCore wsX1_buildFourCore) := goodIn_app (goodIn_of _ (by decide +kernel)) ggL_law_X1_buildFourCore
set_option maxRecDepth 20000 in
theorem ggL_law_X0_buildGatherSpread : GoodIn wsL_law wsX0_buildGatherSpread := goodIn_r _ [272, 12, 13, 44, 87, 88, 89, 2, 90, 91, 92, 93, 94, 14, 64, 65, 66, 67, 68, 69, 70, 39, 40, 41, 42, 43, 253, 254, 255, 256, 130, 131, 132, 133, 16, 17, 18, 20, 257, 258, 259, 260, 579, 580, 581, 582, 583, 584, 585, 586, 587, 588, 589, 590] (by decide +kernel) (by decide +kernel)
set_option maxRecDepth 20000 in
theorem gL_law_X0_buildGatherSpread : GoodIn wsL_law (wsV RL 65 RX0 yX0_buildGatherSpread wsX0_buildGatherSpread) := goodIn_app (goodIn_of _ (by decide +kernel)) ggL_law_X0_buildGatherSpread
set_option maxRecDepth 20000 in
theorem ggL_law_X1_buildGatherSpread : GoodIn wsL_law wsX1_buildGatherSpread := goodIn_r _ [276, 28, 49, 52, 103, 104, 105, 5, 106, 50, 245, 246, 247, 248, 51, 265, 266, 267, 268, 146, 147, 148, 149, 29, 30, 31, 32, 591, 592, 593, 594, 595, 596, 597, 598, 599, 600, 601, 602, 603] (by decide +kernel) (by decide +kernel)
set_option maxRecDepth 20000 in
theorem gL_law_X1_buildGatherSpread : GoodIn wsL_law (wsV RL 68 RX1 yX1_buildGatherSpread wsX1_buildGatherSpread) := goodIn_app (goodIn_of _ (by decide +kernel)) ggL_law_X1_buildGatherSpread
set_option maxRecDepth 20000 in
theorem ggL_law_X0_personCount : GoodIn wsL_law wsX0_personCount := goodIn_r _ [280, 12, 579, 580, 581, 582, 583, 584, 585, 586, 587, 588, 589, 590] (by decide +kernel) (by decide +kernel)
set_option maxRecDepth 20000 in
theorem gL_law_X0_personCount : GoodIn wsL_law (wsV RL 69 RX0 yX0_personCount wsX0_personCount) := goodIn_app (goodIn_of _ (by decide +kernel)) ggL_law_X0_personCount
set_option maxRecDepth 20000 in
theorem ggL_law_X1_personCount : GoodIn wsL_law wsX1_personCount := goodIn_r _ [284, 28, 591, 592, 593, 594, 595, 596, 597, 598, 599, 600, 601, 602, 603] (by decide +kernel) (by decide +kernel)
set_option maxRecDepth 20000 in
theorem gL_law_X1_personCount : GoodIn wsL_law (wsV RL 72 RX1 yX1_personCount wsX1_personCount) := goodIn_app (goodIn_of _ (by decide +kernel)) ggL_law_X1_personCount
set_option maxRecDepth 20000 in
theorem ggL_law_X0_roundCount : GoodIn wsL_law wsX0_roundCount := goodIn_r _ [288, 43, 579, 580, 581, 582, 583, 584, 585, 586, 587, 588, 589, 590] (by decide +kernel) (by decide +kernel)
set_option maxRecDepth 20000 in
theorem gL_law_X0_roundCount : GoodIn wsL_law (wsV RL 73 RX0 yX0_roundCount wsX0_roundCount) := goodIn_app (goodIn_of _ (by decide +kernel)) ggL_law_X0_roundCount
set_option maxRecDepth 20000 in
theorem ggL_law_X1_roundCount : GoodIn wsL_law wsX1_roundCount := goodIn_r _ [292, 51, 591, 592, 593, 594, 595, 596, 597, 598, 599, 600, 601, 602, 603] (by decide +kernel) (by decide +kernel)
set_option maxRecDepth 20000 in
theorem gL_law_X1_roundCount : GoodIn wsL_law (wsV RL 76 RX1 yX1_roundCount wsX1_roundCount) := goodIn_app (goodIn_of _ (by decide +kernel)) ggL_law_X1_roundCount
set_option maxRecDepth 20000 in
theorem ggL_law_X0_callCount : GoodIn wsL_law wsX0_callCount := goodIn_r _ [296, 44, 579, 580, 581, 582, 583, 584, 585, 586, 587, 588, 589, 590] (by decide +kernel) (by decide +kernel)
set_option maxRecDepth 20000 in
theorem gL_law_X0_callCount : GoodIn wsL_law (wsV RL 77 RX0 yX0_callCount wsX0_callCount) := goodIn_app (goodIn_of _ (by decide +kernel)) ggL_law_X0_callCount
set_option maxRecDepth 20000 in
theorem ggL_law_X1_callCount : GoodIn wsL_law wsX1_callCount := goodIn_r _ [300, 52, 591, 592, 593, 594, 595, 596, 597, 598, 599, 600, 601, 602, 603] (by decide +kernel) (by decide +kernel)
set_option maxRecDepth 20000 in
theorem gL_law_X1_callCount : GoodIn wsL_law (wsV RL 80 RX1 yX1_callCount wsX1_callCount) := goodIn_app (goodIn_of _ (by decide +kernel)) ggL_law_X1_callCount
set_option maxRecDepth 20000 in
theorem ggL_law_X0_describeCall : GoodIn wsL_law wsX0_describeCall := goodIn_r _ [304, 20, 16, 17, 18, 305, 306, 307, 2, 308, 44, 579, 580, 581, 582, 583, 584, 585, 586, 587, 588, 589, 590] (by decide +kernel) (by decide +kernel)
set_option maxRecDepth 20000 in
theorem gL_law_X0_describeCall : GoodIn wsL_law (wsV RL 81 RX0 yX0_describeCall wsX0_describeCall) := goodIn_app (goodIn_of _ (by decide +kernel)) ggL_law_X0_describeCall
set_option maxRecDepth 20000 in
theorem ggL_law_X1_describeCall : GoodIn wsL_law wsX1_describeCall := goodIn_r _ [312, 313, 314, 315, 5, 316, 52, 53, 54, 55, 317, 318, 319, 320, 29, 32, 30, 31, 591, 592, 593, 594, 595, 596, 597, 598, 599, 600, 601, 602, 603] (by decide +kernel) (by decide +kernel)
set_option maxRecDepth 20000 in
theorem gL_law_X1_describeCall : GoodIn wsL_law (wsV RL 84 RX1 yX1_describeCall wsX1_describeCall) := goodIn_app (goodIn_of _ (by decide +kernel)) ggL_law_X1_describeCall
set_option maxRecDepth 20000 in
theorem ggL_law_X0_knowledge : GoodIn wsL_law wsX0_knowledge := goodIn_r _ [324, 43, 83, 84, 85, 2, 86, 12, 325, 326, 327, 328, 44, 16, 329, 330, 331, 332, 333, 334, 335, 336, 17, 18, 337, 20, 338, 339, 340, 579, 580, 581, 582, 583, 584, 585, 586, 587, 588, 589, 590] (by decide +kernel) (by decide +kernel)
set_option maxRecDepth 20000 in
theorem gL_law_X0_knowledge : GoodIn wsL_law (wsV RL 85 RX0 yX0_knowledge wsX0_knowledge) := goodIn_app (goodIn_of _ (by decide +kernel)) ggL_law_X0_knowledge
set_option maxRecDepth 20000 in
theorem ggL_law_X1_knowledge : GoodIn wsL_law wsX1_knowledge := goodIn_r _ [344, 51, 34, 99, 100, 101, 5, 102, 28, 53, 54, 55, 345, 346, 347, 348, 52, 29, 349, 350, 351, 352, 353, 354, 355, 356, 30, 31, 32, 591, 592, 593, 594, 595, 596, 597, 598, 599, 600, 601, 602, 603] (by decide +kernel) (by decide +kernel)
set_option maxRecDepth 20000 in
theorem gL_law_X1_knowledge : GoodIn wsL_law (wsV RL 88 RX1 yX1_knowledge wsX1_knowledge) := goodIn_app (goodIn_of _ (by decide +kernel)) ggL_law_X1_knowledge
