/-! ===== part 80c3: the law's calls ===== -/
set_option maxRecDepth 20000 in
theorem ggL_law_X0_completeAfter : GoodIn wsL_law wsX0_completeAfter := goodIn_r _ [360, 44, 16, 361, 362, 363, 2, 364, 12, 329, 330, 331, 332, 333, 334, 335, 336, 17, 18, 337, 20, 579, 580, 581, 582, 583, 584, 585, 586, 587, 588, 589, 590] (by decide +kernel) (by decide +kernel)
set_option maxRecDepth 20000 in
theorem gL_law_X0_completeAfter : GoodIn wsL_law (wsV RL 89 RX0 yX0_completeAfter wsX0_completeAfter) := goodIn_app (goodIn_of _ (by decide +kernel)) ggL_law_X0_completeAfter
set_option maxRecDepth 20000 in
theorem ggL_law_X1_completeAfter : GoodIn wsL_law wsX1_completeAfter := goodIn_r _ [368, 369, 370, 371, 5, 372, 51, 345, 346, 347, 348, 52, 29, 349, 350, 351, 352, 34, 353, 354, 355, 356, 30, 31, 32, 373, 374, 375, 376, 28, 591, 592, 593, 594, 595, 596, 597, 598, 599, 600, 601, 602, 603] (by decide +kernel) (by decide +kernel)
set_option maxRecDepth 20000 in
theorem gL_law_X1_completeAfter : GoodIn wsL_law (wsV RL 92 RX1 yX1_completeAfter wsX1_completeAfter) := goodIn_app (goodIn_of _ (by decide +kernel)) ggL_law_X1_completeAfter
set_option maxRecDepth 20000 in
theorem ggL_law_X0_redundantCalls : GoodIn wsL_law wsX0_redundantCalls := goodIn_r _ [380, 44, 329, 330, 331, 2, 332, 12, 333, 334, 335, 336, 17, 18, 337, 20, 579, 580, 581, 582, 583, 584, 585, 586, 587, 588, 589, 590] (by decide +kernel) (by decide +kernel)
set_option maxRecDepth 20000 in
theorem gL_law_X0_redundantCalls : GoodIn wsL_law (wsV RL 93 RX0 yX0_redundantCalls wsX0_redundantCalls) := goodIn_app (goodIn_of _ (by decide +kernel)) ggL_law_X0_redundantCalls
set_option maxRecDepth 20000 in
theorem ggL_law_X1_redundantCalls : GoodIn wsL_law wsX1_redundantCalls := goodIn_r _ [384, 385, 386, 387, 5, 388, 52, 349, 350, 351, 352, 34, 353, 354, 355, 356, 30, 31, 32, 591, 592, 593, 594, 595, 596, 597, 598, 599, 600, 601, 602, 603] (by decide +kernel) (by decide +kernel)
set_option maxRecDepth 20000 in
theorem gL_law_X1_redundantCalls : GoodIn wsL_law (wsV RL 96 RX1 yX1_redundantCalls wsX1_redundantCalls) := goodIn_app (goodIn_of _ (by decide +kernel)) ggL_law_X1_redundantCalls
set_option maxRecDepth 20000 in
theorem ggL_law_X0_averageKnowledge : GoodIn wsL_law wsX0_averageKnowledge := goodIn_r _ [392, 43, 325, 326, 327, 2, 328, 44, 16, 329, 330, 331, 332, 12, 333, 334, 335, 336, 17, 18, 337, 20, 393, 394, 395, 396, 397, 398, 399, 400, 401, 402, 403, 404, 405, 406, 407, 579, 580, 581, 582, 583, 584, 585, 586, 587, 588, 589, 590] (by decide +kernel) (by decide +kernel)
set_option maxRecDepth 20000 in
theorem gL_law_X0_averageKnowledge : GoodIn wsL_law (wsV RL 97 RX0 yX0_averageKnowledge wsX0_averageKnowledge) := goodIn_app (goodIn_of _ (by decide +kernel)) ggL_law_X0_averageKnowledge
set_option maxRecDepth 20000 in
theorem ggL_law_X1_averageKnowledge : GoodIn wsL_law wsX1_averageKnowledge := goodIn_r _ [411, 51, 53, 54, 5, 55, 412, 413, 414, 415, 28, 34, 345, 346, 347, 348, 52, 29, 349, 350, 351, 352, 353, 354, 355, 356, 30, 31, 32, 416, 417, 418, 419, 420, 421, 422, 423, 424, 425, 426, 427, 591, 592, 593, 594, 595, 596, 597, 598, 599, 600, 601, 602, 603] (by decide +kernel) (by decide +kernel)
set_option maxRecDepth 20000 in
theorem gL_law_X1_averageKnowledge : GoodIn wsL_law (wsV RL 100 RX1 yX1_averageKnowledge wsX1_averageKnowledge) := goodIn_app (goodIn_of _ (by decide +kernel)) ggL_law_X1_averageKnowledge
set_option maxRecDepth 20000 in
theorem ggL_law_X0_leastCalls : GoodIn wsL_law wsX0_leastCalls := goodIn_r _ [431, 12, 432, 433, 434, 2, 435, 14, 579, 580, 581, 582, 583, 584, 585, 586, 587, 588, 589, 590] (by decide +kernel) (by decide +kernel)
set_option maxRecDepth 20000 in
theorem gL_law_X0_leastCalls : GoodIn wsL_law (wsV RL 101 RX0 yX0_leastCalls wsX0_leastCalls) := goodIn_app (goodIn_of _ (by decide +kernel)) ggL_law_X0_leastCalls
set_option maxRecDepth 20000 in
theorem ggL_law_X1_leastCalls : GoodIn wsL_law wsX1_leastCalls := goodIn_r _ [439, 440, 441, 442, 5, 443, 28, 444, 445, 446, 447, 50, 591, 592, 593, 594, 595, 596, 597, 598, 599, 600, 601, 602, 603] (by decide +kernel) (by decide +kernel)
set_option maxRecDepth 20000 in
theorem gL_law_X1_leastCalls : GoodIn wsL_law (wsV RL 105 RX1 yX1_leastCalls wsX1_leastCalls) := goodIn_app (goodIn_of _ (by decide +kernel)) ggL_law_X1_leastCalls
set_option maxRecDepth 20000 in
theorem ggL_law_X0_isCritical : GoodIn wsL_law wsX0_isCritical := goodIn_r _ [451, 305, 306, 307, 2, 308, 44, 452, 453, 454, 455, 43, 325, 326, 327, 328, 16, 329, 330, 331, 332, 12, 333, 334, 335, 336, 17, 18, 337, 20, 361, 362, 363, 364, 456, 457, 458, 459, 579, 580, 581, 582, 583, 584, 585, 586, 587, 588, 589, 590] (by decide +kernel) (by decide +kernel)
set_option maxRecDepth 20000 in
theorem gL_law_X0_isCritical : GoodIn wsL_law (wsV RL 106 RX0 yX0_isCritical wsX0_isCritical) := goodIn_app (goodIn_of _ (by decide +kernel)) ggL_law_X0_isCritical
set_option maxRecDepth 20000 in
theorem ggL_law_X1_isCritical : GoodIn wsL_law wsX1_isCritical := goodIn_r _ [463, 313, 314, 315, 5, 316, 52, 53, 54, 55, 464, 465, 466, 467, 468, 469, 470, 471, 472, 473, 474, 475, 349, 350, 351, 352, 34, 353, 354, 355, 356, 30, 31, 32, 373, 374, 375, 376, 28, 591, 592, 593, 594, 595, 596, 597, 598, 599, 600, 601, 602, 603] (by decide +kernel) (by decide +kernel)
set_option maxRecDepth 20000 in
theorem gL_law_X1_isCritical : GoodIn wsL_law (wsV RL 109 RX1 yX1_isCritical wsX1_isCritical) := goodIn_app (goodIn_of _ (by decide +kernel)) ggL_law_X1_isCritical
set_option maxRecDepth 20000 in
theorem ggL_law_X0_smallestSufficientCalls : GoodIn wsL_law wsX0_smallestSufficientCalls := goodIn_r _ [479, 44, 23, 452, 453, 454, 2, 455, 43, 325, 326, 327, 328, 16, 329, 330, 331, 332, 12, 333, 334, 335, 336, 17, 18, 337, 20, 361, 362, 363, 364, 480, 481, 482, 483, 64, 65, 66, 67, 68, 69, 70, 579, 580, 581, 582, 583, 584, 585, 586, 587, 588, 589, 590] (by decide +kernel) (by decide +kernel)
set_option maxRecDepth 20000 in
theorem gL_law_X0_smallestSufficientCalls : GoodIn wsL_law (wsV RL 110 RX0 yX0_smallestSufficientCalls wsX0_smallestSufficientCalls) := goodIn_app (goodIn_of _ (by decide +kernel)) ggL_law_X0_smallestSufficientCalls
set_option maxRecDepth 20000 in
theorem ggL_law_X1_smallestSufficientCalls : GoodIn wsL_law wsX1_smallestSufficientCalls := goodIn_r _ [487, 488, 489, 490, 5, 491, 52, 492, 493, 494, 472, 473, 474, 475, 349, 350, 351, 352, 34, 353, 354, 355, 356, 30, 31, 32, 373, 374, 375, 376, 28, 591, 592, 593, 594, 595, 596, 597, 598, 599, 600, 601, 602, 603] (by decide +kernel) (by decide +kernel)
set_option maxRecDepth 20000 in
theorem gL_law_X1_smallestSufficientCalls : GoodIn wsL_law (wsV RL 113 RX1 yX1_smallestSufficientCalls wsX1_smallestSufficientCalls) := goodIn_app (goodIn_of _ (by decide +kernel)) ggL_law_X1_smallestSufficientCalls
set_option maxRecDepth 20000 in
theorem ggL_law_X0_successProbability : GoodIn wsL_law wsX0_successProbability := goodIn_r _ [498, 499, 44, 500, 501, 23, 480, 481, 482, 2, 483, 329, 330, 331, 332, 12, 333, 334, 335, 336, 17, 18, 337, 20, 361, 362, 363, 364, 502, 503, 504, 505, 506, 507, 508, 509, 510, 511, 579, 580, 581, 582, 583, 584, 585, 586, 587, 588, 589, 590] (by decide +kernel) (by decide +kernel)
set_option maxRecDepth 20000 in
theorem gL_law_X0_successProbability : GoodIn wsL_law (wsV RL 114 RX0 yX0_successProbability wsX0_successProbability) := goodIn_app (goodIn_of _ (by decide +kernel)) ggL_law_X0_successProbability
