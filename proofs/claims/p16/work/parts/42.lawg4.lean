set_option maxRecDepth 20000 in
theorem ggL_law_X8_same : GoodIn wsL_law wsX8_same := goodIn_r _ [480, 335, 336, 337, 2, 338, 28, 27, 481, 482, 483, 345, 484, 352, 351, 365, 485, 486, 358, 359, 360, 361, 362, 363, 364, 366, 245, 246, 15, 247, 43, 248, 249, 250, 251, 42, 367, 368, 369, 370, 560, 561, 562, 563, 564, 565, 566, 612, 613, 605, 606, 607, 608, 592, 593] (by decide +kernel) (by decide +kernel)
set_option maxRecDepth 20000 in
theorem gL_law_X8_same : GoodIn wsL_law (wsV RL 86 RX8 yX8_same wsX8_same) := goodIn_app (goodIn_of _ (by decide +kernel)) ggL_law_X8_same
set_option maxRecDepth 20000 in
theorem ggL_law_X9_same : GoodIn wsL_law wsX9_same := goodIn_r _ [490, 101, 83, 418, 419, 420, 5, 421, 384, 177, 178, 179, 279, 280, 281, 282, 283, 284, 285, 286, 77, 78, 390, 391, 392, 393, 79, 80, 567, 568, 569, 570, 571, 572, 573, 574, 575, 576, 577, 578, 579, 580, 581, 582, 583, 584, 585, 586, 587, 588, 589, 590, 591] (by decide +kernel) (by decide +kernel)
set_option maxRecDepth 20000 in
theorem gL_law_X9_same : GoodIn wsL_law (wsV RL 89 RX9 yX9_same wsX9_same) := goodIn_app (goodIn_of _ (by decide +kernel)) ggL_law_X9_same
set_option maxRecDepth 20000 in
theorem ggL_law_X8_split : GoodIn wsL_law wsX8_split := goodIn_r _ [494, 32, 335, 336, 337, 2, 338, 28, 27, 495, 496, 497, 31, 498, 65, 67, 499, 500, 39, 501, 68, 69, 502, 503, 504, 345, 505, 352, 351, 485, 506, 127, 128, 15, 129, 43, 560, 561, 562, 563, 564, 565, 566, 601, 602, 603, 604, 612, 613, 605, 606, 607, 608, 592, 593] (by decide +kernel) (by decide +kernel)
set_option maxRecDepth 20000 in
theorem gL_law_X8_split : GoodIn wsL_law (wsV RL 90 RX8 yX8_split wsX8_split) := goodIn_app (goodIn_of _ (by decide +kernel)) ggL_law_X8_split
set_option maxRecDepth 20000 in
theorem ggL_law_X9_split : GoodIn wsL_law wsX9_split := goodIn_r _ [510, 101, 511, 512, 513, 83, 79, 88, 80, 514, 87, 418, 419, 420, 5, 421, 384, 177, 178, 179, 567, 568, 569, 570, 571, 572, 573, 574, 575, 576, 577, 578, 579, 580, 581, 582, 583, 584, 585, 586, 587, 588, 589, 590, 591] (by decide +kernel) (by decide +kernel)
set_option maxRecDepth 20000 in
theorem gL_law_X9_split : GoodIn wsL_law (wsV RL 93 RX9 yX9_split wsX9_split) := goodIn_app (goodIn_of _ (by decide +kernel)) ggL_law_X9_split
set_option maxRecDepth 20000 in
theorem ggL_law_X8_piece : GoodIn wsL_law wsX8_piece := goodIn_r _ [518, 32, 519, 520, 521, 31, 522, 68, 67, 69, 560, 561, 562, 563, 564, 565, 566, 601, 602, 603, 604] (by decide +kernel) (by decide +kernel)
set_option maxRecDepth 20000 in
theorem gL_law_X8_piece : GoodIn wsL_law (wsV RL 94 RX8 yX8_piece wsX8_piece) := goodIn_app (goodIn_of _ (by decide +kernel)) ggL_law_X8_piece
set_option maxRecDepth 20000 in
theorem ggL_law_X9_piece : GoodIn wsL_law wsX9_piece := goodIn_r _ [526, 101, 511, 514, 87, 177, 178, 5, 179, 527, 528, 529, 530, 567, 568, 569, 570, 571, 572, 573, 574, 575, 576, 577, 578, 579, 580, 581, 582, 583, 584, 585, 586, 587, 588, 589, 590, 591] (by decide +kernel) (by decide +kernel)
set_option maxRecDepth 20000 in
theorem gL_law_X9_piece : GoodIn wsL_law (wsV RL 98 RX9 yX9_piece wsX9_piece) := goodIn_app (goodIn_of _ (by decide +kernel)) ggL_law_X9_piece
set_option maxRecDepth 20000 in
theorem ggL_law_X8_missing : GoodIn wsL_law wsX8_missing := goodIn_r _ [534, 32, 535, 536, 537, 31, 538, 68, 67, 560, 561, 562, 563, 564, 565, 566, 601, 602, 603, 604] (by decide +kernel) (by decide +kernel)
set_option maxRecDepth 20000 in
theorem gL_law_X8_missing : GoodIn wsL_law (wsV RL 99 RX8 yX8_missing wsX8_missing) := goodIn_app (goodIn_of _ (by decide +kernel)) ggL_law_X8_missing
set_option maxRecDepth 20000 in
theorem ggL_law_X9_missing : GoodIn wsL_law wsX9_missing := goodIn_r _ [542, 101, 511, 527, 528, 529, 5, 530, 514, 87, 567, 568, 569, 570, 571, 572, 573, 574, 575, 576, 577, 578, 579, 580, 581, 582, 583, 584, 585, 586, 587, 588, 589, 590, 591] (by decide +kernel) (by decide +kernel)
set_option maxRecDepth 20000 in
theorem gL_law_X9_missing : GoodIn wsL_law (wsV RL 102 RX9 yX9_missing wsX9_missing) := goodIn_app (goodIn_of _ (by decide +kernel)) ggL_law_X9_missing
set_option maxRecDepth 20000 in
theorem ggL_law_X8_joined : GoodIn wsL_law wsX8_joined := goodIn_r _ [546, 32, 547, 548, 549, 31, 550, 65, 69, 551, 552, 553, 345, 554, 352, 351, 485, 506, 127, 128, 15, 129, 43, 555, 131, 132, 133, 42, 134, 135, 136, 137, 560, 561, 562, 563, 564, 565, 566, 601, 602, 603, 604, 612, 613, 605, 606, 607, 608, 592, 593] (by decide +kernel) (by decide +kernel)
set_option maxRecDepth 20000 in
theorem gL_law_X8_joined : GoodIn wsL_law (wsV RL 103 RX8 yX8_joined wsX8_joined) := goodIn_app (goodIn_of _ (by decide +kernel)) ggL_law_X8_joined
set_option maxRecDepth 20000 in
theorem ggL_law_X9_joined : GoodIn wsL_law wsX9_joined := goodIn_r _ [559, 101, 511, 513, 88, 527, 528, 529, 5, 530, 514, 87, 177, 178, 179, 567, 568, 569, 570, 571, 572, 573, 574, 575, 576, 577, 578, 579, 580, 581, 582, 583, 584, 585, 586, 587, 588, 589, 590, 591] (by decide +kernel) (by decide +kernel)
set_option maxRecDepth 20000 in
theorem gL_law_X9_joined : GoodIn wsL_law (wsV RL 106 RX9 yX9_joined wsX9_joined) := goodIn_app (goodIn_of _ (by decide +kernel)) ggL_law_X9_joined
