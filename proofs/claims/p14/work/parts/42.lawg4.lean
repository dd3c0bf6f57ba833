set_option maxRecDepth 20000 in
theorem ggL_law_X8_split : GoodIn wsL_law wsX8_split := goodIn_r _ [498, 32, 335, 336, 337, 2, 338, 28, 27, 499, 500, 501, 31, 502, 65, 67, 503, 504, 39, 505, 68, 69, 506, 507, 508, 345, 509, 352, 351, 489, 510, 127, 128, 15, 129, 43, 564, 565, 566, 567, 568, 569, 570, 605, 606, 607, 608, 616, 617, 609, 610, 611, 612, 596, 597] (by decide +kernel) (by decide +kernel)
set_option maxRecDepth 20000 in
theorem gL_law_X8_split : GoodIn wsL_law (wsV RL 93 RX8 yX8_split wsX8_split) := goodIn_app (goodIn_of _ (by decide +kernel)) ggL_law_X8_split
set_option maxRecDepth 20000 in
theorem ggL_law_X9_split : GoodIn wsL_law wsX9_split := goodIn_r _ [514, 101, 515, 516, 517, 83, 79, 88, 80, 518, 87, 418, 419, 420, 5, 421, 384, 177, 178, 179, 571, 572, 573, 574, 575, 576, 577, 578, 579, 580, 581, 582, 583, 584, 585, 586, 587, 588, 589, 590, 591, 592, 593, 594, 595] (by decide +kernel) (by decide +kernel)
set_option maxRecDepth 20000 in
theorem gL_law_X9_split : GoodIn wsL_law (wsV RL 96 RX9 yX9_split wsX9_split) := goodIn_app (goodIn_of _ (by decide +kernel)) ggL_law_X9_split
set_option maxRecDepth 20000 in
theorem ggL_law_X8_piece : GoodIn wsL_law wsX8_piece := goodIn_r _ [522, 32, 523, 524, 525, 31, 526, 68, 67, 69, 564, 565, 566, 567, 568, 569, 570, 605, 606, 607, 608] (by decide +kernel) (by decide +kernel)
set_option maxRecDepth 20000 in
theorem gL_law_X8_piece : GoodIn wsL_law (wsV RL 97 RX8 yX8_piece wsX8_piece) := goodIn_app (goodIn_of _ (by decide +kernel)) ggL_law_X8_piece
set_option maxRecDepth 20000 in
theorem ggL_law_X9_piece : GoodIn wsL_law wsX9_piece := goodIn_r _ [530, 101, 515, 518, 87, 177, 178, 5, 179, 531, 532, 533, 534, 571, 572, 573, 574, 575, 576, 577, 578, 579, 580, 581, 582, 583, 584, 585, 586, 587, 588, 589, 590, 591, 592, 593, 594, 595] (by decide +kernel) (by decide +kernel)
set_option maxRecDepth 20000 in
theorem gL_law_X9_piece : GoodIn wsL_law (wsV RL 101 RX9 yX9_piece wsX9_piece) := goodIn_app (goodIn_of _ (by decide +kernel)) ggL_law_X9_piece
set_option maxRecDepth 20000 in
theorem ggL_law_X8_missing : GoodIn wsL_law wsX8_missing := goodIn_r _ [538, 32, 539, 540, 541, 31, 542, 68, 67, 564, 565, 566, 567, 568, 569, 570, 605, 606, 607, 608] (by decide +kernel) (by decide +kernel)
set_option maxRecDepth 20000 in
theorem gL_law_X8_missing : GoodIn wsL_law (wsV RL 102 RX8 yX8_missing wsX8_missing) := goodIn_app (goodIn_of _ (by decide +kernel)) ggL_law_X8_missing
set_option maxRecDepth 20000 in
theorem ggL_law_X9_missing : GoodIn wsL_law wsX9_missing := goodIn_r _ [546, 101, 515, 531, 532, 533, 5, 534, 518, 87, 571, 572, 573, 574, 575, 576, 577, 578, 579, 580, 581, 582, 583, 584, 585, 586, 587, 588, 589, 590, 591, 592, 593, 594, 595] (by decide +kernel) (by decide +kernel)
set_option maxRecDepth 20000 in
theorem gL_law_X9_missing : GoodIn wsL_law (wsV RL 105 RX9 yX9_missing wsX9_missing) := goodIn_app (goodIn_of _ (by decide +kernel)) ggL_law_X9_missing
set_option maxRecDepth 20000 in
theorem ggL_law_X8_joined : GoodIn wsL_law wsX8_joined := goodIn_r _ [550, 32, 551, 552, 553, 31, 554, 65, 69, 555, 556, 557, 345, 558, 352, 351, 489, 510, 127, 128, 15, 129, 43, 559, 131, 132, 133, 42, 134, 135, 136, 137, 564, 565, 566, 567, 568, 569, 570, 605, 606, 607, 608, 616, 617, 609, 610, 611, 612, 596, 597] (by decide +kernel) (by decide +kernel)
set_option maxRecDepth 20000 in
theorem gL_law_X8_joined : GoodIn wsL_law (wsV RL 106 RX8 yX8_joined wsX8_joined) := goodIn_app (goodIn_of _ (by decide +kernel)) ggL_law_X8_joined
set_option maxRecDepth 20000 in
theorem ggL_law_X9_joined : GoodIn wsL_law wsX9_joined := goodIn_r _ [563, 101, 515, 517, 88, 531, 532, 533, 5, 534, 518, 87, 177, 178, 179, 571, 572, 573, 574, 575, 576, 577, 578, 579, 580, 581, 582, 583, 584, 585, 586, 587, 588, 589, 590, 591, 592, 593, 594, 595] (by decide +kernel) (by decide +kernel)
set_option maxRecDepth 20000 in
theorem gL_law_X9_joined : GoodIn wsL_law (wsV RL 109 RX9 yX9_joined wsX9_joined) := goodIn_app (goodIn_of _ (by decide +kernel)) ggL_law_X9_joined
