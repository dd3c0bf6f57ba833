set_option maxRecDepth 20000 in
theorem ggL_law_X8_files : GoodIn wsL_law wsX8_files := goodIn_r _ [409, 335, 336, 337, 2, 338, 28, 27, 410, 411, 412, 345, 413, 352, 560, 561, 562, 563, 564, 565, 566, 612, 613] (by decide +kernel) (by decide +kernel)
set_option maxRecDepth 20000 in
theorem gL_law_X8_files : GoodIn wsL_law (wsV RL 65 RX8 yX8_files wsX8_files) := goodIn_app (goodIn_of _ (by decide +kernel)) ggL_law_X8_files
set_option maxRecDepth 20000 in
theorem ggL_law_X9_files : GoodIn wsL_law wsX9_files := goodIn_r _ [417, 101, 83, 418, 419, 420, 5, 421, 384, 177, 178, 179, 567, 568, 569, 570, 571, 572, 573, 574, 575, 576, 577, 578, 579, 580, 581, 582, 583, 584, 585, 586, 587, 588, 589, 590, 591] (by decide +kernel) (by decide +kernel)
set_option maxRecDepth 20000 in
theorem gL_law_X9_files : GoodIn wsL_law (wsV RL 69 RX9 yX9_files wsX9_files) := goodIn_app (goodIn_of _ (by decide +kernel)) ggL_law_X9_files
set_option maxRecDepth 20000 in
theorem ggL_law_X8_about : GoodIn wsL_law wsX8_about := goodIn_r _ [425, 426, 427, 428, 429, 430, 431, 432, 2, 433, 335, 336, 337, 338, 28, 27, 434, 368, 369, 345, 370, 352, 351, 435, 127, 128, 15, 129, 43, 605, 606, 607, 608, 560, 561, 562, 563, 564, 565, 566, 612, 613, 592, 593] (by decide +kernel) (by decide +kernel)
set_option maxRecDepth 20000 in
theorem gL_law_X8_about : GoodIn wsL_law (wsV RL 70 RX8 yX8_about wsX8_about) := goodIn_app (goodIn_of _ (by decide +kernel)) ggL_law_X8_about
set_option maxRecDepth 20000 in
theorem ggL_law_X9_about : GoodIn wsL_law wsX9_about := goodIn_r _ [439, 101, 79, 77, 84, 440, 441, 442, 5, 443, 83, 418, 419, 420, 421, 384, 177, 178, 179, 287, 288, 289, 290, 218, 80, 567, 568, 569, 570, 571, 572, 573, 574, 575, 576, 577, 578, 579, 580, 581, 582, 583, 584, 585, 586, 587, 588, 589, 590, 591] (by decide +kernel) (by decide +kernel)
set_option maxRecDepth 20000 in
theorem gL_law_X9_about : GoodIn wsL_law (wsV RL 73 RX9 yX9_about wsX9_about) := goodIn_app (goodIn_of _ (by decide +kernel)) ggL_law_X9_about
set_option maxRecDepth 20000 in
theorem ggL_law_X8_sign : GoodIn wsL_law wsX8_sign := goodIn_r _ [447, 428, 430, 431, 432, 2, 433, 335, 336, 337, 338, 28, 27, 434, 368, 369, 345, 370, 352, 351, 448, 131, 132, 15, 133, 42, 134, 135, 136, 137, 43, 605, 606, 607, 608, 560, 561, 562, 563, 564, 565, 566, 612, 613, 592, 593] (by decide +kernel) (by decide +kernel)
set_option maxRecDepth 20000 in
theorem gL_law_X8_sign : GoodIn wsL_law (wsV RL 74 RX8 yX8_sign wsX8_sign) := goodIn_app (goodIn_of _ (by decide +kernel)) ggL_law_X8_sign
set_option maxRecDepth 20000 in
theorem ggL_law_X9_sign : GoodIn wsL_law wsX9_sign := goodIn_r _ [452, 101, 77, 78, 440, 441, 442, 5, 443, 83, 418, 419, 420, 421, 384, 177, 178, 179, 567, 568, 569, 570, 571, 572, 573, 574, 575, 576, 577, 578, 579, 580, 581, 582, 583, 584, 585, 586, 587, 588, 589, 590, 591] (by decide +kernel) (by decide +kernel)
set_option maxRecDepth 20000 in
theorem gL_law_X9_sign : GoodIn wsL_law (wsV RL 77 RX9 yX9_sign wsX9_sign) := goodIn_app (goodIn_of _ (by decide +kernel)) ggL_law_X9_sign
set_option maxRecDepth 20000 in
theorem ggL_law_L_at : GoodIn wsL_law wsL_at := goodIn_r _ [455, 456, 457, 458, 2, 459, 426, 460, 461, 462, 430, 431, 432, 433, 335, 336, 337, 338, 28, 27, 434, 368, 369, 345, 370, 352, 351, 463, 135, 136, 15, 137, 43, 448, 131, 132, 133, 42, 134, 605, 606, 607, 608, 614, 615, 616, 617, 618, 619, 560, 561, 562, 563, 564, 565, 566, 612, 613, 592, 593] (by decide +kernel) (by decide +kernel)
set_option maxRecDepth 20000 in
theorem gL_law_L_at : GoodIn wsL_law (va_wsS RL 78 yL_at wsL_at) := goodIn_app (goodIn_of _ (by decide +kernel)) ggL_law_L_at
set_option maxRecDepth 20000 in
theorem ggL_law_X9_at : GoodIn wsL_law wsX9_at := goodIn_r _ [467, 101, 79, 80, 440, 441, 442, 5, 443, 83, 418, 419, 420, 421, 384, 177, 178, 179, 567, 568, 569, 570, 571, 572, 573, 574, 575, 576, 577, 578, 579, 580, 581, 582, 583, 584, 585, 586, 587, 588, 589, 590, 591] (by decide +kernel) (by decide +kernel)
set_option maxRecDepth 20000 in
theorem gL_law_X9_at : GoodIn wsL_law (wsV RL 81 RX9 yX9_at wsX9_at) := goodIn_app (goodIn_of _ (by decide +kernel)) ggL_law_X9_at
set_option maxRecDepth 20000 in
theorem ggL_law_X8_find : GoodIn wsL_law wsX8_find := goodIn_r _ [471, 16, 335, 336, 337, 2, 338, 28, 27, 472, 362, 363, 345, 364, 352, 351, 365, 366, 245, 246, 15, 247, 43, 248, 249, 250, 251, 42, 560, 561, 562, 563, 564, 565, 566, 612, 613, 605, 606, 607, 608, 592, 593] (by decide +kernel) (by decide +kernel)
set_option maxRecDepth 20000 in
theorem gL_law_X8_find : GoodIn wsL_law (wsV RL 82 RX8 yX8_find wsX8_find) := goodIn_app (goodIn_of _ (by decide +kernel)) ggL_law_X8_find
set_option maxRecDepth 20000 in
theorem ggL_law_X9_find : GoodIn wsL_law wsX9_find := goodIn_r _ [476, 101, 83, 77, 102, 78, 75, 418, 419, 420, 5, 421, 384, 177, 178, 179, 567, 568, 569, 570, 571, 572, 573, 574, 575, 576, 577, 578, 579, 580, 581, 582, 583, 584, 585, 586, 587, 588, 589, 590, 591] (by decide +kernel) (by decide +kernel)
set_option maxRecDepth 20000 in
theorem gL_law_X9_find : GoodIn wsL_law (wsV RL 85 RX9 yX9_find wsX9_find) := goodIn_app (goodIn_of _ (by decide +kernel)) ggL_law_X9_find
