set_option maxRecDepth 20000 in
theorem ggL_law_X8_sum : GoodIn wsL_law wsX8_sum := goodIn_r _ [212, 17, 213, 160, 161, 15, 162, 43, 163, 42, 560, 561, 562, 563, 564, 565, 566, 592, 593] (by decide +kernel) (by decide +kernel)
set_option maxRecDepth 20000 in
theorem gL_law_X8_sum : GoodIn wsL_law (wsV RL 43 RX8 yX8_sum wsX8_sum) := goodIn_app (goodIn_of _ (by decide +kernel)) ggL_law_X8_sum
set_option maxRecDepth 20000 in
theorem ggL_law_X9_sum : GoodIn wsL_law wsX9_sum := goodIn_r _ [217, 101, 111, 218, 76, 567, 568, 569, 570, 571, 572, 573, 574, 575, 576, 577, 578, 579, 580, 581, 582, 583, 584, 585, 586, 587, 588, 589, 590, 591] (by decide +kernel) (by decide +kernel)
set_option maxRecDepth 20000 in
theorem gL_law_X9_sum : GoodIn wsL_law (wsV RL 46 RX9 yX9_sum wsX9_sum) := goodIn_app (goodIn_of _ (by decide +kernel)) ggL_law_X9_sum
set_option maxRecDepth 20000 in
theorem ggL_law_X8_check : GoodIn wsL_law wsX8_check := goodIn_r _ [222, 21, 25, 223, 224, 225, 20, 226, 53, 50, 227, 228, 229, 24, 230, 60, 231, 232, 233, 234, 52, 235, 49, 236, 237, 238, 239, 240, 241, 242, 243, 244, 245, 246, 15, 247, 43, 248, 249, 250, 251, 42, 252, 253, 254, 255, 256, 257, 127, 128, 129, 258, 259, 260, 261, 58, 59, 262, 263, 264, 265, 266, 267, 268, 269, 560, 561, 562, 563, 564, 565, 566, 594, 595, 596, 597, 598, 599, 600, 609, 610, 611, 605, 606, 607, 608, 592, 593] (by decide +kernel) (by decide +kernel)
set_option maxRecDepth 20000 in
theorem gL_law_X8_check : GoodIn wsL_law (wsV RL 47 RX8 yX8_check wsX8_check) := goodIn_app (goodIn_of _ (by decide +kernel)) ggL_law_X8_check
set_option maxRecDepth 20000 in
theorem ggL_law_X9_check : GoodIn wsL_law wsX9_check := goodIn_r _ [273, 101, 274, 208, 172, 275, 276, 277, 5, 278, 79, 81, 82, 279, 280, 281, 282, 283, 284, 285, 286, 77, 78, 287, 288, 289, 290, 218, 80, 291, 292, 293, 294, 85, 86, 295, 296, 297, 298, 567, 568, 569, 570, 571, 572, 573, 574, 575, 576, 577, 578, 579, 580, 581, 582, 583, 584, 585, 586, 587, 588, 589, 590, 591] (by decide +kernel) (by decide +kernel)
set_option maxRecDepth 20000 in
theorem gL_law_X9_check : GoodIn wsL_law (wsV RL 50 RX9 yX9_check wsX9_check) := goodIn_app (goodIn_of _ (by decide +kernel)) ggL_law_X9_check
set_option maxRecDepth 20000 in
theorem ggL_law_L_fault : GoodIn wsL_law wsL_fault := goodIn_ca (goodIn_r _ [302, 303, 304, 305, 306, 2, 307, 308, 309, 25, 310, 311, 312, 24, 313, 60, 314, 315, 316, 317, 58, 318, 319, 320, 321, 322, 59, 560, 561, 562, 563, 564, 565, 566, 598, 599, 600] (by decide +kernel) (by decide +kernel)) (goodIn_sub (fun _ h => List.mem_append_right _ h) (by decide +kernel))
set_option maxRecDepth 20000 in
theorem gL_law_L_fault : GoodIn wsL_law (va_wsS RL 51 yL_fault wsL_fault) := goodIn_app (goodIn_of _ (by decide +kernel)) ggL_law_L_fault
set_option maxRecDepth 20000 in
theorem ggL_law_X9_fault : GoodIn wsL_law wsX9_fault := goodIn_r _ [326, 274, 101, 85, 86, 177, 178, 5, 179, 567, 568, 569, 570, 571, 572, 573, 574, 575, 576, 577, 578, 579, 580, 581, 582, 583, 584, 585, 586, 587, 588, 589, 590, 591] (by decide +kernel) (by decide +kernel)
set_option maxRecDepth 20000 in
theorem gL_law_X9_fault : GoodIn wsL_law (wsV RL 56 RX9 yX9_fault wsX9_fault) := goodIn_app (goodIn_of _ (by decide +kernel)) ggL_law_X9_fault
set_option maxRecDepth 20000 in
theorem ggL_law_X8_accept : GoodIn wsL_law wsX8_accept := goodIn_r _ [330, 21, 25, 28, 27, 223, 224, 225, 20, 226, 53, 50, 227, 228, 229, 24, 230, 60, 231, 232, 233, 234, 52, 235, 49, 236, 237, 238, 239, 240, 241, 242, 243, 244, 245, 246, 15, 247, 43, 248, 249, 250, 251, 42, 252, 253, 254, 255, 256, 257, 127, 128, 129, 258, 259, 260, 261, 58, 59, 262, 263, 264, 265, 266, 267, 268, 269, 331, 332, 333, 334, 335, 336, 337, 2, 338, 339, 340, 341, 342, 343, 344, 345, 346, 347, 348, 349, 11, 12, 350, 351, 352, 353, 354, 355, 356, 357, 358, 359, 360, 361, 362, 363, 364, 365, 366, 367, 368, 369, 370, 371, 372, 373, 374, 375, 376, 377, 378, 379, 560, 561, 562, 563, 564, 565, 566, 594, 595, 596, 597, 598, 599, 600, 609, 610, 611, 605, 606, 607, 608, 592, 593, 612, 613] (by decide +kernel) (by decide +kernel)
set_option maxRecDepth 20000 in
theorem gL_law_X8_accept : GoodIn wsL_law (wsV RL 57 RX8 yX8_accept wsX8_accept) := goodIn_app (goodIn_of _ (by decide +kernel)) ggL_law_X8_accept
set_option maxRecDepth 20000 in
theorem ggL_law_X9_accept : GoodIn wsL_law wsX9_accept := goodIn_r _ [383, 384, 172, 83, 84, 208, 385, 271, 272, 5, 273, 101, 274, 275, 276, 277, 278, 79, 81, 82, 279, 280, 281, 282, 283, 284, 285, 286, 77, 78, 287, 288, 289, 290, 218, 80, 291, 292, 293, 294, 85, 86, 295, 296, 297, 298, 386, 387, 388, 389, 390, 391, 392, 393, 567, 568, 569, 570, 571, 572, 573, 574, 575, 576, 577, 578, 579, 580, 581, 582, 583, 584, 585, 586, 587, 588, 589, 590, 591] (by decide +kernel) (by decide +kernel)
set_option maxRecDepth 20000 in
theorem gL_law_X9_accept : GoodIn wsL_law (wsV RL 60 RX9 yX9_accept wsX9_accept) := goodIn_app (goodIn_of _ (by decide +kernel)) ggL_law_X9_accept
set_option maxRecDepth 20000 in
theorem ggL_law_X8_drop : GoodIn wsL_law wsX8_drop := goodIn_r _ [397, 21, 331, 332, 333, 20, 334, 50, 398, 399, 400, 401, 53, 376, 377, 378, 379, 560, 561, 562, 563, 564, 565, 566, 594, 595, 596, 597] (by decide +kernel) (by decide +kernel)
set_option maxRecDepth 20000 in
theorem gL_law_X8_drop : GoodIn wsL_law (wsV RL 61 RX8 yX8_drop wsX8_drop) := goodIn_app (goodIn_of _ (by decide +kernel)) ggL_law_X8_drop
set_option maxRecDepth 20000 in
theorem ggL_law_X9_drop : GoodIn wsL_law wsX9_drop := goodIn_r _ [405, 101, 172, 208, 567, 568, 569, 570, 571, 572, 573, 574, 575, 576, 577, 578, 579, 580, 581, 582, 583, 584, 585, 586, 587, 588, 589, 590, 591] (by decide +kernel) (by decide +kernel)
set_option maxRecDepth 20000 in
theorem gL_law_X9_drop : GoodIn wsL_law (wsV RL 64 RX9 yX9_drop wsX9_drop) := goodIn_app (goodIn_of _ (by decide +kernel)) ggL_law_X9_drop
