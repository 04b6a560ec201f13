set_option maxRecDepth 20000 in
theorem ggL_law_X6_pay : GoodIn wsL_law wsX6_pay := goodIn_r _ [459, 27, 39, 254, 26, 255, 256, 80, 130, 131, 2, 132, 589, 590, 591, 592, 593, 594, 595, 596, 597, 598, 655, 656, 657, 658, 659, 660, 661] (by decide +kernel) (by decide +kernel)
set_option maxRecDepth 20000 in
theorem gL_law_X6_pay : GoodIn wsL_law (wsV RL 63 RX6 yX6_pay wsX6_pay) := goodIn_app (goodIn_of _ (by decide +kernel)) ggL_law_X6_pay
set_option maxRecDepth 20000 in
theorem ggL_law_X7_pay : GoodIn wsL_law wsX7_pay := goodIn_r _ [463, 113, 464, 261, 262, 263, 5, 264, 249, 141, 142, 143, 599, 600, 601, 602, 603, 604, 605, 606, 607, 608, 609, 610, 611, 612, 613, 614, 615, 616, 617, 618, 619, 620, 621, 622, 623, 624, 625, 626, 627, 628, 629, 630, 631, 632, 633] (by decide +kernel) (by decide +kernel)
set_option maxRecDepth 20000 in
theorem gL_law_X7_pay : GoodIn wsL_law (wsV RL 66 RX7 yX7_pay wsX7_pay) := goodIn_app (goodIn_of _ (by decide +kernel)) ggL_law_X7_pay
set_option maxRecDepth 20000 in
theorem ggL_law_X6_copy : GoodIn wsL_law wsX6_copy := goodIn_r _ [468, 23, 223, 22, 224, 225, 68, 589, 590, 591, 592, 593, 594, 595, 596, 597, 598, 642, 643, 644, 645, 646, 647, 648, 649, 650, 651, 652, 653, 654] (by decide +kernel) (by decide +kernel)
set_option maxRecDepth 20000 in
theorem gL_law_X6_copy : GoodIn wsL_law (wsV RL 67 RX6 yX6_copy wsX6_copy) := goodIn_app (goodIn_of _ (by decide +kernel)) ggL_law_X6_copy
set_option maxRecDepth 20000 in
theorem ggL_law_X7_copy : GoodIn wsL_law wsX7_copy := goodIn_r _ [472, 104, 101, 102, 103, 105, 107, 108, 109, 234, 235, 236, 5, 237, 208, 141, 142, 143, 599, 600, 601, 602, 603, 604, 605, 606, 607, 608, 609, 610, 611, 612, 613, 614, 615, 616, 617, 618, 619, 620, 621, 622, 623, 624, 625, 626, 627, 628, 629, 630, 631, 632, 633] (by decide +kernel) (by decide +kernel)
set_option maxRecDepth 20000 in
theorem gL_law_X7_copy : GoodIn wsL_law (wsV RL 70 RX7 yX7_copy wsX7_copy) := goodIn_app (goodIn_of _ (by decide +kernel)) ggL_law_X7_copy
set_option maxRecDepth 20000 in
theorem ggL_law_X6_told : GoodIn wsL_law wsX6_told := goodIn_r _ [476, 27, 31, 254, 26, 255, 256, 80, 477, 30, 478, 479, 90, 86, 84, 589, 590, 591, 592, 593, 594, 595, 596, 597, 598, 655, 656, 657, 658, 659, 660, 661, 662, 663, 664, 665, 666, 667, 668] (by decide +kernel) (by decide +kernel)
set_option maxRecDepth 20000 in
theorem gL_law_X6_told : GoodIn wsL_law (wsV RL 71 RX6 yX6_told wsX6_told) := goodIn_app (goodIn_of _ (by decide +kernel)) ggL_law_X6_told
set_option maxRecDepth 20000 in
theorem ggL_law_X7_told : GoodIn wsL_law wsX7_told := goodIn_r _ [483, 110, 113, 279, 114, 116, 112, 261, 262, 263, 5, 264, 249, 141, 142, 143, 392, 393, 394, 395, 208, 105, 104, 599, 600, 601, 602, 603, 604, 605, 606, 607, 608, 609, 610, 611, 612, 613, 614, 615, 616, 617, 618, 619, 620, 621, 622, 623, 624, 625, 626, 627, 628, 629, 630, 631, 632, 633] (by decide +kernel) (by decide +kernel)
set_option maxRecDepth 20000 in
theorem gL_law_X7_told : GoodIn wsL_law (wsV RL 74 RX7 yX7_told wsX7_told) := goodIn_app (goodIn_of _ (by decide +kernel)) ggL_law_X7_told
set_option maxRecDepth 20000 in
theorem ggL_law_X6_wished : GoodIn wsL_law wsX6_wished := goodIn_r _ [487, 31, 288, 30, 289, 290, 90, 333, 334, 335, 88, 336, 284, 285, 286, 86, 287, 589, 590, 591, 592, 593, 594, 595, 596, 597, 598, 662, 663, 664, 665, 666, 667, 668] (by decide +kernel) (by decide +kernel)
set_option maxRecDepth 20000 in
theorem gL_law_X6_wished : GoodIn wsL_law (wsV RL 75 RX6 yX6_wished wsX6_wished) := goodIn_app (goodIn_of _ (by decide +kernel)) ggL_law_X6_wished
set_option maxRecDepth 20000 in
theorem ggL_law_X7_wished : GoodIn wsL_law wsX7_wished := goodIn_r _ [491, 116, 117, 118, 295, 296, 297, 5, 298, 279, 141, 142, 143, 384, 385, 386, 387, 208, 106, 380, 381, 382, 383, 599, 600, 601, 602, 603, 604, 605, 606, 607, 608, 609, 610, 611, 612, 613, 614, 615, 616, 617, 618, 619, 620, 621, 622, 623, 624, 625, 626, 627, 628, 629, 630, 631, 632, 633] (by decide +kernel) (by decide +kernel)
set_option maxRecDepth 20000 in
theorem gL_law_X7_wished : GoodIn wsL_law (wsV RL 78 RX7 yX7_wished wsX7_wished) := goodIn_app (goodIn_of _ (by decide +kernel)) ggL_law_X7_wished
set_option maxRecDepth 20000 in
theorem ggL_law_X6_waiting : GoodIn wsL_law wsX6_waiting := goodIn_r _ [495, 15, 31, 496, 14, 497, 498, 499, 167, 168, 169, 44, 170, 148, 149, 150, 45, 500, 30, 501, 502, 90, 85, 87, 503, 333, 334, 335, 88, 336, 284, 285, 286, 86, 287, 288, 289, 290, 589, 590, 591, 592, 593, 594, 595, 596, 597, 598, 634, 635, 662, 663, 664, 665, 666, 667, 668] (by decide +kernel) (by decide +kernel)
set_option maxRecDepth 20000 in
theorem gL_law_X6_waiting : GoodIn wsL_law (wsV RL 79 RX6 yX6_waiting wsX6_waiting) := goodIn_app (goodIn_of _ (by decide +kernel)) ggL_law_X6_waiting
set_option maxRecDepth 20000 in
theorem ggL_law_X7_waiting : GoodIn wsL_law wsX7_waiting := goodIn_r _ [507, 100, 279, 115, 117, 159, 160, 161, 5, 162, 140, 141, 142, 143, 380, 381, 382, 383, 116, 384, 385, 386, 387, 208, 106, 599, 600, 601, 602, 603, 604, 605, 606, 607, 608, 609, 610, 611, 612, 613, 614, 615, 616, 617, 618, 619, 620, 621, 622, 623, 624, 625, 626, 627, 628, 629, 630, 631, 632, 633] (by decide +kernel) (by decide +kernel)
set_option maxRecDepth 20000 in
theorem gL_law_X7_waiting : GoodIn wsL_law (wsV RL 82 RX7 yX7_waiting wsX7_waiting) := goodIn_app (goodIn_of _ (by decide +kernel)) ggL_law_X7_waiting
set_option maxRecDepth 20000 in
theorem ggL_law_X6_sets : GoodIn wsL_law wsX6_sets := goodIn_r _ [511, 15, 23, 303, 304, 305, 306, 148, 14, 149, 150, 45, 167, 168, 169, 44, 170, 512, 22, 513, 514, 68, 59, 60, 58, 589, 590, 591, 592, 593, 594, 595, 596, 597, 598, 634, 635, 642, 643, 644, 645, 646, 647, 648, 649, 650, 651, 652, 653, 654] (by decide +kernel) (by decide +kernel)
set_option maxRecDepth 20000 in
theorem gL_law_X6_sets : GoodIn wsL_law (wsV RL 83 RX6 yX6_sets wsX6_sets) := goodIn_app (goodIn_of _ (by decide +kernel)) ggL_law_X6_sets
set_option maxRecDepth 20000 in
theorem ggL_law_X7_sets : GoodIn wsL_law wsX7_sets := goodIn_r _ [518, 100, 208, 101, 102, 104, 159, 160, 161, 5, 162, 140, 141, 142, 143, 599, 600, 601, 602, 603, 604, 605, 606, 607, 608, 609, 610, 611, 612, 613, 614, 615, 616, 617, 618, 619, 620, 621, 622, 623, 624, 625, 626, 627, 628, 629, 630, 631, 632, 633] (by decide +kernel) (by decide +kernel)
set_option maxRecDepth 20000 in
theorem gL_law_X7_sets : GoodIn wsL_law (wsV RL 86 RX7 yX7_sets wsX7_sets) := goodIn_app (goodIn_of _ (by decide +kernel)) ggL_law_X7_sets
