set_option maxRecDepth 20000 in
theorem ggL_law_X6_demand : GoodIn wsL_law wsX6_demand := goodIn_r _ [522, 35, 130, 131, 2, 132, 589, 590, 591, 592, 593, 594, 595, 596, 597, 598, 669, 670] (by decide +kernel) (by decide +kernel)
set_option maxRecDepth 20000 in
theorem gL_law_X6_demand : GoodIn wsL_law (wsV RL 87 RX6 yX6_demand wsX6_demand) := goodIn_app (goodIn_of _ (by decide +kernel)) ggL_law_X6_demand
set_option maxRecDepth 20000 in
theorem ggL_law_X7_demand : GoodIn wsL_law wsX7_demand := goodIn_r _ [526, 124, 125, 141, 142, 5, 143, 599, 600, 601, 602, 603, 604, 605, 606, 607, 608, 609, 610, 611, 612, 613, 614, 615, 616, 617, 618, 619, 620, 621, 622, 623, 624, 625, 626, 627, 628, 629, 630, 631, 632, 633] (by decide +kernel) (by decide +kernel)
set_option maxRecDepth 20000 in
theorem gL_law_X7_demand : GoodIn wsL_law (wsV RL 91 RX7 yX7_demand wsX7_demand) := goodIn_app (goodIn_of _ (by decide +kernel)) ggL_law_X7_demand
set_option maxRecDepth 20000 in
theorem ggL_law_X6_best : GoodIn wsL_law wsX6_best := goodIn_r _ [530, 35, 531, 532, 2, 533, 130, 131, 132, 534, 34, 535, 536, 537, 538, 539, 540, 95, 541, 416, 305, 417, 542, 543, 544, 545, 94, 589, 590, 591, 592, 593, 594, 595, 596, 597, 598, 669, 670] (by decide +kernel) (by decide +kernel)
set_option maxRecDepth 20000 in
theorem gL_law_X6_best : GoodIn wsL_law (wsV RL 92 RX6 yX6_best wsX6_best) := goodIn_app (goodIn_of _ (by decide +kernel)) ggL_law_X6_best
set_option maxRecDepth 20000 in
theorem ggL_law_X7_best : GoodIn wsL_law wsX7_best := goodIn_r _ [549, 550, 551, 5, 552, 141, 142, 143, 553, 554, 555, 556, 557, 558, 559, 560, 125, 124, 599, 600, 601, 602, 603, 604, 605, 606, 607, 608, 609, 610, 611, 612, 613, 614, 615, 616, 617, 618, 619, 620, 621, 622, 623, 624, 625, 626, 627, 628, 629, 630, 631, 632, 633] (by decide +kernel) (by decide +kernel)
set_option maxRecDepth 20000 in
theorem gL_law_X7_best : GoodIn wsL_law (wsV RL 95 RX7 yX7_best wsX7_best) := goodIn_app (goodIn_of _ (by decide +kernel)) ggL_law_X7_best
set_option maxRecDepth 20000 in
theorem ggL_law_X6_gain : GoodIn wsL_law wsX6_gain := goodIn_r _ [564, 35, 531, 532, 2, 533, 130, 131, 132, 534, 34, 535, 536, 537, 538, 539, 540, 95, 541, 416, 305, 417, 542, 543, 544, 545, 94, 589, 590, 591, 592, 593, 594, 595, 596, 597, 598, 669, 670] (by decide +kernel) (by decide +kernel)
set_option maxRecDepth 20000 in
theorem gL_law_X6_gain : GoodIn wsL_law (wsV RL 96 RX6 yX6_gain wsX6_gain) := goodIn_app (goodIn_of _ (by decide +kernel)) ggL_law_X6_gain
set_option maxRecDepth 20000 in
theorem ggL_law_X7_gain : GoodIn wsL_law wsX7_gain := goodIn_r _ [568, 550, 551, 5, 552, 141, 142, 143, 569, 547, 548, 549, 553, 554, 555, 556, 557, 558, 559, 560, 125, 124, 599, 600, 601, 602, 603, 604, 605, 606, 607, 608, 609, 610, 611, 612, 613, 614, 615, 616, 617, 618, 619, 620, 621, 622, 623, 624, 625, 626, 627, 628, 629, 630, 631, 632, 633] (by decide +kernel) (by decide +kernel)
set_option maxRecDepth 20000 in
theorem gL_law_X7_gain : GoodIn wsL_law (wsV RL 99 RX7 yX7_gain wsX7_gain) := goodIn_app (goodIn_of _ (by decide +kernel)) ggL_law_X7_gain
set_option maxRecDepth 20000 in
theorem ggL_law_X6_kept : GoodIn wsL_law wsX6_kept := goodIn_r _ [573, 35, 531, 532, 2, 533, 130, 131, 132, 534, 34, 535, 536, 537, 538, 539, 540, 95, 541, 416, 305, 417, 542, 543, 544, 545, 94, 574, 575, 576, 589, 590, 591, 592, 593, 594, 595, 596, 597, 598, 669, 670] (by decide +kernel) (by decide +kernel)
set_option maxRecDepth 20000 in
theorem gL_law_X6_kept : GoodIn wsL_law (wsV RL 100 RX6 yX6_kept wsX6_kept) := goodIn_app (goodIn_of _ (by decide +kernel)) ggL_law_X6_kept
set_option maxRecDepth 20000 in
theorem ggL_law_X7_kept : GoodIn wsL_law wsX7_kept := goodIn_r _ [580, 550, 551, 5, 552, 141, 142, 143, 569, 547, 548, 549, 553, 554, 555, 556, 557, 558, 559, 560, 125, 124, 599, 600, 601, 602, 603, 604, 605, 606, 607, 608, 609, 610, 611, 612, 613, 614, 615, 616, 617, 618, 619, 620, 621, 622, 623, 624, 625, 626, 627, 628, 629, 630, 631, 632, 633] (by decide +kernel) (by decide +kernel)
set_option maxRecDepth 20000 in
theorem gL_law_X7_kept : GoodIn wsL_law (wsV RL 103 RX7 yX7_kept wsX7_kept) := goodIn_app (goodIn_of _ (by decide +kernel)) ggL_law_X7_kept
set_option maxRecDepth 20000 in
theorem ggL_law_X6_count : GoodIn wsL_law wsX6_count := goodIn_r _ [584, 36, 15, 23, 27, 31, 37, 38, 39, 589, 590, 591, 592, 593, 594, 595, 596, 597, 598, 634, 635, 642, 643, 644, 645, 646, 647, 648, 649, 650, 651, 652, 653, 654, 655, 656, 657, 658, 659, 660, 661, 662, 663, 664, 665, 666, 667, 668] (by decide +kernel) (by decide +kernel)
set_option maxRecDepth 20000 in
theorem gL_law_X6_count : GoodIn wsL_law (wsV RL 104 RX6 yX6_count wsX6_count) := goodIn_app (goodIn_of _ (by decide +kernel)) ggL_law_X6_count
set_option maxRecDepth 20000 in
theorem ggL_law_X7_count : GoodIn wsL_law wsX7_count := goodIn_r _ [588, 214, 140, 208, 249, 279, 209, 233, 464, 104, 599, 600, 601, 602, 603, 604, 605, 606, 607, 608, 609, 610, 611, 612, 613, 614, 615, 616, 617, 618, 619, 620, 621, 622, 623, 624, 625, 626, 627, 628, 629, 630, 631, 632, 633] (by decide +kernel) (by decide +kernel)
set_option maxRecDepth 20000 in
theorem gL_law_X7_count : GoodIn wsL_law (wsV RL 107 RX7 yX7_count wsX7_count) := goodIn_app (goodIn_of _ (by decide +kernel)) ggL_law_X7_count
