set_option maxRecDepth 20000 in
theorem ggL_law_X6_init : GoodIn wsL_law wsX6_init := goodIn_r _ [8, 9, 10, 11, 12, 13, 14, 15, 16, 17, 18, 19, 20, 21, 22, 23, 24, 25, 26, 27, 28, 29, 30, 31, 32, 33, 34, 35, 36, 37, 38, 39, 40, 41, 42, 43, 44, 45, 46, 47, 48, 49, 50, 51, 52, 53, 54, 55, 56, 57, 58, 59, 60, 61, 62, 63, 64, 65, 66, 67, 68, 69, 70, 71, 72, 73, 74, 75, 76, 77, 78, 79, 80, 81, 82, 83, 84, 85, 86, 87, 88, 89, 90, 91, 92, 93, 94, 95, 634, 635, 589, 590, 591, 592, 593, 594, 595, 596, 597, 598, 636, 637, 638, 639, 640, 641, 642, 643, 644, 645, 646, 647, 648, 649, 650, 651, 652, 653, 654, 655, 656, 657, 658, 659, 660, 661, 662, 663, 664, 665, 666, 667, 668, 669, 670] (by decide +kernel) (by decide +kernel)
set_option maxRecDepth 20000 in
theorem gL_law_X6_init : GoodIn wsL_law (wsX6_init) := ggL_law_X6_init
set_option maxRecDepth 20000 in
theorem ggL_law_X7_init : GoodIn wsL_law wsX7_init := goodIn_r _ [98, 99, 10, 11, 43, 100, 101, 102, 103, 104, 105, 106, 107, 108, 109, 110, 111, 112, 113, 114, 115, 116, 117, 118, 119, 120, 121, 122, 123, 124, 125, 599, 600, 601, 602, 603, 604, 605, 606, 607, 608, 609, 610, 611, 612, 613, 614, 615, 616, 617, 618, 619, 620, 621, 622, 623, 624, 625, 626, 627, 628, 629, 630, 631, 632, 633] (by decide +kernel) (by decide +kernel)
set_option maxRecDepth 20000 in
theorem gL_law_X7_init : GoodIn wsL_law (wsX7_init) := ggL_law_X7_init
set_option maxRecDepth 20000 in
theorem ggL_law_X6_title : GoodIn wsL_law wsX6_title := goodIn_r _ [129, 15, 130, 131, 2, 132, 133, 14, 134, 135, 44, 45, 589, 590, 591, 592, 593, 594, 595, 596, 597, 598, 634, 635] (by decide +kernel) (by decide +kernel)
set_option maxRecDepth 20000 in
theorem gL_law_X6_title : GoodIn wsL_law (wsV RL 13 RX6 yX6_title wsX6_title) := goodIn_app (goodIn_of _ (by decide +kernel)) ggL_law_X6_title
set_option maxRecDepth 20000 in
theorem ggL_law_X7_title : GoodIn wsL_law wsX7_title := goodIn_r _ [139, 140, 100, 141, 142, 5, 143, 599, 600, 601, 602, 603, 604, 605, 606, 607, 608, 609, 610, 611, 612, 613, 614, 615, 616, 617, 618, 619, 620, 621, 622, 623, 624, 625, 626, 627, 628, 629, 630, 631, 632, 633] (by decide +kernel) (by decide +kernel)
set_option maxRecDepth 20000 in
theorem gL_law_X7_title : GoodIn wsL_law (wsV RL 17 RX7 yX7_title wsX7_title) := goodIn_app (goodIn_of _ (by decide +kernel)) ggL_law_X7_title
set_option maxRecDepth 20000 in
theorem ggL_law_X6_bargain : GoodIn wsL_law wsX6_bargain := goodIn_r _ [147, 15, 19, 148, 14, 149, 150, 45, 130, 131, 2, 132, 151, 18, 152, 153, 49, 54, 50, 51, 52, 53, 589, 590, 591, 592, 593, 594, 595, 596, 597, 598, 636, 637, 638, 639, 640, 641, 634, 635] (by decide +kernel) (by decide +kernel)
set_option maxRecDepth 20000 in
theorem gL_law_X6_bargain : GoodIn wsL_law (wsV RL 18 RX6 yX6_bargain wsX6_bargain) := goodIn_app (goodIn_of _ (by decide +kernel)) ggL_law_X6_bargain
set_option maxRecDepth 20000 in
theorem ggL_law_X7_bargain : GoodIn wsL_law wsX7_bargain := goodIn_r _ [157, 158, 119, 120, 121, 122, 123, 159, 160, 161, 5, 162, 140, 141, 142, 143, 599, 600, 601, 602, 603, 604, 605, 606, 607, 608, 609, 610, 611, 612, 613, 614, 615, 616, 617, 618, 619, 620, 621, 622, 623, 624, 625, 626, 627, 628, 629, 630, 631, 632, 633] (by decide +kernel) (by decide +kernel)
set_option maxRecDepth 20000 in
theorem gL_law_X7_bargain : GoodIn wsL_law (wsV RL 22 RX7 yX7_bargain wsX7_bargain) := goodIn_app (goodIn_of _ (by decide +kernel)) ggL_law_X7_bargain
set_option maxRecDepth 20000 in
theorem ggL_law_X6_buy : GoodIn wsL_law wsX6_buy := goodIn_r _ [166, 15, 23, 19, 36, 37, 148, 14, 149, 150, 45, 130, 131, 2, 132, 167, 168, 169, 44, 170, 171, 18, 172, 173, 54, 49, 50, 174, 175, 176, 51, 52, 53, 177, 22, 178, 179, 68, 59, 60, 61, 58, 66, 180, 181, 182, 183, 184, 185, 186, 187, 188, 189, 190, 191, 67, 69, 70, 192, 193, 194, 195, 196, 197, 198, 199, 200, 201, 202, 203, 62, 63, 64, 65, 589, 590, 591, 592, 593, 594, 595, 596, 597, 598, 642, 643, 644, 645, 646, 647, 648, 649, 650, 651, 652, 653, 654, 634, 635, 636, 637, 638, 639, 640, 641] (by decide +kernel) (by decide +kernel)
set_option maxRecDepth 20000 in
theorem gL_law_X6_buy : GoodIn wsL_law (wsV RL 23 RX6 yX6_buy wsX6_buy) := goodIn_app (goodIn_of _ (by decide +kernel)) ggL_law_X6_buy
set_option maxRecDepth 20000 in
theorem ggL_law_X7_buy : GoodIn wsL_law wsX7_buy := goodIn_r _ [207, 208, 100, 121, 122, 123, 101, 102, 103, 104, 105, 106, 107, 209, 159, 160, 161, 5, 162, 140, 141, 142, 143, 210, 211, 212, 213, 158, 119, 120, 214, 599, 600, 601, 602, 603, 604, 605, 606, 607, 608, 609, 610, 611, 612, 613, 614, 615, 616, 617, 618, 619, 620, 621, 622, 623, 624, 625, 626, 627, 628, 629, 630, 631, 632, 633] (by decide +kernel) (by decide +kernel)
set_option maxRecDepth 20000 in
theorem gL_law_X7_buy : GoodIn wsL_law (wsV RL 27 RX7 yX7_buy wsX7_buy) := goodIn_app (goodIn_of _ (by decide +kernel)) ggL_law_X7_buy
set_option maxRecDepth 20000 in
theorem ggL_law_X6_sell : GoodIn wsL_law wsX6_sell := goodIn_r _ [218, 23, 38, 219, 22, 220, 221, 58, 222, 223, 224, 225, 68, 130, 131, 2, 132, 226, 227, 228, 184, 185, 186, 187, 188, 189, 190, 191, 59, 60, 67, 69, 70, 192, 193, 194, 195, 196, 197, 198, 199, 200, 201, 202, 203, 62, 63, 64, 65, 589, 590, 591, 592, 593, 594, 595, 596, 597, 598, 642, 643, 644, 645, 646, 647, 648, 649, 650, 651, 652, 653, 654] (by decide +kernel) (by decide +kernel)
set_option maxRecDepth 20000 in
theorem gL_law_X6_sell : GoodIn wsL_law (wsV RL 28 RX6 yX6_sell wsX6_sell) := goodIn_app (goodIn_of _ (by decide +kernel)) ggL_law_X6_sell
set_option maxRecDepth 20000 in
theorem ggL_law_X7_sell : GoodIn wsL_law wsX7_sell := goodIn_r _ [232, 104, 233, 234, 235, 236, 5, 237, 208, 141, 142, 143, 599, 600, 601, 602, 603, 604, 605, 606, 607, 608, 609, 610, 611, 612, 613, 614, 615, 616, 617, 618, 619, 620, 621, 622, 623, 624, 625, 626, 627, 628, 629, 630, 631, 632, 633] (by decide +kernel) (by decide +kernel)
set_option maxRecDepth 20000 in
theorem gL_law_X7_sell : GoodIn wsL_law (wsV RL 32 RX7 yX7_sell wsX7_sell) := goodIn_app (goodIn_of _ (by decide +kernel)) ggL_law_X7_sell
set_option maxRecDepth 20000 in
theorem ggL_law_X6_reader : GoodIn wsL_law wsX6_reader := goodIn_r _ [241, 27, 130, 131, 2, 132, 242, 26, 243, 244, 74, 80, 75, 76, 589, 590, 591, 592, 593, 594, 595, 596, 597, 598, 655, 656, 657, 658, 659, 660, 661] (by decide +kernel) (by decide +kernel)
set_option maxRecDepth 20000 in
theorem gL_law_X6_reader : GoodIn wsL_law (wsV RL 33 RX6 yX6_reader wsX6_reader) := goodIn_app (goodIn_of _ (by decide +kernel)) ggL_law_X6_reader
set_option maxRecDepth 20000 in
theorem ggL_law_X7_reader : GoodIn wsL_law wsX7_reader := goodIn_r _ [248, 249, 110, 111, 112, 141, 142, 5, 143, 599, 600, 601, 602, 603, 604, 605, 606, 607, 608, 609, 610, 611, 612, 613, 614, 615, 616, 617, 618, 619, 620, 621, 622, 623, 624, 625, 626, 627, 628, 629, 630, 631, 632, 633] (by decide +kernel) (by decide +kernel)
set_option maxRecDepth 20000 in
theorem gL_law_X7_reader : GoodIn wsL_law (wsV RL 37 RX7 yX7_reader wsX7_reader) := goodIn_app (goodIn_of _ (by decide +kernel)) ggL_law_X7_reader
