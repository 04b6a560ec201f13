set_option maxRecDepth 20000 in
theorem ggL_law_X6_renew : GoodIn wsL_law wsX6_renew := goodIn_r _ [253, 27, 254, 26, 255, 256, 80, 130, 131, 2, 132, 589, 590, 591, 592, 593, 594, 595, 596, 597, 598, 655, 656, 657, 658, 659, 660, 661] (by decide +kernel) (by decide +kernel)
set_option maxRecDepth 20000 in
theorem gL_law_X6_renew : GoodIn wsL_law (wsV RL 38 RX6 yX6_renew wsX6_renew) := goodIn_app (goodIn_of _ (by decide +kernel)) ggL_law_X6_renew
set_option maxRecDepth 20000 in
theorem ggL_law_X7_renew : GoodIn wsL_law wsX7_renew := goodIn_r _ [260, 112, 261, 262, 263, 5, 264, 249, 141, 142, 143, 599, 600, 601, 602, 603, 604, 605, 606, 607, 608, 609, 610, 611, 612, 613, 614, 615, 616, 617, 618, 619, 620, 621, 622, 623, 624, 625, 626, 627, 628, 629, 630, 631, 632, 633] (by decide +kernel) (by decide +kernel)
set_option maxRecDepth 20000 in
theorem gL_law_X7_renew : GoodIn wsL_law (wsV RL 41 RX7 yX7_renew wsX7_renew) := goodIn_app (goodIn_of _ (by decide +kernel)) ggL_law_X7_renew
set_option maxRecDepth 20000 in
theorem ggL_law_X6_wish : GoodIn wsL_law wsX6_wish := goodIn_r _ [268, 27, 15, 31, 36, 254, 26, 255, 256, 80, 148, 14, 149, 150, 45, 269, 30, 270, 271, 90, 86, 84, 85, 272, 273, 274, 87, 88, 89, 589, 590, 591, 592, 593, 594, 595, 596, 597, 598, 662, 663, 664, 665, 666, 667, 668, 655, 656, 657, 658, 659, 660, 661, 634, 635] (by decide +kernel) (by decide +kernel)
set_option maxRecDepth 20000 in
theorem gL_law_X6_wish : GoodIn wsL_law (wsV RL 42 RX6 yX6_wish wsX6_wish) := goodIn_app (goodIn_of _ (by decide +kernel)) ggL_law_X6_wish
set_option maxRecDepth 20000 in
theorem ggL_law_X7_wish : GoodIn wsL_law wsX7_wish := goodIn_r _ [278, 279, 114, 115, 116, 118, 214, 261, 262, 263, 5, 264, 249, 141, 142, 143, 159, 160, 161, 162, 140, 599, 600, 601, 602, 603, 604, 605, 606, 607, 608, 609, 610, 611, 612, 613, 614, 615, 616, 617, 618, 619, 620, 621, 622, 623, 624, 625, 626, 627, 628, 629, 630, 631, 632, 633] (by decide +kernel) (by decide +kernel)
set_option maxRecDepth 20000 in
theorem gL_law_X7_wish : GoodIn wsL_law (wsV RL 45 RX7 yX7_wish wsX7_wish) := goodIn_app (goodIn_of _ (by decide +kernel)) ggL_law_X7_wish
set_option maxRecDepth 20000 in
theorem ggL_law_X6_unwish : GoodIn wsL_law wsX6_unwish := goodIn_r _ [283, 31, 284, 30, 285, 286, 86, 287, 288, 289, 290, 90, 589, 590, 591, 592, 593, 594, 595, 596, 597, 598, 662, 663, 664, 665, 666, 667, 668] (by decide +kernel) (by decide +kernel)
set_option maxRecDepth 20000 in
theorem gL_law_X6_unwish : GoodIn wsL_law (wsV RL 46 RX6 yX6_unwish wsX6_unwish) := goodIn_app (goodIn_of _ (by decide +kernel)) ggL_law_X6_unwish
set_option maxRecDepth 20000 in
theorem ggL_law_X7_unwish : GoodIn wsL_law wsX7_unwish := goodIn_r _ [294, 116, 295, 296, 297, 5, 298, 279, 141, 142, 143, 599, 600, 601, 602, 603, 604, 605, 606, 607, 608, 609, 610, 611, 612, 613, 614, 615, 616, 617, 618, 619, 620, 621, 622, 623, 624, 625, 626, 627, 628, 629, 630, 631, 632, 633] (by decide +kernel) (by decide +kernel)
set_option maxRecDepth 20000 in
theorem gL_law_X7_unwish : GoodIn wsL_law (wsV RL 50 RX7 yX7_unwish wsX7_unwish) := goodIn_app (goodIn_of _ (by decide +kernel)) ggL_law_X7_unwish
set_option maxRecDepth 20000 in
theorem ggL_law_X6_go : GoodIn wsL_law wsX6_go := goodIn_r _ [302, 36, 303, 304, 305, 306, 130, 131, 2, 132, 307, 308, 309, 310, 23, 311, 22, 312, 313, 65, 196, 197, 198, 199, 58, 314, 315, 316, 317, 27, 254, 26, 255, 256, 80, 181, 182, 183, 184, 185, 186, 187, 188, 189, 190, 191, 59, 60, 67, 69, 70, 192, 193, 194, 195, 200, 201, 202, 203, 62, 63, 64, 318, 319, 320, 321, 322, 323, 324, 325, 326, 327, 328, 31, 329, 330, 331, 332, 333, 30, 334, 335, 88, 336, 284, 285, 286, 86, 287, 288, 289, 290, 90, 337, 338, 339, 76, 78, 79, 74, 340, 341, 342, 343, 344, 345, 346, 347, 348, 349, 350, 351, 352, 353, 354, 355, 356, 357, 68, 358, 359, 360, 66, 361, 362, 363, 589, 590, 591, 592, 593, 594, 595, 596, 597, 598, 642, 643, 644, 645, 646, 647, 648, 649, 650, 651, 652, 653, 654, 655, 656, 657, 658, 659, 660, 661, 662, 663, 664, 665, 666, 667, 668] (by decide +kernel) (by decide +kernel)
set_option maxRecDepth 20000 in
theorem gL_law_X6_go : GoodIn wsL_law (wsV RL 51 RX6 yX6_go wsX6_go) := goodIn_app (goodIn_of _ (by decide +kernel)) ggL_law_X6_go
set_option maxRecDepth 20000 in
theorem ggL_law_X7_go : GoodIn wsL_law wsX7_go := goodIn_r _ [367, 214, 141, 142, 5, 143, 368, 369, 370, 371, 208, 104, 108, 107, 105, 372, 373, 374, 375, 279, 110, 114, 118, 376, 377, 378, 379, 112, 115, 117, 380, 381, 382, 383, 116, 384, 385, 386, 387, 106, 388, 389, 390, 391, 101, 102, 392, 393, 394, 395, 396, 397, 398, 399, 400, 401, 402, 403, 109, 111, 599, 600, 601, 602, 603, 604, 605, 606, 607, 608, 609, 610, 611, 612, 613, 614, 615, 616, 617, 618, 619, 620, 621, 622, 623, 624, 625, 626, 627, 628, 629, 630, 631, 632, 633] (by decide +kernel) (by decide +kernel)
set_option maxRecDepth 20000 in
theorem gL_law_X7_go : GoodIn wsL_law (wsV RL 54 RX7 yX7_go wsX7_go) := goodIn_app (goodIn_of _ (by decide +kernel)) ggL_law_X7_go
set_option maxRecDepth 20000 in
theorem ggL_law_X6_back : GoodIn wsL_law wsX6_back := goodIn_r _ [407, 23, 27, 219, 22, 220, 221, 58, 222, 223, 224, 225, 68, 254, 26, 255, 256, 80, 408, 409, 410, 2, 411, 36, 412, 413, 414, 415, 416, 305, 417, 418, 348, 349, 350, 74, 340, 419, 420, 421, 422, 31, 15, 288, 30, 289, 290, 90, 167, 14, 168, 169, 44, 170, 148, 149, 150, 45, 423, 424, 425, 88, 87, 89, 86, 181, 182, 183, 184, 185, 186, 187, 188, 189, 190, 191, 59, 60, 67, 69, 70, 192, 193, 194, 195, 196, 197, 198, 199, 200, 201, 202, 203, 62, 63, 64, 65, 426, 427, 428, 589, 590, 591, 592, 593, 594, 595, 596, 597, 598, 642, 643, 644, 645, 646, 647, 648, 649, 650, 651, 652, 653, 654, 655, 656, 657, 658, 659, 660, 661, 662, 663, 664, 665, 666, 667, 668, 634, 635] (by decide +kernel) (by decide +kernel)
set_option maxRecDepth 20000 in
theorem gL_law_X6_back : GoodIn wsL_law (wsV RL 55 RX6 yX6_back wsX6_back) := goodIn_app (goodIn_of _ (by decide +kernel)) ggL_law_X6_back
set_option maxRecDepth 20000 in
theorem ggL_law_X7_back : GoodIn wsL_law wsX7_back := goodIn_r _ [432, 104, 105, 113, 107, 108, 111, 234, 235, 236, 5, 237, 208, 141, 142, 143, 433, 434, 435, 436, 110, 214, 437, 438, 439, 440, 441, 442, 443, 106, 117, 118, 116, 100, 115, 599, 600, 601, 602, 603, 604, 605, 606, 607, 608, 609, 610, 611, 612, 613, 614, 615, 616, 617, 618, 619, 620, 621, 622, 623, 624, 625, 626, 627, 628, 629, 630, 631, 632, 633] (by decide +kernel) (by decide +kernel)
set_option maxRecDepth 20000 in
theorem gL_law_X7_back : GoodIn wsL_law (wsV RL 58 RX7 yX7_back wsX7_back) := goodIn_app (goodIn_of _ (by decide +kernel)) ggL_law_X7_back
set_option maxRecDepth 20000 in
theorem ggL_law_X6_lose : GoodIn wsL_law wsX6_lose := goodIn_r _ [447, 23, 27, 223, 22, 224, 225, 68, 219, 220, 221, 58, 222, 254, 26, 255, 256, 80, 408, 409, 410, 2, 411, 36, 412, 413, 414, 415, 416, 305, 417, 418, 348, 349, 350, 74, 340, 419, 420, 421, 422, 31, 15, 288, 30, 289, 290, 90, 167, 14, 168, 169, 44, 170, 148, 149, 150, 45, 423, 424, 425, 88, 87, 89, 86, 448, 449, 450, 451, 226, 227, 228, 184, 185, 186, 187, 188, 189, 190, 191, 59, 60, 67, 69, 70, 192, 193, 194, 195, 196, 197, 198, 199, 200, 201, 202, 203, 62, 63, 64, 65, 589, 590, 591, 592, 593, 594, 595, 596, 597, 598, 642, 643, 644, 645, 646, 647, 648, 649, 650, 651, 652, 653, 654, 655, 656, 657, 658, 659, 660, 661, 662, 663, 664, 665, 666, 667, 668, 634, 635] (by decide +kernel) (by decide +kernel)
set_option maxRecDepth 20000 in
theorem gL_law_X6_lose : GoodIn wsL_law (wsV RL 59 RX6 yX6_lose wsX6_lose) := goodIn_app (goodIn_of _ (by decide +kernel)) ggL_law_X6_lose
set_option maxRecDepth 20000 in
theorem ggL_law_X7_lose : GoodIn wsL_law wsX7_lose := goodIn_r _ [455, 104, 103, 113, 105, 107, 108, 234, 235, 236, 5, 237, 208, 141, 142, 143, 433, 434, 435, 436, 110, 214, 437, 438, 439, 440, 441, 442, 443, 106, 117, 118, 116, 100, 115, 599, 600, 601, 602, 603, 604, 605, 606, 607, 608, 609, 610, 611, 612, 613, 614, 615, 616, 617, 618, 619, 620, 621, 622, 623, 624, 625, 626, 627, 628, 629, 630, 631, 632, 633] (by decide +kernel) (by decide +kernel)
set_option maxRecDepth 20000 in
theorem gL_law_X7_lose : GoodIn wsL_law (wsV RL 62 RX7 yX7_lose wsX7_lose) := goodIn_app (goodIn_of _ (by decide +kernel)) ggL_law_X7_lose
