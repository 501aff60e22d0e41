set_option maxRecDepth 20000 in
theorem ggL_law_X7_offer : GoodIn wsL_law wsX7_offer := goodIn_r _ [411, 412, 99, 92, 100, 94, 101, 292, 293, 294, 5, 295, 238, 133, 134, 135, 130, 131, 132, 413, 414, 415, 416, 102, 136, 137, 138, 139, 140, 633, 634, 635, 636, 637, 638, 639, 640, 641, 642, 643, 644, 645, 646, 647, 648, 649, 650, 651, 652, 653, 654, 655] (by decide +kernel) (by decide +kernel)
set_option maxRecDepth 20000 in
theorem gL_law_X7_offer : GoodIn wsL_law (wsV RL 125 RX7 yX7_offer wsX7_offer) := goodIn_app (goodIn_of _ (by decide +kernel)) ggL_law_X7_offer
set_option maxRecDepth 20000 in
theorem ggL_law_L_takeBack : GoodIn wsL_law wsL_takeBack := goodIn_ca (goodIn_ca (goodIn_r _ [419, 108, 217, 420, 421, 422, 2, 423, 222, 223, 28, 424, 425, 426, 427, 428, 429, 119, 120, 396, 626, 627, 628, 629, 630, 631, 632, 671, 672, 673, 674, 675, 676, 677] (by decide +kernel) (by decide +kernel)) (goodIn_sub (fun _ h => List.mem_append_right _ h) (by decide +kernel))) (goodIn_sub (fun _ h => List.mem_append_left _ (List.mem_append_left _ (List.mem_append_right _ h))) (by decide +kernel))
set_option maxRecDepth 20000 in
theorem gL_law_L_takeBack : GoodIn wsL_law (va_wsS RL 126 yL_takeBack wsL_takeBack) := goodIn_app (goodIn_of _ (by decide +kernel)) ggL_law_L_takeBack
set_option maxRecDepth 20000 in
theorem ggL_law_X7_takeBack : GoodIn wsL_law wsX7_takeBack := goodIn_r _ [433, 102, 99, 434, 435, 436, 5, 437, 412, 133, 134, 135, 413, 414, 415, 416, 94, 100, 136, 137, 138, 139, 140, 633, 634, 635, 636, 637, 638, 639, 640, 641, 642, 643, 644, 645, 646, 647, 648, 649, 650, 651, 652, 653, 654, 655] (by decide +kernel) (by decide +kernel)
set_option maxRecDepth 20000 in
theorem gL_law_X7_takeBack : GoodIn wsL_law (wsV RL 128 RX7 yX7_takeBack wsX7_takeBack) := goodIn_app (goodIn_of _ (by decide +kernel)) ggL_law_X7_takeBack
set_option maxRecDepth 20000 in
theorem ggL_law_X6_trade : GoodIn wsL_law wsX6_trade := goodIn_r _ [441, 28, 442, 20, 265, 425, 443, 424, 444, 445, 446, 27, 447, 401, 71, 70, 448, 449, 450, 451, 452, 453, 454, 67, 68, 455, 456, 457, 458, 69, 626, 627, 628, 629, 630, 631, 632, 671, 672, 673, 674, 675, 676, 677, 661, 662, 663, 664] (by decide +kernel) (by decide +kernel)
set_option maxRecDepth 20000 in
theorem gL_law_X6_trade : GoodIn wsL_law (wsV RL 129 RX6 yX6_trade wsX6_trade) := goodIn_app (goodIn_of _ (by decide +kernel)) ggL_law_X6_trade
set_option maxRecDepth 20000 in
theorem ggL_law_X7_trade : GoodIn wsL_law wsX7_trade := goodIn_r _ [462, 140, 103, 94, 99, 100, 102, 463, 464, 465, 5, 466, 467, 468, 469, 470, 412, 471, 472, 473, 474, 413, 414, 415, 416, 475, 476, 477, 478, 92, 101, 633, 634, 635, 636, 637, 638, 639, 640, 641, 642, 643, 644, 645, 646, 647, 648, 649, 650, 651, 652, 653, 654, 655] (by decide +kernel) (by decide +kernel)
set_option maxRecDepth 20000 in
theorem gL_law_X7_trade : GoodIn wsL_law (wsV RL 132 RX7 yX7_trade wsX7_trade) := goodIn_app (goodIn_of _ (by decide +kernel)) ggL_law_X7_trade
set_option maxRecDepth 20000 in
theorem ggL_law_X6_cards : GoodIn wsL_law wsX6_cards := goodIn_r _ [482, 20, 224, 626, 627, 628, 629, 630, 631, 632, 661, 662, 663, 664] (by decide +kernel) (by decide +kernel)
set_option maxRecDepth 20000 in
theorem gL_law_X6_cards : GoodIn wsL_law (wsV RL 133 RX6 yX6_cards wsX6_cards) := goodIn_app (goodIn_of _ (by decide +kernel)) ggL_law_X6_cards
set_option maxRecDepth 20000 in
theorem ggL_law_X7_cards : GoodIn wsL_law wsX7_cards := goodIn_r _ [486, 238, 487, 488, 489, 5, 490, 140, 633, 634, 635, 636, 637, 638, 639, 640, 641, 642, 643, 644, 645, 646, 647, 648, 649, 650, 651, 652, 653, 654, 655] (by decide +kernel) (by decide +kernel)
set_option maxRecDepth 20000 in
theorem gL_law_X7_cards : GoodIn wsL_law (wsV RL 136 RX7 yX7_cards wsX7_cards) := goodIn_app (goodIn_of _ (by decide +kernel)) ggL_law_X7_cards
set_option maxRecDepth 20000 in
theorem ggL_law_L_printOf : GoodIn wsL_law wsL_printOf := goodIn_ca (goodIn_r _ [493, 108, 494, 495, 496, 2, 497, 20, 355, 498, 272, 273, 274, 275, 119, 120, 224, 626, 627, 628, 629, 630, 631, 632, 661, 662, 663, 664] (by decide +kernel) (by decide +kernel)) (goodIn_sub (fun _ h => List.mem_append_left _ (List.mem_append_left _ (List.mem_append_right _ h))) (by decide +kernel))
set_option maxRecDepth 20000 in
theorem gL_law_L_printOf : GoodIn wsL_law (va_wsS RL 137 yL_printOf wsL_printOf) := goodIn_app (goodIn_of _ (by decide +kernel)) ggL_law_L_printOf
set_option maxRecDepth 20000 in
theorem ggL_law_X7_printOf : GoodIn wsL_law wsX7_printOf := goodIn_r _ [502, 92, 93, 292, 293, 294, 5, 295, 238, 133, 134, 135, 136, 137, 138, 139, 140, 633, 634, 635, 636, 637, 638, 639, 640, 641, 642, 643, 644, 645, 646, 647, 648, 649, 650, 651, 652, 653, 654, 655] (by decide +kernel) (by decide +kernel)
set_option maxRecDepth 20000 in
theorem gL_law_X7_printOf : GoodIn wsL_law (wsV RL 139 RX7 yX7_printOf wsX7_printOf) := goodIn_app (goodIn_of _ (by decide +kernel)) ggL_law_X7_printOf
set_option maxRecDepth 20000 in
theorem ggL_law_L_collectorOf : GoodIn wsL_law wsL_collectorOf := goodIn_ca (goodIn_r _ [505, 108, 506, 507, 508, 2, 509, 20, 265, 272, 273, 274, 275, 119, 120, 224, 626, 627, 628, 629, 630, 631, 632, 661, 662, 663, 664] (by decide +kernel) (by decide +kernel)) (goodIn_sub (fun _ h => List.mem_append_left _ (List.mem_append_left _ (List.mem_append_right _ h))) (by decide +kernel))
set_option maxRecDepth 20000 in
theorem gL_law_L_collectorOf : GoodIn wsL_law (va_wsS RL 140 yL_collectorOf wsL_collectorOf) := goodIn_app (goodIn_of _ (by decide +kernel)) ggL_law_L_collectorOf
set_option maxRecDepth 20000 in
theorem ggL_law_X7_collectorOf : GoodIn wsL_law wsX7_collectorOf := goodIn_r _ [513, 94, 292, 293, 294, 5, 295, 238, 133, 134, 135, 136, 137, 138, 139, 140, 633, 634, 635, 636, 637, 638, 639, 640, 641, 642, 643, 644, 645, 646, 647, 648, 649, 650, 651, 652, 653, 654, 655] (by decide +kernel) (by decide +kernel)
set_option maxRecDepth 20000 in
theorem gL_law_X7_collectorOf : GoodIn wsL_law (wsV RL 142 RX7 yX7_collectorOf wsX7_collectorOf) := goodIn_app (goodIn_of _ (by decide +kernel)) ggL_law_X7_collectorOf
set_option maxRecDepth 20000 in
theorem ggL_law_L_has : GoodIn wsL_law wsL_has := goodIn_ca (goodIn_r _ [516, 108, 517, 518, 519, 2, 520, 20, 226, 227, 228, 119, 120, 116, 117, 118, 521, 522, 523, 19, 524, 233, 53, 51, 626, 627, 628, 629, 630, 631, 632, 661, 662, 663, 664] (by decide +kernel) (by decide +kernel)) (goodIn_sub (fun _ h => List.mem_append_left _ (List.mem_append_left _ (List.mem_append_right _ h))) (by decide +kernel))
set_option maxRecDepth 20000 in
theorem gL_law_L_has : GoodIn wsL_law (va_wsS RL 143 yL_has wsL_has) := goodIn_app (goodIn_of _ (by decide +kernel)) ggL_law_L_has
set_option maxRecDepth 20000 in
theorem ggL_law_X7_has : GoodIn wsL_law wsX7_has := goodIn_r _ [528, 238, 94, 92, 239, 240, 5, 241, 133, 134, 135, 130, 131, 132, 136, 137, 138, 139, 140, 633, 634, 635, 636, 637, 638, 639, 640, 641, 642, 643, 644, 645, 646, 647, 648, 649, 650, 651, 652, 653, 654, 655] (by decide +kernel) (by decide +kernel)
set_option maxRecDepth 20000 in
theorem gL_law_X7_has : GoodIn wsL_law (wsV RL 145 RX7 yX7_has wsX7_has) := goodIn_app (goodIn_of _ (by decide +kernel)) ggL_law_X7_has
set_option maxRecDepth 20000 in
theorem ggL_law_L_wins : GoodIn wsL_law wsL_wins := goodIn_ca (goodIn_r _ [531, 108, 532, 533, 534, 2, 535, 16, 367, 116, 117, 118, 119, 120, 626, 627, 628, 629, 630, 631, 632, 656, 657, 658, 659, 660] (by decide +kernel) (by decide +kernel)) (goodIn_sub (fun _ h => List.mem_append_left _ (List.mem_append_left _ (List.mem_append_right _ h))) (by decide +kernel))
set_option maxRecDepth 20000 in
theorem gL_law_L_wins : GoodIn wsL_law (va_wsS RL 146 yL_wins wsL_wins) := goodIn_app (goodIn_of _ (by decide +kernel)) ggL_law_L_wins
set_option maxRecDepth 20000 in
theorem ggL_law_X7_wins : GoodIn wsL_law wsX7_wins := goodIn_r _ [539, 89, 130, 131, 5, 132, 133, 134, 135, 136, 137, 138, 139, 140, 633, 634, 635, 636, 637, 638, 639, 640, 641, 642, 643, 644, 645, 646, 647, 648, 649, 650, 651, 652, 653, 654, 655] (by decide +kernel) (by decide +kernel)
set_option maxRecDepth 20000 in
theorem gL_law_X7_wins : GoodIn wsL_law (wsV RL 148 RX7 yX7_wins wsX7_wins) := goodIn_app (goodIn_of _ (by decide +kernel)) ggL_law_X7_wins
set_option maxRecDepth 20000 in
theorem ggL_law_L_price : GoodIn wsL_law wsL_price := goodIn_ca (goodIn_r _ [542, 108, 543, 544, 545, 2, 546, 16, 225, 367, 116, 117, 118, 119, 120, 626, 627, 628, 629, 630, 631, 632, 656, 657, 658, 659, 660] (by decide +kernel) (by decide +kernel)) (goodIn_sub (fun _ h => List.mem_append_left _ (List.mem_append_left _ (List.mem_append_right _ h))) (by decide +kernel))
set_option maxRecDepth 20000 in
theorem gL_law_L_price : GoodIn wsL_law (va_wsS RL 149 yL_price wsL_price) := goodIn_app (goodIn_of _ (by decide +kernel)) ggL_law_L_price
set_option maxRecDepth 20000 in
theorem ggL_law_X7_price : GoodIn wsL_law wsX7_price := goodIn_r _ [550, 88, 89, 130, 131, 5, 132, 133, 134, 135, 136, 137, 138, 139, 140, 633, 634, 635, 636, 637, 638, 639, 640, 641, 642, 643, 644, 645, 646, 647, 648, 649, 650, 651, 652, 653, 654, 655] (by decide +kernel) (by decide +kernel)
set_option maxRecDepth 20000 in
theorem gL_law_X7_price : GoodIn wsL_law (wsV RL 151 RX7 yX7_price wsX7_price) := goodIn_app (goodIn_of _ (by decide +kernel)) ggL_law_X7_price
set_option maxRecDepth 20000 in
theorem ggL_law_L_isAllowed : GoodIn wsL_law wsL_isAllowed := goodIn_ca (goodIn_r _ [553, 108, 554, 555, 556, 2, 557, 24, 16, 20, 268, 269, 270, 271, 119, 120, 249, 334, 160, 161, 23, 162, 58, 61, 60, 163, 164, 57, 165, 62, 166, 167, 168, 169, 170, 171, 172, 173, 174, 175, 176, 177, 178, 179, 180, 626, 627, 628, 629, 630, 631, 632, 665, 666, 667, 668, 669, 670, 661, 662, 663, 664, 656, 657, 658, 659, 660] (by decide +kernel) (by decide +kernel)) (goodIn_sub (fun _ h => List.mem_append_left _ (List.mem_append_left _ (List.mem_append_right _ h))) (by decide +kernel))
set_option maxRecDepth 20000 in
theorem gL_law_L_isAllowed : GoodIn wsL_law (va_wsS RL 152 yL_isAllowed wsL_isAllowed) := goodIn_app (goodIn_of _ (by decide +kernel)) ggL_law_L_isAllowed
set_option maxRecDepth 20000 in
theorem ggL_law_X7_isAllowed : GoodIn wsL_law wsX7_isAllowed := goodIn_r _ [561, 288, 289, 290, 5, 291, 189, 133, 134, 135, 136, 137, 138, 139, 140, 190, 191, 192, 193, 96, 90, 94, 97, 95, 87, 91, 194, 195, 196, 197, 92, 198, 199, 200, 201, 633, 634, 635, 636, 637, 638, 639, 640, 641, 642, 643, 644, 645, 646, 647, 648, 649, 650, 651, 652, 653, 654, 655] (by decide +kernel) (by decide +kernel)
set_option maxRecDepth 20000 in
theorem gL_law_X7_isAllowed : GoodIn wsL_law (wsV RL 154 RX7 yX7_isAllowed wsX7_isAllowed) := goodIn_app (goodIn_of _ (by decide +kernel)) ggL_law_X7_isAllowed
set_option maxRecDepth 20000 in
theorem ggL_law_L_shuffled : GoodIn wsL_law wsL_shuffled := goodIn_ca (goodIn_ca (goodIn_r _ [564, 108, 109, 565, 566, 567, 2, 568, 32, 24, 357, 268, 269, 270, 271, 119, 120, 249, 307, 308, 309, 310, 267, 327, 328, 329, 124, 125, 569, 342, 343, 31, 344, 345, 75, 346, 347, 348, 349, 350, 626, 627, 628, 629, 630, 631, 632, 678, 665, 666, 667, 668, 669, 670] (by decide +kernel) (by decide +kernel)) (goodIn_sub (fun _ h => List.mem_append_left _ (List.mem_append_left _ (List.mem_append_right _ h))) (by decide +kernel))) (goodIn_sub (fun _ h => List.mem_append_left _ (List.mem_append_right _ h)) (by decide +kernel))
set_option maxRecDepth 20000 in
theorem gL_law_L_shuffled : GoodIn wsL_law (va_wsS RL 155 yL_shuffled wsL_shuffled) := goodIn_app (goodIn_of _ (by decide +kernel)) ggL_law_L_shuffled
