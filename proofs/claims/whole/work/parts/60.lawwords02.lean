set_option maxRecDepth 20000 in
theorem ggL_law_X7_shuffled : GoodIn wsL_law wsX7_shuffled := goodIn_r _ [573, 96, 98, 288, 289, 290, 5, 291, 189, 133, 134, 135, 136, 137, 138, 139, 140, 373, 374, 375, 376, 97, 377, 378, 379, 380, 633, 634, 635, 636, 637, 638, 639, 640, 641, 642, 643, 644, 645, 646, 647, 648, 649, 650, 651, 652, 653, 654, 655] (by decide +kernel) (by decide +kernel)
set_option maxRecDepth 20000 in
theorem gL_law_X7_shuffled : GoodIn wsL_law (wsV RL 157 RX7 yX7_shuffled wsX7_shuffled) := goodIn_app (goodIn_of _ (by decide +kernel)) ggL_law_X7_shuffled
set_option maxRecDepth 20000 in
theorem ggL_law_L_orders : GoodIn wsL_law wsL_orders := goodIn_ca (goodIn_ca (goodIn_r _ [576, 108, 109, 577, 578, 579, 2, 580, 24, 267, 20, 268, 269, 270, 271, 119, 120, 249, 116, 117, 118, 121, 122, 123, 124, 125, 368, 167, 168, 23, 169, 170, 171, 172, 173, 58, 163, 60, 174, 175, 176, 177, 178, 179, 180, 626, 627, 628, 629, 630, 631, 632, 665, 666, 667, 668, 669, 670, 661, 662, 663, 664] (by decide +kernel) (by decide +kernel)) (goodIn_sub (fun _ h => List.mem_append_left _ (List.mem_append_left _ (List.mem_append_right _ h))) (by decide +kernel))) (goodIn_sub (fun _ h => List.mem_append_left _ (List.mem_append_right _ h)) (by decide +kernel))
set_option maxRecDepth 20000 in
theorem gL_law_L_orders : GoodIn wsL_law (va_wsS RL 158 yL_orders wsL_orders) := goodIn_app (goodIn_of _ (by decide +kernel)) ggL_law_L_orders
set_option maxRecDepth 20000 in
theorem ggL_law_X7_orders : GoodIn wsL_law wsX7_orders := goodIn_r _ [584, 288, 289, 290, 5, 291, 189, 133, 134, 135, 130, 131, 132, 136, 137, 138, 139, 140, 585, 586, 587, 588, 96, 198, 199, 200, 201, 194, 195, 196, 197, 92, 97, 633, 634, 635, 636, 637, 638, 639, 640, 641, 642, 643, 644, 645, 646, 647, 648, 649, 650, 651, 652, 653, 654, 655] (by decide +kernel) (by decide +kernel)
set_option maxRecDepth 20000 in
theorem gL_law_X7_orders : GoodIn wsL_law (wsV RL 160 RX7 yX7_orders wsX7_orders) := goodIn_app (goodIn_of _ (by decide +kernel)) ggL_law_X7_orders
set_option maxRecDepth 20000 in
theorem ggL_law_L_ordersByAll : GoodIn wsL_law wsL_ordersByAll := goodIn_ca (goodIn_ca (goodIn_ca (goodIn_r _ [591, 108, 109, 217, 592, 593, 594, 2, 595, 222, 223, 24, 267, 20, 268, 269, 270, 271, 119, 120, 249, 116, 117, 118, 121, 122, 123, 124, 125, 596, 171, 172, 23, 173, 58, 163, 60, 597, 598, 599, 626, 627, 628, 629, 630, 631, 632, 665, 666, 667, 668, 669, 670, 661, 662, 663, 664] (by decide +kernel) (by decide +kernel)) (goodIn_sub (fun _ h => List.mem_append_right _ h) (by decide +kernel))) (goodIn_sub (fun _ h => List.mem_append_left _ (List.mem_append_left _ (List.mem_append_right _ h))) (by decide +kernel))) (goodIn_sub (fun _ h => List.mem_append_left _ (List.mem_append_right _ h)) (by decide +kernel))
set_option maxRecDepth 20000 in
theorem gL_law_L_ordersByAll : GoodIn wsL_law (va_wsS RL 161 yL_ordersByAll wsL_ordersByAll) := goodIn_app (goodIn_of _ (by decide +kernel)) ggL_law_L_ordersByAll
set_option maxRecDepth 20000 in
theorem ggL_law_X7_ordersByAll : GoodIn wsL_law wsX7_ordersByAll := goodIn_r _ [603, 96, 288, 289, 290, 5, 291, 189, 133, 134, 135, 130, 131, 132, 136, 137, 138, 139, 140, 585, 586, 587, 588, 198, 199, 200, 201, 194, 195, 196, 197, 92, 97, 633, 634, 635, 636, 637, 638, 639, 640, 641, 642, 643, 644, 645, 646, 647, 648, 649, 650, 651, 652, 653, 654, 655] (by decide +kernel) (by decide +kernel)
set_option maxRecDepth 20000 in
theorem gL_law_X7_ordersByAll : GoodIn wsL_law (wsV RL 163 RX7 yX7_ordersByAll wsX7_ordersByAll) := goodIn_app (goodIn_of _ (by decide +kernel)) ggL_law_X7_ordersByAll
set_option maxRecDepth 20000 in
theorem ggL_law_L_isOpen : GoodIn wsL_law wsL_isOpen := goodIn_ca (goodIn_r _ [606, 108, 607, 608, 609, 2, 610, 28, 424, 426, 427, 428, 429, 119, 120, 396, 626, 627, 628, 629, 630, 631, 632, 671, 672, 673, 674, 675, 676, 677] (by decide +kernel) (by decide +kernel)) (goodIn_sub (fun _ h => List.mem_append_left _ (List.mem_append_left _ (List.mem_append_right _ h))) (by decide +kernel))
set_option maxRecDepth 20000 in
theorem gL_law_L_isOpen : GoodIn wsL_law (va_wsS RL 164 yL_isOpen wsL_isOpen) := goodIn_app (goodIn_of _ (by decide +kernel)) ggL_law_L_isOpen
set_option maxRecDepth 20000 in
theorem ggL_law_X7_isOpen : GoodIn wsL_law wsX7_isOpen := goodIn_r _ [614, 434, 435, 436, 5, 437, 412, 133, 134, 135, 136, 137, 138, 139, 140, 413, 414, 415, 416, 102, 94, 99, 100, 633, 634, 635, 636, 637, 638, 639, 640, 641, 642, 643, 644, 645, 646, 647, 648, 649, 650, 651, 652, 653, 654, 655] (by decide +kernel) (by decide +kernel)
set_option maxRecDepth 20000 in
theorem gL_law_X7_isOpen : GoodIn wsL_law (wsV RL 166 RX7 yX7_isOpen wsX7_isOpen) := goodIn_app (goodIn_of _ (by decide +kernel)) ggL_law_X7_isOpen
set_option maxRecDepth 20000 in
theorem ggL_law_L_ring : GoodIn wsL_law wsL_ring := goodIn_ca (goodIn_r _ [617, 108, 618, 619, 620, 2, 621, 119, 120, 28, 442, 444, 445, 446, 27, 447, 401, 71, 70, 448, 449, 450, 451, 452, 453, 454, 67, 68, 455, 456, 457, 458, 69, 626, 627, 628, 629, 630, 631, 632, 671, 672, 673, 674, 675, 676, 677] (by decide +kernel) (by decide +kernel)) (goodIn_sub (fun _ h => List.mem_append_left _ (List.mem_append_left _ (List.mem_append_right _ h))) (by decide +kernel))
set_option maxRecDepth 20000 in
theorem gL_law_L_ring : GoodIn wsL_law (va_wsS RL 167 yL_ring wsL_ring) := goodIn_app (goodIn_of _ (by decide +kernel)) ggL_law_L_ring
set_option maxRecDepth 20000 in
theorem ggL_law_X7_ring : GoodIn wsL_law wsX7_ring := goodIn_r _ [625, 103, 136, 137, 138, 5, 139, 140, 463, 464, 465, 466, 467, 468, 469, 470, 412, 471, 472, 473, 474, 100, 413, 414, 415, 416, 102, 94, 99, 475, 476, 477, 478, 92, 101, 633, 634, 635, 636, 637, 638, 639, 640, 641, 642, 643, 644, 645, 646, 647, 648, 649, 650, 651, 652, 653, 654, 655] (by decide +kernel) (by decide +kernel)
set_option maxRecDepth 20000 in
theorem gL_law_X7_ring : GoodIn wsL_law (wsV RL 169 RX7 yX7_ring wsX7_ring) := goodIn_app (goodIn_of _ (by decide +kernel)) ggL_law_X7_ring
