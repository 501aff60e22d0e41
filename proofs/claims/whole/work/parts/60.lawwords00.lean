set_option maxRecDepth 20000 in
theorem ggL_law_X6_init : GoodIn wsL_law wsX6_init := goodIn_r _ [9, 10, 11, 12, 13, 14, 15, 16, 17, 18, 19, 20, 21, 22, 23, 24, 25, 26, 27, 28, 29, 30, 31, 32, 33, 34, 35, 36, 37, 38, 39, 40, 41, 42, 43, 44, 45, 46, 47, 48, 49, 50, 51, 52, 53, 54, 55, 56, 57, 58, 59, 60, 61, 62, 63, 64, 65, 66, 67, 68, 69, 70, 71, 72, 73, 74, 75, 76, 77, 78, 79, 80, 656, 657, 658, 659, 660, 626, 627, 628, 629, 630, 631, 632, 661, 662, 663, 664, 665, 666, 667, 668, 669, 670, 671, 672, 673, 674, 675, 676, 677, 678, 679, 680, 681] (by decide +kernel) (by decide +kernel)
set_option maxRecDepth 20000 in
theorem gL_law_X6_init : GoodIn wsL_law (wsX6_init) := ggL_law_X6_init
set_option maxRecDepth 20000 in
theorem ggL_law_X7_init : GoodIn wsL_law wsX7_init := goodIn_r _ [83, 84, 11, 12, 41, 85, 86, 44, 87, 88, 89, 90, 91, 92, 93, 94, 95, 96, 97, 98, 99, 100, 101, 102, 103, 633, 634, 635, 636, 637, 638, 639, 640, 641, 642, 643, 644, 645, 646, 647, 648, 649, 650, 651, 652, 653, 654, 655] (by decide +kernel) (by decide +kernel)
set_option maxRecDepth 20000 in
theorem gL_law_X7_init : GoodIn wsL_law (wsX7_init) := ggL_law_X7_init
set_option maxRecDepth 20000 in
theorem ggL_law_L_setKind : GoodIn wsL_law wsL_setKind := goodIn_ca (goodIn_ca (goodIn_r _ [107, 108, 109, 110, 111, 112, 2, 113, 16, 114, 115, 116, 117, 118, 119, 120, 121, 122, 123, 124, 125, 626, 627, 628, 629, 630, 631, 632, 656, 657, 658, 659, 660] (by decide +kernel) (by decide +kernel)) (goodIn_sub (fun _ h => List.mem_append_left _ (List.mem_append_left _ (List.mem_append_right _ h))) (by decide +kernel))) (goodIn_sub (fun _ h => List.mem_append_left _ (List.mem_append_right _ h)) (by decide +kernel))
set_option maxRecDepth 20000 in
theorem gL_law_L_setKind : GoodIn wsL_law (va_wsS RL 88 yL_setKind wsL_setKind) := goodIn_app (goodIn_of _ (by decide +kernel)) ggL_law_L_setKind
set_option maxRecDepth 20000 in
theorem ggL_law_X7_setKind : GoodIn wsL_law wsX7_setKind := goodIn_r _ [129, 85, 86, 130, 131, 5, 132, 133, 134, 135, 136, 137, 138, 139, 140, 633, 634, 635, 636, 637, 638, 639, 640, 641, 642, 643, 644, 645, 646, 647, 648, 649, 650, 651, 652, 653, 654, 655] (by decide +kernel) (by decide +kernel)
set_option maxRecDepth 20000 in
theorem gL_law_X7_setKind : GoodIn wsL_law (wsV RL 93 RX7 yX7_setKind wsX7_setKind) := goodIn_app (goodIn_of _ (by decide +kernel)) ggL_law_X7_setKind
set_option maxRecDepth 20000 in
theorem ggL_law_X7_thrown : GoodIn wsL_law wsX7_thrown := goodIn_r _ [144, 140, 633, 634, 635, 636, 637, 638, 639, 640, 641, 642, 643, 644, 645, 646, 647, 648, 649, 650, 651, 652, 653, 654, 655] (by decide +kernel) (by decide +kernel)
set_option maxRecDepth 20000 in
theorem gL_law_X7_thrown : GoodIn wsL_law (wsV RL 94 RX7 yX7_thrown wsX7_thrown) := goodIn_app (goodIn_of _ (by decide +kernel)) ggL_law_X7_thrown
set_option maxRecDepth 20000 in
theorem ggL_law_L_setFormat : GoodIn wsL_law wsL_setFormat := goodIn_ca (goodIn_r _ [147, 109, 148, 149, 150, 2, 151, 24, 152, 153, 16, 20, 121, 122, 123, 124, 125, 154, 155, 156, 23, 157, 158, 159, 160, 161, 162, 58, 61, 60, 163, 164, 57, 165, 62, 166, 167, 168, 169, 170, 171, 172, 173, 174, 175, 176, 177, 178, 179, 180, 626, 627, 628, 629, 630, 631, 632, 665, 666, 667, 668, 669, 670, 661, 662, 663, 664, 656, 657, 658, 659, 660] (by decide +kernel) (by decide +kernel)) (goodIn_sub (fun _ h => List.mem_append_left _ (List.mem_append_right _ h)) (by decide +kernel))
set_option maxRecDepth 20000 in
theorem gL_law_L_setFormat : GoodIn wsL_law (va_wsS RL 98 yL_setFormat wsL_setFormat) := goodIn_app (goodIn_of _ (by decide +kernel)) ggL_law_L_setFormat
set_option maxRecDepth 20000 in
theorem ggL_law_X7_setFormat : GoodIn wsL_law wsX7_setFormat := goodIn_r _ [184, 90, 91, 133, 134, 5, 135, 136, 137, 138, 139, 140, 185, 186, 187, 188, 189, 190, 191, 192, 193, 96, 94, 97, 95, 87, 194, 195, 196, 197, 92, 198, 199, 200, 201, 633, 634, 635, 636, 637, 638, 639, 640, 641, 642, 643, 644, 645, 646, 647, 648, 649, 650, 651, 652, 653, 654, 655] (by decide +kernel) (by decide +kernel)
set_option maxRecDepth 20000 in
theorem gL_law_X7_setFormat : GoodIn wsL_law (wsV RL 101 RX7 yX7_setFormat wsX7_setFormat) := goodIn_app (goodIn_of _ (by decide +kernel)) ggL_law_X7_setFormat
set_option maxRecDepth 20000 in
theorem ggL_law_L_ban : GoodIn wsL_law wsL_ban := goodIn_ca (goodIn_r _ [204, 108, 205, 206, 207, 2, 208, 16, 209, 24, 20, 116, 117, 118, 119, 120, 154, 155, 156, 23, 157, 158, 159, 160, 161, 162, 58, 61, 60, 163, 164, 57, 165, 62, 166, 167, 168, 169, 170, 171, 172, 173, 174, 175, 176, 177, 178, 179, 180, 626, 627, 628, 629, 630, 631, 632, 656, 657, 658, 659, 660, 665, 666, 667, 668, 669, 670, 661, 662, 663, 664] (by decide +kernel) (by decide +kernel)) (goodIn_sub (fun _ h => List.mem_append_left _ (List.mem_append_left _ (List.mem_append_right _ h))) (by decide +kernel))
set_option maxRecDepth 20000 in
theorem gL_law_L_ban : GoodIn wsL_law (va_wsS RL 102 yL_ban wsL_ban) := goodIn_app (goodIn_of _ (by decide +kernel)) ggL_law_L_ban
set_option maxRecDepth 20000 in
theorem ggL_law_X7_ban : GoodIn wsL_law wsX7_ban := goodIn_r _ [213, 87, 130, 131, 5, 132, 133, 134, 135, 136, 137, 138, 139, 140, 185, 186, 187, 188, 189, 190, 191, 192, 193, 96, 90, 94, 97, 95, 91, 194, 195, 196, 197, 92, 198, 199, 200, 201, 633, 634, 635, 636, 637, 638, 639, 640, 641, 642, 643, 644, 645, 646, 647, 648, 649, 650, 651, 652, 653, 654, 655] (by decide +kernel) (by decide +kernel)
set_option maxRecDepth 20000 in
theorem gL_law_X7_ban : GoodIn wsL_law (wsV RL 105 RX7 yX7_ban wsX7_ban) := goodIn_app (goodIn_of _ (by decide +kernel)) ggL_law_X7_ban
set_option maxRecDepth 20000 in
theorem ggL_law_L_print : GoodIn wsL_law wsL_print := goodIn_ca (goodIn_ca (goodIn_r _ [216, 108, 217, 218, 219, 220, 2, 221, 222, 223, 20, 224, 16, 225, 116, 117, 118, 119, 120, 226, 227, 228, 229, 230, 231, 19, 232, 233, 51, 52, 53, 626, 627, 628, 629, 630, 631, 632, 661, 662, 663, 664, 656, 657, 658, 659, 660] (by decide +kernel) (by decide +kernel)) (goodIn_sub (fun _ h => List.mem_append_right _ h) (by decide +kernel))) (goodIn_sub (fun _ h => List.mem_append_left _ (List.mem_append_left _ (List.mem_append_right _ h))) (by decide +kernel))
set_option maxRecDepth 20000 in
theorem gL_law_L_print : GoodIn wsL_law (va_wsS RL 106 yL_print wsL_print) := goodIn_app (goodIn_of _ (by decide +kernel)) ggL_law_L_print
set_option maxRecDepth 20000 in
theorem ggL_law_X7_print : GoodIn wsL_law wsX7_print := goodIn_r _ [237, 238, 88, 92, 93, 94, 130, 131, 5, 132, 133, 134, 135, 239, 240, 241, 136, 137, 138, 139, 140, 633, 634, 635, 636, 637, 638, 639, 640, 641, 642, 643, 644, 645, 646, 647, 648, 649, 650, 651, 652, 653, 654, 655] (by decide +kernel) (by decide +kernel)
set_option maxRecDepth 20000 in
theorem gL_law_X7_print : GoodIn wsL_law (wsV RL 108 RX7 yX7_print wsX7_print) := goodIn_app (goodIn_of _ (by decide +kernel)) ggL_law_X7_print
set_option maxRecDepth 20000 in
theorem ggL_law_L_deck : GoodIn wsL_law wsL_deck := goodIn_ca (goodIn_ca (goodIn_r _ [244, 108, 217, 245, 246, 247, 2, 248, 222, 223, 24, 249, 226, 227, 228, 119, 120, 250, 251, 252, 23, 253, 158, 57, 626, 627, 628, 629, 630, 631, 632, 665, 666, 667, 668, 669, 670] (by decide +kernel) (by decide +kernel)) (goodIn_sub (fun _ h => List.mem_append_right _ h) (by decide +kernel))) (goodIn_sub (fun _ h => List.mem_append_left _ (List.mem_append_left _ (List.mem_append_right _ h))) (by decide +kernel))
set_option maxRecDepth 20000 in
theorem gL_law_L_deck : GoodIn wsL_law (va_wsS RL 109 yL_deck wsL_deck) := goodIn_app (goodIn_of _ (by decide +kernel)) ggL_law_L_deck
set_option maxRecDepth 20000 in
theorem ggL_law_X7_deck : GoodIn wsL_law wsX7_deck := goodIn_r _ [257, 189, 95, 239, 240, 5, 241, 133, 134, 135, 136, 137, 138, 139, 140, 633, 634, 635, 636, 637, 638, 639, 640, 641, 642, 643, 644, 645, 646, 647, 648, 649, 650, 651, 652, 653, 654, 655] (by decide +kernel) (by decide +kernel)
set_option maxRecDepth 20000 in
theorem gL_law_X7_deck : GoodIn wsL_law (wsV RL 112 RX7 yX7_deck wsX7_deck) := goodIn_app (goodIn_of _ (by decide +kernel)) ggL_law_X7_deck
set_option maxRecDepth 20000 in
theorem ggL_law_L_add : GoodIn wsL_law wsL_add := goodIn_ca (goodIn_ca (goodIn_ca (goodIn_r _ [260, 108, 109, 217, 261, 262, 263, 2, 264, 124, 125, 222, 223, 20, 265, 24, 266, 267, 268, 269, 270, 271, 119, 120, 249, 272, 273, 274, 275, 224, 276, 277, 278, 23, 279, 58, 60, 280, 281, 282, 283, 626, 627, 628, 629, 630, 631, 632, 661, 662, 663, 664, 665, 666, 667, 668, 669, 670] (by decide +kernel) (by decide +kernel)) (goodIn_sub (fun _ h => List.mem_append_left _ (List.mem_append_right _ h)) (by decide +kernel))) (goodIn_sub (fun _ h => List.mem_append_right _ h) (by decide +kernel))) (goodIn_sub (fun _ h => List.mem_append_left _ (List.mem_append_left _ (List.mem_append_right _ h))) (by decide +kernel))
set_option maxRecDepth 20000 in
theorem gL_law_L_add : GoodIn wsL_law (va_wsS RL 113 yL_add wsL_add) := goodIn_app (goodIn_of _ (by decide +kernel)) ggL_law_L_add
set_option maxRecDepth 20000 in
theorem ggL_law_X7_add : GoodIn wsL_law wsX7_add := goodIn_r _ [287, 94, 95, 96, 97, 288, 289, 290, 5, 291, 189, 133, 134, 135, 292, 293, 294, 295, 238, 296, 297, 298, 299, 136, 137, 138, 139, 140, 633, 634, 635, 636, 637, 638, 639, 640, 641, 642, 643, 644, 645, 646, 647, 648, 649, 650, 651, 652, 653, 654, 655] (by decide +kernel) (by decide +kernel)
set_option maxRecDepth 20000 in
theorem gL_law_X7_add : GoodIn wsL_law (wsV RL 115 RX7 yX7_add wsX7_add) := goodIn_app (goodIn_of _ (by decide +kernel)) ggL_law_X7_add
set_option maxRecDepth 20000 in
theorem ggL_law_L_cut : GoodIn wsL_law wsL_cut := goodIn_ca (goodIn_r _ [302, 108, 303, 304, 305, 2, 306, 24, 268, 269, 270, 271, 119, 120, 249, 307, 308, 309, 310, 267, 311, 312, 313, 23, 314, 60, 58, 626, 627, 628, 629, 630, 631, 632, 665, 666, 667, 668, 669, 670] (by decide +kernel) (by decide +kernel)) (goodIn_sub (fun _ h => List.mem_append_left _ (List.mem_append_left _ (List.mem_append_right _ h))) (by decide +kernel))
set_option maxRecDepth 20000 in
theorem gL_law_L_cut : GoodIn wsL_law (va_wsS RL 116 yL_cut wsL_cut) := goodIn_app (goodIn_of _ (by decide +kernel)) ggL_law_L_cut
set_option maxRecDepth 20000 in
theorem ggL_law_X7_cut : GoodIn wsL_law wsX7_cut := goodIn_r _ [318, 96, 97, 288, 289, 290, 5, 291, 189, 133, 134, 135, 136, 137, 138, 139, 140, 633, 634, 635, 636, 637, 638, 639, 640, 641, 642, 643, 644, 645, 646, 647, 648, 649, 650, 651, 652, 653, 654, 655] (by decide +kernel) (by decide +kernel)
set_option maxRecDepth 20000 in
theorem gL_law_X7_cut : GoodIn wsL_law (wsV RL 118 RX7 yX7_cut wsX7_cut) := goodIn_app (goodIn_of _ (by decide +kernel)) ggL_law_X7_cut
set_option maxRecDepth 20000 in
theorem ggL_law_L_play : GoodIn wsL_law wsL_play := goodIn_ca (goodIn_ca (goodIn_ca (goodIn_r _ [321, 108, 109, 217, 322, 323, 324, 2, 325, 124, 125, 24, 266, 36, 37, 152, 326, 268, 269, 270, 271, 119, 120, 249, 327, 328, 329, 330, 331, 332, 333, 222, 223, 16, 20, 334, 160, 161, 23, 162, 58, 61, 60, 163, 164, 57, 165, 62, 166, 167, 168, 169, 170, 171, 172, 173, 174, 175, 176, 177, 178, 179, 180, 335, 336, 337, 35, 338, 80, 339, 340, 341, 342, 343, 31, 344, 345, 75, 346, 347, 348, 349, 350, 351, 352, 353, 354, 355, 356, 357, 114, 358, 115, 359, 360, 361, 362, 363, 364, 365, 366, 367, 368, 626, 627, 628, 629, 630, 631, 632, 665, 666, 667, 668, 669, 670, 679, 680, 681, 661, 662, 663, 664, 656, 657, 658, 659, 660, 678] (by decide +kernel) (by decide +kernel)) (goodIn_sub (fun _ h => List.mem_append_left _ (List.mem_append_right _ h)) (by decide +kernel))) (goodIn_sub (fun _ h => List.mem_append_left _ (List.mem_append_left _ (List.mem_append_right _ h))) (by decide +kernel))) (goodIn_sub (fun _ h => List.mem_append_right _ h) (by decide +kernel))
set_option maxRecDepth 20000 in
theorem gL_law_L_play : GoodIn wsL_law (va_wsS RL 119 yL_play wsL_play) := goodIn_app (goodIn_of _ (by decide +kernel)) ggL_law_L_play
set_option maxRecDepth 20000 in
theorem ggL_law_X7_play : GoodIn wsL_law wsX7_play := goodIn_r _ [372, 95, 90, 92, 98, 85, 288, 289, 290, 5, 291, 189, 133, 134, 135, 190, 191, 192, 193, 96, 94, 97, 87, 91, 194, 195, 196, 197, 198, 199, 200, 201, 136, 137, 138, 139, 140, 373, 374, 375, 376, 377, 378, 379, 380, 381, 382, 383, 384, 86, 385, 386, 387, 388, 89, 633, 634, 635, 636, 637, 638, 639, 640, 641, 642, 643, 644, 645, 646, 647, 648, 649, 650, 651, 652, 653, 654, 655] (by decide +kernel) (by decide +kernel)
set_option maxRecDepth 20000 in
theorem gL_law_X7_play : GoodIn wsL_law (wsV RL 122 RX7 yX7_play wsX7_play) := goodIn_app (goodIn_of _ (by decide +kernel)) ggL_law_X7_play
set_option maxRecDepth 20000 in
theorem ggL_law_L_offer : GoodIn wsL_law wsL_offer := goodIn_ca (goodIn_ca (goodIn_ca (goodIn_r _ [391, 108, 109, 217, 392, 393, 394, 2, 395, 124, 125, 222, 223, 20, 355, 28, 396, 272, 273, 274, 275, 119, 120, 224, 116, 117, 118, 397, 398, 399, 27, 400, 401, 70, 66, 402, 403, 404, 405, 67, 406, 68, 69, 407, 626, 627, 628, 629, 630, 631, 632, 661, 662, 663, 664, 671, 672, 673, 674, 675, 676, 677] (by decide +kernel) (by decide +kernel)) (goodIn_sub (fun _ h => List.mem_append_left _ (List.mem_append_right _ h)) (by decide +kernel))) (goodIn_sub (fun _ h => List.mem_append_right _ h) (by decide +kernel))) (goodIn_sub (fun _ h => List.mem_append_left _ (List.mem_append_left _ (List.mem_append_right _ h))) (by decide +kernel))
set_option maxRecDepth 20000 in
theorem gL_law_L_offer : GoodIn wsL_law (va_wsS RL 123 yL_offer wsL_offer) := goodIn_app (goodIn_of _ (by decide +kernel)) ggL_law_L_offer
