set_option maxRecDepth 20000 in
theorem ggL_acts_L_low : GoodIn wsL_acts wsL_low := goodIn_r _ [8, 9] (by decide +kernel) (by decide +kernel)
set_option maxRecDepth 20000 in
theorem gL_acts_L_low : GoodIn wsL_acts (va_wsS RL 111 yL_low wsL_low) := goodIn_app (goodIn_of _ (by decide +kernel)) ggL_acts_L_low
set_option maxRecDepth 20000 in
theorem ggL_acts_L_print : GoodIn wsL_acts wsL_print := goodIn_ca (goodIn_ca (goodIn_r _ [12, 13, 14, 1, 2, 15, 16, 17, 18, 19, 20, 21, 22, 23, 24, 25, 26, 27, 28, 29, 30, 31, 32, 33, 34, 35, 36, 37, 38, 39, 40, 41, 42, 342, 343, 344, 345, 346, 347, 348, 349, 350, 351, 352, 353, 354, 355, 356, 357] (by decide +kernel) (by decide +kernel)) (goodIn_sub (fun _ h => List.mem_cons_of_mem _ (List.mem_append_left _ (List.mem_append_left _ (List.mem_append_right _ h)))) (by decide +kernel))) (goodIn_sub (fun _ h => List.mem_cons_of_mem _ (List.mem_append_left _ (List.mem_append_right _ h))) (by decide +kernel))
set_option maxRecDepth 20000 in
theorem gL_acts_L_print : GoodIn wsL_acts (va_wsS RL 138 yL_print wsL_print) := goodIn_app (goodIn_of _ (by decide +kernel)) ggL_acts_L_print
set_option maxRecDepth 20000 in
theorem ggL_acts_L_deck : GoodIn wsL_acts wsL_deck := goodIn_ca (goodIn_ca (goodIn_r _ [45, 13, 14, 1, 2, 46, 47, 48, 18, 49, 20, 21, 50, 51, 31, 32, 33, 29, 30, 52, 53, 54, 55, 56, 57, 58, 342, 343, 344, 345, 346, 347, 348, 358, 359, 360, 361, 362, 363] (by decide +kernel) (by decide +kernel)) (goodIn_sub (fun _ h => List.mem_cons_of_mem _ (List.mem_append_left _ (List.mem_append_left _ (List.mem_append_right _ h)))) (by decide +kernel))) (goodIn_sub (fun _ h => List.mem_cons_of_mem _ (List.mem_append_left _ (List.mem_append_right _ h))) (by decide +kernel))
set_option maxRecDepth 20000 in
theorem gL_acts_L_deck : GoodIn wsL_acts (va_wsS RL 140 yL_deck wsL_deck) := goodIn_app (goodIn_of _ (by decide +kernel)) ggL_acts_L_deck
set_option maxRecDepth 20000 in
theorem ggL_acts_L_add : GoodIn wsL_acts wsL_add := goodIn_ca (goodIn_ca (goodIn_ca (goodIn_r _ [61, 13, 62, 14, 1, 3, 2, 63, 64, 65, 18, 66, 67, 68, 20, 21, 22, 69, 50, 70, 71, 72, 73, 74, 75, 29, 30, 51, 76, 77, 78, 79, 23, 80, 81, 82, 55, 83, 84, 85, 86, 87, 88, 89, 342, 343, 344, 345, 346, 347, 348, 349, 350, 351, 352, 358, 359, 360, 361, 362, 363] (by decide +kernel) (by decide +kernel)) (goodIn_sub (fun _ h => List.mem_cons_of_mem _ (List.mem_append_right _ h)) (by decide +kernel))) (goodIn_sub (fun _ h => List.mem_cons_of_mem _ (List.mem_append_left _ (List.mem_append_left _ (List.mem_append_right _ h)))) (by decide +kernel))) (goodIn_sub (fun _ h => List.mem_cons_of_mem _ (List.mem_append_left _ (List.mem_append_right _ h))) (by decide +kernel))
set_option maxRecDepth 20000 in
theorem gL_acts_L_add : GoodIn wsL_acts (va_wsS RL 142 yL_add wsL_add) := goodIn_app (goodIn_of _ (by decide +kernel)) ggL_acts_L_add
set_option maxRecDepth 20000 in
theorem ggL_acts_L_collectorOf : GoodIn wsL_acts wsL_collectorOf := goodIn_ca (goodIn_r _ [92, 13, 1, 93, 94, 95, 18, 96, 22, 69, 76, 77, 78, 79, 29, 30, 23, 342, 343, 344, 345, 346, 347, 348, 349, 350, 351, 352] (by decide +kernel) (by decide +kernel)) (goodIn_sub (fun _ h => List.mem_cons_of_mem _ (List.mem_append_left _ (List.mem_append_right _ h))) (by decide +kernel))
set_option maxRecDepth 20000 in
theorem gL_acts_L_collectorOf : GoodIn wsL_acts (va_wsS RL 95 yL_collectorOf wsL_collectorOf) := goodIn_app (goodIn_of _ (by decide +kernel)) ggL_acts_L_collectorOf
set_option maxRecDepth 20000 in
theorem ggL_acts_L_shuffled : GoodIn wsL_acts wsL_shuffled := goodIn_ca (goodIn_ca (goodIn_r _ [99, 13, 62, 1, 3, 100, 101, 102, 18, 103, 104, 50, 105, 72, 73, 74, 75, 29, 30, 51, 106, 107, 108, 109, 71, 110, 111, 112, 67, 68, 113, 114, 115, 116, 117, 118, 119, 120, 121, 122, 123, 124, 342, 343, 344, 345, 346, 347, 348, 364, 358, 359, 360, 361, 362, 363] (by decide +kernel) (by decide +kernel)) (goodIn_sub (fun _ h => List.mem_cons_of_mem _ (List.mem_append_left _ (List.mem_append_right _ h))) (by decide +kernel))) (goodIn_sub (fun _ h => List.mem_cons_of_mem _ (List.mem_append_right _ h)) (by decide +kernel))
set_option maxRecDepth 20000 in
theorem gL_acts_L_shuffled : GoodIn wsL_acts (va_wsS RL 108 yL_shuffled wsL_shuffled) := goodIn_app (goodIn_of _ (by decide +kernel)) ggL_acts_L_shuffled
set_option maxRecDepth 20000 in
theorem ggL_acts_L_cut : GoodIn wsL_acts wsL_cut := goodIn_ca (goodIn_r _ [127, 13, 1, 128, 129, 130, 18, 131, 50, 72, 73, 74, 75, 29, 30, 51, 106, 107, 108, 109, 71, 132, 133, 134, 55, 135, 85, 84, 342, 343, 344, 345, 346, 347, 348, 358, 359, 360, 361, 362, 363] (by decide +kernel) (by decide +kernel)) (goodIn_sub (fun _ h => List.mem_cons_of_mem _ (List.mem_append_left _ (List.mem_append_right _ h))) (by decide +kernel))
set_option maxRecDepth 20000 in
theorem gL_acts_L_cut : GoodIn wsL_acts (va_wsS RL 144 yL_cut wsL_cut) := goodIn_app (goodIn_of _ (by decide +kernel)) ggL_acts_L_cut
set_option maxRecDepth 20000 in
theorem ggL_acts_L_setKind : GoodIn wsL_acts wsL_setKind := goodIn_ca (goodIn_ca (goodIn_r _ [138, 13, 62, 1, 3, 139, 140, 141, 18, 142, 24, 143, 144, 26, 27, 28, 29, 30, 145, 146, 147, 67, 68, 342, 343, 344, 345, 346, 347, 348, 353, 354, 355, 356, 357] (by decide +kernel) (by decide +kernel)) (goodIn_sub (fun _ h => List.mem_cons_of_mem _ (List.mem_append_left _ (List.mem_append_right _ h))) (by decide +kernel))) (goodIn_sub (fun _ h => List.mem_cons_of_mem _ (List.mem_append_right _ h)) (by decide +kernel))
set_option maxRecDepth 20000 in
theorem gL_acts_L_setKind : GoodIn wsL_acts (va_wsS RL 146 yL_setKind wsL_setKind) := goodIn_app (goodIn_of _ (by decide +kernel)) ggL_acts_L_setKind
set_option maxRecDepth 20000 in
theorem ggL_acts_L_setFormat : GoodIn wsL_acts wsL_setFormat := goodIn_ca (goodIn_r _ [150, 62, 3, 151, 152, 153, 18, 154, 50, 155, 156, 24, 22, 145, 146, 147, 67, 68, 157, 158, 159, 55, 160, 57, 161, 162, 163, 164, 84, 165, 85, 166, 167, 58, 168, 169, 170, 171, 172, 173, 174, 175, 176, 177, 178, 179, 180, 181, 182, 183, 184, 342, 343, 344, 345, 346, 347, 348, 358, 359, 360, 361, 362, 363, 349, 350, 351, 352, 353, 354, 355, 356, 357] (by decide +kernel) (by decide +kernel)) (goodIn_sub (fun _ h => List.mem_cons_of_mem _ (List.mem_append_right _ h)) (by decide +kernel))
set_option maxRecDepth 20000 in
theorem gL_acts_L_setFormat : GoodIn wsL_acts (va_wsS RL 148 yL_setFormat wsL_setFormat) := goodIn_app (goodIn_of _ (by decide +kernel)) ggL_acts_L_setFormat
set_option maxRecDepth 20000 in
theorem ggL_acts_L_ban : GoodIn wsL_acts wsL_ban := goodIn_ca (goodIn_r _ [187, 13, 1, 188, 189, 190, 18, 191, 24, 192, 50, 22, 26, 27, 28, 29, 30, 157, 158, 159, 55, 160, 57, 161, 162, 163, 164, 84, 165, 85, 166, 167, 58, 168, 169, 170, 171, 172, 173, 174, 175, 176, 177, 178, 179, 180, 181, 182, 183, 184, 342, 343, 344, 345, 346, 347, 348, 353, 354, 355, 356, 357, 358, 359, 360, 361, 362, 363, 349, 350, 351, 352] (by decide +kernel) (by decide +kernel)) (goodIn_sub (fun _ h => List.mem_cons_of_mem _ (List.mem_append_left _ (List.mem_append_right _ h))) (by decide +kernel))
set_option maxRecDepth 20000 in
theorem gL_acts_L_ban : GoodIn wsL_acts (va_wsS RL 150 yL_ban wsL_ban) := goodIn_app (goodIn_of _ (by decide +kernel)) ggL_acts_L_ban
set_option maxRecDepth 20000 in
theorem ggL_acts_L_isAllowed : GoodIn wsL_acts wsL_isAllowed := goodIn_ca (goodIn_r _ [195, 13, 1, 196, 197, 198, 18, 199, 50, 24, 22, 72, 73, 74, 75, 29, 30, 51, 200, 162, 163, 55, 164, 84, 165, 85, 166, 167, 58, 168, 169, 170, 171, 172, 173, 174, 175, 176, 177, 178, 179, 180, 181, 182, 183, 184, 342, 343, 344, 345, 346, 347, 348, 358, 359, 360, 361, 362, 363, 349, 350, 351, 352, 353, 354, 355, 356, 357] (by decide +kernel) (by decide +kernel)) (goodIn_sub (fun _ h => List.mem_cons_of_mem _ (List.mem_append_left _ (List.mem_append_right _ h))) (by decide +kernel))
set_option maxRecDepth 20000 in
theorem gL_acts_L_isAllowed : GoodIn wsL_acts (va_wsS RL 114 yL_isAllowed wsL_isAllowed) := goodIn_app (goodIn_of _ (by decide +kernel)) ggL_acts_L_isAllowed
set_option maxRecDepth 20000 in
theorem ggL_acts_L_printOf : GoodIn wsL_acts wsL_printOf := goodIn_ca (goodIn_r _ [203, 13, 1, 204, 205, 206, 18, 207, 22, 208, 209, 76, 77, 78, 79, 29, 30, 23, 342, 343, 344, 345, 346, 347, 348, 349, 350, 351, 352] (by decide +kernel) (by decide +kernel)) (goodIn_sub (fun _ h => List.mem_cons_of_mem _ (List.mem_append_left _ (List.mem_append_right _ h))) (by decide +kernel))
set_option maxRecDepth 20000 in
theorem gL_acts_L_printOf : GoodIn wsL_acts (va_wsS RL 90 yL_printOf wsL_printOf) := goodIn_app (goodIn_of _ (by decide +kernel)) ggL_acts_L_printOf
set_option maxRecDepth 20000 in
theorem ggL_acts_L_offer : GoodIn wsL_acts wsL_offer := goodIn_ca (goodIn_ca (goodIn_ca (goodIn_r _ [212, 13, 62, 14, 1, 3, 2, 213, 214, 215, 18, 216, 67, 68, 20, 21, 22, 208, 217, 218, 76, 77, 78, 79, 29, 30, 23, 26, 27, 28, 219, 220, 221, 222, 223, 224, 225, 226, 227, 228, 229, 230, 231, 232, 233, 234, 235, 342, 343, 344, 345, 346, 347, 348, 349, 350, 351, 352, 365, 366, 367, 368, 369, 370, 371] (by decide +kernel) (by decide +kernel)) (goodIn_sub (fun _ h => List.mem_cons_of_mem _ (List.mem_append_right _ h)) (by decide +kernel))) (goodIn_sub (fun _ h => List.mem_cons_of_mem _ (List.mem_append_left _ (List.mem_append_left _ (List.mem_append_right _ h)))) (by decide +kernel))) (goodIn_sub (fun _ h => List.mem_cons_of_mem _ (List.mem_append_left _ (List.mem_append_right _ h))) (by decide +kernel))
set_option maxRecDepth 20000 in
theorem gL_acts_L_offer : GoodIn wsL_acts (va_wsS RL 153 yL_offer wsL_offer) := goodIn_app (goodIn_of _ (by decide +kernel)) ggL_acts_L_offer
set_option maxRecDepth 20000 in
theorem ggL_acts_L_takeBack : GoodIn wsL_acts wsL_takeBack := goodIn_ca (goodIn_ca (goodIn_r _ [277, 13, 14, 1, 2, 278, 279, 280, 18, 281, 20, 21, 217, 246, 282, 247, 248, 249, 250, 29, 30, 218, 342, 343, 344, 345, 346, 347, 348, 365, 366, 367, 368, 369, 370, 371] (by decide +kernel) (by decide +kernel)) (goodIn_sub (fun _ h => List.mem_cons_of_mem _ (List.mem_append_left _ (List.mem_append_left _ (List.mem_append_right _ h)))) (by decide +kernel))) (goodIn_sub (fun _ h => List.mem_cons_of_mem _ (List.mem_append_left _ (List.mem_append_right _ h))) (by decide +kernel))
set_option maxRecDepth 20000 in
theorem gL_acts_L_takeBack : GoodIn wsL_acts (va_wsS RL 132 yL_takeBack wsL_takeBack) := goodIn_app (goodIn_of _ (by decide +kernel)) ggL_acts_L_takeBack
theorem dL_acts_0 : decode cL_acts 0 = .ok (.iload 6, 2) := by decide +kernel
theorem dL_acts_2 : decode cL_acts 2 = .ok (.bipush 26, 2) := by decide +kernel
theorem dL_acts_4 : decode cL_acts 4 = .ok (.invokestatic 111, 3) := by decide +kernel
theorem dL_acts_7 : decode cL_acts 7 = .ok (.istore 8, 2) := by decide +kernel
theorem dL_acts_9 : decode cL_acts 9 = .ok (.iload 7, 2) := by decide +kernel
theorem dL_acts_11 : decode cL_acts 11 = .ok (.iconst 5, 1) := by decide +kernel
theorem dL_acts_12 : decode cL_acts 12 = .ok (.invokestatic 111, 3) := by decide +kernel
theorem dL_acts_15 : decode cL_acts 15 = .ok (.istore 9, 2) := by decide +kernel
theorem dL_acts_17 : decode cL_acts 17 = .ok (.iload 7, 2) := by decide +kernel
theorem dL_acts_19 : decode cL_acts 19 = .ok (.iconst 3, 1) := by decide +kernel
theorem dL_acts_20 : decode cL_acts 20 = .ok (.ishr, 1) := by decide +kernel
theorem dL_acts_21 : decode cL_acts 21 = .ok (.iconst 4, 1) := by decide +kernel
theorem dL_acts_22 : decode cL_acts 22 = .ok (.invokestatic 111, 3) := by decide +kernel
theorem dL_acts_25 : decode cL_acts 25 = .ok (.istore 10, 2) := by decide +kernel
theorem dL_acts_27 : decode cL_acts 27 = .ok (.iload 8, 2) := by decide +kernel
theorem dL_acts_29 : decode cL_acts 29 = .ok (.bipush 7, 2) := by decide +kernel
theorem dL_acts_31 : decode cL_acts 31 = .ok (.if_icmp .ge 12, 3) := by decide +kernel
theorem dL_acts_34 : decode cL_acts 34 = .ok (.aload 5, 2) := by decide +kernel
theorem dL_acts_36 : decode cL_acts 36 = .ok (.iconst 0, 1) := by decide +kernel
theorem dL_acts_37 : decode cL_acts 37 = .ok (.iaload, 1) := by decide +kernel
theorem dL_acts_38 : decode cL_acts 38 = .ok (.bipush 60, 2) := by decide +kernel
theorem dL_acts_40 : decode cL_acts 40 = .ok (.if_icmp .lt 11, 3) := by decide +kernel
theorem dL_acts_43 : decode cL_acts 43 = .ok (.aload 5, 2) := by decide +kernel
theorem dL_acts_45 : decode cL_acts 45 = .ok (.iconst 0, 1) := by decide +kernel
theorem dL_acts_46 : decode cL_acts 46 = .ok (.iaload, 1) := by decide +kernel
theorem dL_acts_47 : decode cL_acts 47 = .ok (.iconst 4, 1) := by decide +kernel
theorem dL_acts_48 : decode cL_acts 48 = .ok (.if_icmp .ge 83, 3) := by decide +kernel
theorem dL_acts_51 : decode cL_acts 51 = .ok (.aload_n 2, 1) := by decide +kernel
theorem dL_acts_52 : decode cL_acts 52 = .ok (.iload 9, 2) := by decide +kernel
theorem dL_acts_54 : decode cL_acts 54 = .ok (.dup2, 1) := by decide +kernel
theorem dL_acts_55 : decode cL_acts 55 = .ok (.iaload, 1) := by decide +kernel
theorem dL_acts_56 : decode cL_acts 56 = .ok (.iconst 1, 1) := by decide +kernel
theorem dL_acts_57 : decode cL_acts 57 = .ok (.iadd, 1) := by decide +kernel
theorem dL_acts_58 : decode cL_acts 58 = .ok (.iastore, 1) := by decide +kernel
theorem dL_acts_59 : decode cL_acts 59 = .ok (.aload 5, 2) := by decide +kernel
theorem dL_acts_61 : decode cL_acts 61 = .ok (.iconst 0, 1) := by decide +kernel
theorem dL_acts_62 : decode cL_acts 62 = .ok (.dup2, 1) := by decide +kernel
theorem dL_acts_63 : decode cL_acts 63 = .ok (.iaload, 1) := by decide +kernel
theorem dL_acts_64 : decode cL_acts 64 = .ok (.iconst 1, 1) := by decide +kernel
theorem dL_acts_65 : decode cL_acts 65 = .ok (.iadd, 1) := by decide +kernel
theorem dL_acts_66 : decode cL_acts 66 = .ok (.iastore, 1) := by decide +kernel
theorem dL_acts_67 : decode cL_acts 67 = .ok (.aload_n 0, 1) := by decide +kernel
theorem dL_acts_68 : decode cL_acts 68 = .ok (.iload 9, 2) := by decide +kernel
theorem dL_acts_70 : decode cL_acts 70 = .ok (.iload 10, 2) := by decide +kernel
theorem dL_acts_72 : decode cL_acts 72 = .ok (.invokestatic 138, 3) := by decide +kernel
theorem dL_acts_75 : decode cL_acts 75 = .ok (.aload 5, 2) := by decide +kernel
theorem dL_acts_77 : decode cL_acts 77 = .ok (.iconst 0, 1) := by decide +kernel
theorem dL_acts_78 : decode cL_acts 78 = .ok (.iaload, 1) := by decide +kernel
theorem dL_acts_79 : decode cL_acts 79 = .ok (.iconst 1, 1) := by decide +kernel
theorem dL_acts_80 : decode cL_acts 80 = .ok (.isub, 1) := by decide +kernel
theorem dL_acts_81 : decode cL_acts 81 = .ok (.if_icmp .ne 48, 3) := by decide +kernel
theorem dL_acts_84 : decode cL_acts 84 = .ok (.aload_n 1, 1) := by decide +kernel
theorem dL_acts_85 : decode cL_acts 85 = .ok (.iload 9, 2) := by decide +kernel
theorem dL_acts_87 : decode cL_acts 87 = .ok (.iload 10, 2) := by decide +kernel
theorem dL_acts_89 : decode cL_acts 89 = .ok (.invokestatic 138, 3) := by decide +kernel
theorem dL_acts_92 : decode cL_acts 92 = .ok (.aload 5, 2) := by decide +kernel
theorem dL_acts_94 : decode cL_acts 94 = .ok (.iconst 0, 1) := by decide +kernel
theorem dL_acts_95 : decode cL_acts 95 = .ok (.iaload, 1) := by decide +kernel
theorem dL_acts_96 : decode cL_acts 96 = .ok (.iconst 1, 1) := by decide +kernel
theorem dL_acts_97 : decode cL_acts 97 = .ok (.isub, 1) := by decide +kernel
theorem dL_acts_98 : decode cL_acts 98 = .ok (.if_icmp .ne 31, 3) := by decide +kernel
theorem dL_acts_101 : decode cL_acts 101 = .ok (.aload_n 0, 1) := by decide +kernel
theorem dL_acts_102 : decode cL_acts 102 = .ok (.bipush 16, 2) := by decide +kernel
theorem dL_acts_104 : decode cL_acts 104 = .ok (.iconst 0, 1) := by decide +kernel
theorem dL_acts_105 : decode cL_acts 105 = .ok (.invokestatic 138, 3) := by decide +kernel
theorem dL_acts_108 : decode cL_acts 108 = .ok (.ldc 18, 2) := by decide +kernel
theorem dL_acts_110 : decode cL_acts 110 = .ok (.if_icmp .ne 19, 3) := by decide +kernel
theorem dL_acts_113 : decode cL_acts 113 = .ok (.aload_n 0, 1) := by decide +kernel
theorem dL_acts_114 : decode cL_acts 114 = .ok (.iconst 0, 1) := by decide +kernel
theorem dL_acts_115 : decode cL_acts 115 = .ok (.bipush 6, 2) := by decide +kernel
theorem dL_acts_117 : decode cL_acts 117 = .ok (.invokestatic 138, 3) := by decide +kernel
theorem dL_acts_120 : decode cL_acts 120 = .ok (.ldc 18, 2) := by decide +kernel
theorem dL_acts_122 : decode cL_acts 122 = .ok (.if_icmp .ne 7, 3) := by decide +kernel
theorem dL_acts_125 : decode cL_acts 125 = .ok (.iconst 1, 1) := by decide +kernel
theorem dL_acts_126 : decode cL_acts 126 = .ok (.goto 4, 3) := by decide +kernel
theorem dL_acts_129 : decode cL_acts 129 = .ok (.iconst 0, 1) := by decide +kernel
theorem dL_acts_130 : decode cL_acts 130 = .ok (.ireturn, 1) := by decide +kernel
theorem dL_acts_131 : decode cL_acts 131 = .ok (.aload 5, 2) := by decide +kernel
theorem dL_acts_133 : decode cL_acts 133 = .ok (.iconst 1, 1) := by decide +kernel
theorem dL_acts_134 : decode cL_acts 134 = .ok (.iaload, 1) := by decide +kernel
theorem dL_acts_135 : decode cL_acts 135 = .ok (.iconst 2, 1) := by decide +kernel
theorem dL_acts_136 : decode cL_acts 136 = .ok (.if_icmp .lt 10, 3) := by decide +kernel
theorem dL_acts_139 : decode cL_acts 139 = .ok (.iload 8, 2) := by decide +kernel
theorem dL_acts_141 : decode cL_acts 141 = .ok (.bipush 7, 2) := by decide +kernel
theorem dL_acts_143 : decode cL_acts 143 = .ok (.if_icmp .ne 83, 3) := by decide +kernel
theorem dL_acts_146 : decode cL_acts 146 = .ok (.aload 5, 2) := by decide +kernel
theorem dL_acts_148 : decode cL_acts 148 = .ok (.iconst 1, 1) := by decide +kernel
theorem dL_acts_149 : decode cL_acts 149 = .ok (.iaload, 1) := by decide +kernel
theorem dL_acts_150 : decode cL_acts 150 = .ok (.bipush 12, 2) := by decide +kernel
theorem dL_acts_152 : decode cL_acts 152 = .ok (.if_icmp .ge 10, 3) := by decide +kernel
theorem dL_acts_155 : decode cL_acts 155 = .ok (.aload 5, 2) := by decide +kernel
theorem dL_acts_157 : decode cL_acts 157 = .ok (.iconst 1, 1) := by decide +kernel
theorem dL_acts_158 : decode cL_acts 158 = .ok (.iaload, 1) := by decide +kernel
theorem dL_acts_159 : decode cL_acts 159 = .ok (.goto 5, 3) := by decide +kernel
theorem dL_acts_162 : decode cL_acts 162 = .ok (.ldc 35, 2) := by decide +kernel
theorem dL_acts_164 : decode cL_acts 164 = .ok (.istore 11, 2) := by decide +kernel
theorem dL_acts_166 : decode cL_acts 166 = .ok (.iload 11, 2) := by decide +kernel
theorem dL_acts_168 : decode cL_acts 168 = .ok (.ifCond .lt 19, 3) := by decide +kernel
theorem dL_acts_171 : decode cL_acts 171 = .ok (.aload_n 3, 1) := by decide +kernel
theorem dL_acts_172 : decode cL_acts 172 = .ok (.iconst 2, 1) := by decide +kernel
theorem dL_acts_173 : decode cL_acts 173 = .ok (.iload 11, 2) := by decide +kernel
theorem dL_acts_175 : decode cL_acts 175 = .ok (.imul, 1) := by decide +kernel
theorem dL_acts_176 : decode cL_acts 176 = .ok (.iload 10, 2) := by decide +kernel
theorem dL_acts_178 : decode cL_acts 178 = .ok (.iastore, 1) := by decide +kernel
theorem dL_acts_179 : decode cL_acts 179 = .ok (.aload 5, 2) := by decide +kernel
theorem dL_acts_181 : decode cL_acts 181 = .ok (.iconst 1, 1) := by decide +kernel
theorem dL_acts_182 : decode cL_acts 182 = .ok (.dup2, 1) := by decide +kernel
theorem dL_acts_183 : decode cL_acts 183 = .ok (.iaload, 1) := by decide +kernel
theorem dL_acts_184 : decode cL_acts 184 = .ok (.iconst 1, 1) := by decide +kernel
theorem dL_acts_185 : decode cL_acts 185 = .ok (.iadd, 1) := by decide +kernel
theorem dL_acts_186 : decode cL_acts 186 = .ok (.iastore, 1) := by decide +kernel
theorem dL_acts_187 : decode cL_acts 187 = .ok (.aload_n 0, 1) := by decide +kernel
theorem dL_acts_188 : decode cL_acts 188 = .ok (.iload 10, 2) := by decide +kernel
theorem dL_acts_190 : decode cL_acts 190 = .ok (.invokestatic 140, 3) := by decide +kernel
theorem dL_acts_193 : decode cL_acts 193 = .ok (.iload 11, 2) := by decide +kernel
theorem dL_acts_195 : decode cL_acts 195 = .ok (.if_icmp .ne 29, 3) := by decide +kernel
theorem dL_acts_198 : decode cL_acts 198 = .ok (.aload_n 1, 1) := by decide +kernel
theorem dL_acts_199 : decode cL_acts 199 = .ok (.iload 10, 2) := by decide +kernel
theorem dL_acts_201 : decode cL_acts 201 = .ok (.invokestatic 140, 3) := by decide +kernel
theorem dL_acts_204 : decode cL_acts 204 = .ok (.iload 11, 2) := by decide +kernel
theorem dL_acts_206 : decode cL_acts 206 = .ok (.if_icmp .ne 18, 3) := by decide +kernel
theorem dL_acts_209 : decode cL_acts 209 = .ok (.aload_n 0, 1) := by decide +kernel
theorem dL_acts_210 : decode cL_acts 210 = .ok (.bipush 6, 2) := by decide +kernel
theorem dL_acts_212 : decode cL_acts 212 = .ok (.invokestatic 140, 3) := by decide +kernel
theorem dL_acts_215 : decode cL_acts 215 = .ok (.ldc 18, 2) := by decide +kernel
theorem dL_acts_217 : decode cL_acts 217 = .ok (.if_icmp .ne 7, 3) := by decide +kernel
theorem dL_acts_220 : decode cL_acts 220 = .ok (.iconst 1, 1) := by decide +kernel
theorem dL_acts_221 : decode cL_acts 221 = .ok (.goto 4, 3) := by decide +kernel
theorem dL_acts_224 : decode cL_acts 224 = .ok (.iconst 0, 1) := by decide +kernel
theorem dL_acts_225 : decode cL_acts 225 = .ok (.ireturn, 1) := by decide +kernel
theorem dL_acts_226 : decode cL_acts 226 = .ok (.iload 6, 2) := by decide +kernel
theorem dL_acts_228 : decode cL_acts 228 = .ok (.iconst 5, 1) := by decide +kernel
theorem dL_acts_229 : decode cL_acts 229 = .ok (.ishr, 1) := by decide +kernel
theorem dL_acts_230 : decode cL_acts 230 = .ok (.aload 5, 2) := by decide +kernel
theorem dL_acts_232 : decode cL_acts 232 = .ok (.iconst 1, 1) := by decide +kernel
theorem dL_acts_233 : decode cL_acts 233 = .ok (.iaload, 1) := by decide +kernel
theorem dL_acts_234 : decode cL_acts 234 = .ok (.invokestatic 111, 3) := by decide +kernel
theorem dL_acts_237 : decode cL_acts 237 = .ok (.istore 11, 2) := by decide +kernel
theorem dL_acts_239 : decode cL_acts 239 = .ok (.iload 7, 2) := by decide +kernel
theorem dL_acts_241 : decode cL_acts 241 = .ok (.bipush 6, 2) := by decide +kernel
theorem dL_acts_243 : decode cL_acts 243 = .ok (.ishr, 1) := by decide +kernel
theorem dL_acts_244 : decode cL_acts 244 = .ok (.aload 5, 2) := by decide +kernel
theorem dL_acts_246 : decode cL_acts 246 = .ok (.iconst 0, 1) := by decide +kernel
theorem dL_acts_247 : decode cL_acts 247 = .ok (.iaload, 1) := by decide +kernel
theorem dL_acts_248 : decode cL_acts 248 = .ok (.invokestatic 111, 3) := by decide +kernel
theorem dL_acts_251 : decode cL_acts 251 = .ok (.istore 12, 2) := by decide +kernel
theorem dL_acts_253 : decode cL_acts 253 = .ok (.iload 8, 2) := by decide +kernel
theorem dL_acts_255 : decode cL_acts 255 = .ok (.bipush 14, 2) := by decide +kernel
theorem dL_acts_257 : decode cL_acts 257 = .ok (.if_icmp .ge 201, 3) := by decide +kernel
theorem dL_acts_260 : decode cL_acts 260 = .ok (.aload_n 3, 1) := by decide +kernel
theorem dL_acts_261 : decode cL_acts 261 = .ok (.iconst 2, 1) := by decide +kernel
theorem dL_acts_262 : decode cL_acts 262 = .ok (.iload 11, 2) := by decide +kernel
theorem dL_acts_264 : decode cL_acts 264 = .ok (.imul, 1) := by decide +kernel
theorem dL_acts_265 : decode cL_acts 265 = .ok (.iconst 1, 1) := by decide +kernel
theorem dL_acts_266 : decode cL_acts 266 = .ok (.iadd, 1) := by decide +kernel
theorem dL_acts_267 : decode cL_acts 267 = .ok (.iaload, 1) := by decide +kernel
theorem dL_acts_268 : decode cL_acts 268 = .ok (.istore 13, 2) := by decide +kernel
theorem dL_acts_270 : decode cL_acts 270 = .ok (.aload_n 0, 1) := by decide +kernel
theorem dL_acts_271 : decode cL_acts 271 = .ok (.iload 11, 2) := by decide +kernel
theorem dL_acts_273 : decode cL_acts 273 = .ok (.iload 12, 2) := by decide +kernel
theorem dL_acts_275 : decode cL_acts 275 = .ok (.invokestatic 142, 3) := by decide +kernel
theorem dL_acts_278 : decode cL_acts 278 = .ok (.istore 14, 2) := by decide +kernel
theorem dL_acts_280 : decode cL_acts 280 = .ok (.aload_n 0, 1) := by decide +kernel
theorem dL_acts_281 : decode cL_acts 281 = .ok (.iload 12, 2) := by decide +kernel
theorem dL_acts_283 : decode cL_acts 283 = .ok (.invokestatic 95, 3) := by decide +kernel
theorem dL_acts_286 : decode cL_acts 286 = .ok (.aload_n 3, 1) := by decide +kernel
theorem dL_acts_287 : decode cL_acts 287 = .ok (.iconst 2, 1) := by decide +kernel
theorem dL_acts_288 : decode cL_acts 288 = .ok (.iload 11, 2) := by decide +kernel
theorem dL_acts_290 : decode cL_acts 290 = .ok (.imul, 1) := by decide +kernel
theorem dL_acts_291 : decode cL_acts 291 = .ok (.iaload, 1) := by decide +kernel
theorem dL_acts_292 : decode cL_acts 292 = .ok (.if_icmp .ne 7, 3) := by decide +kernel
theorem dL_acts_295 : decode cL_acts 295 = .ok (.iconst 1, 1) := by decide +kernel
theorem dL_acts_296 : decode cL_acts 296 = .ok (.goto 4, 3) := by decide +kernel
theorem dL_acts_299 : decode cL_acts 299 = .ok (.iconst 0, 1) := by decide +kernel
theorem dL_acts_300 : decode cL_acts 300 = .ok (.istore 15, 2) := by decide +kernel
theorem dL_acts_302 : decode cL_acts 302 = .ok (.aload_n 1, 1) := by decide +kernel
theorem dL_acts_303 : decode cL_acts 303 = .ok (.iload 11, 2) := by decide +kernel
theorem dL_acts_305 : decode cL_acts 305 = .ok (.iload 12, 2) := by decide +kernel
theorem dL_acts_307 : decode cL_acts 307 = .ok (.invokestatic 142, 3) := by decide +kernel
theorem dL_acts_310 : decode cL_acts 310 = .ok (.iload 14, 2) := by decide +kernel
theorem dL_acts_312 : decode cL_acts 312 = .ok (.if_icmp .ne 52, 3) := by decide +kernel
theorem dL_acts_315 : decode cL_acts 315 = .ok (.iload 15, 2) := by decide +kernel
theorem dL_acts_317 : decode cL_acts 317 = .ok (.ifCond .ne 13, 3) := by decide +kernel
theorem dL_acts_320 : decode cL_acts 320 = .ok (.iload 14, 2) := by decide +kernel
theorem dL_acts_322 : decode cL_acts 322 = .ok (.ldc 21, 2) := by decide +kernel
theorem dL_acts_324 : decode cL_acts 324 = .ok (.if_icmp .ne 40, 3) := by decide +kernel
theorem dL_acts_327 : decode cL_acts 327 = .ok (.goto 33, 3) := by decide +kernel
theorem dL_acts_330 : decode cL_acts 330 = .ok (.iload 14, 2) := by decide +kernel
theorem dL_acts_332 : decode cL_acts 332 = .ok (.iload 13, 2) := by decide +kernel
theorem dL_acts_334 : decode cL_acts 334 = .ok (.iconst 1, 1) := by decide +kernel
theorem dL_acts_335 : decode cL_acts 335 = .ok (.iadd, 1) := by decide +kernel
theorem dL_acts_336 : decode cL_acts 336 = .ok (.if_icmp .eq 24, 3) := by decide +kernel
theorem dL_acts_339 : decode cL_acts 339 = .ok (.iload 14, 2) := by decide +kernel
theorem dL_acts_341 : decode cL_acts 341 = .ok (.ldc 21, 2) := by decide +kernel
theorem dL_acts_343 : decode cL_acts 343 = .ok (.if_icmp .eq 17, 3) := by decide +kernel
theorem dL_acts_346 : decode cL_acts 346 = .ok (.iload 14, 2) := by decide +kernel
theorem dL_acts_348 : decode cL_acts 348 = .ok (.ldc 35, 2) := by decide +kernel
theorem dL_acts_350 : decode cL_acts 350 = .ok (.if_icmp .ne 14, 3) := by decide +kernel
theorem dL_acts_353 : decode cL_acts 353 = .ok (.iload 13, 2) := by decide +kernel
theorem dL_acts_355 : decode cL_acts 355 = .ok (.bipush 10, 2) := by decide +kernel
theorem dL_acts_357 : decode cL_acts 357 = .ok (.if_icmp .ne 7, 3) := by decide +kernel
theorem dL_acts_360 : decode cL_acts 360 = .ok (.iconst 1, 1) := by decide +kernel
theorem dL_acts_361 : decode cL_acts 361 = .ok (.goto 4, 3) := by decide +kernel
theorem dL_acts_364 : decode cL_acts 364 = .ok (.iconst 0, 1) := by decide +kernel
theorem dL_acts_365 : decode cL_acts 365 = .ok (.istore 16, 2) := by decide +kernel
theorem dL_acts_367 : decode cL_acts 367 = .ok (.aload_n 3, 1) := by decide +kernel
theorem dL_acts_368 : decode cL_acts 368 = .ok (.iconst 2, 1) := by decide +kernel
theorem dL_acts_369 : decode cL_acts 369 = .ok (.iload 11, 2) := by decide +kernel
theorem dL_acts_371 : decode cL_acts 371 = .ok (.imul, 1) := by decide +kernel
theorem dL_acts_372 : decode cL_acts 372 = .ok (.iconst 1, 1) := by decide +kernel
theorem dL_acts_373 : decode cL_acts 373 = .ok (.iadd, 1) := by decide +kernel
theorem dL_acts_374 : decode cL_acts 374 = .ok (.dup2, 1) := by decide +kernel
theorem dL_acts_375 : decode cL_acts 375 = .ok (.iaload, 1) := by decide +kernel
theorem dL_acts_376 : decode cL_acts 376 = .ok (.iload 14, 2) := by decide +kernel
theorem dL_acts_378 : decode cL_acts 378 = .ok (.ifCond .le 7, 3) := by decide +kernel
theorem dL_acts_381 : decode cL_acts 381 = .ok (.iconst 1, 1) := by decide +kernel
theorem dL_acts_382 : decode cL_acts 382 = .ok (.goto 4, 3) := by decide +kernel
theorem dL_acts_385 : decode cL_acts 385 = .ok (.iconst 0, 1) := by decide +kernel
theorem dL_acts_386 : decode cL_acts 386 = .ok (.iadd, 1) := by decide +kernel
theorem dL_acts_387 : decode cL_acts 387 = .ok (.iastore, 1) := by decide +kernel
theorem dL_acts_388 : decode cL_acts 388 = .ok (.iload 16, 2) := by decide +kernel
theorem dL_acts_390 : decode cL_acts 390 = .ok (.ifCond .eq 66, 3) := by decide +kernel
theorem dL_acts_393 : decode cL_acts 393 = .ok (.iload 14, 2) := by decide +kernel
theorem dL_acts_395 : decode cL_acts 395 = .ok (.ifCond .lt 28, 3) := by decide +kernel
theorem dL_acts_398 : decode cL_acts 398 = .ok (.aload_n 0, 1) := by decide +kernel
theorem dL_acts_399 : decode cL_acts 399 = .ok (.iload 11, 2) := by decide +kernel
theorem dL_acts_401 : decode cL_acts 401 = .ok (.iconst 0, 1) := by decide +kernel
theorem dL_acts_402 : decode cL_acts 402 = .ok (.iload 13, 2) := by decide +kernel
theorem dL_acts_404 : decode cL_acts 404 = .ok (.invokestatic 108, 3) := by decide +kernel
theorem dL_acts_407 : decode cL_acts 407 = .ok (.ifCond .lt 49, 3) := by decide +kernel
theorem dL_acts_410 : decode cL_acts 410 = .ok (.aload_n 0, 1) := by decide +kernel
theorem dL_acts_411 : decode cL_acts 411 = .ok (.iload 11, 2) := by decide +kernel
theorem dL_acts_413 : decode cL_acts 413 = .ok (.iload 12, 2) := by decide +kernel
theorem dL_acts_415 : decode cL_acts 415 = .ok (.invokestatic 142, 3) := by decide +kernel
theorem dL_acts_418 : decode cL_acts 418 = .ok (.ldc 21, 2) := by decide +kernel
theorem dL_acts_420 : decode cL_acts 420 = .ok (.if_icmp .ne 36, 3) := by decide +kernel
theorem dL_acts_423 : decode cL_acts 423 = .ok (.aload_n 0, 1) := by decide +kernel
theorem dL_acts_424 : decode cL_acts 424 = .ok (.iload 11, 2) := by decide +kernel
theorem dL_acts_426 : decode cL_acts 426 = .ok (.aload 5, 2) := by decide +kernel
theorem dL_acts_428 : decode cL_acts 428 = .ok (.iconst 0, 1) := by decide +kernel
theorem dL_acts_429 : decode cL_acts 429 = .ok (.iaload, 1) := by decide +kernel
theorem dL_acts_430 : decode cL_acts 430 = .ok (.invokestatic 142, 3) := by decide +kernel
theorem dL_acts_433 : decode cL_acts 433 = .ok (.ldc 18, 2) := by decide +kernel
theorem dL_acts_435 : decode cL_acts 435 = .ok (.if_icmp .ne 21, 3) := by decide +kernel
theorem dL_acts_438 : decode cL_acts 438 = .ok (.aload_n 0, 1) := by decide +kernel
theorem dL_acts_439 : decode cL_acts 439 = .ok (.aload 5, 2) := by decide +kernel
theorem dL_acts_441 : decode cL_acts 441 = .ok (.iconst 1, 1) := by decide +kernel
theorem dL_acts_442 : decode cL_acts 442 = .ok (.iaload, 1) := by decide +kernel
theorem dL_acts_443 : decode cL_acts 443 = .ok (.iconst 0, 1) := by decide +kernel
theorem dL_acts_444 : decode cL_acts 444 = .ok (.invokestatic 142, 3) := by decide +kernel
theorem dL_acts_447 : decode cL_acts 447 = .ok (.ldc 18, 2) := by decide +kernel
theorem dL_acts_449 : decode cL_acts 449 = .ok (.if_icmp .ne 7, 3) := by decide +kernel
theorem dL_acts_452 : decode cL_acts 452 = .ok (.iconst 1, 1) := by decide +kernel
theorem dL_acts_453 : decode cL_acts 453 = .ok (.goto 4, 3) := by decide +kernel
theorem dL_acts_456 : decode cL_acts 456 = .ok (.iconst 0, 1) := by decide +kernel
theorem dL_acts_457 : decode cL_acts 457 = .ok (.ireturn, 1) := by decide +kernel
theorem dL_acts_458 : decode cL_acts 458 = .ok (.iload 8, 2) := by decide +kernel
theorem dL_acts_460 : decode cL_acts 460 = .ok (.bipush 14, 2) := by decide +kernel
theorem dL_acts_462 : decode cL_acts 462 = .ok (.if_icmp .ne 124, 3) := by decide +kernel
theorem dL_acts_465 : decode cL_acts 465 = .ok (.aload_n 3, 1) := by decide +kernel
theorem dL_acts_466 : decode cL_acts 466 = .ok (.iconst 2, 1) := by decide +kernel
theorem dL_acts_467 : decode cL_acts 467 = .ok (.iload 11, 2) := by decide +kernel
theorem dL_acts_469 : decode cL_acts 469 = .ok (.imul, 1) := by decide +kernel
theorem dL_acts_470 : decode cL_acts 470 = .ok (.iconst 1, 1) := by decide +kernel
theorem dL_acts_471 : decode cL_acts 471 = .ok (.iadd, 1) := by decide +kernel
theorem dL_acts_472 : decode cL_acts 472 = .ok (.iaload, 1) := by decide +kernel
theorem dL_acts_473 : decode cL_acts 473 = .ok (.istore 13, 2) := by decide +kernel
theorem dL_acts_475 : decode cL_acts 475 = .ok (.iload 7, 2) := by decide +kernel
theorem dL_acts_477 : decode cL_acts 477 = .ok (.bipush 6, 2) := by decide +kernel
theorem dL_acts_479 : decode cL_acts 479 = .ok (.ishr, 1) := by decide +kernel
theorem dL_acts_480 : decode cL_acts 480 = .ok (.iload 13, 2) := by decide +kernel
theorem dL_acts_482 : decode cL_acts 482 = .ok (.iconst 1, 1) := by decide +kernel
theorem dL_acts_483 : decode cL_acts 483 = .ok (.iadd, 1) := by decide +kernel
theorem dL_acts_484 : decode cL_acts 484 = .ok (.invokestatic 111, 3) := by decide +kernel
theorem dL_acts_487 : decode cL_acts 487 = .ok (.istore 14, 2) := by decide +kernel
theorem dL_acts_489 : decode cL_acts 489 = .ok (.aload_n 0, 1) := by decide +kernel
theorem dL_acts_490 : decode cL_acts 490 = .ok (.iload 11, 2) := by decide +kernel
theorem dL_acts_492 : decode cL_acts 492 = .ok (.iload 14, 2) := by decide +kernel
theorem dL_acts_494 : decode cL_acts 494 = .ok (.invokestatic 144, 3) := by decide +kernel
theorem dL_acts_497 : decode cL_acts 497 = .ok (.istore 15, 2) := by decide +kernel
theorem dL_acts_499 : decode cL_acts 499 = .ok (.aload_n 3, 1) := by decide +kernel
theorem dL_acts_500 : decode cL_acts 500 = .ok (.iconst 2, 1) := by decide +kernel
theorem dL_acts_501 : decode cL_acts 501 = .ok (.iload 11, 2) := by decide +kernel
theorem dL_acts_503 : decode cL_acts 503 = .ok (.imul, 1) := by decide +kernel
theorem dL_acts_504 : decode cL_acts 504 = .ok (.iconst 1, 1) := by decide +kernel
theorem dL_acts_505 : decode cL_acts 505 = .ok (.iadd, 1) := by decide +kernel
theorem dL_acts_506 : decode cL_acts 506 = .ok (.dup2, 1) := by decide +kernel
theorem dL_acts_507 : decode cL_acts 507 = .ok (.iaload, 1) := by decide +kernel
theorem dL_acts_508 : decode cL_acts 508 = .ok (.iload 14, 2) := by decide +kernel
theorem dL_acts_510 : decode cL_acts 510 = .ok (.iload 13, 2) := by decide +kernel
theorem dL_acts_512 : decode cL_acts 512 = .ok (.if_icmp .ge 7, 3) := by decide +kernel
theorem dL_acts_515 : decode cL_acts 515 = .ok (.iconst 1, 1) := by decide +kernel
theorem dL_acts_516 : decode cL_acts 516 = .ok (.goto 4, 3) := by decide +kernel
theorem dL_acts_519 : decode cL_acts 519 = .ok (.iconst 0, 1) := by decide +kernel
theorem dL_acts_520 : decode cL_acts 520 = .ok (.isub, 1) := by decide +kernel
theorem dL_acts_521 : decode cL_acts 521 = .ok (.iastore, 1) := by decide +kernel
theorem dL_acts_522 : decode cL_acts 522 = .ok (.aload_n 1, 1) := by decide +kernel
theorem dL_acts_523 : decode cL_acts 523 = .ok (.iload 11, 2) := by decide +kernel
theorem dL_acts_525 : decode cL_acts 525 = .ok (.iload 14, 2) := by decide +kernel
theorem dL_acts_527 : decode cL_acts 527 = .ok (.invokestatic 144, 3) := by decide +kernel
theorem dL_acts_530 : decode cL_acts 530 = .ok (.iload 15, 2) := by decide +kernel
theorem dL_acts_532 : decode cL_acts 532 = .ok (.if_icmp .ne 52, 3) := by decide +kernel
theorem dL_acts_535 : decode cL_acts 535 = .ok (.iload 14, 2) := by decide +kernel
theorem dL_acts_537 : decode cL_acts 537 = .ok (.iload 13, 2) := by decide +kernel
theorem dL_acts_539 : decode cL_acts 539 = .ok (.if_icmp .ne 13, 3) := by decide +kernel
theorem dL_acts_542 : decode cL_acts 542 = .ok (.iload 15, 2) := by decide +kernel
theorem dL_acts_544 : decode cL_acts 544 = .ok (.ldc 18, 2) := by decide +kernel
theorem dL_acts_546 : decode cL_acts 546 = .ok (.if_icmp .ne 38, 3) := by decide +kernel
theorem dL_acts_549 : decode cL_acts 549 = .ok (.goto 17, 3) := by decide +kernel
theorem dL_acts_552 : decode cL_acts 552 = .ok (.iload 15, 2) := by decide +kernel
theorem dL_acts_554 : decode cL_acts 554 = .ok (.ifCond .lt 30, 3) := by decide +kernel
theorem dL_acts_557 : decode cL_acts 557 = .ok (.iload 15, 2) := by decide +kernel
theorem dL_acts_559 : decode cL_acts 559 = .ok (.aload 5, 2) := by decide +kernel
theorem dL_acts_561 : decode cL_acts 561 = .ok (.iconst 0, 1) := by decide +kernel
theorem dL_acts_562 : decode cL_acts 562 = .ok (.iaload, 1) := by decide +kernel
theorem dL_acts_563 : decode cL_acts 563 = .ok (.if_icmp .ge 21, 3) := by decide +kernel
theorem dL_acts_566 : decode cL_acts 566 = .ok (.aload_n 0, 1) := by decide +kernel
theorem dL_acts_567 : decode cL_acts 567 = .ok (.aload 5, 2) := by decide +kernel
theorem dL_acts_569 : decode cL_acts 569 = .ok (.iconst 1, 1) := by decide +kernel
theorem dL_acts_570 : decode cL_acts 570 = .ok (.iaload, 1) := by decide +kernel
theorem dL_acts_571 : decode cL_acts 571 = .ok (.iconst 0, 1) := by decide +kernel
theorem dL_acts_572 : decode cL_acts 572 = .ok (.invokestatic 144, 3) := by decide +kernel
theorem dL_acts_575 : decode cL_acts 575 = .ok (.ldc 18, 2) := by decide +kernel
theorem dL_acts_577 : decode cL_acts 577 = .ok (.if_icmp .ne 7, 3) := by decide +kernel
theorem dL_acts_580 : decode cL_acts 580 = .ok (.iconst 1, 1) := by decide +kernel
theorem dL_acts_581 : decode cL_acts 581 = .ok (.goto 4, 3) := by decide +kernel
theorem dL_acts_584 : decode cL_acts 584 = .ok (.iconst 0, 1) := by decide +kernel
theorem dL_acts_585 : decode cL_acts 585 = .ok (.ireturn, 1) := by decide +kernel
theorem dL_acts_586 : decode cL_acts 586 = .ok (.iload 8, 2) := by decide +kernel
theorem dL_acts_588 : decode cL_acts 588 = .ok (.bipush 15, 2) := by decide +kernel
theorem dL_acts_590 : decode cL_acts 590 = .ok (.if_icmp .ne 113, 3) := by decide +kernel
theorem dL_acts_593 : decode cL_acts 593 = .ok (.iload 7, 2) := by decide +kernel
theorem dL_acts_595 : decode cL_acts 595 = .ok (.bipush 6, 2) := by decide +kernel
theorem dL_acts_597 : decode cL_acts 597 = .ok (.ishr, 1) := by decide +kernel
theorem dL_acts_598 : decode cL_acts 598 = .ok (.bipush 10, 2) := by decide +kernel
theorem dL_acts_600 : decode cL_acts 600 = .ok (.invokestatic 111, 3) := by decide +kernel
theorem dL_acts_603 : decode cL_acts 603 = .ok (.istore 13, 2) := by decide +kernel
theorem dL_acts_605 : decode cL_acts 605 = .ok (.iload 7, 2) := by decide +kernel
theorem dL_acts_607 : decode cL_acts 607 = .ok (.bipush 10, 2) := by decide +kernel
theorem dL_acts_609 : decode cL_acts 609 = .ok (.ishr, 1) := by decide +kernel
theorem dL_acts_610 : decode cL_acts 610 = .ok (.iconst 4, 1) := by decide +kernel
theorem dL_acts_611 : decode cL_acts 611 = .ok (.invokestatic 111, 3) := by decide +kernel
theorem dL_acts_614 : decode cL_acts 614 = .ok (.istore 14, 2) := by decide +kernel
theorem dL_acts_616 : decode cL_acts 616 = .ok (.aload_n 0, 1) := by decide +kernel
theorem dL_acts_617 : decode cL_acts 617 = .ok (.iload 9, 2) := by decide +kernel
theorem dL_acts_619 : decode cL_acts 619 = .ok (.iload 13, 2) := by decide +kernel
theorem dL_acts_621 : decode cL_acts 621 = .ok (.iload 14, 2) := by decide +kernel
theorem dL_acts_623 : decode cL_acts 623 = .ok (.invokestatic 146, 3) := by decide +kernel
theorem dL_acts_626 : decode cL_acts 626 = .ok (.istore 15, 2) := by decide +kernel
theorem dL_acts_628 : decode cL_acts 628 = .ok (.aload_n 1, 1) := by decide +kernel
theorem dL_acts_629 : decode cL_acts 629 = .ok (.iload 9, 2) := by decide +kernel
theorem dL_acts_631 : decode cL_acts 631 = .ok (.iload 13, 2) := by decide +kernel
theorem dL_acts_633 : decode cL_acts 633 = .ok (.iload 14, 2) := by decide +kernel
theorem dL_acts_635 : decode cL_acts 635 = .ok (.invokestatic 146, 3) := by decide +kernel
theorem dL_acts_638 : decode cL_acts 638 = .ok (.iload 15, 2) := by decide +kernel
theorem dL_acts_640 : decode cL_acts 640 = .ok (.if_icmp .ne 61, 3) := by decide +kernel
theorem dL_acts_643 : decode cL_acts 643 = .ok (.aload_n 0, 1) := by decide +kernel
theorem dL_acts_644 : decode cL_acts 644 = .ok (.iload 9, 2) := by decide +kernel
theorem dL_acts_646 : decode cL_acts 646 = .ok (.iload 13, 2) := by decide +kernel
theorem dL_acts_648 : decode cL_acts 648 = .ok (.iload 14, 2) := by decide +kernel
theorem dL_acts_650 : decode cL_acts 650 = .ok (.invokestatic 146, 3) := by decide +kernel
theorem dL_acts_653 : decode cL_acts 653 = .ok (.iload 13, 2) := by decide +kernel
theorem dL_acts_655 : decode cL_acts 655 = .ok (.if_icmp .ne 46, 3) := by decide +kernel
theorem dL_acts_658 : decode cL_acts 658 = .ok (.aload_n 0, 1) := by decide +kernel
theorem dL_acts_659 : decode cL_acts 659 = .ok (.bipush 16, 2) := by decide +kernel
theorem dL_acts_661 : decode cL_acts 661 = .ok (.bipush 10, 2) := by decide +kernel
theorem dL_acts_663 : decode cL_acts 663 = .ok (.iconst 0, 1) := by decide +kernel
theorem dL_acts_664 : decode cL_acts 664 = .ok (.invokestatic 146, 3) := by decide +kernel
theorem dL_acts_667 : decode cL_acts 667 = .ok (.ldc 18, 2) := by decide +kernel
theorem dL_acts_669 : decode cL_acts 669 = .ok (.if_icmp .ne 32, 3) := by decide +kernel
theorem dL_acts_672 : decode cL_acts 672 = .ok (.aload_n 0, 1) := by decide +kernel
theorem dL_acts_673 : decode cL_acts 673 = .ok (.iconst 0, 1) := by decide +kernel
theorem dL_acts_674 : decode cL_acts 674 = .ok (.bipush 10, 2) := by decide +kernel
theorem dL_acts_676 : decode cL_acts 676 = .ok (.iconst 0, 1) := by decide +kernel
theorem dL_acts_677 : decode cL_acts 677 = .ok (.invokestatic 146, 3) := by decide +kernel
theorem dL_acts_680 : decode cL_acts 680 = .ok (.ldc 21, 2) := by decide +kernel
theorem dL_acts_682 : decode cL_acts 682 = .ok (.if_icmp .ne 19, 3) := by decide +kernel
theorem dL_acts_685 : decode cL_acts 685 = .ok (.aload_n 0, 1) := by decide +kernel
theorem dL_acts_686 : decode cL_acts 686 = .ok (.iconst 0, 1) := by decide +kernel
theorem dL_acts_687 : decode cL_acts 687 = .ok (.iconst 0, 1) := by decide +kernel
theorem dL_acts_688 : decode cL_acts 688 = .ok (.iconst 4, 1) := by decide +kernel
theorem dL_acts_689 : decode cL_acts 689 = .ok (.invokestatic 146, 3) := by decide +kernel
theorem dL_acts_692 : decode cL_acts 692 = .ok (.ldc 21, 2) := by decide +kernel
theorem dL_acts_694 : decode cL_acts 694 = .ok (.if_icmp .ne 7, 3) := by decide +kernel
theorem dL_acts_697 : decode cL_acts 697 = .ok (.iconst 1, 1) := by decide +kernel
theorem dL_acts_698 : decode cL_acts 698 = .ok (.goto 4, 3) := by decide +kernel
theorem dL_acts_701 : decode cL_acts 701 = .ok (.iconst 0, 1) := by decide +kernel
theorem dL_acts_702 : decode cL_acts 702 = .ok (.ireturn, 1) := by decide +kernel
theorem dL_acts_703 : decode cL_acts 703 = .ok (.iload 8, 2) := by decide +kernel
theorem dL_acts_705 : decode cL_acts 705 = .ok (.bipush 18, 2) := by decide +kernel
theorem dL_acts_707 : decode cL_acts 707 = .ok (.if_icmp .ge 270, 3) := by decide +kernel
theorem dL_acts_710 : decode cL_acts 710 = .ok (.iload 8, 2) := by decide +kernel
theorem dL_acts_712 : decode cL_acts 712 = .ok (.bipush 16, 2) := by decide +kernel
theorem dL_acts_714 : decode cL_acts 714 = .ok (.if_icmp .ne 7, 3) := by decide +kernel
theorem dL_acts_717 : decode cL_acts 717 = .ok (.iconst 1, 1) := by decide +kernel
theorem dL_acts_718 : decode cL_acts 718 = .ok (.goto 4, 3) := by decide +kernel
theorem dL_acts_721 : decode cL_acts 721 = .ok (.iconst 0, 1) := by decide +kernel
theorem dL_acts_722 : decode cL_acts 722 = .ok (.istore 13, 2) := by decide +kernel
theorem dL_acts_724 : decode cL_acts 724 = .ok (.iconst 0, 1) := by decide +kernel
theorem dL_acts_725 : decode cL_acts 725 = .ok (.istore 14, 2) := by decide +kernel
theorem dL_acts_727 : decode cL_acts 727 = .ok (.iload 13, 2) := by decide +kernel
theorem dL_acts_729 : decode cL_acts 729 = .ok (.ifCond .eq 63, 3) := by decide +kernel
theorem dL_acts_732 : decode cL_acts 732 = .ok (.aload 5, 2) := by decide +kernel
theorem dL_acts_734 : decode cL_acts 734 = .ok (.iconst 3, 1) := by decide +kernel
theorem dL_acts_735 : decode cL_acts 735 = .ok (.iload 7, 2) := by decide +kernel
theorem dL_acts_737 : decode cL_acts 737 = .ok (.iconst 3, 1) := by decide +kernel
theorem dL_acts_738 : decode cL_acts 738 = .ok (.invokestatic 111, 3) := by decide +kernel
theorem dL_acts_741 : decode cL_acts 741 = .ok (.ifCond .le 7, 3) := by decide +kernel
theorem dL_acts_744 : decode cL_acts 744 = .ok (.iconst 4, 1) := by decide +kernel
theorem dL_acts_745 : decode cL_acts 745 = .ok (.goto 14, 3) := by decide +kernel
theorem dL_acts_748 : decode cL_acts 748 = .ok (.iconst 4, 1) := by decide +kernel
theorem dL_acts_749 : decode cL_acts 749 = .ok (.iload 7, 2) := by decide +kernel
theorem dL_acts_751 : decode cL_acts 751 = .ok (.iconst 3, 1) := by decide +kernel
theorem dL_acts_752 : decode cL_acts 752 = .ok (.ishr, 1) := by decide +kernel
theorem dL_acts_753 : decode cL_acts 753 = .ok (.bipush 7, 2) := by decide +kernel
theorem dL_acts_755 : decode cL_acts 755 = .ok (.invokestatic 111, 3) := by decide +kernel
theorem dL_acts_758 : decode cL_acts 758 = .ok (.iadd, 1) := by decide +kernel
theorem dL_acts_759 : decode cL_acts 759 = .ok (.iastore, 1) := by decide +kernel
theorem dL_acts_760 : decode cL_acts 760 = .ok (.aload 5, 2) := by decide +kernel
theorem dL_acts_762 : decode cL_acts 762 = .ok (.iconst 4, 1) := by decide +kernel
theorem dL_acts_763 : decode cL_acts 763 = .ok (.iconst 1, 1) := by decide +kernel
theorem dL_acts_764 : decode cL_acts 764 = .ok (.iload 7, 2) := by decide +kernel
theorem dL_acts_766 : decode cL_acts 766 = .ok (.bipush 7, 2) := by decide +kernel
theorem dL_acts_768 : decode cL_acts 768 = .ok (.ishr, 1) := by decide +kernel
theorem dL_acts_769 : decode cL_acts 769 = .ok (.iconst 4, 1) := by decide +kernel
theorem dL_acts_770 : decode cL_acts 770 = .ok (.invokestatic 111, 3) := by decide +kernel
theorem dL_acts_773 : decode cL_acts 773 = .ok (.iadd, 1) := by decide +kernel
theorem dL_acts_774 : decode cL_acts 774 = .ok (.iastore, 1) := by decide +kernel
theorem dL_acts_775 : decode cL_acts 775 = .ok (.aload_n 0, 1) := by decide +kernel
theorem dL_acts_776 : decode cL_acts 776 = .ok (.aload 5, 2) := by decide +kernel
theorem dL_acts_778 : decode cL_acts 778 = .ok (.iconst 3, 1) := by decide +kernel
theorem dL_acts_779 : decode cL_acts 779 = .ok (.iaload, 1) := by decide +kernel
theorem dL_acts_780 : decode cL_acts 780 = .ok (.aload 5, 2) := by decide +kernel
theorem dL_acts_782 : decode cL_acts 782 = .ok (.iconst 4, 1) := by decide +kernel
theorem dL_acts_783 : decode cL_acts 783 = .ok (.iaload, 1) := by decide +kernel
theorem dL_acts_784 : decode cL_acts 784 = .ok (.invokestatic 148, 3) := by decide +kernel
theorem dL_acts_787 : decode cL_acts 787 = .ok (.istore 14, 2) := by decide +kernel
theorem dL_acts_789 : decode cL_acts 789 = .ok (.goto 50, 3) := by decide +kernel
theorem dL_acts_792 : decode cL_acts 792 = .ok (.aload_n 2, 1) := by decide +kernel
theorem dL_acts_793 : decode cL_acts 793 = .ok (.bipush 16, 2) := by decide +kernel
theorem dL_acts_795 : decode cL_acts 795 = .ok (.iload 9, 2) := by decide +kernel
theorem dL_acts_797 : decode cL_acts 797 = .ok (.iadd, 1) := by decide +kernel
theorem dL_acts_798 : decode cL_acts 798 = .ok (.iload 7, 2) := by decide +kernel
theorem dL_acts_800 : decode cL_acts 800 = .ok (.iconst 5, 1) := by decide +kernel
theorem dL_acts_801 : decode cL_acts 801 = .ok (.ishr, 1) := by decide +kernel
theorem dL_acts_802 : decode cL_acts 802 = .ok (.iconst 3, 1) := by decide +kernel
theorem dL_acts_803 : decode cL_acts 803 = .ok (.invokestatic 111, 3) := by decide +kernel
theorem dL_acts_806 : decode cL_acts 806 = .ok (.ifCond .ne 7, 3) := by decide +kernel
theorem dL_acts_809 : decode cL_acts 809 = .ok (.iconst 1, 1) := by decide +kernel
theorem dL_acts_810 : decode cL_acts 810 = .ok (.goto 4, 3) := by decide +kernel
theorem dL_acts_813 : decode cL_acts 813 = .ok (.iconst 0, 1) := by decide +kernel
theorem dL_acts_814 : decode cL_acts 814 = .ok (.iastore, 1) := by decide +kernel
theorem dL_acts_815 : decode cL_acts 815 = .ok (.aload_n 0, 1) := by decide +kernel
theorem dL_acts_816 : decode cL_acts 816 = .ok (.iload 9, 2) := by decide +kernel
theorem dL_acts_818 : decode cL_acts 818 = .ok (.aload_n 2, 1) := by decide +kernel
theorem dL_acts_819 : decode cL_acts 819 = .ok (.bipush 16, 2) := by decide +kernel
theorem dL_acts_821 : decode cL_acts 821 = .ok (.iload 9, 2) := by decide +kernel
theorem dL_acts_823 : decode cL_acts 823 = .ok (.iadd, 1) := by decide +kernel
theorem dL_acts_824 : decode cL_acts 824 = .ok (.iaload, 1) := by decide +kernel
theorem dL_acts_825 : decode cL_acts 825 = .ok (.iconst 1, 1) := by decide +kernel
theorem dL_acts_826 : decode cL_acts 826 = .ok (.if_icmp .ne 7, 3) := by decide +kernel
theorem dL_acts_829 : decode cL_acts 829 = .ok (.iconst 1, 1) := by decide +kernel
theorem dL_acts_830 : decode cL_acts 830 = .ok (.goto 4, 3) := by decide +kernel
theorem dL_acts_833 : decode cL_acts 833 = .ok (.iconst 0, 1) := by decide +kernel
theorem dL_acts_834 : decode cL_acts 834 = .ok (.invokestatic 150, 3) := by decide +kernel
theorem dL_acts_837 : decode cL_acts 837 = .ok (.istore 14, 2) := by decide +kernel
theorem dL_acts_839 : decode cL_acts 839 = .ok (.iconst 0, 1) := by decide +kernel
theorem dL_acts_840 : decode cL_acts 840 = .ok (.istore 15, 2) := by decide +kernel
theorem dL_acts_842 : decode cL_acts 842 = .ok (.iconst 0, 1) := by decide +kernel
theorem dL_acts_843 : decode cL_acts 843 = .ok (.istore 16, 2) := by decide +kernel
theorem dL_acts_845 : decode cL_acts 845 = .ok (.iload 16, 2) := by decide +kernel
theorem dL_acts_847 : decode cL_acts 847 = .ok (.aload 5, 2) := by decide +kernel
theorem dL_acts_849 : decode cL_acts 849 = .ok (.iconst 1, 1) := by decide +kernel
theorem dL_acts_850 : decode cL_acts 850 = .ok (.iaload, 1) := by decide +kernel
theorem dL_acts_851 : decode cL_acts 851 = .ok (.if_icmp .ge 20, 3) := by decide +kernel
theorem dL_acts_854 : decode cL_acts 854 = .ok (.iload 15, 2) := by decide +kernel
theorem dL_acts_856 : decode cL_acts 856 = .ok (.aload_n 0, 1) := by decide +kernel
theorem dL_acts_857 : decode cL_acts 857 = .ok (.iload 16, 2) := by decide +kernel
theorem dL_acts_859 : decode cL_acts 859 = .ok (.invokestatic 114, 3) := by decide +kernel
theorem dL_acts_862 : decode cL_acts 862 = .ok (.iadd, 1) := by decide +kernel
theorem dL_acts_863 : decode cL_acts 863 = .ok (.istore 15, 2) := by decide +kernel
theorem dL_acts_865 : decode cL_acts 865 = .ok (.iinc 16 1, 3) := by decide +kernel
theorem dL_acts_868 : decode cL_acts 868 = .ok (.goto (-23), 3) := by decide +kernel
theorem dL_acts_871 : decode cL_acts 871 = .ok (.iload 14, 2) := by decide +kernel
theorem dL_acts_873 : decode cL_acts 873 = .ok (.iload 15, 2) := by decide +kernel
theorem dL_acts_875 : decode cL_acts 875 = .ok (.if_icmp .ne 100, 3) := by decide +kernel
theorem dL_acts_878 : decode cL_acts 878 = .ok (.iload 13, 2) := by decide +kernel
theorem dL_acts_880 : decode cL_acts 880 = .ok (.ifCond .eq 18, 3) := by decide +kernel
theorem dL_acts_883 : decode cL_acts 883 = .ok (.aload_n 1, 1) := by decide +kernel
theorem dL_acts_884 : decode cL_acts 884 = .ok (.aload 5, 2) := by decide +kernel
theorem dL_acts_886 : decode cL_acts 886 = .ok (.iconst 3, 1) := by decide +kernel
theorem dL_acts_887 : decode cL_acts 887 = .ok (.iaload, 1) := by decide +kernel
theorem dL_acts_888 : decode cL_acts 888 = .ok (.aload 5, 2) := by decide +kernel
theorem dL_acts_890 : decode cL_acts 890 = .ok (.iconst 4, 1) := by decide +kernel
theorem dL_acts_891 : decode cL_acts 891 = .ok (.iaload, 1) := by decide +kernel
theorem dL_acts_892 : decode cL_acts 892 = .ok (.invokestatic 148, 3) := by decide +kernel
theorem dL_acts_895 : decode cL_acts 895 = .ok (.goto 25, 3) := by decide +kernel
theorem dL_acts_898 : decode cL_acts 898 = .ok (.aload_n 1, 1) := by decide +kernel
theorem dL_acts_899 : decode cL_acts 899 = .ok (.iload 9, 2) := by decide +kernel
theorem dL_acts_901 : decode cL_acts 901 = .ok (.aload_n 2, 1) := by decide +kernel
theorem dL_acts_902 : decode cL_acts 902 = .ok (.bipush 16, 2) := by decide +kernel
theorem dL_acts_904 : decode cL_acts 904 = .ok (.iload 9, 2) := by decide +kernel
theorem dL_acts_906 : decode cL_acts 906 = .ok (.iadd, 1) := by decide +kernel
theorem dL_acts_907 : decode cL_acts 907 = .ok (.iaload, 1) := by decide +kernel
theorem dL_acts_908 : decode cL_acts 908 = .ok (.iconst 1, 1) := by decide +kernel
theorem dL_acts_909 : decode cL_acts 909 = .ok (.if_icmp .ne 7, 3) := by decide +kernel
theorem dL_acts_912 : decode cL_acts 912 = .ok (.iconst 1, 1) := by decide +kernel
theorem dL_acts_913 : decode cL_acts 913 = .ok (.goto 4, 3) := by decide +kernel
theorem dL_acts_916 : decode cL_acts 916 = .ok (.iconst 0, 1) := by decide +kernel
theorem dL_acts_917 : decode cL_acts 917 = .ok (.invokestatic 150, 3) := by decide +kernel
theorem dL_acts_920 : decode cL_acts 920 = .ok (.iload 14, 2) := by decide +kernel
theorem dL_acts_922 : decode cL_acts 922 = .ok (.if_icmp .ne 53, 3) := by decide +kernel
theorem dL_acts_925 : decode cL_acts 925 = .ok (.aload_n 0, 1) := by decide +kernel
theorem dL_acts_926 : decode cL_acts 926 = .ok (.iconst 3, 1) := by decide +kernel
theorem dL_acts_927 : decode cL_acts 927 = .ok (.iconst 1, 1) := by decide +kernel
theorem dL_acts_928 : decode cL_acts 928 = .ok (.invokestatic 148, 3) := by decide +kernel
theorem dL_acts_931 : decode cL_acts 931 = .ok (.ldc 21, 2) := by decide +kernel
theorem dL_acts_933 : decode cL_acts 933 = .ok (.if_icmp .ne 42, 3) := by decide +kernel
theorem dL_acts_936 : decode cL_acts 936 = .ok (.aload_n 0, 1) := by decide +kernel
theorem dL_acts_937 : decode cL_acts 937 = .ok (.bipush 11, 2) := by decide +kernel
theorem dL_acts_939 : decode cL_acts 939 = .ok (.iconst 1, 1) := by decide +kernel
theorem dL_acts_940 : decode cL_acts 940 = .ok (.invokestatic 148, 3) := by decide +kernel
theorem dL_acts_943 : decode cL_acts 943 = .ok (.ldc 21, 2) := by decide +kernel
theorem dL_acts_945 : decode cL_acts 945 = .ok (.if_icmp .ne 30, 3) := by decide +kernel
theorem dL_acts_948 : decode cL_acts 948 = .ok (.aload_n 0, 1) := by decide +kernel
theorem dL_acts_949 : decode cL_acts 949 = .ok (.iconst 4, 1) := by decide +kernel
theorem dL_acts_950 : decode cL_acts 950 = .ok (.iconst 5, 1) := by decide +kernel
theorem dL_acts_951 : decode cL_acts 951 = .ok (.invokestatic 148, 3) := by decide +kernel
theorem dL_acts_954 : decode cL_acts 954 = .ok (.ldc 21, 2) := by decide +kernel
theorem dL_acts_956 : decode cL_acts 956 = .ok (.if_icmp .ne 19, 3) := by decide +kernel
theorem dL_acts_959 : decode cL_acts 959 = .ok (.aload_n 0, 1) := by decide +kernel
theorem dL_acts_960 : decode cL_acts 960 = .ok (.bipush 16, 2) := by decide +kernel
theorem dL_acts_962 : decode cL_acts 962 = .ok (.iconst 1, 1) := by decide +kernel
theorem dL_acts_963 : decode cL_acts 963 = .ok (.invokestatic 150, 3) := by decide +kernel
theorem dL_acts_966 : decode cL_acts 966 = .ok (.ldc 18, 2) := by decide +kernel
theorem dL_acts_968 : decode cL_acts 968 = .ok (.if_icmp .ne 7, 3) := by decide +kernel
theorem dL_acts_971 : decode cL_acts 971 = .ok (.iconst 1, 1) := by decide +kernel
theorem dL_acts_972 : decode cL_acts 972 = .ok (.goto 4, 3) := by decide +kernel
theorem dL_acts_975 : decode cL_acts 975 = .ok (.iconst 0, 1) := by decide +kernel
theorem dL_acts_976 : decode cL_acts 976 = .ok (.ireturn, 1) := by decide +kernel
theorem dL_acts_977 : decode cL_acts 977 = .ok (.iload 8, 2) := by decide +kernel
theorem dL_acts_979 : decode cL_acts 979 = .ok (.bipush 21, 2) := by decide +kernel
theorem dL_acts_981 : decode cL_acts 981 = .ok (.if_icmp .ge 220, 3) := by decide +kernel
theorem dL_acts_984 : decode cL_acts 984 = .ok (.iconst 0, 1) := by decide +kernel
theorem dL_acts_985 : decode cL_acts 985 = .ok (.istore 13, 2) := by decide +kernel
theorem dL_acts_987 : decode cL_acts 987 = .ok (.iconst 0, 1) := by decide +kernel
theorem dL_acts_988 : decode cL_acts 988 = .ok (.istore 14, 2) := by decide +kernel
theorem dL_acts_990 : decode cL_acts 990 = .ok (.iload 14, 2) := by decide +kernel
theorem dL_acts_992 : decode cL_acts 992 = .ok (.aload 5, 2) := by decide +kernel
theorem dL_acts_994 : decode cL_acts 994 = .ok (.iconst 2, 1) := by decide +kernel
theorem dL_acts_995 : decode cL_acts 995 = .ok (.iaload, 1) := by decide +kernel
theorem dL_acts_996 : decode cL_acts 996 = .ok (.if_icmp .ge 46, 3) := by decide +kernel
theorem dL_acts_999 : decode cL_acts 999 = .ok (.iload 13, 2) := by decide +kernel
theorem dL_acts_1001 : decode cL_acts 1001 = .ok (.ifCond .ne 28, 3) := by decide +kernel
theorem dL_acts_1004 : decode cL_acts 1004 = .ok (.aload 4, 2) := by decide +kernel
theorem dL_acts_1006 : decode cL_acts 1006 = .ok (.iload 14, 2) := by decide +kernel
theorem dL_acts_1008 : decode cL_acts 1008 = .ok (.iaload, 1) := by decide +kernel
theorem dL_acts_1009 : decode cL_acts 1009 = .ok (.sipush 128, 3) := by decide +kernel
theorem dL_acts_1012 : decode cL_acts 1012 = .ok (.irem, 1) := by decide +kernel
theorem dL_acts_1013 : decode cL_acts 1013 = .ok (.iload 12, 2) := by decide +kernel
theorem dL_acts_1015 : decode cL_acts 1015 = .ok (.if_icmp .ne 18, 3) := by decide +kernel
theorem dL_acts_1018 : decode cL_acts 1018 = .ok (.aload 4, 2) := by decide +kernel
theorem dL_acts_1020 : decode cL_acts 1020 = .ok (.iload 14, 2) := by decide +kernel
theorem dL_acts_1022 : decode cL_acts 1022 = .ok (.iaload, 1) := by decide +kernel
theorem dL_acts_1023 : decode cL_acts 1023 = .ok (.ldc 120, 2) := by decide +kernel
theorem dL_acts_1025 : decode cL_acts 1025 = .ok (.idiv, 1) := by decide +kernel
theorem dL_acts_1026 : decode cL_acts 1026 = .ok (.ifCond .ne 7, 3) := by decide +kernel
theorem dL_acts_1029 : decode cL_acts 1029 = .ok (.iconst 1, 1) := by decide +kernel
theorem dL_acts_1030 : decode cL_acts 1030 = .ok (.goto 4, 3) := by decide +kernel
theorem dL_acts_1033 : decode cL_acts 1033 = .ok (.iconst 0, 1) := by decide +kernel
theorem dL_acts_1034 : decode cL_acts 1034 = .ok (.istore 13, 2) := by decide +kernel
theorem dL_acts_1036 : decode cL_acts 1036 = .ok (.iinc 14 1, 3) := by decide +kernel
theorem dL_acts_1039 : decode cL_acts 1039 = .ok (.goto (-49), 3) := by decide +kernel
theorem dL_acts_1042 : decode cL_acts 1042 = .ok (.aload_n 0, 1) := by decide +kernel
theorem dL_acts_1043 : decode cL_acts 1043 = .ok (.iload 12, 2) := by decide +kernel
theorem dL_acts_1045 : decode cL_acts 1045 = .ok (.invokestatic 90, 3) := by decide +kernel
theorem dL_acts_1048 : decode cL_acts 1048 = .ok (.bipush 100, 2) := by decide +kernel
theorem dL_acts_1050 : decode cL_acts 1050 = .ok (.idiv, 1) := by decide +kernel
theorem dL_acts_1051 : decode cL_acts 1051 = .ok (.istore 14, 2) := by decide +kernel
theorem dL_acts_1053 : decode cL_acts 1053 = .ok (.iload 14, 2) := by decide +kernel
theorem dL_acts_1055 : decode cL_acts 1055 = .ok (.iload 9, 2) := by decide +kernel
theorem dL_acts_1057 : decode cL_acts 1057 = .ok (.if_icmp .ne 8, 3) := by decide +kernel
theorem dL_acts_1060 : decode cL_acts 1060 = .ok (.ldc 21, 2) := by decide +kernel
theorem dL_acts_1062 : decode cL_acts 1062 = .ok (.goto 26, 3) := by decide +kernel
theorem dL_acts_1065 : decode cL_acts 1065 = .ok (.iload 13, 2) := by decide +kernel
theorem dL_acts_1067 : decode cL_acts 1067 = .ok (.ifCond .ne 12, 3) := by decide +kernel
theorem dL_acts_1070 : decode cL_acts 1070 = .ok (.aload 5, 2) := by decide +kernel
theorem dL_acts_1072 : decode cL_acts 1072 = .ok (.iconst 2, 1) := by decide +kernel
theorem dL_acts_1073 : decode cL_acts 1073 = .ok (.iaload, 1) := by decide +kernel
theorem dL_acts_1074 : decode cL_acts 1074 = .ok (.bipush 40, 2) := by decide +kernel
theorem dL_acts_1076 : decode cL_acts 1076 = .ok (.if_icmp .ne 8, 3) := by decide +kernel
theorem dL_acts_1079 : decode cL_acts 1079 = .ok (.ldc 35, 2) := by decide +kernel
theorem dL_acts_1081 : decode cL_acts 1081 = .ok (.goto 7, 3) := by decide +kernel
theorem dL_acts_1084 : decode cL_acts 1084 = .ok (.aload 5, 2) := by decide +kernel
theorem dL_acts_1086 : decode cL_acts 1086 = .ok (.iconst 2, 1) := by decide +kernel
theorem dL_acts_1087 : decode cL_acts 1087 = .ok (.iaload, 1) := by decide +kernel
theorem dL_acts_1088 : decode cL_acts 1088 = .ok (.istore 15, 2) := by decide +kernel
theorem dL_acts_1090 : decode cL_acts 1090 = .ok (.iload 15, 2) := by decide +kernel
theorem dL_acts_1092 : decode cL_acts 1092 = .ok (.ifCond .lt 36, 3) := by decide +kernel
theorem dL_acts_1095 : decode cL_acts 1095 = .ok (.aload 4, 2) := by decide +kernel
theorem dL_acts_1097 : decode cL_acts 1097 = .ok (.iload 15, 2) := by decide +kernel
theorem dL_acts_1099 : decode cL_acts 1099 = .ok (.iload 12, 2) := by decide +kernel
theorem dL_acts_1101 : decode cL_acts 1101 = .ok (.sipush 128, 3) := by decide +kernel
theorem dL_acts_1104 : decode cL_acts 1104 = .ok (.iload 9, 2) := by decide +kernel
theorem dL_acts_1106 : decode cL_acts 1106 = .ok (.imul, 1) := by decide +kernel
theorem dL_acts_1107 : decode cL_acts 1107 = .ok (.iadd, 1) := by decide +kernel
theorem dL_acts_1108 : decode cL_acts 1108 = .ok (.sipush 4096, 3) := by decide +kernel
theorem dL_acts_1111 : decode cL_acts 1111 = .ok (.aload_n 0, 1) := by decide +kernel
theorem dL_acts_1112 : decode cL_acts 1112 = .ok (.iload 12, 2) := by decide +kernel
theorem dL_acts_1114 : decode cL_acts 1114 = .ok (.invokestatic 95, 3) := by decide +kernel
theorem dL_acts_1117 : decode cL_acts 1117 = .ok (.imul, 1) := by decide +kernel
theorem dL_acts_1118 : decode cL_acts 1118 = .ok (.iadd, 1) := by decide +kernel
theorem dL_acts_1119 : decode cL_acts 1119 = .ok (.iastore, 1) := by decide +kernel
theorem dL_acts_1120 : decode cL_acts 1120 = .ok (.aload 5, 2) := by decide +kernel
theorem dL_acts_1122 : decode cL_acts 1122 = .ok (.iconst 2, 1) := by decide +kernel
theorem dL_acts_1123 : decode cL_acts 1123 = .ok (.dup2, 1) := by decide +kernel
theorem dL_acts_1124 : decode cL_acts 1124 = .ok (.iaload, 1) := by decide +kernel
theorem dL_acts_1125 : decode cL_acts 1125 = .ok (.iconst 1, 1) := by decide +kernel
theorem dL_acts_1126 : decode cL_acts 1126 = .ok (.iadd, 1) := by decide +kernel
theorem dL_acts_1127 : decode cL_acts 1127 = .ok (.iastore, 1) := by decide +kernel
theorem dL_acts_1128 : decode cL_acts 1128 = .ok (.aload_n 0, 1) := by decide +kernel
theorem dL_acts_1129 : decode cL_acts 1129 = .ok (.iload 12, 2) := by decide +kernel
theorem dL_acts_1131 : decode cL_acts 1131 = .ok (.iload 9, 2) := by decide +kernel
theorem dL_acts_1133 : decode cL_acts 1133 = .ok (.invokestatic 153, 3) := by decide +kernel
theorem dL_acts_1136 : decode cL_acts 1136 = .ok (.iload 15, 2) := by decide +kernel
theorem dL_acts_1138 : decode cL_acts 1138 = .ok (.if_icmp .ne 61, 3) := by decide +kernel
theorem dL_acts_1141 : decode cL_acts 1141 = .ok (.aload_n 1, 1) := by decide +kernel
theorem dL_acts_1142 : decode cL_acts 1142 = .ok (.iload 12, 2) := by decide +kernel
theorem dL_acts_1144 : decode cL_acts 1144 = .ok (.iload 9, 2) := by decide +kernel
theorem dL_acts_1146 : decode cL_acts 1146 = .ok (.invokestatic 153, 3) := by decide +kernel
theorem dL_acts_1149 : decode cL_acts 1149 = .ok (.iload 15, 2) := by decide +kernel
theorem dL_acts_1151 : decode cL_acts 1151 = .ok (.if_icmp .ne 48, 3) := by decide +kernel
theorem dL_acts_1154 : decode cL_acts 1154 = .ok (.aload_n 0, 1) := by decide +kernel
theorem dL_acts_1155 : decode cL_acts 1155 = .ok (.aload 5, 2) := by decide +kernel
theorem dL_acts_1157 : decode cL_acts 1157 = .ok (.iconst 0, 1) := by decide +kernel
theorem dL_acts_1158 : decode cL_acts 1158 = .ok (.iaload, 1) := by decide +kernel
theorem dL_acts_1159 : decode cL_acts 1159 = .ok (.bipush 16, 2) := by decide +kernel
theorem dL_acts_1161 : decode cL_acts 1161 = .ok (.invokestatic 153, 3) := by decide +kernel
theorem dL_acts_1164 : decode cL_acts 1164 = .ok (.ldc 18, 2) := by decide +kernel
theorem dL_acts_1166 : decode cL_acts 1166 = .ok (.if_icmp .ne 33, 3) := by decide +kernel
theorem dL_acts_1169 : decode cL_acts 1169 = .ok (.aload_n 0, 1) := by decide +kernel
theorem dL_acts_1170 : decode cL_acts 1170 = .ok (.iload 12, 2) := by decide +kernel
theorem dL_acts_1172 : decode cL_acts 1172 = .ok (.bipush 16, 2) := by decide +kernel
theorem dL_acts_1174 : decode cL_acts 1174 = .ok (.invokestatic 153, 3) := by decide +kernel
theorem dL_acts_1177 : decode cL_acts 1177 = .ok (.ldc 18, 2) := by decide +kernel
theorem dL_acts_1179 : decode cL_acts 1179 = .ok (.if_icmp .ne 20, 3) := by decide +kernel
theorem dL_acts_1182 : decode cL_acts 1182 = .ok (.aload_n 0, 1) := by decide +kernel
theorem dL_acts_1183 : decode cL_acts 1183 = .ok (.iload 12, 2) := by decide +kernel
theorem dL_acts_1185 : decode cL_acts 1185 = .ok (.iload 14, 2) := by decide +kernel
theorem dL_acts_1187 : decode cL_acts 1187 = .ok (.invokestatic 153, 3) := by decide +kernel
theorem dL_acts_1190 : decode cL_acts 1190 = .ok (.ldc 21, 2) := by decide +kernel
theorem dL_acts_1192 : decode cL_acts 1192 = .ok (.if_icmp .ne 7, 3) := by decide +kernel
theorem dL_acts_1195 : decode cL_acts 1195 = .ok (.iconst 1, 1) := by decide +kernel
theorem dL_acts_1196 : decode cL_acts 1196 = .ok (.goto 4, 3) := by decide +kernel
theorem dL_acts_1199 : decode cL_acts 1199 = .ok (.iconst 0, 1) := by decide +kernel
theorem dL_acts_1200 : decode cL_acts 1200 = .ok (.ireturn, 1) := by decide +kernel
theorem dL_acts_1201 : decode cL_acts 1201 = .ok (.iload 8, 2) := by decide +kernel
theorem dL_acts_1203 : decode cL_acts 1203 = .ok (.bipush 21, 2) := by decide +kernel
theorem dL_acts_1205 : decode cL_acts 1205 = .ok (.if_icmp .ne 129, 3) := by decide +kernel
theorem dL_acts_1208 : decode cL_acts 1208 = .ok (.iload 7, 2) := by decide +kernel
theorem dL_acts_1210 : decode cL_acts 1210 = .ok (.aload 5, 2) := by decide +kernel
theorem dL_acts_1212 : decode cL_acts 1212 = .ok (.iconst 2, 1) := by decide +kernel
theorem dL_acts_1213 : decode cL_acts 1213 = .ok (.iaload, 1) := by decide +kernel
theorem dL_acts_1214 : decode cL_acts 1214 = .ok (.iconst 1, 1) := by decide +kernel
theorem dL_acts_1215 : decode cL_acts 1215 = .ok (.iadd, 1) := by decide +kernel
theorem dL_acts_1216 : decode cL_acts 1216 = .ok (.invokestatic 111, 3) := by decide +kernel
theorem dL_acts_1219 : decode cL_acts 1219 = .ok (.istore 13, 2) := by decide +kernel
theorem dL_acts_1221 : decode cL_acts 1221 = .ok (.iload 13, 2) := by decide +kernel
theorem dL_acts_1223 : decode cL_acts 1223 = .ok (.aload 5, 2) := by decide +kernel
theorem dL_acts_1225 : decode cL_acts 1225 = .ok (.iconst 2, 1) := by decide +kernel
theorem dL_acts_1226 : decode cL_acts 1226 = .ok (.iaload, 1) := by decide +kernel
theorem dL_acts_1227 : decode cL_acts 1227 = .ok (.if_icmp .ne 8, 3) := by decide +kernel
theorem dL_acts_1230 : decode cL_acts 1230 = .ok (.ldc 18, 2) := by decide +kernel
theorem dL_acts_1232 : decode cL_acts 1232 = .ok (.goto 28, 3) := by decide +kernel
theorem dL_acts_1235 : decode cL_acts 1235 = .ok (.aload 4, 2) := by decide +kernel
theorem dL_acts_1237 : decode cL_acts 1237 = .ok (.iload 13, 2) := by decide +kernel
theorem dL_acts_1239 : decode cL_acts 1239 = .ok (.iaload, 1) := by decide +kernel
theorem dL_acts_1240 : decode cL_acts 1240 = .ok (.ldc 120, 2) := by decide +kernel
theorem dL_acts_1242 : decode cL_acts 1242 = .ok (.idiv, 1) := by decide +kernel
theorem dL_acts_1243 : decode cL_acts 1243 = .ok (.ifCond .le 8, 3) := by decide +kernel
theorem dL_acts_1246 : decode cL_acts 1246 = .ok (.ldc 35, 2) := by decide +kernel
theorem dL_acts_1248 : decode cL_acts 1248 = .ok (.goto 12, 3) := by decide +kernel
theorem dL_acts_1251 : decode cL_acts 1251 = .ok (.aload 4, 2) := by decide +kernel
theorem dL_acts_1253 : decode cL_acts 1253 = .ok (.iload 13, 2) := by decide +kernel
theorem dL_acts_1255 : decode cL_acts 1255 = .ok (.iaload, 1) := by decide +kernel
theorem dL_acts_1256 : decode cL_acts 1256 = .ok (.sipush 128, 3) := by decide +kernel
theorem dL_acts_1259 : decode cL_acts 1259 = .ok (.irem, 1) := by decide +kernel
theorem dL_acts_1260 : decode cL_acts 1260 = .ok (.istore 14, 2) := by decide +kernel
theorem dL_acts_1262 : decode cL_acts 1262 = .ok (.iload 7, 2) := by decide +kernel
theorem dL_acts_1264 : decode cL_acts 1264 = .ok (.bipush 8, 2) := by decide +kernel
theorem dL_acts_1266 : decode cL_acts 1266 = .ok (.ishr, 1) := by decide +kernel
theorem dL_acts_1267 : decode cL_acts 1267 = .ok (.iconst 3, 1) := by decide +kernel
theorem dL_acts_1268 : decode cL_acts 1268 = .ok (.invokestatic 111, 3) := by decide +kernel
theorem dL_acts_1271 : decode cL_acts 1271 = .ok (.ifCond .le 20, 3) := by decide +kernel
theorem dL_acts_1274 : decode cL_acts 1274 = .ok (.aload_n 0, 1) := by decide +kernel
theorem dL_acts_1275 : decode cL_acts 1275 = .ok (.aload 4, 2) := by decide +kernel
theorem dL_acts_1277 : decode cL_acts 1277 = .ok (.aload 5, 2) := by decide +kernel
theorem dL_acts_1279 : decode cL_acts 1279 = .ok (.invokestatic 125, 3) := by decide +kernel
theorem dL_acts_1282 : decode cL_acts 1282 = .ok (.ifCond .lt 7, 3) := by decide +kernel
theorem dL_acts_1285 : decode cL_acts 1285 = .ok (.iconst 1, 1) := by decide +kernel
theorem dL_acts_1286 : decode cL_acts 1286 = .ok (.goto 4, 3) := by decide +kernel
theorem dL_acts_1289 : decode cL_acts 1289 = .ok (.iconst 0, 1) := by decide +kernel
theorem dL_acts_1290 : decode cL_acts 1290 = .ok (.ireturn, 1) := by decide +kernel
theorem dL_acts_1291 : decode cL_acts 1291 = .ok (.iload 14, 2) := by decide +kernel
theorem dL_acts_1293 : decode cL_acts 1293 = .ok (.ifCond .lt 13, 3) := by decide +kernel
theorem dL_acts_1296 : decode cL_acts 1296 = .ok (.aload 4, 2) := by decide +kernel
theorem dL_acts_1298 : decode cL_acts 1298 = .ok (.iload 13, 2) := by decide +kernel
theorem dL_acts_1300 : decode cL_acts 1300 = .ok (.dup2, 1) := by decide +kernel
theorem dL_acts_1301 : decode cL_acts 1301 = .ok (.iaload, 1) := by decide +kernel
theorem dL_acts_1302 : decode cL_acts 1302 = .ok (.ldc 120, 2) := by decide +kernel
theorem dL_acts_1304 : decode cL_acts 1304 = .ok (.iadd, 1) := by decide +kernel
theorem dL_acts_1305 : decode cL_acts 1305 = .ok (.iastore, 1) := by decide +kernel
theorem dL_acts_1306 : decode cL_acts 1306 = .ok (.aload_n 0, 1) := by decide +kernel
theorem dL_acts_1307 : decode cL_acts 1307 = .ok (.iload 13, 2) := by decide +kernel
theorem dL_acts_1309 : decode cL_acts 1309 = .ok (.invokestatic 132, 3) := by decide +kernel
theorem dL_acts_1312 : decode cL_acts 1312 = .ok (.iload 14, 2) := by decide +kernel
theorem dL_acts_1314 : decode cL_acts 1314 = .ok (.if_icmp .ne 18, 3) := by decide +kernel
theorem dL_acts_1317 : decode cL_acts 1317 = .ok (.aload_n 1, 1) := by decide +kernel
theorem dL_acts_1318 : decode cL_acts 1318 = .ok (.iload 13, 2) := by decide +kernel
theorem dL_acts_1320 : decode cL_acts 1320 = .ok (.invokestatic 132, 3) := by decide +kernel
theorem dL_acts_1323 : decode cL_acts 1323 = .ok (.iload 14, 2) := by decide +kernel
theorem dL_acts_1325 : decode cL_acts 1325 = .ok (.if_icmp .ne 7, 3) := by decide +kernel
theorem dL_acts_1328 : decode cL_acts 1328 = .ok (.iconst 1, 1) := by decide +kernel
theorem dL_acts_1329 : decode cL_acts 1329 = .ok (.goto 4, 3) := by decide +kernel
theorem dL_acts_1332 : decode cL_acts 1332 = .ok (.iconst 0, 1) := by decide +kernel
theorem dL_acts_1333 : decode cL_acts 1333 = .ok (.ireturn, 1) := by decide +kernel
theorem dL_acts_1334 : decode cL_acts 1334 = .ok (.iload 8, 2) := by decide +kernel
theorem dL_acts_1336 : decode cL_acts 1336 = .ok (.bipush 24, 2) := by decide +kernel
theorem dL_acts_1338 : decode cL_acts 1338 = .ok (.if_icmp .ge 18, 3) := by decide +kernel
theorem dL_acts_1341 : decode cL_acts 1341 = .ok (.aload_n 0, 1) := by decide +kernel
theorem dL_acts_1342 : decode cL_acts 1342 = .ok (.aload_n 1, 1) := by decide +kernel
theorem dL_acts_1343 : decode cL_acts 1343 = .ok (.aload_n 3, 1) := by decide +kernel
theorem dL_acts_1344 : decode cL_acts 1344 = .ok (.aload 5, 2) := by decide +kernel
theorem dL_acts_1346 : decode cL_acts 1346 = .ok (.iload 6, 2) := by decide +kernel
theorem dL_acts_1348 : decode cL_acts 1348 = .ok (.iload 7, 2) := by decide +kernel
theorem dL_acts_1350 : decode cL_acts 1350 = .ok (.invokestatic 155, 3) := by decide +kernel
theorem dL_acts_1353 : decode cL_acts 1353 = .ok (.goto 12, 3) := by decide +kernel
theorem dL_acts_1356 : decode cL_acts 1356 = .ok (.aload_n 0, 1) := by decide +kernel
theorem dL_acts_1357 : decode cL_acts 1357 = .ok (.aload_n 1, 1) := by decide +kernel
theorem dL_acts_1358 : decode cL_acts 1358 = .ok (.aload 4, 2) := by decide +kernel
theorem dL_acts_1360 : decode cL_acts 1360 = .ok (.aload 5, 2) := by decide +kernel
theorem dL_acts_1362 : decode cL_acts 1362 = .ok (.invokestatic 159, 3) := by decide +kernel
theorem dL_acts_1365 : decode cL_acts 1365 = .ok (.ireturn, 1) := by decide +kernel
theorem ggL_acts_L_plays_h : GoodIn wsL_acts [Cond.code yL_plays cL_plays 19 (some .boolean)] := (goodIn_1 (List.mem_of_getElem? (i := 285) rfl) rfl)
set_option maxRecDepth 20000 in
theorem ggL_acts_L_plays_r1 : GoodIn wsL_acts wsL_plays_r1 := (goodIn_r (big := wsL_acts) [Cond.constant RL 9 (2147483647), Cond.constant RL 134 (100000), Cond.arrayClass .int, Cond.constant RL 21 (-1000002), Cond.constant RL 35 (-1000003), Cond.constant RL 18 (-1000001), Cond.methodLink RL 111 yL_low, Cond.static yL_low, Cond.initialized RL, Cond.code yL_low cL_low 2 (some .int), Cond.methodLink RL 114 yL_isAllowed, Cond.static yL_isAllowed, Cond.codeWith yL_isAllowed cL_isAllowed 3 (some .int) [(0, 13, 14, 16)], Cond.classLink RL 16 "java/lang/IndexOutOfBoundsException", Cond.methodLink RL 71 yX6_isAllowed, Cond.instanceMethod yX6_isAllowed, Cond.selects RX6 yX6_isAllowed yX6_isAllowed, Cond.initialized RX6, Cond.code yX6_isAllowed cX6_isAllowed 2 (some .boolean), Cond.fieldLink RX6 26 "Cardhouse" "decks" "LCardhouse$Decks;", Cond.fieldLink RX6 10 "Cardhouse" "kinds" "LCardhouse$Kinds;", Cond.fieldLink RX6 19 "Cardhouse" "prints" "LCardhouse$Prints;", Cond.methodLink RX6 110 yX6_needDeck, Cond.instanceMethod yX6_needDeck] [9, 286, 287, 3, 2, 1, 5, 6, 7, 8, 193, 194, 195, 13, 196, 197, 198, 18, 199, 50, 24, 22, 72, 73] (by decide +kernel) (by decide +kernel))
set_option maxRecDepth 20000 in
theorem ggL_acts_L_plays_r2 : GoodIn wsL_acts wsL_plays_r2 := (goodIn_r (big := wsL_acts) [Cond.selects RX6 yX6_needDeck yX6_needDeck, Cond.code yX6_needDeck cX6_needDeck 2 none, Cond.classLink RX6 236 "java/lang/IndexOutOfBoundsException", Cond.initialized "java/lang/IndexOutOfBoundsException", Cond.fieldLink RX6 104 "Cardhouse$Decks" "count" "I", Cond.methodLink RX6 215 yX0_fitsFormat, Cond.instanceMethod yX0_fitsFormat, Cond.selects RX0 yX0_fitsFormat yX0_fitsFormat, Cond.initialized RX0, Cond.code yX0_fitsFormat cX0_fitsFormat 7 (some .boolean), Cond.fieldLink RX0 15 "Cardhouse$Decks" "size" "[I", Cond.fieldLink RX0 23 "Cardhouse$Decks" "formatSize" "I", Cond.fieldLink RX0 20 "Cardhouse$Decks" "cards" "[[I", Cond.fieldLink RX0 33 "Cardhouse$Prints" "kind" "[I", Cond.fieldLink RX0 48 "Cardhouse$Prints" "collector" "[I", Cond.fieldLink RX0 9 "Cardhouse$Decks" "owner" "[I", Cond.fieldLink RX0 51 "Cardhouse$Kinds" "isBanned" "[Z", Cond.fieldLink RX0 27 "Cardhouse$Decks" "formatMost" "I", Cond.methodLink RX0 57 yX0_countOf, Cond.instanceMethod yX0_countOf, Cond.selects RX0 yX0_countOf yX0_countOf, Cond.code yX0_countOf cX0_countOf 4 (some .int), Cond.methodLink RX0 38 yX0_placesOf, Cond.instanceMethod yX0_placesOf] [74, 75, 29, 30, 51, 200, 162, 163, 55, 164, 84, 165, 85, 166, 167, 58, 168, 169, 170, 171, 172, 173, 174, 175] (by decide +kernel) (by decide +kernel))
set_option maxRecDepth 20000 in
theorem ggL_acts_L_plays_r3 : GoodIn wsL_acts wsL_plays_r3 := (goodIn_r (big := wsL_acts) [Cond.selects RX0 yX0_placesOf yX0_placesOf, Cond.code yX0_placesOf cX0_placesOf 6 (some .int), Cond.methodLink RX0 42 yJ6_bitCount_0f7a4, Cond.static yJ6_bitCount_0f7a4, Cond.initialized RJ6, Cond.code yJ6_bitCount_0f7a4 cJ6_bitCount_0f7a4 1 (some .int), Cond.constant RJ6 265 (1431655765), Cond.constant RJ6 266 (858993459), Cond.constant RJ6 267 (252645135), Cond.methodLink RL 100 yL_wins, Cond.static yL_wins, Cond.codeWith yL_wins cL_wins 3 (some .int) [(0, 5, 6, 16)], Cond.methodLink RL 65 yX6_wins, Cond.instanceMethod yX6_wins, Cond.selects RX6 yX6_wins yX6_wins, Cond.code yX6_wins cX6_wins 2 (some .int), Cond.fieldLink RX6 212 "Cardhouse$Kinds" "wins" "[I", Cond.methodLink RX6 54 yX6_needKind, Cond.static yX6_needKind, Cond.code yX6_needKind cX6_needKind 1 none, Cond.methodLink RL 135 yL_play, Cond.static yL_play, Cond.codeWith yL_play cL_play 6 (some .int) [(0, 9, 10, 16), (0, 9, 15, 19), (0, 9, 20, 33)], Cond.classLink RL 19 "java/lang/IllegalArgumentException"] [176, 177, 178, 179, 180, 181, 182, 183, 184, 288, 289, 290, 291, 292, 293, 294, 295, 26, 27, 28, 296, 297, 298, 62] (by decide +kernel) (by decide +kernel))
set_option maxRecDepth 20000 in
theorem ggL_acts_L_plays_r4 : GoodIn wsL_acts wsL_plays_r4 := (goodIn_r (big := wsL_acts) [Cond.classLink RL 33 "java/lang/IllegalStateException", Cond.methodLink RL 46 yX6_play, Cond.instanceMethod yX6_play, Cond.selects RX6 yX6_play yX6_play, Cond.code yX6_play cX6_play 6 (some .int), Cond.classLink RX6 122 "java/lang/IllegalArgumentException", Cond.initialized "java/lang/IllegalArgumentException", Cond.fieldLink RX6 119 "Cardhouse$Decks" "owner" "[I", Cond.fieldLink RX6 47 "Cardhouse" "firstSide" "LCardhouse$Side;", Cond.fieldLink RX6 51 "Cardhouse" "secondSide" "LCardhouse$Side;", Cond.fieldLink RX6 69 "Cardhouse$Decks" "formatSize" "I", Cond.fieldLink RX6 164 "Cardhouse$Side" "points" "I", Cond.methodLink RX6 149 yX6_needSeed, Cond.static yX6_needSeed, Cond.code yX6_needSeed cX6_needSeed 1 none, Cond.methodLink RX6 154 yX6_needAllowed, Cond.instanceMethod yX6_needAllowed, Cond.selects RX6 yX6_needAllowed yX6_needAllowed, Cond.code yX6_needAllowed cX6_needAllowed 2 none, Cond.classLink RX6 90 "java/lang/IllegalStateException", Cond.initialized "java/lang/IllegalStateException", Cond.methodLink RX6 157 yX5_start, Cond.instanceMethod yX5_start, Cond.selects RX5 yX5_start yX5_start] [14, 299, 300, 301, 302, 67, 68, 70, 303, 304, 155, 305, 110, 111, 112, 306, 307, 308, 309, 20, 21, 310, 311, 312] (by decide +kernel) (by decide +kernel))
set_option maxRecDepth 20000 in
theorem ggL_acts_L_plays_r5 : GoodIn wsL_acts wsL_plays_r5 := (goodIn_r (big := wsL_acts) [Cond.initialized RX5, Cond.code yX5_start cX5_start 4 none, Cond.fieldLink RX5 12 "Cardhouse$Side" "pile" "LCardhouse$Pile;", Cond.fieldLink RX5 22 "Cardhouse$Side" "points" "I", Cond.fieldLink RX5 26 "Cardhouse$Side" "ahead" "I", Cond.methodLink RX5 18 yX3_shuffle, Cond.instanceMethod yX3_shuffle, Cond.selects RX3 yX3_shuffle yX3_shuffle, Cond.initialized RX3, Cond.code yX3_shuffle cX3_shuffle 10 none, Cond.fieldLink RX3 15 "Cardhouse$Decks" "size" "[I", Cond.fieldLink RX3 9 "Cardhouse$Pile" "cards" "[I", Cond.fieldLink RX3 20 "Cardhouse$Decks" "cards" "[[I", Cond.constantLong RX3 23 (1103515245), Cond.constantLong RX3 25 (12345), Cond.constantLong RX3 27 (2147483648), Cond.constantLong RX3 29 (65536), Cond.methodLink RX6 161 yX6_playRound, Cond.instanceMethod yX6_playRound, Cond.selects RX6 yX6_playRound yX6_playRound, Cond.code yX6_playRound cX6_playRound 8 none, Cond.fieldLink RX6 170 "Cardhouse$Prints" "kind" "[I", Cond.fieldLink RX6 259 "Cardhouse$Side" "pile" "LCardhouse$Pile;", Cond.fieldLink RX6 222 "Cardhouse$Pile" "cards" "[I"] [313, 314, 315, 316, 317, 318, 114, 115, 116, 117, 118, 119, 120, 121, 122, 123, 124, 319, 320, 321, 322, 208, 323, 105] (by decide +kernel) (by decide +kernel))
set_option maxRecDepth 20000 in
theorem ggL_acts_L_plays_r6 : GoodIn wsL_acts wsL_plays_r6 := (goodIn_r (big := wsL_acts) [Cond.fieldLink RX6 62 "Cardhouse$Kinds" "power" "[I", Cond.fieldLink RX6 260 "Cardhouse$Side" "ahead" "I", Cond.fieldLink RX6 66 "Cardhouse$Kinds" "trigger" "[I", Cond.methodLink RX6 263 yX5_endRound, Cond.instanceMethod yX5_endRound, Cond.selects RX5 yX5_endRound yX5_endRound, Cond.code yX5_endRound cX5_endRound 4 none, Cond.methodLink RX6 167 yX6_giveWins, Cond.instanceMethod yX6_giveWins, Cond.selects RX6 yX6_giveWins yX6_giveWins, Cond.code yX6_giveWins cX6_giveWins 3 none, Cond.methodLink RX6 225 yX0_countOf, Cond.methodLink RL 108 yL_shuffled, Cond.static yL_shuffled, Cond.codeWith yL_shuffled cL_shuffled 5 (some .int) [(0, 7, 8, 16), (0, 7, 13, 19)], Cond.methodLink RL 75 yX6_shuffled, Cond.instanceMethod yX6_shuffled, Cond.selects RX6 yX6_shuffled yX6_shuffled, Cond.code yX6_shuffled cX6_shuffled 4 (some .int), Cond.fieldLink RX6 40 "Cardhouse" "pile" "LCardhouse$Pile;", Cond.methodLink RX6 142 yX6_needPlace, Cond.instanceMethod yX6_needPlace, Cond.selects RX6 yX6_needPlace yX6_needPlace, Cond.code yX6_needPlace cX6_needPlace 3 none] [143, 324, 144, 325, 326, 327, 328, 329, 330, 331, 332, 333, 97, 98, 99, 100, 101, 102, 103, 104, 106, 107, 108, 109] (by decide +kernel) (by decide +kernel))
set_option maxRecDepth 20000 in
theorem ggL_acts_L_plays_r7 : GoodIn wsL_acts wsL_plays_r7 := (goodIn_r (big := wsL_acts) [Cond.fieldLink RX6 133 "Cardhouse$Decks" "size" "[I", Cond.methodLink RX6 219 yX3_shuffle, Cond.methodLink RL 90 yL_printOf, Cond.static yL_printOf, Cond.codeWith yL_printOf cL_printOf 3 (some .int) [(0, 5, 6, 16)], Cond.methodLink RL 56 yX6_printOf, Cond.instanceMethod yX6_printOf, Cond.selects RX6 yX6_printOf yX6_printOf, Cond.code yX6_printOf cX6_printOf 2 (some .int), Cond.fieldLink RX6 206 "Cardhouse$Prints" "number" "[I", Cond.methodLink RX6 113 yX6_needCard, Cond.instanceMethod yX6_needCard, Cond.selects RX6 yX6_needCard yX6_needCard, Cond.code yX6_needCard cX6_needCard 2 none, Cond.fieldLink RX6 87 "Cardhouse$Prints" "count" "I"] [71, 113, 201, 202, 203, 204, 205, 206, 207, 209, 76, 77, 78, 79, 23] (by decide +kernel) (by decide +kernel))
theorem ggL_acts_L_plays : GoodIn wsL_acts wsL_plays := goodIn_cc ggL_acts_L_plays_h (goodIn_app (goodIn_app (goodIn_app (goodIn_app (goodIn_app (goodIn_app (goodIn_app (goodIn_app (goodIn_app (goodIn_app ggL_acts_L_plays_r1 (goodIn_app ggL_acts_L_plays_r2 (goodIn_app ggL_acts_L_plays_r3 (goodIn_app ggL_acts_L_plays_r4 (goodIn_app ggL_acts_L_plays_r5 (goodIn_app ggL_acts_L_plays_r6 ggL_acts_L_plays_r7)))))) (goodIn_sub (fun _ h => List.mem_cons_of_mem _ (List.mem_append_left _ (List.mem_append_left _ (List.mem_append_left _ (List.mem_append_left _ (List.mem_append_left _ (List.mem_append_left _ (List.mem_append_left _ (List.mem_append_left _ (List.mem_append_left _ (List.mem_append_right _ h))))))))))) (by decide +kernel))) (goodIn_sub (fun _ h => List.mem_cons_of_mem _ (List.mem_append_left _ (List.mem_append_left _ (List.mem_append_left _ (List.mem_append_left _ (List.mem_append_left _ (List.mem_append_left _ (List.mem_append_right _ h)))))))) (by decide +kernel))) (goodIn_sub (fun _ h => List.mem_cons_of_mem _ (List.mem_append_left _ (List.mem_append_left _ (List.mem_append_left _ (List.mem_append_left _ (List.mem_append_left _ (List.mem_append_left _ (List.mem_append_left _ (List.mem_append_left _ (List.mem_append_right _ h)))))))))) (by decide +kernel))) (goodIn_sub (fun _ h => List.mem_cons_of_mem _ (List.mem_append_left _ (List.mem_append_left _ (List.mem_append_left _ (List.mem_append_left _ (List.mem_append_left _ (List.mem_append_left _ (List.mem_append_left _ (List.mem_append_right _ h))))))))) (by decide +kernel))) (goodIn_sub (fun _ h => List.mem_cons_of_mem _ (List.mem_append_left _ (List.mem_append_left _ (List.mem_append_left _ (List.mem_append_right _ h))))) (by decide +kernel))) (goodIn_sub (fun _ h => List.mem_cons_of_mem _ (List.mem_append_left _ (List.mem_append_left _ (List.mem_append_left _ (List.mem_append_left _ (List.mem_append_left _ (List.mem_append_right _ h))))))) (by decide +kernel))) (goodIn_sub (fun _ h => List.mem_cons_of_mem _ (List.mem_append_left _ (List.mem_append_right _ h))) (by decide +kernel))) (goodIn_sub (fun _ h => List.mem_cons_of_mem _ (List.mem_append_right _ h)) (by decide +kernel))) (goodIn_sub (fun _ h => List.mem_cons_of_mem _ (List.mem_append_left _ (List.mem_append_left _ (List.mem_append_right _ h)))) (by decide +kernel)))
theorem gL_acts_L_plays : GoodIn wsL_acts (va_wsS RL 155 yL_plays wsL_plays) := goodIn_app (goodIn_of _ (by decide +kernel)) ggL_acts_L_plays
theorem ggL_acts_L_ringOf_h : GoodIn wsL_acts [Cond.code yL_ringOf cL_ringOf 8 (some .int)] := (goodIn_1 (List.mem_of_getElem? (i := 238) rfl) rfl)
set_option maxRecDepth 20000 in
theorem ggL_acts_L_ringOf_r1 : GoodIn wsL_acts wsL_ringOf_r1 := (goodIn_r (big := wsL_acts) [Cond.constant RL 120 (65536), Cond.constant RL 18 (-1000001), Cond.methodLink RL 121 yL_isOpen, Cond.static yL_isOpen, Cond.initialized RL, Cond.codeWith yL_isOpen cL_isOpen 3 (some .int) [(0, 13, 14, 16)], Cond.classLink RL 16 "java/lang/IndexOutOfBoundsException", Cond.methodLink RL 84 yX6_isOpen, Cond.instanceMethod yX6_isOpen, Cond.selects RX6 yX6_isOpen yX6_isOpen, Cond.initialized RX6, Cond.code yX6_isOpen cX6_isOpen 2 (some .boolean), Cond.fieldLink RX6 33 "Cardhouse" "offers" "LCardhouse$Offers;", Cond.fieldLink RX6 190 "Cardhouse$Offers" "isLive" "[Z", Cond.methodLink RX6 187 yX6_needOffer, Cond.instanceMethod yX6_needOffer, Cond.selects RX6 yX6_needOffer yX6_needOffer, Cond.code yX6_needOffer cX6_needOffer 2 none, Cond.classLink RX6 236 "java/lang/IndexOutOfBoundsException", Cond.initialized "java/lang/IndexOutOfBoundsException", Cond.fieldLink RX6 181 "Cardhouse$Offers" "count" "I", Cond.methodLink RL 95 yL_collectorOf, Cond.static yL_collectorOf, Cond.codeWith yL_collectorOf cL_collectorOf 3 (some .int) [(0, 5, 6, 16)]] [4, 1, 239, 240, 7, 241, 13, 242, 243, 244, 18, 245, 217, 246, 247, 248, 249, 250, 29, 30, 218, 90, 91, 92] (by decide +kernel) (by decide +kernel))
set_option maxRecDepth 20000 in
theorem ggL_acts_L_ringOf_r2 : GoodIn wsL_acts wsL_ringOf_r2 := (goodIn_r (big := wsL_acts) [Cond.methodLink RL 59 yX6_collectorOf, Cond.instanceMethod yX6_collectorOf, Cond.selects RX6 yX6_collectorOf yX6_collectorOf, Cond.code yX6_collectorOf cX6_collectorOf 2 (some .int), Cond.fieldLink RX6 19 "Cardhouse" "prints" "LCardhouse$Prints;", Cond.fieldLink RX6 116 "Cardhouse$Prints" "collector" "[I", Cond.methodLink RX6 113 yX6_needCard, Cond.instanceMethod yX6_needCard, Cond.selects RX6 yX6_needCard yX6_needCard, Cond.code yX6_needCard cX6_needCard 2 none, Cond.fieldLink RX6 87 "Cardhouse$Prints" "count" "I", Cond.methodLink RL 123 yL_ring, Cond.static yL_ring, Cond.codeWith yL_ring cL_ring 3 (some .int) [(0, 5, 6, 16)], Cond.methodLink RL 87 yX6_ring, Cond.instanceMethod yX6_ring, Cond.selects RX6 yX6_ring yX6_ring, Cond.code yX6_ring cX6_ring 2 (some .int), Cond.fieldLink RX6 202 "Cardhouse$Offers" "ring" "[I", Cond.methodLink RX6 198 yX2_findRing, Cond.instanceMethod yX2_findRing, Cond.selects RX2 yX2_findRing yX2_findRing, Cond.initialized RX2, Cond.code yX2_findRing cX2_findRing 3 (some .int)] [93, 94, 95, 96, 22, 69, 76, 77, 78, 79, 23, 251, 252, 253, 254, 255, 256, 257, 258, 259, 260, 261, 222, 262] (by decide +kernel) (by decide +kernel))
set_option maxRecDepth 20000 in
theorem ggL_acts_L_ringOf_r3 : GoodIn wsL_acts wsL_ringOf_r3 := (goodIn_r (big := wsL_acts) [Cond.fieldLink RX2 31 "Cardhouse$Offers" "count" "I", Cond.fieldLink RX2 28 "Cardhouse$Offers" "ring" "[I", Cond.fieldLink RX2 24 "Cardhouse$Offers" "isLive" "[Z", Cond.methodLink RX2 41 yX2_closes, Cond.static yX2_closes, Cond.code yX2_closes cX2_closes 4 (some .boolean), Cond.methodLink RX2 45 yX2_canGive, Cond.instanceMethod yX2_canGive, Cond.selects RX2 yX2_canGive yX2_canGive, Cond.code yX2_canGive cX2_canGive 3 (some .boolean), Cond.fieldLink RX2 15 "Cardhouse$Offers" "given" "[I", Cond.fieldLink RX2 18 "Cardhouse$Offers" "wanted" "[I", Cond.methodLink RX2 49 yX2_canFollow, Cond.instanceMethod yX2_canFollow, Cond.selects RX2 yX2_canFollow yX2_canFollow, Cond.code yX2_canFollow cX2_canFollow 4 (some .boolean), Cond.fieldLink RX2 21 "Cardhouse$Offers" "collector" "[I", Cond.methodLink RL 90 yL_printOf, Cond.static yL_printOf, Cond.codeWith yL_printOf cL_printOf 3 (some .int) [(0, 5, 6, 16)], Cond.methodLink RL 56 yX6_printOf, Cond.instanceMethod yX6_printOf, Cond.selects RX6 yX6_printOf yX6_printOf, Cond.code yX6_printOf cX6_printOf 2 (some .int)] [224, 263, 225, 264, 265, 266, 267, 268, 269, 270, 231, 233, 271, 272, 273, 274, 234, 201, 202, 203, 204, 205, 206, 207] (by decide +kernel) (by decide +kernel))
set_option maxRecDepth 20000 in
theorem ggL_acts_L_ringOf_r4 : GoodIn wsL_acts wsL_ringOf_r4 := (goodIn_r (big := wsL_acts) [Cond.fieldLink RX6 170 "Cardhouse$Prints" "kind" "[I", Cond.fieldLink RX6 206 "Cardhouse$Prints" "number" "[I"] [208, 209] (by decide +kernel) (by decide +kernel))
theorem ggL_acts_L_ringOf : GoodIn wsL_acts wsL_ringOf := goodIn_cc ggL_acts_L_ringOf_h (goodIn_app (goodIn_app (goodIn_app (goodIn_app (goodIn_app ggL_acts_L_ringOf_r1 (goodIn_app ggL_acts_L_ringOf_r2 (goodIn_app ggL_acts_L_ringOf_r3 ggL_acts_L_ringOf_r4))) (goodIn_sub (fun _ h => List.mem_cons_of_mem _ (List.mem_append_left _ (List.mem_append_left _ (List.mem_append_left _ (List.mem_append_left _ (List.mem_append_left _ (List.mem_append_left _ (List.mem_append_left _ (List.mem_append_left _ (List.mem_append_left _ (List.mem_append_right _ h))))))))))) (by decide +kernel))) (goodIn_sub (fun _ h => List.mem_cons_of_mem _ (List.mem_append_left _ (List.mem_append_left _ (List.mem_append_left _ (List.mem_append_left _ (List.mem_append_right _ h)))))) (by decide +kernel))) (goodIn_sub (fun _ h => List.mem_cons_of_mem _ (List.mem_append_left _ (List.mem_append_left _ (List.mem_append_left _ (List.mem_append_left _ (List.mem_append_left _ (List.mem_append_left _ (List.mem_append_left _ (List.mem_append_left _ (List.mem_append_right _ h)))))))))) (by decide +kernel))) (goodIn_sub (fun _ h => List.mem_cons_of_mem _ (List.mem_append_left _ (List.mem_append_right _ h))) (by decide +kernel)))
theorem gL_acts_L_ringOf : GoodIn wsL_acts (va_wsS RL 125 yL_ringOf wsL_ringOf) := goodIn_app (goodIn_of _ (by decide +kernel)) ggL_acts_L_ringOf
theorem ggL_acts_L_trades_h : GoodIn wsL_acts [Cond.code yL_trades cL_trades 9 (some .boolean)] := (goodIn_1 (List.mem_of_getElem? (i := 336) rfl) rfl)
set_option maxRecDepth 20000 in
theorem ggL_acts_L_trades_r1 : GoodIn wsL_acts wsL_trades_r1 := (goodIn_app (goodIn_r (big := wsL_acts) [Cond.arrayClass .int, Cond.constant RL 120 (65536), Cond.constant RL 35 (-1000003), Cond.methodLink RL 125 yL_ringOf, Cond.static yL_ringOf, Cond.initialized RL] [287, 4, 2, 236, 237, 7] (by decide +kernel) (by decide +kernel)) (goodIn_app (goodIn_1 (List.mem_of_getElem? (i := 238) rfl) rfl) (goodIn_r (big := wsL_acts) [Cond.constant RL 18 (-1000001), Cond.methodLink RL 121 yL_isOpen, Cond.static yL_isOpen, Cond.codeWith yL_isOpen cL_isOpen 3 (some .int) [(0, 13, 14, 16)], Cond.classLink RL 16 "java/lang/IndexOutOfBoundsException", Cond.methodLink RL 84 yX6_isOpen, Cond.instanceMethod yX6_isOpen, Cond.selects RX6 yX6_isOpen yX6_isOpen, Cond.initialized RX6, Cond.code yX6_isOpen cX6_isOpen 2 (some .boolean), Cond.fieldLink RX6 33 "Cardhouse" "offers" "LCardhouse$Offers;", Cond.fieldLink RX6 190 "Cardhouse$Offers" "isLive" "[Z", Cond.methodLink RX6 187 yX6_needOffer, Cond.instanceMethod yX6_needOffer, Cond.selects RX6 yX6_needOffer yX6_needOffer, Cond.code yX6_needOffer cX6_needOffer 2 none, Cond.classLink RX6 236 "java/lang/IndexOutOfBoundsException"] [1, 239, 240, 241, 13, 242, 243, 244, 18, 245, 217, 246, 247, 248, 249, 250, 29] (by decide +kernel) (by decide +kernel))))
set_option maxRecDepth 20000 in
theorem ggL_acts_L_trades_r2 : GoodIn wsL_acts wsL_trades_r2 := (goodIn_r (big := wsL_acts) [Cond.initialized "java/lang/IndexOutOfBoundsException", Cond.fieldLink RX6 181 "Cardhouse$Offers" "count" "I", Cond.methodLink RL 95 yL_collectorOf, Cond.static yL_collectorOf, Cond.codeWith yL_collectorOf cL_collectorOf 3 (some .int) [(0, 5, 6, 16)], Cond.methodLink RL 59 yX6_collectorOf, Cond.instanceMethod yX6_collectorOf, Cond.selects RX6 yX6_collectorOf yX6_collectorOf, Cond.code yX6_collectorOf cX6_collectorOf 2 (some .int), Cond.fieldLink RX6 19 "Cardhouse" "prints" "LCardhouse$Prints;", Cond.fieldLink RX6 116 "Cardhouse$Prints" "collector" "[I", Cond.methodLink RX6 113 yX6_needCard, Cond.instanceMethod yX6_needCard, Cond.selects RX6 yX6_needCard yX6_needCard, Cond.code yX6_needCard cX6_needCard 2 none, Cond.fieldLink RX6 87 "Cardhouse$Prints" "count" "I", Cond.methodLink RL 123 yL_ring, Cond.static yL_ring, Cond.codeWith yL_ring cL_ring 3 (some .int) [(0, 5, 6, 16)], Cond.methodLink RL 87 yX6_ring, Cond.instanceMethod yX6_ring, Cond.selects RX6 yX6_ring yX6_ring, Cond.code yX6_ring cX6_ring 2 (some .int), Cond.fieldLink RX6 202 "Cardhouse$Offers" "ring" "[I"] [30, 218, 90, 91, 92, 93, 94, 95, 96, 22, 69, 76, 77, 78, 79, 23, 251, 252, 253, 254, 255, 256, 257, 258] (by decide +kernel) (by decide +kernel))
set_option maxRecDepth 20000 in
theorem ggL_acts_L_trades_r3 : GoodIn wsL_acts wsL_trades_r3 := (goodIn_r (big := wsL_acts) [Cond.methodLink RX6 198 yX2_findRing, Cond.instanceMethod yX2_findRing, Cond.selects RX2 yX2_findRing yX2_findRing, Cond.initialized RX2, Cond.code yX2_findRing cX2_findRing 3 (some .int), Cond.fieldLink RX2 31 "Cardhouse$Offers" "count" "I", Cond.fieldLink RX2 28 "Cardhouse$Offers" "ring" "[I", Cond.fieldLink RX2 24 "Cardhouse$Offers" "isLive" "[Z", Cond.methodLink RX2 41 yX2_closes, Cond.static yX2_closes, Cond.code yX2_closes cX2_closes 4 (some .boolean), Cond.methodLink RX2 45 yX2_canGive, Cond.instanceMethod yX2_canGive, Cond.selects RX2 yX2_canGive yX2_canGive, Cond.code yX2_canGive cX2_canGive 3 (some .boolean), Cond.fieldLink RX2 15 "Cardhouse$Offers" "given" "[I", Cond.fieldLink RX2 18 "Cardhouse$Offers" "wanted" "[I", Cond.methodLink RX2 49 yX2_canFollow, Cond.instanceMethod yX2_canFollow, Cond.selects RX2 yX2_canFollow yX2_canFollow, Cond.code yX2_canFollow cX2_canFollow 4 (some .boolean), Cond.fieldLink RX2 21 "Cardhouse$Offers" "collector" "[I", Cond.methodLink RL 90 yL_printOf, Cond.static yL_printOf] [259, 260, 261, 222, 262, 224, 263, 225, 264, 265, 266, 267, 268, 269, 270, 231, 233, 271, 272, 273, 274, 234, 201, 202] (by decide +kernel) (by decide +kernel))
set_option maxRecDepth 20000 in
theorem ggL_acts_L_trades_r4 : GoodIn wsL_acts wsL_trades_r4 := (goodIn_r (big := wsL_acts) [Cond.codeWith yL_printOf cL_printOf 3 (some .int) [(0, 5, 6, 16)], Cond.methodLink RL 56 yX6_printOf, Cond.instanceMethod yX6_printOf, Cond.selects RX6 yX6_printOf yX6_printOf, Cond.code yX6_printOf cX6_printOf 2 (some .int), Cond.fieldLink RX6 170 "Cardhouse$Prints" "kind" "[I", Cond.fieldLink RX6 206 "Cardhouse$Prints" "number" "[I", Cond.methodLink RL 129 yX6_trade, Cond.instanceMethod yX6_trade, Cond.selects RX6 yX6_trade yX6_trade, Cond.code yX6_trade cX6_trade 5 (some .int), Cond.fieldLink RX6 195 "Cardhouse$Offers" "card" "[I", Cond.fieldLink RX6 205 "Cardhouse$Offers" "collector" "[I", Cond.methodLink RL 132 yL_takeBack, Cond.static yL_takeBack, Cond.codeWith yL_takeBack cL_takeBack 3 (some .int) [(0, 5, 6, 16), (0, 5, 10, 33)], Cond.classLink RL 33 "java/lang/IllegalStateException", Cond.methodLink RL 53 yX6_takeBack, Cond.instanceMethod yX6_takeBack, Cond.selects RX6 yX6_takeBack yX6_takeBack, Cond.code yX6_takeBack cX6_takeBack 2 (some .int), Cond.classLink RX6 90 "java/lang/IllegalStateException", Cond.initialized "java/lang/IllegalStateException"] [203, 204, 205, 206, 207, 208, 209, 337, 338, 339, 340, 282, 341, 275, 276, 277, 14, 278, 279, 280, 281, 20, 21] (by decide +kernel) (by decide +kernel))
theorem ggL_acts_L_trades : GoodIn wsL_acts wsL_trades := goodIn_cc ggL_acts_L_trades_h (goodIn_app (goodIn_app (goodIn_app (goodIn_app (goodIn_app (goodIn_app ggL_acts_L_trades_r1 (goodIn_app ggL_acts_L_trades_r2 (goodIn_app ggL_acts_L_trades_r3 ggL_acts_L_trades_r4))) (goodIn_sub (fun _ h => List.mem_cons_of_mem _ (List.mem_append_left _ (List.mem_append_left _ (List.mem_append_left _ (List.mem_append_left _ (List.mem_append_left _ (List.mem_append_left _ (List.mem_append_left _ (List.mem_append_left _ (List.mem_append_left _ (List.mem_append_right _ h))))))))))) (by decide +kernel))) (goodIn_sub (fun _ h => List.mem_cons_of_mem _ (List.mem_append_left _ (List.mem_append_left _ (List.mem_append_left _ (List.mem_append_left _ (List.mem_append_right _ h)))))) (by decide +kernel))) (goodIn_sub (fun _ h => List.mem_cons_of_mem _ (List.mem_append_left _ (List.mem_append_left _ (List.mem_append_left _ (List.mem_append_left _ (List.mem_append_left _ (List.mem_append_left _ (List.mem_append_left _ (List.mem_append_left _ (List.mem_append_right _ h)))))))))) (by decide +kernel))) (goodIn_sub (fun _ h => List.mem_cons_of_mem _ (List.mem_append_left _ (List.mem_append_right _ h))) (by decide +kernel))) (goodIn_sub (fun _ h => List.mem_cons_of_mem _ (List.mem_append_left _ (List.mem_append_left _ (List.mem_append_right _ h)))) (by decide +kernel)))
theorem gL_acts_L_trades : GoodIn wsL_acts (va_wsS RL 159 yL_trades wsL_trades) := goodIn_app (goodIn_of _ (by decide +kernel)) ggL_acts_L_trades
