set_option maxRecDepth 20000 in
theorem ggL_setKind_X6_setKind : GoodIn wsL_setKind wsX6_setKind := goodIn_ca (goodIn_ca (goodIn_r _ [9, 10, 11, 12, 13, 14, 8, 15, 16, 17, 18, 19, 20, 21, 22, 23, 24, 25, 26, 27, 28, 29, 30, 31, 32, 33, 34] (by decide +kernel) (by decide +kernel)) (goodIn_sub (fun _ h => List.mem_cons_of_mem _ (List.mem_append_left _ (List.mem_append_right _ h))) (by decide +kernel))) (goodIn_sub (fun _ h => List.mem_cons_of_mem _ (List.mem_append_right _ h)) (by decide +kernel))
set_option maxRecDepth 20000 in
theorem gL_setKind_X6_setKind : GoodIn wsL_setKind (wsV RL 10 RX6 yX6_setKind wsX6_setKind) := goodIn_app (goodIn_of _ (by decide +kernel)) ggL_setKind_X6_setKind
theorem dL_setKind_0 : decode cL_setKind 0 = .ok (.aload_n 0, 1) := by decide +kernel
theorem dL_setKind_1 : decode cL_setKind 1 = .ok (.iload_n 1, 1) := by decide +kernel
theorem dL_setKind_2 : decode cL_setKind 2 = .ok (.iload_n 2, 1) := by decide +kernel
theorem dL_setKind_3 : decode cL_setKind 3 = .ok (.iload_n 3, 1) := by decide +kernel
theorem dL_setKind_4 : decode cL_setKind 4 = .ok (.invokevirtual 10, 3) := by decide +kernel
theorem dL_setKind_7 : decode cL_setKind 7 = .ok (.ireturn, 1) := by decide +kernel
theorem dL_setKind_8 : decode cL_setKind 8 = .ok (.astore 4, 2) := by decide +kernel
theorem dL_setKind_10 : decode cL_setKind 10 = .ok (.ldc 18, 2) := by decide +kernel
theorem dL_setKind_12 : decode cL_setKind 12 = .ok (.ireturn, 1) := by decide +kernel
theorem dL_setKind_13 : decode cL_setKind 13 = .ok (.astore 4, 2) := by decide +kernel
theorem dL_setKind_15 : decode cL_setKind 15 = .ok (.ldc 21, 2) := by decide +kernel
theorem dL_setKind_17 : decode cL_setKind 17 = .ok (.ireturn, 1) := by decide +kernel
set_option maxRecDepth 20000 in
theorem ggL_setFormat_X6_setFormat : GoodIn wsL_setFormat wsX6_setFormat := goodIn_ca (goodIn_r _ [7, 8, 9, 10, 11, 12, 13, 14, 6, 15, 16, 17, 18, 19, 20, 21, 22, 23, 24, 25, 26, 27, 28, 29, 30, 31, 32, 33, 34, 35, 36, 37, 38, 39, 40, 41, 42, 43, 44, 45, 46, 47, 48, 49, 50, 51, 52, 53, 54, 55, 56, 57, 58, 59, 60, 61, 62, 63, 64, 65, 66, 67, 68, 69, 70, 71, 72] (by decide +kernel) (by decide +kernel)) (goodIn_sub (fun _ h => List.mem_cons_of_mem _ (List.mem_append_right _ h)) (by decide +kernel))
set_option maxRecDepth 20000 in
theorem gL_setFormat_X6_setFormat : GoodIn wsL_setFormat (wsV RL 22 RX6 yX6_setFormat wsX6_setFormat) := goodIn_app (goodIn_of _ (by decide +kernel)) ggL_setFormat_X6_setFormat
theorem dL_setFormat_0 : decode cL_setFormat 0 = .ok (.aload_n 0, 1) := by decide +kernel
theorem dL_setFormat_1 : decode cL_setFormat 1 = .ok (.iload_n 1, 1) := by decide +kernel
theorem dL_setFormat_2 : decode cL_setFormat 2 = .ok (.iload_n 2, 1) := by decide +kernel
theorem dL_setFormat_3 : decode cL_setFormat 3 = .ok (.invokevirtual 22, 3) := by decide +kernel
theorem dL_setFormat_6 : decode cL_setFormat 6 = .ok (.ireturn, 1) := by decide +kernel
theorem dL_setFormat_7 : decode cL_setFormat 7 = .ok (.astore_n 3, 1) := by decide +kernel
theorem dL_setFormat_8 : decode cL_setFormat 8 = .ok (.ldc 21, 2) := by decide +kernel
theorem dL_setFormat_10 : decode cL_setFormat 10 = .ok (.ireturn, 1) := by decide +kernel
set_option maxRecDepth 20000 in
theorem ggL_ban_X6_ban : GoodIn wsL_ban wsX6_ban := goodIn_ca (goodIn_r _ [7, 8, 9, 10, 11, 12, 13, 6, 14, 15, 16, 17, 18, 19, 20, 21, 22, 23, 24, 25, 26, 27, 28, 29, 30, 31, 32, 33, 34, 35, 36, 37, 38, 39, 40, 41, 42, 43, 44, 45, 46, 47, 48, 49, 50, 51, 52, 53, 54, 55, 56, 57, 58, 59, 60, 61, 62, 63, 64, 65, 66, 67, 68, 69, 70, 71] (by decide +kernel) (by decide +kernel)) (goodIn_sub (fun _ h => List.mem_cons_of_mem _ (List.mem_append_right _ h)) (by decide +kernel))
set_option maxRecDepth 20000 in
theorem gL_ban_X6_ban : GoodIn wsL_ban (wsV RL 26 RX6 yX6_ban wsX6_ban) := goodIn_app (goodIn_of _ (by decide +kernel)) ggL_ban_X6_ban
theorem dL_ban_0 : decode cL_ban 0 = .ok (.aload_n 0, 1) := by decide +kernel
theorem dL_ban_1 : decode cL_ban 1 = .ok (.iload_n 1, 1) := by decide +kernel
theorem dL_ban_2 : decode cL_ban 2 = .ok (.iload_n 2, 1) := by decide +kernel
theorem dL_ban_3 : decode cL_ban 3 = .ok (.invokevirtual 26, 3) := by decide +kernel
theorem dL_ban_6 : decode cL_ban 6 = .ok (.ireturn, 1) := by decide +kernel
theorem dL_ban_7 : decode cL_ban 7 = .ok (.astore_n 3, 1) := by decide +kernel
theorem dL_ban_8 : decode cL_ban 8 = .ok (.ldc 18, 2) := by decide +kernel
theorem dL_ban_10 : decode cL_ban 10 = .ok (.ireturn, 1) := by decide +kernel
set_option maxRecDepth 20000 in
theorem ggL_print_X6_print : GoodIn wsL_print wsX6_print := goodIn_ca (goodIn_ca (goodIn_r _ [9, 10, 11, 12, 13, 14, 15, 16, 17, 8, 18, 19, 20, 21, 22, 23, 24, 25, 26, 27, 28, 29, 30, 31, 32, 33, 34, 35, 36, 37, 38, 39, 40, 41, 42, 43, 44, 45, 46, 47, 48] (by decide +kernel) (by decide +kernel)) (goodIn_sub (fun _ h => List.mem_cons_of_mem _ (List.mem_append_left _ (List.mem_append_right _ h))) (by decide +kernel))) (goodIn_sub (fun _ h => List.mem_cons_of_mem _ (List.mem_append_right _ h)) (by decide +kernel))
set_option maxRecDepth 20000 in
theorem gL_print_X6_print : GoodIn wsL_print (wsV RL 30 RX6 yX6_print wsX6_print) := goodIn_app (goodIn_of _ (by decide +kernel)) ggL_print_X6_print
theorem dL_print_0 : decode cL_print 0 = .ok (.aload_n 0, 1) := by decide +kernel
theorem dL_print_1 : decode cL_print 1 = .ok (.iload_n 1, 1) := by decide +kernel
theorem dL_print_2 : decode cL_print 2 = .ok (.iload_n 2, 1) := by decide +kernel
theorem dL_print_3 : decode cL_print 3 = .ok (.invokevirtual 30, 3) := by decide +kernel
theorem dL_print_6 : decode cL_print 6 = .ok (.ireturn, 1) := by decide +kernel
theorem dL_print_7 : decode cL_print 7 = .ok (.astore_n 3, 1) := by decide +kernel
theorem dL_print_8 : decode cL_print 8 = .ok (.ldc 18, 2) := by decide +kernel
theorem dL_print_10 : decode cL_print 10 = .ok (.ireturn, 1) := by decide +kernel
theorem dL_print_11 : decode cL_print 11 = .ok (.astore_n 3, 1) := by decide +kernel
theorem dL_print_12 : decode cL_print 12 = .ok (.ldc 35, 2) := by decide +kernel
theorem dL_print_14 : decode cL_print 14 = .ok (.ireturn, 1) := by decide +kernel
set_option maxRecDepth 20000 in
theorem ggL_deck_X6_deck : GoodIn wsL_deck wsX6_deck := goodIn_ca (goodIn_ca (goodIn_r _ [9, 10, 11, 12, 13, 14, 15, 8, 16, 17, 18, 19, 20, 21, 22, 23, 24, 25, 26, 27, 28, 29, 30, 31, 32, 33, 34, 35, 36, 37, 38] (by decide +kernel) (by decide +kernel)) (goodIn_sub (fun _ h => List.mem_cons_of_mem _ (List.mem_append_left _ (List.mem_append_right _ h))) (by decide +kernel))) (goodIn_sub (fun _ h => List.mem_cons_of_mem _ (List.mem_append_right _ h)) (by decide +kernel))
set_option maxRecDepth 20000 in
theorem gL_deck_X6_deck : GoodIn wsL_deck (wsV RL 36 RX6 yX6_deck wsX6_deck) := goodIn_app (goodIn_of _ (by decide +kernel)) ggL_deck_X6_deck
theorem dL_deck_0 : decode cL_deck 0 = .ok (.aload_n 0, 1) := by decide +kernel
theorem dL_deck_1 : decode cL_deck 1 = .ok (.iload_n 1, 1) := by decide +kernel
theorem dL_deck_2 : decode cL_deck 2 = .ok (.invokevirtual 36, 3) := by decide +kernel
theorem dL_deck_5 : decode cL_deck 5 = .ok (.ireturn, 1) := by decide +kernel
theorem dL_deck_6 : decode cL_deck 6 = .ok (.astore_n 2, 1) := by decide +kernel
theorem dL_deck_7 : decode cL_deck 7 = .ok (.ldc 18, 2) := by decide +kernel
theorem dL_deck_9 : decode cL_deck 9 = .ok (.ireturn, 1) := by decide +kernel
theorem dL_deck_10 : decode cL_deck 10 = .ok (.astore_n 2, 1) := by decide +kernel
theorem dL_deck_11 : decode cL_deck 11 = .ok (.ldc 35, 2) := by decide +kernel
theorem dL_deck_13 : decode cL_deck 13 = .ok (.ireturn, 1) := by decide +kernel
set_option maxRecDepth 20000 in
theorem ggL_add_X6_add : GoodIn wsL_add wsX6_add := goodIn_ca (goodIn_ca (goodIn_ca (goodIn_r _ [11, 12, 13, 14, 15, 16, 17, 18, 19, 20, 21, 22, 23, 10, 24, 25, 26, 27, 28, 29, 30, 31, 32, 33, 34, 35, 36, 37, 38, 39, 40, 41, 42, 43, 44, 45, 46, 47, 48, 49, 50, 51, 52, 53, 54, 55, 56, 57, 58, 59, 60] (by decide +kernel) (by decide +kernel)) (goodIn_sub (fun _ h => List.mem_cons_of_mem _ (List.mem_append_left _ (List.mem_append_left _ (List.mem_append_right _ h)))) (by decide +kernel))) (goodIn_sub (fun _ h => List.mem_cons_of_mem _ (List.mem_append_left _ (List.mem_append_right _ h))) (by decide +kernel))) (goodIn_sub (fun _ h => List.mem_cons_of_mem _ (List.mem_append_right _ h)) (by decide +kernel))
set_option maxRecDepth 20000 in
theorem gL_add_X6_add : GoodIn wsL_add (wsV RL 40 RX6 yX6_add wsX6_add) := goodIn_app (goodIn_of _ (by decide +kernel)) ggL_add_X6_add
theorem dL_add_0 : decode cL_add 0 = .ok (.aload_n 0, 1) := by decide +kernel
theorem dL_add_1 : decode cL_add 1 = .ok (.iload_n 1, 1) := by decide +kernel
theorem dL_add_2 : decode cL_add 2 = .ok (.iload_n 2, 1) := by decide +kernel
theorem dL_add_3 : decode cL_add 3 = .ok (.invokevirtual 40, 3) := by decide +kernel
theorem dL_add_6 : decode cL_add 6 = .ok (.ireturn, 1) := by decide +kernel
theorem dL_add_7 : decode cL_add 7 = .ok (.astore_n 3, 1) := by decide +kernel
theorem dL_add_8 : decode cL_add 8 = .ok (.ldc 18, 2) := by decide +kernel
theorem dL_add_10 : decode cL_add 10 = .ok (.ireturn, 1) := by decide +kernel
theorem dL_add_11 : decode cL_add 11 = .ok (.astore_n 3, 1) := by decide +kernel
theorem dL_add_12 : decode cL_add 12 = .ok (.ldc 21, 2) := by decide +kernel
theorem dL_add_14 : decode cL_add 14 = .ok (.ireturn, 1) := by decide +kernel
theorem dL_add_15 : decode cL_add 15 = .ok (.astore_n 3, 1) := by decide +kernel
theorem dL_add_16 : decode cL_add 16 = .ok (.ldc 35, 2) := by decide +kernel
theorem dL_add_18 : decode cL_add 18 = .ok (.ireturn, 1) := by decide +kernel
set_option maxRecDepth 20000 in
theorem ggL_cut_X6_cut : GoodIn wsL_cut wsX6_cut := goodIn_ca (goodIn_r _ [7, 8, 9, 10, 11, 6, 12, 13, 14, 15, 16, 17, 18, 19, 20, 21, 22, 23, 24, 25, 26, 27, 28, 29, 30, 31, 32, 33, 34, 35, 36, 37, 38, 39, 40] (by decide +kernel) (by decide +kernel)) (goodIn_sub (fun _ h => List.mem_cons_of_mem _ (List.mem_append_right _ h)) (by decide +kernel))
set_option maxRecDepth 20000 in
theorem gL_cut_X6_cut : GoodIn wsL_cut (wsV RL 43 RX6 yX6_cut wsX6_cut) := goodIn_app (goodIn_of _ (by decide +kernel)) ggL_cut_X6_cut
theorem dL_cut_0 : decode cL_cut 0 = .ok (.aload_n 0, 1) := by decide +kernel
theorem dL_cut_1 : decode cL_cut 1 = .ok (.iload_n 1, 1) := by decide +kernel
theorem dL_cut_2 : decode cL_cut 2 = .ok (.iload_n 2, 1) := by decide +kernel
theorem dL_cut_3 : decode cL_cut 3 = .ok (.invokevirtual 43, 3) := by decide +kernel
theorem dL_cut_6 : decode cL_cut 6 = .ok (.ireturn, 1) := by decide +kernel
theorem dL_cut_7 : decode cL_cut 7 = .ok (.astore_n 3, 1) := by decide +kernel
theorem dL_cut_8 : decode cL_cut 8 = .ok (.ldc 18, 2) := by decide +kernel
theorem dL_cut_10 : decode cL_cut 10 = .ok (.ireturn, 1) := by decide +kernel
set_option maxRecDepth 20000 in
theorem ggL_play_X6_play : GoodIn wsL_play wsX6_play := goodIn_ca (goodIn_ca (goodIn_ca (goodIn_r _ [11, 12, 13, 14, 15, 16, 17, 18, 19, 20, 21, 22, 10, 23, 24, 25, 26, 27, 28, 29, 30, 31, 32, 33, 34, 35, 36, 37, 38, 39, 40, 41, 42, 43, 44, 45, 46, 47, 48, 49, 50, 51, 52, 53, 54, 55, 56, 57, 58, 59, 60, 61, 62, 63, 64, 65, 66, 67, 68, 69, 70, 71, 72, 73, 74, 75, 76, 77, 78, 79, 80, 81, 82, 83, 84, 85, 86, 87, 88, 89, 90, 91, 92, 93, 94, 95, 96, 97, 98, 99, 100, 101, 102, 103, 104, 105, 106, 107, 108, 109, 110, 111, 112, 113, 114, 115, 116, 117, 118, 119, 120, 121, 122, 123, 124, 125, 126, 127, 128, 129, 130, 131] (by decide +kernel) (by decide +kernel)) (goodIn_sub (fun _ h => List.mem_cons_of_mem _ (List.mem_append_left _ (List.mem_append_left _ (List.mem_append_right _ h)))) (by decide +kernel))) (goodIn_sub (fun _ h => List.mem_cons_of_mem _ (List.mem_append_left _ (List.mem_append_right _ h))) (by decide +kernel))) (goodIn_sub (fun _ h => List.mem_cons_of_mem _ (List.mem_append_right _ h)) (by decide +kernel))
set_option maxRecDepth 20000 in
theorem gL_play_X6_play : GoodIn wsL_play (wsV RL 46 RX6 yX6_play wsX6_play) := goodIn_app (goodIn_of _ (by decide +kernel)) ggL_play_X6_play
theorem dL_play_0 : decode cL_play 0 = .ok (.aload_n 0, 1) := by decide +kernel
theorem dL_play_1 : decode cL_play 1 = .ok (.iload_n 1, 1) := by decide +kernel
theorem dL_play_2 : decode cL_play 2 = .ok (.iload_n 2, 1) := by decide +kernel
theorem dL_play_3 : decode cL_play 3 = .ok (.iload_n 3, 1) := by decide +kernel
theorem dL_play_4 : decode cL_play 4 = .ok (.iload 4, 2) := by decide +kernel
theorem dL_play_6 : decode cL_play 6 = .ok (.invokevirtual 46, 3) := by decide +kernel
theorem dL_play_9 : decode cL_play 9 = .ok (.ireturn, 1) := by decide +kernel
theorem dL_play_10 : decode cL_play 10 = .ok (.astore 5, 2) := by decide +kernel
theorem dL_play_12 : decode cL_play 12 = .ok (.ldc 18, 2) := by decide +kernel
theorem dL_play_14 : decode cL_play 14 = .ok (.ireturn, 1) := by decide +kernel
theorem dL_play_15 : decode cL_play 15 = .ok (.astore 5, 2) := by decide +kernel
theorem dL_play_17 : decode cL_play 17 = .ok (.ldc 21, 2) := by decide +kernel
theorem dL_play_19 : decode cL_play 19 = .ok (.ireturn, 1) := by decide +kernel
theorem dL_play_20 : decode cL_play 20 = .ok (.astore 5, 2) := by decide +kernel
theorem dL_play_22 : decode cL_play 22 = .ok (.ldc 35, 2) := by decide +kernel
theorem dL_play_24 : decode cL_play 24 = .ok (.ireturn, 1) := by decide +kernel
set_option maxRecDepth 20000 in
theorem ggL_offer_X6_offer : GoodIn wsL_offer wsX6_offer := goodIn_ca (goodIn_ca (goodIn_ca (goodIn_r _ [11, 12, 13, 14, 15, 16, 17, 18, 19, 20, 21, 22, 10, 23, 24, 25, 26, 27, 28, 29, 30, 31, 32, 33, 34, 35, 36, 37, 38, 39, 40, 41, 42, 43, 44, 45, 46, 47, 48, 49, 50, 51, 52, 53, 54, 55, 56, 57, 58, 59, 60, 61, 62, 63, 64] (by decide +kernel) (by decide +kernel)) (goodIn_sub (fun _ h => List.mem_cons_of_mem _ (List.mem_append_left _ (List.mem_append_left _ (List.mem_append_right _ h)))) (by decide +kernel))) (goodIn_sub (fun _ h => List.mem_cons_of_mem _ (List.mem_append_left _ (List.mem_append_right _ h))) (by decide +kernel))) (goodIn_sub (fun _ h => List.mem_cons_of_mem _ (List.mem_append_right _ h)) (by decide +kernel))
set_option maxRecDepth 20000 in
theorem gL_offer_X6_offer : GoodIn wsL_offer (wsV RL 50 RX6 yX6_offer wsX6_offer) := goodIn_app (goodIn_of _ (by decide +kernel)) ggL_offer_X6_offer
theorem dL_offer_0 : decode cL_offer 0 = .ok (.aload_n 0, 1) := by decide +kernel
theorem dL_offer_1 : decode cL_offer 1 = .ok (.iload_n 1, 1) := by decide +kernel
theorem dL_offer_2 : decode cL_offer 2 = .ok (.iload_n 2, 1) := by decide +kernel
theorem dL_offer_3 : decode cL_offer 3 = .ok (.invokevirtual 50, 3) := by decide +kernel
theorem dL_offer_6 : decode cL_offer 6 = .ok (.ireturn, 1) := by decide +kernel
theorem dL_offer_7 : decode cL_offer 7 = .ok (.astore_n 3, 1) := by decide +kernel
theorem dL_offer_8 : decode cL_offer 8 = .ok (.ldc 18, 2) := by decide +kernel
theorem dL_offer_10 : decode cL_offer 10 = .ok (.ireturn, 1) := by decide +kernel
theorem dL_offer_11 : decode cL_offer 11 = .ok (.astore_n 3, 1) := by decide +kernel
theorem dL_offer_12 : decode cL_offer 12 = .ok (.ldc 21, 2) := by decide +kernel
theorem dL_offer_14 : decode cL_offer 14 = .ok (.ireturn, 1) := by decide +kernel
theorem dL_offer_15 : decode cL_offer 15 = .ok (.astore_n 3, 1) := by decide +kernel
theorem dL_offer_16 : decode cL_offer 16 = .ok (.ldc 35, 2) := by decide +kernel
theorem dL_offer_18 : decode cL_offer 18 = .ok (.ireturn, 1) := by decide +kernel
set_option maxRecDepth 20000 in
theorem ggL_takeBack_X6_takeBack : GoodIn wsL_takeBack wsX6_takeBack := goodIn_ca (goodIn_ca (goodIn_r _ [9, 10, 11, 12, 13, 14, 15, 16, 17, 8, 18, 19, 20, 21, 22, 23, 24, 25, 26, 27, 28, 29, 30, 31, 32, 33, 34, 35] (by decide +kernel) (by decide +kernel)) (goodIn_sub (fun _ h => List.mem_cons_of_mem _ (List.mem_append_left _ (List.mem_append_right _ h))) (by decide +kernel))) (goodIn_sub (fun _ h => List.mem_cons_of_mem _ (List.mem_append_right _ h)) (by decide +kernel))
set_option maxRecDepth 20000 in
theorem gL_takeBack_X6_takeBack : GoodIn wsL_takeBack (wsV RL 53 RX6 yX6_takeBack wsX6_takeBack) := goodIn_app (goodIn_of _ (by decide +kernel)) ggL_takeBack_X6_takeBack
theorem dL_takeBack_0 : decode cL_takeBack 0 = .ok (.aload_n 0, 1) := by decide +kernel
theorem dL_takeBack_1 : decode cL_takeBack 1 = .ok (.iload_n 1, 1) := by decide +kernel
theorem dL_takeBack_2 : decode cL_takeBack 2 = .ok (.invokevirtual 53, 3) := by decide +kernel
theorem dL_takeBack_5 : decode cL_takeBack 5 = .ok (.ireturn, 1) := by decide +kernel
theorem dL_takeBack_6 : decode cL_takeBack 6 = .ok (.astore_n 2, 1) := by decide +kernel
theorem dL_takeBack_7 : decode cL_takeBack 7 = .ok (.ldc 18, 2) := by decide +kernel
theorem dL_takeBack_9 : decode cL_takeBack 9 = .ok (.ireturn, 1) := by decide +kernel
theorem dL_takeBack_10 : decode cL_takeBack 10 = .ok (.astore_n 2, 1) := by decide +kernel
theorem dL_takeBack_11 : decode cL_takeBack 11 = .ok (.ldc 35, 2) := by decide +kernel
theorem dL_takeBack_13 : decode cL_takeBack 13 = .ok (.ireturn, 1) := by decide +kernel
set_option maxRecDepth 20000 in
theorem ggL_printOf_X6_printOf : GoodIn wsL_printOf wsX6_printOf := goodIn_ca (goodIn_r _ [7, 8, 9, 10, 11, 12, 13, 6, 14, 15, 16, 17, 18, 19, 20, 21, 22, 23, 24, 25, 26, 27, 28] (by decide +kernel) (by decide +kernel)) (goodIn_sub (fun _ h => List.mem_cons_of_mem _ (List.mem_append_right _ h)) (by decide +kernel))
set_option maxRecDepth 20000 in
theorem gL_printOf_X6_printOf : GoodIn wsL_printOf (wsV RL 56 RX6 yX6_printOf wsX6_printOf) := goodIn_app (goodIn_of _ (by decide +kernel)) ggL_printOf_X6_printOf
theorem dL_printOf_0 : decode cL_printOf 0 = .ok (.aload_n 0, 1) := by decide +kernel
theorem dL_printOf_1 : decode cL_printOf 1 = .ok (.iload_n 1, 1) := by decide +kernel
theorem dL_printOf_2 : decode cL_printOf 2 = .ok (.invokevirtual 56, 3) := by decide +kernel
theorem dL_printOf_5 : decode cL_printOf 5 = .ok (.ireturn, 1) := by decide +kernel
theorem dL_printOf_6 : decode cL_printOf 6 = .ok (.astore_n 2, 1) := by decide +kernel
theorem dL_printOf_7 : decode cL_printOf 7 = .ok (.ldc 18, 2) := by decide +kernel
theorem dL_printOf_9 : decode cL_printOf 9 = .ok (.ireturn, 1) := by decide +kernel
set_option maxRecDepth 20000 in
theorem ggL_collectorOf_X6_collectorOf : GoodIn wsL_collectorOf wsX6_collectorOf := goodIn_ca (goodIn_r _ [7, 8, 9, 10, 11, 12, 6, 13, 14, 15, 16, 17, 18, 19, 20, 21, 22, 23, 24, 25, 26, 27] (by decide +kernel) (by decide +kernel)) (goodIn_sub (fun _ h => List.mem_cons_of_mem _ (List.mem_append_right _ h)) (by decide +kernel))
set_option maxRecDepth 20000 in
theorem gL_collectorOf_X6_collectorOf : GoodIn wsL_collectorOf (wsV RL 59 RX6 yX6_collectorOf wsX6_collectorOf) := goodIn_app (goodIn_of _ (by decide +kernel)) ggL_collectorOf_X6_collectorOf
theorem dL_collectorOf_0 : decode cL_collectorOf 0 = .ok (.aload_n 0, 1) := by decide +kernel
theorem dL_collectorOf_1 : decode cL_collectorOf 1 = .ok (.iload_n 1, 1) := by decide +kernel
theorem dL_collectorOf_2 : decode cL_collectorOf 2 = .ok (.invokevirtual 59, 3) := by decide +kernel
theorem dL_collectorOf_5 : decode cL_collectorOf 5 = .ok (.ireturn, 1) := by decide +kernel
theorem dL_collectorOf_6 : decode cL_collectorOf 6 = .ok (.astore_n 2, 1) := by decide +kernel
theorem dL_collectorOf_7 : decode cL_collectorOf 7 = .ok (.ldc 18, 2) := by decide +kernel
theorem dL_collectorOf_9 : decode cL_collectorOf 9 = .ok (.ireturn, 1) := by decide +kernel
set_option maxRecDepth 20000 in
theorem ggL_has_X6_has : GoodIn wsL_has wsX6_has := goodIn_ca (goodIn_r _ [7, 8, 9, 10, 6, 11, 12, 13, 14, 15, 16, 17, 18, 19, 20, 21, 22, 23, 24, 25, 26, 27, 28, 29, 30, 31, 32, 33, 34, 35] (by decide +kernel) (by decide +kernel)) (goodIn_sub (fun _ h => List.mem_cons_of_mem _ (List.mem_append_right _ h)) (by decide +kernel))
set_option maxRecDepth 20000 in
theorem gL_has_X6_has : GoodIn wsL_has (wsV RL 62 RX6 yX6_has wsX6_has) := goodIn_app (goodIn_of _ (by decide +kernel)) ggL_has_X6_has
theorem dL_has_0 : decode cL_has 0 = .ok (.aload_n 0, 1) := by decide +kernel
theorem dL_has_1 : decode cL_has 1 = .ok (.iload_n 1, 1) := by decide +kernel
theorem dL_has_2 : decode cL_has 2 = .ok (.iload_n 2, 1) := by decide +kernel
theorem dL_has_3 : decode cL_has 3 = .ok (.invokevirtual 62, 3) := by decide +kernel
theorem dL_has_6 : decode cL_has 6 = .ok (.ireturn, 1) := by decide +kernel
theorem dL_has_7 : decode cL_has 7 = .ok (.astore_n 3, 1) := by decide +kernel
theorem dL_has_8 : decode cL_has 8 = .ok (.ldc 18, 2) := by decide +kernel
theorem dL_has_10 : decode cL_has 10 = .ok (.ireturn, 1) := by decide +kernel
set_option maxRecDepth 20000 in
theorem ggL_wins_X6_wins : GoodIn wsL_wins wsX6_wins := goodIn_ca (goodIn_r _ [7, 8, 9, 10, 11, 6, 12, 13, 14, 15, 16, 17, 18, 19, 20, 21, 22, 23, 24, 25, 26] (by decide +kernel) (by decide +kernel)) (goodIn_sub (fun _ h => List.mem_cons_of_mem _ (List.mem_append_right _ h)) (by decide +kernel))
set_option maxRecDepth 20000 in
theorem gL_wins_X6_wins : GoodIn wsL_wins (wsV RL 65 RX6 yX6_wins wsX6_wins) := goodIn_app (goodIn_of _ (by decide +kernel)) ggL_wins_X6_wins
theorem dL_wins_0 : decode cL_wins 0 = .ok (.aload_n 0, 1) := by decide +kernel
theorem dL_wins_1 : decode cL_wins 1 = .ok (.iload_n 1, 1) := by decide +kernel
theorem dL_wins_2 : decode cL_wins 2 = .ok (.invokevirtual 65, 3) := by decide +kernel
theorem dL_wins_5 : decode cL_wins 5 = .ok (.ireturn, 1) := by decide +kernel
theorem dL_wins_6 : decode cL_wins 6 = .ok (.astore_n 2, 1) := by decide +kernel
theorem dL_wins_7 : decode cL_wins 7 = .ok (.ldc 18, 2) := by decide +kernel
theorem dL_wins_9 : decode cL_wins 9 = .ok (.ireturn, 1) := by decide +kernel
set_option maxRecDepth 20000 in
theorem ggL_price_X6_price : GoodIn wsL_price wsX6_price := goodIn_ca (goodIn_r _ [7, 8, 9, 10, 11, 12, 6, 13, 14, 15, 16, 17, 18, 19, 20, 21, 22, 23, 24, 25, 26, 27] (by decide +kernel) (by decide +kernel)) (goodIn_sub (fun _ h => List.mem_cons_of_mem _ (List.mem_append_right _ h)) (by decide +kernel))
set_option maxRecDepth 20000 in
theorem gL_price_X6_price : GoodIn wsL_price (wsV RL 68 RX6 yX6_price wsX6_price) := goodIn_app (goodIn_of _ (by decide +kernel)) ggL_price_X6_price
theorem dL_price_0 : decode cL_price 0 = .ok (.aload_n 0, 1) := by decide +kernel
theorem dL_price_1 : decode cL_price 1 = .ok (.iload_n 1, 1) := by decide +kernel
theorem dL_price_2 : decode cL_price 2 = .ok (.invokevirtual 68, 3) := by decide +kernel
theorem dL_price_5 : decode cL_price 5 = .ok (.ireturn, 1) := by decide +kernel
theorem dL_price_6 : decode cL_price 6 = .ok (.astore_n 2, 1) := by decide +kernel
theorem dL_price_7 : decode cL_price 7 = .ok (.ldc 18, 2) := by decide +kernel
theorem dL_price_9 : decode cL_price 9 = .ok (.ireturn, 1) := by decide +kernel
set_option maxRecDepth 20000 in
theorem ggL_isAllowed_X6_isAllowed : GoodIn wsL_isAllowed wsX6_isAllowed := goodIn_ca (goodIn_r _ [7, 8, 9, 10, 11, 12, 13, 6, 14, 15, 16, 17, 18, 19, 20, 21, 22, 23, 24, 25, 26, 27, 28, 29, 30, 31, 32, 33, 34, 35, 36, 37, 38, 39, 40, 41, 42, 43, 44, 45, 46, 47, 48, 49, 50, 51, 52, 53, 54, 55, 56, 57, 58, 59, 60, 61, 62, 63, 64, 65, 66, 67] (by decide +kernel) (by decide +kernel)) (goodIn_sub (fun _ h => List.mem_cons_of_mem _ (List.mem_append_right _ h)) (by decide +kernel))
set_option maxRecDepth 20000 in
theorem gL_isAllowed_X6_isAllowed : GoodIn wsL_isAllowed (wsV RL 71 RX6 yX6_isAllowed wsX6_isAllowed) := goodIn_app (goodIn_of _ (by decide +kernel)) ggL_isAllowed_X6_isAllowed
theorem dL_isAllowed_0 : decode cL_isAllowed 0 = .ok (.aload_n 0, 1) := by decide +kernel
theorem dL_isAllowed_1 : decode cL_isAllowed 1 = .ok (.iload_n 1, 1) := by decide +kernel
theorem dL_isAllowed_2 : decode cL_isAllowed 2 = .ok (.invokevirtual 71, 3) := by decide +kernel
theorem dL_isAllowed_5 : decode cL_isAllowed 5 = .ok (.ifCond .eq 7, 3) := by decide +kernel
theorem dL_isAllowed_8 : decode cL_isAllowed 8 = .ok (.iconst 1, 1) := by decide +kernel
theorem dL_isAllowed_9 : decode cL_isAllowed 9 = .ok (.goto 4, 3) := by decide +kernel
theorem dL_isAllowed_12 : decode cL_isAllowed 12 = .ok (.iconst 0, 1) := by decide +kernel
theorem dL_isAllowed_13 : decode cL_isAllowed 13 = .ok (.ireturn, 1) := by decide +kernel
theorem dL_isAllowed_14 : decode cL_isAllowed 14 = .ok (.astore_n 2, 1) := by decide +kernel
theorem dL_isAllowed_15 : decode cL_isAllowed 15 = .ok (.ldc 18, 2) := by decide +kernel
theorem dL_isAllowed_17 : decode cL_isAllowed 17 = .ok (.ireturn, 1) := by decide +kernel
set_option maxRecDepth 20000 in
theorem ggL_shuffled_X6_shuffled : GoodIn wsL_shuffled wsX6_shuffled := goodIn_ca (goodIn_ca (goodIn_r _ [9, 10, 11, 12, 13, 14, 15, 8, 16, 17, 18, 19, 20, 21, 22, 23, 24, 25, 26, 27, 28, 29, 30, 31, 32, 33, 34, 35, 36, 37, 38, 39, 40, 41, 42, 43, 44, 45, 46, 47, 48, 49, 50, 51, 52, 53, 54, 55] (by decide +kernel) (by decide +kernel)) (goodIn_sub (fun _ h => List.mem_cons_of_mem _ (List.mem_append_left _ (List.mem_append_right _ h))) (by decide +kernel))) (goodIn_sub (fun _ h => List.mem_cons_of_mem _ (List.mem_append_right _ h)) (by decide +kernel))
set_option maxRecDepth 20000 in
theorem gL_shuffled_X6_shuffled : GoodIn wsL_shuffled (wsV RL 75 RX6 yX6_shuffled wsX6_shuffled) := goodIn_app (goodIn_of _ (by decide +kernel)) ggL_shuffled_X6_shuffled
theorem dL_shuffled_0 : decode cL_shuffled 0 = .ok (.aload_n 0, 1) := by decide +kernel
theorem dL_shuffled_1 : decode cL_shuffled 1 = .ok (.iload_n 1, 1) := by decide +kernel
theorem dL_shuffled_2 : decode cL_shuffled 2 = .ok (.iload_n 2, 1) := by decide +kernel
theorem dL_shuffled_3 : decode cL_shuffled 3 = .ok (.iload_n 3, 1) := by decide +kernel
theorem dL_shuffled_4 : decode cL_shuffled 4 = .ok (.invokevirtual 75, 3) := by decide +kernel
theorem dL_shuffled_7 : decode cL_shuffled 7 = .ok (.ireturn, 1) := by decide +kernel
theorem dL_shuffled_8 : decode cL_shuffled 8 = .ok (.astore 4, 2) := by decide +kernel
theorem dL_shuffled_10 : decode cL_shuffled 10 = .ok (.ldc 18, 2) := by decide +kernel
theorem dL_shuffled_12 : decode cL_shuffled 12 = .ok (.ireturn, 1) := by decide +kernel
theorem dL_shuffled_13 : decode cL_shuffled 13 = .ok (.astore 4, 2) := by decide +kernel
theorem dL_shuffled_15 : decode cL_shuffled 15 = .ok (.ldc 21, 2) := by decide +kernel
theorem dL_shuffled_17 : decode cL_shuffled 17 = .ok (.ireturn, 1) := by decide +kernel
set_option maxRecDepth 20000 in
theorem ggL_orders_X6_orders : GoodIn wsL_orders wsX6_orders := goodIn_ca (goodIn_ca (goodIn_r _ [9, 10, 11, 12, 13, 14, 15, 8, 16, 17, 18, 19, 20, 21, 22, 23, 24, 25, 26, 27, 28, 29, 30, 31, 32, 33, 34, 35, 36, 37, 38, 39, 40, 41, 42, 43, 44, 45, 46, 47, 48, 49, 50, 51, 52, 53, 54, 55, 56, 57, 58, 59, 60, 61, 62, 63] (by decide +kernel) (by decide +kernel)) (goodIn_sub (fun _ h => List.mem_cons_of_mem _ (List.mem_append_left _ (List.mem_append_right _ h))) (by decide +kernel))) (goodIn_sub (fun _ h => List.mem_cons_of_mem _ (List.mem_append_right _ h)) (by decide +kernel))
set_option maxRecDepth 20000 in
theorem gL_orders_X6_orders : GoodIn wsL_orders (wsV RL 78 RX6 yX6_orders wsX6_orders) := goodIn_app (goodIn_of _ (by decide +kernel)) ggL_orders_X6_orders
theorem dL_orders_0 : decode cL_orders 0 = .ok (.aload_n 0, 1) := by decide +kernel
theorem dL_orders_1 : decode cL_orders 1 = .ok (.iload_n 1, 1) := by decide +kernel
theorem dL_orders_2 : decode cL_orders 2 = .ok (.iload_n 2, 1) := by decide +kernel
theorem dL_orders_3 : decode cL_orders 3 = .ok (.iload_n 3, 1) := by decide +kernel
theorem dL_orders_4 : decode cL_orders 4 = .ok (.invokevirtual 78, 3) := by decide +kernel
theorem dL_orders_7 : decode cL_orders 7 = .ok (.ireturn, 1) := by decide +kernel
theorem dL_orders_8 : decode cL_orders 8 = .ok (.astore 4, 2) := by decide +kernel
theorem dL_orders_10 : decode cL_orders 10 = .ok (.ldc 18, 2) := by decide +kernel
theorem dL_orders_12 : decode cL_orders 12 = .ok (.ireturn, 1) := by decide +kernel
theorem dL_orders_13 : decode cL_orders 13 = .ok (.astore 4, 2) := by decide +kernel
theorem dL_orders_15 : decode cL_orders 15 = .ok (.ldc 21, 2) := by decide +kernel
theorem dL_orders_17 : decode cL_orders 17 = .ok (.ireturn, 1) := by decide +kernel
set_option maxRecDepth 20000 in
theorem ggL_ordersByAll_X6_ordersByAll : GoodIn wsL_ordersByAll wsX6_ordersByAll := goodIn_ca (goodIn_ca (goodIn_ca (goodIn_r _ [11, 12, 13, 14, 15, 16, 17, 18, 19, 10, 20, 21, 22, 23, 24, 25, 26, 27, 28, 29, 30, 31, 32, 33, 34, 35, 36, 37, 38, 39, 40, 41, 42, 43, 44, 45, 46, 47, 48, 49, 50, 51, 52, 53, 54, 55, 56, 57, 58, 59] (by decide +kernel) (by decide +kernel)) (goodIn_sub (fun _ h => List.mem_cons_of_mem _ (List.mem_append_left _ (List.mem_append_left _ (List.mem_append_right _ h)))) (by decide +kernel))) (goodIn_sub (fun _ h => List.mem_cons_of_mem _ (List.mem_append_left _ (List.mem_append_right _ h))) (by decide +kernel))) (goodIn_sub (fun _ h => List.mem_cons_of_mem _ (List.mem_append_right _ h)) (by decide +kernel))
set_option maxRecDepth 20000 in
theorem gL_ordersByAll_X6_ordersByAll : GoodIn wsL_ordersByAll (wsV RL 81 RX6 yX6_ordersByAll wsX6_ordersByAll) := goodIn_app (goodIn_of _ (by decide +kernel)) ggL_ordersByAll_X6_ordersByAll
theorem dL_ordersByAll_0 : decode cL_ordersByAll 0 = .ok (.aload_n 0, 1) := by decide +kernel
theorem dL_ordersByAll_1 : decode cL_ordersByAll 1 = .ok (.iload_n 1, 1) := by decide +kernel
theorem dL_ordersByAll_2 : decode cL_ordersByAll 2 = .ok (.iload_n 2, 1) := by decide +kernel
theorem dL_ordersByAll_3 : decode cL_ordersByAll 3 = .ok (.iload_n 3, 1) := by decide +kernel
theorem dL_ordersByAll_4 : decode cL_ordersByAll 4 = .ok (.invokevirtual 81, 3) := by decide +kernel
theorem dL_ordersByAll_7 : decode cL_ordersByAll 7 = .ok (.ireturn, 1) := by decide +kernel
theorem dL_ordersByAll_8 : decode cL_ordersByAll 8 = .ok (.astore 4, 2) := by decide +kernel
theorem dL_ordersByAll_10 : decode cL_ordersByAll 10 = .ok (.ldc 18, 2) := by decide +kernel
theorem dL_ordersByAll_12 : decode cL_ordersByAll 12 = .ok (.ireturn, 1) := by decide +kernel
theorem dL_ordersByAll_13 : decode cL_ordersByAll 13 = .ok (.astore 4, 2) := by decide +kernel
theorem dL_ordersByAll_15 : decode cL_ordersByAll 15 = .ok (.ldc 21, 2) := by decide +kernel
theorem dL_ordersByAll_17 : decode cL_ordersByAll 17 = .ok (.ireturn, 1) := by decide +kernel
theorem dL_ordersByAll_18 : decode cL_ordersByAll 18 = .ok (.astore 4, 2) := by decide +kernel
theorem dL_ordersByAll_20 : decode cL_ordersByAll 20 = .ok (.ldc 35, 2) := by decide +kernel
theorem dL_ordersByAll_22 : decode cL_ordersByAll 22 = .ok (.ireturn, 1) := by decide +kernel
set_option maxRecDepth 20000 in
theorem ggL_isOpen_X6_isOpen : GoodIn wsL_isOpen wsX6_isOpen := goodIn_ca (goodIn_r _ [7, 8, 9, 10, 11, 12, 6, 13, 14, 15, 16, 17, 18, 19, 20, 21, 22, 23, 24, 25, 26, 27, 28, 29, 30] (by decide +kernel) (by decide +kernel)) (goodIn_sub (fun _ h => List.mem_cons_of_mem _ (List.mem_append_right _ h)) (by decide +kernel))
set_option maxRecDepth 20000 in
theorem gL_isOpen_X6_isOpen : GoodIn wsL_isOpen (wsV RL 84 RX6 yX6_isOpen wsX6_isOpen) := goodIn_app (goodIn_of _ (by decide +kernel)) ggL_isOpen_X6_isOpen
theorem dL_isOpen_0 : decode cL_isOpen 0 = .ok (.aload_n 0, 1) := by decide +kernel
theorem dL_isOpen_1 : decode cL_isOpen 1 = .ok (.iload_n 1, 1) := by decide +kernel
theorem dL_isOpen_2 : decode cL_isOpen 2 = .ok (.invokevirtual 84, 3) := by decide +kernel
theorem dL_isOpen_5 : decode cL_isOpen 5 = .ok (.ifCond .eq 7, 3) := by decide +kernel
theorem dL_isOpen_8 : decode cL_isOpen 8 = .ok (.iconst 1, 1) := by decide +kernel
theorem dL_isOpen_9 : decode cL_isOpen 9 = .ok (.goto 4, 3) := by decide +kernel
theorem dL_isOpen_12 : decode cL_isOpen 12 = .ok (.iconst 0, 1) := by decide +kernel
theorem dL_isOpen_13 : decode cL_isOpen 13 = .ok (.ireturn, 1) := by decide +kernel
theorem dL_isOpen_14 : decode cL_isOpen 14 = .ok (.astore_n 2, 1) := by decide +kernel
theorem dL_isOpen_15 : decode cL_isOpen 15 = .ok (.ldc 18, 2) := by decide +kernel
theorem dL_isOpen_17 : decode cL_isOpen 17 = .ok (.ireturn, 1) := by decide +kernel
set_option maxRecDepth 20000 in
theorem ggL_ring_X6_ring : GoodIn wsL_ring wsX6_ring := goodIn_ca (goodIn_r _ [7, 8, 9, 10, 11, 12, 13, 14, 15, 16, 17, 18, 19, 20, 21, 22, 23, 24, 25, 26, 27, 28, 29, 30, 31, 32, 33, 34, 35, 36, 37, 38, 39, 40, 41, 42, 43, 44, 45, 46, 47] (by decide +kernel) (by decide +kernel)) (goodIn_sub (fun _ h => List.mem_cons_of_mem _ (List.mem_append_right _ h)) (by decide +kernel))
set_option maxRecDepth 20000 in
theorem gL_ring_X6_ring : GoodIn wsL_ring (wsV RL 87 RX6 yX6_ring wsX6_ring) := goodIn_app (goodIn_of _ (by decide +kernel)) ggL_ring_X6_ring
theorem dL_ring_0 : decode cL_ring 0 = .ok (.aload_n 0, 1) := by decide +kernel
theorem dL_ring_1 : decode cL_ring 1 = .ok (.iload_n 1, 1) := by decide +kernel
theorem dL_ring_2 : decode cL_ring 2 = .ok (.invokevirtual 87, 3) := by decide +kernel
theorem dL_ring_5 : decode cL_ring 5 = .ok (.ireturn, 1) := by decide +kernel
theorem dL_ring_6 : decode cL_ring 6 = .ok (.astore_n 2, 1) := by decide +kernel
theorem dL_ring_7 : decode cL_ring 7 = .ok (.ldc 18, 2) := by decide +kernel
theorem dL_ring_9 : decode cL_ring 9 = .ok (.ireturn, 1) := by decide +kernel
