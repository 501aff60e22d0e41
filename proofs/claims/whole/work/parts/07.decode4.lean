set_option maxRecDepth 20000 in
theorem ggL_wins_X6_wins : GoodIn wsL_wins wsX6_wins := goodIn_ca (goodIn_r _ [6, 7, 8, 9, 10, 5, 11, 12, 13, 14, 15, 16, 17, 18, 19, 20, 21, 22, 23, 24, 25] (by decide +kernel) (by decide +kernel)) (goodIn_sub (fun _ h => List.mem_cons_of_mem _ (List.mem_append_right _ h)) (by decide +kernel))
set_option maxRecDepth 20000 in
theorem gL_wins_X6_wins : GoodIn wsL_wins (wsV RL 59 RX6 yX6_wins wsX6_wins) := goodIn_app (goodIn_of _ (by decide +kernel)) ggL_wins_X6_wins
theorem dL_wins_0 : decode cL_wins 0 = .ok (.aload_n 2, 1) := by decide +kernel
theorem dL_wins_1 : decode cL_wins 1 = .ok (.iconst 0, 1) := by decide +kernel
theorem dL_wins_2 : decode cL_wins 2 = .ok (.aload_n 0, 1) := by decide +kernel
theorem dL_wins_3 : decode cL_wins 3 = .ok (.iload_n 1, 1) := by decide +kernel
theorem dL_wins_4 : decode cL_wins 4 = .ok (.invokevirtual 59, 3) := by decide +kernel
theorem dL_wins_7 : decode cL_wins 7 = .ok (.i2l, 1) := by decide +kernel
theorem dL_wins_8 : decode cL_wins 8 = .ok (.lastore, 1) := by decide +kernel
theorem dL_wins_9 : decode cL_wins 9 = .ok (.goto 6, 3) := by decide +kernel
theorem dL_wins_12 : decode cL_wins 12 = .ok (.astore_n 3, 1) := by decide +kernel
theorem dL_wins_13 : decode cL_wins 13 = .ok (.iconst 1, 1) := by decide +kernel
theorem dL_wins_14 : decode cL_wins 14 = .ok (.ireturn, 1) := by decide +kernel
theorem dL_wins_15 : decode cL_wins 15 = .ok (.iconst 0, 1) := by decide +kernel
theorem dL_wins_16 : decode cL_wins 16 = .ok (.ireturn, 1) := by decide +kernel
set_option maxRecDepth 20000 in
theorem ggL_price_X6_price : GoodIn wsL_price wsX6_price := goodIn_ca (goodIn_r _ [6, 7, 8, 9, 10, 11, 5, 12, 13, 14, 15, 16, 17, 18, 19, 20, 21, 22, 23, 24, 25, 26] (by decide +kernel) (by decide +kernel)) (goodIn_sub (fun _ h => List.mem_cons_of_mem _ (List.mem_append_right _ h)) (by decide +kernel))
set_option maxRecDepth 20000 in
theorem gL_price_X6_price : GoodIn wsL_price (wsV RL 62 RX6 yX6_price wsX6_price) := goodIn_app (goodIn_of _ (by decide +kernel)) ggL_price_X6_price
theorem dL_price_0 : decode cL_price 0 = .ok (.aload_n 2, 1) := by decide +kernel
theorem dL_price_1 : decode cL_price 1 = .ok (.iconst 0, 1) := by decide +kernel
theorem dL_price_2 : decode cL_price 2 = .ok (.aload_n 0, 1) := by decide +kernel
theorem dL_price_3 : decode cL_price 3 = .ok (.iload_n 1, 1) := by decide +kernel
theorem dL_price_4 : decode cL_price 4 = .ok (.invokevirtual 62, 3) := by decide +kernel
theorem dL_price_7 : decode cL_price 7 = .ok (.i2l, 1) := by decide +kernel
theorem dL_price_8 : decode cL_price 8 = .ok (.lastore, 1) := by decide +kernel
theorem dL_price_9 : decode cL_price 9 = .ok (.goto 6, 3) := by decide +kernel
theorem dL_price_12 : decode cL_price 12 = .ok (.astore_n 3, 1) := by decide +kernel
theorem dL_price_13 : decode cL_price 13 = .ok (.iconst 1, 1) := by decide +kernel
theorem dL_price_14 : decode cL_price 14 = .ok (.ireturn, 1) := by decide +kernel
theorem dL_price_15 : decode cL_price 15 = .ok (.iconst 0, 1) := by decide +kernel
theorem dL_price_16 : decode cL_price 16 = .ok (.ireturn, 1) := by decide +kernel
set_option maxRecDepth 20000 in
theorem ggL_isAllowed_X6_isAllowed : GoodIn wsL_isAllowed wsX6_isAllowed := goodIn_ca (goodIn_r _ [6, 7, 8, 9, 10, 11, 12, 5, 13, 14, 15, 16, 17, 18, 19, 20, 21, 22, 23, 24, 25, 26, 27, 28, 29, 30, 31, 32, 33, 34, 35, 36, 37, 38, 39, 40, 41, 42, 43, 44, 45, 46, 47, 48, 49, 50, 51, 52, 53, 54, 55, 56, 57, 58, 59, 60, 61, 62, 63, 64, 65, 66] (by decide +kernel) (by decide +kernel)) (goodIn_sub (fun _ h => List.mem_cons_of_mem _ (List.mem_append_right _ h)) (by decide +kernel))
set_option maxRecDepth 20000 in
theorem gL_isAllowed_X6_isAllowed : GoodIn wsL_isAllowed (wsV RL 65 RX6 yX6_isAllowed wsX6_isAllowed) := goodIn_app (goodIn_of _ (by decide +kernel)) ggL_isAllowed_X6_isAllowed
theorem dL_isAllowed_0 : decode cL_isAllowed 0 = .ok (.aload_n 2, 1) := by decide +kernel
theorem dL_isAllowed_1 : decode cL_isAllowed 1 = .ok (.iconst 0, 1) := by decide +kernel
theorem dL_isAllowed_2 : decode cL_isAllowed 2 = .ok (.aload_n 0, 1) := by decide +kernel
theorem dL_isAllowed_3 : decode cL_isAllowed 3 = .ok (.iload_n 1, 1) := by decide +kernel
theorem dL_isAllowed_4 : decode cL_isAllowed 4 = .ok (.invokevirtual 65, 3) := by decide +kernel
theorem dL_isAllowed_7 : decode cL_isAllowed 7 = .ok (.ifCond .eq 7, 3) := by decide +kernel
theorem dL_isAllowed_10 : decode cL_isAllowed 10 = .ok (.lconst 1, 1) := by decide +kernel
theorem dL_isAllowed_11 : decode cL_isAllowed 11 = .ok (.goto 4, 3) := by decide +kernel
theorem dL_isAllowed_14 : decode cL_isAllowed 14 = .ok (.lconst 0, 1) := by decide +kernel
theorem dL_isAllowed_15 : decode cL_isAllowed 15 = .ok (.lastore, 1) := by decide +kernel
theorem dL_isAllowed_16 : decode cL_isAllowed 16 = .ok (.goto 6, 3) := by decide +kernel
theorem dL_isAllowed_19 : decode cL_isAllowed 19 = .ok (.astore_n 3, 1) := by decide +kernel
theorem dL_isAllowed_20 : decode cL_isAllowed 20 = .ok (.iconst 1, 1) := by decide +kernel
theorem dL_isAllowed_21 : decode cL_isAllowed 21 = .ok (.ireturn, 1) := by decide +kernel
theorem dL_isAllowed_22 : decode cL_isAllowed 22 = .ok (.iconst 0, 1) := by decide +kernel
theorem dL_isAllowed_23 : decode cL_isAllowed 23 = .ok (.ireturn, 1) := by decide +kernel
set_option maxRecDepth 20000 in
theorem ggL_shuffled_X6_shuffled : GoodIn wsL_shuffled wsX6_shuffled := goodIn_ca (goodIn_ca (goodIn_r _ [7, 8, 9, 10, 11, 12, 13, 6, 14, 15, 16, 17, 18, 19, 20, 21, 22, 23, 24, 25, 26, 27, 28, 29, 30, 31, 32, 33, 34, 35, 36, 37, 38, 39, 40, 41, 42, 43, 44, 45, 46, 47, 48, 49, 50, 51, 52, 53] (by decide +kernel) (by decide +kernel)) (goodIn_sub (fun _ h => List.mem_cons_of_mem _ (List.mem_append_left _ (List.mem_append_right _ h))) (by decide +kernel))) (goodIn_sub (fun _ h => List.mem_cons_of_mem _ (List.mem_append_right _ h)) (by decide +kernel))
set_option maxRecDepth 20000 in
theorem gL_shuffled_X6_shuffled : GoodIn wsL_shuffled (wsV RL 69 RX6 yX6_shuffled wsX6_shuffled) := goodIn_app (goodIn_of _ (by decide +kernel)) ggL_shuffled_X6_shuffled
theorem dL_shuffled_0 : decode cL_shuffled 0 = .ok (.aload 4, 2) := by decide +kernel
theorem dL_shuffled_2 : decode cL_shuffled 2 = .ok (.iconst 0, 1) := by decide +kernel
theorem dL_shuffled_3 : decode cL_shuffled 3 = .ok (.aload_n 0, 1) := by decide +kernel
theorem dL_shuffled_4 : decode cL_shuffled 4 = .ok (.iload_n 1, 1) := by decide +kernel
theorem dL_shuffled_5 : decode cL_shuffled 5 = .ok (.iload_n 2, 1) := by decide +kernel
theorem dL_shuffled_6 : decode cL_shuffled 6 = .ok (.iload_n 3, 1) := by decide +kernel
theorem dL_shuffled_7 : decode cL_shuffled 7 = .ok (.invokevirtual 69, 3) := by decide +kernel
theorem dL_shuffled_10 : decode cL_shuffled 10 = .ok (.i2l, 1) := by decide +kernel
theorem dL_shuffled_11 : decode cL_shuffled 11 = .ok (.lastore, 1) := by decide +kernel
theorem dL_shuffled_12 : decode cL_shuffled 12 = .ok (.goto 11, 3) := by decide +kernel
theorem dL_shuffled_15 : decode cL_shuffled 15 = .ok (.astore 5, 2) := by decide +kernel
theorem dL_shuffled_17 : decode cL_shuffled 17 = .ok (.iconst 1, 1) := by decide +kernel
theorem dL_shuffled_18 : decode cL_shuffled 18 = .ok (.ireturn, 1) := by decide +kernel
theorem dL_shuffled_19 : decode cL_shuffled 19 = .ok (.astore 5, 2) := by decide +kernel
theorem dL_shuffled_21 : decode cL_shuffled 21 = .ok (.iconst 2, 1) := by decide +kernel
theorem dL_shuffled_22 : decode cL_shuffled 22 = .ok (.ireturn, 1) := by decide +kernel
theorem dL_shuffled_23 : decode cL_shuffled 23 = .ok (.iconst 0, 1) := by decide +kernel
theorem dL_shuffled_24 : decode cL_shuffled 24 = .ok (.ireturn, 1) := by decide +kernel
set_option maxRecDepth 20000 in
theorem ggL_orders_X6_orders : GoodIn wsL_orders wsX6_orders := goodIn_ca (goodIn_ca (goodIn_r _ [7, 8, 9, 10, 11, 12, 13, 6, 14, 15, 16, 17, 18, 19, 20, 21, 22, 23, 24, 25, 26, 27, 28, 29, 30, 31, 32, 33, 34, 35, 36, 37, 38, 39, 40, 41, 42, 43, 44, 45, 46, 47, 48, 49, 50, 51, 52, 53, 54, 55, 56, 57, 58, 59, 60, 61] (by decide +kernel) (by decide +kernel)) (goodIn_sub (fun _ h => List.mem_cons_of_mem _ (List.mem_append_left _ (List.mem_append_right _ h))) (by decide +kernel))) (goodIn_sub (fun _ h => List.mem_cons_of_mem _ (List.mem_append_right _ h)) (by decide +kernel))
set_option maxRecDepth 20000 in
theorem gL_orders_X6_orders : GoodIn wsL_orders (wsV RL 72 RX6 yX6_orders wsX6_orders) := goodIn_app (goodIn_of _ (by decide +kernel)) ggL_orders_X6_orders
theorem dL_orders_0 : decode cL_orders 0 = .ok (.aload 4, 2) := by decide +kernel
theorem dL_orders_2 : decode cL_orders 2 = .ok (.iconst 0, 1) := by decide +kernel
theorem dL_orders_3 : decode cL_orders 3 = .ok (.aload_n 0, 1) := by decide +kernel
theorem dL_orders_4 : decode cL_orders 4 = .ok (.iload_n 1, 1) := by decide +kernel
theorem dL_orders_5 : decode cL_orders 5 = .ok (.iload_n 2, 1) := by decide +kernel
theorem dL_orders_6 : decode cL_orders 6 = .ok (.iload_n 3, 1) := by decide +kernel
theorem dL_orders_7 : decode cL_orders 7 = .ok (.invokevirtual 72, 3) := by decide +kernel
theorem dL_orders_10 : decode cL_orders 10 = .ok (.i2l, 1) := by decide +kernel
theorem dL_orders_11 : decode cL_orders 11 = .ok (.lastore, 1) := by decide +kernel
theorem dL_orders_12 : decode cL_orders 12 = .ok (.goto 11, 3) := by decide +kernel
theorem dL_orders_15 : decode cL_orders 15 = .ok (.astore 5, 2) := by decide +kernel
theorem dL_orders_17 : decode cL_orders 17 = .ok (.iconst 1, 1) := by decide +kernel
theorem dL_orders_18 : decode cL_orders 18 = .ok (.ireturn, 1) := by decide +kernel
theorem dL_orders_19 : decode cL_orders 19 = .ok (.astore 5, 2) := by decide +kernel
theorem dL_orders_21 : decode cL_orders 21 = .ok (.iconst 2, 1) := by decide +kernel
theorem dL_orders_22 : decode cL_orders 22 = .ok (.ireturn, 1) := by decide +kernel
theorem dL_orders_23 : decode cL_orders 23 = .ok (.iconst 0, 1) := by decide +kernel
theorem dL_orders_24 : decode cL_orders 24 = .ok (.ireturn, 1) := by decide +kernel
set_option maxRecDepth 20000 in
theorem ggL_ordersByAll_X6_ordersByAll : GoodIn wsL_ordersByAll wsX6_ordersByAll := goodIn_ca (goodIn_ca (goodIn_ca (goodIn_r _ [8, 9, 10, 11, 12, 13, 14, 15, 16, 7, 17, 18, 19, 20, 21, 22, 23, 24, 25, 26, 27, 28, 29, 30, 31, 32, 33, 34, 35, 36, 37, 38, 39, 40, 41, 42, 43, 44, 45, 46, 47, 48, 49, 50, 51, 52, 53, 54, 55, 56] (by decide +kernel) (by decide +kernel)) (goodIn_sub (fun _ h => List.mem_cons_of_mem _ (List.mem_append_left _ (List.mem_append_left _ (List.mem_append_right _ h)))) (by decide +kernel))) (goodIn_sub (fun _ h => List.mem_cons_of_mem _ (List.mem_append_left _ (List.mem_append_right _ h))) (by decide +kernel))) (goodIn_sub (fun _ h => List.mem_cons_of_mem _ (List.mem_append_right _ h)) (by decide +kernel))
set_option maxRecDepth 20000 in
theorem gL_ordersByAll_X6_ordersByAll : GoodIn wsL_ordersByAll (wsV RL 75 RX6 yX6_ordersByAll wsX6_ordersByAll) := goodIn_app (goodIn_of _ (by decide +kernel)) ggL_ordersByAll_X6_ordersByAll
theorem dL_ordersByAll_0 : decode cL_ordersByAll 0 = .ok (.aload 4, 2) := by decide +kernel
theorem dL_ordersByAll_2 : decode cL_ordersByAll 2 = .ok (.iconst 0, 1) := by decide +kernel
theorem dL_ordersByAll_3 : decode cL_ordersByAll 3 = .ok (.aload_n 0, 1) := by decide +kernel
theorem dL_ordersByAll_4 : decode cL_ordersByAll 4 = .ok (.iload_n 1, 1) := by decide +kernel
theorem dL_ordersByAll_5 : decode cL_ordersByAll 5 = .ok (.iload_n 2, 1) := by decide +kernel
theorem dL_ordersByAll_6 : decode cL_ordersByAll 6 = .ok (.iload_n 3, 1) := by decide +kernel
theorem dL_ordersByAll_7 : decode cL_ordersByAll 7 = .ok (.invokevirtual 75, 3) := by decide +kernel
theorem dL_ordersByAll_10 : decode cL_ordersByAll 10 = .ok (.i2l, 1) := by decide +kernel
theorem dL_ordersByAll_11 : decode cL_ordersByAll 11 = .ok (.lastore, 1) := by decide +kernel
theorem dL_ordersByAll_12 : decode cL_ordersByAll 12 = .ok (.goto 15, 3) := by decide +kernel
theorem dL_ordersByAll_15 : decode cL_ordersByAll 15 = .ok (.astore 5, 2) := by decide +kernel
theorem dL_ordersByAll_17 : decode cL_ordersByAll 17 = .ok (.iconst 1, 1) := by decide +kernel
theorem dL_ordersByAll_18 : decode cL_ordersByAll 18 = .ok (.ireturn, 1) := by decide +kernel
theorem dL_ordersByAll_19 : decode cL_ordersByAll 19 = .ok (.astore 5, 2) := by decide +kernel
theorem dL_ordersByAll_21 : decode cL_ordersByAll 21 = .ok (.iconst 2, 1) := by decide +kernel
theorem dL_ordersByAll_22 : decode cL_ordersByAll 22 = .ok (.ireturn, 1) := by decide +kernel
theorem dL_ordersByAll_23 : decode cL_ordersByAll 23 = .ok (.astore 5, 2) := by decide +kernel
theorem dL_ordersByAll_25 : decode cL_ordersByAll 25 = .ok (.iconst 3, 1) := by decide +kernel
theorem dL_ordersByAll_26 : decode cL_ordersByAll 26 = .ok (.ireturn, 1) := by decide +kernel
theorem dL_ordersByAll_27 : decode cL_ordersByAll 27 = .ok (.iconst 0, 1) := by decide +kernel
theorem dL_ordersByAll_28 : decode cL_ordersByAll 28 = .ok (.ireturn, 1) := by decide +kernel
set_option maxRecDepth 20000 in
theorem ggL_isOpen_X6_isOpen : GoodIn wsL_isOpen wsX6_isOpen := goodIn_ca (goodIn_r _ [6, 7, 8, 9, 10, 11, 5, 12, 13, 14, 15, 16, 17, 18, 19, 20, 21, 22, 23, 24, 25, 26, 27, 28, 29] (by decide +kernel) (by decide +kernel)) (goodIn_sub (fun _ h => List.mem_cons_of_mem _ (List.mem_append_right _ h)) (by decide +kernel))
set_option maxRecDepth 20000 in
theorem gL_isOpen_X6_isOpen : GoodIn wsL_isOpen (wsV RL 78 RX6 yX6_isOpen wsX6_isOpen) := goodIn_app (goodIn_of _ (by decide +kernel)) ggL_isOpen_X6_isOpen
theorem dL_isOpen_0 : decode cL_isOpen 0 = .ok (.aload_n 2, 1) := by decide +kernel
theorem dL_isOpen_1 : decode cL_isOpen 1 = .ok (.iconst 0, 1) := by decide +kernel
theorem dL_isOpen_2 : decode cL_isOpen 2 = .ok (.aload_n 0, 1) := by decide +kernel
theorem dL_isOpen_3 : decode cL_isOpen 3 = .ok (.iload_n 1, 1) := by decide +kernel
theorem dL_isOpen_4 : decode cL_isOpen 4 = .ok (.invokevirtual 78, 3) := by decide +kernel
theorem dL_isOpen_7 : decode cL_isOpen 7 = .ok (.ifCond .eq 7, 3) := by decide +kernel
theorem dL_isOpen_10 : decode cL_isOpen 10 = .ok (.lconst 1, 1) := by decide +kernel
theorem dL_isOpen_11 : decode cL_isOpen 11 = .ok (.goto 4, 3) := by decide +kernel
theorem dL_isOpen_14 : decode cL_isOpen 14 = .ok (.lconst 0, 1) := by decide +kernel
theorem dL_isOpen_15 : decode cL_isOpen 15 = .ok (.lastore, 1) := by decide +kernel
theorem dL_isOpen_16 : decode cL_isOpen 16 = .ok (.goto 6, 3) := by decide +kernel
theorem dL_isOpen_19 : decode cL_isOpen 19 = .ok (.astore_n 3, 1) := by decide +kernel
theorem dL_isOpen_20 : decode cL_isOpen 20 = .ok (.iconst 1, 1) := by decide +kernel
theorem dL_isOpen_21 : decode cL_isOpen 21 = .ok (.ireturn, 1) := by decide +kernel
theorem dL_isOpen_22 : decode cL_isOpen 22 = .ok (.iconst 0, 1) := by decide +kernel
theorem dL_isOpen_23 : decode cL_isOpen 23 = .ok (.ireturn, 1) := by decide +kernel
set_option maxRecDepth 20000 in
theorem ggL_ring_X6_ring : GoodIn wsL_ring wsX6_ring := goodIn_ca (goodIn_r _ [6, 7, 8, 9, 10, 11, 12, 13, 14, 15, 16, 17, 18, 19, 20, 21, 22, 23, 24, 25, 26, 27, 28, 29, 30, 31, 32, 33, 34, 35, 36, 37, 38, 39, 40, 41, 42, 43, 44, 45, 46] (by decide +kernel) (by decide +kernel)) (goodIn_sub (fun _ h => List.mem_cons_of_mem _ (List.mem_append_right _ h)) (by decide +kernel))
set_option maxRecDepth 20000 in
theorem gL_ring_X6_ring : GoodIn wsL_ring (wsV RL 81 RX6 yX6_ring wsX6_ring) := goodIn_app (goodIn_of _ (by decide +kernel)) ggL_ring_X6_ring
theorem dL_ring_0 : decode cL_ring 0 = .ok (.aload_n 2, 1) := by decide +kernel
theorem dL_ring_1 : decode cL_ring 1 = .ok (.iconst 0, 1) := by decide +kernel
theorem dL_ring_2 : decode cL_ring 2 = .ok (.aload_n 0, 1) := by decide +kernel
theorem dL_ring_3 : decode cL_ring 3 = .ok (.iload_n 1, 1) := by decide +kernel
theorem dL_ring_4 : decode cL_ring 4 = .ok (.invokevirtual 81, 3) := by decide +kernel
theorem dL_ring_7 : decode cL_ring 7 = .ok (.i2l, 1) := by decide +kernel
theorem dL_ring_8 : decode cL_ring 8 = .ok (.lastore, 1) := by decide +kernel
theorem dL_ring_9 : decode cL_ring 9 = .ok (.goto 6, 3) := by decide +kernel
theorem dL_ring_12 : decode cL_ring 12 = .ok (.astore_n 3, 1) := by decide +kernel
theorem dL_ring_13 : decode cL_ring 13 = .ok (.iconst 1, 1) := by decide +kernel
theorem dL_ring_14 : decode cL_ring 14 = .ok (.ireturn, 1) := by decide +kernel
theorem dL_ring_15 : decode cL_ring 15 = .ok (.iconst 0, 1) := by decide +kernel
theorem dL_ring_16 : decode cL_ring 16 = .ok (.ireturn, 1) := by decide +kernel
