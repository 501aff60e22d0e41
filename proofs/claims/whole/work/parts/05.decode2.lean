theorem dX6_isAllowed_14 : decode cX6_isAllowed 14 = .ok (.aload_n 0, 1) := by decide +kernel
theorem dX6_isAllowed_15 : decode cX6_isAllowed 15 = .ok (.getfield 19, 3) := by decide +kernel
theorem dX6_isAllowed_18 : decode cX6_isAllowed 18 = .ok (.invokevirtual 215, 3) := by decide +kernel
theorem dX6_isAllowed_21 : decode cX6_isAllowed 21 = .ok (.ireturn, 1) := by decide +kernel
set_option maxRecDepth 20000 in
theorem ggX6_shuffled_X6_needDeck : GoodIn wsX6_shuffled wsX6_needDeck := goodIn_ca (goodIn_r _ [8, 9, 10, 2, 11, 34, 35, 36, 37, 38, 39, 40, 42, 43, 44, 45, 46, 47] (by decide +kernel) (by decide +kernel)) (goodIn_sub (fun _ h => List.mem_cons_of_mem _ (List.mem_append_left _ (List.mem_append_right _ h))) (by decide +kernel))
set_option maxRecDepth 20000 in
theorem gX6_shuffled_X6_needDeck : GoodIn wsX6_shuffled (wsV RX6 110 RX6 yX6_needDeck wsX6_needDeck) := goodIn_app (goodIn_of _ (by decide +kernel)) ggX6_shuffled_X6_needDeck
set_option maxRecDepth 20000 in
theorem ggX6_shuffled_X6_needPlace : GoodIn wsX6_shuffled wsX6_needPlace := goodIn_ca (goodIn_r _ [15, 9, 10, 2, 16, 34, 35, 36, 37, 38, 39, 40, 42, 43, 44, 45, 46, 47] (by decide +kernel) (by decide +kernel)) (goodIn_sub (fun _ h => List.mem_cons_of_mem _ (List.mem_append_left _ (List.mem_append_right _ h))) (by decide +kernel))
set_option maxRecDepth 20000 in
theorem gX6_shuffled_X6_needPlace : GoodIn wsX6_shuffled (wsV RX6 142 RX6 yX6_needPlace wsX6_needPlace) := goodIn_app (goodIn_of _ (by decide +kernel)) ggX6_shuffled_X6_needPlace
set_option maxRecDepth 20000 in
theorem ggX6_shuffled_X6_needSeed : GoodIn wsX6_shuffled wsX6_needSeed := goodIn_ca (goodIn_r _ [19, 20, 21] (by decide +kernel) (by decide +kernel)) (goodIn_sub (fun _ h => List.mem_cons_of_mem _ (List.mem_append_right _ h)) (by decide +kernel))
set_option maxRecDepth 20000 in
theorem gX6_shuffled_X6_needSeed : GoodIn wsX6_shuffled (va_wsS RX6 149 yX6_needSeed wsX6_needSeed) := goodIn_app (goodIn_of _ (by decide +kernel)) ggX6_shuffled_X6_needSeed
set_option maxRecDepth 20000 in
theorem ggX6_shuffled_X3_shuffle : GoodIn wsX6_shuffled wsX3_shuffle := goodIn_r _ [26, 27, 28, 29, 30, 31, 32, 33, 42, 43, 44, 45, 46, 47, 41] (by decide +kernel) (by decide +kernel)
set_option maxRecDepth 20000 in
theorem gX6_shuffled_X3_shuffle : GoodIn wsX6_shuffled (wsV RX6 219 RX3 yX3_shuffle wsX3_shuffle) := goodIn_app (goodIn_of _ (by decide +kernel)) ggX6_shuffled_X3_shuffle
theorem dX6_shuffled_0 : decode cX6_shuffled 0 = .ok (.aload_n 0, 1) := by decide +kernel
theorem dX6_shuffled_1 : decode cX6_shuffled 1 = .ok (.iload_n 1, 1) := by decide +kernel
theorem dX6_shuffled_2 : decode cX6_shuffled 2 = .ok (.invokevirtual 110, 3) := by decide +kernel
theorem dX6_shuffled_5 : decode cX6_shuffled 5 = .ok (.aload_n 0, 1) := by decide +kernel
theorem dX6_shuffled_6 : decode cX6_shuffled 6 = .ok (.iload_n 1, 1) := by decide +kernel
theorem dX6_shuffled_7 : decode cX6_shuffled 7 = .ok (.iload_n 3, 1) := by decide +kernel
theorem dX6_shuffled_8 : decode cX6_shuffled 8 = .ok (.invokevirtual 142, 3) := by decide +kernel
theorem dX6_shuffled_11 : decode cX6_shuffled 11 = .ok (.iload_n 2, 1) := by decide +kernel
theorem dX6_shuffled_12 : decode cX6_shuffled 12 = .ok (.invokestatic 149, 3) := by decide +kernel
theorem dX6_shuffled_15 : decode cX6_shuffled 15 = .ok (.aload_n 0, 1) := by decide +kernel
theorem dX6_shuffled_16 : decode cX6_shuffled 16 = .ok (.getfield 40, 3) := by decide +kernel
theorem dX6_shuffled_19 : decode cX6_shuffled 19 = .ok (.aload_n 0, 1) := by decide +kernel
theorem dX6_shuffled_20 : decode cX6_shuffled 20 = .ok (.getfield 26, 3) := by decide +kernel
theorem dX6_shuffled_23 : decode cX6_shuffled 23 = .ok (.iload_n 1, 1) := by decide +kernel
theorem dX6_shuffled_24 : decode cX6_shuffled 24 = .ok (.iload_n 2, 1) := by decide +kernel
theorem dX6_shuffled_25 : decode cX6_shuffled 25 = .ok (.invokevirtual 219, 3) := by decide +kernel
theorem dX6_shuffled_28 : decode cX6_shuffled 28 = .ok (.aload_n 0, 1) := by decide +kernel
theorem dX6_shuffled_29 : decode cX6_shuffled 29 = .ok (.getfield 40, 3) := by decide +kernel
theorem dX6_shuffled_32 : decode cX6_shuffled 32 = .ok (.getfield 222, 3) := by decide +kernel
theorem dX6_shuffled_35 : decode cX6_shuffled 35 = .ok (.iload_n 3, 1) := by decide +kernel
theorem dX6_shuffled_36 : decode cX6_shuffled 36 = .ok (.iaload, 1) := by decide +kernel
theorem dX6_shuffled_37 : decode cX6_shuffled 37 = .ok (.ireturn, 1) := by decide +kernel
set_option maxRecDepth 20000 in
theorem ggX6_orders_X6_needDeck : GoodIn wsX6_orders wsX6_needDeck := goodIn_ca (goodIn_r _ [8, 9, 10, 1, 11, 39, 40, 41, 42, 43, 44, 45, 46, 47, 48, 49, 50, 51] (by decide +kernel) (by decide +kernel)) (goodIn_sub (fun _ h => List.mem_cons_of_mem _ (List.mem_append_left _ (List.mem_append_right _ h))) (by decide +kernel))
set_option maxRecDepth 20000 in
theorem gX6_orders_X6_needDeck : GoodIn wsX6_orders (wsV RX6 110 RX6 yX6_needDeck wsX6_needDeck) := goodIn_app (goodIn_of _ (by decide +kernel)) ggX6_orders_X6_needDeck
set_option maxRecDepth 20000 in
theorem ggX6_orders_X6_needKind : GoodIn wsX6_orders wsX6_needKind := goodIn_ca (goodIn_r _ [14, 9, 10] (by decide +kernel) (by decide +kernel)) (goodIn_sub (fun _ h => List.mem_cons_of_mem _ (List.mem_append_left _ (List.mem_append_right _ h))) (by decide +kernel))
set_option maxRecDepth 20000 in
theorem gX6_orders_X6_needKind : GoodIn wsX6_orders (va_wsS RX6 54 yX6_needKind wsX6_needKind) := goodIn_app (goodIn_of _ (by decide +kernel)) ggX6_orders_X6_needKind
set_option maxRecDepth 20000 in
theorem ggX6_orders_X6_needRange : GoodIn wsX6_orders wsX6_needRange := goodIn_ca (goodIn_r _ [17, 18, 19] (by decide +kernel) (by decide +kernel)) (goodIn_sub (fun _ h => List.mem_cons_of_mem _ (List.mem_append_right _ h)) (by decide +kernel))
set_option maxRecDepth 20000 in
theorem gX6_orders_X6_needRange : GoodIn wsX6_orders (va_wsS RX6 58 yX6_needRange wsX6_needRange) := goodIn_app (goodIn_of _ (by decide +kernel)) ggX6_orders_X6_needRange
set_option maxRecDepth 20000 in
theorem ggX6_orders_X0_countOf : GoodIn wsX6_orders wsX0_countOf := goodIn_r _ [24, 25, 26, 27, 23, 28, 29, 30, 31, 32, 33, 34, 35, 36, 37, 38, 46, 47, 48, 49, 50, 51, 52, 53, 54, 55] (by decide +kernel) (by decide +kernel)
set_option maxRecDepth 20000 in
theorem gX6_orders_X0_countOf : GoodIn wsX6_orders (wsV RX6 225 RX0 yX0_countOf wsX0_countOf) := goodIn_app (goodIn_of _ (by decide +kernel)) ggX6_orders_X0_countOf
theorem dX6_orders_0 : decode cX6_orders 0 = .ok (.aload_n 0, 1) := by decide +kernel
theorem dX6_orders_1 : decode cX6_orders 1 = .ok (.iload_n 1, 1) := by decide +kernel
theorem dX6_orders_2 : decode cX6_orders 2 = .ok (.invokevirtual 110, 3) := by decide +kernel
theorem dX6_orders_5 : decode cX6_orders 5 = .ok (.iload_n 2, 1) := by decide +kernel
theorem dX6_orders_6 : decode cX6_orders 6 = .ok (.invokestatic 54, 3) := by decide +kernel
theorem dX6_orders_9 : decode cX6_orders 9 = .ok (.iload_n 3, 1) := by decide +kernel
theorem dX6_orders_10 : decode cX6_orders 10 = .ok (.iconst 1, 1) := by decide +kernel
theorem dX6_orders_11 : decode cX6_orders 11 = .ok (.bipush 10, 2) := by decide +kernel
theorem dX6_orders_13 : decode cX6_orders 13 = .ok (.invokestatic 58, 3) := by decide +kernel
theorem dX6_orders_16 : decode cX6_orders 16 = .ok (.aload_n 0, 1) := by decide +kernel
theorem dX6_orders_17 : decode cX6_orders 17 = .ok (.getfield 26, 3) := by decide +kernel
theorem dX6_orders_20 : decode cX6_orders 20 = .ok (.getfield 133, 3) := by decide +kernel
theorem dX6_orders_23 : decode cX6_orders 23 = .ok (.iload_n 1, 1) := by decide +kernel
theorem dX6_orders_24 : decode cX6_orders 24 = .ok (.iaload, 1) := by decide +kernel
theorem dX6_orders_25 : decode cX6_orders 25 = .ok (.istore 4, 2) := by decide +kernel
theorem dX6_orders_27 : decode cX6_orders 27 = .ok (.iload 4, 2) := by decide +kernel
theorem dX6_orders_29 : decode cX6_orders 29 = .ok (.aload_n 0, 1) := by decide +kernel
theorem dX6_orders_30 : decode cX6_orders 30 = .ok (.getfield 26, 3) := by decide +kernel
theorem dX6_orders_33 : decode cX6_orders 33 = .ok (.iload_n 1, 1) := by decide +kernel
theorem dX6_orders_34 : decode cX6_orders 34 = .ok (.iload_n 2, 1) := by decide +kernel
theorem dX6_orders_35 : decode cX6_orders 35 = .ok (.aload_n 0, 1) := by decide +kernel
theorem dX6_orders_36 : decode cX6_orders 36 = .ok (.getfield 19, 3) := by decide +kernel
theorem dX6_orders_39 : decode cX6_orders 39 = .ok (.invokevirtual 225, 3) := by decide +kernel
theorem dX6_orders_42 : decode cX6_orders 42 = .ok (.isub, 1) := by decide +kernel
theorem dX6_orders_43 : decode cX6_orders 43 = .ok (.istore 5, 2) := by decide +kernel
theorem dX6_orders_45 : decode cX6_orders 45 = .ok (.iconst 1, 1) := by decide +kernel
theorem dX6_orders_46 : decode cX6_orders 46 = .ok (.istore 6, 2) := by decide +kernel
theorem dX6_orders_48 : decode cX6_orders 48 = .ok (.iconst 1, 1) := by decide +kernel
theorem dX6_orders_49 : decode cX6_orders 49 = .ok (.istore 7, 2) := by decide +kernel
theorem dX6_orders_51 : decode cX6_orders 51 = .ok (.iconst 0, 1) := by decide +kernel
theorem dX6_orders_52 : decode cX6_orders 52 = .ok (.istore 8, 2) := by decide +kernel
theorem dX6_orders_54 : decode cX6_orders 54 = .ok (.iload 8, 2) := by decide +kernel
theorem dX6_orders_56 : decode cX6_orders 56 = .ok (.iload 4, 2) := by decide +kernel
theorem dX6_orders_58 : decode cX6_orders 58 = .ok (.if_icmp .ge 43, 3) := by decide +kernel
theorem dX6_orders_61 : decode cX6_orders 61 = .ok (.iload 6, 2) := by decide +kernel
theorem dX6_orders_63 : decode cX6_orders 63 = .ok (.iload 4, 2) := by decide +kernel
theorem dX6_orders_65 : decode cX6_orders 65 = .ok (.iload 8, 2) := by decide +kernel
theorem dX6_orders_67 : decode cX6_orders 67 = .ok (.isub, 1) := by decide +kernel
theorem dX6_orders_68 : decode cX6_orders 68 = .ok (.imul, 1) := by decide +kernel
theorem dX6_orders_69 : decode cX6_orders 69 = .ok (.istore 6, 2) := by decide +kernel
theorem dX6_orders_71 : decode cX6_orders 71 = .ok (.iload 7, 2) := by decide +kernel
theorem dX6_orders_73 : decode cX6_orders 73 = .ok (.iload 8, 2) := by decide +kernel
theorem dX6_orders_75 : decode cX6_orders 75 = .ok (.iload_n 3, 1) := by decide +kernel
theorem dX6_orders_76 : decode cX6_orders 76 = .ok (.if_icmp .ge 11, 3) := by decide +kernel
theorem dX6_orders_79 : decode cX6_orders 79 = .ok (.iload 5, 2) := by decide +kernel
theorem dX6_orders_81 : decode cX6_orders 81 = .ok (.iload 8, 2) := by decide +kernel
theorem dX6_orders_83 : decode cX6_orders 83 = .ok (.isub, 1) := by decide +kernel
theorem dX6_orders_84 : decode cX6_orders 84 = .ok (.goto 8, 3) := by decide +kernel
theorem dX6_orders_87 : decode cX6_orders 87 = .ok (.iload 4, 2) := by decide +kernel
theorem dX6_orders_89 : decode cX6_orders 89 = .ok (.iload 8, 2) := by decide +kernel
theorem dX6_orders_91 : decode cX6_orders 91 = .ok (.isub, 1) := by decide +kernel
theorem dX6_orders_92 : decode cX6_orders 92 = .ok (.imul, 1) := by decide +kernel
theorem dX6_orders_93 : decode cX6_orders 93 = .ok (.istore 7, 2) := by decide +kernel
theorem dX6_orders_95 : decode cX6_orders 95 = .ok (.iinc 8 1, 3) := by decide +kernel
theorem dX6_orders_98 : decode cX6_orders 98 = .ok (.goto (-44), 3) := by decide +kernel
theorem dX6_orders_101 : decode cX6_orders 101 = .ok (.iload 6, 2) := by decide +kernel
theorem dX6_orders_103 : decode cX6_orders 103 = .ok (.iload 7, 2) := by decide +kernel
theorem dX6_orders_105 : decode cX6_orders 105 = .ok (.isub, 1) := by decide +kernel
theorem dX6_orders_106 : decode cX6_orders 106 = .ok (.ireturn, 1) := by decide +kernel
set_option maxRecDepth 20000 in
theorem ggX6_ordersByAll_X6_needDeck : GoodIn wsX6_ordersByAll wsX6_needDeck := goodIn_ca (goodIn_r _ [10, 11, 12, 3, 13, 33, 34, 35, 36, 37, 38, 39, 40, 41, 42, 43, 44, 45] (by decide +kernel) (by decide +kernel)) (goodIn_sub (fun _ h => List.mem_cons_of_mem _ (List.mem_append_left _ (List.mem_append_right _ h))) (by decide +kernel))
set_option maxRecDepth 20000 in
theorem gX6_ordersByAll_X6_needDeck : GoodIn wsX6_ordersByAll (wsV RX6 110 RX6 yX6_needDeck wsX6_needDeck) := goodIn_app (goodIn_of _ (by decide +kernel)) ggX6_ordersByAll_X6_needDeck
set_option maxRecDepth 20000 in
theorem ggX6_ordersByAll_X6_needKind : GoodIn wsX6_ordersByAll wsX6_needKind := goodIn_ca (goodIn_r _ [16, 11, 12] (by decide +kernel) (by decide +kernel)) (goodIn_sub (fun _ h => List.mem_cons_of_mem _ (List.mem_append_left _ (List.mem_append_right _ h))) (by decide +kernel))
set_option maxRecDepth 20000 in
theorem gX6_ordersByAll_X6_needKind : GoodIn wsX6_ordersByAll (va_wsS RX6 54 yX6_needKind wsX6_needKind) := goodIn_app (goodIn_of _ (by decide +kernel)) ggX6_ordersByAll_X6_needKind
set_option maxRecDepth 20000 in
theorem ggX6_ordersByAll_X6_needRange : GoodIn wsX6_ordersByAll wsX6_needRange := goodIn_ca (goodIn_r _ [19, 20, 21] (by decide +kernel) (by decide +kernel)) (goodIn_sub (fun _ h => List.mem_cons_of_mem _ (List.mem_append_right _ h)) (by decide +kernel))
set_option maxRecDepth 20000 in
theorem gX6_ordersByAll_X6_needRange : GoodIn wsX6_ordersByAll (va_wsS RX6 58 yX6_needRange wsX6_needRange) := goodIn_app (goodIn_of _ (by decide +kernel)) ggX6_ordersByAll_X6_needRange
set_option maxRecDepth 20000 in
theorem ggX6_ordersByAll_X0_placesOf : GoodIn wsX6_ordersByAll wsX0_placesOf := goodIn_r _ [26, 27, 28, 29, 40, 41, 42, 43, 44, 45, 46, 47, 48, 49] (by decide +kernel) (by decide +kernel)
set_option maxRecDepth 20000 in
theorem gX6_ordersByAll_X0_placesOf : GoodIn wsX6_ordersByAll (wsV RX6 229 RX0 yX0_placesOf wsX0_placesOf) := goodIn_app (goodIn_of _ (by decide +kernel)) ggX6_ordersByAll_X0_placesOf
set_option maxRecDepth 20000 in
theorem ggX6_ordersByAll_X6_countOrders : GoodIn wsX6_ordersByAll wsX6_countOrders := goodIn_r _ [32, 30, 31, 9] (by decide +kernel) (by decide +kernel)
set_option maxRecDepth 20000 in
theorem gX6_ordersByAll_X6_countOrders : GoodIn wsX6_ordersByAll (va_wsS RX6 232 yX6_countOrders wsX6_countOrders) := goodIn_app (goodIn_of _ (by decide +kernel)) ggX6_ordersByAll_X6_countOrders
theorem dX6_ordersByAll_0 : decode cX6_ordersByAll 0 = .ok (.aload_n 0, 1) := by decide +kernel
theorem dX6_ordersByAll_1 : decode cX6_ordersByAll 1 = .ok (.iload_n 1, 1) := by decide +kernel
theorem dX6_ordersByAll_2 : decode cX6_ordersByAll 2 = .ok (.invokevirtual 110, 3) := by decide +kernel
theorem dX6_ordersByAll_5 : decode cX6_ordersByAll 5 = .ok (.iload_n 2, 1) := by decide +kernel
theorem dX6_ordersByAll_6 : decode cX6_ordersByAll 6 = .ok (.invokestatic 54, 3) := by decide +kernel
theorem dX6_ordersByAll_9 : decode cX6_ordersByAll 9 = .ok (.iload_n 3, 1) := by decide +kernel
theorem dX6_ordersByAll_10 : decode cX6_ordersByAll 10 = .ok (.iconst 1, 1) := by decide +kernel
theorem dX6_ordersByAll_11 : decode cX6_ordersByAll 11 = .ok (.bipush 10, 2) := by decide +kernel
theorem dX6_ordersByAll_13 : decode cX6_ordersByAll 13 = .ok (.invokestatic 58, 3) := by decide +kernel
theorem dX6_ordersByAll_16 : decode cX6_ordersByAll 16 = .ok (.aload_n 0, 1) := by decide +kernel
theorem dX6_ordersByAll_17 : decode cX6_ordersByAll 17 = .ok (.getfield 26, 3) := by decide +kernel
theorem dX6_ordersByAll_20 : decode cX6_ordersByAll 20 = .ok (.getfield 133, 3) := by decide +kernel
theorem dX6_ordersByAll_23 : decode cX6_ordersByAll 23 = .ok (.iload_n 1, 1) := by decide +kernel
theorem dX6_ordersByAll_24 : decode cX6_ordersByAll 24 = .ok (.iaload, 1) := by decide +kernel
theorem dX6_ordersByAll_25 : decode cX6_ordersByAll 25 = .ok (.istore 4, 2) := by decide +kernel
theorem dX6_ordersByAll_27 : decode cX6_ordersByAll 27 = .ok (.iload 4, 2) := by decide +kernel
theorem dX6_ordersByAll_29 : decode cX6_ordersByAll 29 = .ok (.bipush 7, 2) := by decide +kernel
theorem dX6_ordersByAll_31 : decode cX6_ordersByAll 31 = .ok (.if_icmp .le 13, 3) := by decide +kernel
theorem dX6_ordersByAll_34 : decode cX6_ordersByAll 34 = .ok (.new 90, 3) := by decide +kernel
theorem dX6_ordersByAll_37 : decode cX6_ordersByAll 37 = .ok (.dup, 1) := by decide +kernel
theorem dX6_ordersByAll_38 : decode cX6_ordersByAll 38 = .ok (.ldc 227, 2) := by decide +kernel
theorem dX6_ordersByAll_40 : decode cX6_ordersByAll 40 = .ok (.invokespecial 94, 3) := by decide +kernel
theorem dX6_ordersByAll_43 : decode cX6_ordersByAll 43 = .ok (.athrow, 1) := by decide +kernel
theorem dX6_ordersByAll_44 : decode cX6_ordersByAll 44 = .ok (.aload_n 0, 1) := by decide +kernel
theorem dX6_ordersByAll_45 : decode cX6_ordersByAll 45 = .ok (.getfield 26, 3) := by decide +kernel
theorem dX6_ordersByAll_48 : decode cX6_ordersByAll 48 = .ok (.iload_n 1, 1) := by decide +kernel
theorem dX6_ordersByAll_49 : decode cX6_ordersByAll 49 = .ok (.iload_n 2, 1) := by decide +kernel
theorem dX6_ordersByAll_50 : decode cX6_ordersByAll 50 = .ok (.aload_n 0, 1) := by decide +kernel
theorem dX6_ordersByAll_51 : decode cX6_ordersByAll 51 = .ok (.getfield 19, 3) := by decide +kernel
theorem dX6_ordersByAll_54 : decode cX6_ordersByAll 54 = .ok (.invokevirtual 229, 3) := by decide +kernel
theorem dX6_ordersByAll_57 : decode cX6_ordersByAll 57 = .ok (.istore 5, 2) := by decide +kernel
theorem dX6_ordersByAll_59 : decode cX6_ordersByAll 59 = .ok (.iconst 0, 1) := by decide +kernel
theorem dX6_ordersByAll_60 : decode cX6_ordersByAll 60 = .ok (.iload 4, 2) := by decide +kernel
theorem dX6_ordersByAll_62 : decode cX6_ordersByAll 62 = .ok (.iconst 0, 1) := by decide +kernel
theorem dX6_ordersByAll_63 : decode cX6_ordersByAll 63 = .ok (.iload 5, 2) := by decide +kernel
theorem dX6_ordersByAll_65 : decode cX6_ordersByAll 65 = .ok (.iload_n 3, 1) := by decide +kernel
theorem dX6_ordersByAll_66 : decode cX6_ordersByAll 66 = .ok (.iconst 0, 1) := by decide +kernel
theorem dX6_ordersByAll_67 : decode cX6_ordersByAll 67 = .ok (.invokestatic 232, 3) := by decide +kernel
theorem dX6_ordersByAll_70 : decode cX6_ordersByAll 70 = .ok (.ireturn, 1) := by decide +kernel
set_option maxRecDepth 20000 in
theorem ggX6_isOpen_X6_needOffer : GoodIn wsX6_isOpen wsX6_needOffer := goodIn_ca (goodIn_r _ [7, 8, 9, 1, 10, 11, 12, 13, 14, 15, 16, 17, 18, 19, 20, 21, 22, 23, 24] (by decide +kernel) (by decide +kernel)) (goodIn_sub (fun _ h => List.mem_cons_of_mem _ (List.mem_append_right _ h)) (by decide +kernel))
set_option maxRecDepth 20000 in
theorem gX6_isOpen_X6_needOffer : GoodIn wsX6_isOpen (wsV RX6 187 RX6 yX6_needOffer wsX6_needOffer) := goodIn_app (goodIn_of _ (by decide +kernel)) ggX6_isOpen_X6_needOffer
theorem dX6_isOpen_0 : decode cX6_isOpen 0 = .ok (.aload_n 0, 1) := by decide +kernel
theorem dX6_isOpen_1 : decode cX6_isOpen 1 = .ok (.iload_n 1, 1) := by decide +kernel
theorem dX6_isOpen_2 : decode cX6_isOpen 2 = .ok (.invokevirtual 187, 3) := by decide +kernel
theorem dX6_isOpen_5 : decode cX6_isOpen 5 = .ok (.aload_n 0, 1) := by decide +kernel
theorem dX6_isOpen_6 : decode cX6_isOpen 6 = .ok (.getfield 33, 3) := by decide +kernel
theorem dX6_isOpen_9 : decode cX6_isOpen 9 = .ok (.getfield 190, 3) := by decide +kernel
theorem dX6_isOpen_12 : decode cX6_isOpen 12 = .ok (.iload_n 1, 1) := by decide +kernel
theorem dX6_isOpen_13 : decode cX6_isOpen 13 = .ok (.baload, 1) := by decide +kernel
theorem dX6_isOpen_14 : decode cX6_isOpen 14 = .ok (.ireturn, 1) := by decide +kernel
set_option maxRecDepth 20000 in
theorem ggX6_ring_X2_findRing : GoodIn wsX6_ring wsX2_findRing := goodIn_r _ [9, 10, 11, 12, 13, 14, 8, 15, 16, 17, 18, 19, 20, 21, 22, 23, 24, 25, 26, 34, 35, 36, 37, 38, 39, 40] (by decide +kernel) (by decide +kernel)
set_option maxRecDepth 20000 in
theorem gX6_ring_X2_findRing : GoodIn wsX6_ring (wsV RX6 198 RX2 yX2_findRing wsX2_findRing) := goodIn_app (goodIn_of _ (by decide +kernel)) ggX6_ring_X2_findRing
theorem dX6_ring_0 : decode cX6_ring 0 = .ok (.iload_n 1, 1) := by decide +kernel
theorem dX6_ring_1 : decode cX6_ring 1 = .ok (.ifCond .ge 13, 3) := by decide +kernel
theorem dX6_ring_4 : decode cX6_ring 4 = .ok (.new 236, 3) := by decide +kernel
theorem dX6_ring_7 : decode cX6_ring 7 = .ok (.dup, 1) := by decide +kernel
theorem dX6_ring_8 : decode cX6_ring 8 = .ok (.ldc 238, 2) := by decide +kernel
theorem dX6_ring_10 : decode cX6_ring 10 = .ok (.invokespecial 240, 3) := by decide +kernel
theorem dX6_ring_13 : decode cX6_ring 13 = .ok (.athrow, 1) := by decide +kernel
theorem dX6_ring_14 : decode cX6_ring 14 = .ok (.iload_n 1, 1) := by decide +kernel
theorem dX6_ring_15 : decode cX6_ring 15 = .ok (.aload_n 0, 1) := by decide +kernel
theorem dX6_ring_16 : decode cX6_ring 16 = .ok (.getfield 33, 3) := by decide +kernel
theorem dX6_ring_19 : decode cX6_ring 19 = .ok (.invokevirtual 198, 3) := by decide +kernel
theorem dX6_ring_22 : decode cX6_ring 22 = .ok (.if_icmp .ge 15, 3) := by decide +kernel
theorem dX6_ring_25 : decode cX6_ring 25 = .ok (.aload_n 0, 1) := by decide +kernel
theorem dX6_ring_26 : decode cX6_ring 26 = .ok (.getfield 33, 3) := by decide +kernel
theorem dX6_ring_29 : decode cX6_ring 29 = .ok (.getfield 202, 3) := by decide +kernel
theorem dX6_ring_32 : decode cX6_ring 32 = .ok (.iload_n 1, 1) := by decide +kernel
theorem dX6_ring_33 : decode cX6_ring 33 = .ok (.iaload, 1) := by decide +kernel
theorem dX6_ring_34 : decode cX6_ring 34 = .ok (.goto 4, 3) := by decide +kernel
theorem dX6_ring_37 : decode cX6_ring 37 = .ok (.iconst (-1), 1) := by decide +kernel
theorem dX6_ring_38 : decode cX6_ring 38 = .ok (.ireturn, 1) := by decide +kernel
theorem dX6_needKind_0 : decode cX6_needKind 0 = .ok (.iload_n 0, 1) := by decide +kernel
theorem dX6_needKind_1 : decode cX6_needKind 1 = .ok (.ifCond .lt 9, 3) := by decide +kernel
theorem dX6_needKind_4 : decode cX6_needKind 4 = .ok (.iload_n 0, 1) := by decide +kernel
theorem dX6_needKind_5 : decode cX6_needKind 5 = .ok (.bipush 16, 2) := by decide +kernel
theorem dX6_needKind_7 : decode cX6_needKind 7 = .ok (.if_icmp .lt 13, 3) := by decide +kernel
theorem dX6_needKind_10 : decode cX6_needKind 10 = .ok (.new 236, 3) := by decide +kernel
theorem dX6_needKind_13 : decode cX6_needKind 13 = .ok (.dup, 1) := by decide +kernel
theorem dX6_needKind_14 : decode cX6_needKind 14 = .ok (.ldc 241, 2) := by decide +kernel
theorem dX6_needKind_16 : decode cX6_needKind 16 = .ok (.invokespecial 240, 3) := by decide +kernel
theorem dX6_needKind_19 : decode cX6_needKind 19 = .ok (.athrow, 1) := by decide +kernel
theorem dX6_needKind_20 : decode cX6_needKind 20 = .ok (.return_, 1) := by decide +kernel
theorem dX6_needCollector_0 : decode cX6_needCollector 0 = .ok (.iload_n 0, 1) := by decide +kernel
theorem dX6_needCollector_1 : decode cX6_needCollector 1 = .ok (.ifCond .lt 9, 3) := by decide +kernel
theorem dX6_needCollector_4 : decode cX6_needCollector 4 = .ok (.iload_n 0, 1) := by decide +kernel
theorem dX6_needCollector_5 : decode cX6_needCollector 5 = .ok (.bipush 6, 2) := by decide +kernel
theorem dX6_needCollector_7 : decode cX6_needCollector 7 = .ok (.if_icmp .lt 13, 3) := by decide +kernel
theorem dX6_needCollector_10 : decode cX6_needCollector 10 = .ok (.new 236, 3) := by decide +kernel
theorem dX6_needCollector_13 : decode cX6_needCollector 13 = .ok (.dup, 1) := by decide +kernel
theorem dX6_needCollector_14 : decode cX6_needCollector 14 = .ok (.ldc 243, 2) := by decide +kernel
theorem dX6_needCollector_16 : decode cX6_needCollector 16 = .ok (.invokespecial 240, 3) := by decide +kernel
theorem dX6_needCollector_19 : decode cX6_needCollector 19 = .ok (.athrow, 1) := by decide +kernel
theorem dX6_needCollector_20 : decode cX6_needCollector 20 = .ok (.return_, 1) := by decide +kernel
theorem dX6_needCard_0 : decode cX6_needCard 0 = .ok (.iload_n 1, 1) := by decide +kernel
theorem dX6_needCard_1 : decode cX6_needCard 1 = .ok (.ifCond .lt 14, 3) := by decide +kernel
theorem dX6_needCard_4 : decode cX6_needCard 4 = .ok (.iload_n 1, 1) := by decide +kernel
theorem dX6_needCard_5 : decode cX6_needCard 5 = .ok (.aload_n 0, 1) := by decide +kernel
theorem dX6_needCard_6 : decode cX6_needCard 6 = .ok (.getfield 19, 3) := by decide +kernel
theorem dX6_needCard_9 : decode cX6_needCard 9 = .ok (.getfield 87, 3) := by decide +kernel
theorem dX6_needCard_12 : decode cX6_needCard 12 = .ok (.if_icmp .lt 13, 3) := by decide +kernel
theorem dX6_needCard_15 : decode cX6_needCard 15 = .ok (.new 236, 3) := by decide +kernel
theorem dX6_needCard_18 : decode cX6_needCard 18 = .ok (.dup, 1) := by decide +kernel
theorem dX6_needCard_19 : decode cX6_needCard 19 = .ok (.ldc 245, 2) := by decide +kernel
theorem dX6_needCard_21 : decode cX6_needCard 21 = .ok (.invokespecial 240, 3) := by decide +kernel
theorem dX6_needCard_24 : decode cX6_needCard 24 = .ok (.athrow, 1) := by decide +kernel
theorem dX6_needCard_25 : decode cX6_needCard 25 = .ok (.return_, 1) := by decide +kernel
theorem dX6_needDeck_0 : decode cX6_needDeck 0 = .ok (.iload_n 1, 1) := by decide +kernel
theorem dX6_needDeck_1 : decode cX6_needDeck 1 = .ok (.ifCond .lt 14, 3) := by decide +kernel
theorem dX6_needDeck_4 : decode cX6_needDeck 4 = .ok (.iload_n 1, 1) := by decide +kernel
theorem dX6_needDeck_5 : decode cX6_needDeck 5 = .ok (.aload_n 0, 1) := by decide +kernel
theorem dX6_needDeck_6 : decode cX6_needDeck 6 = .ok (.getfield 26, 3) := by decide +kernel
theorem dX6_needDeck_9 : decode cX6_needDeck 9 = .ok (.getfield 104, 3) := by decide +kernel
theorem dX6_needDeck_12 : decode cX6_needDeck 12 = .ok (.if_icmp .lt 13, 3) := by decide +kernel
theorem dX6_needDeck_15 : decode cX6_needDeck 15 = .ok (.new 236, 3) := by decide +kernel
theorem dX6_needDeck_18 : decode cX6_needDeck 18 = .ok (.dup, 1) := by decide +kernel
theorem dX6_needDeck_19 : decode cX6_needDeck 19 = .ok (.ldc 247, 2) := by decide +kernel
theorem dX6_needDeck_21 : decode cX6_needDeck 21 = .ok (.invokespecial 240, 3) := by decide +kernel
theorem dX6_needDeck_24 : decode cX6_needDeck 24 = .ok (.athrow, 1) := by decide +kernel
theorem dX6_needDeck_25 : decode cX6_needDeck 25 = .ok (.return_, 1) := by decide +kernel
theorem dX6_needPlace_0 : decode cX6_needPlace 0 = .ok (.iload_n 2, 1) := by decide +kernel
theorem dX6_needPlace_1 : decode cX6_needPlace 1 = .ok (.ifCond .lt 16, 3) := by decide +kernel
theorem dX6_needPlace_4 : decode cX6_needPlace 4 = .ok (.iload_n 2, 1) := by decide +kernel
theorem dX6_needPlace_5 : decode cX6_needPlace 5 = .ok (.aload_n 0, 1) := by decide +kernel
theorem dX6_needPlace_6 : decode cX6_needPlace 6 = .ok (.getfield 26, 3) := by decide +kernel
theorem dX6_needPlace_9 : decode cX6_needPlace 9 = .ok (.getfield 133, 3) := by decide +kernel
theorem dX6_needPlace_12 : decode cX6_needPlace 12 = .ok (.iload_n 1, 1) := by decide +kernel
theorem dX6_needPlace_13 : decode cX6_needPlace 13 = .ok (.iaload, 1) := by decide +kernel
theorem dX6_needPlace_14 : decode cX6_needPlace 14 = .ok (.if_icmp .lt 13, 3) := by decide +kernel
theorem dX6_needPlace_17 : decode cX6_needPlace 17 = .ok (.new 236, 3) := by decide +kernel
theorem dX6_needPlace_20 : decode cX6_needPlace 20 = .ok (.dup, 1) := by decide +kernel
theorem dX6_needPlace_21 : decode cX6_needPlace 21 = .ok (.ldc 249, 2) := by decide +kernel
theorem dX6_needPlace_23 : decode cX6_needPlace 23 = .ok (.invokespecial 240, 3) := by decide +kernel
theorem dX6_needPlace_26 : decode cX6_needPlace 26 = .ok (.athrow, 1) := by decide +kernel
theorem dX6_needPlace_27 : decode cX6_needPlace 27 = .ok (.return_, 1) := by decide +kernel
theorem dX6_needOffer_0 : decode cX6_needOffer 0 = .ok (.iload_n 1, 1) := by decide +kernel
theorem dX6_needOffer_1 : decode cX6_needOffer 1 = .ok (.ifCond .lt 14, 3) := by decide +kernel
theorem dX6_needOffer_4 : decode cX6_needOffer 4 = .ok (.iload_n 1, 1) := by decide +kernel
theorem dX6_needOffer_5 : decode cX6_needOffer 5 = .ok (.aload_n 0, 1) := by decide +kernel
theorem dX6_needOffer_6 : decode cX6_needOffer 6 = .ok (.getfield 33, 3) := by decide +kernel
theorem dX6_needOffer_9 : decode cX6_needOffer 9 = .ok (.getfield 181, 3) := by decide +kernel
theorem dX6_needOffer_12 : decode cX6_needOffer 12 = .ok (.if_icmp .lt 13, 3) := by decide +kernel
theorem dX6_needOffer_15 : decode cX6_needOffer 15 = .ok (.new 236, 3) := by decide +kernel
theorem dX6_needOffer_18 : decode cX6_needOffer 18 = .ok (.dup, 1) := by decide +kernel
theorem dX6_needOffer_19 : decode cX6_needOffer 19 = .ok (.ldc 251, 2) := by decide +kernel
theorem dX6_needOffer_21 : decode cX6_needOffer 21 = .ok (.invokespecial 240, 3) := by decide +kernel
theorem dX6_needOffer_24 : decode cX6_needOffer 24 = .ok (.athrow, 1) := by decide +kernel
theorem dX6_needOffer_25 : decode cX6_needOffer 25 = .ok (.return_, 1) := by decide +kernel
theorem dX6_needRange_0 : decode cX6_needRange 0 = .ok (.iload_n 0, 1) := by decide +kernel
theorem dX6_needRange_1 : decode cX6_needRange 1 = .ok (.iload_n 1, 1) := by decide +kernel
theorem dX6_needRange_2 : decode cX6_needRange 2 = .ok (.if_icmp .lt 8, 3) := by decide +kernel
theorem dX6_needRange_5 : decode cX6_needRange 5 = .ok (.iload_n 0, 1) := by decide +kernel
theorem dX6_needRange_6 : decode cX6_needRange 6 = .ok (.iload_n 2, 1) := by decide +kernel
theorem dX6_needRange_7 : decode cX6_needRange 7 = .ok (.if_icmp .le 13, 3) := by decide +kernel
theorem dX6_needRange_10 : decode cX6_needRange 10 = .ok (.new 122, 3) := by decide +kernel
theorem dX6_needRange_13 : decode cX6_needRange 13 = .ok (.dup, 1) := by decide +kernel
theorem dX6_needRange_14 : decode cX6_needRange 14 = .ok (.ldc 253, 2) := by decide +kernel
theorem dX6_needRange_16 : decode cX6_needRange 16 = .ok (.invokespecial 126, 3) := by decide +kernel
theorem dX6_needRange_19 : decode cX6_needRange 19 = .ok (.athrow, 1) := by decide +kernel
theorem dX6_needRange_20 : decode cX6_needRange 20 = .ok (.return_, 1) := by decide +kernel
theorem dX6_needSeed_0 : decode cX6_needSeed 0 = .ok (.iload_n 0, 1) := by decide +kernel
theorem dX6_needSeed_1 : decode cX6_needSeed 1 = .ok (.ifCond .ge 13, 3) := by decide +kernel
theorem dX6_needSeed_4 : decode cX6_needSeed 4 = .ok (.new 122, 3) := by decide +kernel
theorem dX6_needSeed_7 : decode cX6_needSeed 7 = .ok (.dup, 1) := by decide +kernel
theorem dX6_needSeed_8 : decode cX6_needSeed 8 = .ok (.ldc 255, 2) := by decide +kernel
theorem dX6_needSeed_10 : decode cX6_needSeed 10 = .ok (.invokespecial 126, 3) := by decide +kernel
theorem dX6_needSeed_13 : decode cX6_needSeed 13 = .ok (.athrow, 1) := by decide +kernel
theorem dX6_needSeed_14 : decode cX6_needSeed 14 = .ok (.return_, 1) := by decide +kernel
set_option maxRecDepth 20000 in
theorem ggX6_needAllowed_X0_fitsFormat : GoodIn wsX6_needAllowed wsX0_fitsFormat := goodIn_r _ [10, 11, 12, 13, 14, 15, 16, 17, 18, 19, 20, 21, 9, 22, 23, 24, 25, 26, 27, 28, 29, 30, 31, 32, 33, 41, 42, 43, 44, 45, 46, 47, 48, 49, 50, 51, 52, 53, 54, 55] (by decide +kernel) (by decide +kernel)
set_option maxRecDepth 20000 in
theorem gX6_needAllowed_X0_fitsFormat : GoodIn wsX6_needAllowed (wsV RX6 215 RX0 yX0_fitsFormat wsX0_fitsFormat) := goodIn_app (goodIn_of _ (by decide +kernel)) ggX6_needAllowed_X0_fitsFormat
theorem dX6_needAllowed_0 : decode cX6_needAllowed 0 = .ok (.aload_n 0, 1) := by decide +kernel
theorem dX6_needAllowed_1 : decode cX6_needAllowed 1 = .ok (.getfield 26, 3) := by decide +kernel
theorem dX6_needAllowed_4 : decode cX6_needAllowed 4 = .ok (.iload_n 1, 1) := by decide +kernel
theorem dX6_needAllowed_5 : decode cX6_needAllowed 5 = .ok (.aload_n 0, 1) := by decide +kernel
theorem dX6_needAllowed_6 : decode cX6_needAllowed 6 = .ok (.getfield 10, 3) := by decide +kernel
theorem dX6_needAllowed_9 : decode cX6_needAllowed 9 = .ok (.aload_n 0, 1) := by decide +kernel
theorem dX6_needAllowed_10 : decode cX6_needAllowed 10 = .ok (.getfield 19, 3) := by decide +kernel
theorem dX6_needAllowed_13 : decode cX6_needAllowed 13 = .ok (.invokevirtual 215, 3) := by decide +kernel
theorem dX6_needAllowed_16 : decode cX6_needAllowed 16 = .ok (.ifCond .ne 14, 3) := by decide +kernel
theorem dX6_needAllowed_19 : decode cX6_needAllowed 19 = .ok (.new 90, 3) := by decide +kernel
theorem dX6_needAllowed_22 : decode cX6_needAllowed 22 = .ok (.dup, 1) := by decide +kernel
theorem dX6_needAllowed_23 : decode cX6_needAllowed 23 = .ok (.ldc_w 257, 3) := by decide +kernel
theorem dX6_needAllowed_26 : decode cX6_needAllowed 26 = .ok (.invokespecial 94, 3) := by decide +kernel
theorem dX6_needAllowed_29 : decode cX6_needAllowed 29 = .ok (.athrow, 1) := by decide +kernel
theorem dX6_needAllowed_30 : decode cX6_needAllowed 30 = .ok (.return_, 1) := by decide +kernel
set_option maxRecDepth 20000 in
theorem ggX6_playRound_X5_endRound : GoodIn wsX6_playRound wsX5_endRound := goodIn_r _ [15, 16, 17, 29, 30, 31] (by decide +kernel) (by decide +kernel)
set_option maxRecDepth 20000 in
theorem gX6_playRound_X5_endRound : GoodIn wsX6_playRound (wsV RX6 263 RX5 yX5_endRound wsX5_endRound) := goodIn_app (goodIn_of _ (by decide +kernel)) ggX6_playRound_X5_endRound
theorem dX6_playRound_0 : decode cX6_playRound 0 = .ok (.aload_n 0, 1) := by decide +kernel
theorem dX6_playRound_1 : decode cX6_playRound 1 = .ok (.getfield 19, 3) := by decide +kernel
theorem dX6_playRound_4 : decode cX6_playRound 4 = .ok (.getfield 170, 3) := by decide +kernel
theorem dX6_playRound_7 : decode cX6_playRound 7 = .ok (.aload_n 0, 1) := by decide +kernel
theorem dX6_playRound_8 : decode cX6_playRound 8 = .ok (.getfield 47, 3) := by decide +kernel
theorem dX6_playRound_11 : decode cX6_playRound 11 = .ok (.getfield 259, 3) := by decide +kernel
theorem dX6_playRound_14 : decode cX6_playRound 14 = .ok (.getfield 222, 3) := by decide +kernel
theorem dX6_playRound_17 : decode cX6_playRound 17 = .ok (.iload_n 1, 1) := by decide +kernel
theorem dX6_playRound_18 : decode cX6_playRound 18 = .ok (.iaload, 1) := by decide +kernel
theorem dX6_playRound_19 : decode cX6_playRound 19 = .ok (.iaload, 1) := by decide +kernel
theorem dX6_playRound_20 : decode cX6_playRound 20 = .ok (.istore_n 2, 1) := by decide +kernel
theorem dX6_playRound_21 : decode cX6_playRound 21 = .ok (.aload_n 0, 1) := by decide +kernel
theorem dX6_playRound_22 : decode cX6_playRound 22 = .ok (.getfield 19, 3) := by decide +kernel
theorem dX6_playRound_25 : decode cX6_playRound 25 = .ok (.getfield 170, 3) := by decide +kernel
theorem dX6_playRound_28 : decode cX6_playRound 28 = .ok (.aload_n 0, 1) := by decide +kernel
theorem dX6_playRound_29 : decode cX6_playRound 29 = .ok (.getfield 51, 3) := by decide +kernel
theorem dX6_playRound_32 : decode cX6_playRound 32 = .ok (.getfield 259, 3) := by decide +kernel
theorem dX6_playRound_35 : decode cX6_playRound 35 = .ok (.getfield 222, 3) := by decide +kernel
theorem dX6_playRound_38 : decode cX6_playRound 38 = .ok (.iload_n 1, 1) := by decide +kernel
theorem dX6_playRound_39 : decode cX6_playRound 39 = .ok (.iaload, 1) := by decide +kernel
theorem dX6_playRound_40 : decode cX6_playRound 40 = .ok (.iaload, 1) := by decide +kernel
theorem dX6_playRound_41 : decode cX6_playRound 41 = .ok (.istore_n 3, 1) := by decide +kernel
theorem dX6_playRound_42 : decode cX6_playRound 42 = .ok (.aload_n 0, 1) := by decide +kernel
theorem dX6_playRound_43 : decode cX6_playRound 43 = .ok (.getfield 10, 3) := by decide +kernel
theorem dX6_playRound_46 : decode cX6_playRound 46 = .ok (.getfield 62, 3) := by decide +kernel
theorem dX6_playRound_49 : decode cX6_playRound 49 = .ok (.iload_n 2, 1) := by decide +kernel
theorem dX6_playRound_50 : decode cX6_playRound 50 = .ok (.iaload, 1) := by decide +kernel
theorem dX6_playRound_51 : decode cX6_playRound 51 = .ok (.aload_n 0, 1) := by decide +kernel
theorem dX6_playRound_52 : decode cX6_playRound 52 = .ok (.getfield 47, 3) := by decide +kernel
theorem dX6_playRound_55 : decode cX6_playRound 55 = .ok (.getfield 260, 3) := by decide +kernel
theorem dX6_playRound_58 : decode cX6_playRound 58 = .ok (.iadd, 1) := by decide +kernel
theorem dX6_playRound_59 : decode cX6_playRound 59 = .ok (.istore 4, 2) := by decide +kernel
theorem dX6_playRound_61 : decode cX6_playRound 61 = .ok (.aload_n 0, 1) := by decide +kernel
theorem dX6_playRound_62 : decode cX6_playRound 62 = .ok (.getfield 10, 3) := by decide +kernel
theorem dX6_playRound_65 : decode cX6_playRound 65 = .ok (.getfield 62, 3) := by decide +kernel
theorem dX6_playRound_68 : decode cX6_playRound 68 = .ok (.iload_n 3, 1) := by decide +kernel
theorem dX6_playRound_69 : decode cX6_playRound 69 = .ok (.iaload, 1) := by decide +kernel
theorem dX6_playRound_70 : decode cX6_playRound 70 = .ok (.aload_n 0, 1) := by decide +kernel
theorem dX6_playRound_71 : decode cX6_playRound 71 = .ok (.getfield 51, 3) := by decide +kernel
theorem dX6_playRound_74 : decode cX6_playRound 74 = .ok (.getfield 260, 3) := by decide +kernel
theorem dX6_playRound_77 : decode cX6_playRound 77 = .ok (.iadd, 1) := by decide +kernel
theorem dX6_playRound_78 : decode cX6_playRound 78 = .ok (.istore 5, 2) := by decide +kernel
theorem dX6_playRound_80 : decode cX6_playRound 80 = .ok (.aload_n 0, 1) := by decide +kernel
theorem dX6_playRound_81 : decode cX6_playRound 81 = .ok (.getfield 10, 3) := by decide +kernel
theorem dX6_playRound_84 : decode cX6_playRound 84 = .ok (.getfield 66, 3) := by decide +kernel
theorem dX6_playRound_87 : decode cX6_playRound 87 = .ok (.iload_n 2, 1) := by decide +kernel
theorem dX6_playRound_88 : decode cX6_playRound 88 = .ok (.iaload, 1) := by decide +kernel
theorem dX6_playRound_89 : decode cX6_playRound 89 = .ok (.istore 6, 2) := by decide +kernel
theorem dX6_playRound_91 : decode cX6_playRound 91 = .ok (.aload_n 0, 1) := by decide +kernel
theorem dX6_playRound_92 : decode cX6_playRound 92 = .ok (.getfield 10, 3) := by decide +kernel
theorem dX6_playRound_95 : decode cX6_playRound 95 = .ok (.getfield 66, 3) := by decide +kernel
theorem dX6_playRound_98 : decode cX6_playRound 98 = .ok (.iload_n 3, 1) := by decide +kernel
theorem dX6_playRound_99 : decode cX6_playRound 99 = .ok (.iaload, 1) := by decide +kernel
theorem dX6_playRound_100 : decode cX6_playRound 100 = .ok (.istore 7, 2) := by decide +kernel
theorem dX6_playRound_102 : decode cX6_playRound 102 = .ok (.aload_n 0, 1) := by decide +kernel
theorem dX6_playRound_103 : decode cX6_playRound 103 = .ok (.getfield 47, 3) := by decide +kernel
theorem dX6_playRound_106 : decode cX6_playRound 106 = .ok (.iload 4, 2) := by decide +kernel
theorem dX6_playRound_108 : decode cX6_playRound 108 = .ok (.iload 5, 2) := by decide +kernel
theorem dX6_playRound_110 : decode cX6_playRound 110 = .ok (.if_icmp .le 7, 3) := by decide +kernel
theorem dX6_playRound_113 : decode cX6_playRound 113 = .ok (.iconst 1, 1) := by decide +kernel
theorem dX6_playRound_114 : decode cX6_playRound 114 = .ok (.goto 4, 3) := by decide +kernel
theorem dX6_playRound_117 : decode cX6_playRound 117 = .ok (.iconst 0, 1) := by decide +kernel
theorem dX6_playRound_118 : decode cX6_playRound 118 = .ok (.iload 6, 2) := by decide +kernel
theorem dX6_playRound_120 : decode cX6_playRound 120 = .ok (.iload 7, 2) := by decide +kernel
theorem dX6_playRound_122 : decode cX6_playRound 122 = .ok (.invokevirtual 263, 3) := by decide +kernel
theorem dX6_playRound_125 : decode cX6_playRound 125 = .ok (.aload_n 0, 1) := by decide +kernel
theorem dX6_playRound_126 : decode cX6_playRound 126 = .ok (.getfield 51, 3) := by decide +kernel
theorem dX6_playRound_129 : decode cX6_playRound 129 = .ok (.iload 5, 2) := by decide +kernel
theorem dX6_playRound_131 : decode cX6_playRound 131 = .ok (.iload 4, 2) := by decide +kernel
theorem dX6_playRound_133 : decode cX6_playRound 133 = .ok (.if_icmp .le 7, 3) := by decide +kernel
theorem dX6_playRound_136 : decode cX6_playRound 136 = .ok (.iconst 1, 1) := by decide +kernel
theorem dX6_playRound_137 : decode cX6_playRound 137 = .ok (.goto 4, 3) := by decide +kernel
theorem dX6_playRound_140 : decode cX6_playRound 140 = .ok (.iconst 0, 1) := by decide +kernel
theorem dX6_playRound_141 : decode cX6_playRound 141 = .ok (.iload 7, 2) := by decide +kernel
theorem dX6_playRound_143 : decode cX6_playRound 143 = .ok (.iload 6, 2) := by decide +kernel
theorem dX6_playRound_145 : decode cX6_playRound 145 = .ok (.invokevirtual 263, 3) := by decide +kernel
theorem dX6_playRound_148 : decode cX6_playRound 148 = .ok (.return_, 1) := by decide +kernel
set_option maxRecDepth 20000 in
theorem ggX6_giveWins_X0_countOf : GoodIn wsX6_giveWins wsX0_countOf := goodIn_r _ [9, 10, 11, 12, 8, 13, 14, 15, 16, 17, 18, 19, 20, 21, 22, 23, 36, 37, 38, 39, 40, 41, 42, 43, 44, 45] (by decide +kernel) (by decide +kernel)
set_option maxRecDepth 20000 in
theorem gX6_giveWins_X0_countOf : GoodIn wsX6_giveWins (wsV RX6 225 RX0 yX0_countOf wsX0_countOf) := goodIn_app (goodIn_of _ (by decide +kernel)) ggX6_giveWins_X0_countOf
theorem dX6_giveWins_0 : decode cX6_giveWins 0 = .ok (.iconst 0, 1) := by decide +kernel
theorem dX6_giveWins_1 : decode cX6_giveWins 1 = .ok (.istore_n 2, 1) := by decide +kernel
theorem dX6_giveWins_2 : decode cX6_giveWins 2 = .ok (.iload_n 2, 1) := by decide +kernel
theorem dX6_giveWins_3 : decode cX6_giveWins 3 = .ok (.bipush 16, 2) := by decide +kernel
theorem dX6_giveWins_5 : decode cX6_giveWins 5 = .ok (.if_icmp .ge 38, 3) := by decide +kernel
theorem dX6_giveWins_8 : decode cX6_giveWins 8 = .ok (.aload_n 0, 1) := by decide +kernel
theorem dX6_giveWins_9 : decode cX6_giveWins 9 = .ok (.getfield 26, 3) := by decide +kernel
theorem dX6_giveWins_12 : decode cX6_giveWins 12 = .ok (.iload_n 1, 1) := by decide +kernel
theorem dX6_giveWins_13 : decode cX6_giveWins 13 = .ok (.iload_n 2, 1) := by decide +kernel
theorem dX6_giveWins_14 : decode cX6_giveWins 14 = .ok (.aload_n 0, 1) := by decide +kernel
theorem dX6_giveWins_15 : decode cX6_giveWins 15 = .ok (.getfield 19, 3) := by decide +kernel
theorem dX6_giveWins_18 : decode cX6_giveWins 18 = .ok (.invokevirtual 225, 3) := by decide +kernel
theorem dX6_giveWins_21 : decode cX6_giveWins 21 = .ok (.ifCond .le 16, 3) := by decide +kernel
theorem dX6_giveWins_24 : decode cX6_giveWins 24 = .ok (.aload_n 0, 1) := by decide +kernel
theorem dX6_giveWins_25 : decode cX6_giveWins 25 = .ok (.getfield 10, 3) := by decide +kernel
theorem dX6_giveWins_28 : decode cX6_giveWins 28 = .ok (.getfield 212, 3) := by decide +kernel
theorem dX6_giveWins_31 : decode cX6_giveWins 31 = .ok (.iload_n 2, 1) := by decide +kernel
theorem dX6_giveWins_32 : decode cX6_giveWins 32 = .ok (.dup2, 1) := by decide +kernel
theorem dX6_giveWins_33 : decode cX6_giveWins 33 = .ok (.iaload, 1) := by decide +kernel
theorem dX6_giveWins_34 : decode cX6_giveWins 34 = .ok (.iconst 1, 1) := by decide +kernel
theorem dX6_giveWins_35 : decode cX6_giveWins 35 = .ok (.iadd, 1) := by decide +kernel
theorem dX6_giveWins_36 : decode cX6_giveWins 36 = .ok (.iastore, 1) := by decide +kernel
theorem dX6_giveWins_37 : decode cX6_giveWins 37 = .ok (.iinc 2 1, 3) := by decide +kernel
theorem dX6_giveWins_40 : decode cX6_giveWins 40 = .ok (.goto (-38), 3) := by decide +kernel
theorem dX6_giveWins_43 : decode cX6_giveWins 43 = .ok (.return_, 1) := by decide +kernel
set_option maxRecDepth 20000 in
theorem ggX6_countOrders_X6_countOrders : GoodIn wsX6_countOrders wsX6_countOrders := goodIn_r _ [0, 1, 2, 3] (by decide +kernel) (by decide +kernel)
set_option maxRecDepth 20000 in
theorem gX6_countOrders_X6_countOrders : GoodIn wsX6_countOrders (va_wsS RX6 232 yX6_countOrders wsX6_countOrders) := goodIn_app (goodIn_of _ (by decide +kernel)) ggX6_countOrders_X6_countOrders
theorem dX6_countOrders_0 : decode cX6_countOrders 0 = .ok (.iload_n 0, 1) := by decide +kernel
theorem dX6_countOrders_1 : decode cX6_countOrders 1 = .ok (.iload_n 1, 1) := by decide +kernel
theorem dX6_countOrders_2 : decode cX6_countOrders 2 = .ok (.if_icmp .ge 9, 3) := by decide +kernel
theorem dX6_countOrders_5 : decode cX6_countOrders 5 = .ok (.iload_n 0, 1) := by decide +kernel
theorem dX6_countOrders_6 : decode cX6_countOrders 6 = .ok (.bipush 7, 2) := by decide +kernel
theorem dX6_countOrders_8 : decode cX6_countOrders 8 = .ok (.if_icmp .lt 14, 3) := by decide +kernel
theorem dX6_countOrders_11 : decode cX6_countOrders 11 = .ok (.iload 5, 2) := by decide +kernel
theorem dX6_countOrders_13 : decode cX6_countOrders 13 = .ok (.ifCond .eq 7, 3) := by decide +kernel
theorem dX6_countOrders_16 : decode cX6_countOrders 16 = .ok (.iconst 1, 1) := by decide +kernel
theorem dX6_countOrders_17 : decode cX6_countOrders 17 = .ok (.goto 4, 3) := by decide +kernel
theorem dX6_countOrders_20 : decode cX6_countOrders 20 = .ok (.iconst 0, 1) := by decide +kernel
theorem dX6_countOrders_21 : decode cX6_countOrders 21 = .ok (.ireturn, 1) := by decide +kernel
theorem dX6_countOrders_22 : decode cX6_countOrders 22 = .ok (.iconst 0, 1) := by decide +kernel
theorem dX6_countOrders_23 : decode cX6_countOrders 23 = .ok (.istore 6, 2) := by decide +kernel
theorem dX6_countOrders_25 : decode cX6_countOrders 25 = .ok (.iconst 0, 1) := by decide +kernel
theorem dX6_countOrders_26 : decode cX6_countOrders 26 = .ok (.istore 7, 2) := by decide +kernel
theorem dX6_countOrders_28 : decode cX6_countOrders 28 = .ok (.iload 7, 2) := by decide +kernel
theorem dX6_countOrders_30 : decode cX6_countOrders 30 = .ok (.iload_n 1, 1) := by decide +kernel
theorem dX6_countOrders_31 : decode cX6_countOrders 31 = .ok (.if_icmp .ge 68, 3) := by decide +kernel
theorem dX6_countOrders_34 : decode cX6_countOrders 34 = .ok (.iconst 1, 1) := by decide +kernel
theorem dX6_countOrders_35 : decode cX6_countOrders 35 = .ok (.iload 7, 2) := by decide +kernel
theorem dX6_countOrders_37 : decode cX6_countOrders 37 = .ok (.ishl, 1) := by decide +kernel
theorem dX6_countOrders_38 : decode cX6_countOrders 38 = .ok (.istore 8, 2) := by decide +kernel
theorem dX6_countOrders_40 : decode cX6_countOrders 40 = .ok (.iload_n 2, 1) := by decide +kernel
theorem dX6_countOrders_41 : decode cX6_countOrders 41 = .ok (.iload 8, 2) := by decide +kernel
theorem dX6_countOrders_43 : decode cX6_countOrders 43 = .ok (.iand, 1) := by decide +kernel
theorem dX6_countOrders_44 : decode cX6_countOrders 44 = .ok (.ifCond .ne 49, 3) := by decide +kernel
theorem dX6_countOrders_47 : decode cX6_countOrders 47 = .ok (.iload 5, 2) := by decide +kernel
theorem dX6_countOrders_49 : decode cX6_countOrders 49 = .ok (.ifCond .ne 16, 3) := by decide +kernel
theorem dX6_countOrders_52 : decode cX6_countOrders 52 = .ok (.iload_n 0, 1) := by decide +kernel
theorem dX6_countOrders_53 : decode cX6_countOrders 53 = .ok (.iload 4, 2) := by decide +kernel
theorem dX6_countOrders_55 : decode cX6_countOrders 55 = .ok (.if_icmp .ge 14, 3) := by decide +kernel
theorem dX6_countOrders_58 : decode cX6_countOrders 58 = .ok (.iload_n 3, 1) := by decide +kernel
theorem dX6_countOrders_59 : decode cX6_countOrders 59 = .ok (.iload 8, 2) := by decide +kernel
theorem dX6_countOrders_61 : decode cX6_countOrders 61 = .ok (.iand, 1) := by decide +kernel
theorem dX6_countOrders_62 : decode cX6_countOrders 62 = .ok (.ifCond .eq 7, 3) := by decide +kernel
theorem dX6_countOrders_65 : decode cX6_countOrders 65 = .ok (.iconst 1, 1) := by decide +kernel
theorem dX6_countOrders_66 : decode cX6_countOrders 66 = .ok (.goto 4, 3) := by decide +kernel
theorem dX6_countOrders_69 : decode cX6_countOrders 69 = .ok (.iconst 0, 1) := by decide +kernel
theorem dX6_countOrders_70 : decode cX6_countOrders 70 = .ok (.istore 9, 2) := by decide +kernel
theorem dX6_countOrders_72 : decode cX6_countOrders 72 = .ok (.iload 6, 2) := by decide +kernel
theorem dX6_countOrders_74 : decode cX6_countOrders 74 = .ok (.iload_n 0, 1) := by decide +kernel
theorem dX6_countOrders_75 : decode cX6_countOrders 75 = .ok (.iconst 1, 1) := by decide +kernel
theorem dX6_countOrders_76 : decode cX6_countOrders 76 = .ok (.iadd, 1) := by decide +kernel
theorem dX6_countOrders_77 : decode cX6_countOrders 77 = .ok (.iload_n 1, 1) := by decide +kernel
theorem dX6_countOrders_78 : decode cX6_countOrders 78 = .ok (.iload_n 2, 1) := by decide +kernel
theorem dX6_countOrders_79 : decode cX6_countOrders 79 = .ok (.iload 8, 2) := by decide +kernel
theorem dX6_countOrders_81 : decode cX6_countOrders 81 = .ok (.ior, 1) := by decide +kernel
theorem dX6_countOrders_82 : decode cX6_countOrders 82 = .ok (.iload_n 3, 1) := by decide +kernel
theorem dX6_countOrders_83 : decode cX6_countOrders 83 = .ok (.iload 4, 2) := by decide +kernel
theorem dX6_countOrders_85 : decode cX6_countOrders 85 = .ok (.iload 9, 2) := by decide +kernel
theorem dX6_countOrders_87 : decode cX6_countOrders 87 = .ok (.invokestatic 232, 3) := by decide +kernel
theorem dX6_countOrders_90 : decode cX6_countOrders 90 = .ok (.iadd, 1) := by decide +kernel
theorem dX6_countOrders_91 : decode cX6_countOrders 91 = .ok (.istore 6, 2) := by decide +kernel
theorem dX6_countOrders_93 : decode cX6_countOrders 93 = .ok (.iinc 7 1, 3) := by decide +kernel
theorem dX6_countOrders_96 : decode cX6_countOrders 96 = .ok (.goto (-68), 3) := by decide +kernel
theorem dX6_countOrders_99 : decode cX6_countOrders 99 = .ok (.iload 6, 2) := by decide +kernel
theorem dX6_countOrders_101 : decode cX6_countOrders 101 = .ok (.ireturn, 1) := by decide +kernel
theorem dX7_init_0 : decode cX7_init 0 = .ok (.aload_n 0, 1) := by decide +kernel
theorem dX7_init_1 : decode cX7_init 1 = .ok (.invokespecial 1, 3) := by decide +kernel
theorem dX7_init_4 : decode cX7_init 4 = .ok (.aload_n 0, 1) := by decide +kernel
theorem dX7_init_5 : decode cX7_init 5 = .ok (.bipush 16, 2) := by decide +kernel
theorem dX7_init_7 : decode cX7_init 7 = .ok (.newarray .int, 2) := by decide +kernel
theorem dX7_init_9 : decode cX7_init 9 = .ok (.putfield 7, 3) := by decide +kernel
theorem dX7_init_12 : decode cX7_init 12 = .ok (.aload_n 0, 1) := by decide +kernel
theorem dX7_init_13 : decode cX7_init 13 = .ok (.bipush 16, 2) := by decide +kernel
theorem dX7_init_15 : decode cX7_init 15 = .ok (.newarray .int, 2) := by decide +kernel
theorem dX7_init_17 : decode cX7_init 17 = .ok (.putfield 13, 3) := by decide +kernel
theorem dX7_init_20 : decode cX7_init 20 = .ok (.aload_n 0, 1) := by decide +kernel
theorem dX7_init_21 : decode cX7_init 21 = .ok (.bipush 16, 2) := by decide +kernel
theorem dX7_init_23 : decode cX7_init 23 = .ok (.newarray .boolean, 2) := by decide +kernel
theorem dX7_init_25 : decode cX7_init 25 = .ok (.putfield 16, 3) := by decide +kernel
theorem dX7_init_28 : decode cX7_init 28 = .ok (.aload_n 0, 1) := by decide +kernel
theorem dX7_init_29 : decode cX7_init 29 = .ok (.bipush 16, 2) := by decide +kernel
theorem dX7_init_31 : decode cX7_init 31 = .ok (.newarray .int, 2) := by decide +kernel
theorem dX7_init_33 : decode cX7_init 33 = .ok (.putfield 20, 3) := by decide +kernel
theorem dX7_init_36 : decode cX7_init 36 = .ok (.aload_n 0, 1) := by decide +kernel
theorem dX7_init_37 : decode cX7_init 37 = .ok (.bipush 16, 2) := by decide +kernel
theorem dX7_init_39 : decode cX7_init 39 = .ok (.newarray .int, 2) := by decide +kernel
theorem dX7_init_41 : decode cX7_init 41 = .ok (.putfield 23, 3) := by decide +kernel
theorem dX7_init_44 : decode cX7_init 44 = .ok (.aload_n 0, 1) := by decide +kernel
theorem dX7_init_45 : decode cX7_init 45 = .ok (.iconst 4, 1) := by decide +kernel
theorem dX7_init_46 : decode cX7_init 46 = .ok (.putfield 26, 3) := by decide +kernel
theorem dX7_init_49 : decode cX7_init 49 = .ok (.aload_n 0, 1) := by decide +kernel
theorem dX7_init_50 : decode cX7_init 50 = .ok (.iconst 2, 1) := by decide +kernel
theorem dX7_init_51 : decode cX7_init 51 = .ok (.putfield 30, 3) := by decide +kernel
theorem dX7_init_54 : decode cX7_init 54 = .ok (.aload_n 0, 1) := by decide +kernel
theorem dX7_init_55 : decode cX7_init 55 = .ok (.bipush 80, 2) := by decide +kernel
theorem dX7_init_57 : decode cX7_init 57 = .ok (.newarray .int, 2) := by decide +kernel
theorem dX7_init_59 : decode cX7_init 59 = .ok (.putfield 33, 3) := by decide +kernel
theorem dX7_init_62 : decode cX7_init 62 = .ok (.aload_n 0, 1) := by decide +kernel
theorem dX7_init_63 : decode cX7_init 63 = .ok (.bipush 80, 2) := by decide +kernel
theorem dX7_init_65 : decode cX7_init 65 = .ok (.newarray .int, 2) := by decide +kernel
theorem dX7_init_67 : decode cX7_init 67 = .ok (.putfield 36, 3) := by decide +kernel
theorem dX7_init_70 : decode cX7_init 70 = .ok (.aload_n 0, 1) := by decide +kernel
theorem dX7_init_71 : decode cX7_init 71 = .ok (.bipush 80, 2) := by decide +kernel
theorem dX7_init_73 : decode cX7_init 73 = .ok (.newarray .int, 2) := by decide +kernel
theorem dX7_init_75 : decode cX7_init 75 = .ok (.putfield 39, 3) := by decide +kernel
theorem dX7_init_78 : decode cX7_init 78 = .ok (.aload_n 0, 1) := by decide +kernel
theorem dX7_init_79 : decode cX7_init 79 = .ok (.bipush 12, 2) := by decide +kernel
theorem dX7_init_81 : decode cX7_init 81 = .ok (.newarray .int, 2) := by decide +kernel
theorem dX7_init_83 : decode cX7_init 83 = .ok (.putfield 42, 3) := by decide +kernel
theorem dX7_init_86 : decode cX7_init 86 = .ok (.aload_n 0, 1) := by decide +kernel
theorem dX7_init_87 : decode cX7_init 87 = .ok (.bipush 12, 2) := by decide +kernel
theorem dX7_init_89 : decode cX7_init 89 = .ok (.newarray .int, 2) := by decide +kernel
theorem dX7_init_91 : decode cX7_init 91 = .ok (.putfield 45, 3) := by decide +kernel
theorem dX7_init_94 : decode cX7_init 94 = .ok (.aload_n 0, 1) := by decide +kernel
theorem dX7_init_95 : decode cX7_init 95 = .ok (.bipush 120, 2) := by decide +kernel
theorem dX7_init_97 : decode cX7_init 97 = .ok (.newarray .int, 2) := by decide +kernel
theorem dX7_init_99 : decode cX7_init 99 = .ok (.putfield 48, 3) := by decide +kernel
theorem dX7_init_102 : decode cX7_init 102 = .ok (.aload_n 0, 1) := by decide +kernel
theorem dX7_init_103 : decode cX7_init 103 = .ok (.bipush 20, 2) := by decide +kernel
theorem dX7_init_105 : decode cX7_init 105 = .ok (.newarray .int, 2) := by decide +kernel
theorem dX7_init_107 : decode cX7_init 107 = .ok (.putfield 51, 3) := by decide +kernel
theorem dX7_init_110 : decode cX7_init 110 = .ok (.aload_n 0, 1) := by decide +kernel
theorem dX7_init_111 : decode cX7_init 111 = .ok (.bipush 40, 2) := by decide +kernel
theorem dX7_init_113 : decode cX7_init 113 = .ok (.newarray .int, 2) := by decide +kernel
theorem dX7_init_115 : decode cX7_init 115 = .ok (.putfield 54, 3) := by decide +kernel
theorem dX7_init_118 : decode cX7_init 118 = .ok (.aload_n 0, 1) := by decide +kernel
theorem dX7_init_119 : decode cX7_init 119 = .ok (.bipush 40, 2) := by decide +kernel
theorem dX7_init_121 : decode cX7_init 121 = .ok (.newarray .int, 2) := by decide +kernel
theorem dX7_init_123 : decode cX7_init 123 = .ok (.putfield 57, 3) := by decide +kernel
theorem dX7_init_126 : decode cX7_init 126 = .ok (.aload_n 0, 1) := by decide +kernel
theorem dX7_init_127 : decode cX7_init 127 = .ok (.bipush 40, 2) := by decide +kernel
theorem dX7_init_129 : decode cX7_init 129 = .ok (.newarray .int, 2) := by decide +kernel
theorem dX7_init_131 : decode cX7_init 131 = .ok (.putfield 60, 3) := by decide +kernel
theorem dX7_init_134 : decode cX7_init 134 = .ok (.aload_n 0, 1) := by decide +kernel
theorem dX7_init_135 : decode cX7_init 135 = .ok (.bipush 40, 2) := by decide +kernel
theorem dX7_init_137 : decode cX7_init 137 = .ok (.newarray .boolean, 2) := by decide +kernel
theorem dX7_init_139 : decode cX7_init 139 = .ok (.putfield 63, 3) := by decide +kernel
theorem dX7_init_142 : decode cX7_init 142 = .ok (.aload_n 0, 1) := by decide +kernel
theorem dX7_init_143 : decode cX7_init 143 = .ok (.iconst 4, 1) := by decide +kernel
theorem dX7_init_144 : decode cX7_init 144 = .ok (.newarray .int, 2) := by decide +kernel
theorem dX7_init_146 : decode cX7_init 146 = .ok (.putfield 66, 3) := by decide +kernel
theorem dX7_init_149 : decode cX7_init 149 = .ok (.return_, 1) := by decide +kernel
theorem dX7_thrown_0 : decode cX7_thrown 0 = .ok (.aload_n 0, 1) := by decide +kernel
theorem dX7_thrown_1 : decode cX7_thrown 1 = .ok (.getfield 69, 3) := by decide +kernel
theorem dX7_thrown_4 : decode cX7_thrown 4 = .ok (.ireturn, 1) := by decide +kernel
theorem dX7_in_0 : decode cX7_in 0 = .ok (.iload_n 0, 1) := by decide +kernel
theorem dX7_in_1 : decode cX7_in 1 = .ok (.iload_n 1, 1) := by decide +kernel
theorem dX7_in_2 : decode cX7_in 2 = .ok (.if_icmp .lt 12, 3) := by decide +kernel
theorem dX7_in_5 : decode cX7_in 5 = .ok (.iload_n 0, 1) := by decide +kernel
theorem dX7_in_6 : decode cX7_in 6 = .ok (.iload_n 2, 1) := by decide +kernel
theorem dX7_in_7 : decode cX7_in 7 = .ok (.if_icmp .gt 7, 3) := by decide +kernel
theorem dX7_in_10 : decode cX7_in 10 = .ok (.iconst 1, 1) := by decide +kernel
theorem dX7_in_11 : decode cX7_in 11 = .ok (.goto 4, 3) := by decide +kernel
theorem dX7_in_14 : decode cX7_in 14 = .ok (.iconst 0, 1) := by decide +kernel
theorem dX7_in_15 : decode cX7_in 15 = .ok (.ireturn, 1) := by decide +kernel
theorem dX7_goes_0 : decode cX7_goes 0 = .ok (.aload_n 0, 1) := by decide +kernel
theorem dX7_goes_1 : decode cX7_goes 1 = .ok (.iload_n 1, 1) := by decide +kernel
theorem dX7_goes_2 : decode cX7_goes 2 = .ok (.ifCond .ne 7, 3) := by decide +kernel
theorem dX7_goes_5 : decode cX7_goes 5 = .ok (.iconst 1, 1) := by decide +kernel
theorem dX7_goes_6 : decode cX7_goes 6 = .ok (.goto 20, 3) := by decide +kernel
theorem dX7_goes_9 : decode cX7_goes 9 = .ok (.iload_n 2, 1) := by decide +kernel
theorem dX7_goes_10 : decode cX7_goes 10 = .ok (.ifCond .ne 7, 3) := by decide +kernel
theorem dX7_goes_13 : decode cX7_goes 13 = .ok (.iconst 2, 1) := by decide +kernel
theorem dX7_goes_14 : decode cX7_goes 14 = .ok (.goto 12, 3) := by decide +kernel
theorem dX7_goes_17 : decode cX7_goes 17 = .ok (.iload_n 3, 1) := by decide +kernel
theorem dX7_goes_18 : decode cX7_goes 18 = .ok (.ifCond .ne 7, 3) := by decide +kernel
theorem dX7_goes_21 : decode cX7_goes 21 = .ok (.iconst 3, 1) := by decide +kernel
theorem dX7_goes_22 : decode cX7_goes 22 = .ok (.goto 4, 3) := by decide +kernel
theorem dX7_goes_25 : decode cX7_goes 25 = .ok (.iconst 0, 1) := by decide +kernel
theorem dX7_goes_26 : decode cX7_goes 26 = .ok (.putfield 69, 3) := by decide +kernel
theorem dX7_goes_29 : decode cX7_goes 29 = .ok (.aload_n 0, 1) := by decide +kernel
theorem dX7_goes_30 : decode cX7_goes 30 = .ok (.getfield 69, 3) := by decide +kernel
theorem dX7_goes_33 : decode cX7_goes 33 = .ok (.ifCond .ne 7, 3) := by decide +kernel
theorem dX7_goes_36 : decode cX7_goes 36 = .ok (.iconst 1, 1) := by decide +kernel
theorem dX7_goes_37 : decode cX7_goes 37 = .ok (.goto 4, 3) := by decide +kernel
theorem dX7_goes_40 : decode cX7_goes 40 = .ok (.iconst 0, 1) := by decide +kernel
theorem dX7_goes_41 : decode cX7_goes 41 = .ok (.ireturn, 1) := by decide +kernel
theorem dX7_told_0 : decode cX7_told 0 = .ok (.aload_n 0, 1) := by decide +kernel
theorem dX7_told_1 : decode cX7_told 1 = .ok (.iconst 0, 1) := by decide +kernel
theorem dX7_told_2 : decode cX7_told 2 = .ok (.putfield 69, 3) := by decide +kernel
theorem dX7_told_5 : decode cX7_told 5 = .ok (.iload_n 1, 1) := by decide +kernel
theorem dX7_told_6 : decode cX7_told 6 = .ok (.ireturn, 1) := by decide +kernel
set_option maxRecDepth 20000 in
theorem ggX7_isKind_X7_in : GoodIn wsX7_isKind wsX7_in := goodIn_r _ [4] (by decide +kernel) (by decide +kernel)
set_option maxRecDepth 20000 in
theorem gX7_isKind_X7_in : GoodIn wsX7_isKind (va_wsS RX7 72 yX7_in wsX7_in) := goodIn_app (goodIn_of _ (by decide +kernel)) ggX7_isKind_X7_in
theorem dX7_isKind_0 : decode cX7_isKind 0 = .ok (.iload_n 0, 1) := by decide +kernel
theorem dX7_isKind_1 : decode cX7_isKind 1 = .ok (.iconst 0, 1) := by decide +kernel
theorem dX7_isKind_2 : decode cX7_isKind 2 = .ok (.bipush 15, 2) := by decide +kernel
theorem dX7_isKind_4 : decode cX7_isKind 4 = .ok (.invokestatic 72, 3) := by decide +kernel
theorem dX7_isKind_7 : decode cX7_isKind 7 = .ok (.ireturn, 1) := by decide +kernel
set_option maxRecDepth 20000 in
theorem ggX7_isCollector_X7_in : GoodIn wsX7_isCollector wsX7_in := goodIn_r _ [4] (by decide +kernel) (by decide +kernel)
set_option maxRecDepth 20000 in
theorem gX7_isCollector_X7_in : GoodIn wsX7_isCollector (va_wsS RX7 72 yX7_in wsX7_in) := goodIn_app (goodIn_of _ (by decide +kernel)) ggX7_isCollector_X7_in
theorem dX7_isCollector_0 : decode cX7_isCollector 0 = .ok (.iload_n 0, 1) := by decide +kernel
theorem dX7_isCollector_1 : decode cX7_isCollector 1 = .ok (.iconst 0, 1) := by decide +kernel
theorem dX7_isCollector_2 : decode cX7_isCollector 2 = .ok (.iconst 5, 1) := by decide +kernel
theorem dX7_isCollector_3 : decode cX7_isCollector 3 = .ok (.invokestatic 72, 3) := by decide +kernel
theorem dX7_isCollector_6 : decode cX7_isCollector 6 = .ok (.ireturn, 1) := by decide +kernel
set_option maxRecDepth 20000 in
theorem ggX7_isCard_X7_in : GoodIn wsX7_isCard wsX7_in := goodIn_r _ [5] (by decide +kernel) (by decide +kernel)
set_option maxRecDepth 20000 in
theorem gX7_isCard_X7_in : GoodIn wsX7_isCard (va_wsS RX7 72 yX7_in wsX7_in) := goodIn_app (goodIn_of _ (by decide +kernel)) ggX7_isCard_X7_in
theorem dX7_isCard_0 : decode cX7_isCard 0 = .ok (.iload_n 1, 1) := by decide +kernel
theorem dX7_isCard_1 : decode cX7_isCard 1 = .ok (.iconst 0, 1) := by decide +kernel
theorem dX7_isCard_2 : decode cX7_isCard 2 = .ok (.aload_n 0, 1) := by decide +kernel
theorem dX7_isCard_3 : decode cX7_isCard 3 = .ok (.getfield 76, 3) := by decide +kernel
theorem dX7_isCard_6 : decode cX7_isCard 6 = .ok (.iconst 1, 1) := by decide +kernel
theorem dX7_isCard_7 : decode cX7_isCard 7 = .ok (.isub, 1) := by decide +kernel
theorem dX7_isCard_8 : decode cX7_isCard 8 = .ok (.invokestatic 72, 3) := by decide +kernel
theorem dX7_isCard_11 : decode cX7_isCard 11 = .ok (.ireturn, 1) := by decide +kernel
set_option maxRecDepth 20000 in
theorem ggX7_isDeck_X7_in : GoodIn wsX7_isDeck wsX7_in := goodIn_r _ [5] (by decide +kernel) (by decide +kernel)
set_option maxRecDepth 20000 in
theorem gX7_isDeck_X7_in : GoodIn wsX7_isDeck (va_wsS RX7 72 yX7_in wsX7_in) := goodIn_app (goodIn_of _ (by decide +kernel)) ggX7_isDeck_X7_in
theorem dX7_isDeck_0 : decode cX7_isDeck 0 = .ok (.iload_n 1, 1) := by decide +kernel
theorem dX7_isDeck_1 : decode cX7_isDeck 1 = .ok (.iconst 0, 1) := by decide +kernel
theorem dX7_isDeck_2 : decode cX7_isDeck 2 = .ok (.aload_n 0, 1) := by decide +kernel
theorem dX7_isDeck_3 : decode cX7_isDeck 3 = .ok (.getfield 79, 3) := by decide +kernel
theorem dX7_isDeck_6 : decode cX7_isDeck 6 = .ok (.iconst 1, 1) := by decide +kernel
theorem dX7_isDeck_7 : decode cX7_isDeck 7 = .ok (.isub, 1) := by decide +kernel
theorem dX7_isDeck_8 : decode cX7_isDeck 8 = .ok (.invokestatic 72, 3) := by decide +kernel
theorem dX7_isDeck_11 : decode cX7_isDeck 11 = .ok (.ireturn, 1) := by decide +kernel
set_option maxRecDepth 20000 in
theorem ggX7_isOffer_X7_in : GoodIn wsX7_isOffer wsX7_in := goodIn_r _ [5] (by decide +kernel) (by decide +kernel)
set_option maxRecDepth 20000 in
theorem gX7_isOffer_X7_in : GoodIn wsX7_isOffer (va_wsS RX7 72 yX7_in wsX7_in) := goodIn_app (goodIn_of _ (by decide +kernel)) ggX7_isOffer_X7_in
theorem dX7_isOffer_0 : decode cX7_isOffer 0 = .ok (.iload_n 1, 1) := by decide +kernel
theorem dX7_isOffer_1 : decode cX7_isOffer 1 = .ok (.iconst 0, 1) := by decide +kernel
theorem dX7_isOffer_2 : decode cX7_isOffer 2 = .ok (.aload_n 0, 1) := by decide +kernel
theorem dX7_isOffer_3 : decode cX7_isOffer 3 = .ok (.getfield 82, 3) := by decide +kernel
theorem dX7_isOffer_6 : decode cX7_isOffer 6 = .ok (.iconst 1, 1) := by decide +kernel
theorem dX7_isOffer_7 : decode cX7_isOffer 7 = .ok (.isub, 1) := by decide +kernel
theorem dX7_isOffer_8 : decode cX7_isOffer 8 = .ok (.invokestatic 72, 3) := by decide +kernel
theorem dX7_isOffer_11 : decode cX7_isOffer 11 = .ok (.ireturn, 1) := by decide +kernel
set_option maxRecDepth 20000 in
theorem ggX7_setKind_X7_isKind : GoodIn wsX7_setKind wsX7_isKind := goodIn_r _ [6, 7, 8, 5, 9] (by decide +kernel) (by decide +kernel)
set_option maxRecDepth 20000 in
theorem gX7_setKind_X7_isKind : GoodIn wsX7_setKind (va_wsS RX7 85 yX7_isKind wsX7_isKind) := goodIn_app (goodIn_of _ (by decide +kernel)) ggX7_setKind_X7_isKind
set_option maxRecDepth 20000 in
theorem ggX7_setKind_X7_in : GoodIn wsX7_setKind wsX7_in := goodIn_r _ [9] (by decide +kernel) (by decide +kernel)
set_option maxRecDepth 20000 in
theorem gX7_setKind_X7_in : GoodIn wsX7_setKind (va_wsS RX7 72 yX7_in wsX7_in) := goodIn_app (goodIn_of _ (by decide +kernel)) ggX7_setKind_X7_in
set_option maxRecDepth 20000 in
theorem ggX7_setKind_X7_goes : GoodIn wsX7_setKind wsX7_goes := goodIn_r _ [13, 14, 15, 16, 17, 18, 19, 20, 21, 22, 23, 24, 25, 26, 27, 28, 29, 30, 31, 32, 33, 34, 35, 36, 37] (by decide +kernel) (by decide +kernel)
set_option maxRecDepth 20000 in
theorem gX7_setKind_X7_goes : GoodIn wsX7_setKind (wsV RX7 89 RX7 yX7_goes wsX7_goes) := goodIn_app (goodIn_of _ (by decide +kernel)) ggX7_setKind_X7_goes
theorem dX7_setKind_0 : decode cX7_setKind 0 = .ok (.aload_n 0, 1) := by decide +kernel
theorem dX7_setKind_1 : decode cX7_setKind 1 = .ok (.iload_n 1, 1) := by decide +kernel
theorem dX7_setKind_2 : decode cX7_setKind 2 = .ok (.invokestatic 85, 3) := by decide +kernel
theorem dX7_setKind_5 : decode cX7_setKind 5 = .ok (.iload_n 2, 1) := by decide +kernel
theorem dX7_setKind_6 : decode cX7_setKind 6 = .ok (.iconst 0, 1) := by decide +kernel
theorem dX7_setKind_7 : decode cX7_setKind 7 = .ok (.bipush 9, 2) := by decide +kernel
theorem dX7_setKind_9 : decode cX7_setKind 9 = .ok (.invokestatic 72, 3) := by decide +kernel
theorem dX7_setKind_12 : decode cX7_setKind 12 = .ok (.ifCond .eq 16, 3) := by decide +kernel
theorem dX7_setKind_15 : decode cX7_setKind 15 = .ok (.iload_n 3, 1) := by decide +kernel
theorem dX7_setKind_16 : decode cX7_setKind 16 = .ok (.iconst 0, 1) := by decide +kernel
theorem dX7_setKind_17 : decode cX7_setKind 17 = .ok (.iconst 3, 1) := by decide +kernel
theorem dX7_setKind_18 : decode cX7_setKind 18 = .ok (.invokestatic 72, 3) := by decide +kernel
theorem dX7_setKind_21 : decode cX7_setKind 21 = .ok (.ifCond .eq 7, 3) := by decide +kernel
theorem dX7_setKind_24 : decode cX7_setKind 24 = .ok (.iconst 1, 1) := by decide +kernel
theorem dX7_setKind_25 : decode cX7_setKind 25 = .ok (.goto 4, 3) := by decide +kernel
theorem dX7_setKind_28 : decode cX7_setKind 28 = .ok (.iconst 0, 1) := by decide +kernel
theorem dX7_setKind_29 : decode cX7_setKind 29 = .ok (.iconst 1, 1) := by decide +kernel
theorem dX7_setKind_30 : decode cX7_setKind 30 = .ok (.invokevirtual 89, 3) := by decide +kernel
theorem dX7_setKind_33 : decode cX7_setKind 33 = .ok (.ifCond .ne 5, 3) := by decide +kernel
theorem dX7_setKind_36 : decode cX7_setKind 36 = .ok (.iconst 0, 1) := by decide +kernel
theorem dX7_setKind_37 : decode cX7_setKind 37 = .ok (.ireturn, 1) := by decide +kernel
theorem dX7_setKind_38 : decode cX7_setKind 38 = .ok (.aload_n 0, 1) := by decide +kernel
theorem dX7_setKind_39 : decode cX7_setKind 39 = .ok (.getfield 7, 3) := by decide +kernel
theorem dX7_setKind_42 : decode cX7_setKind 42 = .ok (.iload_n 1, 1) := by decide +kernel
theorem dX7_setKind_43 : decode cX7_setKind 43 = .ok (.iaload, 1) := by decide +kernel
theorem dX7_setKind_44 : decode cX7_setKind 44 = .ok (.istore 4, 2) := by decide +kernel
theorem dX7_setKind_46 : decode cX7_setKind 46 = .ok (.aload_n 0, 1) := by decide +kernel
theorem dX7_setKind_47 : decode cX7_setKind 47 = .ok (.getfield 7, 3) := by decide +kernel
theorem dX7_setKind_50 : decode cX7_setKind 50 = .ok (.iload_n 1, 1) := by decide +kernel
theorem dX7_setKind_51 : decode cX7_setKind 51 = .ok (.iload_n 2, 1) := by decide +kernel
theorem dX7_setKind_52 : decode cX7_setKind 52 = .ok (.iastore, 1) := by decide +kernel
theorem dX7_setKind_53 : decode cX7_setKind 53 = .ok (.aload_n 0, 1) := by decide +kernel
theorem dX7_setKind_54 : decode cX7_setKind 54 = .ok (.getfield 13, 3) := by decide +kernel
theorem dX7_setKind_57 : decode cX7_setKind 57 = .ok (.iload_n 1, 1) := by decide +kernel
theorem dX7_setKind_58 : decode cX7_setKind 58 = .ok (.iload_n 3, 1) := by decide +kernel
theorem dX7_setKind_59 : decode cX7_setKind 59 = .ok (.iastore, 1) := by decide +kernel
theorem dX7_setKind_60 : decode cX7_setKind 60 = .ok (.iload 4, 2) := by decide +kernel
theorem dX7_setKind_62 : decode cX7_setKind 62 = .ok (.ireturn, 1) := by decide +kernel
theorem dX7_kindAt_0 : decode cX7_kindAt 0 = .ok (.aload_n 0, 1) := by decide +kernel
theorem dX7_kindAt_1 : decode cX7_kindAt 1 = .ok (.getfield 33, 3) := by decide +kernel
theorem dX7_kindAt_4 : decode cX7_kindAt 4 = .ok (.aload_n 0, 1) := by decide +kernel
theorem dX7_kindAt_5 : decode cX7_kindAt 5 = .ok (.getfield 48, 3) := by decide +kernel
theorem dX7_kindAt_8 : decode cX7_kindAt 8 = .ok (.bipush 10, 2) := by decide +kernel
theorem dX7_kindAt_10 : decode cX7_kindAt 10 = .ok (.iload_n 1, 1) := by decide +kernel
theorem dX7_kindAt_11 : decode cX7_kindAt 11 = .ok (.imul, 1) := by decide +kernel
theorem dX7_kindAt_12 : decode cX7_kindAt 12 = .ok (.iload_n 2, 1) := by decide +kernel
theorem dX7_kindAt_13 : decode cX7_kindAt 13 = .ok (.iadd, 1) := by decide +kernel
theorem dX7_kindAt_14 : decode cX7_kindAt 14 = .ok (.iaload, 1) := by decide +kernel
theorem dX7_kindAt_15 : decode cX7_kindAt 15 = .ok (.iaload, 1) := by decide +kernel
theorem dX7_kindAt_16 : decode cX7_kindAt 16 = .ok (.ireturn, 1) := by decide +kernel
set_option maxRecDepth 20000 in
theorem ggX7_manyOf_X7_kindAt : GoodIn wsX7_manyOf wsX7_kindAt := goodIn_r _ [6, 7, 8, 9, 10, 11, 12, 13, 14, 15, 16, 17, 18, 19, 20, 21, 22, 23, 24, 25, 26, 27, 28, 29, 30, 31] (by decide +kernel) (by decide +kernel)
set_option maxRecDepth 20000 in
theorem gX7_manyOf_X7_kindAt : GoodIn wsX7_manyOf (wsV RX7 93 RX7 yX7_kindAt wsX7_kindAt) := goodIn_app (goodIn_of _ (by decide +kernel)) ggX7_manyOf_X7_kindAt
theorem dX7_manyOf_0 : decode cX7_manyOf 0 = .ok (.iconst 0, 1) := by decide +kernel
theorem dX7_manyOf_1 : decode cX7_manyOf 1 = .ok (.istore_n 3, 1) := by decide +kernel
theorem dX7_manyOf_2 : decode cX7_manyOf 2 = .ok (.iconst 0, 1) := by decide +kernel
theorem dX7_manyOf_3 : decode cX7_manyOf 3 = .ok (.istore 4, 2) := by decide +kernel
theorem dX7_manyOf_5 : decode cX7_manyOf 5 = .ok (.iload 4, 2) := by decide +kernel
theorem dX7_manyOf_7 : decode cX7_manyOf 7 = .ok (.aload_n 0, 1) := by decide +kernel
theorem dX7_manyOf_8 : decode cX7_manyOf 8 = .ok (.getfield 45, 3) := by decide +kernel
theorem dX7_manyOf_11 : decode cX7_manyOf 11 = .ok (.iload_n 1, 1) := by decide +kernel
theorem dX7_manyOf_12 : decode cX7_manyOf 12 = .ok (.iaload, 1) := by decide +kernel
theorem dX7_manyOf_13 : decode cX7_manyOf 13 = .ok (.if_icmp .ge 28, 3) := by decide +kernel
theorem dX7_manyOf_16 : decode cX7_manyOf 16 = .ok (.iload_n 3, 1) := by decide +kernel
theorem dX7_manyOf_17 : decode cX7_manyOf 17 = .ok (.aload_n 0, 1) := by decide +kernel
theorem dX7_manyOf_18 : decode cX7_manyOf 18 = .ok (.iload_n 1, 1) := by decide +kernel
theorem dX7_manyOf_19 : decode cX7_manyOf 19 = .ok (.iload 4, 2) := by decide +kernel
theorem dX7_manyOf_21 : decode cX7_manyOf 21 = .ok (.invokevirtual 93, 3) := by decide +kernel
theorem dX7_manyOf_24 : decode cX7_manyOf 24 = .ok (.iload_n 2, 1) := by decide +kernel
theorem dX7_manyOf_25 : decode cX7_manyOf 25 = .ok (.if_icmp .ne 7, 3) := by decide +kernel
theorem dX7_manyOf_28 : decode cX7_manyOf 28 = .ok (.iconst 1, 1) := by decide +kernel
theorem dX7_manyOf_29 : decode cX7_manyOf 29 = .ok (.goto 4, 3) := by decide +kernel
theorem dX7_manyOf_32 : decode cX7_manyOf 32 = .ok (.iconst 0, 1) := by decide +kernel
theorem dX7_manyOf_33 : decode cX7_manyOf 33 = .ok (.iadd, 1) := by decide +kernel
theorem dX7_manyOf_34 : decode cX7_manyOf 34 = .ok (.istore_n 3, 1) := by decide +kernel
theorem dX7_manyOf_35 : decode cX7_manyOf 35 = .ok (.iinc 4 1, 3) := by decide +kernel
theorem dX7_manyOf_38 : decode cX7_manyOf 38 = .ok (.goto (-33), 3) := by decide +kernel
theorem dX7_manyOf_41 : decode cX7_manyOf 41 = .ok (.iload_n 3, 1) := by decide +kernel
theorem dX7_manyOf_42 : decode cX7_manyOf 42 = .ok (.ireturn, 1) := by decide +kernel
set_option maxRecDepth 20000 in
theorem ggX7_allows_X7_kindAt : GoodIn wsX7_allows wsX7_kindAt := goodIn_r _ [12, 13, 4, 18, 19, 20, 21, 22, 23, 24, 25, 26, 27, 28, 29, 30, 31, 32, 33, 34, 35, 36, 37, 38, 39, 40] (by decide +kernel) (by decide +kernel)
set_option maxRecDepth 20000 in
theorem gX7_allows_X7_kindAt : GoodIn wsX7_allows (wsV RX7 93 RX7 yX7_kindAt wsX7_kindAt) := goodIn_app (goodIn_of _ (by decide +kernel)) ggX7_allows_X7_kindAt
set_option maxRecDepth 20000 in
theorem ggX7_allows_X7_manyOf : GoodIn wsX7_allows wsX7_manyOf := goodIn_r _ [17, 1, 8, 9, 10, 11, 12, 13, 4, 18, 19, 20, 21, 22, 23, 24, 25, 26, 27, 28, 29, 30, 31, 32, 33, 34, 35, 36, 37, 38, 39, 40] (by decide +kernel) (by decide +kernel)
set_option maxRecDepth 20000 in
theorem gX7_allows_X7_manyOf : GoodIn wsX7_allows (wsV RX7 97 RX7 yX7_manyOf wsX7_manyOf) := goodIn_app (goodIn_of _ (by decide +kernel)) ggX7_allows_X7_manyOf
theorem dX7_allows_0 : decode cX7_allows 0 = .ok (.aload_n 0, 1) := by decide +kernel
theorem dX7_allows_1 : decode cX7_allows 1 = .ok (.getfield 45, 3) := by decide +kernel
theorem dX7_allows_4 : decode cX7_allows 4 = .ok (.iload_n 1, 1) := by decide +kernel
theorem dX7_allows_5 : decode cX7_allows 5 = .ok (.iaload, 1) := by decide +kernel
theorem dX7_allows_6 : decode cX7_allows 6 = .ok (.aload_n 0, 1) := by decide +kernel
theorem dX7_allows_7 : decode cX7_allows 7 = .ok (.getfield 26, 3) := by decide +kernel
theorem dX7_allows_10 : decode cX7_allows 10 = .ok (.if_icmp .ne 7, 3) := by decide +kernel
theorem dX7_allows_13 : decode cX7_allows 13 = .ok (.iconst 1, 1) := by decide +kernel
theorem dX7_allows_14 : decode cX7_allows 14 = .ok (.goto 4, 3) := by decide +kernel
theorem dX7_allows_17 : decode cX7_allows 17 = .ok (.iconst 0, 1) := by decide +kernel
theorem dX7_allows_18 : decode cX7_allows 18 = .ok (.istore_n 2, 1) := by decide +kernel
theorem dX7_allows_19 : decode cX7_allows 19 = .ok (.iconst 0, 1) := by decide +kernel
theorem dX7_allows_20 : decode cX7_allows 20 = .ok (.istore_n 3, 1) := by decide +kernel
theorem dX7_allows_21 : decode cX7_allows 21 = .ok (.iload_n 3, 1) := by decide +kernel
theorem dX7_allows_22 : decode cX7_allows 22 = .ok (.aload_n 0, 1) := by decide +kernel
theorem dX7_allows_23 : decode cX7_allows 23 = .ok (.getfield 45, 3) := by decide +kernel
theorem dX7_allows_26 : decode cX7_allows 26 = .ok (.iload_n 1, 1) := by decide +kernel
theorem dX7_allows_27 : decode cX7_allows 27 = .ok (.iaload, 1) := by decide +kernel
theorem dX7_allows_28 : decode cX7_allows 28 = .ok (.if_icmp .ge 88, 3) := by decide +kernel
theorem dX7_allows_31 : decode cX7_allows 31 = .ok (.aload_n 0, 1) := by decide +kernel
theorem dX7_allows_32 : decode cX7_allows 32 = .ok (.getfield 39, 3) := by decide +kernel
theorem dX7_allows_35 : decode cX7_allows 35 = .ok (.aload_n 0, 1) := by decide +kernel
theorem dX7_allows_36 : decode cX7_allows 36 = .ok (.getfield 48, 3) := by decide +kernel
theorem dX7_allows_39 : decode cX7_allows 39 = .ok (.bipush 10, 2) := by decide +kernel
theorem dX7_allows_41 : decode cX7_allows 41 = .ok (.iload_n 1, 1) := by decide +kernel
theorem dX7_allows_42 : decode cX7_allows 42 = .ok (.imul, 1) := by decide +kernel
theorem dX7_allows_43 : decode cX7_allows 43 = .ok (.iload_n 3, 1) := by decide +kernel
theorem dX7_allows_44 : decode cX7_allows 44 = .ok (.iadd, 1) := by decide +kernel
theorem dX7_allows_45 : decode cX7_allows 45 = .ok (.iaload, 1) := by decide +kernel
theorem dX7_allows_46 : decode cX7_allows 46 = .ok (.iaload, 1) := by decide +kernel
theorem dX7_allows_47 : decode cX7_allows 47 = .ok (.aload_n 0, 1) := by decide +kernel
theorem dX7_allows_48 : decode cX7_allows 48 = .ok (.getfield 42, 3) := by decide +kernel
theorem dX7_allows_51 : decode cX7_allows 51 = .ok (.iload_n 1, 1) := by decide +kernel
theorem dX7_allows_52 : decode cX7_allows 52 = .ok (.iaload, 1) := by decide +kernel
theorem dX7_allows_53 : decode cX7_allows 53 = .ok (.if_icmp .ne 7, 3) := by decide +kernel
theorem dX7_allows_56 : decode cX7_allows 56 = .ok (.iconst 1, 1) := by decide +kernel
theorem dX7_allows_57 : decode cX7_allows 57 = .ok (.goto 4, 3) := by decide +kernel
theorem dX7_allows_60 : decode cX7_allows 60 = .ok (.iconst 0, 1) := by decide +kernel
theorem dX7_allows_61 : decode cX7_allows 61 = .ok (.istore 4, 2) := by decide +kernel
theorem dX7_allows_63 : decode cX7_allows 63 = .ok (.iload_n 2, 1) := by decide +kernel
theorem dX7_allows_64 : decode cX7_allows 64 = .ok (.ifCond .eq 44, 3) := by decide +kernel
theorem dX7_allows_67 : decode cX7_allows 67 = .ok (.iload 4, 2) := by decide +kernel
theorem dX7_allows_69 : decode cX7_allows 69 = .ok (.ifCond .eq 39, 3) := by decide +kernel
theorem dX7_allows_72 : decode cX7_allows 72 = .ok (.aload_n 0, 1) := by decide +kernel
theorem dX7_allows_73 : decode cX7_allows 73 = .ok (.getfield 16, 3) := by decide +kernel
theorem dX7_allows_76 : decode cX7_allows 76 = .ok (.aload_n 0, 1) := by decide +kernel
theorem dX7_allows_77 : decode cX7_allows 77 = .ok (.iload_n 1, 1) := by decide +kernel
theorem dX7_allows_78 : decode cX7_allows 78 = .ok (.iload_n 3, 1) := by decide +kernel
theorem dX7_allows_79 : decode cX7_allows 79 = .ok (.invokevirtual 93, 3) := by decide +kernel
theorem dX7_allows_82 : decode cX7_allows 82 = .ok (.baload, 1) := by decide +kernel
theorem dX7_allows_83 : decode cX7_allows 83 = .ok (.ifCond .ne 25, 3) := by decide +kernel
theorem dX7_allows_86 : decode cX7_allows 86 = .ok (.aload_n 0, 1) := by decide +kernel
theorem dX7_allows_87 : decode cX7_allows 87 = .ok (.iload_n 1, 1) := by decide +kernel
theorem dX7_allows_88 : decode cX7_allows 88 = .ok (.aload_n 0, 1) := by decide +kernel
theorem dX7_allows_89 : decode cX7_allows 89 = .ok (.iload_n 1, 1) := by decide +kernel
theorem dX7_allows_90 : decode cX7_allows 90 = .ok (.iload_n 3, 1) := by decide +kernel
theorem dX7_allows_91 : decode cX7_allows 91 = .ok (.invokevirtual 93, 3) := by decide +kernel
theorem dX7_allows_94 : decode cX7_allows 94 = .ok (.invokevirtual 97, 3) := by decide +kernel
theorem dX7_allows_97 : decode cX7_allows 97 = .ok (.aload_n 0, 1) := by decide +kernel
theorem dX7_allows_98 : decode cX7_allows 98 = .ok (.getfield 30, 3) := by decide +kernel
theorem dX7_allows_101 : decode cX7_allows 101 = .ok (.if_icmp .gt 7, 3) := by decide +kernel
theorem dX7_allows_104 : decode cX7_allows 104 = .ok (.iconst 1, 1) := by decide +kernel
theorem dX7_allows_105 : decode cX7_allows 105 = .ok (.goto 4, 3) := by decide +kernel
theorem dX7_allows_108 : decode cX7_allows 108 = .ok (.iconst 0, 1) := by decide +kernel
theorem dX7_allows_109 : decode cX7_allows 109 = .ok (.istore_n 2, 1) := by decide +kernel
theorem dX7_allows_110 : decode cX7_allows 110 = .ok (.iinc 3 1, 3) := by decide +kernel
theorem dX7_allows_113 : decode cX7_allows 113 = .ok (.goto (-92), 3) := by decide +kernel
theorem dX7_allows_116 : decode cX7_allows 116 = .ok (.iload_n 2, 1) := by decide +kernel
theorem dX7_allows_117 : decode cX7_allows 117 = .ok (.ireturn, 1) := by decide +kernel
set_option maxRecDepth 20000 in
theorem ggX7_manyAllowed_X7_allows : GoodIn wsX7_manyAllowed wsX7_allows := goodIn_r _ [6, 7, 8, 9, 10, 11, 12, 13, 14, 15, 16, 5, 17, 18, 19, 20, 21, 22, 23, 24, 25, 26, 27, 28, 29, 30, 31, 32, 33, 34, 35, 36, 37, 38, 39, 40, 41, 42, 43, 44, 45] (by decide +kernel) (by decide +kernel)
set_option maxRecDepth 20000 in
theorem gX7_manyAllowed_X7_allows : GoodIn wsX7_manyAllowed (wsV RX7 100 RX7 yX7_allows wsX7_allows) := goodIn_app (goodIn_of _ (by decide +kernel)) ggX7_manyAllowed_X7_allows
theorem dX7_manyAllowed_0 : decode cX7_manyAllowed 0 = .ok (.iconst 0, 1) := by decide +kernel
theorem dX7_manyAllowed_1 : decode cX7_manyAllowed 1 = .ok (.istore_n 1, 1) := by decide +kernel
theorem dX7_manyAllowed_2 : decode cX7_manyAllowed 2 = .ok (.iconst 0, 1) := by decide +kernel
theorem dX7_manyAllowed_3 : decode cX7_manyAllowed 3 = .ok (.istore_n 2, 1) := by decide +kernel
theorem dX7_manyAllowed_4 : decode cX7_manyAllowed 4 = .ok (.iload_n 2, 1) := by decide +kernel
theorem dX7_manyAllowed_5 : decode cX7_manyAllowed 5 = .ok (.aload_n 0, 1) := by decide +kernel
theorem dX7_manyAllowed_6 : decode cX7_manyAllowed 6 = .ok (.getfield 79, 3) := by decide +kernel
theorem dX7_manyAllowed_9 : decode cX7_manyAllowed 9 = .ok (.if_icmp .ge 25, 3) := by decide +kernel
theorem dX7_manyAllowed_12 : decode cX7_manyAllowed 12 = .ok (.iload_n 1, 1) := by decide +kernel
theorem dX7_manyAllowed_13 : decode cX7_manyAllowed 13 = .ok (.aload_n 0, 1) := by decide +kernel
theorem dX7_manyAllowed_14 : decode cX7_manyAllowed 14 = .ok (.iload_n 2, 1) := by decide +kernel
theorem dX7_manyAllowed_15 : decode cX7_manyAllowed 15 = .ok (.invokevirtual 100, 3) := by decide +kernel
theorem dX7_manyAllowed_18 : decode cX7_manyAllowed 18 = .ok (.ifCond .eq 7, 3) := by decide +kernel
theorem dX7_manyAllowed_21 : decode cX7_manyAllowed 21 = .ok (.iconst 1, 1) := by decide +kernel
theorem dX7_manyAllowed_22 : decode cX7_manyAllowed 22 = .ok (.goto 4, 3) := by decide +kernel
theorem dX7_manyAllowed_25 : decode cX7_manyAllowed 25 = .ok (.iconst 0, 1) := by decide +kernel
theorem dX7_manyAllowed_26 : decode cX7_manyAllowed 26 = .ok (.iadd, 1) := by decide +kernel
theorem dX7_manyAllowed_27 : decode cX7_manyAllowed 27 = .ok (.istore_n 1, 1) := by decide +kernel
theorem dX7_manyAllowed_28 : decode cX7_manyAllowed 28 = .ok (.iinc 2 1, 3) := by decide +kernel
theorem dX7_manyAllowed_31 : decode cX7_manyAllowed 31 = .ok (.goto (-27), 3) := by decide +kernel
theorem dX7_manyAllowed_34 : decode cX7_manyAllowed 34 = .ok (.iload_n 1, 1) := by decide +kernel
theorem dX7_manyAllowed_35 : decode cX7_manyAllowed 35 = .ok (.ireturn, 1) := by decide +kernel
set_option maxRecDepth 20000 in
theorem ggX7_setFormat_X7_in : GoodIn wsX7_setFormat wsX7_in := goodIn_r _ [6] (by decide +kernel) (by decide +kernel)
set_option maxRecDepth 20000 in
theorem gX7_setFormat_X7_in : GoodIn wsX7_setFormat (va_wsS RX7 72 yX7_in wsX7_in) := goodIn_app (goodIn_of _ (by decide +kernel)) ggX7_setFormat_X7_in
set_option maxRecDepth 20000 in
theorem ggX7_setFormat_X7_goes : GoodIn wsX7_setFormat wsX7_goes := goodIn_r _ [10, 11, 35, 36, 37, 38, 39, 40, 41, 42, 43, 44, 45, 46, 47, 48, 49, 50, 51, 52, 53, 54, 55, 56, 57] (by decide +kernel) (by decide +kernel)
set_option maxRecDepth 20000 in
theorem gX7_setFormat_X7_goes : GoodIn wsX7_setFormat (wsV RX7 89 RX7 yX7_goes wsX7_goes) := goodIn_app (goodIn_of _ (by decide +kernel)) ggX7_setFormat_X7_goes
set_option maxRecDepth 20000 in
theorem ggX7_setFormat_X7_manyAllowed : GoodIn wsX7_setFormat wsX7_manyAllowed := goodIn_r _ [15, 16, 17, 18, 19, 5, 20, 21, 1, 22, 23, 24, 25, 2, 26, 27, 28, 29, 30, 31, 32, 33, 34, 35, 36, 37, 38, 39, 40, 41, 42, 43, 44, 45, 46, 47, 48, 49, 50, 51, 52, 53, 54, 55, 56, 57] (by decide +kernel) (by decide +kernel)
set_option maxRecDepth 20000 in
theorem gX7_setFormat_X7_manyAllowed : GoodIn wsX7_setFormat (wsV RX7 103 RX7 yX7_manyAllowed wsX7_manyAllowed) := goodIn_app (goodIn_of _ (by decide +kernel)) ggX7_setFormat_X7_manyAllowed
theorem dX7_setFormat_0 : decode cX7_setFormat 0 = .ok (.aload_n 0, 1) := by decide +kernel
theorem dX7_setFormat_1 : decode cX7_setFormat 1 = .ok (.iload_n 1, 1) := by decide +kernel
theorem dX7_setFormat_2 : decode cX7_setFormat 2 = .ok (.iconst 4, 1) := by decide +kernel
theorem dX7_setFormat_3 : decode cX7_setFormat 3 = .ok (.bipush 10, 2) := by decide +kernel
theorem dX7_setFormat_5 : decode cX7_setFormat 5 = .ok (.invokestatic 72, 3) := by decide +kernel
theorem dX7_setFormat_8 : decode cX7_setFormat 8 = .ok (.ifCond .eq 16, 3) := by decide +kernel
theorem dX7_setFormat_11 : decode cX7_setFormat 11 = .ok (.iload_n 2, 1) := by decide +kernel
theorem dX7_setFormat_12 : decode cX7_setFormat 12 = .ok (.iconst 1, 1) := by decide +kernel
theorem dX7_setFormat_13 : decode cX7_setFormat 13 = .ok (.iconst 4, 1) := by decide +kernel
theorem dX7_setFormat_14 : decode cX7_setFormat 14 = .ok (.invokestatic 72, 3) := by decide +kernel
theorem dX7_setFormat_17 : decode cX7_setFormat 17 = .ok (.ifCond .eq 7, 3) := by decide +kernel
theorem dX7_setFormat_20 : decode cX7_setFormat 20 = .ok (.iconst 1, 1) := by decide +kernel
theorem dX7_setFormat_21 : decode cX7_setFormat 21 = .ok (.goto 4, 3) := by decide +kernel
theorem dX7_setFormat_24 : decode cX7_setFormat 24 = .ok (.iconst 0, 1) := by decide +kernel
theorem dX7_setFormat_25 : decode cX7_setFormat 25 = .ok (.iconst 1, 1) := by decide +kernel
theorem dX7_setFormat_26 : decode cX7_setFormat 26 = .ok (.iconst 1, 1) := by decide +kernel
theorem dX7_setFormat_27 : decode cX7_setFormat 27 = .ok (.invokevirtual 89, 3) := by decide +kernel
theorem dX7_setFormat_30 : decode cX7_setFormat 30 = .ok (.ifCond .ne 5, 3) := by decide +kernel
theorem dX7_setFormat_33 : decode cX7_setFormat 33 = .ok (.iconst 0, 1) := by decide +kernel
theorem dX7_setFormat_34 : decode cX7_setFormat 34 = .ok (.ireturn, 1) := by decide +kernel
theorem dX7_setFormat_35 : decode cX7_setFormat 35 = .ok (.aload_n 0, 1) := by decide +kernel
theorem dX7_setFormat_36 : decode cX7_setFormat 36 = .ok (.iload_n 1, 1) := by decide +kernel
theorem dX7_setFormat_37 : decode cX7_setFormat 37 = .ok (.putfield 26, 3) := by decide +kernel
theorem dX7_setFormat_40 : decode cX7_setFormat 40 = .ok (.aload_n 0, 1) := by decide +kernel
theorem dX7_setFormat_41 : decode cX7_setFormat 41 = .ok (.iload_n 2, 1) := by decide +kernel
theorem dX7_setFormat_42 : decode cX7_setFormat 42 = .ok (.putfield 30, 3) := by decide +kernel
theorem dX7_setFormat_45 : decode cX7_setFormat 45 = .ok (.aload_n 0, 1) := by decide +kernel
theorem dX7_setFormat_46 : decode cX7_setFormat 46 = .ok (.invokevirtual 103, 3) := by decide +kernel
theorem dX7_setFormat_49 : decode cX7_setFormat 49 = .ok (.ireturn, 1) := by decide +kernel
set_option maxRecDepth 20000 in
theorem ggX7_ban_X7_isKind : GoodIn wsX7_ban wsX7_isKind := goodIn_r _ [5, 6, 7, 4, 8] (by decide +kernel) (by decide +kernel)
set_option maxRecDepth 20000 in
theorem gX7_ban_X7_isKind : GoodIn wsX7_ban (va_wsS RX7 85 yX7_isKind wsX7_isKind) := goodIn_app (goodIn_of _ (by decide +kernel)) ggX7_ban_X7_isKind
set_option maxRecDepth 20000 in
theorem ggX7_ban_X7_goes : GoodIn wsX7_ban wsX7_goes := goodIn_r _ [12, 13, 38, 39, 40, 41, 42, 43, 44, 45, 46, 47, 48, 49, 50, 51, 52, 53, 54, 55, 56, 57, 58, 59, 60] (by decide +kernel) (by decide +kernel)
set_option maxRecDepth 20000 in
theorem gX7_ban_X7_goes : GoodIn wsX7_ban (wsV RX7 89 RX7 yX7_goes wsX7_goes) := goodIn_app (goodIn_of _ (by decide +kernel)) ggX7_ban_X7_goes
set_option maxRecDepth 20000 in
theorem ggX7_ban_X7_manyAllowed : GoodIn wsX7_ban wsX7_manyAllowed := goodIn_r _ [17, 18, 19, 20, 21, 4, 22, 23, 24, 25, 26, 27, 1, 28, 29, 30, 31, 32, 33, 34, 35, 36, 37, 38, 39, 40, 41, 42, 43, 44, 45, 46, 47, 48, 49, 50, 51, 52, 53, 54, 55, 56, 57, 58, 59, 60] (by decide +kernel) (by decide +kernel)
set_option maxRecDepth 20000 in
theorem gX7_ban_X7_manyAllowed : GoodIn wsX7_ban (wsV RX7 103 RX7 yX7_manyAllowed wsX7_manyAllowed) := goodIn_app (goodIn_of _ (by decide +kernel)) ggX7_ban_X7_manyAllowed
theorem dX7_ban_0 : decode cX7_ban 0 = .ok (.aload_n 0, 1) := by decide +kernel
theorem dX7_ban_1 : decode cX7_ban 1 = .ok (.iload_n 1, 1) := by decide +kernel
theorem dX7_ban_2 : decode cX7_ban 2 = .ok (.invokestatic 85, 3) := by decide +kernel
theorem dX7_ban_5 : decode cX7_ban 5 = .ok (.iconst 1, 1) := by decide +kernel
theorem dX7_ban_6 : decode cX7_ban 6 = .ok (.iconst 1, 1) := by decide +kernel
theorem dX7_ban_7 : decode cX7_ban 7 = .ok (.invokevirtual 89, 3) := by decide +kernel
theorem dX7_ban_10 : decode cX7_ban 10 = .ok (.ifCond .ne 5, 3) := by decide +kernel
theorem dX7_ban_13 : decode cX7_ban 13 = .ok (.iconst 0, 1) := by decide +kernel
theorem dX7_ban_14 : decode cX7_ban 14 = .ok (.ireturn, 1) := by decide +kernel
theorem dX7_ban_15 : decode cX7_ban 15 = .ok (.aload_n 0, 1) := by decide +kernel
theorem dX7_ban_16 : decode cX7_ban 16 = .ok (.getfield 16, 3) := by decide +kernel
theorem dX7_ban_19 : decode cX7_ban 19 = .ok (.iload_n 1, 1) := by decide +kernel
theorem dX7_ban_20 : decode cX7_ban 20 = .ok (.iload_n 2, 1) := by decide +kernel
theorem dX7_ban_21 : decode cX7_ban 21 = .ok (.bastore, 1) := by decide +kernel
theorem dX7_ban_22 : decode cX7_ban 22 = .ok (.aload_n 0, 1) := by decide +kernel
theorem dX7_ban_23 : decode cX7_ban 23 = .ok (.invokevirtual 103, 3) := by decide +kernel
theorem dX7_ban_26 : decode cX7_ban 26 = .ok (.ireturn, 1) := by decide +kernel
set_option maxRecDepth 20000 in
theorem ggX7_print_X7_isKind : GoodIn wsX7_print wsX7_isKind := goodIn_r _ [9, 10, 11, 8, 12] (by decide +kernel) (by decide +kernel)
set_option maxRecDepth 20000 in
theorem gX7_print_X7_isKind : GoodIn wsX7_print (va_wsS RX7 85 yX7_isKind wsX7_isKind) := goodIn_app (goodIn_of _ (by decide +kernel)) ggX7_print_X7_isKind
set_option maxRecDepth 20000 in
theorem ggX7_print_X7_isCollector : GoodIn wsX7_print wsX7_isCollector := goodIn_r _ [15, 10, 11, 8, 12] (by decide +kernel) (by decide +kernel)
set_option maxRecDepth 20000 in
theorem gX7_print_X7_isCollector : GoodIn wsX7_print (va_wsS RX7 107 yX7_isCollector wsX7_isCollector) := goodIn_app (goodIn_of _ (by decide +kernel)) ggX7_print_X7_isCollector
set_option maxRecDepth 20000 in
theorem ggX7_print_X7_goes : GoodIn wsX7_print wsX7_goes := goodIn_r _ [19, 20, 21, 22, 23, 24, 25, 26, 27, 28, 29, 30, 31, 32, 33, 34, 35, 36, 37, 38, 39, 40, 41, 42, 43] (by decide +kernel) (by decide +kernel)
set_option maxRecDepth 20000 in
theorem gX7_print_X7_goes : GoodIn wsX7_print (wsV RX7 89 RX7 yX7_goes wsX7_goes) := goodIn_app (goodIn_of _ (by decide +kernel)) ggX7_print_X7_goes
theorem dX7_print_0 : decode cX7_print 0 = .ok (.aload_n 0, 1) := by decide +kernel
theorem dX7_print_1 : decode cX7_print 1 = .ok (.iload_n 1, 1) := by decide +kernel
theorem dX7_print_2 : decode cX7_print 2 = .ok (.invokestatic 85, 3) := by decide +kernel
theorem dX7_print_5 : decode cX7_print 5 = .ok (.ifCond .eq 14, 3) := by decide +kernel
theorem dX7_print_8 : decode cX7_print 8 = .ok (.iload_n 2, 1) := by decide +kernel
theorem dX7_print_9 : decode cX7_print 9 = .ok (.invokestatic 107, 3) := by decide +kernel
theorem dX7_print_12 : decode cX7_print 12 = .ok (.ifCond .eq 7, 3) := by decide +kernel
theorem dX7_print_15 : decode cX7_print 15 = .ok (.iconst 1, 1) := by decide +kernel
theorem dX7_print_16 : decode cX7_print 16 = .ok (.goto 4, 3) := by decide +kernel
theorem dX7_print_19 : decode cX7_print 19 = .ok (.iconst 0, 1) := by decide +kernel
theorem dX7_print_20 : decode cX7_print 20 = .ok (.aload_n 0, 1) := by decide +kernel
theorem dX7_print_21 : decode cX7_print 21 = .ok (.getfield 76, 3) := by decide +kernel
theorem dX7_print_24 : decode cX7_print 24 = .ok (.bipush 80, 2) := by decide +kernel
theorem dX7_print_26 : decode cX7_print 26 = .ok (.if_icmp .ge 7, 3) := by decide +kernel
theorem dX7_print_29 : decode cX7_print 29 = .ok (.iconst 1, 1) := by decide +kernel
theorem dX7_print_30 : decode cX7_print 30 = .ok (.goto 4, 3) := by decide +kernel
theorem dX7_print_33 : decode cX7_print 33 = .ok (.iconst 0, 1) := by decide +kernel
theorem dX7_print_34 : decode cX7_print 34 = .ok (.iconst 1, 1) := by decide +kernel
theorem dX7_print_35 : decode cX7_print 35 = .ok (.invokevirtual 89, 3) := by decide +kernel
theorem dX7_print_38 : decode cX7_print 38 = .ok (.ifCond .ne 5, 3) := by decide +kernel
theorem dX7_print_41 : decode cX7_print 41 = .ok (.iconst 0, 1) := by decide +kernel
theorem dX7_print_42 : decode cX7_print 42 = .ok (.ireturn, 1) := by decide +kernel
theorem dX7_print_43 : decode cX7_print 43 = .ok (.aload_n 0, 1) := by decide +kernel
theorem dX7_print_44 : decode cX7_print 44 = .ok (.getfield 20, 3) := by decide +kernel
theorem dX7_print_47 : decode cX7_print 47 = .ok (.iload_n 1, 1) := by decide +kernel
theorem dX7_print_48 : decode cX7_print 48 = .ok (.dup2, 1) := by decide +kernel
theorem dX7_print_49 : decode cX7_print 49 = .ok (.iaload, 1) := by decide +kernel
theorem dX7_print_50 : decode cX7_print 50 = .ok (.iconst 1, 1) := by decide +kernel
theorem dX7_print_51 : decode cX7_print 51 = .ok (.iadd, 1) := by decide +kernel
theorem dX7_print_52 : decode cX7_print 52 = .ok (.iastore, 1) := by decide +kernel
theorem dX7_print_53 : decode cX7_print 53 = .ok (.aload_n 0, 1) := by decide +kernel
theorem dX7_print_54 : decode cX7_print 54 = .ok (.getfield 33, 3) := by decide +kernel
theorem dX7_print_57 : decode cX7_print 57 = .ok (.aload_n 0, 1) := by decide +kernel
theorem dX7_print_58 : decode cX7_print 58 = .ok (.getfield 76, 3) := by decide +kernel
theorem dX7_print_61 : decode cX7_print 61 = .ok (.iload_n 1, 1) := by decide +kernel
theorem dX7_print_62 : decode cX7_print 62 = .ok (.iastore, 1) := by decide +kernel
theorem dX7_print_63 : decode cX7_print 63 = .ok (.aload_n 0, 1) := by decide +kernel
theorem dX7_print_64 : decode cX7_print 64 = .ok (.getfield 36, 3) := by decide +kernel
theorem dX7_print_67 : decode cX7_print 67 = .ok (.aload_n 0, 1) := by decide +kernel
theorem dX7_print_68 : decode cX7_print 68 = .ok (.getfield 76, 3) := by decide +kernel
theorem dX7_print_71 : decode cX7_print 71 = .ok (.aload_n 0, 1) := by decide +kernel
theorem dX7_print_72 : decode cX7_print 72 = .ok (.getfield 20, 3) := by decide +kernel
theorem dX7_print_75 : decode cX7_print 75 = .ok (.iload_n 1, 1) := by decide +kernel
theorem dX7_print_76 : decode cX7_print 76 = .ok (.iaload, 1) := by decide +kernel
theorem dX7_print_77 : decode cX7_print 77 = .ok (.iastore, 1) := by decide +kernel
theorem dX7_print_78 : decode cX7_print 78 = .ok (.aload_n 0, 1) := by decide +kernel
theorem dX7_print_79 : decode cX7_print 79 = .ok (.getfield 39, 3) := by decide +kernel
theorem dX7_print_82 : decode cX7_print 82 = .ok (.aload_n 0, 1) := by decide +kernel
theorem dX7_print_83 : decode cX7_print 83 = .ok (.getfield 76, 3) := by decide +kernel
theorem dX7_print_86 : decode cX7_print 86 = .ok (.iload_n 2, 1) := by decide +kernel
theorem dX7_print_87 : decode cX7_print 87 = .ok (.iastore, 1) := by decide +kernel
theorem dX7_print_88 : decode cX7_print 88 = .ok (.aload_n 0, 1) := by decide +kernel
theorem dX7_print_89 : decode cX7_print 89 = .ok (.dup, 1) := by decide +kernel
theorem dX7_print_90 : decode cX7_print 90 = .ok (.getfield 76, 3) := by decide +kernel
theorem dX7_print_93 : decode cX7_print 93 = .ok (.iconst 1, 1) := by decide +kernel
theorem dX7_print_94 : decode cX7_print 94 = .ok (.iadd, 1) := by decide +kernel
theorem dX7_print_95 : decode cX7_print 95 = .ok (.putfield 76, 3) := by decide +kernel
theorem dX7_print_98 : decode cX7_print 98 = .ok (.aload_n 0, 1) := by decide +kernel
theorem dX7_print_99 : decode cX7_print 99 = .ok (.getfield 76, 3) := by decide +kernel
theorem dX7_print_102 : decode cX7_print 102 = .ok (.iconst 1, 1) := by decide +kernel
theorem dX7_print_103 : decode cX7_print 103 = .ok (.isub, 1) := by decide +kernel
theorem dX7_print_104 : decode cX7_print 104 = .ok (.ireturn, 1) := by decide +kernel
set_option maxRecDepth 20000 in
theorem ggX7_deck_X7_isCollector : GoodIn wsX7_deck wsX7_isCollector := goodIn_r _ [6, 7, 8, 5, 9] (by decide +kernel) (by decide +kernel)
set_option maxRecDepth 20000 in
theorem gX7_deck_X7_isCollector : GoodIn wsX7_deck (va_wsS RX7 107 yX7_isCollector wsX7_isCollector) := goodIn_app (goodIn_of _ (by decide +kernel)) ggX7_deck_X7_isCollector
set_option maxRecDepth 20000 in
theorem ggX7_deck_X7_goes : GoodIn wsX7_deck wsX7_goes := goodIn_r _ [13, 14, 15, 16, 17, 18, 19, 20, 21, 22, 23, 24, 25, 26, 27, 28, 29, 30, 31, 32, 33, 34, 35, 36, 37] (by decide +kernel) (by decide +kernel)
set_option maxRecDepth 20000 in
theorem gX7_deck_X7_goes : GoodIn wsX7_deck (wsV RX7 89 RX7 yX7_goes wsX7_goes) := goodIn_app (goodIn_of _ (by decide +kernel)) ggX7_deck_X7_goes
theorem dX7_deck_0 : decode cX7_deck 0 = .ok (.aload_n 0, 1) := by decide +kernel
theorem dX7_deck_1 : decode cX7_deck 1 = .ok (.iload_n 1, 1) := by decide +kernel
theorem dX7_deck_2 : decode cX7_deck 2 = .ok (.invokestatic 107, 3) := by decide +kernel
theorem dX7_deck_5 : decode cX7_deck 5 = .ok (.aload_n 0, 1) := by decide +kernel
theorem dX7_deck_6 : decode cX7_deck 6 = .ok (.getfield 79, 3) := by decide +kernel
theorem dX7_deck_9 : decode cX7_deck 9 = .ok (.bipush 12, 2) := by decide +kernel
theorem dX7_deck_11 : decode cX7_deck 11 = .ok (.if_icmp .ge 7, 3) := by decide +kernel
theorem dX7_deck_14 : decode cX7_deck 14 = .ok (.iconst 1, 1) := by decide +kernel
theorem dX7_deck_15 : decode cX7_deck 15 = .ok (.goto 4, 3) := by decide +kernel
theorem dX7_deck_18 : decode cX7_deck 18 = .ok (.iconst 0, 1) := by decide +kernel
theorem dX7_deck_19 : decode cX7_deck 19 = .ok (.iconst 1, 1) := by decide +kernel
theorem dX7_deck_20 : decode cX7_deck 20 = .ok (.invokevirtual 89, 3) := by decide +kernel
theorem dX7_deck_23 : decode cX7_deck 23 = .ok (.ifCond .ne 5, 3) := by decide +kernel
theorem dX7_deck_26 : decode cX7_deck 26 = .ok (.iconst 0, 1) := by decide +kernel
theorem dX7_deck_27 : decode cX7_deck 27 = .ok (.ireturn, 1) := by decide +kernel
theorem dX7_deck_28 : decode cX7_deck 28 = .ok (.aload_n 0, 1) := by decide +kernel
theorem dX7_deck_29 : decode cX7_deck 29 = .ok (.getfield 42, 3) := by decide +kernel
theorem dX7_deck_32 : decode cX7_deck 32 = .ok (.aload_n 0, 1) := by decide +kernel
theorem dX7_deck_33 : decode cX7_deck 33 = .ok (.getfield 79, 3) := by decide +kernel
theorem dX7_deck_36 : decode cX7_deck 36 = .ok (.iload_n 1, 1) := by decide +kernel
theorem dX7_deck_37 : decode cX7_deck 37 = .ok (.iastore, 1) := by decide +kernel
theorem dX7_deck_38 : decode cX7_deck 38 = .ok (.aload_n 0, 1) := by decide +kernel
theorem dX7_deck_39 : decode cX7_deck 39 = .ok (.dup, 1) := by decide +kernel
theorem dX7_deck_40 : decode cX7_deck 40 = .ok (.getfield 79, 3) := by decide +kernel
theorem dX7_deck_43 : decode cX7_deck 43 = .ok (.iconst 1, 1) := by decide +kernel
theorem dX7_deck_44 : decode cX7_deck 44 = .ok (.iadd, 1) := by decide +kernel
theorem dX7_deck_45 : decode cX7_deck 45 = .ok (.putfield 79, 3) := by decide +kernel
theorem dX7_deck_48 : decode cX7_deck 48 = .ok (.aload_n 0, 1) := by decide +kernel
theorem dX7_deck_49 : decode cX7_deck 49 = .ok (.getfield 79, 3) := by decide +kernel
theorem dX7_deck_52 : decode cX7_deck 52 = .ok (.iconst 1, 1) := by decide +kernel
theorem dX7_deck_53 : decode cX7_deck 53 = .ok (.isub, 1) := by decide +kernel
theorem dX7_deck_54 : decode cX7_deck 54 = .ok (.ireturn, 1) := by decide +kernel
theorem dX7_isIn_0 : decode cX7_isIn 0 = .ok (.iconst 0, 1) := by decide +kernel
theorem dX7_isIn_1 : decode cX7_isIn 1 = .ok (.istore_n 3, 1) := by decide +kernel
theorem dX7_isIn_2 : decode cX7_isIn 2 = .ok (.iconst 0, 1) := by decide +kernel
theorem dX7_isIn_3 : decode cX7_isIn 3 = .ok (.istore 4, 2) := by decide +kernel
theorem dX7_isIn_5 : decode cX7_isIn 5 = .ok (.iload 4, 2) := by decide +kernel
theorem dX7_isIn_7 : decode cX7_isIn 7 = .ok (.aload_n 0, 1) := by decide +kernel
theorem dX7_isIn_8 : decode cX7_isIn 8 = .ok (.getfield 45, 3) := by decide +kernel
theorem dX7_isIn_11 : decode cX7_isIn 11 = .ok (.iload_n 1, 1) := by decide +kernel
theorem dX7_isIn_12 : decode cX7_isIn 12 = .ok (.iaload, 1) := by decide +kernel
theorem dX7_isIn_13 : decode cX7_isIn 13 = .ok (.if_icmp .ge 35, 3) := by decide +kernel
theorem dX7_isIn_16 : decode cX7_isIn 16 = .ok (.iload_n 3, 1) := by decide +kernel
theorem dX7_isIn_17 : decode cX7_isIn 17 = .ok (.ifCond .ne 19, 3) := by decide +kernel
theorem dX7_isIn_20 : decode cX7_isIn 20 = .ok (.aload_n 0, 1) := by decide +kernel
theorem dX7_isIn_21 : decode cX7_isIn 21 = .ok (.getfield 48, 3) := by decide +kernel
theorem dX7_isIn_24 : decode cX7_isIn 24 = .ok (.bipush 10, 2) := by decide +kernel
theorem dX7_isIn_26 : decode cX7_isIn 26 = .ok (.iload_n 1, 1) := by decide +kernel
theorem dX7_isIn_27 : decode cX7_isIn 27 = .ok (.imul, 1) := by decide +kernel
theorem dX7_isIn_28 : decode cX7_isIn 28 = .ok (.iload 4, 2) := by decide +kernel
theorem dX7_isIn_30 : decode cX7_isIn 30 = .ok (.iadd, 1) := by decide +kernel
theorem dX7_isIn_31 : decode cX7_isIn 31 = .ok (.iaload, 1) := by decide +kernel
theorem dX7_isIn_32 : decode cX7_isIn 32 = .ok (.iload_n 2, 1) := by decide +kernel
theorem dX7_isIn_33 : decode cX7_isIn 33 = .ok (.if_icmp .ne 7, 3) := by decide +kernel
theorem dX7_isIn_36 : decode cX7_isIn 36 = .ok (.iconst 1, 1) := by decide +kernel
theorem dX7_isIn_37 : decode cX7_isIn 37 = .ok (.goto 4, 3) := by decide +kernel
theorem dX7_isIn_40 : decode cX7_isIn 40 = .ok (.iconst 0, 1) := by decide +kernel
theorem dX7_isIn_41 : decode cX7_isIn 41 = .ok (.istore_n 3, 1) := by decide +kernel
theorem dX7_isIn_42 : decode cX7_isIn 42 = .ok (.iinc 4 1, 3) := by decide +kernel
theorem dX7_isIn_45 : decode cX7_isIn 45 = .ok (.goto (-40), 3) := by decide +kernel
theorem dX7_isIn_48 : decode cX7_isIn 48 = .ok (.iload_n 3, 1) := by decide +kernel
theorem dX7_isIn_49 : decode cX7_isIn 49 = .ok (.ireturn, 1) := by decide +kernel
set_option maxRecDepth 20000 in
theorem ggX7_add_X7_isDeck : GoodIn wsX7_add wsX7_isDeck := goodIn_r _ [9, 10, 11, 12, 8, 13, 28, 29, 30, 31, 32, 33, 34, 35, 36, 37, 38, 39, 40, 41, 42, 43, 44, 45, 46, 47, 48, 49, 50] (by decide +kernel) (by decide +kernel)
set_option maxRecDepth 20000 in
theorem gX7_add_X7_isDeck : GoodIn wsX7_add (wsV RX7 110 RX7 yX7_isDeck wsX7_isDeck) := goodIn_app (goodIn_of _ (by decide +kernel)) ggX7_add_X7_isDeck
set_option maxRecDepth 20000 in
theorem ggX7_add_X7_isCard : GoodIn wsX7_add wsX7_isCard := goodIn_r _ [17, 18, 11, 12, 8, 13, 28, 29, 30, 31, 32, 33, 34, 35, 36, 37, 38, 39, 40, 41, 42, 43, 44, 45, 46, 47, 48, 49, 50] (by decide +kernel) (by decide +kernel)
set_option maxRecDepth 20000 in
theorem gX7_add_X7_isCard : GoodIn wsX7_add (wsV RX7 113 RX7 yX7_isCard wsX7_isCard) := goodIn_app (goodIn_of _ (by decide +kernel)) ggX7_add_X7_isCard
set_option maxRecDepth 20000 in
theorem ggX7_add_X7_isIn : GoodIn wsX7_add wsX7_isIn := goodIn_r _ [22, 3, 4, 28, 29, 30, 31, 32, 33, 34, 35, 36, 37, 38, 39, 40, 41, 42, 43, 44, 45, 46, 47, 48, 49, 50] (by decide +kernel) (by decide +kernel)
set_option maxRecDepth 20000 in
theorem gX7_add_X7_isIn : GoodIn wsX7_add (wsV RX7 116 RX7 yX7_isIn wsX7_isIn) := goodIn_app (goodIn_of _ (by decide +kernel)) ggX7_add_X7_isIn
set_option maxRecDepth 20000 in
theorem ggX7_add_X7_goes : GoodIn wsX7_add wsX7_goes := goodIn_r _ [26, 27, 28, 29, 30, 31, 32, 33, 34, 35, 36, 37, 38, 39, 40, 41, 42, 43, 44, 45, 46, 47, 48, 49, 50] (by decide +kernel) (by decide +kernel)
set_option maxRecDepth 20000 in
theorem gX7_add_X7_goes : GoodIn wsX7_add (wsV RX7 89 RX7 yX7_goes wsX7_goes) := goodIn_app (goodIn_of _ (by decide +kernel)) ggX7_add_X7_goes
theorem dX7_add_0 : decode cX7_add 0 = .ok (.aload_n 0, 1) := by decide +kernel
theorem dX7_add_1 : decode cX7_add 1 = .ok (.iload_n 1, 1) := by decide +kernel
theorem dX7_add_2 : decode cX7_add 2 = .ok (.invokevirtual 110, 3) := by decide +kernel
theorem dX7_add_5 : decode cX7_add 5 = .ok (.ifCond .eq 15, 3) := by decide +kernel
theorem dX7_add_8 : decode cX7_add 8 = .ok (.aload_n 0, 1) := by decide +kernel
theorem dX7_add_9 : decode cX7_add 9 = .ok (.iload_n 2, 1) := by decide +kernel
theorem dX7_add_10 : decode cX7_add 10 = .ok (.invokevirtual 113, 3) := by decide +kernel
theorem dX7_add_13 : decode cX7_add 13 = .ok (.ifCond .eq 7, 3) := by decide +kernel
theorem dX7_add_16 : decode cX7_add 16 = .ok (.iconst 1, 1) := by decide +kernel
theorem dX7_add_17 : decode cX7_add 17 = .ok (.goto 4, 3) := by decide +kernel
theorem dX7_add_20 : decode cX7_add 20 = .ok (.iconst 0, 1) := by decide +kernel
theorem dX7_add_21 : decode cX7_add 21 = .ok (.istore_n 3, 1) := by decide +kernel
theorem dX7_add_22 : decode cX7_add 22 = .ok (.iload_n 3, 1) := by decide +kernel
theorem dX7_add_23 : decode cX7_add 23 = .ok (.ifCond .eq 31, 3) := by decide +kernel
theorem dX7_add_26 : decode cX7_add 26 = .ok (.aload_n 0, 1) := by decide +kernel
theorem dX7_add_27 : decode cX7_add 27 = .ok (.getfield 39, 3) := by decide +kernel
theorem dX7_add_30 : decode cX7_add 30 = .ok (.iload_n 2, 1) := by decide +kernel
theorem dX7_add_31 : decode cX7_add 31 = .ok (.iaload, 1) := by decide +kernel
theorem dX7_add_32 : decode cX7_add 32 = .ok (.aload_n 0, 1) := by decide +kernel
theorem dX7_add_33 : decode cX7_add 33 = .ok (.getfield 42, 3) := by decide +kernel
theorem dX7_add_36 : decode cX7_add 36 = .ok (.iload_n 1, 1) := by decide +kernel
theorem dX7_add_37 : decode cX7_add 37 = .ok (.iaload, 1) := by decide +kernel
theorem dX7_add_38 : decode cX7_add 38 = .ok (.if_icmp .ne 16, 3) := by decide +kernel
theorem dX7_add_41 : decode cX7_add 41 = .ok (.aload_n 0, 1) := by decide +kernel
theorem dX7_add_42 : decode cX7_add 42 = .ok (.iload_n 1, 1) := by decide +kernel
theorem dX7_add_43 : decode cX7_add 43 = .ok (.iload_n 2, 1) := by decide +kernel
theorem dX7_add_44 : decode cX7_add 44 = .ok (.invokevirtual 116, 3) := by decide +kernel
theorem dX7_add_47 : decode cX7_add 47 = .ok (.ifCond .ne 7, 3) := by decide +kernel
theorem dX7_add_50 : decode cX7_add 50 = .ok (.iconst 1, 1) := by decide +kernel
theorem dX7_add_51 : decode cX7_add 51 = .ok (.goto 4, 3) := by decide +kernel
theorem dX7_add_54 : decode cX7_add 54 = .ok (.iconst 0, 1) := by decide +kernel
theorem dX7_add_55 : decode cX7_add 55 = .ok (.istore 4, 2) := by decide +kernel
theorem dX7_add_57 : decode cX7_add 57 = .ok (.aload_n 0, 1) := by decide +kernel
theorem dX7_add_58 : decode cX7_add 58 = .ok (.iload_n 3, 1) := by decide +kernel
theorem dX7_add_59 : decode cX7_add 59 = .ok (.iload 4, 2) := by decide +kernel
theorem dX7_add_61 : decode cX7_add 61 = .ok (.iload_n 3, 1) := by decide +kernel
theorem dX7_add_62 : decode cX7_add 62 = .ok (.ifCond .eq 18, 3) := by decide +kernel
theorem dX7_add_65 : decode cX7_add 65 = .ok (.aload_n 0, 1) := by decide +kernel
theorem dX7_add_66 : decode cX7_add 66 = .ok (.getfield 45, 3) := by decide +kernel
theorem dX7_add_69 : decode cX7_add 69 = .ok (.iload_n 1, 1) := by decide +kernel
theorem dX7_add_70 : decode cX7_add 70 = .ok (.iaload, 1) := by decide +kernel
theorem dX7_add_71 : decode cX7_add 71 = .ok (.bipush 10, 2) := by decide +kernel
theorem dX7_add_73 : decode cX7_add 73 = .ok (.if_icmp .ge 7, 3) := by decide +kernel
theorem dX7_add_76 : decode cX7_add 76 = .ok (.iconst 1, 1) := by decide +kernel
theorem dX7_add_77 : decode cX7_add 77 = .ok (.goto 4, 3) := by decide +kernel
theorem dX7_add_80 : decode cX7_add 80 = .ok (.iconst 0, 1) := by decide +kernel
theorem dX7_add_81 : decode cX7_add 81 = .ok (.invokevirtual 89, 3) := by decide +kernel
theorem dX7_add_84 : decode cX7_add 84 = .ok (.ifCond .ne 5, 3) := by decide +kernel
theorem dX7_add_87 : decode cX7_add 87 = .ok (.iconst 0, 1) := by decide +kernel
theorem dX7_add_88 : decode cX7_add 88 = .ok (.ireturn, 1) := by decide +kernel
theorem dX7_add_89 : decode cX7_add 89 = .ok (.aload_n 0, 1) := by decide +kernel
theorem dX7_add_90 : decode cX7_add 90 = .ok (.getfield 48, 3) := by decide +kernel
theorem dX7_add_93 : decode cX7_add 93 = .ok (.bipush 10, 2) := by decide +kernel
theorem dX7_add_95 : decode cX7_add 95 = .ok (.iload_n 1, 1) := by decide +kernel
theorem dX7_add_96 : decode cX7_add 96 = .ok (.imul, 1) := by decide +kernel
theorem dX7_add_97 : decode cX7_add 97 = .ok (.aload_n 0, 1) := by decide +kernel
theorem dX7_add_98 : decode cX7_add 98 = .ok (.getfield 45, 3) := by decide +kernel
theorem dX7_add_101 : decode cX7_add 101 = .ok (.iload_n 1, 1) := by decide +kernel
theorem dX7_add_102 : decode cX7_add 102 = .ok (.iaload, 1) := by decide +kernel
theorem dX7_add_103 : decode cX7_add 103 = .ok (.iadd, 1) := by decide +kernel
theorem dX7_add_104 : decode cX7_add 104 = .ok (.iload_n 2, 1) := by decide +kernel
theorem dX7_add_105 : decode cX7_add 105 = .ok (.iastore, 1) := by decide +kernel
theorem dX7_add_106 : decode cX7_add 106 = .ok (.aload_n 0, 1) := by decide +kernel
theorem dX7_add_107 : decode cX7_add 107 = .ok (.getfield 45, 3) := by decide +kernel
theorem dX7_add_110 : decode cX7_add 110 = .ok (.iload_n 1, 1) := by decide +kernel
theorem dX7_add_111 : decode cX7_add 111 = .ok (.dup2, 1) := by decide +kernel
theorem dX7_add_112 : decode cX7_add 112 = .ok (.iaload, 1) := by decide +kernel
theorem dX7_add_113 : decode cX7_add 113 = .ok (.iconst 1, 1) := by decide +kernel
theorem dX7_add_114 : decode cX7_add 114 = .ok (.iadd, 1) := by decide +kernel
theorem dX7_add_115 : decode cX7_add 115 = .ok (.iastore, 1) := by decide +kernel
theorem dX7_add_116 : decode cX7_add 116 = .ok (.aload_n 0, 1) := by decide +kernel
theorem dX7_add_117 : decode cX7_add 117 = .ok (.getfield 45, 3) := by decide +kernel
theorem dX7_add_120 : decode cX7_add 120 = .ok (.iload_n 1, 1) := by decide +kernel
theorem dX7_add_121 : decode cX7_add 121 = .ok (.iaload, 1) := by decide +kernel
theorem dX7_add_122 : decode cX7_add 122 = .ok (.ireturn, 1) := by decide +kernel
set_option maxRecDepth 20000 in
theorem ggX7_cut_X7_isDeck : GoodIn wsX7_cut wsX7_isDeck := goodIn_r _ [7, 8, 9, 10, 6, 11, 17, 18, 19, 20, 21, 22, 23, 24, 25, 26, 27, 28, 29, 30, 31, 32, 33, 34, 35, 36, 37, 38, 39] (by decide +kernel) (by decide +kernel)
set_option maxRecDepth 20000 in
theorem gX7_cut_X7_isDeck : GoodIn wsX7_cut (wsV RX7 110 RX7 yX7_isDeck wsX7_isDeck) := goodIn_app (goodIn_of _ (by decide +kernel)) ggX7_cut_X7_isDeck
set_option maxRecDepth 20000 in
theorem ggX7_cut_X7_in : GoodIn wsX7_cut wsX7_in := goodIn_r _ [11] (by decide +kernel) (by decide +kernel)
set_option maxRecDepth 20000 in
theorem gX7_cut_X7_in : GoodIn wsX7_cut (va_wsS RX7 72 yX7_in wsX7_in) := goodIn_app (goodIn_of _ (by decide +kernel)) ggX7_cut_X7_in
set_option maxRecDepth 20000 in
theorem ggX7_cut_X7_goes : GoodIn wsX7_cut wsX7_goes := goodIn_r _ [15, 16, 17, 18, 19, 20, 21, 22, 23, 24, 25, 26, 27, 28, 29, 30, 31, 32, 33, 34, 35, 36, 37, 38, 39] (by decide +kernel) (by decide +kernel)
set_option maxRecDepth 20000 in
theorem gX7_cut_X7_goes : GoodIn wsX7_cut (wsV RX7 89 RX7 yX7_goes wsX7_goes) := goodIn_app (goodIn_of _ (by decide +kernel)) ggX7_cut_X7_goes
theorem dX7_cut_0 : decode cX7_cut 0 = .ok (.aload_n 0, 1) := by decide +kernel
theorem dX7_cut_1 : decode cX7_cut 1 = .ok (.iload_n 1, 1) := by decide +kernel
theorem dX7_cut_2 : decode cX7_cut 2 = .ok (.invokevirtual 110, 3) := by decide +kernel
theorem dX7_cut_5 : decode cX7_cut 5 = .ok (.istore_n 3, 1) := by decide +kernel
theorem dX7_cut_6 : decode cX7_cut 6 = .ok (.aload_n 0, 1) := by decide +kernel
theorem dX7_cut_7 : decode cX7_cut 7 = .ok (.iload_n 3, 1) := by decide +kernel
theorem dX7_cut_8 : decode cX7_cut 8 = .ok (.ifCond .eq 31, 3) := by decide +kernel
theorem dX7_cut_11 : decode cX7_cut 11 = .ok (.iload_n 2, 1) := by decide +kernel
theorem dX7_cut_12 : decode cX7_cut 12 = .ok (.iconst 0, 1) := by decide +kernel
theorem dX7_cut_13 : decode cX7_cut 13 = .ok (.aload_n 0, 1) := by decide +kernel
theorem dX7_cut_14 : decode cX7_cut 14 = .ok (.getfield 45, 3) := by decide +kernel
theorem dX7_cut_17 : decode cX7_cut 17 = .ok (.iload_n 3, 1) := by decide +kernel
theorem dX7_cut_18 : decode cX7_cut 18 = .ok (.ifCond .eq 7, 3) := by decide +kernel
theorem dX7_cut_21 : decode cX7_cut 21 = .ok (.iload_n 1, 1) := by decide +kernel
theorem dX7_cut_22 : decode cX7_cut 22 = .ok (.goto 4, 3) := by decide +kernel
theorem dX7_cut_25 : decode cX7_cut 25 = .ok (.iconst 0, 1) := by decide +kernel
theorem dX7_cut_26 : decode cX7_cut 26 = .ok (.iaload, 1) := by decide +kernel
theorem dX7_cut_27 : decode cX7_cut 27 = .ok (.iconst 1, 1) := by decide +kernel
theorem dX7_cut_28 : decode cX7_cut 28 = .ok (.isub, 1) := by decide +kernel
theorem dX7_cut_29 : decode cX7_cut 29 = .ok (.invokestatic 72, 3) := by decide +kernel
theorem dX7_cut_32 : decode cX7_cut 32 = .ok (.ifCond .eq 7, 3) := by decide +kernel
theorem dX7_cut_35 : decode cX7_cut 35 = .ok (.iconst 1, 1) := by decide +kernel
theorem dX7_cut_36 : decode cX7_cut 36 = .ok (.goto 4, 3) := by decide +kernel
theorem dX7_cut_39 : decode cX7_cut 39 = .ok (.iconst 0, 1) := by decide +kernel
theorem dX7_cut_40 : decode cX7_cut 40 = .ok (.iconst 1, 1) := by decide +kernel
theorem dX7_cut_41 : decode cX7_cut 41 = .ok (.iconst 1, 1) := by decide +kernel
theorem dX7_cut_42 : decode cX7_cut 42 = .ok (.invokevirtual 89, 3) := by decide +kernel
theorem dX7_cut_45 : decode cX7_cut 45 = .ok (.ifCond .ne 5, 3) := by decide +kernel
theorem dX7_cut_48 : decode cX7_cut 48 = .ok (.iconst 0, 1) := by decide +kernel
theorem dX7_cut_49 : decode cX7_cut 49 = .ok (.ireturn, 1) := by decide +kernel
theorem dX7_cut_50 : decode cX7_cut 50 = .ok (.aload_n 0, 1) := by decide +kernel
theorem dX7_cut_51 : decode cX7_cut 51 = .ok (.getfield 48, 3) := by decide +kernel
theorem dX7_cut_54 : decode cX7_cut 54 = .ok (.bipush 10, 2) := by decide +kernel
theorem dX7_cut_56 : decode cX7_cut 56 = .ok (.iload_n 1, 1) := by decide +kernel
theorem dX7_cut_57 : decode cX7_cut 57 = .ok (.imul, 1) := by decide +kernel
theorem dX7_cut_58 : decode cX7_cut 58 = .ok (.iload_n 2, 1) := by decide +kernel
theorem dX7_cut_59 : decode cX7_cut 59 = .ok (.iadd, 1) := by decide +kernel
theorem dX7_cut_60 : decode cX7_cut 60 = .ok (.iaload, 1) := by decide +kernel
theorem dX7_cut_61 : decode cX7_cut 61 = .ok (.istore 4, 2) := by decide +kernel
theorem dX7_cut_63 : decode cX7_cut 63 = .ok (.aload_n 0, 1) := by decide +kernel
theorem dX7_cut_64 : decode cX7_cut 64 = .ok (.getfield 45, 3) := by decide +kernel
theorem dX7_cut_67 : decode cX7_cut 67 = .ok (.iload_n 1, 1) := by decide +kernel
theorem dX7_cut_68 : decode cX7_cut 68 = .ok (.dup2, 1) := by decide +kernel
theorem dX7_cut_69 : decode cX7_cut 69 = .ok (.iaload, 1) := by decide +kernel
theorem dX7_cut_70 : decode cX7_cut 70 = .ok (.iconst 1, 1) := by decide +kernel
theorem dX7_cut_71 : decode cX7_cut 71 = .ok (.isub, 1) := by decide +kernel
theorem dX7_cut_72 : decode cX7_cut 72 = .ok (.iastore, 1) := by decide +kernel
theorem dX7_cut_73 : decode cX7_cut 73 = .ok (.iload_n 2, 1) := by decide +kernel
theorem dX7_cut_74 : decode cX7_cut 74 = .ok (.istore 5, 2) := by decide +kernel
theorem dX7_cut_76 : decode cX7_cut 76 = .ok (.iload 5, 2) := by decide +kernel
theorem dX7_cut_78 : decode cX7_cut 78 = .ok (.aload_n 0, 1) := by decide +kernel
theorem dX7_cut_79 : decode cX7_cut 79 = .ok (.getfield 45, 3) := by decide +kernel
theorem dX7_cut_82 : decode cX7_cut 82 = .ok (.iload_n 1, 1) := by decide +kernel
theorem dX7_cut_83 : decode cX7_cut 83 = .ok (.iaload, 1) := by decide +kernel
theorem dX7_cut_84 : decode cX7_cut 84 = .ok (.if_icmp .ge 35, 3) := by decide +kernel
theorem dX7_cut_87 : decode cX7_cut 87 = .ok (.aload_n 0, 1) := by decide +kernel
theorem dX7_cut_88 : decode cX7_cut 88 = .ok (.getfield 48, 3) := by decide +kernel
theorem dX7_cut_91 : decode cX7_cut 91 = .ok (.bipush 10, 2) := by decide +kernel
theorem dX7_cut_93 : decode cX7_cut 93 = .ok (.iload_n 1, 1) := by decide +kernel
theorem dX7_cut_94 : decode cX7_cut 94 = .ok (.imul, 1) := by decide +kernel
theorem dX7_cut_95 : decode cX7_cut 95 = .ok (.iload 5, 2) := by decide +kernel
theorem dX7_cut_97 : decode cX7_cut 97 = .ok (.iadd, 1) := by decide +kernel
theorem dX7_cut_98 : decode cX7_cut 98 = .ok (.aload_n 0, 1) := by decide +kernel
theorem dX7_cut_99 : decode cX7_cut 99 = .ok (.getfield 48, 3) := by decide +kernel
theorem dX7_cut_102 : decode cX7_cut 102 = .ok (.bipush 10, 2) := by decide +kernel
theorem dX7_cut_104 : decode cX7_cut 104 = .ok (.iload_n 1, 1) := by decide +kernel
theorem dX7_cut_105 : decode cX7_cut 105 = .ok (.imul, 1) := by decide +kernel
theorem dX7_cut_106 : decode cX7_cut 106 = .ok (.iload 5, 2) := by decide +kernel
theorem dX7_cut_108 : decode cX7_cut 108 = .ok (.iadd, 1) := by decide +kernel
theorem dX7_cut_109 : decode cX7_cut 109 = .ok (.iconst 1, 1) := by decide +kernel
theorem dX7_cut_110 : decode cX7_cut 110 = .ok (.iadd, 1) := by decide +kernel
theorem dX7_cut_111 : decode cX7_cut 111 = .ok (.iaload, 1) := by decide +kernel
theorem dX7_cut_112 : decode cX7_cut 112 = .ok (.iastore, 1) := by decide +kernel
theorem dX7_cut_113 : decode cX7_cut 113 = .ok (.iinc 5 1, 3) := by decide +kernel
theorem dX7_cut_116 : decode cX7_cut 116 = .ok (.goto (-40), 3) := by decide +kernel
theorem dX7_cut_119 : decode cX7_cut 119 = .ok (.iload 4, 2) := by decide +kernel
theorem dX7_cut_121 : decode cX7_cut 121 = .ok (.ireturn, 1) := by decide +kernel
theorem dX7_shuffles_0 : decode cX7_shuffles 0 = .ok (.iconst 0, 1) := by decide +kernel
theorem dX7_shuffles_1 : decode cX7_shuffles 1 = .ok (.istore 4, 2) := by decide +kernel
theorem dX7_shuffles_3 : decode cX7_shuffles 3 = .ok (.iload 4, 2) := by decide +kernel
theorem dX7_shuffles_5 : decode cX7_shuffles 5 = .ok (.aload_n 0, 1) := by decide +kernel
theorem dX7_shuffles_6 : decode cX7_shuffles 6 = .ok (.getfield 45, 3) := by decide +kernel
theorem dX7_shuffles_9 : decode cX7_shuffles 9 = .ok (.iload_n 1, 1) := by decide +kernel
theorem dX7_shuffles_10 : decode cX7_shuffles 10 = .ok (.iaload, 1) := by decide +kernel
theorem dX7_shuffles_11 : decode cX7_shuffles 11 = .ok (.if_icmp .ge 30, 3) := by decide +kernel
theorem dX7_shuffles_14 : decode cX7_shuffles 14 = .ok (.aload_n 0, 1) := by decide +kernel
theorem dX7_shuffles_15 : decode cX7_shuffles 15 = .ok (.getfield 51, 3) := by decide +kernel
theorem dX7_shuffles_18 : decode cX7_shuffles 18 = .ok (.iload_n 3, 1) := by decide +kernel
theorem dX7_shuffles_19 : decode cX7_shuffles 19 = .ok (.iload 4, 2) := by decide +kernel
theorem dX7_shuffles_21 : decode cX7_shuffles 21 = .ok (.iadd, 1) := by decide +kernel
theorem dX7_shuffles_22 : decode cX7_shuffles 22 = .ok (.aload_n 0, 1) := by decide +kernel
theorem dX7_shuffles_23 : decode cX7_shuffles 23 = .ok (.getfield 48, 3) := by decide +kernel
theorem dX7_shuffles_26 : decode cX7_shuffles 26 = .ok (.bipush 10, 2) := by decide +kernel
theorem dX7_shuffles_28 : decode cX7_shuffles 28 = .ok (.iload_n 1, 1) := by decide +kernel
theorem dX7_shuffles_29 : decode cX7_shuffles 29 = .ok (.imul, 1) := by decide +kernel
theorem dX7_shuffles_30 : decode cX7_shuffles 30 = .ok (.iload 4, 2) := by decide +kernel
theorem dX7_shuffles_32 : decode cX7_shuffles 32 = .ok (.iadd, 1) := by decide +kernel
theorem dX7_shuffles_33 : decode cX7_shuffles 33 = .ok (.iaload, 1) := by decide +kernel
theorem dX7_shuffles_34 : decode cX7_shuffles 34 = .ok (.iastore, 1) := by decide +kernel
theorem dX7_shuffles_35 : decode cX7_shuffles 35 = .ok (.iinc 4 1, 3) := by decide +kernel
theorem dX7_shuffles_38 : decode cX7_shuffles 38 = .ok (.goto (-35), 3) := by decide +kernel
theorem dX7_shuffles_41 : decode cX7_shuffles 41 = .ok (.iload_n 2, 1) := by decide +kernel
theorem dX7_shuffles_42 : decode cX7_shuffles 42 = .ok (.i2l, 1) := by decide +kernel
theorem dX7_shuffles_43 : decode cX7_shuffles 43 = .ok (.lstore 4, 2) := by decide +kernel
theorem dX7_shuffles_45 : decode cX7_shuffles 45 = .ok (.aload_n 0, 1) := by decide +kernel
theorem dX7_shuffles_46 : decode cX7_shuffles 46 = .ok (.getfield 45, 3) := by decide +kernel
theorem dX7_shuffles_49 : decode cX7_shuffles 49 = .ok (.iload_n 1, 1) := by decide +kernel
theorem dX7_shuffles_50 : decode cX7_shuffles 50 = .ok (.iaload, 1) := by decide +kernel
theorem dX7_shuffles_51 : decode cX7_shuffles 51 = .ok (.iconst 1, 1) := by decide +kernel
theorem dX7_shuffles_52 : decode cX7_shuffles 52 = .ok (.isub, 1) := by decide +kernel
theorem dX7_shuffles_53 : decode cX7_shuffles 53 = .ok (.istore 6, 2) := by decide +kernel
theorem dX7_shuffles_55 : decode cX7_shuffles 55 = .ok (.iload 6, 2) := by decide +kernel
theorem dX7_shuffles_57 : decode cX7_shuffles 57 = .ok (.iconst 1, 1) := by decide +kernel
theorem dX7_shuffles_58 : decode cX7_shuffles 58 = .ok (.if_icmp .lt 80, 3) := by decide +kernel
theorem dX7_shuffles_61 : decode cX7_shuffles 61 = .ok (.lload 4, 2) := by decide +kernel
theorem dX7_shuffles_63 : decode cX7_shuffles 63 = .ok (.ldc2_w 120, 3) := by decide +kernel
theorem dX7_shuffles_66 : decode cX7_shuffles 66 = .ok (.lmul, 1) := by decide +kernel
theorem dX7_shuffles_67 : decode cX7_shuffles 67 = .ok (.ldc2_w 122, 3) := by decide +kernel
theorem dX7_shuffles_70 : decode cX7_shuffles 70 = .ok (.ladd, 1) := by decide +kernel
theorem dX7_shuffles_71 : decode cX7_shuffles 71 = .ok (.ldc2_w 124, 3) := by decide +kernel
theorem dX7_shuffles_74 : decode cX7_shuffles 74 = .ok (.lrem, 1) := by decide +kernel
theorem dX7_shuffles_75 : decode cX7_shuffles 75 = .ok (.lstore 4, 2) := by decide +kernel
theorem dX7_shuffles_77 : decode cX7_shuffles 77 = .ok (.lload 4, 2) := by decide +kernel
theorem dX7_shuffles_79 : decode cX7_shuffles 79 = .ok (.ldc2_w 126, 3) := by decide +kernel
theorem dX7_shuffles_82 : decode cX7_shuffles 82 = .ok (.ldiv, 1) := by decide +kernel
theorem dX7_shuffles_83 : decode cX7_shuffles 83 = .ok (.iload 6, 2) := by decide +kernel
theorem dX7_shuffles_85 : decode cX7_shuffles 85 = .ok (.iconst 1, 1) := by decide +kernel
theorem dX7_shuffles_86 : decode cX7_shuffles 86 = .ok (.iadd, 1) := by decide +kernel
theorem dX7_shuffles_87 : decode cX7_shuffles 87 = .ok (.i2l, 1) := by decide +kernel
theorem dX7_shuffles_88 : decode cX7_shuffles 88 = .ok (.lrem, 1) := by decide +kernel
theorem dX7_shuffles_89 : decode cX7_shuffles 89 = .ok (.l2i, 1) := by decide +kernel
theorem dX7_shuffles_90 : decode cX7_shuffles 90 = .ok (.istore 7, 2) := by decide +kernel
theorem dX7_shuffles_92 : decode cX7_shuffles 92 = .ok (.aload_n 0, 1) := by decide +kernel
theorem dX7_shuffles_93 : decode cX7_shuffles 93 = .ok (.getfield 51, 3) := by decide +kernel
theorem dX7_shuffles_96 : decode cX7_shuffles 96 = .ok (.iload_n 3, 1) := by decide +kernel
theorem dX7_shuffles_97 : decode cX7_shuffles 97 = .ok (.iload 6, 2) := by decide +kernel
theorem dX7_shuffles_99 : decode cX7_shuffles 99 = .ok (.iadd, 1) := by decide +kernel
theorem dX7_shuffles_100 : decode cX7_shuffles 100 = .ok (.iaload, 1) := by decide +kernel
theorem dX7_shuffles_101 : decode cX7_shuffles 101 = .ok (.istore 8, 2) := by decide +kernel
theorem dX7_shuffles_103 : decode cX7_shuffles 103 = .ok (.aload_n 0, 1) := by decide +kernel
theorem dX7_shuffles_104 : decode cX7_shuffles 104 = .ok (.getfield 51, 3) := by decide +kernel
theorem dX7_shuffles_107 : decode cX7_shuffles 107 = .ok (.iload_n 3, 1) := by decide +kernel
theorem dX7_shuffles_108 : decode cX7_shuffles 108 = .ok (.iload 6, 2) := by decide +kernel
theorem dX7_shuffles_110 : decode cX7_shuffles 110 = .ok (.iadd, 1) := by decide +kernel
theorem dX7_shuffles_111 : decode cX7_shuffles 111 = .ok (.aload_n 0, 1) := by decide +kernel
theorem dX7_shuffles_112 : decode cX7_shuffles 112 = .ok (.getfield 51, 3) := by decide +kernel
theorem dX7_shuffles_115 : decode cX7_shuffles 115 = .ok (.iload_n 3, 1) := by decide +kernel
theorem dX7_shuffles_116 : decode cX7_shuffles 116 = .ok (.iload 7, 2) := by decide +kernel
theorem dX7_shuffles_118 : decode cX7_shuffles 118 = .ok (.iadd, 1) := by decide +kernel
theorem dX7_shuffles_119 : decode cX7_shuffles 119 = .ok (.iaload, 1) := by decide +kernel
theorem dX7_shuffles_120 : decode cX7_shuffles 120 = .ok (.iastore, 1) := by decide +kernel
theorem dX7_shuffles_121 : decode cX7_shuffles 121 = .ok (.aload_n 0, 1) := by decide +kernel
theorem dX7_shuffles_122 : decode cX7_shuffles 122 = .ok (.getfield 51, 3) := by decide +kernel
theorem dX7_shuffles_125 : decode cX7_shuffles 125 = .ok (.iload_n 3, 1) := by decide +kernel
theorem dX7_shuffles_126 : decode cX7_shuffles 126 = .ok (.iload 7, 2) := by decide +kernel
theorem dX7_shuffles_128 : decode cX7_shuffles 128 = .ok (.iadd, 1) := by decide +kernel
theorem dX7_shuffles_129 : decode cX7_shuffles 129 = .ok (.iload 8, 2) := by decide +kernel
theorem dX7_shuffles_131 : decode cX7_shuffles 131 = .ok (.iastore, 1) := by decide +kernel
theorem dX7_shuffles_132 : decode cX7_shuffles 132 = .ok (.iinc 6 (-1), 3) := by decide +kernel
theorem dX7_shuffles_135 : decode cX7_shuffles 135 = .ok (.goto (-80), 3) := by decide +kernel
theorem dX7_shuffles_138 : decode cX7_shuffles 138 = .ok (.return_, 1) := by decide +kernel
theorem dX7_effect_0 : decode cX7_effect 0 = .ok (.aload_n 0, 1) := by decide +kernel
theorem dX7_effect_1 : decode cX7_effect 1 = .ok (.getfield 13, 3) := by decide +kernel
theorem dX7_effect_4 : decode cX7_effect 4 = .ok (.iload_n 2, 1) := by decide +kernel
theorem dX7_effect_5 : decode cX7_effect 5 = .ok (.iaload, 1) := by decide +kernel
theorem dX7_effect_6 : decode cX7_effect 6 = .ok (.iconst 3, 1) := by decide +kernel
theorem dX7_effect_7 : decode cX7_effect 7 = .ok (.if_icmp .ne 7, 3) := by decide +kernel
theorem dX7_effect_10 : decode cX7_effect 10 = .ok (.iconst 0, 1) := by decide +kernel
theorem dX7_effect_11 : decode cX7_effect 11 = .ok (.goto 9, 3) := by decide +kernel
theorem dX7_effect_14 : decode cX7_effect 14 = .ok (.aload_n 0, 1) := by decide +kernel
theorem dX7_effect_15 : decode cX7_effect 15 = .ok (.getfield 13, 3) := by decide +kernel
theorem dX7_effect_18 : decode cX7_effect 18 = .ok (.iload_n 1, 1) := by decide +kernel
theorem dX7_effect_19 : decode cX7_effect 19 = .ok (.iaload, 1) := by decide +kernel
theorem dX7_effect_20 : decode cX7_effect 20 = .ok (.istore 4, 2) := by decide +kernel
theorem dX7_effect_22 : decode cX7_effect 22 = .ok (.iload 4, 2) := by decide +kernel
theorem dX7_effect_24 : decode cX7_effect 24 = .ok (.iconst 1, 1) := by decide +kernel
theorem dX7_effect_25 : decode cX7_effect 25 = .ok (.if_icmp .ne 11, 3) := by decide +kernel
theorem dX7_effect_28 : decode cX7_effect 28 = .ok (.iload_n 3, 1) := by decide +kernel
theorem dX7_effect_29 : decode cX7_effect 29 = .ok (.ifCond .eq 7, 3) := by decide +kernel
theorem dX7_effect_32 : decode cX7_effect 32 = .ok (.iconst 1, 1) := by decide +kernel
theorem dX7_effect_33 : decode cX7_effect 33 = .ok (.goto 18, 3) := by decide +kernel
theorem dX7_effect_36 : decode cX7_effect 36 = .ok (.iload 4, 2) := by decide +kernel
theorem dX7_effect_38 : decode cX7_effect 38 = .ok (.iconst 2, 1) := by decide +kernel
theorem dX7_effect_39 : decode cX7_effect 39 = .ok (.if_icmp .ne 11, 3) := by decide +kernel
theorem dX7_effect_42 : decode cX7_effect 42 = .ok (.iload_n 3, 1) := by decide +kernel
theorem dX7_effect_43 : decode cX7_effect 43 = .ok (.ifCond .ne 7, 3) := by decide +kernel
theorem dX7_effect_46 : decode cX7_effect 46 = .ok (.iconst 2, 1) := by decide +kernel
theorem dX7_effect_47 : decode cX7_effect 47 = .ok (.goto 4, 3) := by decide +kernel
theorem dX7_effect_50 : decode cX7_effect 50 = .ok (.iconst 0, 1) := by decide +kernel
theorem dX7_effect_51 : decode cX7_effect 51 = .ok (.ireturn, 1) := by decide +kernel
set_option maxRecDepth 20000 in
theorem ggX7_wonBy_X7_manyOf : GoodIn wsX7_wonBy wsX7_manyOf := goodIn_r _ [6, 7, 8, 9, 10, 5, 11, 12, 13, 14, 15, 16, 17, 18, 19, 20, 21, 22, 23, 24, 25, 26, 27, 28, 29, 30, 31, 32, 33, 34, 35, 36] (by decide +kernel) (by decide +kernel)
set_option maxRecDepth 20000 in
theorem gX7_wonBy_X7_manyOf : GoodIn wsX7_wonBy (wsV RX7 97 RX7 yX7_manyOf wsX7_manyOf) := goodIn_app (goodIn_of _ (by decide +kernel)) ggX7_wonBy_X7_manyOf
theorem dX7_wonBy_0 : decode cX7_wonBy 0 = .ok (.iconst 0, 1) := by decide +kernel
theorem dX7_wonBy_1 : decode cX7_wonBy 1 = .ok (.istore_n 2, 1) := by decide +kernel
theorem dX7_wonBy_2 : decode cX7_wonBy 2 = .ok (.iload_n 2, 1) := by decide +kernel
theorem dX7_wonBy_3 : decode cX7_wonBy 3 = .ok (.bipush 16, 2) := by decide +kernel
theorem dX7_wonBy_5 : decode cX7_wonBy 5 = .ok (.if_icmp .ge 32, 3) := by decide +kernel
theorem dX7_wonBy_8 : decode cX7_wonBy 8 = .ok (.aload_n 0, 1) := by decide +kernel
theorem dX7_wonBy_9 : decode cX7_wonBy 9 = .ok (.getfield 23, 3) := by decide +kernel
theorem dX7_wonBy_12 : decode cX7_wonBy 12 = .ok (.iload_n 2, 1) := by decide +kernel
theorem dX7_wonBy_13 : decode cX7_wonBy 13 = .ok (.dup2, 1) := by decide +kernel
theorem dX7_wonBy_14 : decode cX7_wonBy 14 = .ok (.iaload, 1) := by decide +kernel
theorem dX7_wonBy_15 : decode cX7_wonBy 15 = .ok (.aload_n 0, 1) := by decide +kernel
theorem dX7_wonBy_16 : decode cX7_wonBy 16 = .ok (.iload_n 1, 1) := by decide +kernel
theorem dX7_wonBy_17 : decode cX7_wonBy 17 = .ok (.iload_n 2, 1) := by decide +kernel
theorem dX7_wonBy_18 : decode cX7_wonBy 18 = .ok (.invokevirtual 97, 3) := by decide +kernel
theorem dX7_wonBy_21 : decode cX7_wonBy 21 = .ok (.ifCond .le 7, 3) := by decide +kernel
theorem dX7_wonBy_24 : decode cX7_wonBy 24 = .ok (.iconst 1, 1) := by decide +kernel
theorem dX7_wonBy_25 : decode cX7_wonBy 25 = .ok (.goto 4, 3) := by decide +kernel
theorem dX7_wonBy_28 : decode cX7_wonBy 28 = .ok (.iconst 0, 1) := by decide +kernel
theorem dX7_wonBy_29 : decode cX7_wonBy 29 = .ok (.iadd, 1) := by decide +kernel
theorem dX7_wonBy_30 : decode cX7_wonBy 30 = .ok (.iastore, 1) := by decide +kernel
theorem dX7_wonBy_31 : decode cX7_wonBy 31 = .ok (.iinc 2 1, 3) := by decide +kernel
theorem dX7_wonBy_34 : decode cX7_wonBy 34 = .ok (.goto (-32), 3) := by decide +kernel
theorem dX7_wonBy_37 : decode cX7_wonBy 37 = .ok (.return_, 1) := by decide +kernel
set_option maxRecDepth 20000 in
theorem ggX7_play_X7_isDeck : GoodIn wsX7_play wsX7_isDeck := goodIn_r _ [10, 11, 12, 13, 9, 14, 55, 56, 57, 58, 59, 60, 61, 62, 63, 64, 65, 66, 67, 68, 69, 70, 71, 72, 73, 74, 75, 76, 77] (by decide +kernel) (by decide +kernel)
set_option maxRecDepth 20000 in
theorem gX7_play_X7_isDeck : GoodIn wsX7_play (wsV RX7 110 RX7 yX7_isDeck wsX7_isDeck) := goodIn_app (goodIn_of _ (by decide +kernel)) ggX7_play_X7_isDeck
set_option maxRecDepth 20000 in
theorem ggX7_play_X7_allows : GoodIn wsX7_play wsX7_allows := goodIn_r _ [18, 19, 2, 20, 21, 1, 22, 23, 24, 25, 26, 9, 27, 3, 28, 29, 30, 31, 55, 56, 57, 58, 59, 60, 61, 62, 63, 64, 65, 66, 67, 68, 69, 70, 71, 72, 73, 74, 75, 76, 77] (by decide +kernel) (by decide +kernel)
set_option maxRecDepth 20000 in
theorem gX7_play_X7_allows : GoodIn wsX7_play (wsV RX7 100 RX7 yX7_allows wsX7_allows) := goodIn_app (goodIn_of _ (by decide +kernel)) ggX7_play_X7_allows
set_option maxRecDepth 20000 in
theorem ggX7_play_X7_goes : GoodIn wsX7_play wsX7_goes := goodIn_r _ [35, 36, 55, 56, 57, 58, 59, 60, 61, 62, 63, 64, 65, 66, 67, 68, 69, 70, 71, 72, 73, 74, 75, 76, 77] (by decide +kernel) (by decide +kernel)
set_option maxRecDepth 20000 in
theorem gX7_play_X7_goes : GoodIn wsX7_play (wsV RX7 89 RX7 yX7_goes wsX7_goes) := goodIn_app (goodIn_of _ (by decide +kernel)) ggX7_play_X7_goes
set_option maxRecDepth 20000 in
theorem ggX7_play_X7_shuffles : GoodIn wsX7_play wsX7_shuffles := goodIn_r _ [40, 19, 4, 21, 41, 42, 43, 44, 55, 56, 57, 58, 59, 60, 61, 62, 63, 64, 65, 66, 67, 68, 69, 70, 71, 72, 73, 74, 75, 76, 77] (by decide +kernel) (by decide +kernel)
set_option maxRecDepth 20000 in
theorem gX7_play_X7_shuffles : GoodIn wsX7_play (wsV RX7 128 RX7 yX7_shuffles wsX7_shuffles) := goodIn_app (goodIn_of _ (by decide +kernel)) ggX7_play_X7_shuffles
set_option maxRecDepth 20000 in
theorem ggX7_play_X7_effect : GoodIn wsX7_play wsX7_effect := goodIn_r _ [48, 49, 55, 56, 57, 58, 59, 60, 61, 62, 63, 64, 65, 66, 67, 68, 69, 70, 71, 72, 73, 74, 75, 76, 77] (by decide +kernel) (by decide +kernel)
set_option maxRecDepth 20000 in
theorem gX7_play_X7_effect : GoodIn wsX7_play (wsV RX7 132 RX7 yX7_effect wsX7_effect) := goodIn_app (goodIn_of _ (by decide +kernel)) ggX7_play_X7_effect
set_option maxRecDepth 20000 in
theorem ggX7_play_X7_wonBy : GoodIn wsX7_play wsX7_wonBy := goodIn_r _ [53, 54, 28, 29, 30, 9, 31, 19, 24, 25, 26, 27, 3, 21, 55, 56, 57, 58, 59, 60, 61, 62, 63, 64, 65, 66, 67, 68, 69, 70, 71, 72, 73, 74, 75, 76, 77] (by decide +kernel) (by decide +kernel)
set_option maxRecDepth 20000 in
theorem gX7_play_X7_wonBy : GoodIn wsX7_play (wsV RX7 136 RX7 yX7_wonBy wsX7_wonBy) := goodIn_app (goodIn_of _ (by decide +kernel)) ggX7_play_X7_wonBy
theorem dX7_play_0 : decode cX7_play 0 = .ok (.aload_n 0, 1) := by decide +kernel
