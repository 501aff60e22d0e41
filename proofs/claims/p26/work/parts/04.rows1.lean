set_option maxRecDepth 20000 in
theorem gX6_setFormat_X6_needRange : GoodIn wsX6_setFormat (va_wsS RX6 58 yX6_needRange wsX6_needRange) := goodIn_app (goodIn_of _ (by decide +kernel)) ggX6_setFormat_X6_needRange
set_option maxRecDepth 20000 in
theorem ggX6_setFormat_X0_countFitting : GoodIn wsX6_setFormat wsX0_countFitting := goodIn_r _ [16, 17, 18, 19, 20, 15, 21, 22, 23, 24, 25, 26, 27, 28, 29, 30, 31, 32, 33, 34, 35, 36, 37, 38, 39, 40, 41, 42, 43, 44, 52, 53, 54, 55, 56, 57, 58, 59, 60, 61, 62, 63, 64, 65, 66] (by decide +kernel) (by decide +kernel)
set_option maxRecDepth 20000 in
theorem gX6_setFormat_X0_countFitting : GoodIn wsX6_setFormat (wsV RX6 76 RX0 yX0_countFitting wsX0_countFitting) := goodIn_app (goodIn_of _ (by decide +kernel)) ggX6_setFormat_X0_countFitting
theorem dX6_setFormat_0 : decode cX6_setFormat 0 = .ok (.iload_n 1, 1) := by decide +kernel
theorem dX6_setFormat_1 : decode cX6_setFormat 1 = .ok (.iconst 4, 1) := by decide +kernel
theorem dX6_setFormat_2 : decode cX6_setFormat 2 = .ok (.bipush 10, 2) := by decide +kernel
theorem dX6_setFormat_4 : decode cX6_setFormat 4 = .ok (.invokestatic 58, 3) := by decide +kernel
theorem dX6_setFormat_7 : decode cX6_setFormat 7 = .ok (.iload_n 2, 1) := by decide +kernel
theorem dX6_setFormat_8 : decode cX6_setFormat 8 = .ok (.iconst 1, 1) := by decide +kernel
theorem dX6_setFormat_9 : decode cX6_setFormat 9 = .ok (.iconst 4, 1) := by decide +kernel
theorem dX6_setFormat_10 : decode cX6_setFormat 10 = .ok (.invokestatic 58, 3) := by decide +kernel
theorem dX6_setFormat_13 : decode cX6_setFormat 13 = .ok (.aload_n 0, 1) := by decide +kernel
theorem dX6_setFormat_14 : decode cX6_setFormat 14 = .ok (.getfield 26, 3) := by decide +kernel
theorem dX6_setFormat_17 : decode cX6_setFormat 17 = .ok (.iload_n 1, 1) := by decide +kernel
theorem dX6_setFormat_18 : decode cX6_setFormat 18 = .ok (.putfield 69, 3) := by decide +kernel
theorem dX6_setFormat_21 : decode cX6_setFormat 21 = .ok (.aload_n 0, 1) := by decide +kernel
theorem dX6_setFormat_22 : decode cX6_setFormat 22 = .ok (.getfield 26, 3) := by decide +kernel
theorem dX6_setFormat_25 : decode cX6_setFormat 25 = .ok (.iload_n 2, 1) := by decide +kernel
theorem dX6_setFormat_26 : decode cX6_setFormat 26 = .ok (.putfield 73, 3) := by decide +kernel
theorem dX6_setFormat_29 : decode cX6_setFormat 29 = .ok (.aload_n 0, 1) := by decide +kernel
theorem dX6_setFormat_30 : decode cX6_setFormat 30 = .ok (.getfield 26, 3) := by decide +kernel
theorem dX6_setFormat_33 : decode cX6_setFormat 33 = .ok (.aload_n 0, 1) := by decide +kernel
theorem dX6_setFormat_34 : decode cX6_setFormat 34 = .ok (.getfield 10, 3) := by decide +kernel
theorem dX6_setFormat_37 : decode cX6_setFormat 37 = .ok (.aload_n 0, 1) := by decide +kernel
theorem dX6_setFormat_38 : decode cX6_setFormat 38 = .ok (.getfield 19, 3) := by decide +kernel
theorem dX6_setFormat_41 : decode cX6_setFormat 41 = .ok (.invokevirtual 76, 3) := by decide +kernel
theorem dX6_setFormat_44 : decode cX6_setFormat 44 = .ok (.ireturn, 1) := by decide +kernel
set_option maxRecDepth 20000 in
theorem ggX6_ban_X6_needKind : GoodIn wsX6_ban wsX6_needKind := goodIn_ca (goodIn_r _ [8, 9, 10] (by decide +kernel) (by decide +kernel)) (goodIn_sub (fun _ h => List.mem_cons_of_mem _ (List.mem_append_right _ h)) (by decide +kernel))
set_option maxRecDepth 20000 in
theorem gX6_ban_X6_needKind : GoodIn wsX6_ban (va_wsS RX6 54 yX6_needKind wsX6_needKind) := goodIn_app (goodIn_of _ (by decide +kernel)) ggX6_ban_X6_needKind
set_option maxRecDepth 20000 in
theorem ggX6_ban_X0_countFitting : GoodIn wsX6_ban wsX0_countFitting := goodIn_r _ [15, 16, 17, 18, 19, 14, 20, 21, 22, 23, 24, 25, 26, 27, 28, 29, 30, 31, 32, 33, 34, 35, 36, 37, 38, 39, 40, 41, 42, 43, 56, 57, 58, 59, 60, 61, 62, 63, 64, 65, 51, 52, 53, 54, 55] (by decide +kernel) (by decide +kernel)
set_option maxRecDepth 20000 in
theorem gX6_ban_X0_countFitting : GoodIn wsX6_ban (wsV RX6 76 RX0 yX0_countFitting wsX0_countFitting) := goodIn_app (goodIn_of _ (by decide +kernel)) ggX6_ban_X0_countFitting
theorem dX6_ban_0 : decode cX6_ban 0 = .ok (.iload_n 1, 1) := by decide +kernel
theorem dX6_ban_1 : decode cX6_ban 1 = .ok (.invokestatic 54, 3) := by decide +kernel
theorem dX6_ban_4 : decode cX6_ban 4 = .ok (.aload_n 0, 1) := by decide +kernel
theorem dX6_ban_5 : decode cX6_ban 5 = .ok (.getfield 10, 3) := by decide +kernel
theorem dX6_ban_8 : decode cX6_ban 8 = .ok (.getfield 80, 3) := by decide +kernel
theorem dX6_ban_11 : decode cX6_ban 11 = .ok (.iload_n 1, 1) := by decide +kernel
theorem dX6_ban_12 : decode cX6_ban 12 = .ok (.iload_n 2, 1) := by decide +kernel
theorem dX6_ban_13 : decode cX6_ban 13 = .ok (.bastore, 1) := by decide +kernel
theorem dX6_ban_14 : decode cX6_ban 14 = .ok (.aload_n 0, 1) := by decide +kernel
theorem dX6_ban_15 : decode cX6_ban 15 = .ok (.getfield 26, 3) := by decide +kernel
theorem dX6_ban_18 : decode cX6_ban 18 = .ok (.aload_n 0, 1) := by decide +kernel
theorem dX6_ban_19 : decode cX6_ban 19 = .ok (.getfield 10, 3) := by decide +kernel
theorem dX6_ban_22 : decode cX6_ban 22 = .ok (.aload_n 0, 1) := by decide +kernel
theorem dX6_ban_23 : decode cX6_ban 23 = .ok (.getfield 19, 3) := by decide +kernel
theorem dX6_ban_26 : decode cX6_ban 26 = .ok (.invokevirtual 76, 3) := by decide +kernel
theorem dX6_ban_29 : decode cX6_ban 29 = .ok (.ireturn, 1) := by decide +kernel
set_option maxRecDepth 20000 in
theorem ggX6_print_X6_needKind : GoodIn wsX6_print wsX6_needKind := goodIn_ca (goodIn_r _ [10, 11, 12] (by decide +kernel) (by decide +kernel)) (goodIn_sub (fun _ h => List.mem_cons_of_mem _ (List.mem_append_right _ h)) (by decide +kernel))
set_option maxRecDepth 20000 in
theorem gX6_print_X6_needKind : GoodIn wsX6_print (va_wsS RX6 54 yX6_needKind wsX6_needKind) := goodIn_app (goodIn_of _ (by decide +kernel)) ggX6_print_X6_needKind
set_option maxRecDepth 20000 in
theorem ggX6_print_X6_needCollector : GoodIn wsX6_print wsX6_needCollector := goodIn_ca (goodIn_r _ [15, 11, 12] (by decide +kernel) (by decide +kernel)) (goodIn_sub (fun _ h => List.mem_cons_of_mem _ (List.mem_append_right _ h)) (by decide +kernel))
set_option maxRecDepth 20000 in
theorem gX6_print_X6_needCollector : GoodIn wsX6_print (va_wsS RX6 84 yX6_needCollector wsX6_needCollector) := goodIn_app (goodIn_of _ (by decide +kernel)) ggX6_print_X6_needCollector
set_option maxRecDepth 20000 in
theorem ggX6_print_X4_append : GoodIn wsX6_print wsX4_append := goodIn_r _ [20, 21, 22, 23, 24, 32, 33, 34, 35] (by decide +kernel) (by decide +kernel)
set_option maxRecDepth 20000 in
theorem gX6_print_X4_append : GoodIn wsX6_print (wsV RX6 100 RX4 yX4_append wsX4_append) := goodIn_app (goodIn_of _ (by decide +kernel)) ggX6_print_X4_append
theorem dX6_print_0 : decode cX6_print 0 = .ok (.iload_n 1, 1) := by decide +kernel
theorem dX6_print_1 : decode cX6_print 1 = .ok (.invokestatic 54, 3) := by decide +kernel
theorem dX6_print_4 : decode cX6_print 4 = .ok (.iload_n 2, 1) := by decide +kernel
theorem dX6_print_5 : decode cX6_print 5 = .ok (.invokestatic 84, 3) := by decide +kernel
theorem dX6_print_8 : decode cX6_print 8 = .ok (.aload_n 0, 1) := by decide +kernel
theorem dX6_print_9 : decode cX6_print 9 = .ok (.getfield 19, 3) := by decide +kernel
theorem dX6_print_12 : decode cX6_print 12 = .ok (.getfield 87, 3) := by decide +kernel
theorem dX6_print_15 : decode cX6_print 15 = .ok (.bipush 80, 2) := by decide +kernel
theorem dX6_print_17 : decode cX6_print 17 = .ok (.if_icmp .lt 13, 3) := by decide +kernel
theorem dX6_print_20 : decode cX6_print 20 = .ok (.new 90, 3) := by decide +kernel
theorem dX6_print_23 : decode cX6_print 23 = .ok (.dup, 1) := by decide +kernel
theorem dX6_print_24 : decode cX6_print 24 = .ok (.ldc 92, 2) := by decide +kernel
theorem dX6_print_26 : decode cX6_print 26 = .ok (.invokespecial 94, 3) := by decide +kernel
theorem dX6_print_29 : decode cX6_print 29 = .ok (.athrow, 1) := by decide +kernel
theorem dX6_print_30 : decode cX6_print 30 = .ok (.aload_n 0, 1) := by decide +kernel
theorem dX6_print_31 : decode cX6_print 31 = .ok (.getfield 10, 3) := by decide +kernel
theorem dX6_print_34 : decode cX6_print 34 = .ok (.getfield 97, 3) := by decide +kernel
theorem dX6_print_37 : decode cX6_print 37 = .ok (.iload_n 1, 1) := by decide +kernel
theorem dX6_print_38 : decode cX6_print 38 = .ok (.dup2, 1) := by decide +kernel
theorem dX6_print_39 : decode cX6_print 39 = .ok (.iaload, 1) := by decide +kernel
theorem dX6_print_40 : decode cX6_print 40 = .ok (.iconst 1, 1) := by decide +kernel
theorem dX6_print_41 : decode cX6_print 41 = .ok (.iadd, 1) := by decide +kernel
theorem dX6_print_42 : decode cX6_print 42 = .ok (.iastore, 1) := by decide +kernel
theorem dX6_print_43 : decode cX6_print 43 = .ok (.aload_n 0, 1) := by decide +kernel
theorem dX6_print_44 : decode cX6_print 44 = .ok (.getfield 19, 3) := by decide +kernel
theorem dX6_print_47 : decode cX6_print 47 = .ok (.iload_n 1, 1) := by decide +kernel
theorem dX6_print_48 : decode cX6_print 48 = .ok (.aload_n 0, 1) := by decide +kernel
theorem dX6_print_49 : decode cX6_print 49 = .ok (.getfield 10, 3) := by decide +kernel
theorem dX6_print_52 : decode cX6_print 52 = .ok (.getfield 97, 3) := by decide +kernel
theorem dX6_print_55 : decode cX6_print 55 = .ok (.iload_n 1, 1) := by decide +kernel
theorem dX6_print_56 : decode cX6_print 56 = .ok (.iaload, 1) := by decide +kernel
theorem dX6_print_57 : decode cX6_print 57 = .ok (.iload_n 2, 1) := by decide +kernel
theorem dX6_print_58 : decode cX6_print 58 = .ok (.invokevirtual 100, 3) := by decide +kernel
theorem dX6_print_61 : decode cX6_print 61 = .ok (.ireturn, 1) := by decide +kernel
set_option maxRecDepth 20000 in
theorem ggX6_deck_X6_needCollector : GoodIn wsX6_deck wsX6_needCollector := goodIn_ca (goodIn_r _ [8, 9, 10] (by decide +kernel) (by decide +kernel)) (goodIn_sub (fun _ h => List.mem_cons_of_mem _ (List.mem_append_right _ h)) (by decide +kernel))
set_option maxRecDepth 20000 in
theorem gX6_deck_X6_needCollector : GoodIn wsX6_deck (va_wsS RX6 84 yX6_needCollector wsX6_needCollector) := goodIn_app (goodIn_of _ (by decide +kernel)) ggX6_deck_X6_needCollector
set_option maxRecDepth 20000 in
theorem ggX6_deck_X0_append : GoodIn wsX6_deck wsX0_append := goodIn_r _ [15, 16, 17, 25, 26, 27, 28, 29, 30] (by decide +kernel) (by decide +kernel)
set_option maxRecDepth 20000 in
theorem gX6_deck_X0_append : GoodIn wsX6_deck (wsV RX6 107 RX0 yX0_append wsX0_append) := goodIn_app (goodIn_of _ (by decide +kernel)) ggX6_deck_X0_append
theorem dX6_deck_0 : decode cX6_deck 0 = .ok (.iload_n 1, 1) := by decide +kernel
theorem dX6_deck_1 : decode cX6_deck 1 = .ok (.invokestatic 84, 3) := by decide +kernel
theorem dX6_deck_4 : decode cX6_deck 4 = .ok (.aload_n 0, 1) := by decide +kernel
theorem dX6_deck_5 : decode cX6_deck 5 = .ok (.getfield 26, 3) := by decide +kernel
theorem dX6_deck_8 : decode cX6_deck 8 = .ok (.getfield 104, 3) := by decide +kernel
theorem dX6_deck_11 : decode cX6_deck 11 = .ok (.bipush 12, 2) := by decide +kernel
theorem dX6_deck_13 : decode cX6_deck 13 = .ok (.if_icmp .lt 13, 3) := by decide +kernel
theorem dX6_deck_16 : decode cX6_deck 16 = .ok (.new 90, 3) := by decide +kernel
theorem dX6_deck_19 : decode cX6_deck 19 = .ok (.dup, 1) := by decide +kernel
theorem dX6_deck_20 : decode cX6_deck 20 = .ok (.ldc 105, 2) := by decide +kernel
theorem dX6_deck_22 : decode cX6_deck 22 = .ok (.invokespecial 94, 3) := by decide +kernel
theorem dX6_deck_25 : decode cX6_deck 25 = .ok (.athrow, 1) := by decide +kernel
theorem dX6_deck_26 : decode cX6_deck 26 = .ok (.aload_n 0, 1) := by decide +kernel
theorem dX6_deck_27 : decode cX6_deck 27 = .ok (.getfield 26, 3) := by decide +kernel
theorem dX6_deck_30 : decode cX6_deck 30 = .ok (.iload_n 1, 1) := by decide +kernel
theorem dX6_deck_31 : decode cX6_deck 31 = .ok (.invokevirtual 107, 3) := by decide +kernel
theorem dX6_deck_34 : decode cX6_deck 34 = .ok (.ireturn, 1) := by decide +kernel
set_option maxRecDepth 20000 in
theorem ggX6_add_X6_needDeck : GoodIn wsX6_add wsX6_needDeck := goodIn_ca (goodIn_r _ [14, 15, 16, 7, 17, 34, 35, 36, 37, 38, 39, 40, 45, 46, 47, 48, 49, 50] (by decide +kernel) (by decide +kernel)) (goodIn_sub (fun _ h => List.mem_cons_of_mem _ (List.mem_append_right _ h)) (by decide +kernel))
set_option maxRecDepth 20000 in
theorem gX6_add_X6_needDeck : GoodIn wsX6_add (wsV RX6 110 RX6 yX6_needDeck wsX6_needDeck) := goodIn_app (goodIn_of _ (by decide +kernel)) ggX6_add_X6_needDeck
set_option maxRecDepth 20000 in
theorem ggX6_add_X6_needCard : GoodIn wsX6_add wsX6_needCard := goodIn_ca (goodIn_r _ [21, 15, 16, 5, 22, 34, 35, 36, 37, 38, 39, 40, 41, 42, 43, 44] (by decide +kernel) (by decide +kernel)) (goodIn_sub (fun _ h => List.mem_cons_of_mem _ (List.mem_append_right _ h)) (by decide +kernel))
set_option maxRecDepth 20000 in
theorem gX6_add_X6_needCard : GoodIn wsX6_add (wsV RX6 113 RX6 yX6_needCard wsX6_needCard) := goodIn_app (goodIn_of _ (by decide +kernel)) ggX6_add_X6_needCard
set_option maxRecDepth 20000 in
theorem ggX6_add_X0_holds : GoodIn wsX6_add wsX0_holds := goodIn_r _ [27, 28, 29, 45, 46, 47, 48, 49, 50] (by decide +kernel) (by decide +kernel)
set_option maxRecDepth 20000 in
theorem gX6_add_X0_holds : GoodIn wsX6_add (wsV RX6 127 RX0 yX0_holds wsX0_holds) := goodIn_app (goodIn_of _ (by decide +kernel)) ggX6_add_X0_holds
set_option maxRecDepth 20000 in
theorem ggX6_add_X0_putBehind : GoodIn wsX6_add wsX0_putBehind := goodIn_r _ [33, 29, 28, 45, 46, 47, 48, 49, 50] (by decide +kernel) (by decide +kernel)
set_option maxRecDepth 20000 in
theorem gX6_add_X0_putBehind : GoodIn wsX6_add (wsV RX6 138 RX0 yX0_putBehind wsX0_putBehind) := goodIn_app (goodIn_of _ (by decide +kernel)) ggX6_add_X0_putBehind
theorem dX6_add_0 : decode cX6_add 0 = .ok (.aload_n 0, 1) := by decide +kernel
theorem dX6_add_1 : decode cX6_add 1 = .ok (.iload_n 1, 1) := by decide +kernel
theorem dX6_add_2 : decode cX6_add 2 = .ok (.invokevirtual 110, 3) := by decide +kernel
theorem dX6_add_5 : decode cX6_add 5 = .ok (.aload_n 0, 1) := by decide +kernel
theorem dX6_add_6 : decode cX6_add 6 = .ok (.iload_n 2, 1) := by decide +kernel
theorem dX6_add_7 : decode cX6_add 7 = .ok (.invokevirtual 113, 3) := by decide +kernel
theorem dX6_add_10 : decode cX6_add 10 = .ok (.aload_n 0, 1) := by decide +kernel
theorem dX6_add_11 : decode cX6_add 11 = .ok (.getfield 19, 3) := by decide +kernel
theorem dX6_add_14 : decode cX6_add 14 = .ok (.getfield 116, 3) := by decide +kernel
theorem dX6_add_17 : decode cX6_add 17 = .ok (.iload_n 2, 1) := by decide +kernel
theorem dX6_add_18 : decode cX6_add 18 = .ok (.iaload, 1) := by decide +kernel
theorem dX6_add_19 : decode cX6_add 19 = .ok (.aload_n 0, 1) := by decide +kernel
theorem dX6_add_20 : decode cX6_add 20 = .ok (.getfield 26, 3) := by decide +kernel
theorem dX6_add_23 : decode cX6_add 23 = .ok (.getfield 119, 3) := by decide +kernel
theorem dX6_add_26 : decode cX6_add 26 = .ok (.iload_n 1, 1) := by decide +kernel
theorem dX6_add_27 : decode cX6_add 27 = .ok (.iaload, 1) := by decide +kernel
theorem dX6_add_28 : decode cX6_add 28 = .ok (.if_icmp .eq 13, 3) := by decide +kernel
theorem dX6_add_31 : decode cX6_add 31 = .ok (.new 122, 3) := by decide +kernel
theorem dX6_add_34 : decode cX6_add 34 = .ok (.dup, 1) := by decide +kernel
theorem dX6_add_35 : decode cX6_add 35 = .ok (.ldc 124, 2) := by decide +kernel
theorem dX6_add_37 : decode cX6_add 37 = .ok (.invokespecial 126, 3) := by decide +kernel
theorem dX6_add_40 : decode cX6_add 40 = .ok (.athrow, 1) := by decide +kernel
theorem dX6_add_41 : decode cX6_add 41 = .ok (.aload_n 0, 1) := by decide +kernel
theorem dX6_add_42 : decode cX6_add 42 = .ok (.getfield 26, 3) := by decide +kernel
theorem dX6_add_45 : decode cX6_add 45 = .ok (.iload_n 1, 1) := by decide +kernel
theorem dX6_add_46 : decode cX6_add 46 = .ok (.iload_n 2, 1) := by decide +kernel
theorem dX6_add_47 : decode cX6_add 47 = .ok (.invokevirtual 127, 3) := by decide +kernel
theorem dX6_add_50 : decode cX6_add 50 = .ok (.ifCond .eq 13, 3) := by decide +kernel
theorem dX6_add_53 : decode cX6_add 53 = .ok (.new 122, 3) := by decide +kernel
theorem dX6_add_56 : decode cX6_add 56 = .ok (.dup, 1) := by decide +kernel
theorem dX6_add_57 : decode cX6_add 57 = .ok (.ldc 131, 2) := by decide +kernel
theorem dX6_add_59 : decode cX6_add 59 = .ok (.invokespecial 126, 3) := by decide +kernel
theorem dX6_add_62 : decode cX6_add 62 = .ok (.athrow, 1) := by decide +kernel
theorem dX6_add_63 : decode cX6_add 63 = .ok (.aload_n 0, 1) := by decide +kernel
theorem dX6_add_64 : decode cX6_add 64 = .ok (.getfield 26, 3) := by decide +kernel
theorem dX6_add_67 : decode cX6_add 67 = .ok (.getfield 133, 3) := by decide +kernel
theorem dX6_add_70 : decode cX6_add 70 = .ok (.iload_n 1, 1) := by decide +kernel
theorem dX6_add_71 : decode cX6_add 71 = .ok (.iaload, 1) := by decide +kernel
theorem dX6_add_72 : decode cX6_add 72 = .ok (.bipush 10, 2) := by decide +kernel
theorem dX6_add_74 : decode cX6_add 74 = .ok (.if_icmp .lt 13, 3) := by decide +kernel
theorem dX6_add_77 : decode cX6_add 77 = .ok (.new 90, 3) := by decide +kernel
theorem dX6_add_80 : decode cX6_add 80 = .ok (.dup, 1) := by decide +kernel
theorem dX6_add_81 : decode cX6_add 81 = .ok (.ldc 136, 2) := by decide +kernel
theorem dX6_add_83 : decode cX6_add 83 = .ok (.invokespecial 94, 3) := by decide +kernel
theorem dX6_add_86 : decode cX6_add 86 = .ok (.athrow, 1) := by decide +kernel
theorem dX6_add_87 : decode cX6_add 87 = .ok (.aload_n 0, 1) := by decide +kernel
theorem dX6_add_88 : decode cX6_add 88 = .ok (.getfield 26, 3) := by decide +kernel
theorem dX6_add_91 : decode cX6_add 91 = .ok (.iload_n 1, 1) := by decide +kernel
theorem dX6_add_92 : decode cX6_add 92 = .ok (.iload_n 2, 1) := by decide +kernel
theorem dX6_add_93 : decode cX6_add 93 = .ok (.invokevirtual 138, 3) := by decide +kernel
theorem dX6_add_96 : decode cX6_add 96 = .ok (.ireturn, 1) := by decide +kernel
set_option maxRecDepth 20000 in
theorem ggX6_cut_X6_needDeck : GoodIn wsX6_cut wsX6_needDeck := goodIn_ca (goodIn_r _ [6, 7, 8, 1, 9, 22, 23, 24, 25, 26, 27, 28, 29, 30, 31, 32, 33, 34] (by decide +kernel) (by decide +kernel)) (goodIn_sub (fun _ h => List.mem_cons_of_mem _ (List.mem_append_right _ h)) (by decide +kernel))
set_option maxRecDepth 20000 in
theorem gX6_cut_X6_needDeck : GoodIn wsX6_cut (wsV RX6 110 RX6 yX6_needDeck wsX6_needDeck) := goodIn_app (goodIn_of _ (by decide +kernel)) ggX6_cut_X6_needDeck
set_option maxRecDepth 20000 in
theorem ggX6_cut_X6_needPlace : GoodIn wsX6_cut wsX6_needPlace := goodIn_ca (goodIn_r _ [13, 7, 8, 1, 14, 22, 23, 24, 25, 26, 27, 28, 29, 30, 31, 32, 33, 34] (by decide +kernel) (by decide +kernel)) (goodIn_sub (fun _ h => List.mem_cons_of_mem _ (List.mem_append_right _ h)) (by decide +kernel))
set_option maxRecDepth 20000 in
theorem gX6_cut_X6_needPlace : GoodIn wsX6_cut (wsV RX6 142 RX6 yX6_needPlace wsX6_needPlace) := goodIn_app (goodIn_of _ (by decide +kernel)) ggX6_cut_X6_needPlace
set_option maxRecDepth 20000 in
theorem ggX6_cut_X0_takeOut : GoodIn wsX6_cut wsX0_takeOut := goodIn_r _ [19, 20, 21, 29, 30, 31, 32, 33, 34] (by decide +kernel) (by decide +kernel)
set_option maxRecDepth 20000 in
theorem gX6_cut_X0_takeOut : GoodIn wsX6_cut (wsV RX6 146 RX0 yX0_takeOut wsX0_takeOut) := goodIn_app (goodIn_of _ (by decide +kernel)) ggX6_cut_X0_takeOut
theorem dX6_cut_0 : decode cX6_cut 0 = .ok (.aload_n 0, 1) := by decide +kernel
theorem dX6_cut_1 : decode cX6_cut 1 = .ok (.iload_n 1, 1) := by decide +kernel
theorem dX6_cut_2 : decode cX6_cut 2 = .ok (.invokevirtual 110, 3) := by decide +kernel
theorem dX6_cut_5 : decode cX6_cut 5 = .ok (.aload_n 0, 1) := by decide +kernel
theorem dX6_cut_6 : decode cX6_cut 6 = .ok (.iload_n 1, 1) := by decide +kernel
theorem dX6_cut_7 : decode cX6_cut 7 = .ok (.iload_n 2, 1) := by decide +kernel
theorem dX6_cut_8 : decode cX6_cut 8 = .ok (.invokevirtual 142, 3) := by decide +kernel
theorem dX6_cut_11 : decode cX6_cut 11 = .ok (.aload_n 0, 1) := by decide +kernel
theorem dX6_cut_12 : decode cX6_cut 12 = .ok (.getfield 26, 3) := by decide +kernel
theorem dX6_cut_15 : decode cX6_cut 15 = .ok (.iload_n 1, 1) := by decide +kernel
theorem dX6_cut_16 : decode cX6_cut 16 = .ok (.iload_n 2, 1) := by decide +kernel
theorem dX6_cut_17 : decode cX6_cut 17 = .ok (.invokevirtual 146, 3) := by decide +kernel
theorem dX6_cut_20 : decode cX6_cut 20 = .ok (.ireturn, 1) := by decide +kernel
set_option maxRecDepth 20000 in
theorem ggX6_play_X6_needDeck : GoodIn wsX6_play wsX6_needDeck := goodIn_ca (goodIn_r _ [13, 14, 15, 3, 16, 96, 97, 98, 99, 100, 101, 102, 103, 104, 105, 106, 107, 108] (by decide +kernel) (by decide +kernel)) (goodIn_sub (fun _ h => List.mem_cons_of_mem _ (List.mem_append_left _ (List.mem_append_right _ h))) (by decide +kernel))
set_option maxRecDepth 20000 in
theorem gX6_play_X6_needDeck : GoodIn wsX6_play (wsV RX6 110 RX6 yX6_needDeck wsX6_needDeck) := goodIn_app (goodIn_of _ (by decide +kernel)) ggX6_play_X6_needDeck
set_option maxRecDepth 20000 in
theorem ggX6_play_X6_needSeed : GoodIn wsX6_play wsX6_needSeed := goodIn_ca (goodIn_r _ [19, 1, 2] (by decide +kernel) (by decide +kernel)) (goodIn_sub (fun _ h => List.mem_cons_of_mem _ (List.mem_append_left _ (List.mem_append_left _ (List.mem_append_right _ h)))) (by decide +kernel))
set_option maxRecDepth 20000 in
theorem gX6_play_X6_needSeed : GoodIn wsX6_play (va_wsS RX6 149 yX6_needSeed wsX6_needSeed) := goodIn_app (goodIn_of _ (by decide +kernel)) ggX6_play_X6_needSeed
set_option maxRecDepth 20000 in
theorem ggX6_play_X6_needAllowed : GoodIn wsX6_play wsX6_needAllowed := goodIn_ca (goodIn_r _ [23, 24, 25, 3, 26, 27, 28, 29, 30, 31, 32, 33, 34, 35, 36, 37, 38, 39, 40, 41, 42, 43, 44, 45, 46, 47, 48, 49, 50, 51, 52, 53, 54, 55, 96, 97, 98, 99, 100, 101, 102, 103, 104, 105, 106, 107, 108, 112, 113, 114, 115, 116, 117, 118, 119, 120] (by decide +kernel) (by decide +kernel)) (goodIn_sub (fun _ h => List.mem_cons_of_mem _ (List.mem_append_right _ h)) (by decide +kernel))
set_option maxRecDepth 20000 in
theorem gX6_play_X6_needAllowed : GoodIn wsX6_play (wsV RX6 154 RX6 yX6_needAllowed wsX6_needAllowed) := goodIn_app (goodIn_of _ (by decide +kernel)) ggX6_play_X6_needAllowed
set_option maxRecDepth 20000 in
theorem ggX6_play_X5_start : GoodIn wsX6_play wsX5_start := goodIn_r _ [60, 61, 62, 63, 64, 65, 66, 67, 68, 69, 70, 71, 72, 73, 74, 75, 109, 110, 111, 103, 104, 105, 106, 107, 108, 121] (by decide +kernel) (by decide +kernel)
set_option maxRecDepth 20000 in
theorem gX6_play_X5_start : GoodIn wsX6_play (wsV RX6 157 RX5 yX5_start wsX5_start) := goodIn_app (goodIn_of _ (by decide +kernel)) ggX6_play_X5_start
set_option maxRecDepth 20000 in
theorem ggX6_play_X6_playRound : GoodIn wsX6_play wsX6_playRound := goodIn_r _ [79, 27, 80, 5, 81, 82, 6, 26, 83, 84, 85, 86, 87, 88, 59, 89, 63, 62, 96, 97, 98, 99, 100, 101, 102, 112, 113, 114, 115, 109, 110, 111, 121, 116, 117, 118, 119, 120] (by decide +kernel) (by decide +kernel)
set_option maxRecDepth 20000 in
theorem gX6_play_X6_playRound : GoodIn wsX6_play (wsV RX6 161 RX6 yX6_playRound wsX6_playRound) := goodIn_app (goodIn_of _ (by decide +kernel)) ggX6_play_X6_playRound
set_option maxRecDepth 20000 in
theorem ggX6_play_X6_giveWins : GoodIn wsX6_play wsX6_giveWins := goodIn_r _ [93, 3, 27, 26, 94, 95, 42, 43, 31, 44, 45, 46, 47, 48, 33, 36, 35, 49, 50, 51, 52, 53, 54, 55, 96, 97, 98, 99, 100, 101, 102, 116, 117, 118, 119, 120, 103, 104, 105, 106, 107, 108, 112, 113, 114, 115] (by decide +kernel) (by decide +kernel)
set_option maxRecDepth 20000 in
theorem gX6_play_X6_giveWins : GoodIn wsX6_play (wsV RX6 167 RX6 yX6_giveWins wsX6_giveWins) := goodIn_app (goodIn_of _ (by decide +kernel)) ggX6_play_X6_giveWins
theorem dX6_play_0 : decode cX6_play 0 = .ok (.aload_n 0, 1) := by decide +kernel
theorem dX6_play_1 : decode cX6_play 1 = .ok (.iload_n 1, 1) := by decide +kernel
theorem dX6_play_2 : decode cX6_play 2 = .ok (.invokevirtual 110, 3) := by decide +kernel
theorem dX6_play_5 : decode cX6_play 5 = .ok (.aload_n 0, 1) := by decide +kernel
theorem dX6_play_6 : decode cX6_play 6 = .ok (.iload_n 2, 1) := by decide +kernel
theorem dX6_play_7 : decode cX6_play 7 = .ok (.invokevirtual 110, 3) := by decide +kernel
theorem dX6_play_10 : decode cX6_play 10 = .ok (.iload_n 3, 1) := by decide +kernel
theorem dX6_play_11 : decode cX6_play 11 = .ok (.invokestatic 149, 3) := by decide +kernel
theorem dX6_play_14 : decode cX6_play 14 = .ok (.iload 4, 2) := by decide +kernel
theorem dX6_play_16 : decode cX6_play 16 = .ok (.invokestatic 149, 3) := by decide +kernel
theorem dX6_play_19 : decode cX6_play 19 = .ok (.aload_n 0, 1) := by decide +kernel
theorem dX6_play_20 : decode cX6_play 20 = .ok (.getfield 26, 3) := by decide +kernel
theorem dX6_play_23 : decode cX6_play 23 = .ok (.getfield 119, 3) := by decide +kernel
theorem dX6_play_26 : decode cX6_play 26 = .ok (.iload_n 1, 1) := by decide +kernel
theorem dX6_play_27 : decode cX6_play 27 = .ok (.iaload, 1) := by decide +kernel
theorem dX6_play_28 : decode cX6_play 28 = .ok (.aload_n 0, 1) := by decide +kernel
theorem dX6_play_29 : decode cX6_play 29 = .ok (.getfield 26, 3) := by decide +kernel
theorem dX6_play_32 : decode cX6_play 32 = .ok (.getfield 119, 3) := by decide +kernel
theorem dX6_play_35 : decode cX6_play 35 = .ok (.iload_n 2, 1) := by decide +kernel
theorem dX6_play_36 : decode cX6_play 36 = .ok (.iaload, 1) := by decide +kernel
theorem dX6_play_37 : decode cX6_play 37 = .ok (.if_icmp .ne 13, 3) := by decide +kernel
theorem dX6_play_40 : decode cX6_play 40 = .ok (.new 122, 3) := by decide +kernel
theorem dX6_play_43 : decode cX6_play 43 = .ok (.dup, 1) := by decide +kernel
theorem dX6_play_44 : decode cX6_play 44 = .ok (.ldc 152, 2) := by decide +kernel
theorem dX6_play_46 : decode cX6_play 46 = .ok (.invokespecial 126, 3) := by decide +kernel
theorem dX6_play_49 : decode cX6_play 49 = .ok (.athrow, 1) := by decide +kernel
theorem dX6_play_50 : decode cX6_play 50 = .ok (.aload_n 0, 1) := by decide +kernel
theorem dX6_play_51 : decode cX6_play 51 = .ok (.iload_n 1, 1) := by decide +kernel
theorem dX6_play_52 : decode cX6_play 52 = .ok (.invokevirtual 154, 3) := by decide +kernel
theorem dX6_play_55 : decode cX6_play 55 = .ok (.aload_n 0, 1) := by decide +kernel
theorem dX6_play_56 : decode cX6_play 56 = .ok (.iload_n 2, 1) := by decide +kernel
theorem dX6_play_57 : decode cX6_play 57 = .ok (.invokevirtual 154, 3) := by decide +kernel
theorem dX6_play_60 : decode cX6_play 60 = .ok (.aload_n 0, 1) := by decide +kernel
theorem dX6_play_61 : decode cX6_play 61 = .ok (.getfield 47, 3) := by decide +kernel
theorem dX6_play_64 : decode cX6_play 64 = .ok (.aload_n 0, 1) := by decide +kernel
theorem dX6_play_65 : decode cX6_play 65 = .ok (.getfield 26, 3) := by decide +kernel
theorem dX6_play_68 : decode cX6_play 68 = .ok (.iload_n 1, 1) := by decide +kernel
theorem dX6_play_69 : decode cX6_play 69 = .ok (.iload_n 3, 1) := by decide +kernel
theorem dX6_play_70 : decode cX6_play 70 = .ok (.invokevirtual 157, 3) := by decide +kernel
theorem dX6_play_73 : decode cX6_play 73 = .ok (.aload_n 0, 1) := by decide +kernel
theorem dX6_play_74 : decode cX6_play 74 = .ok (.getfield 51, 3) := by decide +kernel
theorem dX6_play_77 : decode cX6_play 77 = .ok (.aload_n 0, 1) := by decide +kernel
theorem dX6_play_78 : decode cX6_play 78 = .ok (.getfield 26, 3) := by decide +kernel
theorem dX6_play_81 : decode cX6_play 81 = .ok (.iload_n 2, 1) := by decide +kernel
theorem dX6_play_82 : decode cX6_play 82 = .ok (.iload 4, 2) := by decide +kernel
theorem dX6_play_84 : decode cX6_play 84 = .ok (.invokevirtual 157, 3) := by decide +kernel
theorem dX6_play_87 : decode cX6_play 87 = .ok (.iconst 0, 1) := by decide +kernel
theorem dX6_play_88 : decode cX6_play 88 = .ok (.istore 5, 2) := by decide +kernel
theorem dX6_play_90 : decode cX6_play 90 = .ok (.iload 5, 2) := by decide +kernel
theorem dX6_play_92 : decode cX6_play 92 = .ok (.aload_n 0, 1) := by decide +kernel
theorem dX6_play_93 : decode cX6_play 93 = .ok (.getfield 26, 3) := by decide +kernel
theorem dX6_play_96 : decode cX6_play 96 = .ok (.getfield 69, 3) := by decide +kernel
theorem dX6_play_99 : decode cX6_play 99 = .ok (.if_icmp .ge 15, 3) := by decide +kernel
theorem dX6_play_102 : decode cX6_play 102 = .ok (.aload_n 0, 1) := by decide +kernel
theorem dX6_play_103 : decode cX6_play 103 = .ok (.iload 5, 2) := by decide +kernel
theorem dX6_play_105 : decode cX6_play 105 = .ok (.invokevirtual 161, 3) := by decide +kernel
theorem dX6_play_108 : decode cX6_play 108 = .ok (.iinc 5 1, 3) := by decide +kernel
theorem dX6_play_111 : decode cX6_play 111 = .ok (.goto (-21), 3) := by decide +kernel
theorem dX6_play_114 : decode cX6_play 114 = .ok (.aload_n 0, 1) := by decide +kernel
theorem dX6_play_115 : decode cX6_play 115 = .ok (.getfield 47, 3) := by decide +kernel
theorem dX6_play_118 : decode cX6_play 118 = .ok (.getfield 164, 3) := by decide +kernel
theorem dX6_play_121 : decode cX6_play 121 = .ok (.aload_n 0, 1) := by decide +kernel
theorem dX6_play_122 : decode cX6_play 122 = .ok (.getfield 51, 3) := by decide +kernel
theorem dX6_play_125 : decode cX6_play 125 = .ok (.getfield 164, 3) := by decide +kernel
theorem dX6_play_128 : decode cX6_play 128 = .ok (.isub, 1) := by decide +kernel
theorem dX6_play_129 : decode cX6_play 129 = .ok (.istore 5, 2) := by decide +kernel
theorem dX6_play_131 : decode cX6_play 131 = .ok (.iload 5, 2) := by decide +kernel
theorem dX6_play_133 : decode cX6_play 133 = .ok (.ifCond .le 8, 3) := by decide +kernel
theorem dX6_play_136 : decode cX6_play 136 = .ok (.aload_n 0, 1) := by decide +kernel
theorem dX6_play_137 : decode cX6_play 137 = .ok (.iload_n 1, 1) := by decide +kernel
theorem dX6_play_138 : decode cX6_play 138 = .ok (.invokevirtual 167, 3) := by decide +kernel
theorem dX6_play_141 : decode cX6_play 141 = .ok (.iload 5, 2) := by decide +kernel
theorem dX6_play_143 : decode cX6_play 143 = .ok (.ifCond .ge 8, 3) := by decide +kernel
theorem dX6_play_146 : decode cX6_play 146 = .ok (.aload_n 0, 1) := by decide +kernel
theorem dX6_play_147 : decode cX6_play 147 = .ok (.iload_n 2, 1) := by decide +kernel
theorem dX6_play_148 : decode cX6_play 148 = .ok (.invokevirtual 167, 3) := by decide +kernel
theorem dX6_play_151 : decode cX6_play 151 = .ok (.iload 5, 2) := by decide +kernel
theorem dX6_play_153 : decode cX6_play 153 = .ok (.ireturn, 1) := by decide +kernel
set_option maxRecDepth 20000 in
theorem ggX6_offer_X6_needCard : GoodIn wsX6_offer wsX6_needCard := goodIn_ca (goodIn_r _ [13, 14, 15, 5, 16, 37, 38, 39, 40, 41, 42, 43, 44, 45, 46, 47] (by decide +kernel) (by decide +kernel)) (goodIn_sub (fun _ h => List.mem_cons_of_mem _ (List.mem_append_right _ h)) (by decide +kernel))
set_option maxRecDepth 20000 in
theorem gX6_offer_X6_needCard : GoodIn wsX6_offer (wsV RX6 113 RX6 yX6_needCard wsX6_needCard) := goodIn_app (goodIn_of _ (by decide +kernel)) ggX6_offer_X6_needCard
set_option maxRecDepth 20000 in
theorem ggX6_offer_X6_needKind : GoodIn wsX6_offer wsX6_needKind := goodIn_ca (goodIn_r _ [19, 14, 15] (by decide +kernel) (by decide +kernel)) (goodIn_sub (fun _ h => List.mem_cons_of_mem _ (List.mem_append_right _ h)) (by decide +kernel))
set_option maxRecDepth 20000 in
theorem gX6_offer_X6_needKind : GoodIn wsX6_offer (va_wsS RX6 54 yX6_needKind wsX6_needKind) := goodIn_app (goodIn_of _ (by decide +kernel)) ggX6_offer_X6_needKind
set_option maxRecDepth 20000 in
theorem ggX6_offer_X2_hasLive : GoodIn wsX6_offer wsX2_hasLive := goodIn_r _ [24, 25, 26, 27, 48, 49, 50, 51, 52, 53, 54] (by decide +kernel) (by decide +kernel)
set_option maxRecDepth 20000 in
theorem gX6_offer_X2_hasLive : GoodIn wsX6_offer (wsV RX6 175 RX2 yX2_hasLive wsX2_hasLive) := goodIn_app (goodIn_of _ (by decide +kernel)) ggX6_offer_X2_hasLive
set_option maxRecDepth 20000 in
theorem ggX6_offer_X2_append : GoodIn wsX6_offer wsX2_append := goodIn_r _ [31, 25, 27, 32, 33, 34, 35, 36, 26, 48, 49, 50, 51, 52, 53, 54, 44, 45, 46, 47] (by decide +kernel) (by decide +kernel)
set_option maxRecDepth 20000 in
theorem gX6_offer_X2_append : GoodIn wsX6_offer (wsV RX6 184 RX2 yX2_append wsX2_append) := goodIn_app (goodIn_of _ (by decide +kernel)) ggX6_offer_X2_append
theorem dX6_offer_0 : decode cX6_offer 0 = .ok (.aload_n 0, 1) := by decide +kernel
theorem dX6_offer_1 : decode cX6_offer 1 = .ok (.iload_n 1, 1) := by decide +kernel
theorem dX6_offer_2 : decode cX6_offer 2 = .ok (.invokevirtual 113, 3) := by decide +kernel
theorem dX6_offer_5 : decode cX6_offer 5 = .ok (.iload_n 2, 1) := by decide +kernel
theorem dX6_offer_6 : decode cX6_offer 6 = .ok (.invokestatic 54, 3) := by decide +kernel
theorem dX6_offer_9 : decode cX6_offer 9 = .ok (.aload_n 0, 1) := by decide +kernel
theorem dX6_offer_10 : decode cX6_offer 10 = .ok (.getfield 19, 3) := by decide +kernel
theorem dX6_offer_13 : decode cX6_offer 13 = .ok (.getfield 170, 3) := by decide +kernel
theorem dX6_offer_16 : decode cX6_offer 16 = .ok (.iload_n 1, 1) := by decide +kernel
theorem dX6_offer_17 : decode cX6_offer 17 = .ok (.iaload, 1) := by decide +kernel
theorem dX6_offer_18 : decode cX6_offer 18 = .ok (.iload_n 2, 1) := by decide +kernel
theorem dX6_offer_19 : decode cX6_offer 19 = .ok (.if_icmp .ne 13, 3) := by decide +kernel
theorem dX6_offer_22 : decode cX6_offer 22 = .ok (.new 122, 3) := by decide +kernel
theorem dX6_offer_25 : decode cX6_offer 25 = .ok (.dup, 1) := by decide +kernel
theorem dX6_offer_26 : decode cX6_offer 26 = .ok (.ldc 173, 2) := by decide +kernel
theorem dX6_offer_28 : decode cX6_offer 28 = .ok (.invokespecial 126, 3) := by decide +kernel
theorem dX6_offer_31 : decode cX6_offer 31 = .ok (.athrow, 1) := by decide +kernel
theorem dX6_offer_32 : decode cX6_offer 32 = .ok (.aload_n 0, 1) := by decide +kernel
theorem dX6_offer_33 : decode cX6_offer 33 = .ok (.getfield 33, 3) := by decide +kernel
theorem dX6_offer_36 : decode cX6_offer 36 = .ok (.iload_n 1, 1) := by decide +kernel
theorem dX6_offer_37 : decode cX6_offer 37 = .ok (.invokevirtual 175, 3) := by decide +kernel
theorem dX6_offer_40 : decode cX6_offer 40 = .ok (.ifCond .eq 13, 3) := by decide +kernel
theorem dX6_offer_43 : decode cX6_offer 43 = .ok (.new 90, 3) := by decide +kernel
theorem dX6_offer_46 : decode cX6_offer 46 = .ok (.dup, 1) := by decide +kernel
theorem dX6_offer_47 : decode cX6_offer 47 = .ok (.ldc 179, 2) := by decide +kernel
theorem dX6_offer_49 : decode cX6_offer 49 = .ok (.invokespecial 94, 3) := by decide +kernel
theorem dX6_offer_52 : decode cX6_offer 52 = .ok (.athrow, 1) := by decide +kernel
theorem dX6_offer_53 : decode cX6_offer 53 = .ok (.aload_n 0, 1) := by decide +kernel
theorem dX6_offer_54 : decode cX6_offer 54 = .ok (.getfield 33, 3) := by decide +kernel
theorem dX6_offer_57 : decode cX6_offer 57 = .ok (.getfield 181, 3) := by decide +kernel
theorem dX6_offer_60 : decode cX6_offer 60 = .ok (.bipush 40, 2) := by decide +kernel
theorem dX6_offer_62 : decode cX6_offer 62 = .ok (.if_icmp .lt 13, 3) := by decide +kernel
theorem dX6_offer_65 : decode cX6_offer 65 = .ok (.new 90, 3) := by decide +kernel
theorem dX6_offer_68 : decode cX6_offer 68 = .ok (.dup, 1) := by decide +kernel
theorem dX6_offer_69 : decode cX6_offer 69 = .ok (.ldc 182, 2) := by decide +kernel
theorem dX6_offer_71 : decode cX6_offer 71 = .ok (.invokespecial 94, 3) := by decide +kernel
theorem dX6_offer_74 : decode cX6_offer 74 = .ok (.athrow, 1) := by decide +kernel
theorem dX6_offer_75 : decode cX6_offer 75 = .ok (.aload_n 0, 1) := by decide +kernel
theorem dX6_offer_76 : decode cX6_offer 76 = .ok (.getfield 33, 3) := by decide +kernel
theorem dX6_offer_79 : decode cX6_offer 79 = .ok (.iload_n 1, 1) := by decide +kernel
theorem dX6_offer_80 : decode cX6_offer 80 = .ok (.iload_n 2, 1) := by decide +kernel
theorem dX6_offer_81 : decode cX6_offer 81 = .ok (.aload_n 0, 1) := by decide +kernel
theorem dX6_offer_82 : decode cX6_offer 82 = .ok (.getfield 19, 3) := by decide +kernel
theorem dX6_offer_85 : decode cX6_offer 85 = .ok (.invokevirtual 184, 3) := by decide +kernel
theorem dX6_offer_88 : decode cX6_offer 88 = .ok (.ireturn, 1) := by decide +kernel
set_option maxRecDepth 20000 in
theorem ggX6_takeBack_X6_needOffer : GoodIn wsX6_takeBack wsX6_needOffer := goodIn_ca (goodIn_r _ [10, 11, 12, 3, 13, 14, 15, 16, 17, 18, 19, 20, 21, 22, 23, 24, 25, 26, 27] (by decide +kernel) (by decide +kernel)) (goodIn_sub (fun _ h => List.mem_cons_of_mem _ (List.mem_append_right _ h)) (by decide +kernel))
set_option maxRecDepth 20000 in
theorem gX6_takeBack_X6_needOffer : GoodIn wsX6_takeBack (wsV RX6 187 RX6 yX6_needOffer wsX6_needOffer) := goodIn_app (goodIn_of _ (by decide +kernel)) ggX6_takeBack_X6_needOffer
theorem dX6_takeBack_0 : decode cX6_takeBack 0 = .ok (.aload_n 0, 1) := by decide +kernel
theorem dX6_takeBack_1 : decode cX6_takeBack 1 = .ok (.iload_n 1, 1) := by decide +kernel
theorem dX6_takeBack_2 : decode cX6_takeBack 2 = .ok (.invokevirtual 187, 3) := by decide +kernel
theorem dX6_takeBack_5 : decode cX6_takeBack 5 = .ok (.aload_n 0, 1) := by decide +kernel
theorem dX6_takeBack_6 : decode cX6_takeBack 6 = .ok (.getfield 33, 3) := by decide +kernel
theorem dX6_takeBack_9 : decode cX6_takeBack 9 = .ok (.getfield 190, 3) := by decide +kernel
theorem dX6_takeBack_12 : decode cX6_takeBack 12 = .ok (.iload_n 1, 1) := by decide +kernel
theorem dX6_takeBack_13 : decode cX6_takeBack 13 = .ok (.baload, 1) := by decide +kernel
theorem dX6_takeBack_14 : decode cX6_takeBack 14 = .ok (.ifCond .ne 13, 3) := by decide +kernel
theorem dX6_takeBack_17 : decode cX6_takeBack 17 = .ok (.new 90, 3) := by decide +kernel
theorem dX6_takeBack_20 : decode cX6_takeBack 20 = .ok (.dup, 1) := by decide +kernel
theorem dX6_takeBack_21 : decode cX6_takeBack 21 = .ok (.ldc 193, 2) := by decide +kernel
theorem dX6_takeBack_23 : decode cX6_takeBack 23 = .ok (.invokespecial 94, 3) := by decide +kernel
theorem dX6_takeBack_26 : decode cX6_takeBack 26 = .ok (.athrow, 1) := by decide +kernel
theorem dX6_takeBack_27 : decode cX6_takeBack 27 = .ok (.aload_n 0, 1) := by decide +kernel
theorem dX6_takeBack_28 : decode cX6_takeBack 28 = .ok (.getfield 33, 3) := by decide +kernel
theorem dX6_takeBack_31 : decode cX6_takeBack 31 = .ok (.getfield 190, 3) := by decide +kernel
theorem dX6_takeBack_34 : decode cX6_takeBack 34 = .ok (.iload_n 1, 1) := by decide +kernel
theorem dX6_takeBack_35 : decode cX6_takeBack 35 = .ok (.iconst 0, 1) := by decide +kernel
theorem dX6_takeBack_36 : decode cX6_takeBack 36 = .ok (.bastore, 1) := by decide +kernel
theorem dX6_takeBack_37 : decode cX6_takeBack 37 = .ok (.aload_n 0, 1) := by decide +kernel
theorem dX6_takeBack_38 : decode cX6_takeBack 38 = .ok (.getfield 33, 3) := by decide +kernel
theorem dX6_takeBack_41 : decode cX6_takeBack 41 = .ok (.getfield 195, 3) := by decide +kernel
theorem dX6_takeBack_44 : decode cX6_takeBack 44 = .ok (.iload_n 1, 1) := by decide +kernel
theorem dX6_takeBack_45 : decode cX6_takeBack 45 = .ok (.iaload, 1) := by decide +kernel
theorem dX6_takeBack_46 : decode cX6_takeBack 46 = .ok (.ireturn, 1) := by decide +kernel
set_option maxRecDepth 20000 in
theorem ggX6_trade_X2_findRing : GoodIn wsX6_trade wsX2_findRing := goodIn_r _ [12, 13, 14, 15, 16, 17, 11, 18, 19, 20, 21, 22, 23, 24, 25, 26, 27, 28, 29, 37, 38, 39, 40, 41, 42, 43] (by decide +kernel) (by decide +kernel)
set_option maxRecDepth 20000 in
theorem gX6_trade_X2_findRing : GoodIn wsX6_trade (wsV RX6 198 RX2 yX2_findRing wsX2_findRing) := goodIn_app (goodIn_of _ (by decide +kernel)) ggX6_trade_X2_findRing
theorem dX6_trade_0 : decode cX6_trade 0 = .ok (.aload_n 0, 1) := by decide +kernel
theorem dX6_trade_1 : decode cX6_trade 1 = .ok (.getfield 33, 3) := by decide +kernel
theorem dX6_trade_4 : decode cX6_trade 4 = .ok (.invokevirtual 198, 3) := by decide +kernel
theorem dX6_trade_7 : decode cX6_trade 7 = .ok (.istore_n 1, 1) := by decide +kernel
theorem dX6_trade_8 : decode cX6_trade 8 = .ok (.iconst 0, 1) := by decide +kernel
theorem dX6_trade_9 : decode cX6_trade 9 = .ok (.istore_n 2, 1) := by decide +kernel
theorem dX6_trade_10 : decode cX6_trade 10 = .ok (.iload_n 2, 1) := by decide +kernel
theorem dX6_trade_11 : decode cX6_trade 11 = .ok (.iload_n 1, 1) := by decide +kernel
theorem dX6_trade_12 : decode cX6_trade 12 = .ok (.if_icmp .ge 80, 3) := by decide +kernel
theorem dX6_trade_15 : decode cX6_trade 15 = .ok (.aload_n 0, 1) := by decide +kernel
theorem dX6_trade_16 : decode cX6_trade 16 = .ok (.getfield 33, 3) := by decide +kernel
theorem dX6_trade_19 : decode cX6_trade 19 = .ok (.getfield 202, 3) := by decide +kernel
theorem dX6_trade_22 : decode cX6_trade 22 = .ok (.iload_n 2, 1) := by decide +kernel
theorem dX6_trade_23 : decode cX6_trade 23 = .ok (.iaload, 1) := by decide +kernel
theorem dX6_trade_24 : decode cX6_trade 24 = .ok (.istore_n 3, 1) := by decide +kernel
theorem dX6_trade_25 : decode cX6_trade 25 = .ok (.aload_n 0, 1) := by decide +kernel
theorem dX6_trade_26 : decode cX6_trade 26 = .ok (.getfield 33, 3) := by decide +kernel
theorem dX6_trade_29 : decode cX6_trade 29 = .ok (.getfield 202, 3) := by decide +kernel
theorem dX6_trade_32 : decode cX6_trade 32 = .ok (.iload_n 2, 1) := by decide +kernel
theorem dX6_trade_33 : decode cX6_trade 33 = .ok (.iconst 1, 1) := by decide +kernel
theorem dX6_trade_34 : decode cX6_trade 34 = .ok (.iadd, 1) := by decide +kernel
theorem dX6_trade_35 : decode cX6_trade 35 = .ok (.iload_n 1, 1) := by decide +kernel
theorem dX6_trade_36 : decode cX6_trade 36 = .ok (.if_icmp .ge 9, 3) := by decide +kernel
theorem dX6_trade_39 : decode cX6_trade 39 = .ok (.iload_n 2, 1) := by decide +kernel
theorem dX6_trade_40 : decode cX6_trade 40 = .ok (.iconst 1, 1) := by decide +kernel
theorem dX6_trade_41 : decode cX6_trade 41 = .ok (.iadd, 1) := by decide +kernel
theorem dX6_trade_42 : decode cX6_trade 42 = .ok (.goto 4, 3) := by decide +kernel
theorem dX6_trade_45 : decode cX6_trade 45 = .ok (.iconst 0, 1) := by decide +kernel
theorem dX6_trade_46 : decode cX6_trade 46 = .ok (.iaload, 1) := by decide +kernel
theorem dX6_trade_47 : decode cX6_trade 47 = .ok (.istore 4, 2) := by decide +kernel
theorem dX6_trade_49 : decode cX6_trade 49 = .ok (.aload_n 0, 1) := by decide +kernel
theorem dX6_trade_50 : decode cX6_trade 50 = .ok (.getfield 19, 3) := by decide +kernel
theorem dX6_trade_53 : decode cX6_trade 53 = .ok (.getfield 116, 3) := by decide +kernel
theorem dX6_trade_56 : decode cX6_trade 56 = .ok (.aload_n 0, 1) := by decide +kernel
theorem dX6_trade_57 : decode cX6_trade 57 = .ok (.getfield 33, 3) := by decide +kernel
theorem dX6_trade_60 : decode cX6_trade 60 = .ok (.getfield 195, 3) := by decide +kernel
theorem dX6_trade_63 : decode cX6_trade 63 = .ok (.iload_n 3, 1) := by decide +kernel
theorem dX6_trade_64 : decode cX6_trade 64 = .ok (.iaload, 1) := by decide +kernel
theorem dX6_trade_65 : decode cX6_trade 65 = .ok (.aload_n 0, 1) := by decide +kernel
theorem dX6_trade_66 : decode cX6_trade 66 = .ok (.getfield 33, 3) := by decide +kernel
theorem dX6_trade_69 : decode cX6_trade 69 = .ok (.getfield 205, 3) := by decide +kernel
theorem dX6_trade_72 : decode cX6_trade 72 = .ok (.iload 4, 2) := by decide +kernel
theorem dX6_trade_74 : decode cX6_trade 74 = .ok (.iaload, 1) := by decide +kernel
theorem dX6_trade_75 : decode cX6_trade 75 = .ok (.iastore, 1) := by decide +kernel
theorem dX6_trade_76 : decode cX6_trade 76 = .ok (.aload_n 0, 1) := by decide +kernel
theorem dX6_trade_77 : decode cX6_trade 77 = .ok (.getfield 33, 3) := by decide +kernel
theorem dX6_trade_80 : decode cX6_trade 80 = .ok (.getfield 190, 3) := by decide +kernel
theorem dX6_trade_83 : decode cX6_trade 83 = .ok (.iload_n 3, 1) := by decide +kernel
theorem dX6_trade_84 : decode cX6_trade 84 = .ok (.iconst 0, 1) := by decide +kernel
theorem dX6_trade_85 : decode cX6_trade 85 = .ok (.bastore, 1) := by decide +kernel
theorem dX6_trade_86 : decode cX6_trade 86 = .ok (.iinc 2 1, 3) := by decide +kernel
theorem dX6_trade_89 : decode cX6_trade 89 = .ok (.goto (-79), 3) := by decide +kernel
theorem dX6_trade_92 : decode cX6_trade 92 = .ok (.iload_n 1, 1) := by decide +kernel
theorem dX6_trade_93 : decode cX6_trade 93 = .ok (.ireturn, 1) := by decide +kernel
theorem dX6_cards_0 : decode cX6_cards 0 = .ok (.aload_n 0, 1) := by decide +kernel
theorem dX6_cards_1 : decode cX6_cards 1 = .ok (.getfield 19, 3) := by decide +kernel
theorem dX6_cards_4 : decode cX6_cards 4 = .ok (.getfield 87, 3) := by decide +kernel
theorem dX6_cards_7 : decode cX6_cards 7 = .ok (.ireturn, 1) := by decide +kernel
set_option maxRecDepth 20000 in
theorem ggX6_printOf_X6_needCard : GoodIn wsX6_printOf wsX6_needCard := goodIn_ca (goodIn_r _ [8, 9, 10, 1, 11, 12, 13, 14, 15, 16, 17, 18, 19, 20, 21, 22] (by decide +kernel) (by decide +kernel)) (goodIn_sub (fun _ h => List.mem_cons_of_mem _ (List.mem_append_right _ h)) (by decide +kernel))
set_option maxRecDepth 20000 in
theorem gX6_printOf_X6_needCard : GoodIn wsX6_printOf (wsV RX6 113 RX6 yX6_needCard wsX6_needCard) := goodIn_app (goodIn_of _ (by decide +kernel)) ggX6_printOf_X6_needCard
theorem dX6_printOf_0 : decode cX6_printOf 0 = .ok (.aload_n 0, 1) := by decide +kernel
theorem dX6_printOf_1 : decode cX6_printOf 1 = .ok (.iload_n 1, 1) := by decide +kernel
theorem dX6_printOf_2 : decode cX6_printOf 2 = .ok (.invokevirtual 113, 3) := by decide +kernel
theorem dX6_printOf_5 : decode cX6_printOf 5 = .ok (.bipush 100, 2) := by decide +kernel
theorem dX6_printOf_7 : decode cX6_printOf 7 = .ok (.aload_n 0, 1) := by decide +kernel
theorem dX6_printOf_8 : decode cX6_printOf 8 = .ok (.getfield 19, 3) := by decide +kernel
theorem dX6_printOf_11 : decode cX6_printOf 11 = .ok (.getfield 170, 3) := by decide +kernel
theorem dX6_printOf_14 : decode cX6_printOf 14 = .ok (.iload_n 1, 1) := by decide +kernel
theorem dX6_printOf_15 : decode cX6_printOf 15 = .ok (.iaload, 1) := by decide +kernel
theorem dX6_printOf_16 : decode cX6_printOf 16 = .ok (.imul, 1) := by decide +kernel
theorem dX6_printOf_17 : decode cX6_printOf 17 = .ok (.aload_n 0, 1) := by decide +kernel
theorem dX6_printOf_18 : decode cX6_printOf 18 = .ok (.getfield 19, 3) := by decide +kernel
theorem dX6_printOf_21 : decode cX6_printOf 21 = .ok (.getfield 206, 3) := by decide +kernel
theorem dX6_printOf_24 : decode cX6_printOf 24 = .ok (.iload_n 1, 1) := by decide +kernel
theorem dX6_printOf_25 : decode cX6_printOf 25 = .ok (.iaload, 1) := by decide +kernel
theorem dX6_printOf_26 : decode cX6_printOf 26 = .ok (.iadd, 1) := by decide +kernel
theorem dX6_printOf_27 : decode cX6_printOf 27 = .ok (.ireturn, 1) := by decide +kernel
set_option maxRecDepth 20000 in
theorem ggX6_collectorOf_X6_needCard : GoodIn wsX6_collectorOf wsX6_needCard := goodIn_ca (goodIn_r _ [7, 8, 9, 1, 10, 11, 12, 13, 14, 15, 16, 17, 18, 19, 20, 21] (by decide +kernel) (by decide +kernel)) (goodIn_sub (fun _ h => List.mem_cons_of_mem _ (List.mem_append_right _ h)) (by decide +kernel))
set_option maxRecDepth 20000 in
theorem gX6_collectorOf_X6_needCard : GoodIn wsX6_collectorOf (wsV RX6 113 RX6 yX6_needCard wsX6_needCard) := goodIn_app (goodIn_of _ (by decide +kernel)) ggX6_collectorOf_X6_needCard
theorem dX6_collectorOf_0 : decode cX6_collectorOf 0 = .ok (.aload_n 0, 1) := by decide +kernel
theorem dX6_collectorOf_1 : decode cX6_collectorOf 1 = .ok (.iload_n 1, 1) := by decide +kernel
theorem dX6_collectorOf_2 : decode cX6_collectorOf 2 = .ok (.invokevirtual 113, 3) := by decide +kernel
theorem dX6_collectorOf_5 : decode cX6_collectorOf 5 = .ok (.aload_n 0, 1) := by decide +kernel
theorem dX6_collectorOf_6 : decode cX6_collectorOf 6 = .ok (.getfield 19, 3) := by decide +kernel
theorem dX6_collectorOf_9 : decode cX6_collectorOf 9 = .ok (.getfield 116, 3) := by decide +kernel
theorem dX6_collectorOf_12 : decode cX6_collectorOf 12 = .ok (.iload_n 1, 1) := by decide +kernel
theorem dX6_collectorOf_13 : decode cX6_collectorOf 13 = .ok (.iaload, 1) := by decide +kernel
theorem dX6_collectorOf_14 : decode cX6_collectorOf 14 = .ok (.ireturn, 1) := by decide +kernel
set_option maxRecDepth 20000 in
theorem ggX6_has_X6_needCollector : GoodIn wsX6_has wsX6_needCollector := goodIn_ca (goodIn_r _ [5, 6, 7] (by decide +kernel) (by decide +kernel)) (goodIn_sub (fun _ h => List.mem_cons_of_mem _ (List.mem_append_right _ h)) (by decide +kernel))
set_option maxRecDepth 20000 in
theorem gX6_has_X6_needCollector : GoodIn wsX6_has (va_wsS RX6 84 yX6_needCollector wsX6_needCollector) := goodIn_app (goodIn_of _ (by decide +kernel)) ggX6_has_X6_needCollector
set_option maxRecDepth 20000 in
theorem ggX6_has_X6_needKind : GoodIn wsX6_has wsX6_needKind := goodIn_ca (goodIn_r _ [10, 6, 7] (by decide +kernel) (by decide +kernel)) (goodIn_sub (fun _ h => List.mem_cons_of_mem _ (List.mem_append_right _ h)) (by decide +kernel))
set_option maxRecDepth 20000 in
theorem gX6_has_X6_needKind : GoodIn wsX6_has (va_wsS RX6 54 yX6_needKind wsX6_needKind) := goodIn_app (goodIn_of _ (by decide +kernel)) ggX6_has_X6_needKind
set_option maxRecDepth 20000 in
theorem ggX6_has_X4_countOf : GoodIn wsX6_has wsX4_countOf := goodIn_r _ [15, 16, 17, 18, 26, 27, 28, 29] (by decide +kernel) (by decide +kernel)
set_option maxRecDepth 20000 in
theorem gX6_has_X4_countOf : GoodIn wsX6_has (wsV RX6 209 RX4 yX4_countOf wsX4_countOf) := goodIn_app (goodIn_of _ (by decide +kernel)) ggX6_has_X4_countOf
theorem dX6_has_0 : decode cX6_has 0 = .ok (.iload_n 1, 1) := by decide +kernel
theorem dX6_has_1 : decode cX6_has 1 = .ok (.invokestatic 84, 3) := by decide +kernel
theorem dX6_has_4 : decode cX6_has 4 = .ok (.iload_n 2, 1) := by decide +kernel
theorem dX6_has_5 : decode cX6_has 5 = .ok (.invokestatic 54, 3) := by decide +kernel
theorem dX6_has_8 : decode cX6_has 8 = .ok (.aload_n 0, 1) := by decide +kernel
theorem dX6_has_9 : decode cX6_has 9 = .ok (.getfield 19, 3) := by decide +kernel
theorem dX6_has_12 : decode cX6_has 12 = .ok (.iload_n 1, 1) := by decide +kernel
theorem dX6_has_13 : decode cX6_has 13 = .ok (.iload_n 2, 1) := by decide +kernel
theorem dX6_has_14 : decode cX6_has 14 = .ok (.invokevirtual 209, 3) := by decide +kernel
theorem dX6_has_17 : decode cX6_has 17 = .ok (.ireturn, 1) := by decide +kernel
set_option maxRecDepth 20000 in
theorem ggX6_wins_X6_needKind : GoodIn wsX6_wins wsX6_needKind := goodIn_ca (goodIn_r _ [6, 7, 8] (by decide +kernel) (by decide +kernel)) (goodIn_sub (fun _ h => List.mem_cons_of_mem _ (List.mem_append_right _ h)) (by decide +kernel))
set_option maxRecDepth 20000 in
theorem gX6_wins_X6_needKind : GoodIn wsX6_wins (va_wsS RX6 54 yX6_needKind wsX6_needKind) := goodIn_app (goodIn_of _ (by decide +kernel)) ggX6_wins_X6_needKind
theorem dX6_wins_0 : decode cX6_wins 0 = .ok (.iload_n 1, 1) := by decide +kernel
theorem dX6_wins_1 : decode cX6_wins 1 = .ok (.invokestatic 54, 3) := by decide +kernel
theorem dX6_wins_4 : decode cX6_wins 4 = .ok (.aload_n 0, 1) := by decide +kernel
theorem dX6_wins_5 : decode cX6_wins 5 = .ok (.getfield 10, 3) := by decide +kernel
theorem dX6_wins_8 : decode cX6_wins 8 = .ok (.getfield 212, 3) := by decide +kernel
theorem dX6_wins_11 : decode cX6_wins 11 = .ok (.iload_n 1, 1) := by decide +kernel
theorem dX6_wins_12 : decode cX6_wins 12 = .ok (.iaload, 1) := by decide +kernel
theorem dX6_wins_13 : decode cX6_wins 13 = .ok (.ireturn, 1) := by decide +kernel
set_option maxRecDepth 20000 in
theorem ggX6_price_X6_needKind : GoodIn wsX6_price wsX6_needKind := goodIn_ca (goodIn_r _ [7, 8, 9] (by decide +kernel) (by decide +kernel)) (goodIn_sub (fun _ h => List.mem_cons_of_mem _ (List.mem_append_right _ h)) (by decide +kernel))
set_option maxRecDepth 20000 in
theorem gX6_price_X6_needKind : GoodIn wsX6_price (va_wsS RX6 54 yX6_needKind wsX6_needKind) := goodIn_app (goodIn_of _ (by decide +kernel)) ggX6_price_X6_needKind
theorem dX6_price_0 : decode cX6_price 0 = .ok (.iload_n 1, 1) := by decide +kernel
theorem dX6_price_1 : decode cX6_price 1 = .ok (.invokestatic 54, 3) := by decide +kernel
theorem dX6_price_4 : decode cX6_price 4 = .ok (.aload_n 0, 1) := by decide +kernel
theorem dX6_price_5 : decode cX6_price 5 = .ok (.getfield 10, 3) := by decide +kernel
theorem dX6_price_8 : decode cX6_price 8 = .ok (.getfield 97, 3) := by decide +kernel
theorem dX6_price_11 : decode cX6_price 11 = .ok (.iload_n 1, 1) := by decide +kernel
theorem dX6_price_12 : decode cX6_price 12 = .ok (.iaload, 1) := by decide +kernel
theorem dX6_price_13 : decode cX6_price 13 = .ok (.istore_n 2, 1) := by decide +kernel
theorem dX6_price_14 : decode cX6_price 14 = .ok (.iload_n 2, 1) := by decide +kernel
theorem dX6_price_15 : decode cX6_price 15 = .ok (.ifCond .gt 5, 3) := by decide +kernel
theorem dX6_price_18 : decode cX6_price 18 = .ok (.iconst 0, 1) := by decide +kernel
theorem dX6_price_19 : decode cX6_price 19 = .ok (.ireturn, 1) := by decide +kernel
theorem dX6_price_20 : decode cX6_price 20 = .ok (.aload_n 0, 1) := by decide +kernel
theorem dX6_price_21 : decode cX6_price 21 = .ok (.getfield 10, 3) := by decide +kernel
theorem dX6_price_24 : decode cX6_price 24 = .ok (.getfield 212, 3) := by decide +kernel
theorem dX6_price_27 : decode cX6_price 27 = .ok (.iload_n 1, 1) := by decide +kernel
theorem dX6_price_28 : decode cX6_price 28 = .ok (.iaload, 1) := by decide +kernel
theorem dX6_price_29 : decode cX6_price 29 = .ok (.iconst 1, 1) := by decide +kernel
theorem dX6_price_30 : decode cX6_price 30 = .ok (.iadd, 1) := by decide +kernel
theorem dX6_price_31 : decode cX6_price 31 = .ok (.bipush 100, 2) := by decide +kernel
theorem dX6_price_33 : decode cX6_price 33 = .ok (.imul, 1) := by decide +kernel
theorem dX6_price_34 : decode cX6_price 34 = .ok (.iload_n 2, 1) := by decide +kernel
theorem dX6_price_35 : decode cX6_price 35 = .ok (.idiv, 1) := by decide +kernel
theorem dX6_price_36 : decode cX6_price 36 = .ok (.ireturn, 1) := by decide +kernel
set_option maxRecDepth 20000 in
theorem ggX6_isAllowed_X6_needDeck : GoodIn wsX6_isAllowed wsX6_needDeck := goodIn_ca (goodIn_r _ [8, 9, 10, 1, 11, 40, 41, 42, 43, 44, 45, 46, 47, 48, 49, 50, 51, 52] (by decide +kernel) (by decide +kernel)) (goodIn_sub (fun _ h => List.mem_cons_of_mem _ (List.mem_append_right _ h)) (by decide +kernel))
set_option maxRecDepth 20000 in
theorem gX6_isAllowed_X6_needDeck : GoodIn wsX6_isAllowed (wsV RX6 110 RX6 yX6_needDeck wsX6_needDeck) := goodIn_app (goodIn_of _ (by decide +kernel)) ggX6_isAllowed_X6_needDeck
set_option maxRecDepth 20000 in
theorem ggX6_isAllowed_X0_fitsFormat : GoodIn wsX6_isAllowed wsX0_fitsFormat := goodIn_r _ [16, 17, 18, 19, 20, 21, 22, 23, 24, 25, 26, 27, 15, 28, 29, 30, 31, 32, 33, 34, 35, 36, 37, 38, 39, 47, 48, 49, 50, 51, 52, 53, 54, 55, 56, 57, 58, 59, 60, 61] (by decide +kernel) (by decide +kernel)
set_option maxRecDepth 20000 in
theorem gX6_isAllowed_X0_fitsFormat : GoodIn wsX6_isAllowed (wsV RX6 215 RX0 yX0_fitsFormat wsX0_fitsFormat) := goodIn_app (goodIn_of _ (by decide +kernel)) ggX6_isAllowed_X0_fitsFormat
theorem dX6_isAllowed_0 : decode cX6_isAllowed 0 = .ok (.aload_n 0, 1) := by decide +kernel
theorem dX6_isAllowed_1 : decode cX6_isAllowed 1 = .ok (.iload_n 1, 1) := by decide +kernel
theorem dX6_isAllowed_2 : decode cX6_isAllowed 2 = .ok (.invokevirtual 110, 3) := by decide +kernel
theorem dX6_isAllowed_5 : decode cX6_isAllowed 5 = .ok (.aload_n 0, 1) := by decide +kernel
theorem dX6_isAllowed_6 : decode cX6_isAllowed 6 = .ok (.getfield 26, 3) := by decide +kernel
theorem dX6_isAllowed_9 : decode cX6_isAllowed 9 = .ok (.iload_n 1, 1) := by decide +kernel
theorem dX6_isAllowed_10 : decode cX6_isAllowed 10 = .ok (.aload_n 0, 1) := by decide +kernel
theorem dX6_isAllowed_11 : decode cX6_isAllowed 11 = .ok (.getfield 10, 3) := by decide +kernel
theorem dX6_isAllowed_14 : decode cX6_isAllowed 14 = .ok (.aload_n 0, 1) := by decide +kernel
theorem dX6_isAllowed_15 : decode cX6_isAllowed 15 = .ok (.getfield 19, 3) := by decide +kernel
theorem dX6_isAllowed_18 : decode cX6_isAllowed 18 = .ok (.invokevirtual 215, 3) := by decide +kernel
theorem dX6_isAllowed_21 : decode cX6_isAllowed 21 = .ok (.ireturn, 1) := by decide +kernel
set_option maxRecDepth 20000 in
theorem ggX6_shuffled_X6_needDeck : GoodIn wsX6_shuffled wsX6_needDeck := goodIn_ca (goodIn_r _ [8, 9, 10, 2, 11, 34, 35, 36, 37, 38, 39, 40, 42, 43, 44, 45, 46, 47] (by decide +kernel) (by decide +kernel)) (goodIn_sub (fun _ h => List.mem_cons_of_mem _ (List.mem_append_left _ (List.mem_append_right _ h))) (by decide +kernel))
set_option maxRecDepth 20000 in
theorem gX6_shuffled_X6_needDeck : GoodIn wsX6_shuffled (wsV RX6 110 RX6 yX6_needDeck wsX6_needDeck) := goodIn_app (goodIn_of _ (by decide +kernel)) ggX6_shuffled_X6_needDeck
set_option maxRecDepth 20000 in
theorem ggX6_shuffled_X6_needPlace : GoodIn wsX6_shuffled wsX6_needPlace := goodIn_ca (goodIn_r _ [15, 9, 10, 2, 16, 34, 35, 36, 37, 38, 39, 40, 42, 43, 44, 45, 46, 47] (by decide +kernel) (by decide +kernel)) (goodIn_sub (fun _ h => List.mem_cons_of_mem _ (List.mem_append_left _ (List.mem_append_right _ h))) (by decide +kernel))
set_option maxRecDepth 20000 in
theorem gX6_shuffled_X6_needPlace : GoodIn wsX6_shuffled (wsV RX6 142 RX6 yX6_needPlace wsX6_needPlace) := goodIn_app (goodIn_of _ (by decide +kernel)) ggX6_shuffled_X6_needPlace
set_option maxRecDepth 20000 in
theorem ggX6_shuffled_X6_needSeed : GoodIn wsX6_shuffled wsX6_needSeed := goodIn_ca (goodIn_r _ [19, 20, 21] (by decide +kernel) (by decide +kernel)) (goodIn_sub (fun _ h => List.mem_cons_of_mem _ (List.mem_append_right _ h)) (by decide +kernel))
set_option maxRecDepth 20000 in
theorem gX6_shuffled_X6_needSeed : GoodIn wsX6_shuffled (va_wsS RX6 149 yX6_needSeed wsX6_needSeed) := goodIn_app (goodIn_of _ (by decide +kernel)) ggX6_shuffled_X6_needSeed
set_option maxRecDepth 20000 in
theorem ggX6_shuffled_X3_shuffle : GoodIn wsX6_shuffled wsX3_shuffle := goodIn_r _ [26, 27, 28, 29, 30, 31, 32, 33, 42, 43, 44, 45, 46, 47, 41] (by decide +kernel) (by decide +kernel)
set_option maxRecDepth 20000 in
theorem gX6_shuffled_X3_shuffle : GoodIn wsX6_shuffled (wsV RX6 219 RX3 yX3_shuffle wsX3_shuffle) := goodIn_app (goodIn_of _ (by decide +kernel)) ggX6_shuffled_X3_shuffle
theorem dX6_shuffled_0 : decode cX6_shuffled 0 = .ok (.aload_n 0, 1) := by decide +kernel
theorem dX6_shuffled_1 : decode cX6_shuffled 1 = .ok (.iload_n 1, 1) := by decide +kernel
theorem dX6_shuffled_2 : decode cX6_shuffled 2 = .ok (.invokevirtual 110, 3) := by decide +kernel
theorem dX6_shuffled_5 : decode cX6_shuffled 5 = .ok (.aload_n 0, 1) := by decide +kernel
theorem dX6_shuffled_6 : decode cX6_shuffled 6 = .ok (.iload_n 1, 1) := by decide +kernel
theorem dX6_shuffled_7 : decode cX6_shuffled 7 = .ok (.iload_n 3, 1) := by decide +kernel
theorem dX6_shuffled_8 : decode cX6_shuffled 8 = .ok (.invokevirtual 142, 3) := by decide +kernel
theorem dX6_shuffled_11 : decode cX6_shuffled 11 = .ok (.iload_n 2, 1) := by decide +kernel
theorem dX6_shuffled_12 : decode cX6_shuffled 12 = .ok (.invokestatic 149, 3) := by decide +kernel
theorem dX6_shuffled_15 : decode cX6_shuffled 15 = .ok (.aload_n 0, 1) := by decide +kernel
theorem dX6_shuffled_16 : decode cX6_shuffled 16 = .ok (.getfield 40, 3) := by decide +kernel
theorem dX6_shuffled_19 : decode cX6_shuffled 19 = .ok (.aload_n 0, 1) := by decide +kernel
theorem dX6_shuffled_20 : decode cX6_shuffled 20 = .ok (.getfield 26, 3) := by decide +kernel
theorem dX6_shuffled_23 : decode cX6_shuffled 23 = .ok (.iload_n 1, 1) := by decide +kernel
theorem dX6_shuffled_24 : decode cX6_shuffled 24 = .ok (.iload_n 2, 1) := by decide +kernel
theorem dX6_shuffled_25 : decode cX6_shuffled 25 = .ok (.invokevirtual 219, 3) := by decide +kernel
theorem dX6_shuffled_28 : decode cX6_shuffled 28 = .ok (.aload_n 0, 1) := by decide +kernel
theorem dX6_shuffled_29 : decode cX6_shuffled 29 = .ok (.getfield 40, 3) := by decide +kernel
theorem dX6_shuffled_32 : decode cX6_shuffled 32 = .ok (.getfield 222, 3) := by decide +kernel
theorem dX6_shuffled_35 : decode cX6_shuffled 35 = .ok (.iload_n 3, 1) := by decide +kernel
theorem dX6_shuffled_36 : decode cX6_shuffled 36 = .ok (.iaload, 1) := by decide +kernel
theorem dX6_shuffled_37 : decode cX6_shuffled 37 = .ok (.ireturn, 1) := by decide +kernel
set_option maxRecDepth 20000 in
theorem ggX6_orders_X6_needDeck : GoodIn wsX6_orders wsX6_needDeck := goodIn_ca (goodIn_r _ [8, 9, 10, 1, 11, 39, 40, 41, 42, 43, 44, 45, 46, 47, 48, 49, 50, 51] (by decide +kernel) (by decide +kernel)) (goodIn_sub (fun _ h => List.mem_cons_of_mem _ (List.mem_append_left _ (List.mem_append_right _ h))) (by decide +kernel))
set_option maxRecDepth 20000 in
theorem gX6_orders_X6_needDeck : GoodIn wsX6_orders (wsV RX6 110 RX6 yX6_needDeck wsX6_needDeck) := goodIn_app (goodIn_of _ (by decide +kernel)) ggX6_orders_X6_needDeck
set_option maxRecDepth 20000 in
theorem ggX6_orders_X6_needKind : GoodIn wsX6_orders wsX6_needKind := goodIn_ca (goodIn_r _ [14, 9, 10] (by decide +kernel) (by decide +kernel)) (goodIn_sub (fun _ h => List.mem_cons_of_mem _ (List.mem_append_left _ (List.mem_append_right _ h))) (by decide +kernel))
set_option maxRecDepth 20000 in
theorem gX6_orders_X6_needKind : GoodIn wsX6_orders (va_wsS RX6 54 yX6_needKind wsX6_needKind) := goodIn_app (goodIn_of _ (by decide +kernel)) ggX6_orders_X6_needKind
set_option maxRecDepth 20000 in
theorem ggX6_orders_X6_needRange : GoodIn wsX6_orders wsX6_needRange := goodIn_ca (goodIn_r _ [17, 18, 19] (by decide +kernel) (by decide +kernel)) (goodIn_sub (fun _ h => List.mem_cons_of_mem _ (List.mem_append_right _ h)) (by decide +kernel))
set_option maxRecDepth 20000 in
theorem gX6_orders_X6_needRange : GoodIn wsX6_orders (va_wsS RX6 58 yX6_needRange wsX6_needRange) := goodIn_app (goodIn_of _ (by decide +kernel)) ggX6_orders_X6_needRange
set_option maxRecDepth 20000 in
theorem ggX6_orders_X0_countOf : GoodIn wsX6_orders wsX0_countOf := goodIn_r _ [24, 25, 26, 27, 23, 28, 29, 30, 31, 32, 33, 34, 35, 36, 37, 38, 46, 47, 48, 49, 50, 51, 52, 53, 54, 55] (by decide +kernel) (by decide +kernel)
set_option maxRecDepth 20000 in
theorem gX6_orders_X0_countOf : GoodIn wsX6_orders (wsV RX6 225 RX0 yX0_countOf wsX0_countOf) := goodIn_app (goodIn_of _ (by decide +kernel)) ggX6_orders_X0_countOf
theorem dX6_orders_0 : decode cX6_orders 0 = .ok (.aload_n 0, 1) := by decide +kernel
theorem dX6_orders_1 : decode cX6_orders 1 = .ok (.iload_n 1, 1) := by decide +kernel
theorem dX6_orders_2 : decode cX6_orders 2 = .ok (.invokevirtual 110, 3) := by decide +kernel
theorem dX6_orders_5 : decode cX6_orders 5 = .ok (.iload_n 2, 1) := by decide +kernel
theorem dX6_orders_6 : decode cX6_orders 6 = .ok (.invokestatic 54, 3) := by decide +kernel
theorem dX6_orders_9 : decode cX6_orders 9 = .ok (.iload_n 3, 1) := by decide +kernel
theorem dX6_orders_10 : decode cX6_orders 10 = .ok (.iconst 1, 1) := by decide +kernel
theorem dX6_orders_11 : decode cX6_orders 11 = .ok (.bipush 10, 2) := by decide +kernel
theorem dX6_orders_13 : decode cX6_orders 13 = .ok (.invokestatic 58, 3) := by decide +kernel
theorem dX6_orders_16 : decode cX6_orders 16 = .ok (.aload_n 0, 1) := by decide +kernel
theorem dX6_orders_17 : decode cX6_orders 17 = .ok (.getfield 26, 3) := by decide +kernel
theorem dX6_orders_20 : decode cX6_orders 20 = .ok (.getfield 133, 3) := by decide +kernel
theorem dX6_orders_23 : decode cX6_orders 23 = .ok (.iload_n 1, 1) := by decide +kernel
theorem dX6_orders_24 : decode cX6_orders 24 = .ok (.iaload, 1) := by decide +kernel
theorem dX6_orders_25 : decode cX6_orders 25 = .ok (.istore 4, 2) := by decide +kernel
theorem dX6_orders_27 : decode cX6_orders 27 = .ok (.iload 4, 2) := by decide +kernel
theorem dX6_orders_29 : decode cX6_orders 29 = .ok (.aload_n 0, 1) := by decide +kernel
theorem dX6_orders_30 : decode cX6_orders 30 = .ok (.getfield 26, 3) := by decide +kernel
theorem dX6_orders_33 : decode cX6_orders 33 = .ok (.iload_n 1, 1) := by decide +kernel
theorem dX6_orders_34 : decode cX6_orders 34 = .ok (.iload_n 2, 1) := by decide +kernel
theorem dX6_orders_35 : decode cX6_orders 35 = .ok (.aload_n 0, 1) := by decide +kernel
theorem dX6_orders_36 : decode cX6_orders 36 = .ok (.getfield 19, 3) := by decide +kernel
theorem dX6_orders_39 : decode cX6_orders 39 = .ok (.invokevirtual 225, 3) := by decide +kernel
theorem dX6_orders_42 : decode cX6_orders 42 = .ok (.isub, 1) := by decide +kernel
theorem dX6_orders_43 : decode cX6_orders 43 = .ok (.istore 5, 2) := by decide +kernel
theorem dX6_orders_45 : decode cX6_orders 45 = .ok (.iconst 1, 1) := by decide +kernel
theorem dX6_orders_46 : decode cX6_orders 46 = .ok (.istore 6, 2) := by decide +kernel
theorem dX6_orders_48 : decode cX6_orders 48 = .ok (.iconst 1, 1) := by decide +kernel
theorem dX6_orders_49 : decode cX6_orders 49 = .ok (.istore 7, 2) := by decide +kernel
theorem dX6_orders_51 : decode cX6_orders 51 = .ok (.iconst 0, 1) := by decide +kernel
theorem dX6_orders_52 : decode cX6_orders 52 = .ok (.istore 8, 2) := by decide +kernel
theorem dX6_orders_54 : decode cX6_orders 54 = .ok (.iload 8, 2) := by decide +kernel
theorem dX6_orders_56 : decode cX6_orders 56 = .ok (.iload 4, 2) := by decide +kernel
theorem dX6_orders_58 : decode cX6_orders 58 = .ok (.if_icmp .ge 43, 3) := by decide +kernel
theorem dX6_orders_61 : decode cX6_orders 61 = .ok (.iload 6, 2) := by decide +kernel
theorem dX6_orders_63 : decode cX6_orders 63 = .ok (.iload 4, 2) := by decide +kernel
theorem dX6_orders_65 : decode cX6_orders 65 = .ok (.iload 8, 2) := by decide +kernel
theorem dX6_orders_67 : decode cX6_orders 67 = .ok (.isub, 1) := by decide +kernel
theorem dX6_orders_68 : decode cX6_orders 68 = .ok (.imul, 1) := by decide +kernel
theorem dX6_orders_69 : decode cX6_orders 69 = .ok (.istore 6, 2) := by decide +kernel
theorem dX6_orders_71 : decode cX6_orders 71 = .ok (.iload 7, 2) := by decide +kernel
theorem dX6_orders_73 : decode cX6_orders 73 = .ok (.iload 8, 2) := by decide +kernel
theorem dX6_orders_75 : decode cX6_orders 75 = .ok (.iload_n 3, 1) := by decide +kernel
theorem dX6_orders_76 : decode cX6_orders 76 = .ok (.if_icmp .ge 11, 3) := by decide +kernel
theorem dX6_orders_79 : decode cX6_orders 79 = .ok (.iload 5, 2) := by decide +kernel
theorem dX6_orders_81 : decode cX6_orders 81 = .ok (.iload 8, 2) := by decide +kernel
theorem dX6_orders_83 : decode cX6_orders 83 = .ok (.isub, 1) := by decide +kernel
theorem dX6_orders_84 : decode cX6_orders 84 = .ok (.goto 8, 3) := by decide +kernel
theorem dX6_orders_87 : decode cX6_orders 87 = .ok (.iload 4, 2) := by decide +kernel
theorem dX6_orders_89 : decode cX6_orders 89 = .ok (.iload 8, 2) := by decide +kernel
theorem dX6_orders_91 : decode cX6_orders 91 = .ok (.isub, 1) := by decide +kernel
theorem dX6_orders_92 : decode cX6_orders 92 = .ok (.imul, 1) := by decide +kernel
theorem dX6_orders_93 : decode cX6_orders 93 = .ok (.istore 7, 2) := by decide +kernel
theorem dX6_orders_95 : decode cX6_orders 95 = .ok (.iinc 8 1, 3) := by decide +kernel
theorem dX6_orders_98 : decode cX6_orders 98 = .ok (.goto (-44), 3) := by decide +kernel
theorem dX6_orders_101 : decode cX6_orders 101 = .ok (.iload 6, 2) := by decide +kernel
theorem dX6_orders_103 : decode cX6_orders 103 = .ok (.iload 7, 2) := by decide +kernel
theorem dX6_orders_105 : decode cX6_orders 105 = .ok (.isub, 1) := by decide +kernel
theorem dX6_orders_106 : decode cX6_orders 106 = .ok (.ireturn, 1) := by decide +kernel
set_option maxRecDepth 20000 in
theorem ggX6_ordersByAll_X6_needDeck : GoodIn wsX6_ordersByAll wsX6_needDeck := goodIn_ca (goodIn_r _ [10, 11, 12, 3, 13, 33, 34, 35, 36, 37, 38, 39, 40, 41, 42, 43, 44, 45] (by decide +kernel) (by decide +kernel)) (goodIn_sub (fun _ h => List.mem_cons_of_mem _ (List.mem_append_left _ (List.mem_append_right _ h))) (by decide +kernel))
set_option maxRecDepth 20000 in
theorem gX6_ordersByAll_X6_needDeck : GoodIn wsX6_ordersByAll (wsV RX6 110 RX6 yX6_needDeck wsX6_needDeck) := goodIn_app (goodIn_of _ (by decide +kernel)) ggX6_ordersByAll_X6_needDeck
set_option maxRecDepth 20000 in
theorem ggX6_ordersByAll_X6_needKind : GoodIn wsX6_ordersByAll wsX6_needKind := goodIn_ca (goodIn_r _ [16, 11, 12] (by decide +kernel) (by decide +kernel)) (goodIn_sub (fun _ h => List.mem_cons_of_mem _ (List.mem_append_left _ (List.mem_append_right _ h))) (by decide +kernel))
set_option maxRecDepth 20000 in
theorem gX6_ordersByAll_X6_needKind : GoodIn wsX6_ordersByAll (va_wsS RX6 54 yX6_needKind wsX6_needKind) := goodIn_app (goodIn_of _ (by decide +kernel)) ggX6_ordersByAll_X6_needKind
set_option maxRecDepth 20000 in
theorem ggX6_ordersByAll_X6_needRange : GoodIn wsX6_ordersByAll wsX6_needRange := goodIn_ca (goodIn_r _ [19, 20, 21] (by decide +kernel) (by decide +kernel)) (goodIn_sub (fun _ h => List.mem_cons_of_mem _ (List.mem_append_right _ h)) (by decide +kernel))
set_option maxRecDepth 20000 in
theorem gX6_ordersByAll_X6_needRange : GoodIn wsX6_ordersByAll (va_wsS RX6 58 yX6_needRange wsX6_needRange) := goodIn_app (goodIn_of _ (by decide +kernel)) ggX6_ordersByAll_X6_needRange
set_option maxRecDepth 20000 in
theorem ggX6_ordersByAll_X0_placesOf : GoodIn wsX6_ordersByAll wsX0_placesOf := goodIn_r _ [26, 27, 28, 29, 40, 41, 42, 43, 44, 45, 46, 47, 48, 49] (by decide +kernel) (by decide +kernel)
set_option maxRecDepth 20000 in
theorem gX6_ordersByAll_X0_placesOf : GoodIn wsX6_ordersByAll (wsV RX6 229 RX0 yX0_placesOf wsX0_placesOf) := goodIn_app (goodIn_of _ (by decide +kernel)) ggX6_ordersByAll_X0_placesOf
set_option maxRecDepth 20000 in
theorem ggX6_ordersByAll_X6_countOrders : GoodIn wsX6_ordersByAll wsX6_countOrders := goodIn_r _ [32, 30, 31, 9] (by decide +kernel) (by decide +kernel)
set_option maxRecDepth 20000 in
theorem gX6_ordersByAll_X6_countOrders : GoodIn wsX6_ordersByAll (va_wsS RX6 232 yX6_countOrders wsX6_countOrders) := goodIn_app (goodIn_of _ (by decide +kernel)) ggX6_ordersByAll_X6_countOrders
theorem dX6_ordersByAll_0 : decode cX6_ordersByAll 0 = .ok (.aload_n 0, 1) := by decide +kernel
theorem dX6_ordersByAll_1 : decode cX6_ordersByAll 1 = .ok (.iload_n 1, 1) := by decide +kernel
theorem dX6_ordersByAll_2 : decode cX6_ordersByAll 2 = .ok (.invokevirtual 110, 3) := by decide +kernel
theorem dX6_ordersByAll_5 : decode cX6_ordersByAll 5 = .ok (.iload_n 2, 1) := by decide +kernel
theorem dX6_ordersByAll_6 : decode cX6_ordersByAll 6 = .ok (.invokestatic 54, 3) := by decide +kernel
theorem dX6_ordersByAll_9 : decode cX6_ordersByAll 9 = .ok (.iload_n 3, 1) := by decide +kernel
theorem dX6_ordersByAll_10 : decode cX6_ordersByAll 10 = .ok (.iconst 1, 1) := by decide +kernel
theorem dX6_ordersByAll_11 : decode cX6_ordersByAll 11 = .ok (.bipush 10, 2) := by decide +kernel
theorem dX6_ordersByAll_13 : decode cX6_ordersByAll 13 = .ok (.invokestatic 58, 3) := by decide +kernel
theorem dX6_ordersByAll_16 : decode cX6_ordersByAll 16 = .ok (.aload_n 0, 1) := by decide +kernel
theorem dX6_ordersByAll_17 : decode cX6_ordersByAll 17 = .ok (.getfield 26, 3) := by decide +kernel
theorem dX6_ordersByAll_20 : decode cX6_ordersByAll 20 = .ok (.getfield 133, 3) := by decide +kernel
theorem dX6_ordersByAll_23 : decode cX6_ordersByAll 23 = .ok (.iload_n 1, 1) := by decide +kernel
theorem dX6_ordersByAll_24 : decode cX6_ordersByAll 24 = .ok (.iaload, 1) := by decide +kernel
theorem dX6_ordersByAll_25 : decode cX6_ordersByAll 25 = .ok (.istore 4, 2) := by decide +kernel
theorem dX6_ordersByAll_27 : decode cX6_ordersByAll 27 = .ok (.iload 4, 2) := by decide +kernel
theorem dX6_ordersByAll_29 : decode cX6_ordersByAll 29 = .ok (.bipush 7, 2) := by decide +kernel
theorem dX6_ordersByAll_31 : decode cX6_ordersByAll 31 = .ok (.if_icmp .le 13, 3) := by decide +kernel
theorem dX6_ordersByAll_34 : decode cX6_ordersByAll 34 = .ok (.new 90, 3) := by decide +kernel
theorem dX6_ordersByAll_37 : decode cX6_ordersByAll 37 = .ok (.dup, 1) := by decide +kernel
theorem dX6_ordersByAll_38 : decode cX6_ordersByAll 38 = .ok (.ldc 227, 2) := by decide +kernel
theorem dX6_ordersByAll_40 : decode cX6_ordersByAll 40 = .ok (.invokespecial 94, 3) := by decide +kernel
theorem dX6_ordersByAll_43 : decode cX6_ordersByAll 43 = .ok (.athrow, 1) := by decide +kernel
theorem dX6_ordersByAll_44 : decode cX6_ordersByAll 44 = .ok (.aload_n 0, 1) := by decide +kernel
theorem dX6_ordersByAll_45 : decode cX6_ordersByAll 45 = .ok (.getfield 26, 3) := by decide +kernel
theorem dX6_ordersByAll_48 : decode cX6_ordersByAll 48 = .ok (.iload_n 1, 1) := by decide +kernel
theorem dX6_ordersByAll_49 : decode cX6_ordersByAll 49 = .ok (.iload_n 2, 1) := by decide +kernel
theorem dX6_ordersByAll_50 : decode cX6_ordersByAll 50 = .ok (.aload_n 0, 1) := by decide +kernel
theorem dX6_ordersByAll_51 : decode cX6_ordersByAll 51 = .ok (.getfield 19, 3) := by decide +kernel
theorem dX6_ordersByAll_54 : decode cX6_ordersByAll 54 = .ok (.invokevirtual 229, 3) := by decide +kernel
theorem dX6_ordersByAll_57 : decode cX6_ordersByAll 57 = .ok (.istore 5, 2) := by decide +kernel
theorem dX6_ordersByAll_59 : decode cX6_ordersByAll 59 = .ok (.iconst 0, 1) := by decide +kernel
theorem dX6_ordersByAll_60 : decode cX6_ordersByAll 60 = .ok (.iload 4, 2) := by decide +kernel
theorem dX6_ordersByAll_62 : decode cX6_ordersByAll 62 = .ok (.iconst 0, 1) := by decide +kernel
theorem dX6_ordersByAll_63 : decode cX6_ordersByAll 63 = .ok (.iload 5, 2) := by decide +kernel
theorem dX6_ordersByAll_65 : decode cX6_ordersByAll 65 = .ok (.iload_n 3, 1) := by decide +kernel
theorem dX6_ordersByAll_66 : decode cX6_ordersByAll 66 = .ok (.iconst 0, 1) := by decide +kernel
theorem dX6_ordersByAll_67 : decode cX6_ordersByAll 67 = .ok (.invokestatic 232, 3) := by decide +kernel
theorem dX6_ordersByAll_70 : decode cX6_ordersByAll 70 = .ok (.ireturn, 1) := by decide +kernel
set_option maxRecDepth 20000 in
theorem ggX6_isOpen_X6_needOffer : GoodIn wsX6_isOpen wsX6_needOffer := goodIn_ca (goodIn_r _ [7, 8, 9, 1, 10, 11, 12, 13, 14, 15, 16, 17, 18, 19, 20, 21, 22, 23, 24] (by decide +kernel) (by decide +kernel)) (goodIn_sub (fun _ h => List.mem_cons_of_mem _ (List.mem_append_right _ h)) (by decide +kernel))
set_option maxRecDepth 20000 in
theorem gX6_isOpen_X6_needOffer : GoodIn wsX6_isOpen (wsV RX6 187 RX6 yX6_needOffer wsX6_needOffer) := goodIn_app (goodIn_of _ (by decide +kernel)) ggX6_isOpen_X6_needOffer
theorem dX6_isOpen_0 : decode cX6_isOpen 0 = .ok (.aload_n 0, 1) := by decide +kernel
theorem dX6_isOpen_1 : decode cX6_isOpen 1 = .ok (.iload_n 1, 1) := by decide +kernel
theorem dX6_isOpen_2 : decode cX6_isOpen 2 = .ok (.invokevirtual 187, 3) := by decide +kernel
theorem dX6_isOpen_5 : decode cX6_isOpen 5 = .ok (.aload_n 0, 1) := by decide +kernel
theorem dX6_isOpen_6 : decode cX6_isOpen 6 = .ok (.getfield 33, 3) := by decide +kernel
theorem dX6_isOpen_9 : decode cX6_isOpen 9 = .ok (.getfield 190, 3) := by decide +kernel
theorem dX6_isOpen_12 : decode cX6_isOpen 12 = .ok (.iload_n 1, 1) := by decide +kernel
theorem dX6_isOpen_13 : decode cX6_isOpen 13 = .ok (.baload, 1) := by decide +kernel
theorem dX6_isOpen_14 : decode cX6_isOpen 14 = .ok (.ireturn, 1) := by decide +kernel
set_option maxRecDepth 20000 in
theorem ggX6_ring_X2_findRing : GoodIn wsX6_ring wsX2_findRing := goodIn_r _ [9, 10, 11, 12, 13, 14, 8, 15, 16, 17, 18, 19, 20, 21, 22, 23, 24, 25, 26, 34, 35, 36, 37, 38, 39, 40] (by decide +kernel) (by decide +kernel)
set_option maxRecDepth 20000 in
theorem gX6_ring_X2_findRing : GoodIn wsX6_ring (wsV RX6 198 RX2 yX2_findRing wsX2_findRing) := goodIn_app (goodIn_of _ (by decide +kernel)) ggX6_ring_X2_findRing
theorem dX6_ring_0 : decode cX6_ring 0 = .ok (.iload_n 1, 1) := by decide +kernel
theorem dX6_ring_1 : decode cX6_ring 1 = .ok (.ifCond .ge 13, 3) := by decide +kernel
theorem dX6_ring_4 : decode cX6_ring 4 = .ok (.new 236, 3) := by decide +kernel
theorem dX6_ring_7 : decode cX6_ring 7 = .ok (.dup, 1) := by decide +kernel
theorem dX6_ring_8 : decode cX6_ring 8 = .ok (.ldc 238, 2) := by decide +kernel
theorem dX6_ring_10 : decode cX6_ring 10 = .ok (.invokespecial 240, 3) := by decide +kernel
