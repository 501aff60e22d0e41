theorem dX6_ring_13 : decode cX6_ring 13 = .ok (.athrow, 1) := by decide +kernel
theorem dX6_ring_14 : decode cX6_ring 14 = .ok (.iload_n 1, 1) := by decide +kernel
theorem dX6_ring_15 : decode cX6_ring 15 = .ok (.aload_n 0, 1) := by decide +kernel
theorem dX6_ring_16 : decode cX6_ring 16 = .ok (.getfield 33, 3) := by decide +kernel
theorem dX6_ring_19 : decode cX6_ring 19 = .ok (.invokevirtual 198, 3) := by decide +kernel
theorem dX6_ring_22 : decode cX6_ring 22 = .ok (.if_icmp .ge 15, 3) := by decide +kernel
theorem dX6_ring_25 : decode cX6_ring 25 = .ok (.aload_n 0, 1) := by decide +kernel
theorem dX6_ring_26 : decode cX6_ring 26 = .ok (.getfield 33, 3) := by decide +kernel
theorem dX6_ring_29 : decode cX6_ring 29 = .ok (.getfield 202, 3) := by decide +kernel
theorem dX6_ring_32 : decode cX6_ring 32 = .ok (.iload_n 1, 1) := by decide +kernel
theorem dX6_ring_33 : decode cX6_ring 33 = .ok (.iaload, 1) := by decide +kernel
theorem dX6_ring_34 : decode cX6_ring 34 = .ok (.goto 4, 3) := by decide +kernel
theorem dX6_ring_37 : decode cX6_ring 37 = .ok (.iconst (-1), 1) := by decide +kernel
theorem dX6_ring_38 : decode cX6_ring 38 = .ok (.ireturn, 1) := by decide +kernel
theorem dX6_needKind_0 : decode cX6_needKind 0 = .ok (.iload_n 0, 1) := by decide +kernel
theorem dX6_needKind_1 : decode cX6_needKind 1 = .ok (.ifCond .lt 9, 3) := by decide +kernel
theorem dX6_needKind_4 : decode cX6_needKind 4 = .ok (.iload_n 0, 1) := by decide +kernel
theorem dX6_needKind_5 : decode cX6_needKind 5 = .ok (.bipush 16, 2) := by decide +kernel
theorem dX6_needKind_7 : decode cX6_needKind 7 = .ok (.if_icmp .lt 13, 3) := by decide +kernel
theorem dX6_needKind_10 : decode cX6_needKind 10 = .ok (.new 236, 3) := by decide +kernel
theorem dX6_needKind_13 : decode cX6_needKind 13 = .ok (.dup, 1) := by decide +kernel
theorem dX6_needKind_14 : decode cX6_needKind 14 = .ok (.ldc 241, 2) := by decide +kernel
theorem dX6_needKind_16 : decode cX6_needKind 16 = .ok (.invokespecial 240, 3) := by decide +kernel
theorem dX6_needKind_19 : decode cX6_needKind 19 = .ok (.athrow, 1) := by decide +kernel
theorem dX6_needKind_20 : decode cX6_needKind 20 = .ok (.return_, 1) := by decide +kernel
theorem dX6_needCollector_0 : decode cX6_needCollector 0 = .ok (.iload_n 0, 1) := by decide +kernel
theorem dX6_needCollector_1 : decode cX6_needCollector 1 = .ok (.ifCond .lt 9, 3) := by decide +kernel
theorem dX6_needCollector_4 : decode cX6_needCollector 4 = .ok (.iload_n 0, 1) := by decide +kernel
theorem dX6_needCollector_5 : decode cX6_needCollector 5 = .ok (.bipush 6, 2) := by decide +kernel
theorem dX6_needCollector_7 : decode cX6_needCollector 7 = .ok (.if_icmp .lt 13, 3) := by decide +kernel
theorem dX6_needCollector_10 : decode cX6_needCollector 10 = .ok (.new 236, 3) := by decide +kernel
theorem dX6_needCollector_13 : decode cX6_needCollector 13 = .ok (.dup, 1) := by decide +kernel
theorem dX6_needCollector_14 : decode cX6_needCollector 14 = .ok (.ldc 243, 2) := by decide +kernel
theorem dX6_needCollector_16 : decode cX6_needCollector 16 = .ok (.invokespecial 240, 3) := by decide +kernel
theorem dX6_needCollector_19 : decode cX6_needCollector 19 = .ok (.athrow, 1) := by decide +kernel
theorem dX6_needCollector_20 : decode cX6_needCollector 20 = .ok (.return_, 1) := by decide +kernel
theorem dX6_needCard_0 : decode cX6_needCard 0 = .ok (.iload_n 1, 1) := by decide +kernel
theorem dX6_needCard_1 : decode cX6_needCard 1 = .ok (.ifCond .lt 14, 3) := by decide +kernel
theorem dX6_needCard_4 : decode cX6_needCard 4 = .ok (.iload_n 1, 1) := by decide +kernel
theorem dX6_needCard_5 : decode cX6_needCard 5 = .ok (.aload_n 0, 1) := by decide +kernel
theorem dX6_needCard_6 : decode cX6_needCard 6 = .ok (.getfield 19, 3) := by decide +kernel
theorem dX6_needCard_9 : decode cX6_needCard 9 = .ok (.getfield 87, 3) := by decide +kernel
theorem dX6_needCard_12 : decode cX6_needCard 12 = .ok (.if_icmp .lt 13, 3) := by decide +kernel
theorem dX6_needCard_15 : decode cX6_needCard 15 = .ok (.new 236, 3) := by decide +kernel
theorem dX6_needCard_18 : decode cX6_needCard 18 = .ok (.dup, 1) := by decide +kernel
theorem dX6_needCard_19 : decode cX6_needCard 19 = .ok (.ldc 245, 2) := by decide +kernel
theorem dX6_needCard_21 : decode cX6_needCard 21 = .ok (.invokespecial 240, 3) := by decide +kernel
theorem dX6_needCard_24 : decode cX6_needCard 24 = .ok (.athrow, 1) := by decide +kernel
theorem dX6_needCard_25 : decode cX6_needCard 25 = .ok (.return_, 1) := by decide +kernel
theorem dX6_needDeck_0 : decode cX6_needDeck 0 = .ok (.iload_n 1, 1) := by decide +kernel
theorem dX6_needDeck_1 : decode cX6_needDeck 1 = .ok (.ifCond .lt 14, 3) := by decide +kernel
theorem dX6_needDeck_4 : decode cX6_needDeck 4 = .ok (.iload_n 1, 1) := by decide +kernel
theorem dX6_needDeck_5 : decode cX6_needDeck 5 = .ok (.aload_n 0, 1) := by decide +kernel
theorem dX6_needDeck_6 : decode cX6_needDeck 6 = .ok (.getfield 26, 3) := by decide +kernel
theorem dX6_needDeck_9 : decode cX6_needDeck 9 = .ok (.getfield 104, 3) := by decide +kernel
theorem dX6_needDeck_12 : decode cX6_needDeck 12 = .ok (.if_icmp .lt 13, 3) := by decide +kernel
theorem dX6_needDeck_15 : decode cX6_needDeck 15 = .ok (.new 236, 3) := by decide +kernel
theorem dX6_needDeck_18 : decode cX6_needDeck 18 = .ok (.dup, 1) := by decide +kernel
theorem dX6_needDeck_19 : decode cX6_needDeck 19 = .ok (.ldc 247, 2) := by decide +kernel
theorem dX6_needDeck_21 : decode cX6_needDeck 21 = .ok (.invokespecial 240, 3) := by decide +kernel
theorem dX6_needDeck_24 : decode cX6_needDeck 24 = .ok (.athrow, 1) := by decide +kernel
theorem dX6_needDeck_25 : decode cX6_needDeck 25 = .ok (.return_, 1) := by decide +kernel
theorem dX6_needPlace_0 : decode cX6_needPlace 0 = .ok (.iload_n 2, 1) := by decide +kernel
theorem dX6_needPlace_1 : decode cX6_needPlace 1 = .ok (.ifCond .lt 16, 3) := by decide +kernel
theorem dX6_needPlace_4 : decode cX6_needPlace 4 = .ok (.iload_n 2, 1) := by decide +kernel
theorem dX6_needPlace_5 : decode cX6_needPlace 5 = .ok (.aload_n 0, 1) := by decide +kernel
theorem dX6_needPlace_6 : decode cX6_needPlace 6 = .ok (.getfield 26, 3) := by decide +kernel
theorem dX6_needPlace_9 : decode cX6_needPlace 9 = .ok (.getfield 133, 3) := by decide +kernel
theorem dX6_needPlace_12 : decode cX6_needPlace 12 = .ok (.iload_n 1, 1) := by decide +kernel
theorem dX6_needPlace_13 : decode cX6_needPlace 13 = .ok (.iaload, 1) := by decide +kernel
theorem dX6_needPlace_14 : decode cX6_needPlace 14 = .ok (.if_icmp .lt 13, 3) := by decide +kernel
theorem dX6_needPlace_17 : decode cX6_needPlace 17 = .ok (.new 236, 3) := by decide +kernel
theorem dX6_needPlace_20 : decode cX6_needPlace 20 = .ok (.dup, 1) := by decide +kernel
theorem dX6_needPlace_21 : decode cX6_needPlace 21 = .ok (.ldc 249, 2) := by decide +kernel
theorem dX6_needPlace_23 : decode cX6_needPlace 23 = .ok (.invokespecial 240, 3) := by decide +kernel
theorem dX6_needPlace_26 : decode cX6_needPlace 26 = .ok (.athrow, 1) := by decide +kernel
theorem dX6_needPlace_27 : decode cX6_needPlace 27 = .ok (.return_, 1) := by decide +kernel
theorem dX6_needOffer_0 : decode cX6_needOffer 0 = .ok (.iload_n 1, 1) := by decide +kernel
theorem dX6_needOffer_1 : decode cX6_needOffer 1 = .ok (.ifCond .lt 14, 3) := by decide +kernel
theorem dX6_needOffer_4 : decode cX6_needOffer 4 = .ok (.iload_n 1, 1) := by decide +kernel
theorem dX6_needOffer_5 : decode cX6_needOffer 5 = .ok (.aload_n 0, 1) := by decide +kernel
theorem dX6_needOffer_6 : decode cX6_needOffer 6 = .ok (.getfield 33, 3) := by decide +kernel
theorem dX6_needOffer_9 : decode cX6_needOffer 9 = .ok (.getfield 181, 3) := by decide +kernel
theorem dX6_needOffer_12 : decode cX6_needOffer 12 = .ok (.if_icmp .lt 13, 3) := by decide +kernel
theorem dX6_needOffer_15 : decode cX6_needOffer 15 = .ok (.new 236, 3) := by decide +kernel
theorem dX6_needOffer_18 : decode cX6_needOffer 18 = .ok (.dup, 1) := by decide +kernel
theorem dX6_needOffer_19 : decode cX6_needOffer 19 = .ok (.ldc 251, 2) := by decide +kernel
theorem dX6_needOffer_21 : decode cX6_needOffer 21 = .ok (.invokespecial 240, 3) := by decide +kernel
theorem dX6_needOffer_24 : decode cX6_needOffer 24 = .ok (.athrow, 1) := by decide +kernel
theorem dX6_needOffer_25 : decode cX6_needOffer 25 = .ok (.return_, 1) := by decide +kernel
theorem dX6_needRange_0 : decode cX6_needRange 0 = .ok (.iload_n 0, 1) := by decide +kernel
theorem dX6_needRange_1 : decode cX6_needRange 1 = .ok (.iload_n 1, 1) := by decide +kernel
theorem dX6_needRange_2 : decode cX6_needRange 2 = .ok (.if_icmp .lt 8, 3) := by decide +kernel
theorem dX6_needRange_5 : decode cX6_needRange 5 = .ok (.iload_n 0, 1) := by decide +kernel
theorem dX6_needRange_6 : decode cX6_needRange 6 = .ok (.iload_n 2, 1) := by decide +kernel
theorem dX6_needRange_7 : decode cX6_needRange 7 = .ok (.if_icmp .le 13, 3) := by decide +kernel
theorem dX6_needRange_10 : decode cX6_needRange 10 = .ok (.new 122, 3) := by decide +kernel
theorem dX6_needRange_13 : decode cX6_needRange 13 = .ok (.dup, 1) := by decide +kernel
theorem dX6_needRange_14 : decode cX6_needRange 14 = .ok (.ldc 253, 2) := by decide +kernel
theorem dX6_needRange_16 : decode cX6_needRange 16 = .ok (.invokespecial 126, 3) := by decide +kernel
theorem dX6_needRange_19 : decode cX6_needRange 19 = .ok (.athrow, 1) := by decide +kernel
theorem dX6_needRange_20 : decode cX6_needRange 20 = .ok (.return_, 1) := by decide +kernel
theorem dX6_needSeed_0 : decode cX6_needSeed 0 = .ok (.iload_n 0, 1) := by decide +kernel
theorem dX6_needSeed_1 : decode cX6_needSeed 1 = .ok (.ifCond .ge 13, 3) := by decide +kernel
theorem dX6_needSeed_4 : decode cX6_needSeed 4 = .ok (.new 122, 3) := by decide +kernel
theorem dX6_needSeed_7 : decode cX6_needSeed 7 = .ok (.dup, 1) := by decide +kernel
theorem dX6_needSeed_8 : decode cX6_needSeed 8 = .ok (.ldc 255, 2) := by decide +kernel
theorem dX6_needSeed_10 : decode cX6_needSeed 10 = .ok (.invokespecial 126, 3) := by decide +kernel
theorem dX6_needSeed_13 : decode cX6_needSeed 13 = .ok (.athrow, 1) := by decide +kernel
theorem dX6_needSeed_14 : decode cX6_needSeed 14 = .ok (.return_, 1) := by decide +kernel
set_option maxRecDepth 20000 in
theorem ggX6_needAllowed_X0_fitsFormat : GoodIn wsX6_needAllowed wsX0_fitsFormat := goodIn_r _ [10, 11, 12, 13, 14, 15, 16, 17, 18, 19, 20, 21, 9, 22, 23, 24, 25, 26, 27, 28, 29, 30, 31, 32, 33, 41, 42, 43, 44, 45, 46, 47, 48, 49, 50, 51, 52, 53, 54, 55] (by decide +kernel) (by decide +kernel)
set_option maxRecDepth 20000 in
theorem gX6_needAllowed_X0_fitsFormat : GoodIn wsX6_needAllowed (wsV RX6 215 RX0 yX0_fitsFormat wsX0_fitsFormat) := goodIn_app (goodIn_of _ (by decide +kernel)) ggX6_needAllowed_X0_fitsFormat
theorem dX6_needAllowed_0 : decode cX6_needAllowed 0 = .ok (.aload_n 0, 1) := by decide +kernel
theorem dX6_needAllowed_1 : decode cX6_needAllowed 1 = .ok (.getfield 26, 3) := by decide +kernel
theorem dX6_needAllowed_4 : decode cX6_needAllowed 4 = .ok (.iload_n 1, 1) := by decide +kernel
theorem dX6_needAllowed_5 : decode cX6_needAllowed 5 = .ok (.aload_n 0, 1) := by decide +kernel
theorem dX6_needAllowed_6 : decode cX6_needAllowed 6 = .ok (.getfield 10, 3) := by decide +kernel
theorem dX6_needAllowed_9 : decode cX6_needAllowed 9 = .ok (.aload_n 0, 1) := by decide +kernel
theorem dX6_needAllowed_10 : decode cX6_needAllowed 10 = .ok (.getfield 19, 3) := by decide +kernel
theorem dX6_needAllowed_13 : decode cX6_needAllowed 13 = .ok (.invokevirtual 215, 3) := by decide +kernel
theorem dX6_needAllowed_16 : decode cX6_needAllowed 16 = .ok (.ifCond .ne 14, 3) := by decide +kernel
theorem dX6_needAllowed_19 : decode cX6_needAllowed 19 = .ok (.new 90, 3) := by decide +kernel
theorem dX6_needAllowed_22 : decode cX6_needAllowed 22 = .ok (.dup, 1) := by decide +kernel
theorem dX6_needAllowed_23 : decode cX6_needAllowed 23 = .ok (.ldc_w 257, 3) := by decide +kernel
theorem dX6_needAllowed_26 : decode cX6_needAllowed 26 = .ok (.invokespecial 94, 3) := by decide +kernel
theorem dX6_needAllowed_29 : decode cX6_needAllowed 29 = .ok (.athrow, 1) := by decide +kernel
theorem dX6_needAllowed_30 : decode cX6_needAllowed 30 = .ok (.return_, 1) := by decide +kernel
set_option maxRecDepth 20000 in
theorem ggX6_playRound_X5_endRound : GoodIn wsX6_playRound wsX5_endRound := goodIn_r _ [15, 16, 17, 29, 30, 31] (by decide +kernel) (by decide +kernel)
set_option maxRecDepth 20000 in
theorem gX6_playRound_X5_endRound : GoodIn wsX6_playRound (wsV RX6 263 RX5 yX5_endRound wsX5_endRound) := goodIn_app (goodIn_of _ (by decide +kernel)) ggX6_playRound_X5_endRound
theorem dX6_playRound_0 : decode cX6_playRound 0 = .ok (.aload_n 0, 1) := by decide +kernel
theorem dX6_playRound_1 : decode cX6_playRound 1 = .ok (.getfield 19, 3) := by decide +kernel
theorem dX6_playRound_4 : decode cX6_playRound 4 = .ok (.getfield 170, 3) := by decide +kernel
theorem dX6_playRound_7 : decode cX6_playRound 7 = .ok (.aload_n 0, 1) := by decide +kernel
theorem dX6_playRound_8 : decode cX6_playRound 8 = .ok (.getfield 47, 3) := by decide +kernel
theorem dX6_playRound_11 : decode cX6_playRound 11 = .ok (.getfield 259, 3) := by decide +kernel
theorem dX6_playRound_14 : decode cX6_playRound 14 = .ok (.getfield 222, 3) := by decide +kernel
theorem dX6_playRound_17 : decode cX6_playRound 17 = .ok (.iload_n 1, 1) := by decide +kernel
theorem dX6_playRound_18 : decode cX6_playRound 18 = .ok (.iaload, 1) := by decide +kernel
theorem dX6_playRound_19 : decode cX6_playRound 19 = .ok (.iaload, 1) := by decide +kernel
theorem dX6_playRound_20 : decode cX6_playRound 20 = .ok (.istore_n 2, 1) := by decide +kernel
theorem dX6_playRound_21 : decode cX6_playRound 21 = .ok (.aload_n 0, 1) := by decide +kernel
theorem dX6_playRound_22 : decode cX6_playRound 22 = .ok (.getfield 19, 3) := by decide +kernel
theorem dX6_playRound_25 : decode cX6_playRound 25 = .ok (.getfield 170, 3) := by decide +kernel
theorem dX6_playRound_28 : decode cX6_playRound 28 = .ok (.aload_n 0, 1) := by decide +kernel
theorem dX6_playRound_29 : decode cX6_playRound 29 = .ok (.getfield 51, 3) := by decide +kernel
theorem dX6_playRound_32 : decode cX6_playRound 32 = .ok (.getfield 259, 3) := by decide +kernel
theorem dX6_playRound_35 : decode cX6_playRound 35 = .ok (.getfield 222, 3) := by decide +kernel
theorem dX6_playRound_38 : decode cX6_playRound 38 = .ok (.iload_n 1, 1) := by decide +kernel
theorem dX6_playRound_39 : decode cX6_playRound 39 = .ok (.iaload, 1) := by decide +kernel
theorem dX6_playRound_40 : decode cX6_playRound 40 = .ok (.iaload, 1) := by decide +kernel
theorem dX6_playRound_41 : decode cX6_playRound 41 = .ok (.istore_n 3, 1) := by decide +kernel
theorem dX6_playRound_42 : decode cX6_playRound 42 = .ok (.aload_n 0, 1) := by decide +kernel
theorem dX6_playRound_43 : decode cX6_playRound 43 = .ok (.getfield 10, 3) := by decide +kernel
theorem dX6_playRound_46 : decode cX6_playRound 46 = .ok (.getfield 62, 3) := by decide +kernel
theorem dX6_playRound_49 : decode cX6_playRound 49 = .ok (.iload_n 2, 1) := by decide +kernel
theorem dX6_playRound_50 : decode cX6_playRound 50 = .ok (.iaload, 1) := by decide +kernel
theorem dX6_playRound_51 : decode cX6_playRound 51 = .ok (.aload_n 0, 1) := by decide +kernel
theorem dX6_playRound_52 : decode cX6_playRound 52 = .ok (.getfield 47, 3) := by decide +kernel
theorem dX6_playRound_55 : decode cX6_playRound 55 = .ok (.getfield 260, 3) := by decide +kernel
theorem dX6_playRound_58 : decode cX6_playRound 58 = .ok (.iadd, 1) := by decide +kernel
theorem dX6_playRound_59 : decode cX6_playRound 59 = .ok (.istore 4, 2) := by decide +kernel
theorem dX6_playRound_61 : decode cX6_playRound 61 = .ok (.aload_n 0, 1) := by decide +kernel
theorem dX6_playRound_62 : decode cX6_playRound 62 = .ok (.getfield 10, 3) := by decide +kernel
theorem dX6_playRound_65 : decode cX6_playRound 65 = .ok (.getfield 62, 3) := by decide +kernel
theorem dX6_playRound_68 : decode cX6_playRound 68 = .ok (.iload_n 3, 1) := by decide +kernel
theorem dX6_playRound_69 : decode cX6_playRound 69 = .ok (.iaload, 1) := by decide +kernel
theorem dX6_playRound_70 : decode cX6_playRound 70 = .ok (.aload_n 0, 1) := by decide +kernel
theorem dX6_playRound_71 : decode cX6_playRound 71 = .ok (.getfield 51, 3) := by decide +kernel
theorem dX6_playRound_74 : decode cX6_playRound 74 = .ok (.getfield 260, 3) := by decide +kernel
theorem dX6_playRound_77 : decode cX6_playRound 77 = .ok (.iadd, 1) := by decide +kernel
theorem dX6_playRound_78 : decode cX6_playRound 78 = .ok (.istore 5, 2) := by decide +kernel
theorem dX6_playRound_80 : decode cX6_playRound 80 = .ok (.aload_n 0, 1) := by decide +kernel
theorem dX6_playRound_81 : decode cX6_playRound 81 = .ok (.getfield 10, 3) := by decide +kernel
theorem dX6_playRound_84 : decode cX6_playRound 84 = .ok (.getfield 66, 3) := by decide +kernel
theorem dX6_playRound_87 : decode cX6_playRound 87 = .ok (.iload_n 2, 1) := by decide +kernel
theorem dX6_playRound_88 : decode cX6_playRound 88 = .ok (.iaload, 1) := by decide +kernel
theorem dX6_playRound_89 : decode cX6_playRound 89 = .ok (.istore 6, 2) := by decide +kernel
theorem dX6_playRound_91 : decode cX6_playRound 91 = .ok (.aload_n 0, 1) := by decide +kernel
theorem dX6_playRound_92 : decode cX6_playRound 92 = .ok (.getfield 10, 3) := by decide +kernel
theorem dX6_playRound_95 : decode cX6_playRound 95 = .ok (.getfield 66, 3) := by decide +kernel
theorem dX6_playRound_98 : decode cX6_playRound 98 = .ok (.iload_n 3, 1) := by decide +kernel
theorem dX6_playRound_99 : decode cX6_playRound 99 = .ok (.iaload, 1) := by decide +kernel
theorem dX6_playRound_100 : decode cX6_playRound 100 = .ok (.istore 7, 2) := by decide +kernel
theorem dX6_playRound_102 : decode cX6_playRound 102 = .ok (.aload_n 0, 1) := by decide +kernel
theorem dX6_playRound_103 : decode cX6_playRound 103 = .ok (.getfield 47, 3) := by decide +kernel
theorem dX6_playRound_106 : decode cX6_playRound 106 = .ok (.iload 4, 2) := by decide +kernel
theorem dX6_playRound_108 : decode cX6_playRound 108 = .ok (.iload 5, 2) := by decide +kernel
theorem dX6_playRound_110 : decode cX6_playRound 110 = .ok (.if_icmp .le 7, 3) := by decide +kernel
theorem dX6_playRound_113 : decode cX6_playRound 113 = .ok (.iconst 1, 1) := by decide +kernel
theorem dX6_playRound_114 : decode cX6_playRound 114 = .ok (.goto 4, 3) := by decide +kernel
theorem dX6_playRound_117 : decode cX6_playRound 117 = .ok (.iconst 0, 1) := by decide +kernel
theorem dX6_playRound_118 : decode cX6_playRound 118 = .ok (.iload 6, 2) := by decide +kernel
theorem dX6_playRound_120 : decode cX6_playRound 120 = .ok (.iload 7, 2) := by decide +kernel
theorem dX6_playRound_122 : decode cX6_playRound 122 = .ok (.invokevirtual 263, 3) := by decide +kernel
theorem dX6_playRound_125 : decode cX6_playRound 125 = .ok (.aload_n 0, 1) := by decide +kernel
theorem dX6_playRound_126 : decode cX6_playRound 126 = .ok (.getfield 51, 3) := by decide +kernel
theorem dX6_playRound_129 : decode cX6_playRound 129 = .ok (.iload 5, 2) := by decide +kernel
theorem dX6_playRound_131 : decode cX6_playRound 131 = .ok (.iload 4, 2) := by decide +kernel
theorem dX6_playRound_133 : decode cX6_playRound 133 = .ok (.if_icmp .le 7, 3) := by decide +kernel
theorem dX6_playRound_136 : decode cX6_playRound 136 = .ok (.iconst 1, 1) := by decide +kernel
theorem dX6_playRound_137 : decode cX6_playRound 137 = .ok (.goto 4, 3) := by decide +kernel
theorem dX6_playRound_140 : decode cX6_playRound 140 = .ok (.iconst 0, 1) := by decide +kernel
theorem dX6_playRound_141 : decode cX6_playRound 141 = .ok (.iload 7, 2) := by decide +kernel
theorem dX6_playRound_143 : decode cX6_playRound 143 = .ok (.iload 6, 2) := by decide +kernel
theorem dX6_playRound_145 : decode cX6_playRound 145 = .ok (.invokevirtual 263, 3) := by decide +kernel
theorem dX6_playRound_148 : decode cX6_playRound 148 = .ok (.return_, 1) := by decide +kernel
set_option maxRecDepth 20000 in
theorem ggX6_giveWins_X0_countOf : GoodIn wsX6_giveWins wsX0_countOf := goodIn_r _ [9, 10, 11, 12, 8, 13, 14, 15, 16, 17, 18, 19, 20, 21, 22, 23, 36, 37, 38, 39, 40, 41, 42, 43, 44, 45] (by decide +kernel) (by decide +kernel)
set_option maxRecDepth 20000 in
theorem gX6_giveWins_X0_countOf : GoodIn wsX6_giveWins (wsV RX6 225 RX0 yX0_countOf wsX0_countOf) := goodIn_app (goodIn_of _ (by decide +kernel)) ggX6_giveWins_X0_countOf
theorem dX6_giveWins_0 : decode cX6_giveWins 0 = .ok (.iconst 0, 1) := by decide +kernel
theorem dX6_giveWins_1 : decode cX6_giveWins 1 = .ok (.istore_n 2, 1) := by decide +kernel
theorem dX6_giveWins_2 : decode cX6_giveWins 2 = .ok (.iload_n 2, 1) := by decide +kernel
theorem dX6_giveWins_3 : decode cX6_giveWins 3 = .ok (.bipush 16, 2) := by decide +kernel
theorem dX6_giveWins_5 : decode cX6_giveWins 5 = .ok (.if_icmp .ge 38, 3) := by decide +kernel
theorem dX6_giveWins_8 : decode cX6_giveWins 8 = .ok (.aload_n 0, 1) := by decide +kernel
theorem dX6_giveWins_9 : decode cX6_giveWins 9 = .ok (.getfield 26, 3) := by decide +kernel
theorem dX6_giveWins_12 : decode cX6_giveWins 12 = .ok (.iload_n 1, 1) := by decide +kernel
theorem dX6_giveWins_13 : decode cX6_giveWins 13 = .ok (.iload_n 2, 1) := by decide +kernel
theorem dX6_giveWins_14 : decode cX6_giveWins 14 = .ok (.aload_n 0, 1) := by decide +kernel
theorem dX6_giveWins_15 : decode cX6_giveWins 15 = .ok (.getfield 19, 3) := by decide +kernel
theorem dX6_giveWins_18 : decode cX6_giveWins 18 = .ok (.invokevirtual 225, 3) := by decide +kernel
theorem dX6_giveWins_21 : decode cX6_giveWins 21 = .ok (.ifCond .le 16, 3) := by decide +kernel
theorem dX6_giveWins_24 : decode cX6_giveWins 24 = .ok (.aload_n 0, 1) := by decide +kernel
theorem dX6_giveWins_25 : decode cX6_giveWins 25 = .ok (.getfield 10, 3) := by decide +kernel
theorem dX6_giveWins_28 : decode cX6_giveWins 28 = .ok (.getfield 212, 3) := by decide +kernel
theorem dX6_giveWins_31 : decode cX6_giveWins 31 = .ok (.iload_n 2, 1) := by decide +kernel
theorem dX6_giveWins_32 : decode cX6_giveWins 32 = .ok (.dup2, 1) := by decide +kernel
theorem dX6_giveWins_33 : decode cX6_giveWins 33 = .ok (.iaload, 1) := by decide +kernel
theorem dX6_giveWins_34 : decode cX6_giveWins 34 = .ok (.iconst 1, 1) := by decide +kernel
theorem dX6_giveWins_35 : decode cX6_giveWins 35 = .ok (.iadd, 1) := by decide +kernel
theorem dX6_giveWins_36 : decode cX6_giveWins 36 = .ok (.iastore, 1) := by decide +kernel
theorem dX6_giveWins_37 : decode cX6_giveWins 37 = .ok (.iinc 2 1, 3) := by decide +kernel
theorem dX6_giveWins_40 : decode cX6_giveWins 40 = .ok (.goto (-38), 3) := by decide +kernel
theorem dX6_giveWins_43 : decode cX6_giveWins 43 = .ok (.return_, 1) := by decide +kernel
set_option maxRecDepth 20000 in
theorem ggX6_countOrders_X6_countOrders : GoodIn wsX6_countOrders wsX6_countOrders := goodIn_r _ [0, 1, 2, 3] (by decide +kernel) (by decide +kernel)
set_option maxRecDepth 20000 in
theorem gX6_countOrders_X6_countOrders : GoodIn wsX6_countOrders (va_wsS RX6 232 yX6_countOrders wsX6_countOrders) := goodIn_app (goodIn_of _ (by decide +kernel)) ggX6_countOrders_X6_countOrders
theorem dX6_countOrders_0 : decode cX6_countOrders 0 = .ok (.iload_n 0, 1) := by decide +kernel
theorem dX6_countOrders_1 : decode cX6_countOrders 1 = .ok (.iload_n 1, 1) := by decide +kernel
theorem dX6_countOrders_2 : decode cX6_countOrders 2 = .ok (.if_icmp .ge 9, 3) := by decide +kernel
theorem dX6_countOrders_5 : decode cX6_countOrders 5 = .ok (.iload_n 0, 1) := by decide +kernel
theorem dX6_countOrders_6 : decode cX6_countOrders 6 = .ok (.bipush 7, 2) := by decide +kernel
theorem dX6_countOrders_8 : decode cX6_countOrders 8 = .ok (.if_icmp .lt 14, 3) := by decide +kernel
theorem dX6_countOrders_11 : decode cX6_countOrders 11 = .ok (.iload 5, 2) := by decide +kernel
theorem dX6_countOrders_13 : decode cX6_countOrders 13 = .ok (.ifCond .eq 7, 3) := by decide +kernel
theorem dX6_countOrders_16 : decode cX6_countOrders 16 = .ok (.iconst 1, 1) := by decide +kernel
theorem dX6_countOrders_17 : decode cX6_countOrders 17 = .ok (.goto 4, 3) := by decide +kernel
theorem dX6_countOrders_20 : decode cX6_countOrders 20 = .ok (.iconst 0, 1) := by decide +kernel
theorem dX6_countOrders_21 : decode cX6_countOrders 21 = .ok (.ireturn, 1) := by decide +kernel
theorem dX6_countOrders_22 : decode cX6_countOrders 22 = .ok (.iconst 0, 1) := by decide +kernel
theorem dX6_countOrders_23 : decode cX6_countOrders 23 = .ok (.istore 6, 2) := by decide +kernel
theorem dX6_countOrders_25 : decode cX6_countOrders 25 = .ok (.iconst 0, 1) := by decide +kernel
theorem dX6_countOrders_26 : decode cX6_countOrders 26 = .ok (.istore 7, 2) := by decide +kernel
theorem dX6_countOrders_28 : decode cX6_countOrders 28 = .ok (.iload 7, 2) := by decide +kernel
theorem dX6_countOrders_30 : decode cX6_countOrders 30 = .ok (.iload_n 1, 1) := by decide +kernel
theorem dX6_countOrders_31 : decode cX6_countOrders 31 = .ok (.if_icmp .ge 68, 3) := by decide +kernel
theorem dX6_countOrders_34 : decode cX6_countOrders 34 = .ok (.iconst 1, 1) := by decide +kernel
theorem dX6_countOrders_35 : decode cX6_countOrders 35 = .ok (.iload 7, 2) := by decide +kernel
theorem dX6_countOrders_37 : decode cX6_countOrders 37 = .ok (.ishl, 1) := by decide +kernel
theorem dX6_countOrders_38 : decode cX6_countOrders 38 = .ok (.istore 8, 2) := by decide +kernel
theorem dX6_countOrders_40 : decode cX6_countOrders 40 = .ok (.iload_n 2, 1) := by decide +kernel
theorem dX6_countOrders_41 : decode cX6_countOrders 41 = .ok (.iload 8, 2) := by decide +kernel
theorem dX6_countOrders_43 : decode cX6_countOrders 43 = .ok (.iand, 1) := by decide +kernel
theorem dX6_countOrders_44 : decode cX6_countOrders 44 = .ok (.ifCond .ne 49, 3) := by decide +kernel
theorem dX6_countOrders_47 : decode cX6_countOrders 47 = .ok (.iload 5, 2) := by decide +kernel
theorem dX6_countOrders_49 : decode cX6_countOrders 49 = .ok (.ifCond .ne 16, 3) := by decide +kernel
theorem dX6_countOrders_52 : decode cX6_countOrders 52 = .ok (.iload_n 0, 1) := by decide +kernel
theorem dX6_countOrders_53 : decode cX6_countOrders 53 = .ok (.iload 4, 2) := by decide +kernel
theorem dX6_countOrders_55 : decode cX6_countOrders 55 = .ok (.if_icmp .ge 14, 3) := by decide +kernel
theorem dX6_countOrders_58 : decode cX6_countOrders 58 = .ok (.iload_n 3, 1) := by decide +kernel
theorem dX6_countOrders_59 : decode cX6_countOrders 59 = .ok (.iload 8, 2) := by decide +kernel
theorem dX6_countOrders_61 : decode cX6_countOrders 61 = .ok (.iand, 1) := by decide +kernel
theorem dX6_countOrders_62 : decode cX6_countOrders 62 = .ok (.ifCond .eq 7, 3) := by decide +kernel
theorem dX6_countOrders_65 : decode cX6_countOrders 65 = .ok (.iconst 1, 1) := by decide +kernel
theorem dX6_countOrders_66 : decode cX6_countOrders 66 = .ok (.goto 4, 3) := by decide +kernel
theorem dX6_countOrders_69 : decode cX6_countOrders 69 = .ok (.iconst 0, 1) := by decide +kernel
theorem dX6_countOrders_70 : decode cX6_countOrders 70 = .ok (.istore 9, 2) := by decide +kernel
theorem dX6_countOrders_72 : decode cX6_countOrders 72 = .ok (.iload 6, 2) := by decide +kernel
theorem dX6_countOrders_74 : decode cX6_countOrders 74 = .ok (.iload_n 0, 1) := by decide +kernel
theorem dX6_countOrders_75 : decode cX6_countOrders 75 = .ok (.iconst 1, 1) := by decide +kernel
theorem dX6_countOrders_76 : decode cX6_countOrders 76 = .ok (.iadd, 1) := by decide +kernel
theorem dX6_countOrders_77 : decode cX6_countOrders 77 = .ok (.iload_n 1, 1) := by decide +kernel
theorem dX6_countOrders_78 : decode cX6_countOrders 78 = .ok (.iload_n 2, 1) := by decide +kernel
theorem dX6_countOrders_79 : decode cX6_countOrders 79 = .ok (.iload 8, 2) := by decide +kernel
theorem dX6_countOrders_81 : decode cX6_countOrders 81 = .ok (.ior, 1) := by decide +kernel
theorem dX6_countOrders_82 : decode cX6_countOrders 82 = .ok (.iload_n 3, 1) := by decide +kernel
theorem dX6_countOrders_83 : decode cX6_countOrders 83 = .ok (.iload 4, 2) := by decide +kernel
theorem dX6_countOrders_85 : decode cX6_countOrders 85 = .ok (.iload 9, 2) := by decide +kernel
theorem dX6_countOrders_87 : decode cX6_countOrders 87 = .ok (.invokestatic 232, 3) := by decide +kernel
theorem dX6_countOrders_90 : decode cX6_countOrders 90 = .ok (.iadd, 1) := by decide +kernel
theorem dX6_countOrders_91 : decode cX6_countOrders 91 = .ok (.istore 6, 2) := by decide +kernel
theorem dX6_countOrders_93 : decode cX6_countOrders 93 = .ok (.iinc 7 1, 3) := by decide +kernel
theorem dX6_countOrders_96 : decode cX6_countOrders 96 = .ok (.goto (-68), 3) := by decide +kernel
theorem dX6_countOrders_99 : decode cX6_countOrders 99 = .ok (.iload 6, 2) := by decide +kernel
theorem dX6_countOrders_101 : decode cX6_countOrders 101 = .ok (.ireturn, 1) := by decide +kernel
theorem dJ6_bitCount_0f7a4_0 : decode cJ6_bitCount_0f7a4 0 = .ok (.iload_n 0, 1) := by decide +kernel
theorem dJ6_bitCount_0f7a4_1 : decode cJ6_bitCount_0f7a4 1 = .ok (.iload_n 0, 1) := by decide +kernel
theorem dJ6_bitCount_0f7a4_2 : decode cJ6_bitCount_0f7a4 2 = .ok (.iconst 1, 1) := by decide +kernel
theorem dJ6_bitCount_0f7a4_3 : decode cJ6_bitCount_0f7a4 3 = .ok (.iushr, 1) := by decide +kernel
theorem dJ6_bitCount_0f7a4_4 : decode cJ6_bitCount_0f7a4 4 = .ok (.ldc_w 265, 3) := by decide +kernel
theorem dJ6_bitCount_0f7a4_7 : decode cJ6_bitCount_0f7a4 7 = .ok (.iand, 1) := by decide +kernel
theorem dJ6_bitCount_0f7a4_8 : decode cJ6_bitCount_0f7a4 8 = .ok (.isub, 1) := by decide +kernel
theorem dJ6_bitCount_0f7a4_9 : decode cJ6_bitCount_0f7a4 9 = .ok (.istore_n 0, 1) := by decide +kernel
theorem dJ6_bitCount_0f7a4_10 : decode cJ6_bitCount_0f7a4 10 = .ok (.iload_n 0, 1) := by decide +kernel
theorem dJ6_bitCount_0f7a4_11 : decode cJ6_bitCount_0f7a4 11 = .ok (.ldc_w 266, 3) := by decide +kernel
theorem dJ6_bitCount_0f7a4_14 : decode cJ6_bitCount_0f7a4 14 = .ok (.iand, 1) := by decide +kernel
theorem dJ6_bitCount_0f7a4_15 : decode cJ6_bitCount_0f7a4 15 = .ok (.iload_n 0, 1) := by decide +kernel
theorem dJ6_bitCount_0f7a4_16 : decode cJ6_bitCount_0f7a4 16 = .ok (.iconst 2, 1) := by decide +kernel
theorem dJ6_bitCount_0f7a4_17 : decode cJ6_bitCount_0f7a4 17 = .ok (.iushr, 1) := by decide +kernel
theorem dJ6_bitCount_0f7a4_18 : decode cJ6_bitCount_0f7a4 18 = .ok (.ldc_w 266, 3) := by decide +kernel
theorem dJ6_bitCount_0f7a4_21 : decode cJ6_bitCount_0f7a4 21 = .ok (.iand, 1) := by decide +kernel
theorem dJ6_bitCount_0f7a4_22 : decode cJ6_bitCount_0f7a4 22 = .ok (.iadd, 1) := by decide +kernel
theorem dJ6_bitCount_0f7a4_23 : decode cJ6_bitCount_0f7a4 23 = .ok (.istore_n 0, 1) := by decide +kernel
theorem dJ6_bitCount_0f7a4_24 : decode cJ6_bitCount_0f7a4 24 = .ok (.iload_n 0, 1) := by decide +kernel
theorem dJ6_bitCount_0f7a4_25 : decode cJ6_bitCount_0f7a4 25 = .ok (.iload_n 0, 1) := by decide +kernel
theorem dJ6_bitCount_0f7a4_26 : decode cJ6_bitCount_0f7a4 26 = .ok (.iconst 4, 1) := by decide +kernel
theorem dJ6_bitCount_0f7a4_27 : decode cJ6_bitCount_0f7a4 27 = .ok (.iushr, 1) := by decide +kernel
theorem dJ6_bitCount_0f7a4_28 : decode cJ6_bitCount_0f7a4 28 = .ok (.iadd, 1) := by decide +kernel
theorem dJ6_bitCount_0f7a4_29 : decode cJ6_bitCount_0f7a4 29 = .ok (.ldc_w 267, 3) := by decide +kernel
theorem dJ6_bitCount_0f7a4_32 : decode cJ6_bitCount_0f7a4 32 = .ok (.iand, 1) := by decide +kernel
theorem dJ6_bitCount_0f7a4_33 : decode cJ6_bitCount_0f7a4 33 = .ok (.istore_n 0, 1) := by decide +kernel
theorem dJ6_bitCount_0f7a4_34 : decode cJ6_bitCount_0f7a4 34 = .ok (.iload_n 0, 1) := by decide +kernel
theorem dJ6_bitCount_0f7a4_35 : decode cJ6_bitCount_0f7a4 35 = .ok (.iload_n 0, 1) := by decide +kernel
theorem dJ6_bitCount_0f7a4_36 : decode cJ6_bitCount_0f7a4 36 = .ok (.bipush 8, 2) := by decide +kernel
theorem dJ6_bitCount_0f7a4_38 : decode cJ6_bitCount_0f7a4 38 = .ok (.iushr, 1) := by decide +kernel
theorem dJ6_bitCount_0f7a4_39 : decode cJ6_bitCount_0f7a4 39 = .ok (.iadd, 1) := by decide +kernel
theorem dJ6_bitCount_0f7a4_40 : decode cJ6_bitCount_0f7a4 40 = .ok (.istore_n 0, 1) := by decide +kernel
theorem dJ6_bitCount_0f7a4_41 : decode cJ6_bitCount_0f7a4 41 = .ok (.iload_n 0, 1) := by decide +kernel
theorem dJ6_bitCount_0f7a4_42 : decode cJ6_bitCount_0f7a4 42 = .ok (.iload_n 0, 1) := by decide +kernel
theorem dJ6_bitCount_0f7a4_43 : decode cJ6_bitCount_0f7a4 43 = .ok (.bipush 16, 2) := by decide +kernel
theorem dJ6_bitCount_0f7a4_45 : decode cJ6_bitCount_0f7a4 45 = .ok (.iushr, 1) := by decide +kernel
theorem dJ6_bitCount_0f7a4_46 : decode cJ6_bitCount_0f7a4 46 = .ok (.iadd, 1) := by decide +kernel
theorem dJ6_bitCount_0f7a4_47 : decode cJ6_bitCount_0f7a4 47 = .ok (.istore_n 0, 1) := by decide +kernel
theorem dJ6_bitCount_0f7a4_48 : decode cJ6_bitCount_0f7a4 48 = .ok (.iload_n 0, 1) := by decide +kernel
theorem dJ6_bitCount_0f7a4_49 : decode cJ6_bitCount_0f7a4 49 = .ok (.bipush 63, 2) := by decide +kernel
theorem dJ6_bitCount_0f7a4_51 : decode cJ6_bitCount_0f7a4 51 = .ok (.iand, 1) := by decide +kernel
theorem dJ6_bitCount_0f7a4_52 : decode cJ6_bitCount_0f7a4 52 = .ok (.ireturn, 1) := by decide +kernel
