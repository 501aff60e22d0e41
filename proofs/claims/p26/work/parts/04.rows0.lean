theorem dX0_init_0 : decode cX0_init 0 = .ok (.aload_n 0, 1) := by decide +kernel
theorem dX0_init_1 : decode cX0_init 1 = .ok (.invokespecial 3, 3) := by decide +kernel
theorem dX0_init_4 : decode cX0_init 4 = .ok (.aload_n 0, 1) := by decide +kernel
theorem dX0_init_5 : decode cX0_init 5 = .ok (.bipush 12, 2) := by decide +kernel
theorem dX0_init_7 : decode cX0_init 7 = .ok (.newarray .int, 2) := by decide +kernel
theorem dX0_init_9 : decode cX0_init 9 = .ok (.putfield 9, 3) := by decide +kernel
theorem dX0_init_12 : decode cX0_init 12 = .ok (.aload_n 0, 1) := by decide +kernel
theorem dX0_init_13 : decode cX0_init 13 = .ok (.bipush 12, 2) := by decide +kernel
theorem dX0_init_15 : decode cX0_init 15 = .ok (.newarray .int, 2) := by decide +kernel
theorem dX0_init_17 : decode cX0_init 17 = .ok (.putfield 15, 3) := by decide +kernel
theorem dX0_init_20 : decode cX0_init 20 = .ok (.aload_n 0, 1) := by decide +kernel
theorem dX0_init_21 : decode cX0_init 21 = .ok (.bipush 12, 2) := by decide +kernel
theorem dX0_init_23 : decode cX0_init 23 = .ok (.bipush 10, 2) := by decide +kernel
theorem dX0_init_25 : decode cX0_init 25 = .ok (.multianewarray 18 2, 4) := by decide +kernel
theorem dX0_init_29 : decode cX0_init 29 = .ok (.putfield 20, 3) := by decide +kernel
theorem dX0_init_32 : decode cX0_init 32 = .ok (.aload_n 0, 1) := by decide +kernel
theorem dX0_init_33 : decode cX0_init 33 = .ok (.iconst 4, 1) := by decide +kernel
theorem dX0_init_34 : decode cX0_init 34 = .ok (.putfield 23, 3) := by decide +kernel
theorem dX0_init_37 : decode cX0_init 37 = .ok (.aload_n 0, 1) := by decide +kernel
theorem dX0_init_38 : decode cX0_init 38 = .ok (.iconst 2, 1) := by decide +kernel
theorem dX0_init_39 : decode cX0_init 39 = .ok (.putfield 27, 3) := by decide +kernel
theorem dX0_init_42 : decode cX0_init 42 = .ok (.return_, 1) := by decide +kernel
theorem dX0_append_0 : decode cX0_append 0 = .ok (.aload_n 0, 1) := by decide +kernel
theorem dX0_append_1 : decode cX0_append 1 = .ok (.getfield 30, 3) := by decide +kernel
theorem dX0_append_4 : decode cX0_append 4 = .ok (.istore_n 2, 1) := by decide +kernel
theorem dX0_append_5 : decode cX0_append 5 = .ok (.aload_n 0, 1) := by decide +kernel
theorem dX0_append_6 : decode cX0_append 6 = .ok (.getfield 9, 3) := by decide +kernel
theorem dX0_append_9 : decode cX0_append 9 = .ok (.iload_n 2, 1) := by decide +kernel
theorem dX0_append_10 : decode cX0_append 10 = .ok (.iload_n 1, 1) := by decide +kernel
theorem dX0_append_11 : decode cX0_append 11 = .ok (.iastore, 1) := by decide +kernel
theorem dX0_append_12 : decode cX0_append 12 = .ok (.aload_n 0, 1) := by decide +kernel
theorem dX0_append_13 : decode cX0_append 13 = .ok (.dup, 1) := by decide +kernel
theorem dX0_append_14 : decode cX0_append 14 = .ok (.getfield 30, 3) := by decide +kernel
theorem dX0_append_17 : decode cX0_append 17 = .ok (.iconst 1, 1) := by decide +kernel
theorem dX0_append_18 : decode cX0_append 18 = .ok (.iadd, 1) := by decide +kernel
theorem dX0_append_19 : decode cX0_append 19 = .ok (.putfield 30, 3) := by decide +kernel
theorem dX0_append_22 : decode cX0_append 22 = .ok (.iload_n 2, 1) := by decide +kernel
theorem dX0_append_23 : decode cX0_append 23 = .ok (.ireturn, 1) := by decide +kernel
theorem dX0_holds_0 : decode cX0_holds 0 = .ok (.iconst 0, 1) := by decide +kernel
theorem dX0_holds_1 : decode cX0_holds 1 = .ok (.istore_n 3, 1) := by decide +kernel
theorem dX0_holds_2 : decode cX0_holds 2 = .ok (.iload_n 3, 1) := by decide +kernel
theorem dX0_holds_3 : decode cX0_holds 3 = .ok (.aload_n 0, 1) := by decide +kernel
theorem dX0_holds_4 : decode cX0_holds 4 = .ok (.getfield 15, 3) := by decide +kernel
theorem dX0_holds_7 : decode cX0_holds 7 = .ok (.iload_n 1, 1) := by decide +kernel
theorem dX0_holds_8 : decode cX0_holds 8 = .ok (.iaload, 1) := by decide +kernel
theorem dX0_holds_9 : decode cX0_holds 9 = .ok (.if_icmp .ge 23, 3) := by decide +kernel
theorem dX0_holds_12 : decode cX0_holds 12 = .ok (.aload_n 0, 1) := by decide +kernel
theorem dX0_holds_13 : decode cX0_holds 13 = .ok (.getfield 20, 3) := by decide +kernel
theorem dX0_holds_16 : decode cX0_holds 16 = .ok (.iload_n 1, 1) := by decide +kernel
theorem dX0_holds_17 : decode cX0_holds 17 = .ok (.aaload, 1) := by decide +kernel
theorem dX0_holds_18 : decode cX0_holds 18 = .ok (.iload_n 3, 1) := by decide +kernel
theorem dX0_holds_19 : decode cX0_holds 19 = .ok (.iaload, 1) := by decide +kernel
theorem dX0_holds_20 : decode cX0_holds 20 = .ok (.iload_n 2, 1) := by decide +kernel
theorem dX0_holds_21 : decode cX0_holds 21 = .ok (.if_icmp .ne 5, 3) := by decide +kernel
theorem dX0_holds_24 : decode cX0_holds 24 = .ok (.iconst 1, 1) := by decide +kernel
theorem dX0_holds_25 : decode cX0_holds 25 = .ok (.ireturn, 1) := by decide +kernel
theorem dX0_holds_26 : decode cX0_holds 26 = .ok (.iinc 3 1, 3) := by decide +kernel
theorem dX0_holds_29 : decode cX0_holds 29 = .ok (.goto (-27), 3) := by decide +kernel
theorem dX0_holds_32 : decode cX0_holds 32 = .ok (.iconst 0, 1) := by decide +kernel
theorem dX0_holds_33 : decode cX0_holds 33 = .ok (.ireturn, 1) := by decide +kernel
theorem dX0_putBehind_0 : decode cX0_putBehind 0 = .ok (.aload_n 0, 1) := by decide +kernel
theorem dX0_putBehind_1 : decode cX0_putBehind 1 = .ok (.getfield 20, 3) := by decide +kernel
theorem dX0_putBehind_4 : decode cX0_putBehind 4 = .ok (.iload_n 1, 1) := by decide +kernel
theorem dX0_putBehind_5 : decode cX0_putBehind 5 = .ok (.aaload, 1) := by decide +kernel
theorem dX0_putBehind_6 : decode cX0_putBehind 6 = .ok (.aload_n 0, 1) := by decide +kernel
theorem dX0_putBehind_7 : decode cX0_putBehind 7 = .ok (.getfield 15, 3) := by decide +kernel
theorem dX0_putBehind_10 : decode cX0_putBehind 10 = .ok (.iload_n 1, 1) := by decide +kernel
theorem dX0_putBehind_11 : decode cX0_putBehind 11 = .ok (.iaload, 1) := by decide +kernel
theorem dX0_putBehind_12 : decode cX0_putBehind 12 = .ok (.iload_n 2, 1) := by decide +kernel
theorem dX0_putBehind_13 : decode cX0_putBehind 13 = .ok (.iastore, 1) := by decide +kernel
theorem dX0_putBehind_14 : decode cX0_putBehind 14 = .ok (.aload_n 0, 1) := by decide +kernel
theorem dX0_putBehind_15 : decode cX0_putBehind 15 = .ok (.getfield 15, 3) := by decide +kernel
theorem dX0_putBehind_18 : decode cX0_putBehind 18 = .ok (.iload_n 1, 1) := by decide +kernel
theorem dX0_putBehind_19 : decode cX0_putBehind 19 = .ok (.dup2, 1) := by decide +kernel
theorem dX0_putBehind_20 : decode cX0_putBehind 20 = .ok (.iaload, 1) := by decide +kernel
theorem dX0_putBehind_21 : decode cX0_putBehind 21 = .ok (.iconst 1, 1) := by decide +kernel
theorem dX0_putBehind_22 : decode cX0_putBehind 22 = .ok (.iadd, 1) := by decide +kernel
theorem dX0_putBehind_23 : decode cX0_putBehind 23 = .ok (.iastore, 1) := by decide +kernel
theorem dX0_putBehind_24 : decode cX0_putBehind 24 = .ok (.aload_n 0, 1) := by decide +kernel
theorem dX0_putBehind_25 : decode cX0_putBehind 25 = .ok (.getfield 15, 3) := by decide +kernel
theorem dX0_putBehind_28 : decode cX0_putBehind 28 = .ok (.iload_n 1, 1) := by decide +kernel
theorem dX0_putBehind_29 : decode cX0_putBehind 29 = .ok (.iaload, 1) := by decide +kernel
theorem dX0_putBehind_30 : decode cX0_putBehind 30 = .ok (.ireturn, 1) := by decide +kernel
theorem dX0_takeOut_0 : decode cX0_takeOut 0 = .ok (.aload_n 0, 1) := by decide +kernel
theorem dX0_takeOut_1 : decode cX0_takeOut 1 = .ok (.getfield 20, 3) := by decide +kernel
theorem dX0_takeOut_4 : decode cX0_takeOut 4 = .ok (.iload_n 1, 1) := by decide +kernel
theorem dX0_takeOut_5 : decode cX0_takeOut 5 = .ok (.aaload, 1) := by decide +kernel
theorem dX0_takeOut_6 : decode cX0_takeOut 6 = .ok (.iload_n 2, 1) := by decide +kernel
theorem dX0_takeOut_7 : decode cX0_takeOut 7 = .ok (.iaload, 1) := by decide +kernel
theorem dX0_takeOut_8 : decode cX0_takeOut 8 = .ok (.istore_n 3, 1) := by decide +kernel
theorem dX0_takeOut_9 : decode cX0_takeOut 9 = .ok (.aload_n 0, 1) := by decide +kernel
theorem dX0_takeOut_10 : decode cX0_takeOut 10 = .ok (.getfield 15, 3) := by decide +kernel
theorem dX0_takeOut_13 : decode cX0_takeOut 13 = .ok (.iload_n 1, 1) := by decide +kernel
theorem dX0_takeOut_14 : decode cX0_takeOut 14 = .ok (.dup2, 1) := by decide +kernel
theorem dX0_takeOut_15 : decode cX0_takeOut 15 = .ok (.iaload, 1) := by decide +kernel
theorem dX0_takeOut_16 : decode cX0_takeOut 16 = .ok (.iconst 1, 1) := by decide +kernel
theorem dX0_takeOut_17 : decode cX0_takeOut 17 = .ok (.isub, 1) := by decide +kernel
theorem dX0_takeOut_18 : decode cX0_takeOut 18 = .ok (.iastore, 1) := by decide +kernel
theorem dX0_takeOut_19 : decode cX0_takeOut 19 = .ok (.iload_n 2, 1) := by decide +kernel
theorem dX0_takeOut_20 : decode cX0_takeOut 20 = .ok (.istore 4, 2) := by decide +kernel
theorem dX0_takeOut_22 : decode cX0_takeOut 22 = .ok (.iload 4, 2) := by decide +kernel
theorem dX0_takeOut_24 : decode cX0_takeOut 24 = .ok (.aload_n 0, 1) := by decide +kernel
theorem dX0_takeOut_25 : decode cX0_takeOut 25 = .ok (.getfield 15, 3) := by decide +kernel
theorem dX0_takeOut_28 : decode cX0_takeOut 28 = .ok (.iload_n 1, 1) := by decide +kernel
theorem dX0_takeOut_29 : decode cX0_takeOut 29 = .ok (.iaload, 1) := by decide +kernel
theorem dX0_takeOut_30 : decode cX0_takeOut 30 = .ok (.if_icmp .ge 29, 3) := by decide +kernel
theorem dX0_takeOut_33 : decode cX0_takeOut 33 = .ok (.aload_n 0, 1) := by decide +kernel
theorem dX0_takeOut_34 : decode cX0_takeOut 34 = .ok (.getfield 20, 3) := by decide +kernel
theorem dX0_takeOut_37 : decode cX0_takeOut 37 = .ok (.iload_n 1, 1) := by decide +kernel
theorem dX0_takeOut_38 : decode cX0_takeOut 38 = .ok (.aaload, 1) := by decide +kernel
theorem dX0_takeOut_39 : decode cX0_takeOut 39 = .ok (.iload 4, 2) := by decide +kernel
theorem dX0_takeOut_41 : decode cX0_takeOut 41 = .ok (.aload_n 0, 1) := by decide +kernel
theorem dX0_takeOut_42 : decode cX0_takeOut 42 = .ok (.getfield 20, 3) := by decide +kernel
theorem dX0_takeOut_45 : decode cX0_takeOut 45 = .ok (.iload_n 1, 1) := by decide +kernel
theorem dX0_takeOut_46 : decode cX0_takeOut 46 = .ok (.aaload, 1) := by decide +kernel
theorem dX0_takeOut_47 : decode cX0_takeOut 47 = .ok (.iload 4, 2) := by decide +kernel
theorem dX0_takeOut_49 : decode cX0_takeOut 49 = .ok (.iconst 1, 1) := by decide +kernel
theorem dX0_takeOut_50 : decode cX0_takeOut 50 = .ok (.iadd, 1) := by decide +kernel
theorem dX0_takeOut_51 : decode cX0_takeOut 51 = .ok (.iaload, 1) := by decide +kernel
theorem dX0_takeOut_52 : decode cX0_takeOut 52 = .ok (.iastore, 1) := by decide +kernel
theorem dX0_takeOut_53 : decode cX0_takeOut 53 = .ok (.iinc 4 1, 3) := by decide +kernel
theorem dX0_takeOut_56 : decode cX0_takeOut 56 = .ok (.goto (-34), 3) := by decide +kernel
theorem dX0_takeOut_59 : decode cX0_takeOut 59 = .ok (.iload_n 3, 1) := by decide +kernel
theorem dX0_takeOut_60 : decode cX0_takeOut 60 = .ok (.ireturn, 1) := by decide +kernel
theorem dX0_placesOf_0 : decode cX0_placesOf 0 = .ok (.iconst 0, 1) := by decide +kernel
theorem dX0_placesOf_1 : decode cX0_placesOf 1 = .ok (.istore 4, 2) := by decide +kernel
theorem dX0_placesOf_3 : decode cX0_placesOf 3 = .ok (.iconst 0, 1) := by decide +kernel
theorem dX0_placesOf_4 : decode cX0_placesOf 4 = .ok (.istore 5, 2) := by decide +kernel
theorem dX0_placesOf_6 : decode cX0_placesOf 6 = .ok (.iload 5, 2) := by decide +kernel
theorem dX0_placesOf_8 : decode cX0_placesOf 8 = .ok (.aload_n 0, 1) := by decide +kernel
theorem dX0_placesOf_9 : decode cX0_placesOf 9 = .ok (.getfield 15, 3) := by decide +kernel
theorem dX0_placesOf_12 : decode cX0_placesOf 12 = .ok (.iload_n 1, 1) := by decide +kernel
theorem dX0_placesOf_13 : decode cX0_placesOf 13 = .ok (.iaload, 1) := by decide +kernel
theorem dX0_placesOf_14 : decode cX0_placesOf 14 = .ok (.if_icmp .ge 36, 3) := by decide +kernel
theorem dX0_placesOf_17 : decode cX0_placesOf 17 = .ok (.aload_n 3, 1) := by decide +kernel
theorem dX0_placesOf_18 : decode cX0_placesOf 18 = .ok (.getfield 33, 3) := by decide +kernel
theorem dX0_placesOf_21 : decode cX0_placesOf 21 = .ok (.aload_n 0, 1) := by decide +kernel
theorem dX0_placesOf_22 : decode cX0_placesOf 22 = .ok (.getfield 20, 3) := by decide +kernel
theorem dX0_placesOf_25 : decode cX0_placesOf 25 = .ok (.iload_n 1, 1) := by decide +kernel
theorem dX0_placesOf_26 : decode cX0_placesOf 26 = .ok (.aaload, 1) := by decide +kernel
theorem dX0_placesOf_27 : decode cX0_placesOf 27 = .ok (.iload 5, 2) := by decide +kernel
theorem dX0_placesOf_29 : decode cX0_placesOf 29 = .ok (.iaload, 1) := by decide +kernel
theorem dX0_placesOf_30 : decode cX0_placesOf 30 = .ok (.iaload, 1) := by decide +kernel
theorem dX0_placesOf_31 : decode cX0_placesOf 31 = .ok (.iload_n 2, 1) := by decide +kernel
theorem dX0_placesOf_32 : decode cX0_placesOf 32 = .ok (.if_icmp .ne 12, 3) := by decide +kernel
theorem dX0_placesOf_35 : decode cX0_placesOf 35 = .ok (.iload 4, 2) := by decide +kernel
theorem dX0_placesOf_37 : decode cX0_placesOf 37 = .ok (.iconst 1, 1) := by decide +kernel
theorem dX0_placesOf_38 : decode cX0_placesOf 38 = .ok (.iload 5, 2) := by decide +kernel
theorem dX0_placesOf_40 : decode cX0_placesOf 40 = .ok (.ishl, 1) := by decide +kernel
theorem dX0_placesOf_41 : decode cX0_placesOf 41 = .ok (.ior, 1) := by decide +kernel
theorem dX0_placesOf_42 : decode cX0_placesOf 42 = .ok (.istore 4, 2) := by decide +kernel
theorem dX0_placesOf_44 : decode cX0_placesOf 44 = .ok (.iinc 5 1, 3) := by decide +kernel
theorem dX0_placesOf_47 : decode cX0_placesOf 47 = .ok (.goto (-41), 3) := by decide +kernel
theorem dX0_placesOf_50 : decode cX0_placesOf 50 = .ok (.iload 4, 2) := by decide +kernel
theorem dX0_placesOf_52 : decode cX0_placesOf 52 = .ok (.ireturn, 1) := by decide +kernel
set_option maxRecDepth 20000 in
theorem ggX0_countOf_X0_placesOf : GoodIn wsX0_countOf wsX0_placesOf := goodIn_r _ [5, 6, 7, 8, 16, 17, 18, 19, 20, 21, 22, 23, 24, 25] (by decide +kernel) (by decide +kernel)
set_option maxRecDepth 20000 in
theorem gX0_countOf_X0_placesOf : GoodIn wsX0_countOf (wsV RX0 38 RX0 yX0_placesOf wsX0_placesOf) := goodIn_app (goodIn_of _ (by decide +kernel)) ggX0_countOf_X0_placesOf
set_option maxRecDepth 20000 in
theorem ggX0_countOf_J6_bitCount_0f7a4 : GoodIn wsX0_countOf wsJ6_bitCount_0f7a4 := goodIn_r _ [12, 13, 14, 15] (by decide +kernel) (by decide +kernel)
set_option maxRecDepth 20000 in
theorem gX0_countOf_J6_bitCount_0f7a4 : GoodIn wsX0_countOf (va_wsS RX0 42 yJ6_bitCount_0f7a4 wsJ6_bitCount_0f7a4) := goodIn_app (goodIn_of _ (by decide +kernel)) ggX0_countOf_J6_bitCount_0f7a4
theorem dX0_countOf_0 : decode cX0_countOf 0 = .ok (.aload_n 0, 1) := by decide +kernel
theorem dX0_countOf_1 : decode cX0_countOf 1 = .ok (.iload_n 1, 1) := by decide +kernel
theorem dX0_countOf_2 : decode cX0_countOf 2 = .ok (.iload_n 2, 1) := by decide +kernel
theorem dX0_countOf_3 : decode cX0_countOf 3 = .ok (.aload_n 3, 1) := by decide +kernel
theorem dX0_countOf_4 : decode cX0_countOf 4 = .ok (.invokevirtual 38, 3) := by decide +kernel
theorem dX0_countOf_7 : decode cX0_countOf 7 = .ok (.invokestatic 42, 3) := by decide +kernel
theorem dX0_countOf_10 : decode cX0_countOf 10 = .ok (.ireturn, 1) := by decide +kernel
set_option maxRecDepth 20000 in
theorem ggX0_fitsFormat_X0_countOf : GoodIn wsX0_fitsFormat wsX0_countOf := goodIn_r _ [13, 14, 15, 16, 12, 17, 1, 4, 3, 18, 19, 20, 21, 22, 23, 24, 25, 26, 27, 28, 29, 30, 31, 32, 33, 34] (by decide +kernel) (by decide +kernel)
set_option maxRecDepth 20000 in
theorem gX0_fitsFormat_X0_countOf : GoodIn wsX0_fitsFormat (wsV RX0 57 RX0 yX0_countOf wsX0_countOf) := goodIn_app (goodIn_of _ (by decide +kernel)) ggX0_fitsFormat_X0_countOf
theorem dX0_fitsFormat_0 : decode cX0_fitsFormat 0 = .ok (.aload_n 0, 1) := by decide +kernel
theorem dX0_fitsFormat_1 : decode cX0_fitsFormat 1 = .ok (.getfield 15, 3) := by decide +kernel
theorem dX0_fitsFormat_4 : decode cX0_fitsFormat 4 = .ok (.iload_n 1, 1) := by decide +kernel
theorem dX0_fitsFormat_5 : decode cX0_fitsFormat 5 = .ok (.iaload, 1) := by decide +kernel
theorem dX0_fitsFormat_6 : decode cX0_fitsFormat 6 = .ok (.aload_n 0, 1) := by decide +kernel
theorem dX0_fitsFormat_7 : decode cX0_fitsFormat 7 = .ok (.getfield 23, 3) := by decide +kernel
theorem dX0_fitsFormat_10 : decode cX0_fitsFormat 10 = .ok (.if_icmp .eq 5, 3) := by decide +kernel
theorem dX0_fitsFormat_13 : decode cX0_fitsFormat 13 = .ok (.iconst 0, 1) := by decide +kernel
theorem dX0_fitsFormat_14 : decode cX0_fitsFormat 14 = .ok (.ireturn, 1) := by decide +kernel
theorem dX0_fitsFormat_15 : decode cX0_fitsFormat 15 = .ok (.iconst 0, 1) := by decide +kernel
theorem dX0_fitsFormat_16 : decode cX0_fitsFormat 16 = .ok (.istore 4, 2) := by decide +kernel
theorem dX0_fitsFormat_18 : decode cX0_fitsFormat 18 = .ok (.iload 4, 2) := by decide +kernel
theorem dX0_fitsFormat_20 : decode cX0_fitsFormat 20 = .ok (.aload_n 0, 1) := by decide +kernel
theorem dX0_fitsFormat_21 : decode cX0_fitsFormat 21 = .ok (.getfield 15, 3) := by decide +kernel
theorem dX0_fitsFormat_24 : decode cX0_fitsFormat 24 = .ok (.iload_n 1, 1) := by decide +kernel
theorem dX0_fitsFormat_25 : decode cX0_fitsFormat 25 = .ok (.iaload, 1) := by decide +kernel
theorem dX0_fitsFormat_26 : decode cX0_fitsFormat 26 = .ok (.if_icmp .ge 74, 3) := by decide +kernel
theorem dX0_fitsFormat_29 : decode cX0_fitsFormat 29 = .ok (.aload_n 0, 1) := by decide +kernel
theorem dX0_fitsFormat_30 : decode cX0_fitsFormat 30 = .ok (.getfield 20, 3) := by decide +kernel
theorem dX0_fitsFormat_33 : decode cX0_fitsFormat 33 = .ok (.iload_n 1, 1) := by decide +kernel
theorem dX0_fitsFormat_34 : decode cX0_fitsFormat 34 = .ok (.aaload, 1) := by decide +kernel
theorem dX0_fitsFormat_35 : decode cX0_fitsFormat 35 = .ok (.iload 4, 2) := by decide +kernel
theorem dX0_fitsFormat_37 : decode cX0_fitsFormat 37 = .ok (.iaload, 1) := by decide +kernel
theorem dX0_fitsFormat_38 : decode cX0_fitsFormat 38 = .ok (.istore 5, 2) := by decide +kernel
theorem dX0_fitsFormat_40 : decode cX0_fitsFormat 40 = .ok (.aload_n 3, 1) := by decide +kernel
theorem dX0_fitsFormat_41 : decode cX0_fitsFormat 41 = .ok (.getfield 33, 3) := by decide +kernel
theorem dX0_fitsFormat_44 : decode cX0_fitsFormat 44 = .ok (.iload 5, 2) := by decide +kernel
theorem dX0_fitsFormat_46 : decode cX0_fitsFormat 46 = .ok (.iaload, 1) := by decide +kernel
theorem dX0_fitsFormat_47 : decode cX0_fitsFormat 47 = .ok (.istore 6, 2) := by decide +kernel
theorem dX0_fitsFormat_49 : decode cX0_fitsFormat 49 = .ok (.aload_n 3, 1) := by decide +kernel
theorem dX0_fitsFormat_50 : decode cX0_fitsFormat 50 = .ok (.getfield 48, 3) := by decide +kernel
theorem dX0_fitsFormat_53 : decode cX0_fitsFormat 53 = .ok (.iload 5, 2) := by decide +kernel
theorem dX0_fitsFormat_55 : decode cX0_fitsFormat 55 = .ok (.iaload, 1) := by decide +kernel
theorem dX0_fitsFormat_56 : decode cX0_fitsFormat 56 = .ok (.aload_n 0, 1) := by decide +kernel
theorem dX0_fitsFormat_57 : decode cX0_fitsFormat 57 = .ok (.getfield 9, 3) := by decide +kernel
theorem dX0_fitsFormat_60 : decode cX0_fitsFormat 60 = .ok (.iload_n 1, 1) := by decide +kernel
theorem dX0_fitsFormat_61 : decode cX0_fitsFormat 61 = .ok (.iaload, 1) := by decide +kernel
theorem dX0_fitsFormat_62 : decode cX0_fitsFormat 62 = .ok (.if_icmp .ne 13, 3) := by decide +kernel
theorem dX0_fitsFormat_65 : decode cX0_fitsFormat 65 = .ok (.aload_n 2, 1) := by decide +kernel
theorem dX0_fitsFormat_66 : decode cX0_fitsFormat 66 = .ok (.getfield 51, 3) := by decide +kernel
theorem dX0_fitsFormat_69 : decode cX0_fitsFormat 69 = .ok (.iload 6, 2) := by decide +kernel
theorem dX0_fitsFormat_71 : decode cX0_fitsFormat 71 = .ok (.baload, 1) := by decide +kernel
theorem dX0_fitsFormat_72 : decode cX0_fitsFormat 72 = .ok (.ifCond .eq 5, 3) := by decide +kernel
theorem dX0_fitsFormat_75 : decode cX0_fitsFormat 75 = .ok (.iconst 0, 1) := by decide +kernel
theorem dX0_fitsFormat_76 : decode cX0_fitsFormat 76 = .ok (.ireturn, 1) := by decide +kernel
theorem dX0_fitsFormat_77 : decode cX0_fitsFormat 77 = .ok (.aload_n 0, 1) := by decide +kernel
theorem dX0_fitsFormat_78 : decode cX0_fitsFormat 78 = .ok (.iload_n 1, 1) := by decide +kernel
theorem dX0_fitsFormat_79 : decode cX0_fitsFormat 79 = .ok (.iload 6, 2) := by decide +kernel
theorem dX0_fitsFormat_81 : decode cX0_fitsFormat 81 = .ok (.aload_n 3, 1) := by decide +kernel
theorem dX0_fitsFormat_82 : decode cX0_fitsFormat 82 = .ok (.invokevirtual 57, 3) := by decide +kernel
theorem dX0_fitsFormat_85 : decode cX0_fitsFormat 85 = .ok (.aload_n 0, 1) := by decide +kernel
theorem dX0_fitsFormat_86 : decode cX0_fitsFormat 86 = .ok (.getfield 27, 3) := by decide +kernel
theorem dX0_fitsFormat_89 : decode cX0_fitsFormat 89 = .ok (.if_icmp .le 5, 3) := by decide +kernel
theorem dX0_fitsFormat_92 : decode cX0_fitsFormat 92 = .ok (.iconst 0, 1) := by decide +kernel
theorem dX0_fitsFormat_93 : decode cX0_fitsFormat 93 = .ok (.ireturn, 1) := by decide +kernel
theorem dX0_fitsFormat_94 : decode cX0_fitsFormat 94 = .ok (.iinc 4 1, 3) := by decide +kernel
theorem dX0_fitsFormat_97 : decode cX0_fitsFormat 97 = .ok (.goto (-79), 3) := by decide +kernel
theorem dX0_fitsFormat_100 : decode cX0_fitsFormat 100 = .ok (.iconst 1, 1) := by decide +kernel
theorem dX0_fitsFormat_101 : decode cX0_fitsFormat 101 = .ok (.ireturn, 1) := by decide +kernel
set_option maxRecDepth 20000 in
theorem ggX0_countFitting_X0_fitsFormat : GoodIn wsX0_countFitting wsX0_fitsFormat := goodIn_r _ [6, 7, 8, 9, 10, 11, 12, 13, 14, 15, 16, 17, 5, 18, 19, 20, 21, 22, 23, 24, 25, 26, 27, 28, 29, 30, 31, 32, 33, 34, 35, 36, 37, 38, 39, 40, 41, 42, 43, 44] (by decide +kernel) (by decide +kernel)
set_option maxRecDepth 20000 in
theorem gX0_countFitting_X0_fitsFormat : GoodIn wsX0_countFitting (wsV RX0 60 RX0 yX0_fitsFormat wsX0_fitsFormat) := goodIn_app (goodIn_of _ (by decide +kernel)) ggX0_countFitting_X0_fitsFormat
theorem dX0_countFitting_0 : decode cX0_countFitting 0 = .ok (.iconst 0, 1) := by decide +kernel
theorem dX0_countFitting_1 : decode cX0_countFitting 1 = .ok (.istore_n 3, 1) := by decide +kernel
theorem dX0_countFitting_2 : decode cX0_countFitting 2 = .ok (.iconst 0, 1) := by decide +kernel
theorem dX0_countFitting_3 : decode cX0_countFitting 3 = .ok (.istore 4, 2) := by decide +kernel
theorem dX0_countFitting_5 : decode cX0_countFitting 5 = .ok (.iload 4, 2) := by decide +kernel
theorem dX0_countFitting_7 : decode cX0_countFitting 7 = .ok (.aload_n 0, 1) := by decide +kernel
theorem dX0_countFitting_8 : decode cX0_countFitting 8 = .ok (.getfield 30, 3) := by decide +kernel
theorem dX0_countFitting_11 : decode cX0_countFitting 11 = .ok (.if_icmp .ge 23, 3) := by decide +kernel
theorem dX0_countFitting_14 : decode cX0_countFitting 14 = .ok (.aload_n 0, 1) := by decide +kernel
theorem dX0_countFitting_15 : decode cX0_countFitting 15 = .ok (.iload 4, 2) := by decide +kernel
theorem dX0_countFitting_17 : decode cX0_countFitting 17 = .ok (.aload_n 1, 1) := by decide +kernel
theorem dX0_countFitting_18 : decode cX0_countFitting 18 = .ok (.aload_n 2, 1) := by decide +kernel
theorem dX0_countFitting_19 : decode cX0_countFitting 19 = .ok (.invokevirtual 60, 3) := by decide +kernel
theorem dX0_countFitting_22 : decode cX0_countFitting 22 = .ok (.ifCond .eq 6, 3) := by decide +kernel
theorem dX0_countFitting_25 : decode cX0_countFitting 25 = .ok (.iinc 3 1, 3) := by decide +kernel
theorem dX0_countFitting_28 : decode cX0_countFitting 28 = .ok (.iinc 4 1, 3) := by decide +kernel
theorem dX0_countFitting_31 : decode cX0_countFitting 31 = .ok (.goto (-26), 3) := by decide +kernel
theorem dX0_countFitting_34 : decode cX0_countFitting 34 = .ok (.iload_n 3, 1) := by decide +kernel
theorem dX0_countFitting_35 : decode cX0_countFitting 35 = .ok (.ireturn, 1) := by decide +kernel
theorem dX1_init_0 : decode cX1_init 0 = .ok (.aload_n 0, 1) := by decide +kernel
theorem dX1_init_1 : decode cX1_init 1 = .ok (.invokespecial 3, 3) := by decide +kernel
theorem dX1_init_4 : decode cX1_init 4 = .ok (.aload_n 0, 1) := by decide +kernel
theorem dX1_init_5 : decode cX1_init 5 = .ok (.bipush 16, 2) := by decide +kernel
theorem dX1_init_7 : decode cX1_init 7 = .ok (.newarray .int, 2) := by decide +kernel
theorem dX1_init_9 : decode cX1_init 9 = .ok (.putfield 9, 3) := by decide +kernel
theorem dX1_init_12 : decode cX1_init 12 = .ok (.aload_n 0, 1) := by decide +kernel
theorem dX1_init_13 : decode cX1_init 13 = .ok (.bipush 16, 2) := by decide +kernel
theorem dX1_init_15 : decode cX1_init 15 = .ok (.newarray .int, 2) := by decide +kernel
theorem dX1_init_17 : decode cX1_init 17 = .ok (.putfield 15, 3) := by decide +kernel
theorem dX1_init_20 : decode cX1_init 20 = .ok (.aload_n 0, 1) := by decide +kernel
theorem dX1_init_21 : decode cX1_init 21 = .ok (.bipush 16, 2) := by decide +kernel
theorem dX1_init_23 : decode cX1_init 23 = .ok (.newarray .boolean, 2) := by decide +kernel
theorem dX1_init_25 : decode cX1_init 25 = .ok (.putfield 18, 3) := by decide +kernel
theorem dX1_init_28 : decode cX1_init 28 = .ok (.aload_n 0, 1) := by decide +kernel
theorem dX1_init_29 : decode cX1_init 29 = .ok (.bipush 16, 2) := by decide +kernel
theorem dX1_init_31 : decode cX1_init 31 = .ok (.newarray .int, 2) := by decide +kernel
theorem dX1_init_33 : decode cX1_init 33 = .ok (.putfield 22, 3) := by decide +kernel
theorem dX1_init_36 : decode cX1_init 36 = .ok (.aload_n 0, 1) := by decide +kernel
theorem dX1_init_37 : decode cX1_init 37 = .ok (.bipush 16, 2) := by decide +kernel
theorem dX1_init_39 : decode cX1_init 39 = .ok (.newarray .int, 2) := by decide +kernel
theorem dX1_init_41 : decode cX1_init 41 = .ok (.putfield 25, 3) := by decide +kernel
theorem dX1_init_44 : decode cX1_init 44 = .ok (.return_, 1) := by decide +kernel
theorem dX2_init_0 : decode cX2_init 0 = .ok (.aload_n 0, 1) := by decide +kernel
theorem dX2_init_1 : decode cX2_init 1 = .ok (.invokespecial 3, 3) := by decide +kernel
theorem dX2_init_4 : decode cX2_init 4 = .ok (.aload_n 0, 1) := by decide +kernel
theorem dX2_init_5 : decode cX2_init 5 = .ok (.bipush 40, 2) := by decide +kernel
theorem dX2_init_7 : decode cX2_init 7 = .ok (.newarray .int, 2) := by decide +kernel
theorem dX2_init_9 : decode cX2_init 9 = .ok (.putfield 9, 3) := by decide +kernel
theorem dX2_init_12 : decode cX2_init 12 = .ok (.aload_n 0, 1) := by decide +kernel
theorem dX2_init_13 : decode cX2_init 13 = .ok (.bipush 40, 2) := by decide +kernel
theorem dX2_init_15 : decode cX2_init 15 = .ok (.newarray .int, 2) := by decide +kernel
theorem dX2_init_17 : decode cX2_init 17 = .ok (.putfield 15, 3) := by decide +kernel
theorem dX2_init_20 : decode cX2_init 20 = .ok (.aload_n 0, 1) := by decide +kernel
theorem dX2_init_21 : decode cX2_init 21 = .ok (.bipush 40, 2) := by decide +kernel
theorem dX2_init_23 : decode cX2_init 23 = .ok (.newarray .int, 2) := by decide +kernel
theorem dX2_init_25 : decode cX2_init 25 = .ok (.putfield 18, 3) := by decide +kernel
theorem dX2_init_28 : decode cX2_init 28 = .ok (.aload_n 0, 1) := by decide +kernel
theorem dX2_init_29 : decode cX2_init 29 = .ok (.bipush 40, 2) := by decide +kernel
theorem dX2_init_31 : decode cX2_init 31 = .ok (.newarray .int, 2) := by decide +kernel
theorem dX2_init_33 : decode cX2_init 33 = .ok (.putfield 21, 3) := by decide +kernel
theorem dX2_init_36 : decode cX2_init 36 = .ok (.aload_n 0, 1) := by decide +kernel
theorem dX2_init_37 : decode cX2_init 37 = .ok (.bipush 40, 2) := by decide +kernel
theorem dX2_init_39 : decode cX2_init 39 = .ok (.newarray .boolean, 2) := by decide +kernel
theorem dX2_init_41 : decode cX2_init 41 = .ok (.putfield 24, 3) := by decide +kernel
theorem dX2_init_44 : decode cX2_init 44 = .ok (.aload_n 0, 1) := by decide +kernel
theorem dX2_init_45 : decode cX2_init 45 = .ok (.iconst 4, 1) := by decide +kernel
theorem dX2_init_46 : decode cX2_init 46 = .ok (.newarray .int, 2) := by decide +kernel
theorem dX2_init_48 : decode cX2_init 48 = .ok (.putfield 28, 3) := by decide +kernel
theorem dX2_init_51 : decode cX2_init 51 = .ok (.return_, 1) := by decide +kernel
theorem dX2_append_0 : decode cX2_append 0 = .ok (.aload_n 0, 1) := by decide +kernel
theorem dX2_append_1 : decode cX2_append 1 = .ok (.getfield 31, 3) := by decide +kernel
theorem dX2_append_4 : decode cX2_append 4 = .ok (.istore 4, 2) := by decide +kernel
theorem dX2_append_6 : decode cX2_append 6 = .ok (.aload_n 0, 1) := by decide +kernel
theorem dX2_append_7 : decode cX2_append 7 = .ok (.getfield 9, 3) := by decide +kernel
theorem dX2_append_10 : decode cX2_append 10 = .ok (.iload 4, 2) := by decide +kernel
theorem dX2_append_12 : decode cX2_append 12 = .ok (.iload_n 1, 1) := by decide +kernel
theorem dX2_append_13 : decode cX2_append 13 = .ok (.iastore, 1) := by decide +kernel
theorem dX2_append_14 : decode cX2_append 14 = .ok (.aload_n 0, 1) := by decide +kernel
theorem dX2_append_15 : decode cX2_append 15 = .ok (.getfield 15, 3) := by decide +kernel
theorem dX2_append_18 : decode cX2_append 18 = .ok (.iload 4, 2) := by decide +kernel
theorem dX2_append_20 : decode cX2_append 20 = .ok (.aload_n 3, 1) := by decide +kernel
theorem dX2_append_21 : decode cX2_append 21 = .ok (.getfield 35, 3) := by decide +kernel
theorem dX2_append_24 : decode cX2_append 24 = .ok (.iload_n 1, 1) := by decide +kernel
theorem dX2_append_25 : decode cX2_append 25 = .ok (.iaload, 1) := by decide +kernel
theorem dX2_append_26 : decode cX2_append 26 = .ok (.iastore, 1) := by decide +kernel
theorem dX2_append_27 : decode cX2_append 27 = .ok (.aload_n 0, 1) := by decide +kernel
theorem dX2_append_28 : decode cX2_append 28 = .ok (.getfield 18, 3) := by decide +kernel
theorem dX2_append_31 : decode cX2_append 31 = .ok (.iload 4, 2) := by decide +kernel
theorem dX2_append_33 : decode cX2_append 33 = .ok (.iload_n 2, 1) := by decide +kernel
theorem dX2_append_34 : decode cX2_append 34 = .ok (.iastore, 1) := by decide +kernel
theorem dX2_append_35 : decode cX2_append 35 = .ok (.aload_n 0, 1) := by decide +kernel
theorem dX2_append_36 : decode cX2_append 36 = .ok (.getfield 21, 3) := by decide +kernel
theorem dX2_append_39 : decode cX2_append 39 = .ok (.iload 4, 2) := by decide +kernel
theorem dX2_append_41 : decode cX2_append 41 = .ok (.aload_n 3, 1) := by decide +kernel
theorem dX2_append_42 : decode cX2_append 42 = .ok (.getfield 40, 3) := by decide +kernel
theorem dX2_append_45 : decode cX2_append 45 = .ok (.iload_n 1, 1) := by decide +kernel
theorem dX2_append_46 : decode cX2_append 46 = .ok (.iaload, 1) := by decide +kernel
theorem dX2_append_47 : decode cX2_append 47 = .ok (.iastore, 1) := by decide +kernel
theorem dX2_append_48 : decode cX2_append 48 = .ok (.aload_n 0, 1) := by decide +kernel
theorem dX2_append_49 : decode cX2_append 49 = .ok (.getfield 24, 3) := by decide +kernel
theorem dX2_append_52 : decode cX2_append 52 = .ok (.iload 4, 2) := by decide +kernel
theorem dX2_append_54 : decode cX2_append 54 = .ok (.iconst 1, 1) := by decide +kernel
theorem dX2_append_55 : decode cX2_append 55 = .ok (.bastore, 1) := by decide +kernel
theorem dX2_append_56 : decode cX2_append 56 = .ok (.aload_n 0, 1) := by decide +kernel
theorem dX2_append_57 : decode cX2_append 57 = .ok (.dup, 1) := by decide +kernel
theorem dX2_append_58 : decode cX2_append 58 = .ok (.getfield 31, 3) := by decide +kernel
theorem dX2_append_61 : decode cX2_append 61 = .ok (.iconst 1, 1) := by decide +kernel
theorem dX2_append_62 : decode cX2_append 62 = .ok (.iadd, 1) := by decide +kernel
theorem dX2_append_63 : decode cX2_append 63 = .ok (.putfield 31, 3) := by decide +kernel
theorem dX2_append_66 : decode cX2_append 66 = .ok (.iload 4, 2) := by decide +kernel
theorem dX2_append_68 : decode cX2_append 68 = .ok (.ireturn, 1) := by decide +kernel
theorem dX2_hasLive_0 : decode cX2_hasLive 0 = .ok (.iconst 0, 1) := by decide +kernel
theorem dX2_hasLive_1 : decode cX2_hasLive 1 = .ok (.istore_n 2, 1) := by decide +kernel
theorem dX2_hasLive_2 : decode cX2_hasLive 2 = .ok (.iload_n 2, 1) := by decide +kernel
theorem dX2_hasLive_3 : decode cX2_hasLive 3 = .ok (.aload_n 0, 1) := by decide +kernel
theorem dX2_hasLive_4 : decode cX2_hasLive 4 = .ok (.getfield 31, 3) := by decide +kernel
theorem dX2_hasLive_7 : decode cX2_hasLive 7 = .ok (.if_icmp .ge 30, 3) := by decide +kernel
theorem dX2_hasLive_10 : decode cX2_hasLive 10 = .ok (.aload_n 0, 1) := by decide +kernel
theorem dX2_hasLive_11 : decode cX2_hasLive 11 = .ok (.getfield 24, 3) := by decide +kernel
theorem dX2_hasLive_14 : decode cX2_hasLive 14 = .ok (.iload_n 2, 1) := by decide +kernel
theorem dX2_hasLive_15 : decode cX2_hasLive 15 = .ok (.baload, 1) := by decide +kernel
theorem dX2_hasLive_16 : decode cX2_hasLive 16 = .ok (.ifCond .eq 15, 3) := by decide +kernel
theorem dX2_hasLive_19 : decode cX2_hasLive 19 = .ok (.aload_n 0, 1) := by decide +kernel
theorem dX2_hasLive_20 : decode cX2_hasLive 20 = .ok (.getfield 9, 3) := by decide +kernel
theorem dX2_hasLive_23 : decode cX2_hasLive 23 = .ok (.iload_n 2, 1) := by decide +kernel
theorem dX2_hasLive_24 : decode cX2_hasLive 24 = .ok (.iaload, 1) := by decide +kernel
theorem dX2_hasLive_25 : decode cX2_hasLive 25 = .ok (.iload_n 1, 1) := by decide +kernel
theorem dX2_hasLive_26 : decode cX2_hasLive 26 = .ok (.if_icmp .ne 5, 3) := by decide +kernel
theorem dX2_hasLive_29 : decode cX2_hasLive 29 = .ok (.iconst 1, 1) := by decide +kernel
theorem dX2_hasLive_30 : decode cX2_hasLive 30 = .ok (.ireturn, 1) := by decide +kernel
theorem dX2_hasLive_31 : decode cX2_hasLive 31 = .ok (.iinc 2 1, 3) := by decide +kernel
theorem dX2_hasLive_34 : decode cX2_hasLive 34 = .ok (.goto (-32), 3) := by decide +kernel
theorem dX2_hasLive_37 : decode cX2_hasLive 37 = .ok (.iconst 0, 1) := by decide +kernel
theorem dX2_hasLive_38 : decode cX2_hasLive 38 = .ok (.ireturn, 1) := by decide +kernel
set_option maxRecDepth 20000 in
theorem ggX2_findRing_X2_closes : GoodIn wsX2_findRing wsX2_closes := goodIn_r _ [7, 2, 1, 8, 9, 10, 6, 11, 12, 13, 14, 15, 16, 17, 3, 18, 4, 5, 19, 20, 21, 22, 23, 24, 25] (by decide +kernel) (by decide +kernel)
set_option maxRecDepth 20000 in
theorem gX2_findRing_X2_closes : GoodIn wsX2_findRing (va_wsS RX2 41 yX2_closes wsX2_closes) := goodIn_app (goodIn_of _ (by decide +kernel)) ggX2_findRing_X2_closes
theorem dX2_findRing_0 : decode cX2_findRing 0 = .ok (.iconst 2, 1) := by decide +kernel
theorem dX2_findRing_1 : decode cX2_findRing 1 = .ok (.istore_n 1, 1) := by decide +kernel
theorem dX2_findRing_2 : decode cX2_findRing 2 = .ok (.iload_n 1, 1) := by decide +kernel
theorem dX2_findRing_3 : decode cX2_findRing 3 = .ok (.iconst 4, 1) := by decide +kernel
theorem dX2_findRing_4 : decode cX2_findRing 4 = .ok (.if_icmp .gt 52, 3) := by decide +kernel
theorem dX2_findRing_7 : decode cX2_findRing 7 = .ok (.iconst 0, 1) := by decide +kernel
theorem dX2_findRing_8 : decode cX2_findRing 8 = .ok (.istore_n 2, 1) := by decide +kernel
theorem dX2_findRing_9 : decode cX2_findRing 9 = .ok (.iload_n 2, 1) := by decide +kernel
theorem dX2_findRing_10 : decode cX2_findRing 10 = .ok (.aload_n 0, 1) := by decide +kernel
theorem dX2_findRing_11 : decode cX2_findRing 11 = .ok (.getfield 31, 3) := by decide +kernel
theorem dX2_findRing_14 : decode cX2_findRing 14 = .ok (.if_icmp .ge 36, 3) := by decide +kernel
theorem dX2_findRing_17 : decode cX2_findRing 17 = .ok (.aload_n 0, 1) := by decide +kernel
theorem dX2_findRing_18 : decode cX2_findRing 18 = .ok (.getfield 28, 3) := by decide +kernel
theorem dX2_findRing_21 : decode cX2_findRing 21 = .ok (.iconst 0, 1) := by decide +kernel
theorem dX2_findRing_22 : decode cX2_findRing 22 = .ok (.iload_n 2, 1) := by decide +kernel
theorem dX2_findRing_23 : decode cX2_findRing 23 = .ok (.iastore, 1) := by decide +kernel
theorem dX2_findRing_24 : decode cX2_findRing 24 = .ok (.aload_n 0, 1) := by decide +kernel
theorem dX2_findRing_25 : decode cX2_findRing 25 = .ok (.getfield 24, 3) := by decide +kernel
theorem dX2_findRing_28 : decode cX2_findRing 28 = .ok (.iload_n 2, 1) := by decide +kernel
theorem dX2_findRing_29 : decode cX2_findRing 29 = .ok (.baload, 1) := by decide +kernel
theorem dX2_findRing_30 : decode cX2_findRing 30 = .ok (.ifCond .eq 14, 3) := by decide +kernel
theorem dX2_findRing_33 : decode cX2_findRing 33 = .ok (.aload_n 0, 1) := by decide +kernel
theorem dX2_findRing_34 : decode cX2_findRing 34 = .ok (.iconst 0, 1) := by decide +kernel
theorem dX2_findRing_35 : decode cX2_findRing 35 = .ok (.iload_n 1, 1) := by decide +kernel
theorem dX2_findRing_36 : decode cX2_findRing 36 = .ok (.invokestatic 41, 3) := by decide +kernel
theorem dX2_findRing_39 : decode cX2_findRing 39 = .ok (.ifCond .eq 5, 3) := by decide +kernel
theorem dX2_findRing_42 : decode cX2_findRing 42 = .ok (.iload_n 1, 1) := by decide +kernel
theorem dX2_findRing_43 : decode cX2_findRing 43 = .ok (.ireturn, 1) := by decide +kernel
theorem dX2_findRing_44 : decode cX2_findRing 44 = .ok (.iinc 2 1, 3) := by decide +kernel
theorem dX2_findRing_47 : decode cX2_findRing 47 = .ok (.goto (-38), 3) := by decide +kernel
theorem dX2_findRing_50 : decode cX2_findRing 50 = .ok (.iinc 1 1, 3) := by decide +kernel
theorem dX2_findRing_53 : decode cX2_findRing 53 = .ok (.goto (-51), 3) := by decide +kernel
theorem dX2_findRing_56 : decode cX2_findRing 56 = .ok (.iconst 0, 1) := by decide +kernel
theorem dX2_findRing_57 : decode cX2_findRing 57 = .ok (.ireturn, 1) := by decide +kernel
set_option maxRecDepth 20000 in
theorem ggX2_closes_X2_canGive : GoodIn wsX2_closes wsX2_canGive := goodIn_r _ [7, 8, 9, 18, 19, 20, 21, 22, 23, 24] (by decide +kernel) (by decide +kernel)
set_option maxRecDepth 20000 in
theorem gX2_closes_X2_canGive : GoodIn wsX2_closes (wsV RX2 45 RX2 yX2_canGive wsX2_canGive) := goodIn_app (goodIn_of _ (by decide +kernel)) ggX2_closes_X2_canGive
set_option maxRecDepth 20000 in
theorem ggX2_closes_X2_canFollow : GoodIn wsX2_closes wsX2_canFollow := goodIn_r _ [13, 14, 1, 15, 3, 4, 5, 6, 7, 8, 9, 18, 19, 20, 21, 22, 23, 24] (by decide +kernel) (by decide +kernel)
set_option maxRecDepth 20000 in
theorem gX2_closes_X2_canFollow : GoodIn wsX2_closes (wsV RX2 49 RX2 yX2_canFollow wsX2_canFollow) := goodIn_app (goodIn_of _ (by decide +kernel)) ggX2_closes_X2_canFollow
set_option maxRecDepth 20000 in
theorem ggX2_closes_X2_closes : GoodIn wsX2_closes wsX2_closes := goodIn_r _ [0, 1, 2, 3, 4, 5, 6, 7, 8, 9, 10, 11, 12, 13, 14, 15, 16, 17, 18, 19, 20, 21, 22, 23, 24] (by decide +kernel) (by decide +kernel)
set_option maxRecDepth 20000 in
theorem gX2_closes_X2_closes : GoodIn wsX2_closes (va_wsS RX2 41 yX2_closes wsX2_closes) := goodIn_app (goodIn_of _ (by decide +kernel)) ggX2_closes_X2_closes
theorem dX2_closes_0 : decode cX2_closes 0 = .ok (.iload_n 1, 1) := by decide +kernel
theorem dX2_closes_1 : decode cX2_closes 1 = .ok (.iload_n 2, 1) := by decide +kernel
theorem dX2_closes_2 : decode cX2_closes 2 = .ok (.iconst 1, 1) := by decide +kernel
theorem dX2_closes_3 : decode cX2_closes 3 = .ok (.isub, 1) := by decide +kernel
theorem dX2_closes_4 : decode cX2_closes 4 = .ok (.if_icmp .ge 8, 3) := by decide +kernel
theorem dX2_closes_7 : decode cX2_closes 7 = .ok (.iload_n 1, 1) := by decide +kernel
theorem dX2_closes_8 : decode cX2_closes 8 = .ok (.iconst 3, 1) := by decide +kernel
theorem dX2_closes_9 : decode cX2_closes 9 = .ok (.if_icmp .lt 20, 3) := by decide +kernel
theorem dX2_closes_12 : decode cX2_closes 12 = .ok (.aload_n 0, 1) := by decide +kernel
theorem dX2_closes_13 : decode cX2_closes 13 = .ok (.aload_n 0, 1) := by decide +kernel
theorem dX2_closes_14 : decode cX2_closes 14 = .ok (.getfield 28, 3) := by decide +kernel
theorem dX2_closes_17 : decode cX2_closes 17 = .ok (.iload_n 1, 1) := by decide +kernel
theorem dX2_closes_18 : decode cX2_closes 18 = .ok (.iaload, 1) := by decide +kernel
theorem dX2_closes_19 : decode cX2_closes 19 = .ok (.aload_n 0, 1) := by decide +kernel
theorem dX2_closes_20 : decode cX2_closes 20 = .ok (.getfield 28, 3) := by decide +kernel
theorem dX2_closes_23 : decode cX2_closes 23 = .ok (.iconst 0, 1) := by decide +kernel
theorem dX2_closes_24 : decode cX2_closes 24 = .ok (.iaload, 1) := by decide +kernel
theorem dX2_closes_25 : decode cX2_closes 25 = .ok (.invokevirtual 45, 3) := by decide +kernel
theorem dX2_closes_28 : decode cX2_closes 28 = .ok (.ireturn, 1) := by decide +kernel
theorem dX2_closes_29 : decode cX2_closes 29 = .ok (.aload_n 0, 1) := by decide +kernel
theorem dX2_closes_30 : decode cX2_closes 30 = .ok (.getfield 28, 3) := by decide +kernel
theorem dX2_closes_33 : decode cX2_closes 33 = .ok (.iconst 0, 1) := by decide +kernel
theorem dX2_closes_34 : decode cX2_closes 34 = .ok (.iaload, 1) := by decide +kernel
theorem dX2_closes_35 : decode cX2_closes 35 = .ok (.iconst 1, 1) := by decide +kernel
theorem dX2_closes_36 : decode cX2_closes 36 = .ok (.iadd, 1) := by decide +kernel
theorem dX2_closes_37 : decode cX2_closes 37 = .ok (.istore_n 3, 1) := by decide +kernel
theorem dX2_closes_38 : decode cX2_closes 38 = .ok (.iload_n 3, 1) := by decide +kernel
theorem dX2_closes_39 : decode cX2_closes 39 = .ok (.aload_n 0, 1) := by decide +kernel
theorem dX2_closes_40 : decode cX2_closes 40 = .ok (.getfield 31, 3) := by decide +kernel
theorem dX2_closes_43 : decode cX2_closes 43 = .ok (.if_icmp .ge 40, 3) := by decide +kernel
theorem dX2_closes_46 : decode cX2_closes 46 = .ok (.aload_n 0, 1) := by decide +kernel
theorem dX2_closes_47 : decode cX2_closes 47 = .ok (.iload_n 1, 1) := by decide +kernel
theorem dX2_closes_48 : decode cX2_closes 48 = .ok (.iload_n 3, 1) := by decide +kernel
theorem dX2_closes_49 : decode cX2_closes 49 = .ok (.invokevirtual 49, 3) := by decide +kernel
theorem dX2_closes_52 : decode cX2_closes 52 = .ok (.ifCond .eq 25, 3) := by decide +kernel
theorem dX2_closes_55 : decode cX2_closes 55 = .ok (.aload_n 0, 1) := by decide +kernel
theorem dX2_closes_56 : decode cX2_closes 56 = .ok (.getfield 28, 3) := by decide +kernel
theorem dX2_closes_59 : decode cX2_closes 59 = .ok (.iload_n 1, 1) := by decide +kernel
theorem dX2_closes_60 : decode cX2_closes 60 = .ok (.iconst 1, 1) := by decide +kernel
theorem dX2_closes_61 : decode cX2_closes 61 = .ok (.iadd, 1) := by decide +kernel
theorem dX2_closes_62 : decode cX2_closes 62 = .ok (.iload_n 3, 1) := by decide +kernel
theorem dX2_closes_63 : decode cX2_closes 63 = .ok (.iastore, 1) := by decide +kernel
theorem dX2_closes_64 : decode cX2_closes 64 = .ok (.aload_n 0, 1) := by decide +kernel
theorem dX2_closes_65 : decode cX2_closes 65 = .ok (.iload_n 1, 1) := by decide +kernel
theorem dX2_closes_66 : decode cX2_closes 66 = .ok (.iconst 1, 1) := by decide +kernel
theorem dX2_closes_67 : decode cX2_closes 67 = .ok (.iadd, 1) := by decide +kernel
theorem dX2_closes_68 : decode cX2_closes 68 = .ok (.iload_n 2, 1) := by decide +kernel
theorem dX2_closes_69 : decode cX2_closes 69 = .ok (.invokestatic 41, 3) := by decide +kernel
theorem dX2_closes_72 : decode cX2_closes 72 = .ok (.ifCond .eq 5, 3) := by decide +kernel
theorem dX2_closes_75 : decode cX2_closes 75 = .ok (.iconst 1, 1) := by decide +kernel
theorem dX2_closes_76 : decode cX2_closes 76 = .ok (.ireturn, 1) := by decide +kernel
theorem dX2_closes_77 : decode cX2_closes 77 = .ok (.iinc 3 1, 3) := by decide +kernel
theorem dX2_closes_80 : decode cX2_closes 80 = .ok (.goto (-42), 3) := by decide +kernel
theorem dX2_closes_83 : decode cX2_closes 83 = .ok (.iconst 0, 1) := by decide +kernel
theorem dX2_closes_84 : decode cX2_closes 84 = .ok (.ireturn, 1) := by decide +kernel
set_option maxRecDepth 20000 in
theorem ggX2_canFollow_X2_canGive : GoodIn wsX2_canFollow wsX2_canGive := goodIn_r _ [8, 9, 10, 11, 12, 13, 14, 15, 16, 17] (by decide +kernel) (by decide +kernel)
set_option maxRecDepth 20000 in
theorem gX2_canFollow_X2_canGive : GoodIn wsX2_canFollow (wsV RX2 45 RX2 yX2_canGive wsX2_canGive) := goodIn_app (goodIn_of _ (by decide +kernel)) ggX2_canFollow_X2_canGive
theorem dX2_canFollow_0 : decode cX2_canFollow 0 = .ok (.aload_n 0, 1) := by decide +kernel
theorem dX2_canFollow_1 : decode cX2_canFollow 1 = .ok (.getfield 24, 3) := by decide +kernel
theorem dX2_canFollow_4 : decode cX2_canFollow 4 = .ok (.iload_n 2, 1) := by decide +kernel
theorem dX2_canFollow_5 : decode cX2_canFollow 5 = .ok (.baload, 1) := by decide +kernel
theorem dX2_canFollow_6 : decode cX2_canFollow 6 = .ok (.ifCond .eq 17, 3) := by decide +kernel
theorem dX2_canFollow_9 : decode cX2_canFollow 9 = .ok (.aload_n 0, 1) := by decide +kernel
theorem dX2_canFollow_10 : decode cX2_canFollow 10 = .ok (.aload_n 0, 1) := by decide +kernel
theorem dX2_canFollow_11 : decode cX2_canFollow 11 = .ok (.getfield 28, 3) := by decide +kernel
theorem dX2_canFollow_14 : decode cX2_canFollow 14 = .ok (.iload_n 1, 1) := by decide +kernel
theorem dX2_canFollow_15 : decode cX2_canFollow 15 = .ok (.iaload, 1) := by decide +kernel
theorem dX2_canFollow_16 : decode cX2_canFollow 16 = .ok (.iload_n 2, 1) := by decide +kernel
theorem dX2_canFollow_17 : decode cX2_canFollow 17 = .ok (.invokevirtual 45, 3) := by decide +kernel
theorem dX2_canFollow_20 : decode cX2_canFollow 20 = .ok (.ifCond .ne 5, 3) := by decide +kernel
theorem dX2_canFollow_23 : decode cX2_canFollow 23 = .ok (.iconst 0, 1) := by decide +kernel
theorem dX2_canFollow_24 : decode cX2_canFollow 24 = .ok (.ireturn, 1) := by decide +kernel
theorem dX2_canFollow_25 : decode cX2_canFollow 25 = .ok (.iconst 0, 1) := by decide +kernel
theorem dX2_canFollow_26 : decode cX2_canFollow 26 = .ok (.istore_n 3, 1) := by decide +kernel
theorem dX2_canFollow_27 : decode cX2_canFollow 27 = .ok (.iload_n 3, 1) := by decide +kernel
theorem dX2_canFollow_28 : decode cX2_canFollow 28 = .ok (.iload_n 1, 1) := by decide +kernel
theorem dX2_canFollow_29 : decode cX2_canFollow 29 = .ok (.if_icmp .gt 31, 3) := by decide +kernel
theorem dX2_canFollow_32 : decode cX2_canFollow 32 = .ok (.aload_n 0, 1) := by decide +kernel
theorem dX2_canFollow_33 : decode cX2_canFollow 33 = .ok (.getfield 21, 3) := by decide +kernel
theorem dX2_canFollow_36 : decode cX2_canFollow 36 = .ok (.aload_n 0, 1) := by decide +kernel
theorem dX2_canFollow_37 : decode cX2_canFollow 37 = .ok (.getfield 28, 3) := by decide +kernel
theorem dX2_canFollow_40 : decode cX2_canFollow 40 = .ok (.iload_n 3, 1) := by decide +kernel
theorem dX2_canFollow_41 : decode cX2_canFollow 41 = .ok (.iaload, 1) := by decide +kernel
theorem dX2_canFollow_42 : decode cX2_canFollow 42 = .ok (.iaload, 1) := by decide +kernel
theorem dX2_canFollow_43 : decode cX2_canFollow 43 = .ok (.aload_n 0, 1) := by decide +kernel
theorem dX2_canFollow_44 : decode cX2_canFollow 44 = .ok (.getfield 21, 3) := by decide +kernel
theorem dX2_canFollow_47 : decode cX2_canFollow 47 = .ok (.iload_n 2, 1) := by decide +kernel
theorem dX2_canFollow_48 : decode cX2_canFollow 48 = .ok (.iaload, 1) := by decide +kernel
theorem dX2_canFollow_49 : decode cX2_canFollow 49 = .ok (.if_icmp .ne 5, 3) := by decide +kernel
theorem dX2_canFollow_52 : decode cX2_canFollow 52 = .ok (.iconst 0, 1) := by decide +kernel
theorem dX2_canFollow_53 : decode cX2_canFollow 53 = .ok (.ireturn, 1) := by decide +kernel
theorem dX2_canFollow_54 : decode cX2_canFollow 54 = .ok (.iinc 3 1, 3) := by decide +kernel
theorem dX2_canFollow_57 : decode cX2_canFollow 57 = .ok (.goto (-30), 3) := by decide +kernel
theorem dX2_canFollow_60 : decode cX2_canFollow 60 = .ok (.iconst 1, 1) := by decide +kernel
theorem dX2_canFollow_61 : decode cX2_canFollow 61 = .ok (.ireturn, 1) := by decide +kernel
theorem dX2_canGive_0 : decode cX2_canGive 0 = .ok (.aload_n 0, 1) := by decide +kernel
theorem dX2_canGive_1 : decode cX2_canGive 1 = .ok (.getfield 15, 3) := by decide +kernel
theorem dX2_canGive_4 : decode cX2_canGive 4 = .ok (.iload_n 1, 1) := by decide +kernel
theorem dX2_canGive_5 : decode cX2_canGive 5 = .ok (.iaload, 1) := by decide +kernel
theorem dX2_canGive_6 : decode cX2_canGive 6 = .ok (.aload_n 0, 1) := by decide +kernel
theorem dX2_canGive_7 : decode cX2_canGive 7 = .ok (.getfield 18, 3) := by decide +kernel
theorem dX2_canGive_10 : decode cX2_canGive 10 = .ok (.iload_n 2, 1) := by decide +kernel
theorem dX2_canGive_11 : decode cX2_canGive 11 = .ok (.iaload, 1) := by decide +kernel
theorem dX2_canGive_12 : decode cX2_canGive 12 = .ok (.if_icmp .ne 7, 3) := by decide +kernel
theorem dX2_canGive_15 : decode cX2_canGive 15 = .ok (.iconst 1, 1) := by decide +kernel
theorem dX2_canGive_16 : decode cX2_canGive 16 = .ok (.goto 4, 3) := by decide +kernel
theorem dX2_canGive_19 : decode cX2_canGive 19 = .ok (.iconst 0, 1) := by decide +kernel
theorem dX2_canGive_20 : decode cX2_canGive 20 = .ok (.ireturn, 1) := by decide +kernel
theorem dX3_init_0 : decode cX3_init 0 = .ok (.aload_n 0, 1) := by decide +kernel
theorem dX3_init_1 : decode cX3_init 1 = .ok (.invokespecial 3, 3) := by decide +kernel
theorem dX3_init_4 : decode cX3_init 4 = .ok (.aload_n 0, 1) := by decide +kernel
theorem dX3_init_5 : decode cX3_init 5 = .ok (.bipush 10, 2) := by decide +kernel
theorem dX3_init_7 : decode cX3_init 7 = .ok (.newarray .int, 2) := by decide +kernel
theorem dX3_init_9 : decode cX3_init 9 = .ok (.putfield 9, 3) := by decide +kernel
theorem dX3_init_12 : decode cX3_init 12 = .ok (.return_, 1) := by decide +kernel
theorem dX3_shuffle_0 : decode cX3_shuffle 0 = .ok (.aload_n 1, 1) := by decide +kernel
theorem dX3_shuffle_1 : decode cX3_shuffle 1 = .ok (.getfield 15, 3) := by decide +kernel
theorem dX3_shuffle_4 : decode cX3_shuffle 4 = .ok (.iload_n 2, 1) := by decide +kernel
theorem dX3_shuffle_5 : decode cX3_shuffle 5 = .ok (.iaload, 1) := by decide +kernel
theorem dX3_shuffle_6 : decode cX3_shuffle 6 = .ok (.istore 4, 2) := by decide +kernel
theorem dX3_shuffle_8 : decode cX3_shuffle 8 = .ok (.iconst 0, 1) := by decide +kernel
theorem dX3_shuffle_9 : decode cX3_shuffle 9 = .ok (.istore 5, 2) := by decide +kernel
theorem dX3_shuffle_11 : decode cX3_shuffle 11 = .ok (.iload 5, 2) := by decide +kernel
theorem dX3_shuffle_13 : decode cX3_shuffle 13 = .ok (.iload 4, 2) := by decide +kernel
theorem dX3_shuffle_15 : decode cX3_shuffle 15 = .ok (.if_icmp .ge 25, 3) := by decide +kernel
theorem dX3_shuffle_18 : decode cX3_shuffle 18 = .ok (.aload_n 0, 1) := by decide +kernel
theorem dX3_shuffle_19 : decode cX3_shuffle 19 = .ok (.getfield 9, 3) := by decide +kernel
theorem dX3_shuffle_22 : decode cX3_shuffle 22 = .ok (.iload 5, 2) := by decide +kernel
theorem dX3_shuffle_24 : decode cX3_shuffle 24 = .ok (.aload_n 1, 1) := by decide +kernel
theorem dX3_shuffle_25 : decode cX3_shuffle 25 = .ok (.getfield 20, 3) := by decide +kernel
theorem dX3_shuffle_28 : decode cX3_shuffle 28 = .ok (.iload_n 2, 1) := by decide +kernel
theorem dX3_shuffle_29 : decode cX3_shuffle 29 = .ok (.aaload, 1) := by decide +kernel
theorem dX3_shuffle_30 : decode cX3_shuffle 30 = .ok (.iload 5, 2) := by decide +kernel
theorem dX3_shuffle_32 : decode cX3_shuffle 32 = .ok (.iaload, 1) := by decide +kernel
theorem dX3_shuffle_33 : decode cX3_shuffle 33 = .ok (.iastore, 1) := by decide +kernel
theorem dX3_shuffle_34 : decode cX3_shuffle 34 = .ok (.iinc 5 1, 3) := by decide +kernel
theorem dX3_shuffle_37 : decode cX3_shuffle 37 = .ok (.goto (-26), 3) := by decide +kernel
theorem dX3_shuffle_40 : decode cX3_shuffle 40 = .ok (.iload_n 3, 1) := by decide +kernel
theorem dX3_shuffle_41 : decode cX3_shuffle 41 = .ok (.i2l, 1) := by decide +kernel
theorem dX3_shuffle_42 : decode cX3_shuffle 42 = .ok (.lstore 5, 2) := by decide +kernel
theorem dX3_shuffle_44 : decode cX3_shuffle 44 = .ok (.iload 4, 2) := by decide +kernel
theorem dX3_shuffle_46 : decode cX3_shuffle 46 = .ok (.iconst 1, 1) := by decide +kernel
theorem dX3_shuffle_47 : decode cX3_shuffle 47 = .ok (.isub, 1) := by decide +kernel
theorem dX3_shuffle_48 : decode cX3_shuffle 48 = .ok (.istore 7, 2) := by decide +kernel
theorem dX3_shuffle_50 : decode cX3_shuffle 50 = .ok (.iload 7, 2) := by decide +kernel
theorem dX3_shuffle_52 : decode cX3_shuffle 52 = .ok (.iconst 1, 1) := by decide +kernel
theorem dX3_shuffle_53 : decode cX3_shuffle 53 = .ok (.if_icmp .lt 72, 3) := by decide +kernel
theorem dX3_shuffle_56 : decode cX3_shuffle 56 = .ok (.lload 5, 2) := by decide +kernel
theorem dX3_shuffle_58 : decode cX3_shuffle 58 = .ok (.ldc2_w 23, 3) := by decide +kernel
theorem dX3_shuffle_61 : decode cX3_shuffle 61 = .ok (.lmul, 1) := by decide +kernel
theorem dX3_shuffle_62 : decode cX3_shuffle 62 = .ok (.ldc2_w 25, 3) := by decide +kernel
theorem dX3_shuffle_65 : decode cX3_shuffle 65 = .ok (.ladd, 1) := by decide +kernel
theorem dX3_shuffle_66 : decode cX3_shuffle 66 = .ok (.ldc2_w 27, 3) := by decide +kernel
theorem dX3_shuffle_69 : decode cX3_shuffle 69 = .ok (.lrem, 1) := by decide +kernel
theorem dX3_shuffle_70 : decode cX3_shuffle 70 = .ok (.lstore 5, 2) := by decide +kernel
theorem dX3_shuffle_72 : decode cX3_shuffle 72 = .ok (.lload 5, 2) := by decide +kernel
theorem dX3_shuffle_74 : decode cX3_shuffle 74 = .ok (.ldc2_w 29, 3) := by decide +kernel
theorem dX3_shuffle_77 : decode cX3_shuffle 77 = .ok (.ldiv, 1) := by decide +kernel
theorem dX3_shuffle_78 : decode cX3_shuffle 78 = .ok (.iload 7, 2) := by decide +kernel
theorem dX3_shuffle_80 : decode cX3_shuffle 80 = .ok (.iconst 1, 1) := by decide +kernel
theorem dX3_shuffle_81 : decode cX3_shuffle 81 = .ok (.iadd, 1) := by decide +kernel
theorem dX3_shuffle_82 : decode cX3_shuffle 82 = .ok (.i2l, 1) := by decide +kernel
theorem dX3_shuffle_83 : decode cX3_shuffle 83 = .ok (.lrem, 1) := by decide +kernel
theorem dX3_shuffle_84 : decode cX3_shuffle 84 = .ok (.l2i, 1) := by decide +kernel
theorem dX3_shuffle_85 : decode cX3_shuffle 85 = .ok (.istore 8, 2) := by decide +kernel
theorem dX3_shuffle_87 : decode cX3_shuffle 87 = .ok (.aload_n 0, 1) := by decide +kernel
theorem dX3_shuffle_88 : decode cX3_shuffle 88 = .ok (.getfield 9, 3) := by decide +kernel
theorem dX3_shuffle_91 : decode cX3_shuffle 91 = .ok (.iload 7, 2) := by decide +kernel
theorem dX3_shuffle_93 : decode cX3_shuffle 93 = .ok (.iaload, 1) := by decide +kernel
theorem dX3_shuffle_94 : decode cX3_shuffle 94 = .ok (.istore 9, 2) := by decide +kernel
theorem dX3_shuffle_96 : decode cX3_shuffle 96 = .ok (.aload_n 0, 1) := by decide +kernel
theorem dX3_shuffle_97 : decode cX3_shuffle 97 = .ok (.getfield 9, 3) := by decide +kernel
theorem dX3_shuffle_100 : decode cX3_shuffle 100 = .ok (.iload 7, 2) := by decide +kernel
theorem dX3_shuffle_102 : decode cX3_shuffle 102 = .ok (.aload_n 0, 1) := by decide +kernel
theorem dX3_shuffle_103 : decode cX3_shuffle 103 = .ok (.getfield 9, 3) := by decide +kernel
theorem dX3_shuffle_106 : decode cX3_shuffle 106 = .ok (.iload 8, 2) := by decide +kernel
theorem dX3_shuffle_108 : decode cX3_shuffle 108 = .ok (.iaload, 1) := by decide +kernel
theorem dX3_shuffle_109 : decode cX3_shuffle 109 = .ok (.iastore, 1) := by decide +kernel
theorem dX3_shuffle_110 : decode cX3_shuffle 110 = .ok (.aload_n 0, 1) := by decide +kernel
theorem dX3_shuffle_111 : decode cX3_shuffle 111 = .ok (.getfield 9, 3) := by decide +kernel
theorem dX3_shuffle_114 : decode cX3_shuffle 114 = .ok (.iload 8, 2) := by decide +kernel
theorem dX3_shuffle_116 : decode cX3_shuffle 116 = .ok (.iload 9, 2) := by decide +kernel
theorem dX3_shuffle_118 : decode cX3_shuffle 118 = .ok (.iastore, 1) := by decide +kernel
theorem dX3_shuffle_119 : decode cX3_shuffle 119 = .ok (.iinc 7 (-1), 3) := by decide +kernel
theorem dX3_shuffle_122 : decode cX3_shuffle 122 = .ok (.goto (-72), 3) := by decide +kernel
theorem dX3_shuffle_125 : decode cX3_shuffle 125 = .ok (.return_, 1) := by decide +kernel
theorem dX4_init_0 : decode cX4_init 0 = .ok (.aload_n 0, 1) := by decide +kernel
theorem dX4_init_1 : decode cX4_init 1 = .ok (.invokespecial 3, 3) := by decide +kernel
theorem dX4_init_4 : decode cX4_init 4 = .ok (.aload_n 0, 1) := by decide +kernel
theorem dX4_init_5 : decode cX4_init 5 = .ok (.bipush 80, 2) := by decide +kernel
theorem dX4_init_7 : decode cX4_init 7 = .ok (.newarray .int, 2) := by decide +kernel
theorem dX4_init_9 : decode cX4_init 9 = .ok (.putfield 9, 3) := by decide +kernel
theorem dX4_init_12 : decode cX4_init 12 = .ok (.aload_n 0, 1) := by decide +kernel
theorem dX4_init_13 : decode cX4_init 13 = .ok (.bipush 80, 2) := by decide +kernel
theorem dX4_init_15 : decode cX4_init 15 = .ok (.newarray .int, 2) := by decide +kernel
theorem dX4_init_17 : decode cX4_init 17 = .ok (.putfield 15, 3) := by decide +kernel
theorem dX4_init_20 : decode cX4_init 20 = .ok (.aload_n 0, 1) := by decide +kernel
theorem dX4_init_21 : decode cX4_init 21 = .ok (.bipush 80, 2) := by decide +kernel
theorem dX4_init_23 : decode cX4_init 23 = .ok (.newarray .int, 2) := by decide +kernel
theorem dX4_init_25 : decode cX4_init 25 = .ok (.putfield 18, 3) := by decide +kernel
theorem dX4_init_28 : decode cX4_init 28 = .ok (.return_, 1) := by decide +kernel
theorem dX4_append_0 : decode cX4_append 0 = .ok (.aload_n 0, 1) := by decide +kernel
theorem dX4_append_1 : decode cX4_append 1 = .ok (.getfield 21, 3) := by decide +kernel
theorem dX4_append_4 : decode cX4_append 4 = .ok (.istore 4, 2) := by decide +kernel
theorem dX4_append_6 : decode cX4_append 6 = .ok (.aload_n 0, 1) := by decide +kernel
theorem dX4_append_7 : decode cX4_append 7 = .ok (.getfield 9, 3) := by decide +kernel
theorem dX4_append_10 : decode cX4_append 10 = .ok (.iload 4, 2) := by decide +kernel
theorem dX4_append_12 : decode cX4_append 12 = .ok (.iload_n 1, 1) := by decide +kernel
theorem dX4_append_13 : decode cX4_append 13 = .ok (.iastore, 1) := by decide +kernel
theorem dX4_append_14 : decode cX4_append 14 = .ok (.aload_n 0, 1) := by decide +kernel
theorem dX4_append_15 : decode cX4_append 15 = .ok (.getfield 15, 3) := by decide +kernel
theorem dX4_append_18 : decode cX4_append 18 = .ok (.iload 4, 2) := by decide +kernel
theorem dX4_append_20 : decode cX4_append 20 = .ok (.iload_n 2, 1) := by decide +kernel
theorem dX4_append_21 : decode cX4_append 21 = .ok (.iastore, 1) := by decide +kernel
theorem dX4_append_22 : decode cX4_append 22 = .ok (.aload_n 0, 1) := by decide +kernel
theorem dX4_append_23 : decode cX4_append 23 = .ok (.getfield 18, 3) := by decide +kernel
theorem dX4_append_26 : decode cX4_append 26 = .ok (.iload 4, 2) := by decide +kernel
theorem dX4_append_28 : decode cX4_append 28 = .ok (.iload_n 3, 1) := by decide +kernel
theorem dX4_append_29 : decode cX4_append 29 = .ok (.iastore, 1) := by decide +kernel
theorem dX4_append_30 : decode cX4_append 30 = .ok (.aload_n 0, 1) := by decide +kernel
theorem dX4_append_31 : decode cX4_append 31 = .ok (.dup, 1) := by decide +kernel
theorem dX4_append_32 : decode cX4_append 32 = .ok (.getfield 21, 3) := by decide +kernel
theorem dX4_append_35 : decode cX4_append 35 = .ok (.iconst 1, 1) := by decide +kernel
theorem dX4_append_36 : decode cX4_append 36 = .ok (.iadd, 1) := by decide +kernel
theorem dX4_append_37 : decode cX4_append 37 = .ok (.putfield 21, 3) := by decide +kernel
theorem dX4_append_40 : decode cX4_append 40 = .ok (.iload 4, 2) := by decide +kernel
theorem dX4_append_42 : decode cX4_append 42 = .ok (.ireturn, 1) := by decide +kernel
theorem dX4_countOf_0 : decode cX4_countOf 0 = .ok (.iconst 0, 1) := by decide +kernel
theorem dX4_countOf_1 : decode cX4_countOf 1 = .ok (.istore_n 3, 1) := by decide +kernel
theorem dX4_countOf_2 : decode cX4_countOf 2 = .ok (.iconst 0, 1) := by decide +kernel
theorem dX4_countOf_3 : decode cX4_countOf 3 = .ok (.istore 4, 2) := by decide +kernel
theorem dX4_countOf_5 : decode cX4_countOf 5 = .ok (.iload 4, 2) := by decide +kernel
theorem dX4_countOf_7 : decode cX4_countOf 7 = .ok (.aload_n 0, 1) := by decide +kernel
theorem dX4_countOf_8 : decode cX4_countOf 8 = .ok (.getfield 21, 3) := by decide +kernel
theorem dX4_countOf_11 : decode cX4_countOf 11 = .ok (.if_icmp .ge 34, 3) := by decide +kernel
theorem dX4_countOf_14 : decode cX4_countOf 14 = .ok (.aload_n 0, 1) := by decide +kernel
theorem dX4_countOf_15 : decode cX4_countOf 15 = .ok (.getfield 18, 3) := by decide +kernel
theorem dX4_countOf_18 : decode cX4_countOf 18 = .ok (.iload 4, 2) := by decide +kernel
theorem dX4_countOf_20 : decode cX4_countOf 20 = .ok (.iaload, 1) := by decide +kernel
theorem dX4_countOf_21 : decode cX4_countOf 21 = .ok (.iload_n 1, 1) := by decide +kernel
theorem dX4_countOf_22 : decode cX4_countOf 22 = .ok (.if_icmp .ne 17, 3) := by decide +kernel
theorem dX4_countOf_25 : decode cX4_countOf 25 = .ok (.aload_n 0, 1) := by decide +kernel
theorem dX4_countOf_26 : decode cX4_countOf 26 = .ok (.getfield 9, 3) := by decide +kernel
theorem dX4_countOf_29 : decode cX4_countOf 29 = .ok (.iload 4, 2) := by decide +kernel
theorem dX4_countOf_31 : decode cX4_countOf 31 = .ok (.iaload, 1) := by decide +kernel
theorem dX4_countOf_32 : decode cX4_countOf 32 = .ok (.iload_n 2, 1) := by decide +kernel
theorem dX4_countOf_33 : decode cX4_countOf 33 = .ok (.if_icmp .ne 6, 3) := by decide +kernel
theorem dX4_countOf_36 : decode cX4_countOf 36 = .ok (.iinc 3 1, 3) := by decide +kernel
theorem dX4_countOf_39 : decode cX4_countOf 39 = .ok (.iinc 4 1, 3) := by decide +kernel
theorem dX4_countOf_42 : decode cX4_countOf 42 = .ok (.goto (-37), 3) := by decide +kernel
theorem dX4_countOf_45 : decode cX4_countOf 45 = .ok (.iload_n 3, 1) := by decide +kernel
theorem dX4_countOf_46 : decode cX4_countOf 46 = .ok (.ireturn, 1) := by decide +kernel
set_option maxRecDepth 20000 in
theorem ggX5_init_X3_init : GoodIn wsX5_init wsX3_init := goodIn_r _ [9, 10, 2, 3, 11, 12, 13] (by decide +kernel) (by decide +kernel)
set_option maxRecDepth 20000 in
theorem gX5_init_X3_init_n11 : GoodIn wsX5_init (wsX3_init) := ggX5_init_X3_init
theorem dX5_init_0 : decode cX5_init 0 = .ok (.aload_n 0, 1) := by decide +kernel
theorem dX5_init_1 : decode cX5_init 1 = .ok (.invokespecial 3, 3) := by decide +kernel
theorem dX5_init_4 : decode cX5_init 4 = .ok (.aload_n 0, 1) := by decide +kernel
theorem dX5_init_5 : decode cX5_init 5 = .ok (.new 9, 3) := by decide +kernel
theorem dX5_init_8 : decode cX5_init 8 = .ok (.dup, 1) := by decide +kernel
theorem dX5_init_9 : decode cX5_init 9 = .ok (.invokespecial 11, 3) := by decide +kernel
theorem dX5_init_12 : decode cX5_init 12 = .ok (.putfield 12, 3) := by decide +kernel
theorem dX5_init_15 : decode cX5_init 15 = .ok (.return_, 1) := by decide +kernel
set_option maxRecDepth 20000 in
theorem ggX5_start_X3_shuffle : GoodIn wsX5_start wsX3_shuffle := goodIn_r _ [8, 9, 10, 11, 12, 13, 14, 15, 19, 20, 21, 22, 23, 24, 25] (by decide +kernel) (by decide +kernel)
set_option maxRecDepth 20000 in
theorem gX5_start_X3_shuffle : GoodIn wsX5_start (wsV RX5 18 RX3 yX3_shuffle wsX3_shuffle) := goodIn_app (goodIn_of _ (by decide +kernel)) ggX5_start_X3_shuffle
theorem dX5_start_0 : decode cX5_start 0 = .ok (.aload_n 0, 1) := by decide +kernel
theorem dX5_start_1 : decode cX5_start 1 = .ok (.getfield 12, 3) := by decide +kernel
theorem dX5_start_4 : decode cX5_start 4 = .ok (.aload_n 1, 1) := by decide +kernel
theorem dX5_start_5 : decode cX5_start 5 = .ok (.iload_n 2, 1) := by decide +kernel
theorem dX5_start_6 : decode cX5_start 6 = .ok (.iload_n 3, 1) := by decide +kernel
theorem dX5_start_7 : decode cX5_start 7 = .ok (.invokevirtual 18, 3) := by decide +kernel
theorem dX5_start_10 : decode cX5_start 10 = .ok (.aload_n 0, 1) := by decide +kernel
theorem dX5_start_11 : decode cX5_start 11 = .ok (.iconst 0, 1) := by decide +kernel
theorem dX5_start_12 : decode cX5_start 12 = .ok (.putfield 22, 3) := by decide +kernel
theorem dX5_start_15 : decode cX5_start 15 = .ok (.aload_n 0, 1) := by decide +kernel
theorem dX5_start_16 : decode cX5_start 16 = .ok (.iconst 0, 1) := by decide +kernel
theorem dX5_start_17 : decode cX5_start 17 = .ok (.putfield 26, 3) := by decide +kernel
theorem dX5_start_20 : decode cX5_start 20 = .ok (.return_, 1) := by decide +kernel
theorem dX5_endRound_0 : decode cX5_endRound 0 = .ok (.aload_n 0, 1) := by decide +kernel
theorem dX5_endRound_1 : decode cX5_endRound 1 = .ok (.iconst 0, 1) := by decide +kernel
theorem dX5_endRound_2 : decode cX5_endRound 2 = .ok (.putfield 26, 3) := by decide +kernel
theorem dX5_endRound_5 : decode cX5_endRound 5 = .ok (.iload_n 1, 1) := by decide +kernel
theorem dX5_endRound_6 : decode cX5_endRound 6 = .ok (.ifCond .eq 13, 3) := by decide +kernel
theorem dX5_endRound_9 : decode cX5_endRound 9 = .ok (.aload_n 0, 1) := by decide +kernel
theorem dX5_endRound_10 : decode cX5_endRound 10 = .ok (.dup, 1) := by decide +kernel
theorem dX5_endRound_11 : decode cX5_endRound 11 = .ok (.getfield 22, 3) := by decide +kernel
theorem dX5_endRound_14 : decode cX5_endRound 14 = .ok (.iconst 1, 1) := by decide +kernel
theorem dX5_endRound_15 : decode cX5_endRound 15 = .ok (.iadd, 1) := by decide +kernel
theorem dX5_endRound_16 : decode cX5_endRound 16 = .ok (.putfield 22, 3) := by decide +kernel
theorem dX5_endRound_19 : decode cX5_endRound 19 = .ok (.iload_n 3, 1) := by decide +kernel
theorem dX5_endRound_20 : decode cX5_endRound 20 = .ok (.iconst 3, 1) := by decide +kernel
theorem dX5_endRound_21 : decode cX5_endRound 21 = .ok (.if_icmp .ne 4, 3) := by decide +kernel
theorem dX5_endRound_24 : decode cX5_endRound 24 = .ok (.return_, 1) := by decide +kernel
theorem dX5_endRound_25 : decode cX5_endRound 25 = .ok (.iload_n 2, 1) := by decide +kernel
theorem dX5_endRound_26 : decode cX5_endRound 26 = .ok (.iconst 1, 1) := by decide +kernel
theorem dX5_endRound_27 : decode cX5_endRound 27 = .ok (.if_icmp .ne 17, 3) := by decide +kernel
theorem dX5_endRound_30 : decode cX5_endRound 30 = .ok (.iload_n 1, 1) := by decide +kernel
theorem dX5_endRound_31 : decode cX5_endRound 31 = .ok (.ifCond .eq 13, 3) := by decide +kernel
theorem dX5_endRound_34 : decode cX5_endRound 34 = .ok (.aload_n 0, 1) := by decide +kernel
theorem dX5_endRound_35 : decode cX5_endRound 35 = .ok (.dup, 1) := by decide +kernel
theorem dX5_endRound_36 : decode cX5_endRound 36 = .ok (.getfield 22, 3) := by decide +kernel
theorem dX5_endRound_39 : decode cX5_endRound 39 = .ok (.iconst 1, 1) := by decide +kernel
theorem dX5_endRound_40 : decode cX5_endRound 40 = .ok (.iadd, 1) := by decide +kernel
theorem dX5_endRound_41 : decode cX5_endRound 41 = .ok (.putfield 22, 3) := by decide +kernel
theorem dX5_endRound_44 : decode cX5_endRound 44 = .ok (.iload_n 2, 1) := by decide +kernel
theorem dX5_endRound_45 : decode cX5_endRound 45 = .ok (.iconst 2, 1) := by decide +kernel
theorem dX5_endRound_46 : decode cX5_endRound 46 = .ok (.if_icmp .ne 12, 3) := by decide +kernel
theorem dX5_endRound_49 : decode cX5_endRound 49 = .ok (.iload_n 1, 1) := by decide +kernel
theorem dX5_endRound_50 : decode cX5_endRound 50 = .ok (.ifCond .ne 8, 3) := by decide +kernel
theorem dX5_endRound_53 : decode cX5_endRound 53 = .ok (.aload_n 0, 1) := by decide +kernel
theorem dX5_endRound_54 : decode cX5_endRound 54 = .ok (.iconst 2, 1) := by decide +kernel
theorem dX5_endRound_55 : decode cX5_endRound 55 = .ok (.putfield 26, 3) := by decide +kernel
theorem dX5_endRound_58 : decode cX5_endRound 58 = .ok (.return_, 1) := by decide +kernel
set_option maxRecDepth 20000 in
theorem ggX6_init_X1_init : GoodIn wsX6_init wsX1_init := goodIn_r _ [30, 31, 2, 3, 32, 33, 34, 35, 36, 37, 38, 72, 73, 74, 75, 76] (by decide +kernel) (by decide +kernel)
set_option maxRecDepth 20000 in
theorem gX6_init_X1_init_n9 : GoodIn wsX6_init (wsX1_init) := ggX6_init_X1_init
set_option maxRecDepth 20000 in
theorem ggX6_init_X4_init : GoodIn wsX6_init wsX4_init := goodIn_r _ [40, 41, 2, 3, 32, 42, 43, 44, 84, 85, 86, 87] (by decide +kernel) (by decide +kernel)
set_option maxRecDepth 20000 in
theorem gX6_init_X4_init_n18 : GoodIn wsX6_init (wsX4_init) := ggX6_init_X4_init
set_option maxRecDepth 20000 in
theorem ggX6_init_X0_init : GoodIn wsX6_init wsX0_init := goodIn_r _ [46, 47, 2, 3, 32, 48, 49, 50, 51, 52, 53, 88, 89, 90, 91, 92, 93] (by decide +kernel) (by decide +kernel)
set_option maxRecDepth 20000 in
theorem gX6_init_X0_init_n25 : GoodIn wsX6_init (wsX0_init) := ggX6_init_X0_init
set_option maxRecDepth 20000 in
theorem ggX6_init_X2_init : GoodIn wsX6_init wsX2_init := goodIn_r _ [55, 56, 2, 3, 32, 57, 58, 59, 60, 35, 61, 62, 94, 95, 96, 97, 98, 99, 100] (by decide +kernel) (by decide +kernel)
set_option maxRecDepth 20000 in
theorem gX6_init_X2_init_n32 : GoodIn wsX6_init (wsX2_init) := ggX6_init_X2_init
set_option maxRecDepth 20000 in
theorem ggX6_init_X3_init : GoodIn wsX6_init wsX3_init := goodIn_r _ [64, 65, 2, 3, 32, 66, 101] (by decide +kernel) (by decide +kernel)
set_option maxRecDepth 20000 in
theorem gX6_init_X3_init_n39 : GoodIn wsX6_init (wsX3_init) := ggX6_init_X3_init
set_option maxRecDepth 20000 in
theorem ggX6_init_X5_init : GoodIn wsX6_init wsX5_init := goodIn_r _ [68, 69, 2, 3, 70, 21, 22, 71, 63, 64, 65, 32, 66, 101, 102, 103, 104] (by decide +kernel) (by decide +kernel)
set_option maxRecDepth 20000 in
theorem gX6_init_X5_init_n46 : GoodIn wsX6_init (wsX5_init) := ggX6_init_X5_init
theorem dX6_init_0 : decode cX6_init 0 = .ok (.aload_n 0, 1) := by decide +kernel
theorem dX6_init_1 : decode cX6_init 1 = .ok (.invokespecial 1, 3) := by decide +kernel
theorem dX6_init_4 : decode cX6_init 4 = .ok (.aload_n 0, 1) := by decide +kernel
theorem dX6_init_5 : decode cX6_init 5 = .ok (.new 7, 3) := by decide +kernel
theorem dX6_init_8 : decode cX6_init 8 = .ok (.dup, 1) := by decide +kernel
theorem dX6_init_9 : decode cX6_init 9 = .ok (.invokespecial 9, 3) := by decide +kernel
theorem dX6_init_12 : decode cX6_init 12 = .ok (.putfield 10, 3) := by decide +kernel
theorem dX6_init_15 : decode cX6_init 15 = .ok (.aload_n 0, 1) := by decide +kernel
theorem dX6_init_16 : decode cX6_init 16 = .ok (.new 16, 3) := by decide +kernel
theorem dX6_init_19 : decode cX6_init 19 = .ok (.dup, 1) := by decide +kernel
theorem dX6_init_20 : decode cX6_init 20 = .ok (.invokespecial 18, 3) := by decide +kernel
theorem dX6_init_23 : decode cX6_init 23 = .ok (.putfield 19, 3) := by decide +kernel
theorem dX6_init_26 : decode cX6_init 26 = .ok (.aload_n 0, 1) := by decide +kernel
theorem dX6_init_27 : decode cX6_init 27 = .ok (.new 23, 3) := by decide +kernel
theorem dX6_init_30 : decode cX6_init 30 = .ok (.dup, 1) := by decide +kernel
theorem dX6_init_31 : decode cX6_init 31 = .ok (.invokespecial 25, 3) := by decide +kernel
theorem dX6_init_34 : decode cX6_init 34 = .ok (.putfield 26, 3) := by decide +kernel
theorem dX6_init_37 : decode cX6_init 37 = .ok (.aload_n 0, 1) := by decide +kernel
theorem dX6_init_38 : decode cX6_init 38 = .ok (.new 30, 3) := by decide +kernel
theorem dX6_init_41 : decode cX6_init 41 = .ok (.dup, 1) := by decide +kernel
theorem dX6_init_42 : decode cX6_init 42 = .ok (.invokespecial 32, 3) := by decide +kernel
theorem dX6_init_45 : decode cX6_init 45 = .ok (.putfield 33, 3) := by decide +kernel
theorem dX6_init_48 : decode cX6_init 48 = .ok (.aload_n 0, 1) := by decide +kernel
theorem dX6_init_49 : decode cX6_init 49 = .ok (.new 37, 3) := by decide +kernel
theorem dX6_init_52 : decode cX6_init 52 = .ok (.dup, 1) := by decide +kernel
theorem dX6_init_53 : decode cX6_init 53 = .ok (.invokespecial 39, 3) := by decide +kernel
theorem dX6_init_56 : decode cX6_init 56 = .ok (.putfield 40, 3) := by decide +kernel
theorem dX6_init_59 : decode cX6_init 59 = .ok (.aload_n 0, 1) := by decide +kernel
theorem dX6_init_60 : decode cX6_init 60 = .ok (.new 44, 3) := by decide +kernel
theorem dX6_init_63 : decode cX6_init 63 = .ok (.dup, 1) := by decide +kernel
theorem dX6_init_64 : decode cX6_init 64 = .ok (.invokespecial 46, 3) := by decide +kernel
theorem dX6_init_67 : decode cX6_init 67 = .ok (.putfield 47, 3) := by decide +kernel
theorem dX6_init_70 : decode cX6_init 70 = .ok (.aload_n 0, 1) := by decide +kernel
theorem dX6_init_71 : decode cX6_init 71 = .ok (.new 44, 3) := by decide +kernel
theorem dX6_init_74 : decode cX6_init 74 = .ok (.dup, 1) := by decide +kernel
theorem dX6_init_75 : decode cX6_init 75 = .ok (.invokespecial 46, 3) := by decide +kernel
theorem dX6_init_78 : decode cX6_init 78 = .ok (.putfield 51, 3) := by decide +kernel
theorem dX6_init_81 : decode cX6_init 81 = .ok (.return_, 1) := by decide +kernel
set_option maxRecDepth 20000 in
theorem ggX6_setKind_X6_needKind : GoodIn wsX6_setKind wsX6_needKind := goodIn_ca (goodIn_r _ [7, 8, 9] (by decide +kernel) (by decide +kernel)) (goodIn_sub (fun _ h => List.mem_cons_of_mem _ (List.mem_append_left _ (List.mem_append_right _ h))) (by decide +kernel))
set_option maxRecDepth 20000 in
theorem gX6_setKind_X6_needKind : GoodIn wsX6_setKind (va_wsS RX6 54 yX6_needKind wsX6_needKind) := goodIn_app (goodIn_of _ (by decide +kernel)) ggX6_setKind_X6_needKind
set_option maxRecDepth 20000 in
theorem ggX6_setKind_X6_needRange : GoodIn wsX6_setKind wsX6_needRange := goodIn_ca (goodIn_r _ [12, 13, 14] (by decide +kernel) (by decide +kernel)) (goodIn_sub (fun _ h => List.mem_cons_of_mem _ (List.mem_append_right _ h)) (by decide +kernel))
set_option maxRecDepth 20000 in
theorem gX6_setKind_X6_needRange : GoodIn wsX6_setKind (va_wsS RX6 58 yX6_needRange wsX6_needRange) := goodIn_app (goodIn_of _ (by decide +kernel)) ggX6_setKind_X6_needRange
theorem dX6_setKind_0 : decode cX6_setKind 0 = .ok (.iload_n 1, 1) := by decide +kernel
theorem dX6_setKind_1 : decode cX6_setKind 1 = .ok (.invokestatic 54, 3) := by decide +kernel
theorem dX6_setKind_4 : decode cX6_setKind 4 = .ok (.iload_n 2, 1) := by decide +kernel
theorem dX6_setKind_5 : decode cX6_setKind 5 = .ok (.iconst 0, 1) := by decide +kernel
theorem dX6_setKind_6 : decode cX6_setKind 6 = .ok (.bipush 9, 2) := by decide +kernel
theorem dX6_setKind_8 : decode cX6_setKind 8 = .ok (.invokestatic 58, 3) := by decide +kernel
theorem dX6_setKind_11 : decode cX6_setKind 11 = .ok (.iload_n 3, 1) := by decide +kernel
theorem dX6_setKind_12 : decode cX6_setKind 12 = .ok (.iconst 0, 1) := by decide +kernel
theorem dX6_setKind_13 : decode cX6_setKind 13 = .ok (.iconst 3, 1) := by decide +kernel
theorem dX6_setKind_14 : decode cX6_setKind 14 = .ok (.invokestatic 58, 3) := by decide +kernel
theorem dX6_setKind_17 : decode cX6_setKind 17 = .ok (.aload_n 0, 1) := by decide +kernel
theorem dX6_setKind_18 : decode cX6_setKind 18 = .ok (.getfield 10, 3) := by decide +kernel
theorem dX6_setKind_21 : decode cX6_setKind 21 = .ok (.getfield 62, 3) := by decide +kernel
theorem dX6_setKind_24 : decode cX6_setKind 24 = .ok (.iload_n 1, 1) := by decide +kernel
theorem dX6_setKind_25 : decode cX6_setKind 25 = .ok (.iaload, 1) := by decide +kernel
theorem dX6_setKind_26 : decode cX6_setKind 26 = .ok (.istore 4, 2) := by decide +kernel
theorem dX6_setKind_28 : decode cX6_setKind 28 = .ok (.aload_n 0, 1) := by decide +kernel
theorem dX6_setKind_29 : decode cX6_setKind 29 = .ok (.getfield 10, 3) := by decide +kernel
theorem dX6_setKind_32 : decode cX6_setKind 32 = .ok (.getfield 62, 3) := by decide +kernel
theorem dX6_setKind_35 : decode cX6_setKind 35 = .ok (.iload_n 1, 1) := by decide +kernel
theorem dX6_setKind_36 : decode cX6_setKind 36 = .ok (.iload_n 2, 1) := by decide +kernel
theorem dX6_setKind_37 : decode cX6_setKind 37 = .ok (.iastore, 1) := by decide +kernel
theorem dX6_setKind_38 : decode cX6_setKind 38 = .ok (.aload_n 0, 1) := by decide +kernel
theorem dX6_setKind_39 : decode cX6_setKind 39 = .ok (.getfield 10, 3) := by decide +kernel
theorem dX6_setKind_42 : decode cX6_setKind 42 = .ok (.getfield 66, 3) := by decide +kernel
theorem dX6_setKind_45 : decode cX6_setKind 45 = .ok (.iload_n 1, 1) := by decide +kernel
theorem dX6_setKind_46 : decode cX6_setKind 46 = .ok (.iload_n 3, 1) := by decide +kernel
theorem dX6_setKind_47 : decode cX6_setKind 47 = .ok (.iastore, 1) := by decide +kernel
theorem dX6_setKind_48 : decode cX6_setKind 48 = .ok (.iload 4, 2) := by decide +kernel
theorem dX6_setKind_50 : decode cX6_setKind 50 = .ok (.ireturn, 1) := by decide +kernel
set_option maxRecDepth 20000 in
theorem ggX6_setFormat_X6_needRange : GoodIn wsX6_setFormat wsX6_needRange := goodIn_ca (goodIn_r _ [9, 10, 11] (by decide +kernel) (by decide +kernel)) (goodIn_sub (fun _ h => List.mem_cons_of_mem _ (List.mem_append_right _ h)) (by decide +kernel))
