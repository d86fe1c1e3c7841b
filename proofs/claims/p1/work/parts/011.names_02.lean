set_option maxRecDepth 20000 in
theorem ggX1_cheapestBeside_X1_isLess : GoodIn wsX1_cheapestBeside wsX1_isLess := goodIn_r _ [22] (by decide +kernel) (by decide +kernel)
set_option maxRecDepth 20000 in
theorem gX1_cheapestBeside_X1_isLess : GoodIn wsX1_cheapestBeside (va_wsS RX1 129 yX1_isLess wsX1_isLess) := goodIn_app (goodIn_of _ (by decide +kernel)) ggX1_cheapestBeside_X1_isLess
theorem dX1_cheapestBeside_0 : decode cX1_cheapestBeside 0 = .ok (.iload_n 1, 1) := by decide +kernel
theorem dX1_cheapestBeside_1 : decode cX1_cheapestBeside 1 = .ok (.istore_n 2, 1) := by decide +kernel
theorem dX1_cheapestBeside_2 : decode cX1_cheapestBeside 2 = .ok (.iconst 0, 1) := by decide +kernel
theorem dX1_cheapestBeside_3 : decode cX1_cheapestBeside 3 = .ok (.istore_n 3, 1) := by decide +kernel
theorem dX1_cheapestBeside_4 : decode cX1_cheapestBeside 4 = .ok (.iload_n 3, 1) := by decide +kernel
theorem dX1_cheapestBeside_5 : decode cX1_cheapestBeside 5 = .ok (.aload_n 0, 1) := by decide +kernel
theorem dX1_cheapestBeside_6 : decode cX1_cheapestBeside 6 = .ok (.getfield 15, 3) := by decide +kernel
theorem dX1_cheapestBeside_9 : decode cX1_cheapestBeside 9 = .ok (.invokevirtual 122, 3) := by decide +kernel
theorem dX1_cheapestBeside_12 : decode cX1_cheapestBeside 12 = .ok (.if_icmp .gt 37, 3) := by decide +kernel
theorem dX1_cheapestBeside_15 : decode cX1_cheapestBeside 15 = .ok (.iload_n 1, 1) := by decide +kernel
theorem dX1_cheapestBeside_16 : decode cX1_cheapestBeside 16 = .ok (.iload_n 3, 1) := by decide +kernel
theorem dX1_cheapestBeside_17 : decode cX1_cheapestBeside 17 = .ok (.invokestatic 136, 3) := by decide +kernel
theorem dX1_cheapestBeside_20 : decode cX1_cheapestBeside 20 = .ok (.ifCond .eq 23, 3) := by decide +kernel
theorem dX1_cheapestBeside_23 : decode cX1_cheapestBeside 23 = .ok (.aload_n 0, 1) := by decide +kernel
theorem dX1_cheapestBeside_24 : decode cX1_cheapestBeside 24 = .ok (.getfield 9, 3) := by decide +kernel
theorem dX1_cheapestBeside_27 : decode cX1_cheapestBeside 27 = .ok (.iload_n 3, 1) := by decide +kernel
theorem dX1_cheapestBeside_28 : decode cX1_cheapestBeside 28 = .ok (.iaload, 1) := by decide +kernel
theorem dX1_cheapestBeside_29 : decode cX1_cheapestBeside 29 = .ok (.aload_n 0, 1) := by decide +kernel
theorem dX1_cheapestBeside_30 : decode cX1_cheapestBeside 30 = .ok (.getfield 9, 3) := by decide +kernel
theorem dX1_cheapestBeside_33 : decode cX1_cheapestBeside 33 = .ok (.iload_n 2, 1) := by decide +kernel
theorem dX1_cheapestBeside_34 : decode cX1_cheapestBeside 34 = .ok (.iaload, 1) := by decide +kernel
theorem dX1_cheapestBeside_35 : decode cX1_cheapestBeside 35 = .ok (.invokestatic 129, 3) := by decide +kernel
theorem dX1_cheapestBeside_38 : decode cX1_cheapestBeside 38 = .ok (.ifCond .eq 5, 3) := by decide +kernel
theorem dX1_cheapestBeside_41 : decode cX1_cheapestBeside 41 = .ok (.iload_n 3, 1) := by decide +kernel
theorem dX1_cheapestBeside_42 : decode cX1_cheapestBeside 42 = .ok (.istore_n 2, 1) := by decide +kernel
theorem dX1_cheapestBeside_43 : decode cX1_cheapestBeside 43 = .ok (.iinc 3 1, 3) := by decide +kernel
theorem dX1_cheapestBeside_46 : decode cX1_cheapestBeside 46 = .ok (.goto (-42), 3) := by decide +kernel
theorem dX1_cheapestBeside_49 : decode cX1_cheapestBeside 49 = .ok (.iload_n 2, 1) := by decide +kernel
theorem dX1_cheapestBeside_50 : decode cX1_cheapestBeside 50 = .ok (.ireturn, 1) := by decide +kernel
set_option maxRecDepth 20000 in
theorem ggX1_isBeside_J6_bitCount_0f7a4 : GoodIn wsX1_isBeside wsJ6_bitCount_0f7a4 := goodIn_r _ [4, 5, 6, 7] (by decide +kernel) (by decide +kernel)
set_option maxRecDepth 20000 in
theorem gX1_isBeside_J6_bitCount_0f7a4 : GoodIn wsX1_isBeside (va_wsS RX1 88 yJ6_bitCount_0f7a4 wsJ6_bitCount_0f7a4) := goodIn_app (goodIn_of _ (by decide +kernel)) ggX1_isBeside_J6_bitCount_0f7a4
theorem dX1_isBeside_0 : decode cX1_isBeside 0 = .ok (.iload_n 0, 1) := by decide +kernel
theorem dX1_isBeside_1 : decode cX1_isBeside 1 = .ok (.iload_n 1, 1) := by decide +kernel
theorem dX1_isBeside_2 : decode cX1_isBeside 2 = .ok (.ixor, 1) := by decide +kernel
theorem dX1_isBeside_3 : decode cX1_isBeside 3 = .ok (.invokestatic 88, 3) := by decide +kernel
theorem dX1_isBeside_6 : decode cX1_isBeside 6 = .ok (.istore_n 2, 1) := by decide +kernel
theorem dX1_isBeside_7 : decode cX1_isBeside 7 = .ok (.iload_n 2, 1) := by decide +kernel
theorem dX1_isBeside_8 : decode cX1_isBeside 8 = .ok (.iconst 1, 1) := by decide +kernel
theorem dX1_isBeside_9 : decode cX1_isBeside 9 = .ok (.if_icmp .eq 19, 3) := by decide +kernel
theorem dX1_isBeside_12 : decode cX1_isBeside 12 = .ok (.iload_n 2, 1) := by decide +kernel
theorem dX1_isBeside_13 : decode cX1_isBeside 13 = .ok (.iconst 2, 1) := by decide +kernel
theorem dX1_isBeside_14 : decode cX1_isBeside 14 = .ok (.if_icmp .ne 18, 3) := by decide +kernel
theorem dX1_isBeside_17 : decode cX1_isBeside 17 = .ok (.iload_n 0, 1) := by decide +kernel
theorem dX1_isBeside_18 : decode cX1_isBeside 18 = .ok (.invokestatic 88, 3) := by decide +kernel
theorem dX1_isBeside_21 : decode cX1_isBeside 21 = .ok (.iload_n 1, 1) := by decide +kernel
theorem dX1_isBeside_22 : decode cX1_isBeside 22 = .ok (.invokestatic 88, 3) := by decide +kernel
theorem dX1_isBeside_25 : decode cX1_isBeside 25 = .ok (.if_icmp .ne 7, 3) := by decide +kernel
theorem dX1_isBeside_28 : decode cX1_isBeside 28 = .ok (.iconst 1, 1) := by decide +kernel
theorem dX1_isBeside_29 : decode cX1_isBeside 29 = .ok (.goto 4, 3) := by decide +kernel
theorem dX1_isBeside_32 : decode cX1_isBeside 32 = .ok (.iconst 0, 1) := by decide +kernel
theorem dX1_isBeside_33 : decode cX1_isBeside 33 = .ok (.ireturn, 1) := by decide +kernel
theorem dX2_init_0 : decode cX2_init 0 = .ok (.aload_n 0, 1) := by decide +kernel
theorem dX2_init_1 : decode cX2_init 1 = .ok (.invokespecial 3, 3) := by decide +kernel
theorem dX2_init_4 : decode cX2_init 4 = .ok (.aload_n 0, 1) := by decide +kernel
theorem dX2_init_5 : decode cX2_init 5 = .ok (.sipush 256, 3) := by decide +kernel
theorem dX2_init_8 : decode cX2_init 8 = .ok (.newarray .int, 2) := by decide +kernel
theorem dX2_init_10 : decode cX2_init 10 = .ok (.putfield 9, 3) := by decide +kernel
theorem dX2_init_13 : decode cX2_init 13 = .ok (.aload_n 0, 1) := by decide +kernel
theorem dX2_init_14 : decode cX2_init 14 = .ok (.sipush 256, 3) := by decide +kernel
theorem dX2_init_17 : decode cX2_init 17 = .ok (.newarray .int, 2) := by decide +kernel
theorem dX2_init_19 : decode cX2_init 19 = .ok (.putfield 15, 3) := by decide +kernel
theorem dX2_init_22 : decode cX2_init 22 = .ok (.aload_n 0, 1) := by decide +kernel
theorem dX2_init_23 : decode cX2_init 23 = .ok (.iconst 1, 1) := by decide +kernel
theorem dX2_init_24 : decode cX2_init 24 = .ok (.putfield 18, 3) := by decide +kernel
theorem dX2_init_27 : decode cX2_init 27 = .ok (.aload_n 0, 1) := by decide +kernel
theorem dX2_init_28 : decode cX2_init 28 = .ok (.aload_n 1, 1) := by decide +kernel
theorem dX2_init_29 : decode cX2_init 29 = .ok (.putfield 22, 3) := by decide +kernel
theorem dX2_init_32 : decode cX2_init 32 = .ok (.aload_n 0, 1) := by decide +kernel
theorem dX2_init_33 : decode cX2_init 33 = .ok (.aload_n 2, 1) := by decide +kernel
theorem dX2_init_34 : decode cX2_init 34 = .ok (.putfield 26, 3) := by decide +kernel
theorem dX2_init_37 : decode cX2_init 37 = .ok (.return_, 1) := by decide +kernel
theorem dX2_forget_0 : decode cX2_forget 0 = .ok (.aload_n 0, 1) := by decide +kernel
theorem dX2_forget_1 : decode cX2_forget 1 = .ok (.iconst 1, 1) := by decide +kernel
theorem dX2_forget_2 : decode cX2_forget 2 = .ok (.putfield 18, 3) := by decide +kernel
theorem dX2_forget_5 : decode cX2_forget 5 = .ok (.return_, 1) := by decide +kernel
set_option maxRecDepth 20000 in
theorem ggX2_refresh_X6_refresh : GoodIn wsX2_refresh wsX6_refresh := goodIn_r _ [10, 11, 12, 13, 14, 15, 16, 17, 18, 19, 20, 21, 9, 22, 23, 24, 25, 26, 27, 28, 29, 30, 31, 32, 33, 34, 63, 64, 65, 66, 67, 68, 69, 70, 71, 72, 73, 74, 75, 76, 77] (by decide +kernel) (by decide +kernel)
set_option maxRecDepth 20000 in
theorem gX2_refresh_X6_refresh : GoodIn wsX2_refresh (wsV RX2 30 RX6 yX6_refresh wsX6_refresh) := goodIn_app (goodIn_of _ (by decide +kernel)) ggX2_refresh_X6_refresh
set_option maxRecDepth 20000 in
theorem ggX2_refresh_J7_fill_53178 : GoodIn wsX2_refresh wsJ7_fill_53178 := goodIn_r _ [38] (by decide +kernel) (by decide +kernel)
set_option maxRecDepth 20000 in
theorem gX2_refresh_J7_fill_53178 : GoodIn wsX2_refresh (va_wsS RX2 36 yJ7_fill_53178 wsJ7_fill_53178) := goodIn_app (goodIn_of _ (by decide +kernel)) ggX2_refresh_J7_fill_53178
set_option maxRecDepth 20000 in
theorem ggX2_refresh_X5_everyHall : GoodIn wsX2_refresh wsX5_everyHall := goodIn_r _ [42, 43, 68, 69, 70, 71, 72, 73, 74, 75, 76, 77] (by decide +kernel) (by decide +kernel)
set_option maxRecDepth 20000 in
theorem gX2_refresh_X5_everyHall : GoodIn wsX2_refresh (wsV RX2 42 RX5 yX5_everyHall wsX5_everyHall) := goodIn_app (goodIn_of _ (by decide +kernel)) ggX2_refresh_X5_everyHall
set_option maxRecDepth 20000 in
theorem ggX2_refresh_X2_offer : GoodIn wsX2_refresh wsX2_offer := goodIn_r _ [48, 49, 2, 50, 5, 51, 52, 3, 53, 24, 25, 26, 54, 55, 56, 9, 57, 12, 58, 59, 60, 61, 62, 63, 64, 65, 66, 67, 68, 69, 70, 71, 72, 73, 74, 75, 76, 77] (by decide +kernel) (by decide +kernel)
set_option maxRecDepth 20000 in
theorem gX2_refresh_X2_offer : GoodIn wsX2_refresh (wsV RX2 48 RX2 yX2_offer wsX2_offer) := goodIn_app (goodIn_of _ (by decide +kernel)) ggX2_refresh_X2_offer
theorem dX2_refresh_0 : decode cX2_refresh 0 = .ok (.aload_n 0, 1) := by decide +kernel
theorem dX2_refresh_1 : decode cX2_refresh 1 = .ok (.getfield 18, 3) := by decide +kernel
theorem dX2_refresh_4 : decode cX2_refresh 4 = .ok (.ifCond .ne 4, 3) := by decide +kernel
theorem dX2_refresh_7 : decode cX2_refresh 7 = .ok (.return_, 1) := by decide +kernel
theorem dX2_refresh_8 : decode cX2_refresh 8 = .ok (.aload_n 0, 1) := by decide +kernel
theorem dX2_refresh_9 : decode cX2_refresh 9 = .ok (.iconst 0, 1) := by decide +kernel
theorem dX2_refresh_10 : decode cX2_refresh 10 = .ok (.putfield 18, 3) := by decide +kernel
theorem dX2_refresh_13 : decode cX2_refresh 13 = .ok (.aload_n 0, 1) := by decide +kernel
theorem dX2_refresh_14 : decode cX2_refresh 14 = .ok (.getfield 26, 3) := by decide +kernel
theorem dX2_refresh_17 : decode cX2_refresh 17 = .ok (.invokevirtual 30, 3) := by decide +kernel
theorem dX2_refresh_20 : decode cX2_refresh 20 = .ok (.aload_n 0, 1) := by decide +kernel
theorem dX2_refresh_21 : decode cX2_refresh 21 = .ok (.getfield 9, 3) := by decide +kernel
theorem dX2_refresh_24 : decode cX2_refresh 24 = .ok (.ldc 35, 2) := by decide +kernel
theorem dX2_refresh_26 : decode cX2_refresh 26 = .ok (.invokestatic 36, 3) := by decide +kernel
theorem dX2_refresh_29 : decode cX2_refresh 29 = .ok (.aload_n 0, 1) := by decide +kernel
theorem dX2_refresh_30 : decode cX2_refresh 30 = .ok (.getfield 9, 3) := by decide +kernel
theorem dX2_refresh_33 : decode cX2_refresh 33 = .ok (.iconst 0, 1) := by decide +kernel
theorem dX2_refresh_34 : decode cX2_refresh 34 = .ok (.iconst 0, 1) := by decide +kernel
theorem dX2_refresh_35 : decode cX2_refresh 35 = .ok (.iastore, 1) := by decide +kernel
theorem dX2_refresh_36 : decode cX2_refresh 36 = .ok (.iconst 1, 1) := by decide +kernel
theorem dX2_refresh_37 : decode cX2_refresh 37 = .ok (.istore_n 1, 1) := by decide +kernel
theorem dX2_refresh_38 : decode cX2_refresh 38 = .ok (.iload_n 1, 1) := by decide +kernel
theorem dX2_refresh_39 : decode cX2_refresh 39 = .ok (.aload_n 0, 1) := by decide +kernel
theorem dX2_refresh_40 : decode cX2_refresh 40 = .ok (.getfield 22, 3) := by decide +kernel
theorem dX2_refresh_43 : decode cX2_refresh 43 = .ok (.invokevirtual 42, 3) := by decide +kernel
theorem dX2_refresh_46 : decode cX2_refresh 46 = .ok (.if_icmp .gt 14, 3) := by decide +kernel
theorem dX2_refresh_49 : decode cX2_refresh 49 = .ok (.aload_n 0, 1) := by decide +kernel
theorem dX2_refresh_50 : decode cX2_refresh 50 = .ok (.iload_n 1, 1) := by decide +kernel
theorem dX2_refresh_51 : decode cX2_refresh 51 = .ok (.invokevirtual 48, 3) := by decide +kernel
theorem dX2_refresh_54 : decode cX2_refresh 54 = .ok (.iinc 1 1, 3) := by decide +kernel
theorem dX2_refresh_57 : decode cX2_refresh 57 = .ok (.goto (-19), 3) := by decide +kernel
theorem dX2_refresh_60 : decode cX2_refresh 60 = .ok (.return_, 1) := by decide +kernel
set_option maxRecDepth 20000 in
theorem ggX2_offer_X6_nearWay : GoodIn wsX2_offer wsX6_nearWay := goodIn_r _ [16, 17, 23, 24, 25, 26, 27] (by decide +kernel) (by decide +kernel)
set_option maxRecDepth 20000 in
theorem gX2_offer_X6_nearWay : GoodIn wsX2_offer (wsV RX2 62 RX6 yX6_nearWay wsX6_nearWay) := goodIn_app (goodIn_of _ (by decide +kernel)) ggX2_offer_X6_nearWay
theorem dX2_offer_0 : decode cX2_offer 0 = .ok (.aload_n 0, 1) := by decide +kernel
theorem dX2_offer_1 : decode cX2_offer 1 = .ok (.getfield 15, 3) := by decide +kernel
theorem dX2_offer_4 : decode cX2_offer 4 = .ok (.iconst 0, 1) := by decide +kernel
theorem dX2_offer_5 : decode cX2_offer 5 = .ok (.aload_n 0, 1) := by decide +kernel
theorem dX2_offer_6 : decode cX2_offer 6 = .ok (.getfield 26, 3) := by decide +kernel
theorem dX2_offer_9 : decode cX2_offer 9 = .ok (.getfield 52, 3) := by decide +kernel
theorem dX2_offer_12 : decode cX2_offer 12 = .ok (.iload_n 1, 1) := by decide +kernel
theorem dX2_offer_13 : decode cX2_offer 13 = .ok (.iaload, 1) := by decide +kernel
theorem dX2_offer_14 : decode cX2_offer 14 = .ok (.iastore, 1) := by decide +kernel
theorem dX2_offer_15 : decode cX2_offer 15 = .ok (.iconst 0, 1) := by decide +kernel
theorem dX2_offer_16 : decode cX2_offer 16 = .ok (.istore_n 2, 1) := by decide +kernel
theorem dX2_offer_17 : decode cX2_offer 17 = .ok (.iload_n 2, 1) := by decide +kernel
theorem dX2_offer_18 : decode cX2_offer 18 = .ok (.aload_n 0, 1) := by decide +kernel
theorem dX2_offer_19 : decode cX2_offer 19 = .ok (.getfield 22, 3) := by decide +kernel
theorem dX2_offer_22 : decode cX2_offer 22 = .ok (.getfield 55, 3) := by decide +kernel
theorem dX2_offer_25 : decode cX2_offer 25 = .ok (.if_icmp .ge 94, 3) := by decide +kernel
theorem dX2_offer_28 : decode cX2_offer 28 = .ok (.aload_n 0, 1) := by decide +kernel
theorem dX2_offer_29 : decode cX2_offer 29 = .ok (.getfield 22, 3) := by decide +kernel
theorem dX2_offer_32 : decode cX2_offer 32 = .ok (.getfield 59, 3) := by decide +kernel
theorem dX2_offer_35 : decode cX2_offer 35 = .ok (.iload_n 2, 1) := by decide +kernel
theorem dX2_offer_36 : decode cX2_offer 36 = .ok (.iaload, 1) := by decide +kernel
theorem dX2_offer_37 : decode cX2_offer 37 = .ok (.aload_n 0, 1) := by decide +kernel
theorem dX2_offer_38 : decode cX2_offer 38 = .ok (.getfield 26, 3) := by decide +kernel
theorem dX2_offer_41 : decode cX2_offer 41 = .ok (.iload_n 1, 1) := by decide +kernel
theorem dX2_offer_42 : decode cX2_offer 42 = .ok (.iload_n 2, 1) := by decide +kernel
theorem dX2_offer_43 : decode cX2_offer 43 = .ok (.invokevirtual 62, 3) := by decide +kernel
theorem dX2_offer_46 : decode cX2_offer 46 = .ok (.imul, 1) := by decide +kernel
theorem dX2_offer_47 : decode cX2_offer 47 = .ok (.istore_n 3, 1) := by decide +kernel
theorem dX2_offer_48 : decode cX2_offer 48 = .ok (.iconst 0, 1) := by decide +kernel
theorem dX2_offer_49 : decode cX2_offer 49 = .ok (.istore 4, 2) := by decide +kernel
theorem dX2_offer_51 : decode cX2_offer 51 = .ok (.iload 4, 2) := by decide +kernel
theorem dX2_offer_53 : decode cX2_offer 53 = .ok (.iconst 1, 1) := by decide +kernel
theorem dX2_offer_54 : decode cX2_offer 54 = .ok (.iload_n 2, 1) := by decide +kernel
theorem dX2_offer_55 : decode cX2_offer 55 = .ok (.ishl, 1) := by decide +kernel
theorem dX2_offer_56 : decode cX2_offer 56 = .ok (.if_icmp .ge 57, 3) := by decide +kernel
theorem dX2_offer_59 : decode cX2_offer 59 = .ok (.iload 4, 2) := by decide +kernel
theorem dX2_offer_61 : decode cX2_offer 61 = .ok (.iconst 1, 1) := by decide +kernel
theorem dX2_offer_62 : decode cX2_offer 62 = .ok (.iload_n 2, 1) := by decide +kernel
theorem dX2_offer_63 : decode cX2_offer 63 = .ok (.ishl, 1) := by decide +kernel
theorem dX2_offer_64 : decode cX2_offer 64 = .ok (.ior, 1) := by decide +kernel
theorem dX2_offer_65 : decode cX2_offer 65 = .ok (.istore 5, 2) := by decide +kernel
theorem dX2_offer_67 : decode cX2_offer 67 = .ok (.aload_n 0, 1) := by decide +kernel
theorem dX2_offer_68 : decode cX2_offer 68 = .ok (.getfield 15, 3) := by decide +kernel
theorem dX2_offer_71 : decode cX2_offer 71 = .ok (.iload 5, 2) := by decide +kernel
theorem dX2_offer_73 : decode cX2_offer 73 = .ok (.aload_n 0, 1) := by decide +kernel
theorem dX2_offer_74 : decode cX2_offer 74 = .ok (.getfield 15, 3) := by decide +kernel
theorem dX2_offer_77 : decode cX2_offer 77 = .ok (.iload 4, 2) := by decide +kernel
theorem dX2_offer_79 : decode cX2_offer 79 = .ok (.iaload, 1) := by decide +kernel
theorem dX2_offer_80 : decode cX2_offer 80 = .ok (.iload_n 3, 1) := by decide +kernel
theorem dX2_offer_81 : decode cX2_offer 81 = .ok (.iadd, 1) := by decide +kernel
theorem dX2_offer_82 : decode cX2_offer 82 = .ok (.iastore, 1) := by decide +kernel
theorem dX2_offer_83 : decode cX2_offer 83 = .ok (.aload_n 0, 1) := by decide +kernel
theorem dX2_offer_84 : decode cX2_offer 84 = .ok (.getfield 9, 3) := by decide +kernel
theorem dX2_offer_87 : decode cX2_offer 87 = .ok (.iload 5, 2) := by decide +kernel
theorem dX2_offer_89 : decode cX2_offer 89 = .ok (.aload_n 0, 1) := by decide +kernel
theorem dX2_offer_90 : decode cX2_offer 90 = .ok (.getfield 9, 3) := by decide +kernel
theorem dX2_offer_93 : decode cX2_offer 93 = .ok (.iload 5, 2) := by decide +kernel
theorem dX2_offer_95 : decode cX2_offer 95 = .ok (.iaload, 1) := by decide +kernel
theorem dX2_offer_96 : decode cX2_offer 96 = .ok (.aload_n 0, 1) := by decide +kernel
theorem dX2_offer_97 : decode cX2_offer 97 = .ok (.getfield 15, 3) := by decide +kernel
theorem dX2_offer_100 : decode cX2_offer 100 = .ok (.iload 5, 2) := by decide +kernel
theorem dX2_offer_102 : decode cX2_offer 102 = .ok (.iaload, 1) := by decide +kernel
theorem dX2_offer_103 : decode cX2_offer 103 = .ok (.invokestatic 66, 3) := by decide +kernel
theorem dX2_offer_106 : decode cX2_offer 106 = .ok (.iastore, 1) := by decide +kernel
theorem dX2_offer_107 : decode cX2_offer 107 = .ok (.iinc 4 1, 3) := by decide +kernel
theorem dX2_offer_110 : decode cX2_offer 110 = .ok (.goto (-59), 3) := by decide +kernel
theorem dX2_offer_113 : decode cX2_offer 113 = .ok (.iinc 2 1, 3) := by decide +kernel
theorem dX2_offer_116 : decode cX2_offer 116 = .ok (.goto (-99), 3) := by decide +kernel
theorem dX2_offer_119 : decode cX2_offer 119 = .ok (.return_, 1) := by decide +kernel
set_option maxRecDepth 20000 in
theorem ggX2_addedInAllOrders_X5_everyTown : GoodIn wsX2_addedInAllOrders wsX5_everyTown := goodIn_r _ [8, 9, 25, 26, 27, 28, 29, 30, 31, 32, 33, 34] (by decide +kernel) (by decide +kernel)
set_option maxRecDepth 20000 in
theorem gX2_addedInAllOrders_X5_everyTown : GoodIn wsX2_addedInAllOrders (wsV RX2 71 RX5 yX5_everyTown wsX5_everyTown) := goodIn_app (goodIn_of _ (by decide +kernel)) ggX2_addedInAllOrders_X5_everyTown
set_option maxRecDepth 20000 in
theorem ggX2_addedInAllOrders_X5_isIn : GoodIn wsX2_addedInAllOrders wsX5_isIn := goodIn_r _ [12] (by decide +kernel) (by decide +kernel)
set_option maxRecDepth 20000 in
theorem gX2_addedInAllOrders_X5_isIn : GoodIn wsX2_addedInAllOrders (va_wsS RX2 74 yX5_isIn wsX5_isIn) := goodIn_app (goodIn_of _ (by decide +kernel)) ggX2_addedInAllOrders_X5_isIn
set_option maxRecDepth 20000 in
theorem ggX2_addedInAllOrders_J6_bitCount_0f7a4 : GoodIn wsX2_addedInAllOrders wsJ6_bitCount_0f7a4 := goodIn_r _ [16, 17, 18, 19] (by decide +kernel) (by decide +kernel)
set_option maxRecDepth 20000 in
theorem gX2_addedInAllOrders_J6_bitCount_0f7a4 : GoodIn wsX2_addedInAllOrders (va_wsS RX2 78 yJ6_bitCount_0f7a4 wsJ6_bitCount_0f7a4) := goodIn_app (goodIn_of _ (by decide +kernel)) ggX2_addedInAllOrders_J6_bitCount_0f7a4
theorem dX2_addedInAllOrders_0 : decode cX2_addedInAllOrders 0 = .ok (.lconst 0, 1) := by decide +kernel
theorem dX2_addedInAllOrders_1 : decode cX2_addedInAllOrders 1 = .ok (.lstore_n 2, 1) := by decide +kernel
theorem dX2_addedInAllOrders_2 : decode cX2_addedInAllOrders 2 = .ok (.iconst 0, 1) := by decide +kernel
theorem dX2_addedInAllOrders_3 : decode cX2_addedInAllOrders 3 = .ok (.istore 4, 2) := by decide +kernel
theorem dX2_addedInAllOrders_5 : decode cX2_addedInAllOrders 5 = .ok (.iload 4, 2) := by decide +kernel
theorem dX2_addedInAllOrders_7 : decode cX2_addedInAllOrders 7 = .ok (.aload_n 0, 1) := by decide +kernel
theorem dX2_addedInAllOrders_8 : decode cX2_addedInAllOrders 8 = .ok (.getfield 22, 3) := by decide +kernel
theorem dX2_addedInAllOrders_11 : decode cX2_addedInAllOrders 11 = .ok (.invokevirtual 71, 3) := by decide +kernel
theorem dX2_addedInAllOrders_14 : decode cX2_addedInAllOrders 14 = .ok (.if_icmp .gt 82, 3) := by decide +kernel
theorem dX2_addedInAllOrders_17 : decode cX2_addedInAllOrders 17 = .ok (.iload_n 1, 1) := by decide +kernel
theorem dX2_addedInAllOrders_18 : decode cX2_addedInAllOrders 18 = .ok (.iload 4, 2) := by decide +kernel
theorem dX2_addedInAllOrders_20 : decode cX2_addedInAllOrders 20 = .ok (.invokestatic 74, 3) := by decide +kernel
theorem dX2_addedInAllOrders_23 : decode cX2_addedInAllOrders 23 = .ok (.ifCond .ne 67, 3) := by decide +kernel
theorem dX2_addedInAllOrders_26 : decode cX2_addedInAllOrders 26 = .ok (.iload 4, 2) := by decide +kernel
theorem dX2_addedInAllOrders_28 : decode cX2_addedInAllOrders 28 = .ok (.invokestatic 78, 3) := by decide +kernel
theorem dX2_addedInAllOrders_31 : decode cX2_addedInAllOrders 31 = .ok (.istore 5, 2) := by decide +kernel
theorem dX2_addedInAllOrders_33 : decode cX2_addedInAllOrders 33 = .ok (.aload_n 0, 1) := by decide +kernel
theorem dX2_addedInAllOrders_34 : decode cX2_addedInAllOrders 34 = .ok (.getfield 22, 3) := by decide +kernel
theorem dX2_addedInAllOrders_37 : decode cX2_addedInAllOrders 37 = .ok (.getfield 55, 3) := by decide +kernel
theorem dX2_addedInAllOrders_40 : decode cX2_addedInAllOrders 40 = .ok (.iconst 1, 1) := by decide +kernel
theorem dX2_addedInAllOrders_41 : decode cX2_addedInAllOrders 41 = .ok (.isub, 1) := by decide +kernel
theorem dX2_addedInAllOrders_42 : decode cX2_addedInAllOrders 42 = .ok (.iload 5, 2) := by decide +kernel
theorem dX2_addedInAllOrders_44 : decode cX2_addedInAllOrders 44 = .ok (.isub, 1) := by decide +kernel
theorem dX2_addedInAllOrders_45 : decode cX2_addedInAllOrders 45 = .ok (.istore 6, 2) := by decide +kernel
theorem dX2_addedInAllOrders_47 : decode cX2_addedInAllOrders 47 = .ok (.getstatic 84, 3) := by decide +kernel
theorem dX2_addedInAllOrders_50 : decode cX2_addedInAllOrders 50 = .ok (.iload 5, 2) := by decide +kernel
theorem dX2_addedInAllOrders_52 : decode cX2_addedInAllOrders 52 = .ok (.iaload, 1) := by decide +kernel
theorem dX2_addedInAllOrders_53 : decode cX2_addedInAllOrders 53 = .ok (.i2l, 1) := by decide +kernel
theorem dX2_addedInAllOrders_54 : decode cX2_addedInAllOrders 54 = .ok (.getstatic 84, 3) := by decide +kernel
theorem dX2_addedInAllOrders_57 : decode cX2_addedInAllOrders 57 = .ok (.iload 6, 2) := by decide +kernel
theorem dX2_addedInAllOrders_59 : decode cX2_addedInAllOrders 59 = .ok (.iaload, 1) := by decide +kernel
theorem dX2_addedInAllOrders_60 : decode cX2_addedInAllOrders 60 = .ok (.i2l, 1) := by decide +kernel
theorem dX2_addedInAllOrders_61 : decode cX2_addedInAllOrders 61 = .ok (.lmul, 1) := by decide +kernel
theorem dX2_addedInAllOrders_62 : decode cX2_addedInAllOrders 62 = .ok (.lstore 7, 2) := by decide +kernel
theorem dX2_addedInAllOrders_64 : decode cX2_addedInAllOrders 64 = .ok (.lload_n 2, 1) := by decide +kernel
theorem dX2_addedInAllOrders_65 : decode cX2_addedInAllOrders 65 = .ok (.lload 7, 2) := by decide +kernel
theorem dX2_addedInAllOrders_67 : decode cX2_addedInAllOrders 67 = .ok (.aload_n 0, 1) := by decide +kernel
theorem dX2_addedInAllOrders_68 : decode cX2_addedInAllOrders 68 = .ok (.getfield 9, 3) := by decide +kernel
theorem dX2_addedInAllOrders_71 : decode cX2_addedInAllOrders 71 = .ok (.iload 4, 2) := by decide +kernel
theorem dX2_addedInAllOrders_73 : decode cX2_addedInAllOrders 73 = .ok (.iconst 1, 1) := by decide +kernel
theorem dX2_addedInAllOrders_74 : decode cX2_addedInAllOrders 74 = .ok (.iload_n 1, 1) := by decide +kernel
theorem dX2_addedInAllOrders_75 : decode cX2_addedInAllOrders 75 = .ok (.ishl, 1) := by decide +kernel
theorem dX2_addedInAllOrders_76 : decode cX2_addedInAllOrders 76 = .ok (.ior, 1) := by decide +kernel
theorem dX2_addedInAllOrders_77 : decode cX2_addedInAllOrders 77 = .ok (.iaload, 1) := by decide +kernel
theorem dX2_addedInAllOrders_78 : decode cX2_addedInAllOrders 78 = .ok (.aload_n 0, 1) := by decide +kernel
theorem dX2_addedInAllOrders_79 : decode cX2_addedInAllOrders 79 = .ok (.getfield 9, 3) := by decide +kernel
theorem dX2_addedInAllOrders_82 : decode cX2_addedInAllOrders 82 = .ok (.iload 4, 2) := by decide +kernel
theorem dX2_addedInAllOrders_84 : decode cX2_addedInAllOrders 84 = .ok (.iaload, 1) := by decide +kernel
theorem dX2_addedInAllOrders_85 : decode cX2_addedInAllOrders 85 = .ok (.isub, 1) := by decide +kernel
theorem dX2_addedInAllOrders_86 : decode cX2_addedInAllOrders 86 = .ok (.i2l, 1) := by decide +kernel
theorem dX2_addedInAllOrders_87 : decode cX2_addedInAllOrders 87 = .ok (.lmul, 1) := by decide +kernel
theorem dX2_addedInAllOrders_88 : decode cX2_addedInAllOrders 88 = .ok (.ladd, 1) := by decide +kernel
theorem dX2_addedInAllOrders_89 : decode cX2_addedInAllOrders 89 = .ok (.lstore_n 2, 1) := by decide +kernel
theorem dX2_addedInAllOrders_90 : decode cX2_addedInAllOrders 90 = .ok (.iinc 4 1, 3) := by decide +kernel
theorem dX2_addedInAllOrders_93 : decode cX2_addedInAllOrders 93 = .ok (.goto (-88), 3) := by decide +kernel
theorem dX2_addedInAllOrders_96 : decode cX2_addedInAllOrders 96 = .ok (.lload_n 2, 1) := by decide +kernel
theorem dX2_addedInAllOrders_97 : decode cX2_addedInAllOrders 97 = .ok (.lreturn, 1) := by decide +kernel
theorem dX3_init_0 : decode cX3_init 0 = .ok (.aload_n 0, 1) := by decide +kernel
theorem dX3_init_1 : decode cX3_init 1 = .ok (.invokespecial 3, 3) := by decide +kernel
theorem dX3_init_4 : decode cX3_init 4 = .ok (.aload_n 0, 1) := by decide +kernel
theorem dX3_init_5 : decode cX3_init 5 = .ok (.bipush 8, 2) := by decide +kernel
theorem dX3_init_7 : decode cX3_init 7 = .ok (.newarray .int, 2) := by decide +kernel
theorem dX3_init_9 : decode cX3_init 9 = .ok (.putfield 9, 3) := by decide +kernel
theorem dX3_init_12 : decode cX3_init 12 = .ok (.aload_n 0, 1) := by decide +kernel
theorem dX3_init_13 : decode cX3_init 13 = .ok (.aload_n 1, 1) := by decide +kernel
theorem dX3_init_14 : decode cX3_init 14 = .ok (.putfield 15, 3) := by decide +kernel
theorem dX3_init_17 : decode cX3_init 17 = .ok (.return_, 1) := by decide +kernel
set_option maxRecDepth 20000 in
theorem ggX3_choose_X3_gatherSpots : GoodIn wsX3_choose wsX3_gatherSpots := goodIn_r _ [12, 1, 13, 14, 15, 16, 17, 18, 11, 19, 20, 55, 56, 57, 58, 59, 60, 61, 62, 63, 64, 65, 66, 67, 68, 69] (by decide +kernel) (by decide +kernel)
set_option maxRecDepth 20000 in
theorem gX3_choose_X3_gatherSpots : GoodIn wsX3_choose (wsV RX3 19 RX3 yX3_gatherSpots wsX3_gatherSpots) := goodIn_app (goodIn_of _ (by decide +kernel)) ggX3_choose_X3_gatherSpots
set_option maxRecDepth 20000 in
theorem ggX3_choose_J6_bitCount_0f7a4 : GoodIn wsX3_choose wsJ6_bitCount_0f7a4 := goodIn_r _ [24, 25, 26, 27] (by decide +kernel) (by decide +kernel)
set_option maxRecDepth 20000 in
theorem gX3_choose_J6_bitCount_0f7a4 : GoodIn wsX3_choose (va_wsS RX3 38 yJ6_bitCount_0f7a4 wsJ6_bitCount_0f7a4) := goodIn_app (goodIn_of _ (by decide +kernel)) ggX3_choose_J6_bitCount_0f7a4
set_option maxRecDepth 20000 in
theorem ggX3_choose_X3_sumFor : GoodIn wsX3_choose wsX3_sumFor := goodIn_r _ [31, 13, 14, 32, 15, 33, 34, 35, 11, 36, 1, 20, 37, 38, 4, 39, 2, 3, 5, 40, 41, 42, 43, 44, 45, 46, 47, 55, 56, 57, 58, 59, 60, 61, 62, 63, 64, 65, 66, 67, 68, 69] (by decide +kernel) (by decide +kernel)
set_option maxRecDepth 20000 in
theorem gX3_choose_X3_sumFor : GoodIn wsX3_choose (wsV RX3 44 RX3 yX3_sumFor wsX3_sumFor) := goodIn_app (goodIn_of _ (by decide +kernel)) ggX3_choose_X3_sumFor
set_option maxRecDepth 20000 in
theorem ggX3_choose_X3_mostFor : GoodIn wsX3_choose wsX3_mostFor := goodIn_r _ [51, 13, 14, 15, 52, 53, 4, 54, 33, 34, 35, 11, 36, 1, 20, 37, 38, 39, 2, 3, 5, 40, 41, 42, 43, 44, 45, 46, 47, 55, 56, 57, 58, 59, 60, 61, 62, 63, 64, 65, 66, 67, 68, 69] (by decide +kernel) (by decide +kernel)
set_option maxRecDepth 20000 in
theorem gX3_choose_X3_mostFor : GoodIn wsX3_choose (wsV RX3 47 RX3 yX3_mostFor wsX3_mostFor) := goodIn_app (goodIn_of _ (by decide +kernel)) ggX3_choose_X3_mostFor
theorem dX3_choose_0 : decode cX3_choose 0 = .ok (.aload_n 0, 1) := by decide +kernel
theorem dX3_choose_1 : decode cX3_choose 1 = .ok (.invokevirtual 19, 3) := by decide +kernel
theorem dX3_choose_4 : decode cX3_choose 4 = .ok (.iload_n 2, 1) := by decide +kernel
theorem dX3_choose_5 : decode cX3_choose 5 = .ok (.aload_n 0, 1) := by decide +kernel
theorem dX3_choose_6 : decode cX3_choose 6 = .ok (.getfield 22, 3) := by decide +kernel
theorem dX3_choose_9 : decode cX3_choose 9 = .ok (.invokestatic 26, 3) := by decide +kernel
theorem dX3_choose_12 : decode cX3_choose 12 = .ok (.istore_n 3, 1) := by decide +kernel
theorem dX3_choose_13 : decode cX3_choose 13 = .ok (.aload_n 0, 1) := by decide +kernel
theorem dX3_choose_14 : decode cX3_choose 14 = .ok (.iconst 0, 1) := by decide +kernel
theorem dX3_choose_15 : decode cX3_choose 15 = .ok (.putfield 32, 3) := by decide +kernel
theorem dX3_choose_18 : decode cX3_choose 18 = .ok (.aload_n 0, 1) := by decide +kernel
theorem dX3_choose_19 : decode cX3_choose 19 = .ok (.iconst (-1), 1) := by decide +kernel
theorem dX3_choose_20 : decode cX3_choose 20 = .ok (.putfield 35, 3) := by decide +kernel
theorem dX3_choose_23 : decode cX3_choose 23 = .ok (.iconst 1, 1) := by decide +kernel
theorem dX3_choose_24 : decode cX3_choose 24 = .ok (.aload_n 0, 1) := by decide +kernel
theorem dX3_choose_25 : decode cX3_choose 25 = .ok (.getfield 22, 3) := by decide +kernel
theorem dX3_choose_28 : decode cX3_choose 28 = .ok (.ishl, 1) := by decide +kernel
theorem dX3_choose_29 : decode cX3_choose 29 = .ok (.iconst 1, 1) := by decide +kernel
theorem dX3_choose_30 : decode cX3_choose 30 = .ok (.isub, 1) := by decide +kernel
theorem dX3_choose_31 : decode cX3_choose 31 = .ok (.istore 4, 2) := by decide +kernel
theorem dX3_choose_33 : decode cX3_choose 33 = .ok (.iload 4, 2) := by decide +kernel
theorem dX3_choose_35 : decode cX3_choose 35 = .ok (.ifCond .le 68, 3) := by decide +kernel
theorem dX3_choose_38 : decode cX3_choose 38 = .ok (.iload 4, 2) := by decide +kernel
theorem dX3_choose_40 : decode cX3_choose 40 = .ok (.invokestatic 38, 3) := by decide +kernel
theorem dX3_choose_43 : decode cX3_choose 43 = .ok (.iload_n 3, 1) := by decide +kernel
theorem dX3_choose_44 : decode cX3_choose 44 = .ok (.if_icmp .ne 53, 3) := by decide +kernel
theorem dX3_choose_47 : decode cX3_choose 47 = .ok (.iload_n 1, 1) := by decide +kernel
theorem dX3_choose_48 : decode cX3_choose 48 = .ok (.ifCond .ne 12, 3) := by decide +kernel
theorem dX3_choose_51 : decode cX3_choose 51 = .ok (.aload_n 0, 1) := by decide +kernel
theorem dX3_choose_52 : decode cX3_choose 52 = .ok (.iload 4, 2) := by decide +kernel
theorem dX3_choose_54 : decode cX3_choose 54 = .ok (.invokevirtual 44, 3) := by decide +kernel
theorem dX3_choose_57 : decode cX3_choose 57 = .ok (.goto 9, 3) := by decide +kernel
theorem dX3_choose_60 : decode cX3_choose 60 = .ok (.aload_n 0, 1) := by decide +kernel
theorem dX3_choose_61 : decode cX3_choose 61 = .ok (.iload 4, 2) := by decide +kernel
theorem dX3_choose_63 : decode cX3_choose 63 = .ok (.invokevirtual 47, 3) := by decide +kernel
theorem dX3_choose_66 : decode cX3_choose 66 = .ok (.istore 5, 2) := by decide +kernel
theorem dX3_choose_68 : decode cX3_choose 68 = .ok (.aload_n 0, 1) := by decide +kernel
theorem dX3_choose_69 : decode cX3_choose 69 = .ok (.getfield 35, 3) := by decide +kernel
theorem dX3_choose_72 : decode cX3_choose 72 = .ok (.iconst (-1), 1) := by decide +kernel
theorem dX3_choose_73 : decode cX3_choose 73 = .ok (.if_icmp .eq 12, 3) := by decide +kernel
theorem dX3_choose_76 : decode cX3_choose 76 = .ok (.iload 5, 2) := by decide +kernel
theorem dX3_choose_78 : decode cX3_choose 78 = .ok (.aload_n 0, 1) := by decide +kernel
theorem dX3_choose_79 : decode cX3_choose 79 = .ok (.getfield 35, 3) := by decide +kernel
theorem dX3_choose_82 : decode cX3_choose 82 = .ok (.if_icmp .ge 15, 3) := by decide +kernel
theorem dX3_choose_85 : decode cX3_choose 85 = .ok (.aload_n 0, 1) := by decide +kernel
theorem dX3_choose_86 : decode cX3_choose 86 = .ok (.iload 5, 2) := by decide +kernel
theorem dX3_choose_88 : decode cX3_choose 88 = .ok (.putfield 35, 3) := by decide +kernel
theorem dX3_choose_91 : decode cX3_choose 91 = .ok (.aload_n 0, 1) := by decide +kernel
theorem dX3_choose_92 : decode cX3_choose 92 = .ok (.iload 4, 2) := by decide +kernel
theorem dX3_choose_94 : decode cX3_choose 94 = .ok (.putfield 32, 3) := by decide +kernel
theorem dX3_choose_97 : decode cX3_choose 97 = .ok (.iinc 4 (-1), 3) := by decide +kernel
theorem dX3_choose_100 : decode cX3_choose 100 = .ok (.goto (-67), 3) := by decide +kernel
theorem dX3_choose_103 : decode cX3_choose 103 = .ok (.return_, 1) := by decide +kernel
set_option maxRecDepth 20000 in
theorem ggX3_gatherSpots_X3_insertSpot : GoodIn wsX3_gatherSpots wsX3_insertSpot := goodIn_r _ [9, 1, 10, 11, 12, 13, 14, 15] (by decide +kernel) (by decide +kernel)
set_option maxRecDepth 20000 in
theorem gX3_gatherSpots_X3_insertSpot : GoodIn wsX3_gatherSpots (wsV RX3 56 RX3 yX3_insertSpot wsX3_insertSpot) := goodIn_app (goodIn_of _ (by decide +kernel)) ggX3_gatherSpots_X3_insertSpot
theorem dX3_gatherSpots_0 : decode cX3_gatherSpots 0 = .ok (.aload_n 0, 1) := by decide +kernel
theorem dX3_gatherSpots_1 : decode cX3_gatherSpots 1 = .ok (.iconst 0, 1) := by decide +kernel
theorem dX3_gatherSpots_2 : decode cX3_gatherSpots 2 = .ok (.putfield 22, 3) := by decide +kernel
theorem dX3_gatherSpots_5 : decode cX3_gatherSpots 5 = .ok (.iconst 0, 1) := by decide +kernel
theorem dX3_gatherSpots_6 : decode cX3_gatherSpots 6 = .ok (.istore_n 1, 1) := by decide +kernel
theorem dX3_gatherSpots_7 : decode cX3_gatherSpots 7 = .ok (.iload_n 1, 1) := by decide +kernel
theorem dX3_gatherSpots_8 : decode cX3_gatherSpots 8 = .ok (.aload_n 0, 1) := by decide +kernel
theorem dX3_gatherSpots_9 : decode cX3_gatherSpots 9 = .ok (.getfield 15, 3) := by decide +kernel
theorem dX3_gatherSpots_12 : decode cX3_gatherSpots 12 = .ok (.getfield 50, 3) := by decide +kernel
theorem dX3_gatherSpots_15 : decode cX3_gatherSpots 15 = .ok (.if_icmp .ge 22, 3) := by decide +kernel
theorem dX3_gatherSpots_18 : decode cX3_gatherSpots 18 = .ok (.aload_n 0, 1) := by decide +kernel
theorem dX3_gatherSpots_19 : decode cX3_gatherSpots 19 = .ok (.aload_n 0, 1) := by decide +kernel
theorem dX3_gatherSpots_20 : decode cX3_gatherSpots 20 = .ok (.getfield 15, 3) := by decide +kernel
theorem dX3_gatherSpots_23 : decode cX3_gatherSpots 23 = .ok (.getfield 55, 3) := by decide +kernel
theorem dX3_gatherSpots_26 : decode cX3_gatherSpots 26 = .ok (.iload_n 1, 1) := by decide +kernel
theorem dX3_gatherSpots_27 : decode cX3_gatherSpots 27 = .ok (.iaload, 1) := by decide +kernel
theorem dX3_gatherSpots_28 : decode cX3_gatherSpots 28 = .ok (.invokevirtual 56, 3) := by decide +kernel
theorem dX3_gatherSpots_31 : decode cX3_gatherSpots 31 = .ok (.iinc 1 1, 3) := by decide +kernel
theorem dX3_gatherSpots_34 : decode cX3_gatherSpots 34 = .ok (.goto (-27), 3) := by decide +kernel
theorem dX3_gatherSpots_37 : decode cX3_gatherSpots 37 = .ok (.return_, 1) := by decide +kernel
theorem dX3_insertSpot_0 : decode cX3_insertSpot 0 = .ok (.iconst 0, 1) := by decide +kernel
theorem dX3_insertSpot_1 : decode cX3_insertSpot 1 = .ok (.istore_n 2, 1) := by decide +kernel
theorem dX3_insertSpot_2 : decode cX3_insertSpot 2 = .ok (.iload_n 2, 1) := by decide +kernel
theorem dX3_insertSpot_3 : decode cX3_insertSpot 3 = .ok (.aload_n 0, 1) := by decide +kernel
theorem dX3_insertSpot_4 : decode cX3_insertSpot 4 = .ok (.getfield 22, 3) := by decide +kernel
theorem dX3_insertSpot_7 : decode cX3_insertSpot 7 = .ok (.if_icmp .ge 19, 3) := by decide +kernel
theorem dX3_insertSpot_10 : decode cX3_insertSpot 10 = .ok (.aload_n 0, 1) := by decide +kernel
theorem dX3_insertSpot_11 : decode cX3_insertSpot 11 = .ok (.getfield 9, 3) := by decide +kernel
theorem dX3_insertSpot_14 : decode cX3_insertSpot 14 = .ok (.iload_n 2, 1) := by decide +kernel
theorem dX3_insertSpot_15 : decode cX3_insertSpot 15 = .ok (.iaload, 1) := by decide +kernel
theorem dX3_insertSpot_16 : decode cX3_insertSpot 16 = .ok (.iload_n 1, 1) := by decide +kernel
theorem dX3_insertSpot_17 : decode cX3_insertSpot 17 = .ok (.if_icmp .ge 9, 3) := by decide +kernel
theorem dX3_insertSpot_20 : decode cX3_insertSpot 20 = .ok (.iinc 2 1, 3) := by decide +kernel
theorem dX3_insertSpot_23 : decode cX3_insertSpot 23 = .ok (.goto (-21), 3) := by decide +kernel
theorem dX3_insertSpot_26 : decode cX3_insertSpot 26 = .ok (.iload_n 2, 1) := by decide +kernel
theorem dX3_insertSpot_27 : decode cX3_insertSpot 27 = .ok (.aload_n 0, 1) := by decide +kernel
theorem dX3_insertSpot_28 : decode cX3_insertSpot 28 = .ok (.getfield 22, 3) := by decide +kernel
theorem dX3_insertSpot_31 : decode cX3_insertSpot 31 = .ok (.if_icmp .ge 14, 3) := by decide +kernel
theorem dX3_insertSpot_34 : decode cX3_insertSpot 34 = .ok (.aload_n 0, 1) := by decide +kernel
theorem dX3_insertSpot_35 : decode cX3_insertSpot 35 = .ok (.getfield 9, 3) := by decide +kernel
theorem dX3_insertSpot_38 : decode cX3_insertSpot 38 = .ok (.iload_n 2, 1) := by decide +kernel
theorem dX3_insertSpot_39 : decode cX3_insertSpot 39 = .ok (.iaload, 1) := by decide +kernel
theorem dX3_insertSpot_40 : decode cX3_insertSpot 40 = .ok (.iload_n 1, 1) := by decide +kernel
theorem dX3_insertSpot_41 : decode cX3_insertSpot 41 = .ok (.if_icmp .ne 4, 3) := by decide +kernel
theorem dX3_insertSpot_44 : decode cX3_insertSpot 44 = .ok (.return_, 1) := by decide +kernel
theorem dX3_insertSpot_45 : decode cX3_insertSpot 45 = .ok (.aload_n 0, 1) := by decide +kernel
theorem dX3_insertSpot_46 : decode cX3_insertSpot 46 = .ok (.getfield 22, 3) := by decide +kernel
theorem dX3_insertSpot_49 : decode cX3_insertSpot 49 = .ok (.istore_n 3, 1) := by decide +kernel
theorem dX3_insertSpot_50 : decode cX3_insertSpot 50 = .ok (.iload_n 3, 1) := by decide +kernel
theorem dX3_insertSpot_51 : decode cX3_insertSpot 51 = .ok (.iload_n 2, 1) := by decide +kernel
theorem dX3_insertSpot_52 : decode cX3_insertSpot 52 = .ok (.if_icmp .le 23, 3) := by decide +kernel
theorem dX3_insertSpot_55 : decode cX3_insertSpot 55 = .ok (.aload_n 0, 1) := by decide +kernel
theorem dX3_insertSpot_56 : decode cX3_insertSpot 56 = .ok (.getfield 9, 3) := by decide +kernel
theorem dX3_insertSpot_59 : decode cX3_insertSpot 59 = .ok (.iload_n 3, 1) := by decide +kernel
theorem dX3_insertSpot_60 : decode cX3_insertSpot 60 = .ok (.aload_n 0, 1) := by decide +kernel
theorem dX3_insertSpot_61 : decode cX3_insertSpot 61 = .ok (.getfield 9, 3) := by decide +kernel
theorem dX3_insertSpot_64 : decode cX3_insertSpot 64 = .ok (.iload_n 3, 1) := by decide +kernel
theorem dX3_insertSpot_65 : decode cX3_insertSpot 65 = .ok (.iconst 1, 1) := by decide +kernel
theorem dX3_insertSpot_66 : decode cX3_insertSpot 66 = .ok (.isub, 1) := by decide +kernel
theorem dX3_insertSpot_67 : decode cX3_insertSpot 67 = .ok (.iaload, 1) := by decide +kernel
theorem dX3_insertSpot_68 : decode cX3_insertSpot 68 = .ok (.iastore, 1) := by decide +kernel
theorem dX3_insertSpot_69 : decode cX3_insertSpot 69 = .ok (.iinc 3 (-1), 3) := by decide +kernel
theorem dX3_insertSpot_72 : decode cX3_insertSpot 72 = .ok (.goto (-22), 3) := by decide +kernel
theorem dX3_insertSpot_75 : decode cX3_insertSpot 75 = .ok (.aload_n 0, 1) := by decide +kernel
theorem dX3_insertSpot_76 : decode cX3_insertSpot 76 = .ok (.getfield 9, 3) := by decide +kernel
theorem dX3_insertSpot_79 : decode cX3_insertSpot 79 = .ok (.iload_n 2, 1) := by decide +kernel
theorem dX3_insertSpot_80 : decode cX3_insertSpot 80 = .ok (.iload_n 1, 1) := by decide +kernel
theorem dX3_insertSpot_81 : decode cX3_insertSpot 81 = .ok (.iastore, 1) := by decide +kernel
theorem dX3_insertSpot_82 : decode cX3_insertSpot 82 = .ok (.aload_n 0, 1) := by decide +kernel
theorem dX3_insertSpot_83 : decode cX3_insertSpot 83 = .ok (.dup, 1) := by decide +kernel
theorem dX3_insertSpot_84 : decode cX3_insertSpot 84 = .ok (.getfield 22, 3) := by decide +kernel
theorem dX3_insertSpot_87 : decode cX3_insertSpot 87 = .ok (.iconst 1, 1) := by decide +kernel
theorem dX3_insertSpot_88 : decode cX3_insertSpot 88 = .ok (.iadd, 1) := by decide +kernel
theorem dX3_insertSpot_89 : decode cX3_insertSpot 89 = .ok (.putfield 22, 3) := by decide +kernel
theorem dX3_insertSpot_92 : decode cX3_insertSpot 92 = .ok (.return_, 1) := by decide +kernel
set_option maxRecDepth 20000 in
theorem ggX3_isChosen_X5_isIn : GoodIn wsX3_isChosen wsX5_isIn := goodIn_r _ [5] (by decide +kernel) (by decide +kernel)
set_option maxRecDepth 20000 in
theorem gX3_isChosen_X5_isIn : GoodIn wsX3_isChosen (va_wsS RX3 60 yX5_isIn wsX5_isIn) := goodIn_app (goodIn_of _ (by decide +kernel)) ggX3_isChosen_X5_isIn
theorem dX3_isChosen_0 : decode cX3_isChosen 0 = .ok (.aload_n 0, 1) := by decide +kernel
theorem dX3_isChosen_1 : decode cX3_isChosen 1 = .ok (.getfield 22, 3) := by decide +kernel
theorem dX3_isChosen_4 : decode cX3_isChosen 4 = .ok (.iconst 1, 1) := by decide +kernel
theorem dX3_isChosen_5 : decode cX3_isChosen 5 = .ok (.isub, 1) := by decide +kernel
theorem dX3_isChosen_6 : decode cX3_isChosen 6 = .ok (.iload_n 2, 1) := by decide +kernel
theorem dX3_isChosen_7 : decode cX3_isChosen 7 = .ok (.isub, 1) := by decide +kernel
theorem dX3_isChosen_8 : decode cX3_isChosen 8 = .ok (.iload_n 1, 1) := by decide +kernel
theorem dX3_isChosen_9 : decode cX3_isChosen 9 = .ok (.invokestatic 60, 3) := by decide +kernel
theorem dX3_isChosen_12 : decode cX3_isChosen 12 = .ok (.ireturn, 1) := by decide +kernel
set_option maxRecDepth 20000 in
theorem ggX3_nearestOn_X3_isChosen : GoodIn wsX3_nearestOn wsX3_isChosen := goodIn_r _ [14, 1, 15, 16, 17, 18, 19, 20, 21, 22, 23] (by decide +kernel) (by decide +kernel)
set_option maxRecDepth 20000 in
theorem gX3_nearestOn_X3_isChosen : GoodIn wsX3_nearestOn (wsV RX3 64 RX3 yX3_isChosen wsX3_isChosen) := goodIn_app (goodIn_of _ (by decide +kernel)) ggX3_nearestOn_X3_isChosen
theorem dX3_nearestOn_0 : decode cX3_nearestOn 0 = .ok (.sipush 2000, 3) := by decide +kernel
theorem dX3_nearestOn_3 : decode cX3_nearestOn 3 = .ok (.istore_n 3, 1) := by decide +kernel
theorem dX3_nearestOn_4 : decode cX3_nearestOn 4 = .ok (.iconst 0, 1) := by decide +kernel
theorem dX3_nearestOn_5 : decode cX3_nearestOn 5 = .ok (.istore 4, 2) := by decide +kernel
theorem dX3_nearestOn_7 : decode cX3_nearestOn 7 = .ok (.iload 4, 2) := by decide +kernel
theorem dX3_nearestOn_9 : decode cX3_nearestOn 9 = .ok (.aload_n 0, 1) := by decide +kernel
theorem dX3_nearestOn_10 : decode cX3_nearestOn 10 = .ok (.getfield 22, 3) := by decide +kernel
theorem dX3_nearestOn_13 : decode cX3_nearestOn 13 = .ok (.if_icmp .ge 36, 3) := by decide +kernel
theorem dX3_nearestOn_16 : decode cX3_nearestOn 16 = .ok (.aload_n 0, 1) := by decide +kernel
theorem dX3_nearestOn_17 : decode cX3_nearestOn 17 = .ok (.iload_n 1, 1) := by decide +kernel
theorem dX3_nearestOn_18 : decode cX3_nearestOn 18 = .ok (.iload 4, 2) := by decide +kernel
theorem dX3_nearestOn_20 : decode cX3_nearestOn 20 = .ok (.invokevirtual 64, 3) := by decide +kernel
theorem dX3_nearestOn_23 : decode cX3_nearestOn 23 = .ok (.ifCond .eq 20, 3) := by decide +kernel
theorem dX3_nearestOn_26 : decode cX3_nearestOn 26 = .ok (.iload_n 3, 1) := by decide +kernel
theorem dX3_nearestOn_27 : decode cX3_nearestOn 27 = .ok (.aload_n 0, 1) := by decide +kernel
theorem dX3_nearestOn_28 : decode cX3_nearestOn 28 = .ok (.getfield 9, 3) := by decide +kernel
theorem dX3_nearestOn_31 : decode cX3_nearestOn 31 = .ok (.iload 4, 2) := by decide +kernel
theorem dX3_nearestOn_33 : decode cX3_nearestOn 33 = .ok (.iaload, 1) := by decide +kernel
theorem dX3_nearestOn_34 : decode cX3_nearestOn 34 = .ok (.iload_n 2, 1) := by decide +kernel
theorem dX3_nearestOn_35 : decode cX3_nearestOn 35 = .ok (.isub, 1) := by decide +kernel
theorem dX3_nearestOn_36 : decode cX3_nearestOn 36 = .ok (.invokestatic 67, 3) := by decide +kernel
theorem dX3_nearestOn_39 : decode cX3_nearestOn 39 = .ok (.invokestatic 26, 3) := by decide +kernel
theorem dX3_nearestOn_42 : decode cX3_nearestOn 42 = .ok (.istore_n 3, 1) := by decide +kernel
theorem dX3_nearestOn_43 : decode cX3_nearestOn 43 = .ok (.iinc 4 1, 3) := by decide +kernel
theorem dX3_nearestOn_46 : decode cX3_nearestOn 46 = .ok (.goto (-39), 3) := by decide +kernel
theorem dX3_nearestOn_49 : decode cX3_nearestOn 49 = .ok (.iload_n 3, 1) := by decide +kernel
theorem dX3_nearestOn_50 : decode cX3_nearestOn 50 = .ok (.ireturn, 1) := by decide +kernel
set_option maxRecDepth 20000 in
theorem ggX3_sumFor_X3_nearestOn : GoodIn wsX3_sumFor wsX3_nearestOn := goodIn_r _ [9, 10, 11, 12, 13, 14, 15, 16, 17, 18, 19, 20, 21, 8, 22, 23, 24, 25, 26, 27, 28, 29, 30, 31] (by decide +kernel) (by decide +kernel)
set_option maxRecDepth 20000 in
theorem gX3_sumFor_X3_nearestOn : GoodIn wsX3_sumFor (wsV RX3 73 RX3 yX3_nearestOn wsX3_nearestOn) := goodIn_app (goodIn_of _ (by decide +kernel)) ggX3_sumFor_X3_nearestOn
theorem dX3_sumFor_0 : decode cX3_sumFor 0 = .ok (.iconst 0, 1) := by decide +kernel
theorem dX3_sumFor_1 : decode cX3_sumFor 1 = .ok (.istore_n 2, 1) := by decide +kernel
theorem dX3_sumFor_2 : decode cX3_sumFor 2 = .ok (.iconst 0, 1) := by decide +kernel
theorem dX3_sumFor_3 : decode cX3_sumFor 3 = .ok (.istore_n 3, 1) := by decide +kernel
theorem dX3_sumFor_4 : decode cX3_sumFor 4 = .ok (.iload_n 3, 1) := by decide +kernel
theorem dX3_sumFor_5 : decode cX3_sumFor 5 = .ok (.aload_n 0, 1) := by decide +kernel
theorem dX3_sumFor_6 : decode cX3_sumFor 6 = .ok (.getfield 15, 3) := by decide +kernel
theorem dX3_sumFor_9 : decode cX3_sumFor 9 = .ok (.getfield 50, 3) := by decide +kernel
theorem dX3_sumFor_12 : decode cX3_sumFor 12 = .ok (.if_icmp .ge 36, 3) := by decide +kernel
theorem dX3_sumFor_15 : decode cX3_sumFor 15 = .ok (.iload_n 2, 1) := by decide +kernel
theorem dX3_sumFor_16 : decode cX3_sumFor 16 = .ok (.aload_n 0, 1) := by decide +kernel
theorem dX3_sumFor_17 : decode cX3_sumFor 17 = .ok (.getfield 15, 3) := by decide +kernel
theorem dX3_sumFor_20 : decode cX3_sumFor 20 = .ok (.getfield 70, 3) := by decide +kernel
theorem dX3_sumFor_23 : decode cX3_sumFor 23 = .ok (.iload_n 3, 1) := by decide +kernel
theorem dX3_sumFor_24 : decode cX3_sumFor 24 = .ok (.iaload, 1) := by decide +kernel
theorem dX3_sumFor_25 : decode cX3_sumFor 25 = .ok (.aload_n 0, 1) := by decide +kernel
theorem dX3_sumFor_26 : decode cX3_sumFor 26 = .ok (.iload_n 1, 1) := by decide +kernel
theorem dX3_sumFor_27 : decode cX3_sumFor 27 = .ok (.aload_n 0, 1) := by decide +kernel
theorem dX3_sumFor_28 : decode cX3_sumFor 28 = .ok (.getfield 15, 3) := by decide +kernel
theorem dX3_sumFor_31 : decode cX3_sumFor 31 = .ok (.getfield 55, 3) := by decide +kernel
theorem dX3_sumFor_34 : decode cX3_sumFor 34 = .ok (.iload_n 3, 1) := by decide +kernel
theorem dX3_sumFor_35 : decode cX3_sumFor 35 = .ok (.iaload, 1) := by decide +kernel
theorem dX3_sumFor_36 : decode cX3_sumFor 36 = .ok (.invokevirtual 73, 3) := by decide +kernel
theorem dX3_sumFor_39 : decode cX3_sumFor 39 = .ok (.imul, 1) := by decide +kernel
theorem dX3_sumFor_40 : decode cX3_sumFor 40 = .ok (.iadd, 1) := by decide +kernel
theorem dX3_sumFor_41 : decode cX3_sumFor 41 = .ok (.istore_n 2, 1) := by decide +kernel
theorem dX3_sumFor_42 : decode cX3_sumFor 42 = .ok (.iinc 3 1, 3) := by decide +kernel
theorem dX3_sumFor_45 : decode cX3_sumFor 45 = .ok (.goto (-41), 3) := by decide +kernel
theorem dX3_sumFor_48 : decode cX3_sumFor 48 = .ok (.iload_n 2, 1) := by decide +kernel
theorem dX3_sumFor_49 : decode cX3_sumFor 49 = .ok (.ireturn, 1) := by decide +kernel
set_option maxRecDepth 20000 in
theorem ggX3_mostFor_X3_nearestOn : GoodIn wsX3_mostFor wsX3_nearestOn := goodIn_r _ [12, 13, 14, 15, 16, 6, 17, 18, 19, 20, 21, 22, 23, 11, 24, 25, 26, 27, 28, 29, 30, 31, 32, 33] (by decide +kernel) (by decide +kernel)
set_option maxRecDepth 20000 in
theorem gX3_mostFor_X3_nearestOn : GoodIn wsX3_mostFor (wsV RX3 73 RX3 yX3_nearestOn wsX3_nearestOn) := goodIn_app (goodIn_of _ (by decide +kernel)) ggX3_mostFor_X3_nearestOn
theorem dX3_mostFor_0 : decode cX3_mostFor 0 = .ok (.iconst 0, 1) := by decide +kernel
theorem dX3_mostFor_1 : decode cX3_mostFor 1 = .ok (.istore_n 2, 1) := by decide +kernel
theorem dX3_mostFor_2 : decode cX3_mostFor 2 = .ok (.iconst 0, 1) := by decide +kernel
theorem dX3_mostFor_3 : decode cX3_mostFor 3 = .ok (.istore_n 3, 1) := by decide +kernel
theorem dX3_mostFor_4 : decode cX3_mostFor 4 = .ok (.iload_n 3, 1) := by decide +kernel
theorem dX3_mostFor_5 : decode cX3_mostFor 5 = .ok (.aload_n 0, 1) := by decide +kernel
theorem dX3_mostFor_6 : decode cX3_mostFor 6 = .ok (.getfield 15, 3) := by decide +kernel
theorem dX3_mostFor_9 : decode cX3_mostFor 9 = .ok (.getfield 50, 3) := by decide +kernel
theorem dX3_mostFor_12 : decode cX3_mostFor 12 = .ok (.if_icmp .ge 28, 3) := by decide +kernel
theorem dX3_mostFor_15 : decode cX3_mostFor 15 = .ok (.iload_n 2, 1) := by decide +kernel
theorem dX3_mostFor_16 : decode cX3_mostFor 16 = .ok (.aload_n 0, 1) := by decide +kernel
theorem dX3_mostFor_17 : decode cX3_mostFor 17 = .ok (.iload_n 1, 1) := by decide +kernel
theorem dX3_mostFor_18 : decode cX3_mostFor 18 = .ok (.aload_n 0, 1) := by decide +kernel
theorem dX3_mostFor_19 : decode cX3_mostFor 19 = .ok (.getfield 15, 3) := by decide +kernel
theorem dX3_mostFor_22 : decode cX3_mostFor 22 = .ok (.getfield 55, 3) := by decide +kernel
theorem dX3_mostFor_25 : decode cX3_mostFor 25 = .ok (.iload_n 3, 1) := by decide +kernel
theorem dX3_mostFor_26 : decode cX3_mostFor 26 = .ok (.iaload, 1) := by decide +kernel
theorem dX3_mostFor_27 : decode cX3_mostFor 27 = .ok (.invokevirtual 73, 3) := by decide +kernel
theorem dX3_mostFor_30 : decode cX3_mostFor 30 = .ok (.invokestatic 76, 3) := by decide +kernel
theorem dX3_mostFor_33 : decode cX3_mostFor 33 = .ok (.istore_n 2, 1) := by decide +kernel
theorem dX3_mostFor_34 : decode cX3_mostFor 34 = .ok (.iinc 3 1, 3) := by decide +kernel
theorem dX3_mostFor_37 : decode cX3_mostFor 37 = .ok (.goto (-33), 3) := by decide +kernel
theorem dX3_mostFor_40 : decode cX3_mostFor 40 = .ok (.iload_n 2, 1) := by decide +kernel
theorem dX3_mostFor_41 : decode cX3_mostFor 41 = .ok (.ireturn, 1) := by decide +kernel
set_option maxRecDepth 20000 in
theorem ggX3_chosenAt_X3_isChosen : GoodIn wsX3_chosenAt wsX3_isChosen := goodIn_r _ [8, 1, 9, 10, 11, 12, 13, 14, 15, 16, 17] (by decide +kernel) (by decide +kernel)
set_option maxRecDepth 20000 in
theorem gX3_chosenAt_X3_isChosen : GoodIn wsX3_chosenAt (wsV RX3 64 RX3 yX3_isChosen wsX3_isChosen) := goodIn_app (goodIn_of _ (by decide +kernel)) ggX3_chosenAt_X3_isChosen
theorem dX3_chosenAt_0 : decode cX3_chosenAt 0 = .ok (.iconst 0, 1) := by decide +kernel
theorem dX3_chosenAt_1 : decode cX3_chosenAt 1 = .ok (.istore_n 2, 1) := by decide +kernel
theorem dX3_chosenAt_2 : decode cX3_chosenAt 2 = .ok (.iconst 0, 1) := by decide +kernel
theorem dX3_chosenAt_3 : decode cX3_chosenAt 3 = .ok (.istore_n 3, 1) := by decide +kernel
theorem dX3_chosenAt_4 : decode cX3_chosenAt 4 = .ok (.iload_n 3, 1) := by decide +kernel
theorem dX3_chosenAt_5 : decode cX3_chosenAt 5 = .ok (.aload_n 0, 1) := by decide +kernel
theorem dX3_chosenAt_6 : decode cX3_chosenAt 6 = .ok (.getfield 22, 3) := by decide +kernel
theorem dX3_chosenAt_9 : decode cX3_chosenAt 9 = .ok (.if_icmp .ge 40, 3) := by decide +kernel
theorem dX3_chosenAt_12 : decode cX3_chosenAt 12 = .ok (.aload_n 0, 1) := by decide +kernel
theorem dX3_chosenAt_13 : decode cX3_chosenAt 13 = .ok (.aload_n 0, 1) := by decide +kernel
theorem dX3_chosenAt_14 : decode cX3_chosenAt 14 = .ok (.getfield 32, 3) := by decide +kernel
theorem dX3_chosenAt_17 : decode cX3_chosenAt 17 = .ok (.iload_n 3, 1) := by decide +kernel
theorem dX3_chosenAt_18 : decode cX3_chosenAt 18 = .ok (.invokevirtual 64, 3) := by decide +kernel
theorem dX3_chosenAt_21 : decode cX3_chosenAt 21 = .ok (.ifCond .eq 22, 3) := by decide +kernel
theorem dX3_chosenAt_24 : decode cX3_chosenAt 24 = .ok (.iload_n 2, 1) := by decide +kernel
theorem dX3_chosenAt_25 : decode cX3_chosenAt 25 = .ok (.iload_n 1, 1) := by decide +kernel
theorem dX3_chosenAt_26 : decode cX3_chosenAt 26 = .ok (.if_icmp .ne 14, 3) := by decide +kernel
theorem dX3_chosenAt_29 : decode cX3_chosenAt 29 = .ok (.aload_n 0, 1) := by decide +kernel
theorem dX3_chosenAt_30 : decode cX3_chosenAt 30 = .ok (.getfield 9, 3) := by decide +kernel
theorem dX3_chosenAt_33 : decode cX3_chosenAt 33 = .ok (.iload_n 3, 1) := by decide +kernel
theorem dX3_chosenAt_34 : decode cX3_chosenAt 34 = .ok (.iaload, 1) := by decide +kernel
theorem dX3_chosenAt_35 : decode cX3_chosenAt 35 = .ok (.sipush 1000, 3) := by decide +kernel
theorem dX3_chosenAt_38 : decode cX3_chosenAt 38 = .ok (.iadd, 1) := by decide +kernel
theorem dX3_chosenAt_39 : decode cX3_chosenAt 39 = .ok (.ireturn, 1) := by decide +kernel
theorem dX3_chosenAt_40 : decode cX3_chosenAt 40 = .ok (.iinc 2 1, 3) := by decide +kernel
theorem dX3_chosenAt_43 : decode cX3_chosenAt 43 = .ok (.iinc 3 1, 3) := by decide +kernel
theorem dX3_chosenAt_46 : decode cX3_chosenAt 46 = .ok (.goto (-42), 3) := by decide +kernel
theorem dX3_chosenAt_49 : decode cX3_chosenAt 49 = .ok (.iconst (-1), 1) := by decide +kernel
theorem dX3_chosenAt_50 : decode cX3_chosenAt 50 = .ok (.ireturn, 1) := by decide +kernel
set_option maxRecDepth 20000 in
theorem ggX4_init_X5_init : GoodIn wsX4_init wsX5_init := goodIn_r _ [9, 10, 2, 3, 11, 12, 13, 14, 15, 16, 17, 18, 19, 22, 23, 24, 25, 26, 27, 28, 29, 30, 31] (by decide +kernel) (by decide +kernel)
set_option maxRecDepth 20000 in
theorem gX4_init_X5_init_n17 : GoodIn wsX4_init (wsX5_init) := ggX4_init_X5_init
theorem dX4_init_0 : decode cX4_init 0 = .ok (.aload_n 0, 1) := by decide +kernel
theorem dX4_init_1 : decode cX4_init 1 = .ok (.invokespecial 3, 3) := by decide +kernel
theorem dX4_init_4 : decode cX4_init 4 = .ok (.aload_n 0, 1) := by decide +kernel
theorem dX4_init_5 : decode cX4_init 5 = .ok (.bipush 8, 2) := by decide +kernel
theorem dX4_init_7 : decode cX4_init 7 = .ok (.anewarray 9, 3) := by decide +kernel
theorem dX4_init_10 : decode cX4_init 10 = .ok (.putfield 11, 3) := by decide +kernel
theorem dX4_init_13 : decode cX4_init 13 = .ok (.iconst 0, 1) := by decide +kernel
theorem dX4_init_14 : decode cX4_init 14 = .ok (.istore_n 1, 1) := by decide +kernel
theorem dX4_init_15 : decode cX4_init 15 = .ok (.iload_n 1, 1) := by decide +kernel
theorem dX4_init_16 : decode cX4_init 16 = .ok (.bipush 8, 2) := by decide +kernel
theorem dX4_init_18 : decode cX4_init 18 = .ok (.if_icmp .ge 22, 3) := by decide +kernel
theorem dX4_init_21 : decode cX4_init 21 = .ok (.aload_n 0, 1) := by decide +kernel
theorem dX4_init_22 : decode cX4_init 22 = .ok (.getfield 11, 3) := by decide +kernel
theorem dX4_init_25 : decode cX4_init 25 = .ok (.iload_n 1, 1) := by decide +kernel
theorem dX4_init_26 : decode cX4_init 26 = .ok (.new 9, 3) := by decide +kernel
theorem dX4_init_29 : decode cX4_init 29 = .ok (.dup, 1) := by decide +kernel
theorem dX4_init_30 : decode cX4_init 30 = .ok (.invokespecial 17, 3) := by decide +kernel
theorem dX4_init_33 : decode cX4_init 33 = .ok (.aastore, 1) := by decide +kernel
theorem dX4_init_34 : decode cX4_init 34 = .ok (.iinc 1 1, 3) := by decide +kernel
theorem dX4_init_37 : decode cX4_init 37 = .ok (.goto (-22), 3) := by decide +kernel
theorem dX4_init_40 : decode cX4_init 40 = .ok (.return_, 1) := by decide +kernel
set_option maxRecDepth 20000 in
theorem ggX4_keep_X4_dropOldest : GoodIn wsX4_keep wsX4_dropOldest := goodIn_r _ [7, 2, 1, 27, 28] (by decide +kernel) (by decide +kernel)
set_option maxRecDepth 20000 in
theorem gX4_keep_X4_dropOldest : GoodIn wsX4_keep (wsV RX4 22 RX4 yX4_dropOldest wsX4_dropOldest) := goodIn_app (goodIn_of _ (by decide +kernel)) ggX4_keep_X4_dropOldest
set_option maxRecDepth 20000 in
theorem ggX4_keep_X5_takeFrom : GoodIn wsX4_keep wsX5_takeFrom := goodIn_r _ [12, 13, 14, 15, 16, 17, 18, 19, 20, 21, 22, 23, 24, 25, 26, 29, 30, 31, 32, 33, 34, 35, 36, 37, 38] (by decide +kernel) (by decide +kernel)
set_option maxRecDepth 20000 in
theorem gX4_keep_X5_takeFrom : GoodIn wsX4_keep (wsV RX4 25 RX5 yX5_takeFrom wsX5_takeFrom) := goodIn_app (goodIn_of _ (by decide +kernel)) ggX4_keep_X5_takeFrom
theorem dX4_keep_0 : decode cX4_keep 0 = .ok (.aload_n 0, 1) := by decide +kernel
theorem dX4_keep_1 : decode cX4_keep 1 = .ok (.getfield 18, 3) := by decide +kernel
theorem dX4_keep_4 : decode cX4_keep 4 = .ok (.bipush 8, 2) := by decide +kernel
theorem dX4_keep_6 : decode cX4_keep 6 = .ok (.if_icmp .lt 7, 3) := by decide +kernel
theorem dX4_keep_9 : decode cX4_keep 9 = .ok (.aload_n 0, 1) := by decide +kernel
theorem dX4_keep_10 : decode cX4_keep 10 = .ok (.invokevirtual 22, 3) := by decide +kernel
theorem dX4_keep_13 : decode cX4_keep 13 = .ok (.aload_n 0, 1) := by decide +kernel
theorem dX4_keep_14 : decode cX4_keep 14 = .ok (.getfield 11, 3) := by decide +kernel
theorem dX4_keep_17 : decode cX4_keep 17 = .ok (.aload_n 0, 1) := by decide +kernel
theorem dX4_keep_18 : decode cX4_keep 18 = .ok (.getfield 18, 3) := by decide +kernel
theorem dX4_keep_21 : decode cX4_keep 21 = .ok (.aaload, 1) := by decide +kernel
theorem dX4_keep_22 : decode cX4_keep 22 = .ok (.aload_n 1, 1) := by decide +kernel
theorem dX4_keep_23 : decode cX4_keep 23 = .ok (.invokevirtual 25, 3) := by decide +kernel
theorem dX4_keep_26 : decode cX4_keep 26 = .ok (.aload_n 0, 1) := by decide +kernel
theorem dX4_keep_27 : decode cX4_keep 27 = .ok (.dup, 1) := by decide +kernel
theorem dX4_keep_28 : decode cX4_keep 28 = .ok (.getfield 18, 3) := by decide +kernel
theorem dX4_keep_31 : decode cX4_keep 31 = .ok (.iconst 1, 1) := by decide +kernel
theorem dX4_keep_32 : decode cX4_keep 32 = .ok (.iadd, 1) := by decide +kernel
theorem dX4_keep_33 : decode cX4_keep 33 = .ok (.putfield 18, 3) := by decide +kernel
theorem dX4_keep_36 : decode cX4_keep 36 = .ok (.return_, 1) := by decide +kernel
theorem dX4_dropOldest_0 : decode cX4_dropOldest 0 = .ok (.aload_n 0, 1) := by decide +kernel
theorem dX4_dropOldest_1 : decode cX4_dropOldest 1 = .ok (.getfield 11, 3) := by decide +kernel
theorem dX4_dropOldest_4 : decode cX4_dropOldest 4 = .ok (.iconst 0, 1) := by decide +kernel
theorem dX4_dropOldest_5 : decode cX4_dropOldest 5 = .ok (.aaload, 1) := by decide +kernel
theorem dX4_dropOldest_6 : decode cX4_dropOldest 6 = .ok (.astore_n 1, 1) := by decide +kernel
theorem dX4_dropOldest_7 : decode cX4_dropOldest 7 = .ok (.iconst 1, 1) := by decide +kernel
theorem dX4_dropOldest_8 : decode cX4_dropOldest 8 = .ok (.istore_n 2, 1) := by decide +kernel
theorem dX4_dropOldest_9 : decode cX4_dropOldest 9 = .ok (.iload_n 2, 1) := by decide +kernel
theorem dX4_dropOldest_10 : decode cX4_dropOldest 10 = .ok (.bipush 8, 2) := by decide +kernel
theorem dX4_dropOldest_12 : decode cX4_dropOldest 12 = .ok (.if_icmp .ge 23, 3) := by decide +kernel
theorem dX4_dropOldest_15 : decode cX4_dropOldest 15 = .ok (.aload_n 0, 1) := by decide +kernel
theorem dX4_dropOldest_16 : decode cX4_dropOldest 16 = .ok (.getfield 11, 3) := by decide +kernel
theorem dX4_dropOldest_19 : decode cX4_dropOldest 19 = .ok (.iload_n 2, 1) := by decide +kernel
theorem dX4_dropOldest_20 : decode cX4_dropOldest 20 = .ok (.iconst 1, 1) := by decide +kernel
theorem dX4_dropOldest_21 : decode cX4_dropOldest 21 = .ok (.isub, 1) := by decide +kernel
theorem dX4_dropOldest_22 : decode cX4_dropOldest 22 = .ok (.aload_n 0, 1) := by decide +kernel
theorem dX4_dropOldest_23 : decode cX4_dropOldest 23 = .ok (.getfield 11, 3) := by decide +kernel
theorem dX4_dropOldest_26 : decode cX4_dropOldest 26 = .ok (.iload_n 2, 1) := by decide +kernel
theorem dX4_dropOldest_27 : decode cX4_dropOldest 27 = .ok (.aaload, 1) := by decide +kernel
theorem dX4_dropOldest_28 : decode cX4_dropOldest 28 = .ok (.aastore, 1) := by decide +kernel
theorem dX4_dropOldest_29 : decode cX4_dropOldest 29 = .ok (.iinc 2 1, 3) := by decide +kernel
theorem dX4_dropOldest_32 : decode cX4_dropOldest 32 = .ok (.goto (-23), 3) := by decide +kernel
theorem dX4_dropOldest_35 : decode cX4_dropOldest 35 = .ok (.aload_n 0, 1) := by decide +kernel
theorem dX4_dropOldest_36 : decode cX4_dropOldest 36 = .ok (.getfield 11, 3) := by decide +kernel
theorem dX4_dropOldest_39 : decode cX4_dropOldest 39 = .ok (.bipush 7, 2) := by decide +kernel
theorem dX4_dropOldest_41 : decode cX4_dropOldest 41 = .ok (.aload_n 1, 1) := by decide +kernel
theorem dX4_dropOldest_42 : decode cX4_dropOldest 42 = .ok (.aastore, 1) := by decide +kernel
theorem dX4_dropOldest_43 : decode cX4_dropOldest 43 = .ok (.aload_n 0, 1) := by decide +kernel
theorem dX4_dropOldest_44 : decode cX4_dropOldest 44 = .ok (.bipush 7, 2) := by decide +kernel
theorem dX4_dropOldest_46 : decode cX4_dropOldest 46 = .ok (.putfield 18, 3) := by decide +kernel
theorem dX4_dropOldest_49 : decode cX4_dropOldest 49 = .ok (.return_, 1) := by decide +kernel
set_option maxRecDepth 20000 in
theorem ggX4_giveBack_X5_takeFrom : GoodIn wsX4_giveBack wsX5_takeFrom := goodIn_r _ [7, 8, 9, 10, 11, 12, 13, 14, 15, 16, 17, 18, 19, 20, 21, 24, 25, 26, 27, 28, 29, 30, 31, 32, 33] (by decide +kernel) (by decide +kernel)
set_option maxRecDepth 20000 in
theorem gX4_giveBack_X5_takeFrom : GoodIn wsX4_giveBack (wsV RX4 25 RX5 yX5_takeFrom wsX5_takeFrom) := goodIn_app (goodIn_of _ (by decide +kernel)) ggX4_giveBack_X5_takeFrom
theorem dX4_giveBack_0 : decode cX4_giveBack 0 = .ok (.aload_n 0, 1) := by decide +kernel
theorem dX4_giveBack_1 : decode cX4_giveBack 1 = .ok (.getfield 18, 3) := by decide +kernel
theorem dX4_giveBack_4 : decode cX4_giveBack 4 = .ok (.ifCond .le 26, 3) := by decide +kernel
theorem dX4_giveBack_7 : decode cX4_giveBack 7 = .ok (.aload_n 0, 1) := by decide +kernel
theorem dX4_giveBack_8 : decode cX4_giveBack 8 = .ok (.dup, 1) := by decide +kernel
theorem dX4_giveBack_9 : decode cX4_giveBack 9 = .ok (.getfield 18, 3) := by decide +kernel
theorem dX4_giveBack_12 : decode cX4_giveBack 12 = .ok (.iconst 1, 1) := by decide +kernel
theorem dX4_giveBack_13 : decode cX4_giveBack 13 = .ok (.isub, 1) := by decide +kernel
theorem dX4_giveBack_14 : decode cX4_giveBack 14 = .ok (.putfield 18, 3) := by decide +kernel
theorem dX4_giveBack_17 : decode cX4_giveBack 17 = .ok (.aload_n 1, 1) := by decide +kernel
theorem dX4_giveBack_18 : decode cX4_giveBack 18 = .ok (.aload_n 0, 1) := by decide +kernel
theorem dX4_giveBack_19 : decode cX4_giveBack 19 = .ok (.getfield 11, 3) := by decide +kernel
theorem dX4_giveBack_22 : decode cX4_giveBack 22 = .ok (.aload_n 0, 1) := by decide +kernel
theorem dX4_giveBack_23 : decode cX4_giveBack 23 = .ok (.getfield 18, 3) := by decide +kernel
theorem dX4_giveBack_26 : decode cX4_giveBack 26 = .ok (.aaload, 1) := by decide +kernel
theorem dX4_giveBack_27 : decode cX4_giveBack 27 = .ok (.invokevirtual 25, 3) := by decide +kernel
theorem dX4_giveBack_30 : decode cX4_giveBack 30 = .ok (.return_, 1) := by decide +kernel
theorem dX5_init_0 : decode cX5_init 0 = .ok (.aload_n 0, 1) := by decide +kernel
theorem dX5_init_1 : decode cX5_init 1 = .ok (.invokespecial 3, 3) := by decide +kernel
theorem dX5_init_4 : decode cX5_init 4 = .ok (.aload_n 0, 1) := by decide +kernel
theorem dX5_init_5 : decode cX5_init 5 = .ok (.bipush 8, 2) := by decide +kernel
theorem dX5_init_7 : decode cX5_init 7 = .ok (.newarray .int, 2) := by decide +kernel
theorem dX5_init_9 : decode cX5_init 9 = .ok (.putfield 9, 3) := by decide +kernel
theorem dX5_init_12 : decode cX5_init 12 = .ok (.aload_n 0, 1) := by decide +kernel
theorem dX5_init_13 : decode cX5_init 13 = .ok (.bipush 8, 2) := by decide +kernel
theorem dX5_init_15 : decode cX5_init 15 = .ok (.newarray .int, 2) := by decide +kernel
theorem dX5_init_17 : decode cX5_init 17 = .ok (.putfield 15, 3) := by decide +kernel
theorem dX5_init_20 : decode cX5_init 20 = .ok (.aload_n 0, 1) := by decide +kernel
theorem dX5_init_21 : decode cX5_init 21 = .ok (.bipush 8, 2) := by decide +kernel
theorem dX5_init_23 : decode cX5_init 23 = .ok (.newarray .int, 2) := by decide +kernel
theorem dX5_init_25 : decode cX5_init 25 = .ok (.putfield 18, 3) := by decide +kernel
theorem dX5_init_28 : decode cX5_init 28 = .ok (.aload_n 0, 1) := by decide +kernel
theorem dX5_init_29 : decode cX5_init 29 = .ok (.bipush 7, 2) := by decide +kernel
theorem dX5_init_31 : decode cX5_init 31 = .ok (.newarray .int, 2) := by decide +kernel
theorem dX5_init_33 : decode cX5_init 33 = .ok (.putfield 21, 3) := by decide +kernel
theorem dX5_init_36 : decode cX5_init 36 = .ok (.aload_n 0, 1) := by decide +kernel
theorem dX5_init_37 : decode cX5_init 37 = .ok (.bipush 7, 2) := by decide +kernel
theorem dX5_init_39 : decode cX5_init 39 = .ok (.newarray .int, 2) := by decide +kernel
theorem dX5_init_41 : decode cX5_init 41 = .ok (.putfield 24, 3) := by decide +kernel
theorem dX5_init_44 : decode cX5_init 44 = .ok (.aload_n 0, 1) := by decide +kernel
theorem dX5_init_45 : decode cX5_init 45 = .ok (.bipush 7, 2) := by decide +kernel
theorem dX5_init_47 : decode cX5_init 47 = .ok (.newarray .int, 2) := by decide +kernel
theorem dX5_init_49 : decode cX5_init 49 = .ok (.putfield 27, 3) := by decide +kernel
theorem dX5_init_52 : decode cX5_init 52 = .ok (.aload_n 0, 1) := by decide +kernel
theorem dX5_init_53 : decode cX5_init 53 = .ok (.bipush 7, 2) := by decide +kernel
theorem dX5_init_55 : decode cX5_init 55 = .ok (.newarray .int, 2) := by decide +kernel
theorem dX5_init_57 : decode cX5_init 57 = .ok (.putfield 30, 3) := by decide +kernel
theorem dX5_init_60 : decode cX5_init 60 = .ok (.aload_n 0, 1) := by decide +kernel
theorem dX5_init_61 : decode cX5_init 61 = .ok (.bipush 56, 2) := by decide +kernel
theorem dX5_init_63 : decode cX5_init 63 = .ok (.newarray .int, 2) := by decide +kernel
theorem dX5_init_65 : decode cX5_init 65 = .ok (.putfield 33, 3) := by decide +kernel
theorem dX5_init_68 : decode cX5_init 68 = .ok (.return_, 1) := by decide +kernel
theorem dX5_takeFrom_0 : decode cX5_takeFrom 0 = .ok (.aload_n 0, 1) := by decide +kernel
theorem dX5_takeFrom_1 : decode cX5_takeFrom 1 = .ok (.aload_n 1, 1) := by decide +kernel
theorem dX5_takeFrom_2 : decode cX5_takeFrom 2 = .ok (.getfield 36, 3) := by decide +kernel
theorem dX5_takeFrom_5 : decode cX5_takeFrom 5 = .ok (.putfield 36, 3) := by decide +kernel
theorem dX5_takeFrom_8 : decode cX5_takeFrom 8 = .ok (.aload_n 0, 1) := by decide +kernel
theorem dX5_takeFrom_9 : decode cX5_takeFrom 9 = .ok (.aload_n 1, 1) := by decide +kernel
theorem dX5_takeFrom_10 : decode cX5_takeFrom 10 = .ok (.getfield 40, 3) := by decide +kernel
theorem dX5_takeFrom_13 : decode cX5_takeFrom 13 = .ok (.putfield 40, 3) := by decide +kernel
theorem dX5_takeFrom_16 : decode cX5_takeFrom 16 = .ok (.aload_n 1, 1) := by decide +kernel
theorem dX5_takeFrom_17 : decode cX5_takeFrom 17 = .ok (.getfield 9, 3) := by decide +kernel
theorem dX5_takeFrom_20 : decode cX5_takeFrom 20 = .ok (.iconst 0, 1) := by decide +kernel
theorem dX5_takeFrom_21 : decode cX5_takeFrom 21 = .ok (.aload_n 0, 1) := by decide +kernel
theorem dX5_takeFrom_22 : decode cX5_takeFrom 22 = .ok (.getfield 9, 3) := by decide +kernel
theorem dX5_takeFrom_25 : decode cX5_takeFrom 25 = .ok (.iconst 0, 1) := by decide +kernel
theorem dX5_takeFrom_26 : decode cX5_takeFrom 26 = .ok (.bipush 8, 2) := by decide +kernel
theorem dX5_takeFrom_28 : decode cX5_takeFrom 28 = .ok (.invokestatic 43, 3) := by decide +kernel
theorem dX5_takeFrom_31 : decode cX5_takeFrom 31 = .ok (.aload_n 1, 1) := by decide +kernel
theorem dX5_takeFrom_32 : decode cX5_takeFrom 32 = .ok (.getfield 15, 3) := by decide +kernel
theorem dX5_takeFrom_35 : decode cX5_takeFrom 35 = .ok (.iconst 0, 1) := by decide +kernel
theorem dX5_takeFrom_36 : decode cX5_takeFrom 36 = .ok (.aload_n 0, 1) := by decide +kernel
theorem dX5_takeFrom_37 : decode cX5_takeFrom 37 = .ok (.getfield 15, 3) := by decide +kernel
theorem dX5_takeFrom_40 : decode cX5_takeFrom 40 = .ok (.iconst 0, 1) := by decide +kernel
theorem dX5_takeFrom_41 : decode cX5_takeFrom 41 = .ok (.bipush 8, 2) := by decide +kernel
theorem dX5_takeFrom_43 : decode cX5_takeFrom 43 = .ok (.invokestatic 43, 3) := by decide +kernel
theorem dX5_takeFrom_46 : decode cX5_takeFrom 46 = .ok (.aload_n 1, 1) := by decide +kernel
theorem dX5_takeFrom_47 : decode cX5_takeFrom 47 = .ok (.getfield 18, 3) := by decide +kernel
theorem dX5_takeFrom_50 : decode cX5_takeFrom 50 = .ok (.iconst 0, 1) := by decide +kernel
theorem dX5_takeFrom_51 : decode cX5_takeFrom 51 = .ok (.aload_n 0, 1) := by decide +kernel
theorem dX5_takeFrom_52 : decode cX5_takeFrom 52 = .ok (.getfield 18, 3) := by decide +kernel
theorem dX5_takeFrom_55 : decode cX5_takeFrom 55 = .ok (.iconst 0, 1) := by decide +kernel
theorem dX5_takeFrom_56 : decode cX5_takeFrom 56 = .ok (.bipush 8, 2) := by decide +kernel
theorem dX5_takeFrom_58 : decode cX5_takeFrom 58 = .ok (.invokestatic 43, 3) := by decide +kernel
theorem dX5_takeFrom_61 : decode cX5_takeFrom 61 = .ok (.aload_n 1, 1) := by decide +kernel
theorem dX5_takeFrom_62 : decode cX5_takeFrom 62 = .ok (.getfield 21, 3) := by decide +kernel
theorem dX5_takeFrom_65 : decode cX5_takeFrom 65 = .ok (.iconst 0, 1) := by decide +kernel
theorem dX5_takeFrom_66 : decode cX5_takeFrom 66 = .ok (.aload_n 0, 1) := by decide +kernel
theorem dX5_takeFrom_67 : decode cX5_takeFrom 67 = .ok (.getfield 21, 3) := by decide +kernel
theorem dX5_takeFrom_70 : decode cX5_takeFrom 70 = .ok (.iconst 0, 1) := by decide +kernel
theorem dX5_takeFrom_71 : decode cX5_takeFrom 71 = .ok (.bipush 7, 2) := by decide +kernel
theorem dX5_takeFrom_73 : decode cX5_takeFrom 73 = .ok (.invokestatic 43, 3) := by decide +kernel
theorem dX5_takeFrom_76 : decode cX5_takeFrom 76 = .ok (.aload_n 1, 1) := by decide +kernel
theorem dX5_takeFrom_77 : decode cX5_takeFrom 77 = .ok (.getfield 24, 3) := by decide +kernel
theorem dX5_takeFrom_80 : decode cX5_takeFrom 80 = .ok (.iconst 0, 1) := by decide +kernel
theorem dX5_takeFrom_81 : decode cX5_takeFrom 81 = .ok (.aload_n 0, 1) := by decide +kernel
theorem dX5_takeFrom_82 : decode cX5_takeFrom 82 = .ok (.getfield 24, 3) := by decide +kernel
theorem dX5_takeFrom_85 : decode cX5_takeFrom 85 = .ok (.iconst 0, 1) := by decide +kernel
theorem dX5_takeFrom_86 : decode cX5_takeFrom 86 = .ok (.bipush 7, 2) := by decide +kernel
theorem dX5_takeFrom_88 : decode cX5_takeFrom 88 = .ok (.invokestatic 43, 3) := by decide +kernel
theorem dX5_takeFrom_91 : decode cX5_takeFrom 91 = .ok (.aload_n 1, 1) := by decide +kernel
theorem dX5_takeFrom_92 : decode cX5_takeFrom 92 = .ok (.getfield 27, 3) := by decide +kernel
theorem dX5_takeFrom_95 : decode cX5_takeFrom 95 = .ok (.iconst 0, 1) := by decide +kernel
theorem dX5_takeFrom_96 : decode cX5_takeFrom 96 = .ok (.aload_n 0, 1) := by decide +kernel
theorem dX5_takeFrom_97 : decode cX5_takeFrom 97 = .ok (.getfield 27, 3) := by decide +kernel
theorem dX5_takeFrom_100 : decode cX5_takeFrom 100 = .ok (.iconst 0, 1) := by decide +kernel
theorem dX5_takeFrom_101 : decode cX5_takeFrom 101 = .ok (.bipush 7, 2) := by decide +kernel
theorem dX5_takeFrom_103 : decode cX5_takeFrom 103 = .ok (.invokestatic 43, 3) := by decide +kernel
theorem dX5_takeFrom_106 : decode cX5_takeFrom 106 = .ok (.aload_n 1, 1) := by decide +kernel
theorem dX5_takeFrom_107 : decode cX5_takeFrom 107 = .ok (.getfield 30, 3) := by decide +kernel
theorem dX5_takeFrom_110 : decode cX5_takeFrom 110 = .ok (.iconst 0, 1) := by decide +kernel
theorem dX5_takeFrom_111 : decode cX5_takeFrom 111 = .ok (.aload_n 0, 1) := by decide +kernel
theorem dX5_takeFrom_112 : decode cX5_takeFrom 112 = .ok (.getfield 30, 3) := by decide +kernel
theorem dX5_takeFrom_115 : decode cX5_takeFrom 115 = .ok (.iconst 0, 1) := by decide +kernel
theorem dX5_takeFrom_116 : decode cX5_takeFrom 116 = .ok (.bipush 7, 2) := by decide +kernel
theorem dX5_takeFrom_118 : decode cX5_takeFrom 118 = .ok (.invokestatic 43, 3) := by decide +kernel
theorem dX5_takeFrom_121 : decode cX5_takeFrom 121 = .ok (.aload_n 1, 1) := by decide +kernel
theorem dX5_takeFrom_122 : decode cX5_takeFrom 122 = .ok (.getfield 33, 3) := by decide +kernel
theorem dX5_takeFrom_125 : decode cX5_takeFrom 125 = .ok (.iconst 0, 1) := by decide +kernel
theorem dX5_takeFrom_126 : decode cX5_takeFrom 126 = .ok (.aload_n 0, 1) := by decide +kernel
theorem dX5_takeFrom_127 : decode cX5_takeFrom 127 = .ok (.getfield 33, 3) := by decide +kernel
theorem dX5_takeFrom_130 : decode cX5_takeFrom 130 = .ok (.iconst 0, 1) := by decide +kernel
theorem dX5_takeFrom_131 : decode cX5_takeFrom 131 = .ok (.bipush 56, 2) := by decide +kernel
theorem dX5_takeFrom_133 : decode cX5_takeFrom 133 = .ok (.invokestatic 43, 3) := by decide +kernel
theorem dX5_takeFrom_136 : decode cX5_takeFrom 136 = .ok (.return_, 1) := by decide +kernel
theorem dX5_addTown_0 : decode cX5_addTown 0 = .ok (.aload_n 0, 1) := by decide +kernel
theorem dX5_addTown_1 : decode cX5_addTown 1 = .ok (.getfield 36, 3) := by decide +kernel
theorem dX5_addTown_4 : decode cX5_addTown 4 = .ok (.istore_n 1, 1) := by decide +kernel
theorem dX5_addTown_5 : decode cX5_addTown 5 = .ok (.aload_n 0, 1) := by decide +kernel
theorem dX5_addTown_6 : decode cX5_addTown 6 = .ok (.dup, 1) := by decide +kernel
theorem dX5_addTown_7 : decode cX5_addTown 7 = .ok (.getfield 36, 3) := by decide +kernel
theorem dX5_addTown_10 : decode cX5_addTown 10 = .ok (.iconst 1, 1) := by decide +kernel
theorem dX5_addTown_11 : decode cX5_addTown 11 = .ok (.iadd, 1) := by decide +kernel
theorem dX5_addTown_12 : decode cX5_addTown 12 = .ok (.putfield 36, 3) := by decide +kernel
theorem dX5_addTown_15 : decode cX5_addTown 15 = .ok (.aload_n 0, 1) := by decide +kernel
theorem dX5_addTown_16 : decode cX5_addTown 16 = .ok (.getfield 9, 3) := by decide +kernel
theorem dX5_addTown_19 : decode cX5_addTown 19 = .ok (.iload_n 1, 1) := by decide +kernel
theorem dX5_addTown_20 : decode cX5_addTown 20 = .ok (.iconst 1, 1) := by decide +kernel
theorem dX5_addTown_21 : decode cX5_addTown 21 = .ok (.iastore, 1) := by decide +kernel
theorem dX5_addTown_22 : decode cX5_addTown 22 = .ok (.aload_n 0, 1) := by decide +kernel
theorem dX5_addTown_23 : decode cX5_addTown 23 = .ok (.getfield 15, 3) := by decide +kernel
theorem dX5_addTown_26 : decode cX5_addTown 26 = .ok (.iload_n 1, 1) := by decide +kernel
theorem dX5_addTown_27 : decode cX5_addTown 27 = .ok (.iconst 0, 1) := by decide +kernel
theorem dX5_addTown_28 : decode cX5_addTown 28 = .ok (.iastore, 1) := by decide +kernel
theorem dX5_addTown_29 : decode cX5_addTown 29 = .ok (.aload_n 0, 1) := by decide +kernel
theorem dX5_addTown_30 : decode cX5_addTown 30 = .ok (.getfield 18, 3) := by decide +kernel
theorem dX5_addTown_33 : decode cX5_addTown 33 = .ok (.iload_n 1, 1) := by decide +kernel
theorem dX5_addTown_34 : decode cX5_addTown 34 = .ok (.iconst 0, 1) := by decide +kernel
theorem dX5_addTown_35 : decode cX5_addTown 35 = .ok (.iastore, 1) := by decide +kernel
theorem dX5_addTown_36 : decode cX5_addTown 36 = .ok (.iload_n 1, 1) := by decide +kernel
theorem dX5_addTown_37 : decode cX5_addTown 37 = .ok (.ireturn, 1) := by decide +kernel
set_option maxRecDepth 20000 in
theorem ggX5_addHall_X5_laySheet : GoodIn wsX5_addHall wsX5_laySheet := goodIn_r _ [8, 9, 10, 11, 12, 13, 14, 15, 16, 17, 18, 19, 20, 21, 22] (by decide +kernel) (by decide +kernel)
set_option maxRecDepth 20000 in
theorem gX5_addHall_X5_laySheet : GoodIn wsX5_addHall (wsV RX5 49 RX5 yX5_laySheet wsX5_laySheet) := goodIn_app (goodIn_of _ (by decide +kernel)) ggX5_addHall_X5_laySheet
theorem dX5_addHall_0 : decode cX5_addHall 0 = .ok (.aload_n 0, 1) := by decide +kernel
theorem dX5_addHall_1 : decode cX5_addHall 1 = .ok (.getfield 40, 3) := by decide +kernel
theorem dX5_addHall_4 : decode cX5_addHall 4 = .ok (.istore_n 1, 1) := by decide +kernel
theorem dX5_addHall_5 : decode cX5_addHall 5 = .ok (.aload_n 0, 1) := by decide +kernel
theorem dX5_addHall_6 : decode cX5_addHall 6 = .ok (.dup, 1) := by decide +kernel
theorem dX5_addHall_7 : decode cX5_addHall 7 = .ok (.getfield 40, 3) := by decide +kernel
theorem dX5_addHall_10 : decode cX5_addHall 10 = .ok (.iconst 1, 1) := by decide +kernel
theorem dX5_addHall_11 : decode cX5_addHall 11 = .ok (.iadd, 1) := by decide +kernel
theorem dX5_addHall_12 : decode cX5_addHall 12 = .ok (.putfield 40, 3) := by decide +kernel
theorem dX5_addHall_15 : decode cX5_addHall 15 = .ok (.aload_n 0, 1) := by decide +kernel
theorem dX5_addHall_16 : decode cX5_addHall 16 = .ok (.getfield 21, 3) := by decide +kernel
theorem dX5_addHall_19 : decode cX5_addHall 19 = .ok (.iload_n 1, 1) := by decide +kernel
theorem dX5_addHall_20 : decode cX5_addHall 20 = .ok (.iconst 0, 1) := by decide +kernel
theorem dX5_addHall_21 : decode cX5_addHall 21 = .ok (.iastore, 1) := by decide +kernel
theorem dX5_addHall_22 : decode cX5_addHall 22 = .ok (.aload_n 0, 1) := by decide +kernel
theorem dX5_addHall_23 : decode cX5_addHall 23 = .ok (.getfield 24, 3) := by decide +kernel
theorem dX5_addHall_26 : decode cX5_addHall 26 = .ok (.iload_n 1, 1) := by decide +kernel
theorem dX5_addHall_27 : decode cX5_addHall 27 = .ok (.sipush 200, 3) := by decide +kernel
theorem dX5_addHall_30 : decode cX5_addHall 30 = .ok (.iastore, 1) := by decide +kernel
theorem dX5_addHall_31 : decode cX5_addHall 31 = .ok (.aload_n 0, 1) := by decide +kernel
theorem dX5_addHall_32 : decode cX5_addHall 32 = .ok (.iload_n 1, 1) := by decide +kernel
theorem dX5_addHall_33 : decode cX5_addHall 33 = .ok (.iconst (-1), 1) := by decide +kernel
theorem dX5_addHall_34 : decode cX5_addHall 34 = .ok (.iconst 0, 1) := by decide +kernel
theorem dX5_addHall_35 : decode cX5_addHall 35 = .ok (.invokevirtual 49, 3) := by decide +kernel
theorem dX5_addHall_38 : decode cX5_addHall 38 = .ok (.iload_n 1, 1) := by decide +kernel
theorem dX5_addHall_39 : decode cX5_addHall 39 = .ok (.ireturn, 1) := by decide +kernel
theorem dX5_laySheet_0 : decode cX5_laySheet 0 = .ok (.aload_n 0, 1) := by decide +kernel
theorem dX5_laySheet_1 : decode cX5_laySheet 1 = .ok (.getfield 27, 3) := by decide +kernel
theorem dX5_laySheet_4 : decode cX5_laySheet 4 = .ok (.iload_n 1, 1) := by decide +kernel
theorem dX5_laySheet_5 : decode cX5_laySheet 5 = .ok (.iload_n 2, 1) := by decide +kernel
theorem dX5_laySheet_6 : decode cX5_laySheet 6 = .ok (.iastore, 1) := by decide +kernel
theorem dX5_laySheet_7 : decode cX5_laySheet 7 = .ok (.aload_n 0, 1) := by decide +kernel
theorem dX5_laySheet_8 : decode cX5_laySheet 8 = .ok (.getfield 30, 3) := by decide +kernel
theorem dX5_laySheet_11 : decode cX5_laySheet 11 = .ok (.iload_n 1, 1) := by decide +kernel
theorem dX5_laySheet_12 : decode cX5_laySheet 12 = .ok (.iload_n 3, 1) := by decide +kernel
theorem dX5_laySheet_13 : decode cX5_laySheet 13 = .ok (.iastore, 1) := by decide +kernel
theorem dX5_laySheet_14 : decode cX5_laySheet 14 = .ok (.iconst 0, 1) := by decide +kernel
theorem dX5_laySheet_15 : decode cX5_laySheet 15 = .ok (.istore 4, 2) := by decide +kernel
theorem dX5_laySheet_17 : decode cX5_laySheet 17 = .ok (.iload 4, 2) := by decide +kernel
theorem dX5_laySheet_19 : decode cX5_laySheet 19 = .ok (.bipush 8, 2) := by decide +kernel
theorem dX5_laySheet_21 : decode cX5_laySheet 21 = .ok (.if_icmp .ge 33, 3) := by decide +kernel
theorem dX5_laySheet_24 : decode cX5_laySheet 24 = .ok (.aload_n 0, 1) := by decide +kernel
theorem dX5_laySheet_25 : decode cX5_laySheet 25 = .ok (.getfield 33, 3) := by decide +kernel
theorem dX5_laySheet_28 : decode cX5_laySheet 28 = .ok (.iload_n 1, 1) := by decide +kernel
theorem dX5_laySheet_29 : decode cX5_laySheet 29 = .ok (.bipush 8, 2) := by decide +kernel
theorem dX5_laySheet_31 : decode cX5_laySheet 31 = .ok (.imul, 1) := by decide +kernel
theorem dX5_laySheet_32 : decode cX5_laySheet 32 = .ok (.iload 4, 2) := by decide +kernel
theorem dX5_laySheet_34 : decode cX5_laySheet 34 = .ok (.iadd, 1) := by decide +kernel
theorem dX5_laySheet_35 : decode cX5_laySheet 35 = .ok (.iload 4, 2) := by decide +kernel
theorem dX5_laySheet_37 : decode cX5_laySheet 37 = .ok (.iload_n 3, 1) := by decide +kernel
theorem dX5_laySheet_38 : decode cX5_laySheet 38 = .ok (.if_icmp .ge 7, 3) := by decide +kernel
theorem dX5_laySheet_41 : decode cX5_laySheet 41 = .ok (.iconst 0, 1) := by decide +kernel
theorem dX5_laySheet_42 : decode cX5_laySheet 42 = .ok (.goto 5, 3) := by decide +kernel
theorem dX5_laySheet_45 : decode cX5_laySheet 45 = .ok (.ldc 53, 2) := by decide +kernel
theorem dX5_laySheet_47 : decode cX5_laySheet 47 = .ok (.iastore, 1) := by decide +kernel
theorem dX5_laySheet_48 : decode cX5_laySheet 48 = .ok (.iinc 4 1, 3) := by decide +kernel
theorem dX5_laySheet_51 : decode cX5_laySheet 51 = .ok (.goto (-34), 3) := by decide +kernel
theorem dX5_laySheet_54 : decode cX5_laySheet 54 = .ok (.return_, 1) := by decide +kernel
theorem dX5_hasTown_0 : decode cX5_hasTown 0 = .ok (.iload_n 1, 1) := by decide +kernel
theorem dX5_hasTown_1 : decode cX5_hasTown 1 = .ok (.ifCond .lt 15, 3) := by decide +kernel
theorem dX5_hasTown_4 : decode cX5_hasTown 4 = .ok (.iload_n 1, 1) := by decide +kernel
theorem dX5_hasTown_5 : decode cX5_hasTown 5 = .ok (.aload_n 0, 1) := by decide +kernel
theorem dX5_hasTown_6 : decode cX5_hasTown 6 = .ok (.getfield 36, 3) := by decide +kernel
theorem dX5_hasTown_9 : decode cX5_hasTown 9 = .ok (.if_icmp .ge 7, 3) := by decide +kernel
theorem dX5_hasTown_12 : decode cX5_hasTown 12 = .ok (.iconst 1, 1) := by decide +kernel
theorem dX5_hasTown_13 : decode cX5_hasTown 13 = .ok (.goto 4, 3) := by decide +kernel
theorem dX5_hasTown_16 : decode cX5_hasTown 16 = .ok (.iconst 0, 1) := by decide +kernel
theorem dX5_hasTown_17 : decode cX5_hasTown 17 = .ok (.ireturn, 1) := by decide +kernel
theorem dX5_hasHall_0 : decode cX5_hasHall 0 = .ok (.iload_n 1, 1) := by decide +kernel
theorem dX5_hasHall_1 : decode cX5_hasHall 1 = .ok (.ifCond .lt 15, 3) := by decide +kernel
theorem dX5_hasHall_4 : decode cX5_hasHall 4 = .ok (.iload_n 1, 1) := by decide +kernel
theorem dX5_hasHall_5 : decode cX5_hasHall 5 = .ok (.aload_n 0, 1) := by decide +kernel
theorem dX5_hasHall_6 : decode cX5_hasHall 6 = .ok (.getfield 40, 3) := by decide +kernel
theorem dX5_hasHall_9 : decode cX5_hasHall 9 = .ok (.if_icmp .ge 7, 3) := by decide +kernel
theorem dX5_hasHall_12 : decode cX5_hasHall 12 = .ok (.iconst 1, 1) := by decide +kernel
theorem dX5_hasHall_13 : decode cX5_hasHall 13 = .ok (.goto 4, 3) := by decide +kernel
theorem dX5_hasHall_16 : decode cX5_hasHall 16 = .ok (.iconst 0, 1) := by decide +kernel
theorem dX5_hasHall_17 : decode cX5_hasHall 17 = .ok (.ireturn, 1) := by decide +kernel
theorem dX5_isMissing_0 : decode cX5_isMissing 0 = .ok (.aload_n 0, 1) := by decide +kernel
theorem dX5_isMissing_1 : decode cX5_isMissing 1 = .ok (.getfield 27, 3) := by decide +kernel
theorem dX5_isMissing_4 : decode cX5_isMissing 4 = .ok (.iload_n 1, 1) := by decide +kernel
theorem dX5_isMissing_5 : decode cX5_isMissing 5 = .ok (.iaload, 1) := by decide +kernel
theorem dX5_isMissing_6 : decode cX5_isMissing 6 = .ok (.iconst (-1), 1) := by decide +kernel
theorem dX5_isMissing_7 : decode cX5_isMissing 7 = .ok (.if_icmp .ne 7, 3) := by decide +kernel
theorem dX5_isMissing_10 : decode cX5_isMissing 10 = .ok (.iconst 1, 1) := by decide +kernel
theorem dX5_isMissing_11 : decode cX5_isMissing 11 = .ok (.goto 4, 3) := by decide +kernel
theorem dX5_isMissing_14 : decode cX5_isMissing 14 = .ok (.iconst 0, 1) := by decide +kernel
theorem dX5_isMissing_15 : decode cX5_isMissing 15 = .ok (.ireturn, 1) := by decide +kernel
theorem dX5_hasPlaces_0 : decode cX5_hasPlaces 0 = .ok (.iload_n 2, 1) := by decide +kernel
theorem dX5_hasPlaces_1 : decode cX5_hasPlaces 1 = .ok (.ifCond .lt 23, 3) := by decide +kernel
theorem dX5_hasPlaces_4 : decode cX5_hasPlaces 4 = .ok (.iload_n 3, 1) := by decide +kernel
theorem dX5_hasPlaces_5 : decode cX5_hasPlaces 5 = .ok (.ifCond .lt 19, 3) := by decide +kernel
theorem dX5_hasPlaces_8 : decode cX5_hasPlaces 8 = .ok (.iload_n 3, 1) := by decide +kernel
theorem dX5_hasPlaces_9 : decode cX5_hasPlaces 9 = .ok (.aload_n 0, 1) := by decide +kernel
theorem dX5_hasPlaces_10 : decode cX5_hasPlaces 10 = .ok (.getfield 30, 3) := by decide +kernel
theorem dX5_hasPlaces_13 : decode cX5_hasPlaces 13 = .ok (.iload_n 1, 1) := by decide +kernel
theorem dX5_hasPlaces_14 : decode cX5_hasPlaces 14 = .ok (.iaload, 1) := by decide +kernel
theorem dX5_hasPlaces_15 : decode cX5_hasPlaces 15 = .ok (.iload_n 2, 1) := by decide +kernel
theorem dX5_hasPlaces_16 : decode cX5_hasPlaces 16 = .ok (.isub, 1) := by decide +kernel
theorem dX5_hasPlaces_17 : decode cX5_hasPlaces 17 = .ok (.if_icmp .gt 7, 3) := by decide +kernel
theorem dX5_hasPlaces_20 : decode cX5_hasPlaces 20 = .ok (.iconst 1, 1) := by decide +kernel
theorem dX5_hasPlaces_21 : decode cX5_hasPlaces 21 = .ok (.goto 4, 3) := by decide +kernel
theorem dX5_hasPlaces_24 : decode cX5_hasPlaces 24 = .ok (.iconst 0, 1) := by decide +kernel
theorem dX5_hasPlaces_25 : decode cX5_hasPlaces 25 = .ok (.ireturn, 1) := by decide +kernel
theorem dX5_everyTown_0 : decode cX5_everyTown 0 = .ok (.iconst 1, 1) := by decide +kernel
theorem dX5_everyTown_1 : decode cX5_everyTown 1 = .ok (.aload_n 0, 1) := by decide +kernel
theorem dX5_everyTown_2 : decode cX5_everyTown 2 = .ok (.getfield 36, 3) := by decide +kernel
theorem dX5_everyTown_5 : decode cX5_everyTown 5 = .ok (.ishl, 1) := by decide +kernel
theorem dX5_everyTown_6 : decode cX5_everyTown 6 = .ok (.iconst 1, 1) := by decide +kernel
theorem dX5_everyTown_7 : decode cX5_everyTown 7 = .ok (.isub, 1) := by decide +kernel
theorem dX5_everyTown_8 : decode cX5_everyTown 8 = .ok (.ireturn, 1) := by decide +kernel
theorem dX5_everyHall_0 : decode cX5_everyHall 0 = .ok (.iconst 1, 1) := by decide +kernel
theorem dX5_everyHall_1 : decode cX5_everyHall 1 = .ok (.aload_n 0, 1) := by decide +kernel
theorem dX5_everyHall_2 : decode cX5_everyHall 2 = .ok (.getfield 40, 3) := by decide +kernel
theorem dX5_everyHall_5 : decode cX5_everyHall 5 = .ok (.ishl, 1) := by decide +kernel
theorem dX5_everyHall_6 : decode cX5_everyHall 6 = .ok (.iconst 1, 1) := by decide +kernel
theorem dX5_everyHall_7 : decode cX5_everyHall 7 = .ok (.isub, 1) := by decide +kernel
theorem dX5_everyHall_8 : decode cX5_everyHall 8 = .ok (.ireturn, 1) := by decide +kernel
theorem dX5_wayOf_0 : decode cX5_wayOf 0 = .ok (.aload_n 0, 1) := by decide +kernel
theorem dX5_wayOf_1 : decode cX5_wayOf 1 = .ok (.getfield 33, 3) := by decide +kernel
theorem dX5_wayOf_4 : decode cX5_wayOf 4 = .ok (.iload_n 1, 1) := by decide +kernel
theorem dX5_wayOf_5 : decode cX5_wayOf 5 = .ok (.bipush 8, 2) := by decide +kernel
theorem dX5_wayOf_7 : decode cX5_wayOf 7 = .ok (.imul, 1) := by decide +kernel
theorem dX5_wayOf_8 : decode cX5_wayOf 8 = .ok (.iload_n 2, 1) := by decide +kernel
theorem dX5_wayOf_9 : decode cX5_wayOf 9 = .ok (.iadd, 1) := by decide +kernel
theorem dX5_wayOf_10 : decode cX5_wayOf 10 = .ok (.iaload, 1) := by decide +kernel
theorem dX5_wayOf_11 : decode cX5_wayOf 11 = .ok (.ireturn, 1) := by decide +kernel
theorem dX5_tripOf_0 : decode cX5_tripOf 0 = .ok (.aload_n 0, 1) := by decide +kernel
theorem dX5_tripOf_1 : decode cX5_tripOf 1 = .ok (.getfield 9, 3) := by decide +kernel
theorem dX5_tripOf_4 : decode cX5_tripOf 4 = .ok (.iload_n 2, 1) := by decide +kernel
theorem dX5_tripOf_5 : decode cX5_tripOf 5 = .ok (.iaload, 1) := by decide +kernel
theorem dX5_tripOf_6 : decode cX5_tripOf 6 = .ok (.aload_n 0, 1) := by decide +kernel
theorem dX5_tripOf_7 : decode cX5_tripOf 7 = .ok (.getfield 33, 3) := by decide +kernel
theorem dX5_tripOf_10 : decode cX5_tripOf 10 = .ok (.iload_n 1, 1) := by decide +kernel
theorem dX5_tripOf_11 : decode cX5_tripOf 11 = .ok (.bipush 8, 2) := by decide +kernel
theorem dX5_tripOf_13 : decode cX5_tripOf 13 = .ok (.imul, 1) := by decide +kernel
theorem dX5_tripOf_14 : decode cX5_tripOf 14 = .ok (.iload_n 2, 1) := by decide +kernel
theorem dX5_tripOf_15 : decode cX5_tripOf 15 = .ok (.iadd, 1) := by decide +kernel
theorem dX5_tripOf_16 : decode cX5_tripOf 16 = .ok (.iaload, 1) := by decide +kernel
theorem dX5_tripOf_17 : decode cX5_tripOf 17 = .ok (.imul, 1) := by decide +kernel
theorem dX5_tripOf_18 : decode cX5_tripOf 18 = .ok (.ireturn, 1) := by decide +kernel
theorem dX5_isIn_0 : decode cX5_isIn 0 = .ok (.iload_n 1, 1) := by decide +kernel
theorem dX5_isIn_1 : decode cX5_isIn 1 = .ok (.iload_n 0, 1) := by decide +kernel
theorem dX5_isIn_2 : decode cX5_isIn 2 = .ok (.ishr, 1) := by decide +kernel
theorem dX5_isIn_3 : decode cX5_isIn 3 = .ok (.iconst 1, 1) := by decide +kernel
theorem dX5_isIn_4 : decode cX5_isIn 4 = .ok (.iand, 1) := by decide +kernel
theorem dX5_isIn_5 : decode cX5_isIn 5 = .ok (.ifCond .eq 7, 3) := by decide +kernel
theorem dX5_isIn_8 : decode cX5_isIn 8 = .ok (.iconst 1, 1) := by decide +kernel
theorem dX5_isIn_9 : decode cX5_isIn 9 = .ok (.goto 4, 3) := by decide +kernel
theorem dX5_isIn_12 : decode cX5_isIn 12 = .ok (.iconst 0, 1) := by decide +kernel
theorem dX5_isIn_13 : decode cX5_isIn 13 = .ok (.ireturn, 1) := by decide +kernel
theorem dX5_allPeople_0 : decode cX5_allPeople 0 = .ok (.iconst 0, 1) := by decide +kernel
theorem dX5_allPeople_1 : decode cX5_allPeople 1 = .ok (.istore_n 1, 1) := by decide +kernel
theorem dX5_allPeople_2 : decode cX5_allPeople 2 = .ok (.iconst 0, 1) := by decide +kernel
theorem dX5_allPeople_3 : decode cX5_allPeople 3 = .ok (.istore_n 2, 1) := by decide +kernel
theorem dX5_allPeople_4 : decode cX5_allPeople 4 = .ok (.iload_n 2, 1) := by decide +kernel
theorem dX5_allPeople_5 : decode cX5_allPeople 5 = .ok (.aload_n 0, 1) := by decide +kernel
theorem dX5_allPeople_6 : decode cX5_allPeople 6 = .ok (.getfield 36, 3) := by decide +kernel
theorem dX5_allPeople_9 : decode cX5_allPeople 9 = .ok (.if_icmp .ge 18, 3) := by decide +kernel
theorem dX5_allPeople_12 : decode cX5_allPeople 12 = .ok (.iload_n 1, 1) := by decide +kernel
theorem dX5_allPeople_13 : decode cX5_allPeople 13 = .ok (.aload_n 0, 1) := by decide +kernel
theorem dX5_allPeople_14 : decode cX5_allPeople 14 = .ok (.getfield 9, 3) := by decide +kernel
theorem dX5_allPeople_17 : decode cX5_allPeople 17 = .ok (.iload_n 2, 1) := by decide +kernel
theorem dX5_allPeople_18 : decode cX5_allPeople 18 = .ok (.iaload, 1) := by decide +kernel
theorem dX5_allPeople_19 : decode cX5_allPeople 19 = .ok (.iadd, 1) := by decide +kernel
theorem dX5_allPeople_20 : decode cX5_allPeople 20 = .ok (.istore_n 1, 1) := by decide +kernel
theorem dX5_allPeople_21 : decode cX5_allPeople 21 = .ok (.iinc 2 1, 3) := by decide +kernel
theorem dX5_allPeople_24 : decode cX5_allPeople 24 = .ok (.goto (-20), 3) := by decide +kernel
theorem dX5_allPeople_27 : decode cX5_allPeople 27 = .ok (.iload_n 1, 1) := by decide +kernel
theorem dX5_allPeople_28 : decode cX5_allPeople 28 = .ok (.ireturn, 1) := by decide +kernel
set_option maxRecDepth 20000 in
theorem ggX5_sheets_X5_isMissing : GoodIn wsX5_sheets wsX5_isMissing := goodIn_r _ [6, 7, 8, 9, 10, 11, 12, 13, 14, 15, 16, 17] (by decide +kernel) (by decide +kernel)
set_option maxRecDepth 20000 in
theorem gX5_sheets_X5_isMissing : GoodIn wsX5_sheets (wsV RX5 54 RX5 yX5_isMissing wsX5_isMissing) := goodIn_app (goodIn_of _ (by decide +kernel)) ggX5_sheets_X5_isMissing
theorem dX5_sheets_0 : decode cX5_sheets 0 = .ok (.iconst 0, 1) := by decide +kernel
theorem dX5_sheets_1 : decode cX5_sheets 1 = .ok (.istore_n 1, 1) := by decide +kernel
theorem dX5_sheets_2 : decode cX5_sheets 2 = .ok (.iconst 0, 1) := by decide +kernel
theorem dX5_sheets_3 : decode cX5_sheets 3 = .ok (.istore_n 2, 1) := by decide +kernel
theorem dX5_sheets_4 : decode cX5_sheets 4 = .ok (.iload_n 2, 1) := by decide +kernel
theorem dX5_sheets_5 : decode cX5_sheets 5 = .ok (.aload_n 0, 1) := by decide +kernel
theorem dX5_sheets_6 : decode cX5_sheets 6 = .ok (.getfield 40, 3) := by decide +kernel
theorem dX5_sheets_9 : decode cX5_sheets 9 = .ok (.if_icmp .ge 25, 3) := by decide +kernel
theorem dX5_sheets_12 : decode cX5_sheets 12 = .ok (.iload_n 1, 1) := by decide +kernel
theorem dX5_sheets_13 : decode cX5_sheets 13 = .ok (.aload_n 0, 1) := by decide +kernel
theorem dX5_sheets_14 : decode cX5_sheets 14 = .ok (.iload_n 2, 1) := by decide +kernel
theorem dX5_sheets_15 : decode cX5_sheets 15 = .ok (.invokevirtual 54, 3) := by decide +kernel
theorem dX5_sheets_18 : decode cX5_sheets 18 = .ok (.ifCond .eq 7, 3) := by decide +kernel
theorem dX5_sheets_21 : decode cX5_sheets 21 = .ok (.iconst 0, 1) := by decide +kernel
theorem dX5_sheets_22 : decode cX5_sheets 22 = .ok (.goto 4, 3) := by decide +kernel
theorem dX5_sheets_25 : decode cX5_sheets 25 = .ok (.iconst 1, 1) := by decide +kernel
theorem dX5_sheets_26 : decode cX5_sheets 26 = .ok (.iadd, 1) := by decide +kernel
theorem dX5_sheets_27 : decode cX5_sheets 27 = .ok (.istore_n 1, 1) := by decide +kernel
theorem dX5_sheets_28 : decode cX5_sheets 28 = .ok (.iinc 2 1, 3) := by decide +kernel
theorem dX5_sheets_31 : decode cX5_sheets 31 = .ok (.goto (-27), 3) := by decide +kernel
theorem dX5_sheets_34 : decode cX5_sheets 34 = .ok (.iload_n 1, 1) := by decide +kernel
theorem dX5_sheets_35 : decode cX5_sheets 35 = .ok (.ireturn, 1) := by decide +kernel
theorem dX6_init_0 : decode cX6_init 0 = .ok (.aload_n 0, 1) := by decide +kernel
theorem dX6_init_1 : decode cX6_init 1 = .ok (.invokespecial 3, 3) := by decide +kernel
theorem dX6_init_4 : decode cX6_init 4 = .ok (.aload_n 0, 1) := by decide +kernel
theorem dX6_init_5 : decode cX6_init 5 = .ok (.sipush 1024, 3) := by decide +kernel
theorem dX6_init_8 : decode cX6_init 8 = .ok (.newarray .int, 2) := by decide +kernel
theorem dX6_init_10 : decode cX6_init 10 = .ok (.putfield 9, 3) := by decide +kernel
theorem dX6_init_13 : decode cX6_init 13 = .ok (.aload_n 0, 1) := by decide +kernel
theorem dX6_init_14 : decode cX6_init 14 = .ok (.sipush 128, 3) := by decide +kernel
theorem dX6_init_17 : decode cX6_init 17 = .ok (.newarray .int, 2) := by decide +kernel
theorem dX6_init_19 : decode cX6_init 19 = .ok (.putfield 15, 3) := by decide +kernel
theorem dX6_init_22 : decode cX6_init 22 = .ok (.aload_n 0, 1) := by decide +kernel
theorem dX6_init_23 : decode cX6_init 23 = .ok (.sipush 128, 3) := by decide +kernel
theorem dX6_init_26 : decode cX6_init 26 = .ok (.newarray .int, 2) := by decide +kernel
theorem dX6_init_28 : decode cX6_init 28 = .ok (.putfield 18, 3) := by decide +kernel
theorem dX6_init_31 : decode cX6_init 31 = .ok (.aload_n 0, 1) := by decide +kernel
theorem dX6_init_32 : decode cX6_init 32 = .ok (.iconst 1, 1) := by decide +kernel
theorem dX6_init_33 : decode cX6_init 33 = .ok (.putfield 21, 3) := by decide +kernel
theorem dX6_init_36 : decode cX6_init 36 = .ok (.aload_n 0, 1) := by decide +kernel
theorem dX6_init_37 : decode cX6_init 37 = .ok (.aload_n 1, 1) := by decide +kernel
theorem dX6_init_38 : decode cX6_init 38 = .ok (.putfield 25, 3) := by decide +kernel
theorem dX6_init_41 : decode cX6_init 41 = .ok (.return_, 1) := by decide +kernel
theorem dX6_forget_0 : decode cX6_forget 0 = .ok (.aload_n 0, 1) := by decide +kernel
theorem dX6_forget_1 : decode cX6_forget 1 = .ok (.iconst 1, 1) := by decide +kernel
theorem dX6_forget_2 : decode cX6_forget 2 = .ok (.putfield 21, 3) := by decide +kernel
theorem dX6_forget_5 : decode cX6_forget 5 = .ok (.return_, 1) := by decide +kernel
set_option maxRecDepth 20000 in
theorem ggX6_refresh_X6_addHallTo : GoodIn wsX6_refresh wsX6_addHallTo := goodIn_r _ [13, 5, 6, 2, 14, 15, 16, 17, 18, 4, 7, 19, 20, 21, 22, 23, 24, 25, 26, 27, 28, 29, 30, 31, 32, 33, 34, 35, 36, 37, 38, 39, 40] (by decide +kernel) (by decide +kernel)
set_option maxRecDepth 20000 in
theorem gX6_refresh_X6_addHallTo : GoodIn wsX6_refresh (wsV RX6 39 RX6 yX6_addHallTo wsX6_addHallTo) := goodIn_app (goodIn_of _ (by decide +kernel)) ggX6_refresh_X6_addHallTo
theorem dX6_refresh_0 : decode cX6_refresh 0 = .ok (.aload_n 0, 1) := by decide +kernel
theorem dX6_refresh_1 : decode cX6_refresh 1 = .ok (.getfield 21, 3) := by decide +kernel
theorem dX6_refresh_4 : decode cX6_refresh 4 = .ok (.ifCond .ne 4, 3) := by decide +kernel
theorem dX6_refresh_7 : decode cX6_refresh 7 = .ok (.return_, 1) := by decide +kernel
theorem dX6_refresh_8 : decode cX6_refresh 8 = .ok (.aload_n 0, 1) := by decide +kernel
theorem dX6_refresh_9 : decode cX6_refresh 9 = .ok (.iconst 0, 1) := by decide +kernel
theorem dX6_refresh_10 : decode cX6_refresh 10 = .ok (.putfield 21, 3) := by decide +kernel
theorem dX6_refresh_13 : decode cX6_refresh 13 = .ok (.iconst 0, 1) := by decide +kernel
theorem dX6_refresh_14 : decode cX6_refresh 14 = .ok (.istore_n 1, 1) := by decide +kernel
theorem dX6_refresh_15 : decode cX6_refresh 15 = .ok (.iload_n 1, 1) := by decide +kernel
theorem dX6_refresh_16 : decode cX6_refresh 16 = .ok (.bipush 8, 2) := by decide +kernel
theorem dX6_refresh_18 : decode cX6_refresh 18 = .ok (.if_icmp .ge 17, 3) := by decide +kernel
theorem dX6_refresh_21 : decode cX6_refresh 21 = .ok (.aload_n 0, 1) := by decide +kernel
theorem dX6_refresh_22 : decode cX6_refresh 22 = .ok (.getfield 9, 3) := by decide +kernel
theorem dX6_refresh_25 : decode cX6_refresh 25 = .ok (.iload_n 1, 1) := by decide +kernel
theorem dX6_refresh_26 : decode cX6_refresh 26 = .ok (.ldc 29, 2) := by decide +kernel
theorem dX6_refresh_28 : decode cX6_refresh 28 = .ok (.iastore, 1) := by decide +kernel
theorem dX6_refresh_29 : decode cX6_refresh 29 = .ok (.iinc 1 1, 3) := by decide +kernel
theorem dX6_refresh_32 : decode cX6_refresh 32 = .ok (.goto (-17), 3) := by decide +kernel
theorem dX6_refresh_35 : decode cX6_refresh 35 = .ok (.aload_n 0, 1) := by decide +kernel
theorem dX6_refresh_36 : decode cX6_refresh 36 = .ok (.getfield 15, 3) := by decide +kernel
theorem dX6_refresh_39 : decode cX6_refresh 39 = .ok (.iconst 0, 1) := by decide +kernel
theorem dX6_refresh_40 : decode cX6_refresh 40 = .ok (.aload_n 0, 1) := by decide +kernel
theorem dX6_refresh_41 : decode cX6_refresh 41 = .ok (.getfield 25, 3) := by decide +kernel
theorem dX6_refresh_44 : decode cX6_refresh 44 = .ok (.getfield 30, 3) := by decide +kernel
theorem dX6_refresh_47 : decode cX6_refresh 47 = .ok (.ifCond .ne 7, 3) := by decide +kernel
theorem dX6_refresh_50 : decode cX6_refresh 50 = .ok (.iconst 0, 1) := by decide +kernel
theorem dX6_refresh_51 : decode cX6_refresh 51 = .ok (.goto 4, 3) := by decide +kernel
theorem dX6_refresh_54 : decode cX6_refresh 54 = .ok (.iconst (-1), 1) := by decide +kernel
theorem dX6_refresh_55 : decode cX6_refresh 55 = .ok (.iastore, 1) := by decide +kernel
theorem dX6_refresh_56 : decode cX6_refresh 56 = .ok (.aload_n 0, 1) := by decide +kernel
theorem dX6_refresh_57 : decode cX6_refresh 57 = .ok (.getfield 18, 3) := by decide +kernel
theorem dX6_refresh_60 : decode cX6_refresh 60 = .ok (.iconst 0, 1) := by decide +kernel
theorem dX6_refresh_61 : decode cX6_refresh 61 = .ok (.iconst 0, 1) := by decide +kernel
theorem dX6_refresh_62 : decode cX6_refresh 62 = .ok (.iastore, 1) := by decide +kernel
theorem dX6_refresh_63 : decode cX6_refresh 63 = .ok (.iconst 0, 1) := by decide +kernel
theorem dX6_refresh_64 : decode cX6_refresh 64 = .ok (.istore_n 1, 1) := by decide +kernel
theorem dX6_refresh_65 : decode cX6_refresh 65 = .ok (.iload_n 1, 1) := by decide +kernel
theorem dX6_refresh_66 : decode cX6_refresh 66 = .ok (.aload_n 0, 1) := by decide +kernel
theorem dX6_refresh_67 : decode cX6_refresh 67 = .ok (.getfield 25, 3) := by decide +kernel
theorem dX6_refresh_70 : decode cX6_refresh 70 = .ok (.getfield 36, 3) := by decide +kernel
theorem dX6_refresh_73 : decode cX6_refresh 73 = .ok (.if_icmp .ge 30, 3) := by decide +kernel
theorem dX6_refresh_76 : decode cX6_refresh 76 = .ok (.iconst 0, 1) := by decide +kernel
theorem dX6_refresh_77 : decode cX6_refresh 77 = .ok (.istore_n 2, 1) := by decide +kernel
theorem dX6_refresh_78 : decode cX6_refresh 78 = .ok (.iload_n 2, 1) := by decide +kernel
theorem dX6_refresh_79 : decode cX6_refresh 79 = .ok (.iconst 1, 1) := by decide +kernel
theorem dX6_refresh_80 : decode cX6_refresh 80 = .ok (.iload_n 1, 1) := by decide +kernel
theorem dX6_refresh_81 : decode cX6_refresh 81 = .ok (.ishl, 1) := by decide +kernel
theorem dX6_refresh_82 : decode cX6_refresh 82 = .ok (.if_icmp .ge 15, 3) := by decide +kernel
theorem dX6_refresh_85 : decode cX6_refresh 85 = .ok (.aload_n 0, 1) := by decide +kernel
theorem dX6_refresh_86 : decode cX6_refresh 86 = .ok (.iload_n 2, 1) := by decide +kernel
theorem dX6_refresh_87 : decode cX6_refresh 87 = .ok (.iload_n 1, 1) := by decide +kernel
theorem dX6_refresh_88 : decode cX6_refresh 88 = .ok (.invokevirtual 39, 3) := by decide +kernel
theorem dX6_refresh_91 : decode cX6_refresh 91 = .ok (.iinc 2 1, 3) := by decide +kernel
theorem dX6_refresh_94 : decode cX6_refresh 94 = .ok (.goto (-16), 3) := by decide +kernel
theorem dX6_refresh_97 : decode cX6_refresh 97 = .ok (.iinc 1 1, 3) := by decide +kernel
theorem dX6_refresh_100 : decode cX6_refresh 100 = .ok (.goto (-35), 3) := by decide +kernel
theorem dX6_refresh_103 : decode cX6_refresh 103 = .ok (.return_, 1) := by decide +kernel
set_option maxRecDepth 20000 in
theorem ggX6_addHallTo_X5_wayOf : GoodIn wsX6_addHallTo wsX5_wayOf := goodIn_r _ [16, 17, 23, 24, 25, 26, 27, 28, 29, 30, 31, 32] (by decide +kernel) (by decide +kernel)
set_option maxRecDepth 20000 in
theorem gX6_addHallTo_X5_wayOf : GoodIn wsX6_addHallTo (wsV RX6 43 RX5 yX5_wayOf wsX5_wayOf) := goodIn_app (goodIn_of _ (by decide +kernel)) ggX6_addHallTo_X5_wayOf
theorem dX6_addHallTo_0 : decode cX6_addHallTo 0 = .ok (.iload_n 1, 1) := by decide +kernel
theorem dX6_addHallTo_1 : decode cX6_addHallTo 1 = .ok (.iconst 1, 1) := by decide +kernel
