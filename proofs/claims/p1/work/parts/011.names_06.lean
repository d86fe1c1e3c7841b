theorem dX9_about_122 : decode cX9_about 122 = .ok (.iload_n 2, 1) := by decide +kernel
theorem dX9_about_123 : decode cX9_about 123 = .ok (.iaload, 1) := by decide +kernel
theorem dX9_about_124 : decode cX9_about 124 = .ok (.goto 9, 3) := by decide +kernel
theorem dX9_about_127 : decode cX9_about 127 = .ok (.aload_n 0, 1) := by decide +kernel
theorem dX9_about_128 : decode cX9_about 128 = .ok (.getfield 28, 3) := by decide +kernel
theorem dX9_about_131 : decode cX9_about 131 = .ok (.iload_n 2, 1) := by decide +kernel
theorem dX9_about_132 : decode cX9_about 132 = .ok (.iaload, 1) := by decide +kernel
theorem dX9_about_133 : decode cX9_about 133 = .ok (.ireturn, 1) := by decide +kernel
theorem dX9_about_134 : decode cX9_about 134 = .ok (.bipush (-3), 2) := by decide +kernel
theorem dX9_about_136 : decode cX9_about 136 = .ok (.ireturn, 1) := by decide +kernel
theorem dX9_has_0 : decode cX9_has 0 = .ok (.iload_n 0, 1) := by decide +kernel
theorem dX9_has_1 : decode cX9_has 1 = .ok (.iload_n 1, 1) := by decide +kernel
theorem dX9_has_2 : decode cX9_has 2 = .ok (.ishr, 1) := by decide +kernel
theorem dX9_has_3 : decode cX9_has 3 = .ok (.iconst 1, 1) := by decide +kernel
theorem dX9_has_4 : decode cX9_has 4 = .ok (.iand, 1) := by decide +kernel
theorem dX9_has_5 : decode cX9_has 5 = .ok (.iconst 1, 1) := by decide +kernel
theorem dX9_has_6 : decode cX9_has 6 = .ok (.if_icmp .ne 7, 3) := by decide +kernel
theorem dX9_has_9 : decode cX9_has 9 = .ok (.iconst 1, 1) := by decide +kernel
theorem dX9_has_10 : decode cX9_has 10 = .ok (.goto 4, 3) := by decide +kernel
theorem dX9_has_13 : decode cX9_has 13 = .ok (.iconst 0, 1) := by decide +kernel
theorem dX9_has_14 : decode cX9_has 14 = .ok (.ireturn, 1) := by decide +kernel
theorem dX9_sizeOf_0 : decode cX9_sizeOf 0 = .ok (.iconst 0, 1) := by decide +kernel
theorem dX9_sizeOf_1 : decode cX9_sizeOf 1 = .ok (.istore_n 1, 1) := by decide +kernel
theorem dX9_sizeOf_2 : decode cX9_sizeOf 2 = .ok (.iconst 0, 1) := by decide +kernel
theorem dX9_sizeOf_3 : decode cX9_sizeOf 3 = .ok (.istore_n 2, 1) := by decide +kernel
theorem dX9_sizeOf_4 : decode cX9_sizeOf 4 = .ok (.iload_n 2, 1) := by decide +kernel
theorem dX9_sizeOf_5 : decode cX9_sizeOf 5 = .ok (.bipush 8, 2) := by decide +kernel
theorem dX9_sizeOf_7 : decode cX9_sizeOf 7 = .ok (.if_icmp .ge 17, 3) := by decide +kernel
theorem dX9_sizeOf_10 : decode cX9_sizeOf 10 = .ok (.iload_n 1, 1) := by decide +kernel
theorem dX9_sizeOf_11 : decode cX9_sizeOf 11 = .ok (.iload_n 0, 1) := by decide +kernel
theorem dX9_sizeOf_12 : decode cX9_sizeOf 12 = .ok (.iload_n 2, 1) := by decide +kernel
theorem dX9_sizeOf_13 : decode cX9_sizeOf 13 = .ok (.ishr, 1) := by decide +kernel
theorem dX9_sizeOf_14 : decode cX9_sizeOf 14 = .ok (.iconst 1, 1) := by decide +kernel
theorem dX9_sizeOf_15 : decode cX9_sizeOf 15 = .ok (.iand, 1) := by decide +kernel
theorem dX9_sizeOf_16 : decode cX9_sizeOf 16 = .ok (.iadd, 1) := by decide +kernel
theorem dX9_sizeOf_17 : decode cX9_sizeOf 17 = .ok (.istore_n 1, 1) := by decide +kernel
theorem dX9_sizeOf_18 : decode cX9_sizeOf 18 = .ok (.iinc 2 1, 3) := by decide +kernel
theorem dX9_sizeOf_21 : decode cX9_sizeOf 21 = .ok (.goto (-17), 3) := by decide +kernel
theorem dX9_sizeOf_24 : decode cX9_sizeOf 24 = .ok (.iload_n 1, 1) := by decide +kernel
theorem dX9_sizeOf_25 : decode cX9_sizeOf 25 = .ok (.ireturn, 1) := by decide +kernel
set_option maxRecDepth 20000 in
theorem ggX9_nearest_X9_has : GoodIn wsX9_nearest wsX9_has := goodIn_r _ [5] (by decide +kernel) (by decide +kernel)
set_option maxRecDepth 20000 in
theorem gX9_nearest_X9_has : GoodIn wsX9_nearest (va_wsS RX9 111 yX9_has wsX9_has) := goodIn_app (goodIn_of _ (by decide +kernel)) ggX9_nearest_X9_has
set_option maxRecDepth 20000 in
theorem ggX9_nearest_X9_wayOf : GoodIn wsX9_nearest wsX9_wayOf := goodIn_r _ [9, 10, 11, 12, 13, 14, 15, 16, 17, 18, 19, 20, 21, 22, 23, 24, 25, 26, 27, 28, 29, 30, 31, 32, 33, 34, 35, 36, 37, 38, 39, 40, 41] (by decide +kernel) (by decide +kernel)
set_option maxRecDepth 20000 in
theorem gX9_nearest_X9_wayOf : GoodIn wsX9_nearest (wsV RX9 107 RX9 yX9_wayOf wsX9_wayOf) := goodIn_app (goodIn_of _ (by decide +kernel)) ggX9_nearest_X9_wayOf
theorem dX9_nearest_0 : decode cX9_nearest 0 = .ok (.iconst (-1), 1) := by decide +kernel
theorem dX9_nearest_1 : decode cX9_nearest 1 = .ok (.istore_n 3, 1) := by decide +kernel
theorem dX9_nearest_2 : decode cX9_nearest 2 = .ok (.iconst 0, 1) := by decide +kernel
theorem dX9_nearest_3 : decode cX9_nearest 3 = .ok (.istore 4, 2) := by decide +kernel
theorem dX9_nearest_5 : decode cX9_nearest 5 = .ok (.iload 4, 2) := by decide +kernel
theorem dX9_nearest_7 : decode cX9_nearest 7 = .ok (.aload_n 0, 1) := by decide +kernel
theorem dX9_nearest_8 : decode cX9_nearest 8 = .ok (.getfield 71, 3) := by decide +kernel
theorem dX9_nearest_11 : decode cX9_nearest 11 = .ok (.if_icmp .ge 42, 3) := by decide +kernel
theorem dX9_nearest_14 : decode cX9_nearest 14 = .ok (.iload_n 1, 1) := by decide +kernel
theorem dX9_nearest_15 : decode cX9_nearest 15 = .ok (.iload 4, 2) := by decide +kernel
theorem dX9_nearest_17 : decode cX9_nearest 17 = .ok (.invokestatic 111, 3) := by decide +kernel
theorem dX9_nearest_20 : decode cX9_nearest 20 = .ok (.ifCond .eq 27, 3) := by decide +kernel
theorem dX9_nearest_23 : decode cX9_nearest 23 = .ok (.iload_n 3, 1) := by decide +kernel
theorem dX9_nearest_24 : decode cX9_nearest 24 = .ok (.iconst (-1), 1) := by decide +kernel
theorem dX9_nearest_25 : decode cX9_nearest 25 = .ok (.if_icmp .eq 19, 3) := by decide +kernel
theorem dX9_nearest_28 : decode cX9_nearest 28 = .ok (.aload_n 0, 1) := by decide +kernel
theorem dX9_nearest_29 : decode cX9_nearest 29 = .ok (.iload 4, 2) := by decide +kernel
theorem dX9_nearest_31 : decode cX9_nearest 31 = .ok (.iload_n 2, 1) := by decide +kernel
theorem dX9_nearest_32 : decode cX9_nearest 32 = .ok (.invokevirtual 107, 3) := by decide +kernel
theorem dX9_nearest_35 : decode cX9_nearest 35 = .ok (.aload_n 0, 1) := by decide +kernel
theorem dX9_nearest_36 : decode cX9_nearest 36 = .ok (.iload_n 3, 1) := by decide +kernel
theorem dX9_nearest_37 : decode cX9_nearest 37 = .ok (.iload_n 2, 1) := by decide +kernel
theorem dX9_nearest_38 : decode cX9_nearest 38 = .ok (.invokevirtual 107, 3) := by decide +kernel
theorem dX9_nearest_41 : decode cX9_nearest 41 = .ok (.if_icmp .ge 6, 3) := by decide +kernel
theorem dX9_nearest_44 : decode cX9_nearest 44 = .ok (.iload 4, 2) := by decide +kernel
theorem dX9_nearest_46 : decode cX9_nearest 46 = .ok (.istore_n 3, 1) := by decide +kernel
theorem dX9_nearest_47 : decode cX9_nearest 47 = .ok (.iinc 4 1, 3) := by decide +kernel
theorem dX9_nearest_50 : decode cX9_nearest 50 = .ok (.goto (-45), 3) := by decide +kernel
theorem dX9_nearest_53 : decode cX9_nearest 53 = .ok (.iload_n 3, 1) := by decide +kernel
theorem dX9_nearest_54 : decode cX9_nearest 54 = .ok (.ireturn, 1) := by decide +kernel
set_option maxRecDepth 20000 in
theorem ggX9_sumOf_X9_has : GoodIn wsX9_sumOf wsX9_has := goodIn_r _ [6] (by decide +kernel) (by decide +kernel)
set_option maxRecDepth 20000 in
theorem gX9_sumOf_X9_has : GoodIn wsX9_sumOf (va_wsS RX9 111 yX9_has wsX9_has) := goodIn_app (goodIn_of _ (by decide +kernel)) ggX9_sumOf_X9_has
set_option maxRecDepth 20000 in
theorem ggX9_sumOf_X9_nearest : GoodIn wsX9_sumOf wsX9_nearest := goodIn_r _ [10, 11, 3, 4, 5, 6, 12, 13, 14, 15, 16, 17, 18, 19, 20, 21, 22, 23, 24, 25, 26, 27, 28, 29, 30, 31, 32, 33, 34, 35, 36, 37, 38, 39, 40, 41, 42, 43, 44, 45, 46, 47] (by decide +kernel) (by decide +kernel)
set_option maxRecDepth 20000 in
theorem gX9_sumOf_X9_nearest : GoodIn wsX9_sumOf (wsV RX9 115 RX9 yX9_nearest wsX9_nearest) := goodIn_app (goodIn_of _ (by decide +kernel)) ggX9_sumOf_X9_nearest
set_option maxRecDepth 20000 in
theorem ggX9_sumOf_X9_wayOf : GoodIn wsX9_sumOf wsX9_wayOf := goodIn_r _ [15, 16, 17, 18, 19, 20, 21, 22, 23, 24, 25, 26, 27, 28, 29, 30, 31, 32, 33, 34, 35, 36, 37, 38, 39, 40, 41, 42, 43, 44, 45, 46, 47] (by decide +kernel) (by decide +kernel)
set_option maxRecDepth 20000 in
theorem gX9_sumOf_X9_wayOf : GoodIn wsX9_sumOf (wsV RX9 107 RX9 yX9_wayOf wsX9_wayOf) := goodIn_app (goodIn_of _ (by decide +kernel)) ggX9_sumOf_X9_wayOf
theorem dX9_sumOf_0 : decode cX9_sumOf 0 = .ok (.iconst 0, 1) := by decide +kernel
theorem dX9_sumOf_1 : decode cX9_sumOf 1 = .ok (.istore_n 3, 1) := by decide +kernel
theorem dX9_sumOf_2 : decode cX9_sumOf 2 = .ok (.iconst 0, 1) := by decide +kernel
theorem dX9_sumOf_3 : decode cX9_sumOf 3 = .ok (.istore 4, 2) := by decide +kernel
theorem dX9_sumOf_5 : decode cX9_sumOf 5 = .ok (.iload 4, 2) := by decide +kernel
theorem dX9_sumOf_7 : decode cX9_sumOf 7 = .ok (.aload_n 0, 1) := by decide +kernel
theorem dX9_sumOf_8 : decode cX9_sumOf 8 = .ok (.getfield 68, 3) := by decide +kernel
theorem dX9_sumOf_11 : decode cX9_sumOf 11 = .ok (.if_icmp .ge 46, 3) := by decide +kernel
theorem dX9_sumOf_14 : decode cX9_sumOf 14 = .ok (.iload_n 3, 1) := by decide +kernel
theorem dX9_sumOf_15 : decode cX9_sumOf 15 = .ok (.iload_n 2, 1) := by decide +kernel
theorem dX9_sumOf_16 : decode cX9_sumOf 16 = .ok (.iload 4, 2) := by decide +kernel
theorem dX9_sumOf_18 : decode cX9_sumOf 18 = .ok (.invokestatic 111, 3) := by decide +kernel
theorem dX9_sumOf_21 : decode cX9_sumOf 21 = .ok (.ifCond .eq 27, 3) := by decide +kernel
theorem dX9_sumOf_24 : decode cX9_sumOf 24 = .ok (.aload_n 0, 1) := by decide +kernel
theorem dX9_sumOf_25 : decode cX9_sumOf 25 = .ok (.getfield 7, 3) := by decide +kernel
theorem dX9_sumOf_28 : decode cX9_sumOf 28 = .ok (.iload 4, 2) := by decide +kernel
theorem dX9_sumOf_30 : decode cX9_sumOf 30 = .ok (.iaload, 1) := by decide +kernel
theorem dX9_sumOf_31 : decode cX9_sumOf 31 = .ok (.aload_n 0, 1) := by decide +kernel
theorem dX9_sumOf_32 : decode cX9_sumOf 32 = .ok (.aload_n 0, 1) := by decide +kernel
theorem dX9_sumOf_33 : decode cX9_sumOf 33 = .ok (.iload_n 1, 1) := by decide +kernel
theorem dX9_sumOf_34 : decode cX9_sumOf 34 = .ok (.iload 4, 2) := by decide +kernel
theorem dX9_sumOf_36 : decode cX9_sumOf 36 = .ok (.invokevirtual 115, 3) := by decide +kernel
theorem dX9_sumOf_39 : decode cX9_sumOf 39 = .ok (.iload 4, 2) := by decide +kernel
theorem dX9_sumOf_41 : decode cX9_sumOf 41 = .ok (.invokevirtual 107, 3) := by decide +kernel
theorem dX9_sumOf_44 : decode cX9_sumOf 44 = .ok (.imul, 1) := by decide +kernel
theorem dX9_sumOf_45 : decode cX9_sumOf 45 = .ok (.goto 4, 3) := by decide +kernel
theorem dX9_sumOf_48 : decode cX9_sumOf 48 = .ok (.iconst 0, 1) := by decide +kernel
theorem dX9_sumOf_49 : decode cX9_sumOf 49 = .ok (.iadd, 1) := by decide +kernel
theorem dX9_sumOf_50 : decode cX9_sumOf 50 = .ok (.istore_n 3, 1) := by decide +kernel
theorem dX9_sumOf_51 : decode cX9_sumOf 51 = .ok (.iinc 4 1, 3) := by decide +kernel
theorem dX9_sumOf_54 : decode cX9_sumOf 54 = .ok (.goto (-49), 3) := by decide +kernel
theorem dX9_sumOf_57 : decode cX9_sumOf 57 = .ok (.iload_n 3, 1) := by decide +kernel
theorem dX9_sumOf_58 : decode cX9_sumOf 58 = .ok (.ireturn, 1) := by decide +kernel
set_option maxRecDepth 20000 in
theorem ggX9_pricesOf_X9_has : GoodIn wsX9_pricesOf wsX9_has := goodIn_r _ [6] (by decide +kernel) (by decide +kernel)
set_option maxRecDepth 20000 in
theorem gX9_pricesOf_X9_has : GoodIn wsX9_pricesOf (va_wsS RX9 111 yX9_has wsX9_has) := goodIn_app (goodIn_of _ (by decide +kernel)) ggX9_pricesOf_X9_has
theorem dX9_pricesOf_0 : decode cX9_pricesOf 0 = .ok (.iconst 0, 1) := by decide +kernel
theorem dX9_pricesOf_1 : decode cX9_pricesOf 1 = .ok (.istore_n 2, 1) := by decide +kernel
theorem dX9_pricesOf_2 : decode cX9_pricesOf 2 = .ok (.iconst 0, 1) := by decide +kernel
theorem dX9_pricesOf_3 : decode cX9_pricesOf 3 = .ok (.istore_n 3, 1) := by decide +kernel
theorem dX9_pricesOf_4 : decode cX9_pricesOf 4 = .ok (.iload_n 3, 1) := by decide +kernel
theorem dX9_pricesOf_5 : decode cX9_pricesOf 5 = .ok (.aload_n 0, 1) := by decide +kernel
theorem dX9_pricesOf_6 : decode cX9_pricesOf 6 = .ok (.getfield 71, 3) := by decide +kernel
theorem dX9_pricesOf_9 : decode cX9_pricesOf 9 = .ok (.if_icmp .ge 30, 3) := by decide +kernel
theorem dX9_pricesOf_12 : decode cX9_pricesOf 12 = .ok (.iload_n 2, 1) := by decide +kernel
theorem dX9_pricesOf_13 : decode cX9_pricesOf 13 = .ok (.iload_n 1, 1) := by decide +kernel
theorem dX9_pricesOf_14 : decode cX9_pricesOf 14 = .ok (.iload_n 3, 1) := by decide +kernel
theorem dX9_pricesOf_15 : decode cX9_pricesOf 15 = .ok (.invokestatic 111, 3) := by decide +kernel
theorem dX9_pricesOf_18 : decode cX9_pricesOf 18 = .ok (.ifCond .eq 12, 3) := by decide +kernel
theorem dX9_pricesOf_21 : decode cX9_pricesOf 21 = .ok (.aload_n 0, 1) := by decide +kernel
theorem dX9_pricesOf_22 : decode cX9_pricesOf 22 = .ok (.getfield 19, 3) := by decide +kernel
theorem dX9_pricesOf_25 : decode cX9_pricesOf 25 = .ok (.iload_n 3, 1) := by decide +kernel
theorem dX9_pricesOf_26 : decode cX9_pricesOf 26 = .ok (.iaload, 1) := by decide +kernel
theorem dX9_pricesOf_27 : decode cX9_pricesOf 27 = .ok (.goto 4, 3) := by decide +kernel
theorem dX9_pricesOf_30 : decode cX9_pricesOf 30 = .ok (.iconst 0, 1) := by decide +kernel
theorem dX9_pricesOf_31 : decode cX9_pricesOf 31 = .ok (.iadd, 1) := by decide +kernel
theorem dX9_pricesOf_32 : decode cX9_pricesOf 32 = .ok (.istore_n 2, 1) := by decide +kernel
theorem dX9_pricesOf_33 : decode cX9_pricesOf 33 = .ok (.iinc 3 1, 3) := by decide +kernel
theorem dX9_pricesOf_36 : decode cX9_pricesOf 36 = .ok (.goto (-32), 3) := by decide +kernel
theorem dX9_pricesOf_39 : decode cX9_pricesOf 39 = .ok (.iload_n 2, 1) := by decide +kernel
theorem dX9_pricesOf_40 : decode cX9_pricesOf 40 = .ok (.ireturn, 1) := by decide +kernel
set_option maxRecDepth 20000 in
theorem ggX9_roomedOf_X9_allTowns : GoodIn wsX9_roomedOf wsX9_allTowns := goodIn_r _ [12, 4, 24, 25, 26, 27, 28, 29, 30, 31, 32, 33, 34, 35, 36, 37, 38, 39, 40, 41, 42, 43, 44, 45, 46, 47, 48, 49, 50, 51] (by decide +kernel) (by decide +kernel)
set_option maxRecDepth 20000 in
theorem gX9_roomedOf_X9_allTowns : GoodIn wsX9_roomedOf (wsV RX9 118 RX9 yX9_allTowns wsX9_allTowns) := goodIn_app (goodIn_of _ (by decide +kernel)) ggX9_roomedOf_X9_allTowns
set_option maxRecDepth 20000 in
theorem ggX9_roomedOf_X9_has : GoodIn wsX9_roomedOf wsX9_has := goodIn_r _ [15] (by decide +kernel) (by decide +kernel)
set_option maxRecDepth 20000 in
theorem gX9_roomedOf_X9_has : GoodIn wsX9_roomedOf (va_wsS RX9 111 yX9_has wsX9_has) := goodIn_app (goodIn_of _ (by decide +kernel)) ggX9_roomedOf_X9_has
set_option maxRecDepth 20000 in
theorem ggX9_roomedOf_X9_wayOf : GoodIn wsX9_roomedOf wsX9_wayOf := goodIn_r _ [19, 20, 21, 22, 23, 24, 25, 26, 27, 28, 29, 30, 31, 32, 33, 34, 35, 36, 37, 38, 39, 40, 41, 42, 43, 44, 45, 46, 47, 48, 49, 50, 51] (by decide +kernel) (by decide +kernel)
set_option maxRecDepth 20000 in
theorem gX9_roomedOf_X9_wayOf : GoodIn wsX9_roomedOf (wsV RX9 107 RX9 yX9_wayOf wsX9_wayOf) := goodIn_app (goodIn_of _ (by decide +kernel)) ggX9_roomedOf_X9_wayOf
theorem dX9_roomedOf_0 : decode cX9_roomedOf 0 = .ok (.aload_n 0, 1) := by decide +kernel
theorem dX9_roomedOf_1 : decode cX9_roomedOf 1 = .ok (.invokevirtual 118, 3) := by decide +kernel
theorem dX9_roomedOf_4 : decode cX9_roomedOf 4 = .ok (.istore_n 2, 1) := by decide +kernel
theorem dX9_roomedOf_5 : decode cX9_roomedOf 5 = .ok (.iconst 0, 1) := by decide +kernel
theorem dX9_roomedOf_6 : decode cX9_roomedOf 6 = .ok (.istore_n 3, 1) := by decide +kernel
theorem dX9_roomedOf_7 : decode cX9_roomedOf 7 = .ok (.iload_n 3, 1) := by decide +kernel
theorem dX9_roomedOf_8 : decode cX9_roomedOf 8 = .ok (.iload_n 2, 1) := by decide +kernel
theorem dX9_roomedOf_9 : decode cX9_roomedOf 9 = .ok (.if_icmp .gt 25, 3) := by decide +kernel
theorem dX9_roomedOf_12 : decode cX9_roomedOf 12 = .ok (.aload_n 0, 1) := by decide +kernel
theorem dX9_roomedOf_13 : decode cX9_roomedOf 13 = .ok (.getfield 40, 3) := by decide +kernel
theorem dX9_roomedOf_16 : decode cX9_roomedOf 16 = .ok (.iload_n 3, 1) := by decide +kernel
theorem dX9_roomedOf_17 : decode cX9_roomedOf 17 = .ok (.iload_n 3, 1) := by decide +kernel
theorem dX9_roomedOf_18 : decode cX9_roomedOf 18 = .ok (.ifCond .ne 7, 3) := by decide +kernel
theorem dX9_roomedOf_21 : decode cX9_roomedOf 21 = .ok (.iconst 0, 1) := by decide +kernel
theorem dX9_roomedOf_22 : decode cX9_roomedOf 22 = .ok (.goto 5, 3) := by decide +kernel
theorem dX9_roomedOf_25 : decode cX9_roomedOf 25 = .ok (.ldc 121, 2) := by decide +kernel
theorem dX9_roomedOf_27 : decode cX9_roomedOf 27 = .ok (.iastore, 1) := by decide +kernel
theorem dX9_roomedOf_28 : decode cX9_roomedOf 28 = .ok (.iinc 3 1, 3) := by decide +kernel
theorem dX9_roomedOf_31 : decode cX9_roomedOf 31 = .ok (.goto (-24), 3) := by decide +kernel
theorem dX9_roomedOf_34 : decode cX9_roomedOf 34 = .ok (.iconst 0, 1) := by decide +kernel
theorem dX9_roomedOf_35 : decode cX9_roomedOf 35 = .ok (.istore_n 3, 1) := by decide +kernel
theorem dX9_roomedOf_36 : decode cX9_roomedOf 36 = .ok (.iload_n 3, 1) := by decide +kernel
theorem dX9_roomedOf_37 : decode cX9_roomedOf 37 = .ok (.aload_n 0, 1) := by decide +kernel
theorem dX9_roomedOf_38 : decode cX9_roomedOf 38 = .ok (.getfield 71, 3) := by decide +kernel
theorem dX9_roomedOf_41 : decode cX9_roomedOf 41 = .ok (.if_icmp .ge 258, 3) := by decide +kernel
theorem dX9_roomedOf_44 : decode cX9_roomedOf 44 = .ok (.iload_n 1, 1) := by decide +kernel
theorem dX9_roomedOf_45 : decode cX9_roomedOf 45 = .ok (.iload_n 3, 1) := by decide +kernel
theorem dX9_roomedOf_46 : decode cX9_roomedOf 46 = .ok (.invokestatic 111, 3) := by decide +kernel
theorem dX9_roomedOf_49 : decode cX9_roomedOf 49 = .ok (.ifCond .eq 244, 3) := by decide +kernel
theorem dX9_roomedOf_52 : decode cX9_roomedOf 52 = .ok (.iconst 0, 1) := by decide +kernel
theorem dX9_roomedOf_53 : decode cX9_roomedOf 53 = .ok (.istore 4, 2) := by decide +kernel
theorem dX9_roomedOf_55 : decode cX9_roomedOf 55 = .ok (.iload 4, 2) := by decide +kernel
theorem dX9_roomedOf_57 : decode cX9_roomedOf 57 = .ok (.iload_n 2, 1) := by decide +kernel
theorem dX9_roomedOf_58 : decode cX9_roomedOf 58 = .ok (.if_icmp .gt 118, 3) := by decide +kernel
theorem dX9_roomedOf_61 : decode cX9_roomedOf 61 = .ok (.iconst 0, 1) := by decide +kernel
theorem dX9_roomedOf_62 : decode cX9_roomedOf 62 = .ok (.istore 5, 2) := by decide +kernel
theorem dX9_roomedOf_64 : decode cX9_roomedOf 64 = .ok (.iconst 0, 1) := by decide +kernel
theorem dX9_roomedOf_65 : decode cX9_roomedOf 65 = .ok (.istore 6, 2) := by decide +kernel
theorem dX9_roomedOf_67 : decode cX9_roomedOf 67 = .ok (.iconst 0, 1) := by decide +kernel
theorem dX9_roomedOf_68 : decode cX9_roomedOf 68 = .ok (.istore 7, 2) := by decide +kernel
theorem dX9_roomedOf_70 : decode cX9_roomedOf 70 = .ok (.iload 7, 2) := by decide +kernel
theorem dX9_roomedOf_72 : decode cX9_roomedOf 72 = .ok (.aload_n 0, 1) := by decide +kernel
theorem dX9_roomedOf_73 : decode cX9_roomedOf 73 = .ok (.getfield 68, 3) := by decide +kernel
theorem dX9_roomedOf_76 : decode cX9_roomedOf 76 = .ok (.if_icmp .ge 69, 3) := by decide +kernel
theorem dX9_roomedOf_79 : decode cX9_roomedOf 79 = .ok (.iload 5, 2) := by decide +kernel
theorem dX9_roomedOf_81 : decode cX9_roomedOf 81 = .ok (.iload 4, 2) := by decide +kernel
theorem dX9_roomedOf_83 : decode cX9_roomedOf 83 = .ok (.iload 7, 2) := by decide +kernel
theorem dX9_roomedOf_85 : decode cX9_roomedOf 85 = .ok (.invokestatic 111, 3) := by decide +kernel
theorem dX9_roomedOf_88 : decode cX9_roomedOf 88 = .ok (.ifCond .eq 13, 3) := by decide +kernel
theorem dX9_roomedOf_91 : decode cX9_roomedOf 91 = .ok (.aload_n 0, 1) := by decide +kernel
theorem dX9_roomedOf_92 : decode cX9_roomedOf 92 = .ok (.getfield 7, 3) := by decide +kernel
theorem dX9_roomedOf_95 : decode cX9_roomedOf 95 = .ok (.iload 7, 2) := by decide +kernel
theorem dX9_roomedOf_97 : decode cX9_roomedOf 97 = .ok (.iaload, 1) := by decide +kernel
theorem dX9_roomedOf_98 : decode cX9_roomedOf 98 = .ok (.goto 4, 3) := by decide +kernel
theorem dX9_roomedOf_101 : decode cX9_roomedOf 101 = .ok (.iconst 0, 1) := by decide +kernel
theorem dX9_roomedOf_102 : decode cX9_roomedOf 102 = .ok (.iadd, 1) := by decide +kernel
theorem dX9_roomedOf_103 : decode cX9_roomedOf 103 = .ok (.istore 5, 2) := by decide +kernel
theorem dX9_roomedOf_105 : decode cX9_roomedOf 105 = .ok (.iload 6, 2) := by decide +kernel
theorem dX9_roomedOf_107 : decode cX9_roomedOf 107 = .ok (.iload 4, 2) := by decide +kernel
theorem dX9_roomedOf_109 : decode cX9_roomedOf 109 = .ok (.iload 7, 2) := by decide +kernel
theorem dX9_roomedOf_111 : decode cX9_roomedOf 111 = .ok (.invokestatic 111, 3) := by decide +kernel
theorem dX9_roomedOf_114 : decode cX9_roomedOf 114 = .ok (.ifCond .eq 21, 3) := by decide +kernel
theorem dX9_roomedOf_117 : decode cX9_roomedOf 117 = .ok (.aload_n 0, 1) := by decide +kernel
theorem dX9_roomedOf_118 : decode cX9_roomedOf 118 = .ok (.getfield 7, 3) := by decide +kernel
theorem dX9_roomedOf_121 : decode cX9_roomedOf 121 = .ok (.iload 7, 2) := by decide +kernel
theorem dX9_roomedOf_123 : decode cX9_roomedOf 123 = .ok (.iaload, 1) := by decide +kernel
theorem dX9_roomedOf_124 : decode cX9_roomedOf 124 = .ok (.aload_n 0, 1) := by decide +kernel
theorem dX9_roomedOf_125 : decode cX9_roomedOf 125 = .ok (.iload_n 3, 1) := by decide +kernel
theorem dX9_roomedOf_126 : decode cX9_roomedOf 126 = .ok (.iload 7, 2) := by decide +kernel
theorem dX9_roomedOf_128 : decode cX9_roomedOf 128 = .ok (.invokevirtual 107, 3) := by decide +kernel
theorem dX9_roomedOf_131 : decode cX9_roomedOf 131 = .ok (.imul, 1) := by decide +kernel
theorem dX9_roomedOf_132 : decode cX9_roomedOf 132 = .ok (.goto 4, 3) := by decide +kernel
theorem dX9_roomedOf_135 : decode cX9_roomedOf 135 = .ok (.iconst 0, 1) := by decide +kernel
theorem dX9_roomedOf_136 : decode cX9_roomedOf 136 = .ok (.iadd, 1) := by decide +kernel
theorem dX9_roomedOf_137 : decode cX9_roomedOf 137 = .ok (.istore 6, 2) := by decide +kernel
theorem dX9_roomedOf_139 : decode cX9_roomedOf 139 = .ok (.iinc 7 1, 3) := by decide +kernel
theorem dX9_roomedOf_142 : decode cX9_roomedOf 142 = .ok (.goto (-72), 3) := by decide +kernel
theorem dX9_roomedOf_145 : decode cX9_roomedOf 145 = .ok (.aload_n 0, 1) := by decide +kernel
theorem dX9_roomedOf_146 : decode cX9_roomedOf 146 = .ok (.getfield 43, 3) := by decide +kernel
theorem dX9_roomedOf_149 : decode cX9_roomedOf 149 = .ok (.iload 4, 2) := by decide +kernel
theorem dX9_roomedOf_151 : decode cX9_roomedOf 151 = .ok (.iload 5, 2) := by decide +kernel
theorem dX9_roomedOf_153 : decode cX9_roomedOf 153 = .ok (.aload_n 0, 1) := by decide +kernel
theorem dX9_roomedOf_154 : decode cX9_roomedOf 154 = .ok (.getfield 22, 3) := by decide +kernel
theorem dX9_roomedOf_157 : decode cX9_roomedOf 157 = .ok (.iload_n 3, 1) := by decide +kernel
theorem dX9_roomedOf_158 : decode cX9_roomedOf 158 = .ok (.iaload, 1) := by decide +kernel
theorem dX9_roomedOf_159 : decode cX9_roomedOf 159 = .ok (.if_icmp .gt 8, 3) := by decide +kernel
theorem dX9_roomedOf_162 : decode cX9_roomedOf 162 = .ok (.iload 6, 2) := by decide +kernel
theorem dX9_roomedOf_164 : decode cX9_roomedOf 164 = .ok (.goto 5, 3) := by decide +kernel
theorem dX9_roomedOf_167 : decode cX9_roomedOf 167 = .ok (.ldc 121, 2) := by decide +kernel
theorem dX9_roomedOf_169 : decode cX9_roomedOf 169 = .ok (.iastore, 1) := by decide +kernel
theorem dX9_roomedOf_170 : decode cX9_roomedOf 170 = .ok (.iinc 4 1, 3) := by decide +kernel
theorem dX9_roomedOf_173 : decode cX9_roomedOf 173 = .ok (.goto (-118), 3) := by decide +kernel
theorem dX9_roomedOf_176 : decode cX9_roomedOf 176 = .ok (.iload_n 2, 1) := by decide +kernel
theorem dX9_roomedOf_177 : decode cX9_roomedOf 177 = .ok (.istore 4, 2) := by decide +kernel
theorem dX9_roomedOf_179 : decode cX9_roomedOf 179 = .ok (.iload 4, 2) := by decide +kernel
theorem dX9_roomedOf_181 : decode cX9_roomedOf 181 = .ok (.ifCond .le 112, 3) := by decide +kernel
theorem dX9_roomedOf_184 : decode cX9_roomedOf 184 = .ok (.iload 4, 2) := by decide +kernel
theorem dX9_roomedOf_186 : decode cX9_roomedOf 186 = .ok (.istore 5, 2) := by decide +kernel
theorem dX9_roomedOf_188 : decode cX9_roomedOf 188 = .ok (.iload 5, 2) := by decide +kernel
theorem dX9_roomedOf_190 : decode cX9_roomedOf 190 = .ok (.ifCond .le 97, 3) := by decide +kernel
theorem dX9_roomedOf_193 : decode cX9_roomedOf 193 = .ok (.aload_n 0, 1) := by decide +kernel
theorem dX9_roomedOf_194 : decode cX9_roomedOf 194 = .ok (.getfield 43, 3) := by decide +kernel
theorem dX9_roomedOf_197 : decode cX9_roomedOf 197 = .ok (.iload 5, 2) := by decide +kernel
theorem dX9_roomedOf_199 : decode cX9_roomedOf 199 = .ok (.iaload, 1) := by decide +kernel
theorem dX9_roomedOf_200 : decode cX9_roomedOf 200 = .ok (.ldc 121, 2) := by decide +kernel
theorem dX9_roomedOf_202 : decode cX9_roomedOf 202 = .ok (.if_icmp .ge 73, 3) := by decide +kernel
theorem dX9_roomedOf_205 : decode cX9_roomedOf 205 = .ok (.aload_n 0, 1) := by decide +kernel
theorem dX9_roomedOf_206 : decode cX9_roomedOf 206 = .ok (.getfield 40, 3) := by decide +kernel
theorem dX9_roomedOf_209 : decode cX9_roomedOf 209 = .ok (.iload 4, 2) := by decide +kernel
theorem dX9_roomedOf_211 : decode cX9_roomedOf 211 = .ok (.iload 5, 2) := by decide +kernel
theorem dX9_roomedOf_213 : decode cX9_roomedOf 213 = .ok (.iconst (-1), 1) := by decide +kernel
theorem dX9_roomedOf_214 : decode cX9_roomedOf 214 = .ok (.ixor, 1) := by decide +kernel
theorem dX9_roomedOf_215 : decode cX9_roomedOf 215 = .ok (.iand, 1) := by decide +kernel
theorem dX9_roomedOf_216 : decode cX9_roomedOf 216 = .ok (.iaload, 1) := by decide +kernel
theorem dX9_roomedOf_217 : decode cX9_roomedOf 217 = .ok (.ldc 121, 2) := by decide +kernel
theorem dX9_roomedOf_219 : decode cX9_roomedOf 219 = .ok (.if_icmp .ge 56, 3) := by decide +kernel
theorem dX9_roomedOf_222 : decode cX9_roomedOf 222 = .ok (.aload_n 0, 1) := by decide +kernel
theorem dX9_roomedOf_223 : decode cX9_roomedOf 223 = .ok (.getfield 43, 3) := by decide +kernel
theorem dX9_roomedOf_226 : decode cX9_roomedOf 226 = .ok (.iload 5, 2) := by decide +kernel
theorem dX9_roomedOf_228 : decode cX9_roomedOf 228 = .ok (.iaload, 1) := by decide +kernel
theorem dX9_roomedOf_229 : decode cX9_roomedOf 229 = .ok (.aload_n 0, 1) := by decide +kernel
theorem dX9_roomedOf_230 : decode cX9_roomedOf 230 = .ok (.getfield 40, 3) := by decide +kernel
theorem dX9_roomedOf_233 : decode cX9_roomedOf 233 = .ok (.iload 4, 2) := by decide +kernel
theorem dX9_roomedOf_235 : decode cX9_roomedOf 235 = .ok (.iload 5, 2) := by decide +kernel
theorem dX9_roomedOf_237 : decode cX9_roomedOf 237 = .ok (.iconst (-1), 1) := by decide +kernel
theorem dX9_roomedOf_238 : decode cX9_roomedOf 238 = .ok (.ixor, 1) := by decide +kernel
theorem dX9_roomedOf_239 : decode cX9_roomedOf 239 = .ok (.iand, 1) := by decide +kernel
theorem dX9_roomedOf_240 : decode cX9_roomedOf 240 = .ok (.iaload, 1) := by decide +kernel
theorem dX9_roomedOf_241 : decode cX9_roomedOf 241 = .ok (.iadd, 1) := by decide +kernel
theorem dX9_roomedOf_242 : decode cX9_roomedOf 242 = .ok (.istore 6, 2) := by decide +kernel
theorem dX9_roomedOf_244 : decode cX9_roomedOf 244 = .ok (.aload_n 0, 1) := by decide +kernel
theorem dX9_roomedOf_245 : decode cX9_roomedOf 245 = .ok (.getfield 40, 3) := by decide +kernel
theorem dX9_roomedOf_248 : decode cX9_roomedOf 248 = .ok (.iload 4, 2) := by decide +kernel
theorem dX9_roomedOf_250 : decode cX9_roomedOf 250 = .ok (.iload 6, 2) := by decide +kernel
theorem dX9_roomedOf_252 : decode cX9_roomedOf 252 = .ok (.aload_n 0, 1) := by decide +kernel
theorem dX9_roomedOf_253 : decode cX9_roomedOf 253 = .ok (.getfield 40, 3) := by decide +kernel
theorem dX9_roomedOf_256 : decode cX9_roomedOf 256 = .ok (.iload 4, 2) := by decide +kernel
theorem dX9_roomedOf_258 : decode cX9_roomedOf 258 = .ok (.iaload, 1) := by decide +kernel
theorem dX9_roomedOf_259 : decode cX9_roomedOf 259 = .ok (.if_icmp .ge 8, 3) := by decide +kernel
theorem dX9_roomedOf_262 : decode cX9_roomedOf 262 = .ok (.iload 6, 2) := by decide +kernel
theorem dX9_roomedOf_264 : decode cX9_roomedOf 264 = .ok (.goto 10, 3) := by decide +kernel
theorem dX9_roomedOf_267 : decode cX9_roomedOf 267 = .ok (.aload_n 0, 1) := by decide +kernel
theorem dX9_roomedOf_268 : decode cX9_roomedOf 268 = .ok (.getfield 40, 3) := by decide +kernel
theorem dX9_roomedOf_271 : decode cX9_roomedOf 271 = .ok (.iload 4, 2) := by decide +kernel
theorem dX9_roomedOf_273 : decode cX9_roomedOf 273 = .ok (.iaload, 1) := by decide +kernel
theorem dX9_roomedOf_274 : decode cX9_roomedOf 274 = .ok (.iastore, 1) := by decide +kernel
theorem dX9_roomedOf_275 : decode cX9_roomedOf 275 = .ok (.iload 5, 2) := by decide +kernel
theorem dX9_roomedOf_277 : decode cX9_roomedOf 277 = .ok (.iconst 1, 1) := by decide +kernel
theorem dX9_roomedOf_278 : decode cX9_roomedOf 278 = .ok (.isub, 1) := by decide +kernel
theorem dX9_roomedOf_279 : decode cX9_roomedOf 279 = .ok (.iload 4, 2) := by decide +kernel
theorem dX9_roomedOf_281 : decode cX9_roomedOf 281 = .ok (.iand, 1) := by decide +kernel
theorem dX9_roomedOf_282 : decode cX9_roomedOf 282 = .ok (.istore 5, 2) := by decide +kernel
theorem dX9_roomedOf_284 : decode cX9_roomedOf 284 = .ok (.goto (-96), 3) := by decide +kernel
theorem dX9_roomedOf_287 : decode cX9_roomedOf 287 = .ok (.iinc 4 (-1), 3) := by decide +kernel
theorem dX9_roomedOf_290 : decode cX9_roomedOf 290 = .ok (.goto (-111), 3) := by decide +kernel
theorem dX9_roomedOf_293 : decode cX9_roomedOf 293 = .ok (.iinc 3 1, 3) := by decide +kernel
theorem dX9_roomedOf_296 : decode cX9_roomedOf 296 = .ok (.goto (-260), 3) := by decide +kernel
theorem dX9_roomedOf_299 : decode cX9_roomedOf 299 = .ok (.aload_n 0, 1) := by decide +kernel
theorem dX9_roomedOf_300 : decode cX9_roomedOf 300 = .ok (.getfield 40, 3) := by decide +kernel
theorem dX9_roomedOf_303 : decode cX9_roomedOf 303 = .ok (.iload_n 2, 1) := by decide +kernel
theorem dX9_roomedOf_304 : decode cX9_roomedOf 304 = .ok (.iaload, 1) := by decide +kernel
theorem dX9_roomedOf_305 : decode cX9_roomedOf 305 = .ok (.ireturn, 1) := by decide +kernel
set_option maxRecDepth 20000 in
theorem ggX9_worstClosed_X9_has : GoodIn wsX9_worstClosed wsX9_has := goodIn_r _ [5] (by decide +kernel) (by decide +kernel)
set_option maxRecDepth 20000 in
theorem gX9_worstClosed_X9_has : GoodIn wsX9_worstClosed (va_wsS RX9 111 yX9_has wsX9_has) := goodIn_app (goodIn_of _ (by decide +kernel)) ggX9_worstClosed_X9_has
set_option maxRecDepth 20000 in
theorem ggX9_worstClosed_X9_allTowns : GoodIn wsX9_worstClosed wsX9_allTowns := goodIn_r _ [9, 10, 28, 29, 30, 31, 32, 33, 34, 35, 36, 37, 38, 39, 40, 41, 42, 43, 44, 45, 46, 47, 48, 49, 50, 51, 52, 53, 54, 55] (by decide +kernel) (by decide +kernel)
set_option maxRecDepth 20000 in
theorem gX9_worstClosed_X9_allTowns : GoodIn wsX9_worstClosed (wsV RX9 118 RX9 yX9_allTowns wsX9_allTowns) := goodIn_app (goodIn_of _ (by decide +kernel)) ggX9_worstClosed_X9_allTowns
set_option maxRecDepth 20000 in
theorem ggX9_worstClosed_X9_sumOf : GoodIn wsX9_worstClosed wsX9_sumOf := goodIn_r _ [14, 10, 15, 2, 3, 4, 5, 16, 17, 18, 19, 1, 20, 21, 22, 23, 24, 25, 26, 27, 28, 29, 30, 31, 32, 33, 34, 35, 36, 37, 38, 39, 40, 41, 42, 43, 44, 45, 46, 47, 48, 49, 50, 51, 52, 53, 54, 55] (by decide +kernel) (by decide +kernel)
set_option maxRecDepth 20000 in
theorem gX9_worstClosed_X9_sumOf : GoodIn wsX9_worstClosed (wsV RX9 122 RX9 yX9_sumOf wsX9_sumOf) := goodIn_app (goodIn_of _ (by decide +kernel)) ggX9_worstClosed_X9_sumOf
theorem dX9_worstClosed_0 : decode cX9_worstClosed 0 = .ok (.iconst (-1), 1) := by decide +kernel
theorem dX9_worstClosed_1 : decode cX9_worstClosed 1 = .ok (.istore_n 2, 1) := by decide +kernel
theorem dX9_worstClosed_2 : decode cX9_worstClosed 2 = .ok (.iconst (-1), 1) := by decide +kernel
theorem dX9_worstClosed_3 : decode cX9_worstClosed 3 = .ok (.istore_n 3, 1) := by decide +kernel
theorem dX9_worstClosed_4 : decode cX9_worstClosed 4 = .ok (.iconst 0, 1) := by decide +kernel
theorem dX9_worstClosed_5 : decode cX9_worstClosed 5 = .ok (.istore 4, 2) := by decide +kernel
theorem dX9_worstClosed_7 : decode cX9_worstClosed 7 = .ok (.iload 4, 2) := by decide +kernel
theorem dX9_worstClosed_9 : decode cX9_worstClosed 9 = .ok (.aload_n 0, 1) := by decide +kernel
theorem dX9_worstClosed_10 : decode cX9_worstClosed 10 = .ok (.getfield 71, 3) := by decide +kernel
theorem dX9_worstClosed_13 : decode cX9_worstClosed 13 = .ok (.if_icmp .ge 62, 3) := by decide +kernel
theorem dX9_worstClosed_16 : decode cX9_worstClosed 16 = .ok (.iload_n 1, 1) := by decide +kernel
theorem dX9_worstClosed_17 : decode cX9_worstClosed 17 = .ok (.iload 4, 2) := by decide +kernel
theorem dX9_worstClosed_19 : decode cX9_worstClosed 19 = .ok (.invokestatic 111, 3) := by decide +kernel
theorem dX9_worstClosed_22 : decode cX9_worstClosed 22 = .ok (.ifCond .eq 47, 3) := by decide +kernel
theorem dX9_worstClosed_25 : decode cX9_worstClosed 25 = .ok (.aload_n 0, 1) := by decide +kernel
theorem dX9_worstClosed_26 : decode cX9_worstClosed 26 = .ok (.iload_n 1, 1) := by decide +kernel
theorem dX9_worstClosed_27 : decode cX9_worstClosed 27 = .ok (.iconst 1, 1) := by decide +kernel
theorem dX9_worstClosed_28 : decode cX9_worstClosed 28 = .ok (.iload 4, 2) := by decide +kernel
theorem dX9_worstClosed_30 : decode cX9_worstClosed 30 = .ok (.ishl, 1) := by decide +kernel
theorem dX9_worstClosed_31 : decode cX9_worstClosed 31 = .ok (.iconst (-1), 1) := by decide +kernel
theorem dX9_worstClosed_32 : decode cX9_worstClosed 32 = .ok (.ixor, 1) := by decide +kernel
theorem dX9_worstClosed_33 : decode cX9_worstClosed 33 = .ok (.iand, 1) := by decide +kernel
theorem dX9_worstClosed_34 : decode cX9_worstClosed 34 = .ok (.aload_n 0, 1) := by decide +kernel
theorem dX9_worstClosed_35 : decode cX9_worstClosed 35 = .ok (.invokevirtual 118, 3) := by decide +kernel
theorem dX9_worstClosed_38 : decode cX9_worstClosed 38 = .ok (.invokevirtual 122, 3) := by decide +kernel
theorem dX9_worstClosed_41 : decode cX9_worstClosed 41 = .ok (.istore 5, 2) := by decide +kernel
theorem dX9_worstClosed_43 : decode cX9_worstClosed 43 = .ok (.iload 5, 2) := by decide +kernel
theorem dX9_worstClosed_45 : decode cX9_worstClosed 45 = .ok (.iload_n 3, 1) := by decide +kernel
theorem dX9_worstClosed_46 : decode cX9_worstClosed 46 = .ok (.if_icmp .le 8, 3) := by decide +kernel
theorem dX9_worstClosed_49 : decode cX9_worstClosed 49 = .ok (.iload 4, 2) := by decide +kernel
theorem dX9_worstClosed_51 : decode cX9_worstClosed 51 = .ok (.goto 4, 3) := by decide +kernel
theorem dX9_worstClosed_54 : decode cX9_worstClosed 54 = .ok (.iload_n 2, 1) := by decide +kernel
theorem dX9_worstClosed_55 : decode cX9_worstClosed 55 = .ok (.istore_n 2, 1) := by decide +kernel
theorem dX9_worstClosed_56 : decode cX9_worstClosed 56 = .ok (.iload 5, 2) := by decide +kernel
theorem dX9_worstClosed_58 : decode cX9_worstClosed 58 = .ok (.iload_n 3, 1) := by decide +kernel
theorem dX9_worstClosed_59 : decode cX9_worstClosed 59 = .ok (.if_icmp .le 8, 3) := by decide +kernel
theorem dX9_worstClosed_62 : decode cX9_worstClosed 62 = .ok (.iload 5, 2) := by decide +kernel
theorem dX9_worstClosed_64 : decode cX9_worstClosed 64 = .ok (.goto 4, 3) := by decide +kernel
theorem dX9_worstClosed_67 : decode cX9_worstClosed 67 = .ok (.iload_n 3, 1) := by decide +kernel
theorem dX9_worstClosed_68 : decode cX9_worstClosed 68 = .ok (.istore_n 3, 1) := by decide +kernel
theorem dX9_worstClosed_69 : decode cX9_worstClosed 69 = .ok (.iinc 4 1, 3) := by decide +kernel
theorem dX9_worstClosed_72 : decode cX9_worstClosed 72 = .ok (.goto (-65), 3) := by decide +kernel
theorem dX9_worstClosed_75 : decode cX9_worstClosed 75 = .ok (.iload_n 2, 1) := by decide +kernel
theorem dX9_worstClosed_76 : decode cX9_worstClosed 76 = .ok (.ireturn, 1) := by decide +kernel
set_option maxRecDepth 20000 in
theorem ggX9_taken_X9_wayOf : GoodIn wsX9_taken wsX9_wayOf := goodIn_r _ [7, 8, 9, 10, 11, 20, 21, 22, 23, 24, 25, 26, 27, 28, 29, 30, 31, 32, 33, 34, 35, 36, 37, 38, 39, 40, 41, 42, 43, 44, 45, 46, 47] (by decide +kernel) (by decide +kernel)
set_option maxRecDepth 20000 in
theorem gX9_taken_X9_wayOf : GoodIn wsX9_taken (wsV RX9 107 RX9 yX9_wayOf wsX9_wayOf) := goodIn_app (goodIn_of _ (by decide +kernel)) ggX9_taken_X9_wayOf
set_option maxRecDepth 20000 in
theorem ggX9_taken_X9_nearest : GoodIn wsX9_taken wsX9_nearest := goodIn_r _ [15, 16, 17, 18, 6, 19, 3, 4, 5, 7, 8, 9, 10, 11, 20, 21, 22, 23, 24, 25, 26, 27, 28, 29, 30, 31, 32, 33, 34, 35, 36, 37, 38, 39, 40, 41, 42, 43, 44, 45, 46, 47] (by decide +kernel) (by decide +kernel)
set_option maxRecDepth 20000 in
theorem gX9_taken_X9_nearest : GoodIn wsX9_taken (wsV RX9 115 RX9 yX9_nearest wsX9_nearest) := goodIn_app (goodIn_of _ (by decide +kernel)) ggX9_taken_X9_nearest
theorem dX9_taken_0 : decode cX9_taken 0 = .ok (.iconst 0, 1) := by decide +kernel
theorem dX9_taken_1 : decode cX9_taken 1 = .ok (.istore_n 3, 1) := by decide +kernel
theorem dX9_taken_2 : decode cX9_taken 2 = .ok (.iconst 0, 1) := by decide +kernel
theorem dX9_taken_3 : decode cX9_taken 3 = .ok (.istore 4, 2) := by decide +kernel
theorem dX9_taken_5 : decode cX9_taken 5 = .ok (.iload 4, 2) := by decide +kernel
theorem dX9_taken_7 : decode cX9_taken 7 = .ok (.aload_n 0, 1) := by decide +kernel
theorem dX9_taken_8 : decode cX9_taken 8 = .ok (.getfield 68, 3) := by decide +kernel
theorem dX9_taken_11 : decode cX9_taken 11 = .ok (.if_icmp .ge 46, 3) := by decide +kernel
theorem dX9_taken_14 : decode cX9_taken 14 = .ok (.iload_n 3, 1) := by decide +kernel
theorem dX9_taken_15 : decode cX9_taken 15 = .ok (.aload_n 0, 1) := by decide +kernel
theorem dX9_taken_16 : decode cX9_taken 16 = .ok (.iload_n 2, 1) := by decide +kernel
theorem dX9_taken_17 : decode cX9_taken 17 = .ok (.iload 4, 2) := by decide +kernel
theorem dX9_taken_19 : decode cX9_taken 19 = .ok (.invokevirtual 107, 3) := by decide +kernel
theorem dX9_taken_22 : decode cX9_taken 22 = .ok (.aload_n 0, 1) := by decide +kernel
theorem dX9_taken_23 : decode cX9_taken 23 = .ok (.aload_n 0, 1) := by decide +kernel
theorem dX9_taken_24 : decode cX9_taken 24 = .ok (.iload_n 1, 1) := by decide +kernel
theorem dX9_taken_25 : decode cX9_taken 25 = .ok (.iload 4, 2) := by decide +kernel
theorem dX9_taken_27 : decode cX9_taken 27 = .ok (.invokevirtual 115, 3) := by decide +kernel
theorem dX9_taken_30 : decode cX9_taken 30 = .ok (.iload 4, 2) := by decide +kernel
theorem dX9_taken_32 : decode cX9_taken 32 = .ok (.invokevirtual 107, 3) := by decide +kernel
theorem dX9_taken_35 : decode cX9_taken 35 = .ok (.if_icmp .ge 13, 3) := by decide +kernel
theorem dX9_taken_38 : decode cX9_taken 38 = .ok (.aload_n 0, 1) := by decide +kernel
theorem dX9_taken_39 : decode cX9_taken 39 = .ok (.getfield 7, 3) := by decide +kernel
theorem dX9_taken_42 : decode cX9_taken 42 = .ok (.iload 4, 2) := by decide +kernel
theorem dX9_taken_44 : decode cX9_taken 44 = .ok (.iaload, 1) := by decide +kernel
theorem dX9_taken_45 : decode cX9_taken 45 = .ok (.goto 4, 3) := by decide +kernel
theorem dX9_taken_48 : decode cX9_taken 48 = .ok (.iconst 0, 1) := by decide +kernel
theorem dX9_taken_49 : decode cX9_taken 49 = .ok (.iadd, 1) := by decide +kernel
theorem dX9_taken_50 : decode cX9_taken 50 = .ok (.istore_n 3, 1) := by decide +kernel
theorem dX9_taken_51 : decode cX9_taken 51 = .ok (.iinc 4 1, 3) := by decide +kernel
theorem dX9_taken_54 : decode cX9_taken 54 = .ok (.goto (-49), 3) := by decide +kernel
theorem dX9_taken_57 : decode cX9_taken 57 = .ok (.iload_n 3, 1) := by decide +kernel
theorem dX9_taken_58 : decode cX9_taken 58 = .ok (.ireturn, 1) := by decide +kernel
set_option maxRecDepth 20000 in
theorem ggX9_worstRival_X9_has : GoodIn wsX9_worstRival wsX9_has := goodIn_r _ [5] (by decide +kernel) (by decide +kernel)
set_option maxRecDepth 20000 in
theorem gX9_worstRival_X9_has : GoodIn wsX9_worstRival (va_wsS RX9 111 yX9_has wsX9_has) := goodIn_app (goodIn_of _ (by decide +kernel)) ggX9_worstRival_X9_has
set_option maxRecDepth 20000 in
theorem ggX9_worstRival_X9_taken : GoodIn wsX9_worstRival wsX9_taken := goodIn_r _ [9, 10, 11, 12, 13, 14, 4, 15, 16, 17, 18, 19, 20, 21, 22, 23, 1, 2, 3, 5, 24, 25, 26, 27, 28, 29, 30, 31, 32, 33, 34, 35, 36, 37, 38, 39, 40, 41, 42, 43, 44, 45, 46, 47, 48, 49, 50, 51] (by decide +kernel) (by decide +kernel)
set_option maxRecDepth 20000 in
theorem gX9_worstRival_X9_taken : GoodIn wsX9_worstRival (wsV RX9 125 RX9 yX9_taken wsX9_taken) := goodIn_app (goodIn_of _ (by decide +kernel)) ggX9_worstRival_X9_taken
theorem dX9_worstRival_0 : decode cX9_worstRival 0 = .ok (.iconst (-1), 1) := by decide +kernel
theorem dX9_worstRival_1 : decode cX9_worstRival 1 = .ok (.istore_n 2, 1) := by decide +kernel
theorem dX9_worstRival_2 : decode cX9_worstRival 2 = .ok (.iconst 0, 1) := by decide +kernel
theorem dX9_worstRival_3 : decode cX9_worstRival 3 = .ok (.istore_n 3, 1) := by decide +kernel
theorem dX9_worstRival_4 : decode cX9_worstRival 4 = .ok (.iload_n 3, 1) := by decide +kernel
theorem dX9_worstRival_5 : decode cX9_worstRival 5 = .ok (.aload_n 0, 1) := by decide +kernel
theorem dX9_worstRival_6 : decode cX9_worstRival 6 = .ok (.getfield 71, 3) := by decide +kernel
theorem dX9_worstRival_9 : decode cX9_worstRival 9 = .ok (.if_icmp .ge 39, 3) := by decide +kernel
theorem dX9_worstRival_12 : decode cX9_worstRival 12 = .ok (.iload_n 1, 1) := by decide +kernel
theorem dX9_worstRival_13 : decode cX9_worstRival 13 = .ok (.iload_n 3, 1) := by decide +kernel
theorem dX9_worstRival_14 : decode cX9_worstRival 14 = .ok (.invokestatic 111, 3) := by decide +kernel
theorem dX9_worstRival_17 : decode cX9_worstRival 17 = .ok (.ifCond .ne 25, 3) := by decide +kernel
theorem dX9_worstRival_20 : decode cX9_worstRival 20 = .ok (.iload_n 2, 1) := by decide +kernel
theorem dX9_worstRival_21 : decode cX9_worstRival 21 = .ok (.iconst (-1), 1) := by decide +kernel
theorem dX9_worstRival_22 : decode cX9_worstRival 22 = .ok (.if_icmp .eq 18, 3) := by decide +kernel
theorem dX9_worstRival_25 : decode cX9_worstRival 25 = .ok (.aload_n 0, 1) := by decide +kernel
theorem dX9_worstRival_26 : decode cX9_worstRival 26 = .ok (.iload_n 1, 1) := by decide +kernel
theorem dX9_worstRival_27 : decode cX9_worstRival 27 = .ok (.iload_n 3, 1) := by decide +kernel
theorem dX9_worstRival_28 : decode cX9_worstRival 28 = .ok (.invokevirtual 125, 3) := by decide +kernel
theorem dX9_worstRival_31 : decode cX9_worstRival 31 = .ok (.aload_n 0, 1) := by decide +kernel
theorem dX9_worstRival_32 : decode cX9_worstRival 32 = .ok (.iload_n 1, 1) := by decide +kernel
theorem dX9_worstRival_33 : decode cX9_worstRival 33 = .ok (.iload_n 2, 1) := by decide +kernel
theorem dX9_worstRival_34 : decode cX9_worstRival 34 = .ok (.invokevirtual 125, 3) := by decide +kernel
theorem dX9_worstRival_37 : decode cX9_worstRival 37 = .ok (.if_icmp .le 5, 3) := by decide +kernel
theorem dX9_worstRival_40 : decode cX9_worstRival 40 = .ok (.iload_n 3, 1) := by decide +kernel
theorem dX9_worstRival_41 : decode cX9_worstRival 41 = .ok (.istore_n 2, 1) := by decide +kernel
theorem dX9_worstRival_42 : decode cX9_worstRival 42 = .ok (.iinc 3 1, 3) := by decide +kernel
theorem dX9_worstRival_45 : decode cX9_worstRival 45 = .ok (.goto (-41), 3) := by decide +kernel
theorem dX9_worstRival_48 : decode cX9_worstRival 48 = .ok (.iload_n 2, 1) := by decide +kernel
theorem dX9_worstRival_49 : decode cX9_worstRival 49 = .ok (.ireturn, 1) := by decide +kernel
set_option maxRecDepth 20000 in
theorem ggX9_costOf_X9_sizeOf : GoodIn wsX9_costOf wsX9_sizeOf := goodIn_r _ [8] (by decide +kernel) (by decide +kernel)
set_option maxRecDepth 20000 in
theorem gX9_costOf_X9_sizeOf : GoodIn wsX9_costOf (va_wsS RX9 128 yX9_sizeOf wsX9_sizeOf) := goodIn_app (goodIn_of _ (by decide +kernel)) ggX9_costOf_X9_sizeOf
set_option maxRecDepth 20000 in
theorem ggX9_costOf_X9_allTowns : GoodIn wsX9_costOf wsX9_allTowns := goodIn_r _ [12, 1, 57, 58, 59, 60, 61, 62, 63, 64, 65, 66, 67, 68, 69, 70, 71, 72, 73, 74, 75, 76, 77, 78, 79, 80, 81, 82, 83, 84] (by decide +kernel) (by decide +kernel)
set_option maxRecDepth 20000 in
theorem gX9_costOf_X9_allTowns : GoodIn wsX9_costOf (wsV RX9 118 RX9 yX9_allTowns wsX9_allTowns) := goodIn_app (goodIn_of _ (by decide +kernel)) ggX9_costOf_X9_allTowns
set_option maxRecDepth 20000 in
theorem ggX9_costOf_X9_sumOf : GoodIn wsX9_costOf wsX9_sumOf := goodIn_r _ [16, 1, 3, 17, 18, 7, 19, 20, 21, 22, 23, 24, 25, 26, 27, 28, 29, 30, 31, 32, 57, 58, 59, 60, 61, 62, 63, 64, 65, 66, 67, 68, 69, 70, 71, 72, 73, 74, 75, 76, 77, 78, 79, 80, 81, 82, 83, 84] (by decide +kernel) (by decide +kernel)
set_option maxRecDepth 20000 in
theorem gX9_costOf_X9_sumOf : GoodIn wsX9_costOf (wsV RX9 122 RX9 yX9_sumOf wsX9_sumOf) := goodIn_app (goodIn_of _ (by decide +kernel)) ggX9_costOf_X9_sumOf
set_option maxRecDepth 20000 in
theorem ggX9_costOf_X9_nearest : GoodIn wsX9_costOf wsX9_nearest := goodIn_r _ [23, 24, 17, 18, 7, 19, 25, 26, 27, 28, 29, 30, 31, 32, 57, 58, 59, 60, 61, 62, 63, 64, 65, 66, 67, 68, 69, 70, 71, 72, 73, 74, 75, 76, 77, 78, 79, 80, 81, 82, 83, 84] (by decide +kernel) (by decide +kernel)
set_option maxRecDepth 20000 in
theorem gX9_costOf_X9_nearest : GoodIn wsX9_costOf (wsV RX9 115 RX9 yX9_nearest wsX9_nearest) := goodIn_app (goodIn_of _ (by decide +kernel)) ggX9_costOf_X9_nearest
set_option maxRecDepth 20000 in
theorem ggX9_costOf_X9_wayOf : GoodIn wsX9_costOf wsX9_wayOf := goodIn_r _ [28, 29, 30, 31, 32, 57, 58, 59, 60, 61, 62, 63, 64, 65, 66, 67, 68, 69, 70, 71, 72, 73, 74, 75, 76, 77, 78, 79, 80, 81, 82, 83, 84] (by decide +kernel) (by decide +kernel)
set_option maxRecDepth 20000 in
theorem gX9_costOf_X9_wayOf : GoodIn wsX9_costOf (wsV RX9 107 RX9 yX9_wayOf wsX9_wayOf) := goodIn_app (goodIn_of _ (by decide +kernel)) ggX9_costOf_X9_wayOf
set_option maxRecDepth 20000 in
theorem ggX9_costOf_X9_pricesOf : GoodIn wsX9_costOf wsX9_pricesOf := goodIn_r _ [36, 24, 37, 17, 18, 7, 19, 57, 58, 59, 60, 61, 62, 63, 64, 65, 66, 67, 68, 69, 70, 71, 72, 73, 74, 75, 76, 77, 78, 79, 80, 81, 82, 83, 84] (by decide +kernel) (by decide +kernel)
set_option maxRecDepth 20000 in
theorem gX9_costOf_X9_pricesOf : GoodIn wsX9_costOf (wsV RX9 132 RX9 yX9_pricesOf wsX9_pricesOf) := goodIn_app (goodIn_of _ (by decide +kernel)) ggX9_costOf_X9_pricesOf
set_option maxRecDepth 20000 in
theorem ggX9_costOf_X9_roomedOf : GoodIn wsX9_costOf wsX9_roomedOf := goodIn_r _ [41, 42, 2, 24, 1, 3, 43, 44, 9, 10, 11, 7, 12, 17, 18, 19, 25, 26, 27, 28, 29, 30, 31, 32, 57, 58, 59, 60, 61, 62, 63, 64, 65, 66, 67, 68, 69, 70, 71, 72, 73, 74, 75, 76, 77, 78, 79, 80, 81, 82, 83, 84] (by decide +kernel) (by decide +kernel)
set_option maxRecDepth 20000 in
theorem gX9_costOf_X9_roomedOf : GoodIn wsX9_costOf (wsV RX9 135 RX9 yX9_roomedOf wsX9_roomedOf) := goodIn_app (goodIn_of _ (by decide +kernel)) ggX9_costOf_X9_roomedOf
set_option maxRecDepth 20000 in
theorem ggX9_costOf_X9_worstClosed : GoodIn wsX9_costOf wsX9_worstClosed := goodIn_r _ [48, 24, 17, 18, 7, 19, 9, 10, 11, 12, 1, 13, 14, 15, 16, 3, 20, 21, 22, 23, 25, 26, 27, 28, 29, 30, 31, 32, 57, 58, 59, 60, 61, 62, 63, 64, 65, 66, 67, 68, 69, 70, 71, 72, 73, 74, 75, 76, 77, 78, 79, 80, 81, 82, 83, 84] (by decide +kernel) (by decide +kernel)
set_option maxRecDepth 20000 in
theorem gX9_costOf_X9_worstClosed : GoodIn wsX9_costOf (wsV RX9 138 RX9 yX9_worstClosed wsX9_worstClosed) := goodIn_app (goodIn_of _ (by decide +kernel)) ggX9_costOf_X9_worstClosed
set_option maxRecDepth 20000 in
theorem ggX9_costOf_X9_worstRival : GoodIn wsX9_costOf wsX9_worstRival := goodIn_r _ [52, 24, 17, 18, 7, 19, 53, 54, 55, 56, 1, 3, 25, 26, 27, 28, 29, 30, 31, 32, 20, 21, 22, 23, 57, 58, 59, 60, 61, 62, 63, 64, 65, 66, 67, 68, 69, 70, 71, 72, 73, 74, 75, 76, 77, 78, 79, 80, 81, 82, 83, 84] (by decide +kernel) (by decide +kernel)
set_option maxRecDepth 20000 in
theorem gX9_costOf_X9_worstRival : GoodIn wsX9_costOf (wsV RX9 141 RX9 yX9_worstRival wsX9_worstRival) := goodIn_app (goodIn_of _ (by decide +kernel)) ggX9_costOf_X9_worstRival
set_option maxRecDepth 20000 in
theorem ggX9_costOf_X9_taken : GoodIn wsX9_costOf wsX9_taken := goodIn_r _ [56, 1, 3, 25, 26, 27, 7, 28, 29, 30, 31, 32, 20, 21, 22, 23, 24, 17, 18, 19, 57, 58, 59, 60, 61, 62, 63, 64, 65, 66, 67, 68, 69, 70, 71, 72, 73, 74, 75, 76, 77, 78, 79, 80, 81, 82, 83, 84] (by decide +kernel) (by decide +kernel)
set_option maxRecDepth 20000 in
theorem gX9_costOf_X9_taken : GoodIn wsX9_costOf (wsV RX9 125 RX9 yX9_taken wsX9_taken) := goodIn_app (goodIn_of _ (by decide +kernel)) ggX9_costOf_X9_taken
theorem dX9_costOf_0 : decode cX9_costOf 0 = .ok (.iload_n 2, 1) := by decide +kernel
theorem dX9_costOf_1 : decode cX9_costOf 1 = .ok (.invokestatic 128, 3) := by decide +kernel
theorem dX9_costOf_4 : decode cX9_costOf 4 = .ok (.istore_n 3, 1) := by decide +kernel
theorem dX9_costOf_5 : decode cX9_costOf 5 = .ok (.iload_n 3, 1) := by decide +kernel
theorem dX9_costOf_6 : decode cX9_costOf 6 = .ok (.ifCond .ne 20, 3) := by decide +kernel
theorem dX9_costOf_9 : decode cX9_costOf 9 = .ok (.iload_n 1, 1) := by decide +kernel
theorem dX9_costOf_10 : decode cX9_costOf 10 = .ok (.iconst 4, 1) := by decide +kernel
theorem dX9_costOf_11 : decode cX9_costOf 11 = .ok (.if_icmp .gt 25, 3) := by decide +kernel
theorem dX9_costOf_14 : decode cX9_costOf 14 = .ok (.iload_n 1, 1) := by decide +kernel
theorem dX9_costOf_15 : decode cX9_costOf 15 = .ok (.iconst 4, 1) := by decide +kernel
theorem dX9_costOf_16 : decode cX9_costOf 16 = .ok (.if_icmp .ge 10, 3) := by decide +kernel
theorem dX9_costOf_19 : decode cX9_costOf 19 = .ok (.aload_n 0, 1) := by decide +kernel
theorem dX9_costOf_20 : decode cX9_costOf 20 = .ok (.getfield 68, 3) := by decide +kernel
theorem dX9_costOf_23 : decode cX9_costOf 23 = .ok (.ifCond .gt 13, 3) := by decide +kernel
theorem dX9_costOf_26 : decode cX9_costOf 26 = .ok (.iload_n 3, 1) := by decide +kernel
theorem dX9_costOf_27 : decode cX9_costOf 27 = .ok (.iconst 1, 1) := by decide +kernel
theorem dX9_costOf_28 : decode cX9_costOf 28 = .ok (.if_icmp .ne 11, 3) := by decide +kernel
theorem dX9_costOf_31 : decode cX9_costOf 31 = .ok (.iload_n 1, 1) := by decide +kernel
theorem dX9_costOf_32 : decode cX9_costOf 32 = .ok (.iconst 5, 1) := by decide +kernel
theorem dX9_costOf_33 : decode cX9_costOf 33 = .ok (.if_icmp .ne 6, 3) := by decide +kernel
theorem dX9_costOf_36 : decode cX9_costOf 36 = .ok (.ldc 121, 2) := by decide +kernel
theorem dX9_costOf_38 : decode cX9_costOf 38 = .ok (.ireturn, 1) := by decide +kernel
theorem dX9_costOf_39 : decode cX9_costOf 39 = .ok (.iconst 0, 1) := by decide +kernel
theorem dX9_costOf_40 : decode cX9_costOf 40 = .ok (.istore 4, 2) := by decide +kernel
theorem dX9_costOf_42 : decode cX9_costOf 42 = .ok (.iload_n 1, 1) := by decide +kernel
theorem dX9_costOf_43 : decode cX9_costOf 43 = .ok (.tableswitch 251 0 5 #[37, 47, 99, 115, 143, 231], 37) := by decide +kernel
theorem dX9_costOf_80 : decode cX9_costOf 80 = .ok (.aload_n 0, 1) := by decide +kernel
theorem dX9_costOf_81 : decode cX9_costOf 81 = .ok (.iload_n 2, 1) := by decide +kernel
theorem dX9_costOf_82 : decode cX9_costOf 82 = .ok (.aload_n 0, 1) := by decide +kernel
theorem dX9_costOf_83 : decode cX9_costOf 83 = .ok (.invokevirtual 118, 3) := by decide +kernel
theorem dX9_costOf_86 : decode cX9_costOf 86 = .ok (.invokevirtual 122, 3) := by decide +kernel
theorem dX9_costOf_89 : decode cX9_costOf 89 = .ok (.ireturn, 1) := by decide +kernel
theorem dX9_costOf_90 : decode cX9_costOf 90 = .ok (.iconst 0, 1) := by decide +kernel
theorem dX9_costOf_91 : decode cX9_costOf 91 = .ok (.istore 5, 2) := by decide +kernel
theorem dX9_costOf_93 : decode cX9_costOf 93 = .ok (.iload 5, 2) := by decide +kernel
theorem dX9_costOf_95 : decode cX9_costOf 95 = .ok (.aload_n 0, 1) := by decide +kernel
theorem dX9_costOf_96 : decode cX9_costOf 96 = .ok (.getfield 68, 3) := by decide +kernel
theorem dX9_costOf_99 : decode cX9_costOf 99 = .ok (.if_icmp .ge 40, 3) := by decide +kernel
theorem dX9_costOf_102 : decode cX9_costOf 102 = .ok (.aload_n 0, 1) := by decide +kernel
theorem dX9_costOf_103 : decode cX9_costOf 103 = .ok (.aload_n 0, 1) := by decide +kernel
theorem dX9_costOf_104 : decode cX9_costOf 104 = .ok (.iload_n 2, 1) := by decide +kernel
theorem dX9_costOf_105 : decode cX9_costOf 105 = .ok (.iload 5, 2) := by decide +kernel
theorem dX9_costOf_107 : decode cX9_costOf 107 = .ok (.invokevirtual 115, 3) := by decide +kernel
theorem dX9_costOf_110 : decode cX9_costOf 110 = .ok (.iload 5, 2) := by decide +kernel
theorem dX9_costOf_112 : decode cX9_costOf 112 = .ok (.invokevirtual 107, 3) := by decide +kernel
theorem dX9_costOf_115 : decode cX9_costOf 115 = .ok (.istore 6, 2) := by decide +kernel
theorem dX9_costOf_117 : decode cX9_costOf 117 = .ok (.iload 6, 2) := by decide +kernel
theorem dX9_costOf_119 : decode cX9_costOf 119 = .ok (.iload 4, 2) := by decide +kernel
theorem dX9_costOf_121 : decode cX9_costOf 121 = .ok (.if_icmp .le 8, 3) := by decide +kernel
theorem dX9_costOf_124 : decode cX9_costOf 124 = .ok (.iload 6, 2) := by decide +kernel
theorem dX9_costOf_126 : decode cX9_costOf 126 = .ok (.goto 5, 3) := by decide +kernel
theorem dX9_costOf_129 : decode cX9_costOf 129 = .ok (.iload 4, 2) := by decide +kernel
theorem dX9_costOf_131 : decode cX9_costOf 131 = .ok (.istore 4, 2) := by decide +kernel
theorem dX9_costOf_133 : decode cX9_costOf 133 = .ok (.iinc 5 1, 3) := by decide +kernel
theorem dX9_costOf_136 : decode cX9_costOf 136 = .ok (.goto (-43), 3) := by decide +kernel
theorem dX9_costOf_139 : decode cX9_costOf 139 = .ok (.iload 4, 2) := by decide +kernel
theorem dX9_costOf_141 : decode cX9_costOf 141 = .ok (.ireturn, 1) := by decide +kernel
theorem dX9_costOf_142 : decode cX9_costOf 142 = .ok (.aload_n 0, 1) := by decide +kernel
theorem dX9_costOf_143 : decode cX9_costOf 143 = .ok (.iload_n 2, 1) := by decide +kernel
theorem dX9_costOf_144 : decode cX9_costOf 144 = .ok (.aload_n 0, 1) := by decide +kernel
theorem dX9_costOf_145 : decode cX9_costOf 145 = .ok (.invokevirtual 118, 3) := by decide +kernel
theorem dX9_costOf_148 : decode cX9_costOf 148 = .ok (.invokevirtual 122, 3) := by decide +kernel
theorem dX9_costOf_151 : decode cX9_costOf 151 = .ok (.aload_n 0, 1) := by decide +kernel
theorem dX9_costOf_152 : decode cX9_costOf 152 = .ok (.iload_n 2, 1) := by decide +kernel
theorem dX9_costOf_153 : decode cX9_costOf 153 = .ok (.invokevirtual 132, 3) := by decide +kernel
theorem dX9_costOf_156 : decode cX9_costOf 156 = .ok (.iadd, 1) := by decide +kernel
theorem dX9_costOf_157 : decode cX9_costOf 157 = .ok (.ireturn, 1) := by decide +kernel
theorem dX9_costOf_158 : decode cX9_costOf 158 = .ok (.aload_n 0, 1) := by decide +kernel
theorem dX9_costOf_159 : decode cX9_costOf 159 = .ok (.iload_n 2, 1) := by decide +kernel
theorem dX9_costOf_160 : decode cX9_costOf 160 = .ok (.invokevirtual 135, 3) := by decide +kernel
theorem dX9_costOf_163 : decode cX9_costOf 163 = .ok (.istore 4, 2) := by decide +kernel
theorem dX9_costOf_165 : decode cX9_costOf 165 = .ok (.iload 4, 2) := by decide +kernel
theorem dX9_costOf_167 : decode cX9_costOf 167 = .ok (.ldc 121, 2) := by decide +kernel
theorem dX9_costOf_169 : decode cX9_costOf 169 = .ok (.if_icmp .ne 8, 3) := by decide +kernel
theorem dX9_costOf_172 : decode cX9_costOf 172 = .ok (.ldc 121, 2) := by decide +kernel
theorem dX9_costOf_174 : decode cX9_costOf 174 = .ok (.goto 11, 3) := by decide +kernel
theorem dX9_costOf_177 : decode cX9_costOf 177 = .ok (.iload 4, 2) := by decide +kernel
theorem dX9_costOf_179 : decode cX9_costOf 179 = .ok (.aload_n 0, 1) := by decide +kernel
theorem dX9_costOf_180 : decode cX9_costOf 180 = .ok (.iload_n 2, 1) := by decide +kernel
theorem dX9_costOf_181 : decode cX9_costOf 181 = .ok (.invokevirtual 132, 3) := by decide +kernel
theorem dX9_costOf_184 : decode cX9_costOf 184 = .ok (.iadd, 1) := by decide +kernel
theorem dX9_costOf_185 : decode cX9_costOf 185 = .ok (.ireturn, 1) := by decide +kernel
theorem dX9_costOf_186 : decode cX9_costOf 186 = .ok (.iconst 0, 1) := by decide +kernel
theorem dX9_costOf_187 : decode cX9_costOf 187 = .ok (.istore 5, 2) := by decide +kernel
theorem dX9_costOf_189 : decode cX9_costOf 189 = .ok (.iload 5, 2) := by decide +kernel
theorem dX9_costOf_191 : decode cX9_costOf 191 = .ok (.aload_n 0, 1) := by decide +kernel
theorem dX9_costOf_192 : decode cX9_costOf 192 = .ok (.getfield 68, 3) := by decide +kernel
theorem dX9_costOf_195 : decode cX9_costOf 195 = .ok (.if_icmp .ge 70, 3) := by decide +kernel
theorem dX9_costOf_198 : decode cX9_costOf 198 = .ok (.iload_n 3, 1) := by decide +kernel
theorem dX9_costOf_199 : decode cX9_costOf 199 = .ok (.ifCond .ne 8, 3) := by decide +kernel
theorem dX9_costOf_202 : decode cX9_costOf 202 = .ok (.ldc 121, 2) := by decide +kernel
theorem dX9_costOf_204 : decode cX9_costOf 204 = .ok (.goto 24, 3) := by decide +kernel
theorem dX9_costOf_207 : decode cX9_costOf 207 = .ok (.aload_n 0, 1) := by decide +kernel
theorem dX9_costOf_208 : decode cX9_costOf 208 = .ok (.getfield 7, 3) := by decide +kernel
theorem dX9_costOf_211 : decode cX9_costOf 211 = .ok (.iload 5, 2) := by decide +kernel
theorem dX9_costOf_213 : decode cX9_costOf 213 = .ok (.iaload, 1) := by decide +kernel
theorem dX9_costOf_214 : decode cX9_costOf 214 = .ok (.aload_n 0, 1) := by decide +kernel
theorem dX9_costOf_215 : decode cX9_costOf 215 = .ok (.aload_n 0, 1) := by decide +kernel
theorem dX9_costOf_216 : decode cX9_costOf 216 = .ok (.iload_n 2, 1) := by decide +kernel
theorem dX9_costOf_217 : decode cX9_costOf 217 = .ok (.iload 5, 2) := by decide +kernel
theorem dX9_costOf_219 : decode cX9_costOf 219 = .ok (.invokevirtual 115, 3) := by decide +kernel
theorem dX9_costOf_222 : decode cX9_costOf 222 = .ok (.iload 5, 2) := by decide +kernel
theorem dX9_costOf_224 : decode cX9_costOf 224 = .ok (.invokevirtual 107, 3) := by decide +kernel
theorem dX9_costOf_227 : decode cX9_costOf 227 = .ok (.imul, 1) := by decide +kernel
theorem dX9_costOf_228 : decode cX9_costOf 228 = .ok (.istore 6, 2) := by decide +kernel
theorem dX9_costOf_230 : decode cX9_costOf 230 = .ok (.iload 4, 2) := by decide +kernel
theorem dX9_costOf_232 : decode cX9_costOf 232 = .ok (.iload 6, 2) := by decide +kernel
theorem dX9_costOf_234 : decode cX9_costOf 234 = .ok (.aload_n 0, 1) := by decide +kernel
theorem dX9_costOf_235 : decode cX9_costOf 235 = .ok (.getfield 13, 3) := by decide +kernel
theorem dX9_costOf_238 : decode cX9_costOf 238 = .ok (.iload 5, 2) := by decide +kernel
theorem dX9_costOf_240 : decode cX9_costOf 240 = .ok (.iaload, 1) := by decide +kernel
theorem dX9_costOf_241 : decode cX9_costOf 241 = .ok (.if_icmp .ge 8, 3) := by decide +kernel
theorem dX9_costOf_244 : decode cX9_costOf 244 = .ok (.iload 6, 2) := by decide +kernel
theorem dX9_costOf_246 : decode cX9_costOf 246 = .ok (.goto 10, 3) := by decide +kernel
theorem dX9_costOf_249 : decode cX9_costOf 249 = .ok (.aload_n 0, 1) := by decide +kernel
theorem dX9_costOf_250 : decode cX9_costOf 250 = .ok (.getfield 13, 3) := by decide +kernel
theorem dX9_costOf_253 : decode cX9_costOf 253 = .ok (.iload 5, 2) := by decide +kernel
theorem dX9_costOf_255 : decode cX9_costOf 255 = .ok (.iaload, 1) := by decide +kernel
theorem dX9_costOf_256 : decode cX9_costOf 256 = .ok (.iadd, 1) := by decide +kernel
theorem dX9_costOf_257 : decode cX9_costOf 257 = .ok (.istore 4, 2) := by decide +kernel
theorem dX9_costOf_259 : decode cX9_costOf 259 = .ok (.iinc 5 1, 3) := by decide +kernel
theorem dX9_costOf_262 : decode cX9_costOf 262 = .ok (.goto (-73), 3) := by decide +kernel
theorem dX9_costOf_265 : decode cX9_costOf 265 = .ok (.iload 4, 2) := by decide +kernel
theorem dX9_costOf_267 : decode cX9_costOf 267 = .ok (.aload_n 0, 1) := by decide +kernel
theorem dX9_costOf_268 : decode cX9_costOf 268 = .ok (.iload_n 2, 1) := by decide +kernel
theorem dX9_costOf_269 : decode cX9_costOf 269 = .ok (.invokevirtual 132, 3) := by decide +kernel
theorem dX9_costOf_272 : decode cX9_costOf 272 = .ok (.iadd, 1) := by decide +kernel
theorem dX9_costOf_273 : decode cX9_costOf 273 = .ok (.ireturn, 1) := by decide +kernel
theorem dX9_costOf_274 : decode cX9_costOf 274 = .ok (.aload_n 0, 1) := by decide +kernel
theorem dX9_costOf_275 : decode cX9_costOf 275 = .ok (.iload_n 2, 1) := by decide +kernel
theorem dX9_costOf_276 : decode cX9_costOf 276 = .ok (.iconst 1, 1) := by decide +kernel
theorem dX9_costOf_277 : decode cX9_costOf 277 = .ok (.aload_n 0, 1) := by decide +kernel
theorem dX9_costOf_278 : decode cX9_costOf 278 = .ok (.iload_n 2, 1) := by decide +kernel
theorem dX9_costOf_279 : decode cX9_costOf 279 = .ok (.invokevirtual 138, 3) := by decide +kernel
theorem dX9_costOf_282 : decode cX9_costOf 282 = .ok (.ishl, 1) := by decide +kernel
theorem dX9_costOf_283 : decode cX9_costOf 283 = .ok (.iconst (-1), 1) := by decide +kernel
theorem dX9_costOf_284 : decode cX9_costOf 284 = .ok (.ixor, 1) := by decide +kernel
theorem dX9_costOf_285 : decode cX9_costOf 285 = .ok (.iand, 1) := by decide +kernel
theorem dX9_costOf_286 : decode cX9_costOf 286 = .ok (.aload_n 0, 1) := by decide +kernel
theorem dX9_costOf_287 : decode cX9_costOf 287 = .ok (.invokevirtual 118, 3) := by decide +kernel
theorem dX9_costOf_290 : decode cX9_costOf 290 = .ok (.invokevirtual 122, 3) := by decide +kernel
theorem dX9_costOf_293 : decode cX9_costOf 293 = .ok (.ireturn, 1) := by decide +kernel
theorem dX9_costOf_294 : decode cX9_costOf 294 = .ok (.aload_n 0, 1) := by decide +kernel
theorem dX9_costOf_295 : decode cX9_costOf 295 = .ok (.iload_n 2, 1) := by decide +kernel
theorem dX9_costOf_296 : decode cX9_costOf 296 = .ok (.invokevirtual 141, 3) := by decide +kernel
theorem dX9_costOf_299 : decode cX9_costOf 299 = .ok (.istore 5, 2) := by decide +kernel
theorem dX9_costOf_301 : decode cX9_costOf 301 = .ok (.iload 5, 2) := by decide +kernel
theorem dX9_costOf_303 : decode cX9_costOf 303 = .ok (.iconst (-1), 1) := by decide +kernel
theorem dX9_costOf_304 : decode cX9_costOf 304 = .ok (.if_icmp .ne 7, 3) := by decide +kernel
theorem dX9_costOf_307 : decode cX9_costOf 307 = .ok (.iconst 0, 1) := by decide +kernel
theorem dX9_costOf_308 : decode cX9_costOf 308 = .ok (.goto 10, 3) := by decide +kernel
theorem dX9_costOf_311 : decode cX9_costOf 311 = .ok (.aload_n 0, 1) := by decide +kernel
theorem dX9_costOf_312 : decode cX9_costOf 312 = .ok (.iload_n 2, 1) := by decide +kernel
theorem dX9_costOf_313 : decode cX9_costOf 313 = .ok (.iload 5, 2) := by decide +kernel
theorem dX9_costOf_315 : decode cX9_costOf 315 = .ok (.invokevirtual 125, 3) := by decide +kernel
theorem dX9_costOf_318 : decode cX9_costOf 318 = .ok (.ireturn, 1) := by decide +kernel
set_option maxRecDepth 20000 in
theorem ggX9_isKind_X9_in : GoodIn wsX9_isKind wsX9_in := goodIn_r _ [4] (by decide +kernel) (by decide +kernel)
set_option maxRecDepth 20000 in
theorem gX9_isKind_X9_in : GoodIn wsX9_isKind (va_wsS RX9 91 yX9_in wsX9_in) := goodIn_app (goodIn_of _ (by decide +kernel)) ggX9_isKind_X9_in
theorem dX9_isKind_0 : decode cX9_isKind 0 = .ok (.iload_n 0, 1) := by decide +kernel
theorem dX9_isKind_1 : decode cX9_isKind 1 = .ok (.iconst 0, 1) := by decide +kernel
theorem dX9_isKind_2 : decode cX9_isKind 2 = .ok (.bipush 6, 2) := by decide +kernel
theorem dX9_isKind_4 : decode cX9_isKind 4 = .ok (.invokestatic 91, 3) := by decide +kernel
theorem dX9_isKind_7 : decode cX9_isKind 7 = .ok (.ireturn, 1) := by decide +kernel
set_option maxRecDepth 20000 in
theorem ggX9_open_X9_allHalls : GoodIn wsX9_open wsX9_allHalls := goodIn_r _ [7, 8, 15, 16, 17, 18, 19, 20, 21, 22, 23, 24, 25, 26, 27, 28, 29, 30, 31, 32, 33, 34, 35, 36, 37, 38, 39, 40, 41, 42] (by decide +kernel) (by decide +kernel)
set_option maxRecDepth 20000 in
theorem gX9_open_X9_allHalls : GoodIn wsX9_open (wsV RX9 87 RX9 yX9_allHalls wsX9_allHalls) := goodIn_app (goodIn_of _ (by decide +kernel)) ggX9_open_X9_allHalls
set_option maxRecDepth 20000 in
theorem ggX9_open_X9_in : GoodIn wsX9_open wsX9_in := goodIn_r _ [11] (by decide +kernel) (by decide +kernel)
set_option maxRecDepth 20000 in
theorem gX9_open_X9_in : GoodIn wsX9_open (va_wsS RX9 91 yX9_in wsX9_in) := goodIn_app (goodIn_of _ (by decide +kernel)) ggX9_open_X9_in
set_option maxRecDepth 20000 in
theorem ggX9_open_X9_sizeOf : GoodIn wsX9_open wsX9_sizeOf := goodIn_r _ [14] (by decide +kernel) (by decide +kernel)
set_option maxRecDepth 20000 in
theorem gX9_open_X9_sizeOf : GoodIn wsX9_open (va_wsS RX9 128 yX9_sizeOf wsX9_sizeOf) := goodIn_app (goodIn_of _ (by decide +kernel)) ggX9_open_X9_sizeOf
theorem dX9_open_0 : decode cX9_open 0 = .ok (.aload_n 0, 1) := by decide +kernel
theorem dX9_open_1 : decode cX9_open 1 = .ok (.iconst 0, 1) := by decide +kernel
theorem dX9_open_2 : decode cX9_open 2 = .ok (.putfield 58, 3) := by decide +kernel
theorem dX9_open_5 : decode cX9_open 5 = .ok (.iload_n 1, 1) := by decide +kernel
theorem dX9_open_6 : decode cX9_open 6 = .ok (.iconst 0, 1) := by decide +kernel
theorem dX9_open_7 : decode cX9_open 7 = .ok (.aload_n 0, 1) := by decide +kernel
theorem dX9_open_8 : decode cX9_open 8 = .ok (.invokevirtual 87, 3) := by decide +kernel
theorem dX9_open_11 : decode cX9_open 11 = .ok (.invokestatic 91, 3) := by decide +kernel
theorem dX9_open_14 : decode cX9_open 14 = .ok (.ifCond .ne 6, 3) := by decide +kernel
theorem dX9_open_17 : decode cX9_open 17 = .ok (.bipush (-3), 2) := by decide +kernel
theorem dX9_open_19 : decode cX9_open 19 = .ok (.ireturn, 1) := by decide +kernel
theorem dX9_open_20 : decode cX9_open 20 = .ok (.aload_n 0, 1) := by decide +kernel
theorem dX9_open_21 : decode cX9_open 21 = .ok (.iload_n 1, 1) := by decide +kernel
theorem dX9_open_22 : decode cX9_open 22 = .ok (.putfield 84, 3) := by decide +kernel
theorem dX9_open_25 : decode cX9_open 25 = .ok (.iload_n 1, 1) := by decide +kernel
theorem dX9_open_26 : decode cX9_open 26 = .ok (.invokestatic 128, 3) := by decide +kernel
theorem dX9_open_29 : decode cX9_open 29 = .ok (.ireturn, 1) := by decide +kernel
theorem dX9_opened_0 : decode cX9_opened 0 = .ok (.aload_n 0, 1) := by decide +kernel
theorem dX9_opened_1 : decode cX9_opened 1 = .ok (.iconst 0, 1) := by decide +kernel
theorem dX9_opened_2 : decode cX9_opened 2 = .ok (.putfield 58, 3) := by decide +kernel
theorem dX9_opened_5 : decode cX9_opened 5 = .ok (.aload_n 0, 1) := by decide +kernel
theorem dX9_opened_6 : decode cX9_opened 6 = .ok (.getfield 84, 3) := by decide +kernel
theorem dX9_opened_9 : decode cX9_opened 9 = .ok (.ireturn, 1) := by decide +kernel
set_option maxRecDepth 20000 in
theorem ggX9_cost_X9_isKind : GoodIn wsX9_cost wsX9_isKind := goodIn_r _ [7, 8, 9, 6, 10] (by decide +kernel) (by decide +kernel)
set_option maxRecDepth 20000 in
theorem gX9_cost_X9_isKind : GoodIn wsX9_cost (va_wsS RX9 144 yX9_isKind wsX9_isKind) := goodIn_app (goodIn_of _ (by decide +kernel)) ggX9_cost_X9_isKind
set_option maxRecDepth 20000 in
theorem ggX9_cost_X9_costOf : GoodIn wsX9_cost wsX9_costOf := goodIn_r _ [14, 15, 3, 16, 17, 18, 19, 6, 20, 21, 22, 23, 24, 25, 26, 27, 28, 29, 30, 31, 32, 33, 34, 35, 36, 37, 38, 39, 40, 41, 42, 43, 44, 45, 46, 47, 48, 49, 50, 51, 52, 53, 54, 55, 56, 57, 58, 59, 60, 61, 62, 63, 64, 65, 66, 67, 68, 69, 70, 71, 72, 73, 74, 75, 76, 77, 78, 79, 80, 81, 82, 83, 84, 85, 86, 87, 88, 89, 90, 91, 92, 93, 94, 95, 96] (by decide +kernel) (by decide +kernel)
set_option maxRecDepth 20000 in
theorem gX9_cost_X9_costOf : GoodIn wsX9_cost (wsV RX9 147 RX9 yX9_costOf wsX9_costOf) := goodIn_app (goodIn_of _ (by decide +kernel)) ggX9_cost_X9_costOf
theorem dX9_cost_0 : decode cX9_cost 0 = .ok (.aload_n 0, 1) := by decide +kernel
theorem dX9_cost_1 : decode cX9_cost 1 = .ok (.iconst 0, 1) := by decide +kernel
theorem dX9_cost_2 : decode cX9_cost 2 = .ok (.putfield 58, 3) := by decide +kernel
theorem dX9_cost_5 : decode cX9_cost 5 = .ok (.iload_n 1, 1) := by decide +kernel
theorem dX9_cost_6 : decode cX9_cost 6 = .ok (.invokestatic 144, 3) := by decide +kernel
theorem dX9_cost_9 : decode cX9_cost 9 = .ok (.ifCond .ne 6, 3) := by decide +kernel
theorem dX9_cost_12 : decode cX9_cost 12 = .ok (.bipush (-3), 2) := by decide +kernel
theorem dX9_cost_14 : decode cX9_cost 14 = .ok (.ireturn, 1) := by decide +kernel
theorem dX9_cost_15 : decode cX9_cost 15 = .ok (.aload_n 0, 1) := by decide +kernel
theorem dX9_cost_16 : decode cX9_cost 16 = .ok (.iload_n 1, 1) := by decide +kernel
theorem dX9_cost_17 : decode cX9_cost 17 = .ok (.aload_n 0, 1) := by decide +kernel
theorem dX9_cost_18 : decode cX9_cost 18 = .ok (.getfield 84, 3) := by decide +kernel
theorem dX9_cost_21 : decode cX9_cost 21 = .ok (.invokevirtual 147, 3) := by decide +kernel
theorem dX9_cost_24 : decode cX9_cost 24 = .ok (.istore_n 2, 1) := by decide +kernel
theorem dX9_cost_25 : decode cX9_cost 25 = .ok (.iload_n 2, 1) := by decide +kernel
theorem dX9_cost_26 : decode cX9_cost 26 = .ok (.ldc 121, 2) := by decide +kernel
theorem dX9_cost_28 : decode cX9_cost 28 = .ok (.if_icmp .ne 7, 3) := by decide +kernel
theorem dX9_cost_31 : decode cX9_cost 31 = .ok (.iconst (-1), 1) := by decide +kernel
theorem dX9_cost_32 : decode cX9_cost 32 = .ok (.goto 4, 3) := by decide +kernel
theorem dX9_cost_35 : decode cX9_cost 35 = .ok (.iload_n 2, 1) := by decide +kernel
theorem dX9_cost_36 : decode cX9_cost 36 = .ok (.ireturn, 1) := by decide +kernel
set_option maxRecDepth 20000 in
theorem ggX9_goFrom_X9_nearest : GoodIn wsX9_goFrom wsX9_nearest := goodIn_r _ [12, 4, 13, 14, 11, 15, 16, 17, 18, 19, 20, 21, 22, 23, 27, 28, 29, 30, 31, 32, 33, 34, 35, 36, 37, 38, 39, 40, 41, 42, 43, 44, 45, 46, 47, 48, 49, 50, 51, 52, 53, 54] (by decide +kernel) (by decide +kernel)
set_option maxRecDepth 20000 in
theorem gX9_goFrom_X9_nearest : GoodIn wsX9_goFrom (wsV RX9 115 RX9 yX9_nearest wsX9_nearest) := goodIn_app (goodIn_of _ (by decide +kernel)) ggX9_goFrom_X9_nearest
set_option maxRecDepth 20000 in
theorem ggX9_goFrom_X9_wayOf : GoodIn wsX9_goFrom wsX9_wayOf := goodIn_r _ [19, 20, 21, 22, 23, 27, 28, 29, 30, 31, 32, 33, 34, 35, 36, 37, 38, 39, 40, 41, 42, 43, 44, 45, 46, 47, 48, 49, 50, 51, 52, 53, 54] (by decide +kernel) (by decide +kernel)
set_option maxRecDepth 20000 in
theorem gX9_goFrom_X9_wayOf : GoodIn wsX9_goFrom (wsV RX9 107 RX9 yX9_wayOf wsX9_wayOf) := goodIn_app (goodIn_of _ (by decide +kernel)) ggX9_goFrom_X9_wayOf
set_option maxRecDepth 20000 in
theorem ggX9_goFrom_X9_has : GoodIn wsX9_goFrom wsX9_has := goodIn_r _ [15] (by decide +kernel) (by decide +kernel)
set_option maxRecDepth 20000 in
theorem gX9_goFrom_X9_has : GoodIn wsX9_goFrom (va_wsS RX9 111 yX9_has wsX9_has) := goodIn_app (goodIn_of _ (by decide +kernel)) ggX9_goFrom_X9_has
set_option maxRecDepth 20000 in
theorem ggX9_goFrom_X9_goFrom : GoodIn wsX9_goFrom wsX9_goFrom := goodIn_r _ [0, 1, 2, 3, 4, 5, 6, 7, 8, 9, 10, 11, 12, 13, 14, 15, 16, 17, 18, 19, 20, 21, 22, 23, 24, 25, 26, 27, 28, 29, 30, 31, 32, 33, 34, 35, 36, 37, 38, 39, 40, 41, 42, 43, 44, 45, 46, 47, 48, 49, 50, 51, 52, 53, 54] (by decide +kernel) (by decide +kernel)
set_option maxRecDepth 20000 in
theorem gX9_goFrom_X9_goFrom : GoodIn wsX9_goFrom (wsV RX9 150 RX9 yX9_goFrom wsX9_goFrom) := goodIn_app (goodIn_of _ (by decide +kernel)) ggX9_goFrom_X9_goFrom
theorem dX9_goFrom_0 : decode cX9_goFrom 0 = .ok (.iload_n 1, 1) := by decide +kernel
theorem dX9_goFrom_1 : decode cX9_goFrom 1 = .ok (.aload_n 0, 1) := by decide +kernel
theorem dX9_goFrom_2 : decode cX9_goFrom 2 = .ok (.getfield 68, 3) := by decide +kernel
theorem dX9_goFrom_5 : decode cX9_goFrom 5 = .ok (.if_icmp .ne 13, 3) := by decide +kernel
theorem dX9_goFrom_8 : decode cX9_goFrom 8 = .ok (.iload_n 2, 1) := by decide +kernel
theorem dX9_goFrom_9 : decode cX9_goFrom 9 = .ok (.ifCond .ne 7, 3) := by decide +kernel
theorem dX9_goFrom_12 : decode cX9_goFrom 12 = .ok (.iconst 1, 1) := by decide +kernel
theorem dX9_goFrom_13 : decode cX9_goFrom 13 = .ok (.goto 4, 3) := by decide +kernel
theorem dX9_goFrom_16 : decode cX9_goFrom 16 = .ok (.iconst 0, 1) := by decide +kernel
theorem dX9_goFrom_17 : decode cX9_goFrom 17 = .ok (.ireturn, 1) := by decide +kernel
theorem dX9_goFrom_18 : decode cX9_goFrom 18 = .ok (.iconst 0, 1) := by decide +kernel
theorem dX9_goFrom_19 : decode cX9_goFrom 19 = .ok (.istore_n 3, 1) := by decide +kernel
theorem dX9_goFrom_20 : decode cX9_goFrom 20 = .ok (.iload_n 1, 1) := by decide +kernel
theorem dX9_goFrom_21 : decode cX9_goFrom 21 = .ok (.istore 4, 2) := by decide +kernel
theorem dX9_goFrom_23 : decode cX9_goFrom 23 = .ok (.iload 4, 2) := by decide +kernel
theorem dX9_goFrom_25 : decode cX9_goFrom 25 = .ok (.aload_n 0, 1) := by decide +kernel
theorem dX9_goFrom_26 : decode cX9_goFrom 26 = .ok (.getfield 68, 3) := by decide +kernel
theorem dX9_goFrom_29 : decode cX9_goFrom 29 = .ok (.if_icmp .ge 36, 3) := by decide +kernel
theorem dX9_goFrom_32 : decode cX9_goFrom 32 = .ok (.iload_n 3, 1) := by decide +kernel
theorem dX9_goFrom_33 : decode cX9_goFrom 33 = .ok (.aload_n 0, 1) := by decide +kernel
theorem dX9_goFrom_34 : decode cX9_goFrom 34 = .ok (.getfield 7, 3) := by decide +kernel
theorem dX9_goFrom_37 : decode cX9_goFrom 37 = .ok (.iload 4, 2) := by decide +kernel
theorem dX9_goFrom_39 : decode cX9_goFrom 39 = .ok (.iaload, 1) := by decide +kernel
theorem dX9_goFrom_40 : decode cX9_goFrom 40 = .ok (.aload_n 0, 1) := by decide +kernel
theorem dX9_goFrom_41 : decode cX9_goFrom 41 = .ok (.aload_n 0, 1) := by decide +kernel
theorem dX9_goFrom_42 : decode cX9_goFrom 42 = .ok (.aload_n 0, 1) := by decide +kernel
theorem dX9_goFrom_43 : decode cX9_goFrom 43 = .ok (.getfield 84, 3) := by decide +kernel
theorem dX9_goFrom_46 : decode cX9_goFrom 46 = .ok (.iload 4, 2) := by decide +kernel
theorem dX9_goFrom_48 : decode cX9_goFrom 48 = .ok (.invokevirtual 115, 3) := by decide +kernel
theorem dX9_goFrom_51 : decode cX9_goFrom 51 = .ok (.iload 4, 2) := by decide +kernel
theorem dX9_goFrom_53 : decode cX9_goFrom 53 = .ok (.invokevirtual 107, 3) := by decide +kernel
theorem dX9_goFrom_56 : decode cX9_goFrom 56 = .ok (.imul, 1) := by decide +kernel
theorem dX9_goFrom_57 : decode cX9_goFrom 57 = .ok (.iadd, 1) := by decide +kernel
theorem dX9_goFrom_58 : decode cX9_goFrom 58 = .ok (.istore_n 3, 1) := by decide +kernel
theorem dX9_goFrom_59 : decode cX9_goFrom 59 = .ok (.iinc 4 1, 3) := by decide +kernel
theorem dX9_goFrom_62 : decode cX9_goFrom 62 = .ok (.goto (-39), 3) := by decide +kernel
theorem dX9_goFrom_65 : decode cX9_goFrom 65 = .ok (.iload_n 3, 1) := by decide +kernel
theorem dX9_goFrom_66 : decode cX9_goFrom 66 = .ok (.iload_n 2, 1) := by decide +kernel
theorem dX9_goFrom_67 : decode cX9_goFrom 67 = .ok (.if_icmp .le 5, 3) := by decide +kernel
theorem dX9_goFrom_70 : decode cX9_goFrom 70 = .ok (.iconst 0, 1) := by decide +kernel
theorem dX9_goFrom_71 : decode cX9_goFrom 71 = .ok (.ireturn, 1) := by decide +kernel
theorem dX9_goFrom_72 : decode cX9_goFrom 72 = .ok (.iconst 0, 1) := by decide +kernel
theorem dX9_goFrom_73 : decode cX9_goFrom 73 = .ok (.istore 4, 2) := by decide +kernel
theorem dX9_goFrom_75 : decode cX9_goFrom 75 = .ok (.iload 4, 2) := by decide +kernel
theorem dX9_goFrom_77 : decode cX9_goFrom 77 = .ok (.aload_n 0, 1) := by decide +kernel
theorem dX9_goFrom_78 : decode cX9_goFrom 78 = .ok (.getfield 71, 3) := by decide +kernel
theorem dX9_goFrom_81 : decode cX9_goFrom 81 = .ok (.if_icmp .ge 117, 3) := by decide +kernel
theorem dX9_goFrom_84 : decode cX9_goFrom 84 = .ok (.aload_n 0, 1) := by decide +kernel
theorem dX9_goFrom_85 : decode cX9_goFrom 85 = .ok (.getfield 84, 3) := by decide +kernel
theorem dX9_goFrom_88 : decode cX9_goFrom 88 = .ok (.iload 4, 2) := by decide +kernel
theorem dX9_goFrom_90 : decode cX9_goFrom 90 = .ok (.invokestatic 111, 3) := by decide +kernel
theorem dX9_goFrom_93 : decode cX9_goFrom 93 = .ok (.ifCond .eq 99, 3) := by decide +kernel
theorem dX9_goFrom_96 : decode cX9_goFrom 96 = .ok (.aload_n 0, 1) := by decide +kernel
theorem dX9_goFrom_97 : decode cX9_goFrom 97 = .ok (.getfield 49, 3) := by decide +kernel
theorem dX9_goFrom_100 : decode cX9_goFrom 100 = .ok (.iload 4, 2) := by decide +kernel
theorem dX9_goFrom_102 : decode cX9_goFrom 102 = .ok (.iaload, 1) := by decide +kernel
theorem dX9_goFrom_103 : decode cX9_goFrom 103 = .ok (.aload_n 0, 1) := by decide +kernel
theorem dX9_goFrom_104 : decode cX9_goFrom 104 = .ok (.getfield 7, 3) := by decide +kernel
theorem dX9_goFrom_107 : decode cX9_goFrom 107 = .ok (.iload_n 1, 1) := by decide +kernel
theorem dX9_goFrom_108 : decode cX9_goFrom 108 = .ok (.iaload, 1) := by decide +kernel
theorem dX9_goFrom_109 : decode cX9_goFrom 109 = .ok (.iadd, 1) := by decide +kernel
theorem dX9_goFrom_110 : decode cX9_goFrom 110 = .ok (.aload_n 0, 1) := by decide +kernel
theorem dX9_goFrom_111 : decode cX9_goFrom 111 = .ok (.getfield 22, 3) := by decide +kernel
theorem dX9_goFrom_114 : decode cX9_goFrom 114 = .ok (.iload 4, 2) := by decide +kernel
theorem dX9_goFrom_116 : decode cX9_goFrom 116 = .ok (.iaload, 1) := by decide +kernel
theorem dX9_goFrom_117 : decode cX9_goFrom 117 = .ok (.if_icmp .gt 75, 3) := by decide +kernel
theorem dX9_goFrom_120 : decode cX9_goFrom 120 = .ok (.aload_n 0, 1) := by decide +kernel
theorem dX9_goFrom_121 : decode cX9_goFrom 121 = .ok (.getfield 46, 3) := by decide +kernel
theorem dX9_goFrom_124 : decode cX9_goFrom 124 = .ok (.iload_n 1, 1) := by decide +kernel
theorem dX9_goFrom_125 : decode cX9_goFrom 125 = .ok (.iload 4, 2) := by decide +kernel
theorem dX9_goFrom_127 : decode cX9_goFrom 127 = .ok (.iastore, 1) := by decide +kernel
theorem dX9_goFrom_128 : decode cX9_goFrom 128 = .ok (.aload_n 0, 1) := by decide +kernel
theorem dX9_goFrom_129 : decode cX9_goFrom 129 = .ok (.getfield 49, 3) := by decide +kernel
theorem dX9_goFrom_132 : decode cX9_goFrom 132 = .ok (.iload 4, 2) := by decide +kernel
theorem dX9_goFrom_134 : decode cX9_goFrom 134 = .ok (.dup2, 1) := by decide +kernel
theorem dX9_goFrom_135 : decode cX9_goFrom 135 = .ok (.iaload, 1) := by decide +kernel
theorem dX9_goFrom_136 : decode cX9_goFrom 136 = .ok (.aload_n 0, 1) := by decide +kernel
theorem dX9_goFrom_137 : decode cX9_goFrom 137 = .ok (.getfield 7, 3) := by decide +kernel
theorem dX9_goFrom_140 : decode cX9_goFrom 140 = .ok (.iload_n 1, 1) := by decide +kernel
theorem dX9_goFrom_141 : decode cX9_goFrom 141 = .ok (.iaload, 1) := by decide +kernel
theorem dX9_goFrom_142 : decode cX9_goFrom 142 = .ok (.iadd, 1) := by decide +kernel
theorem dX9_goFrom_143 : decode cX9_goFrom 143 = .ok (.iastore, 1) := by decide +kernel
theorem dX9_goFrom_144 : decode cX9_goFrom 144 = .ok (.aload_n 0, 1) := by decide +kernel
theorem dX9_goFrom_145 : decode cX9_goFrom 145 = .ok (.iload_n 1, 1) := by decide +kernel
theorem dX9_goFrom_146 : decode cX9_goFrom 146 = .ok (.iconst 1, 1) := by decide +kernel
theorem dX9_goFrom_147 : decode cX9_goFrom 147 = .ok (.iadd, 1) := by decide +kernel
theorem dX9_goFrom_148 : decode cX9_goFrom 148 = .ok (.iload_n 2, 1) := by decide +kernel
theorem dX9_goFrom_149 : decode cX9_goFrom 149 = .ok (.aload_n 0, 1) := by decide +kernel
theorem dX9_goFrom_150 : decode cX9_goFrom 150 = .ok (.getfield 7, 3) := by decide +kernel
theorem dX9_goFrom_153 : decode cX9_goFrom 153 = .ok (.iload_n 1, 1) := by decide +kernel
theorem dX9_goFrom_154 : decode cX9_goFrom 154 = .ok (.iaload, 1) := by decide +kernel
theorem dX9_goFrom_155 : decode cX9_goFrom 155 = .ok (.aload_n 0, 1) := by decide +kernel
theorem dX9_goFrom_156 : decode cX9_goFrom 156 = .ok (.iload 4, 2) := by decide +kernel
theorem dX9_goFrom_158 : decode cX9_goFrom 158 = .ok (.iload_n 1, 1) := by decide +kernel
theorem dX9_goFrom_159 : decode cX9_goFrom 159 = .ok (.invokevirtual 107, 3) := by decide +kernel
theorem dX9_goFrom_162 : decode cX9_goFrom 162 = .ok (.imul, 1) := by decide +kernel
theorem dX9_goFrom_163 : decode cX9_goFrom 163 = .ok (.isub, 1) := by decide +kernel
theorem dX9_goFrom_164 : decode cX9_goFrom 164 = .ok (.invokevirtual 150, 3) := by decide +kernel
theorem dX9_goFrom_167 : decode cX9_goFrom 167 = .ok (.istore 5, 2) := by decide +kernel
theorem dX9_goFrom_169 : decode cX9_goFrom 169 = .ok (.aload_n 0, 1) := by decide +kernel
theorem dX9_goFrom_170 : decode cX9_goFrom 170 = .ok (.getfield 49, 3) := by decide +kernel
theorem dX9_goFrom_173 : decode cX9_goFrom 173 = .ok (.iload 4, 2) := by decide +kernel
theorem dX9_goFrom_175 : decode cX9_goFrom 175 = .ok (.dup2, 1) := by decide +kernel
theorem dX9_goFrom_176 : decode cX9_goFrom 176 = .ok (.iaload, 1) := by decide +kernel
theorem dX9_goFrom_177 : decode cX9_goFrom 177 = .ok (.aload_n 0, 1) := by decide +kernel
theorem dX9_goFrom_178 : decode cX9_goFrom 178 = .ok (.getfield 7, 3) := by decide +kernel
theorem dX9_goFrom_181 : decode cX9_goFrom 181 = .ok (.iload_n 1, 1) := by decide +kernel
theorem dX9_goFrom_182 : decode cX9_goFrom 182 = .ok (.iaload, 1) := by decide +kernel
theorem dX9_goFrom_183 : decode cX9_goFrom 183 = .ok (.isub, 1) := by decide +kernel
theorem dX9_goFrom_184 : decode cX9_goFrom 184 = .ok (.iastore, 1) := by decide +kernel
theorem dX9_goFrom_185 : decode cX9_goFrom 185 = .ok (.iload 5, 2) := by decide +kernel
theorem dX9_goFrom_187 : decode cX9_goFrom 187 = .ok (.ifCond .eq 5, 3) := by decide +kernel
theorem dX9_goFrom_190 : decode cX9_goFrom 190 = .ok (.iconst 1, 1) := by decide +kernel
theorem dX9_goFrom_191 : decode cX9_goFrom 191 = .ok (.ireturn, 1) := by decide +kernel
theorem dX9_goFrom_192 : decode cX9_goFrom 192 = .ok (.iinc 4 1, 3) := by decide +kernel
theorem dX9_goFrom_195 : decode cX9_goFrom 195 = .ok (.goto (-120), 3) := by decide +kernel
theorem dX9_goFrom_198 : decode cX9_goFrom 198 = .ok (.iconst 0, 1) := by decide +kernel
theorem dX9_goFrom_199 : decode cX9_goFrom 199 = .ok (.ireturn, 1) := by decide +kernel
set_option maxRecDepth 20000 in
theorem ggX9_goes_X9_in : GoodIn wsX9_goes wsX9_in := goodIn_r _ [10] (by decide +kernel) (by decide +kernel)
set_option maxRecDepth 20000 in
theorem gX9_goes_X9_in : GoodIn wsX9_goes (va_wsS RX9 91 yX9_in wsX9_in) := goodIn_app (goodIn_of _ (by decide +kernel)) ggX9_goes_X9_in
set_option maxRecDepth 20000 in
theorem ggX9_goes_X9_isTown : GoodIn wsX9_goes wsX9_isTown := goodIn_r _ [14, 15, 7, 8, 9, 10, 76, 77, 78, 79, 80, 81, 82, 83, 84, 85, 86, 87, 88, 89, 90, 91, 92, 93, 94, 95, 96, 97, 98, 99, 100, 101, 102, 103] (by decide +kernel) (by decide +kernel)
set_option maxRecDepth 20000 in
theorem gX9_goes_X9_isTown : GoodIn wsX9_goes (wsV RX9 98 RX9 yX9_isTown wsX9_isTown) := goodIn_app (goodIn_of _ (by decide +kernel)) ggX9_goes_X9_isTown
set_option maxRecDepth 20000 in
theorem ggX9_goes_X9_costOf : GoodIn wsX9_goes wsX9_costOf := goodIn_r _ [19, 15, 3, 5, 4, 20, 21, 9, 22, 23, 24, 25, 26, 27, 28, 29, 30, 31, 32, 33, 34, 35, 36, 37, 38, 39, 40, 41, 42, 43, 44, 45, 46, 47, 48, 49, 50, 51, 52, 53, 54, 55, 56, 57, 58, 59, 60, 61, 62, 63, 64, 65, 66, 67, 68, 69, 70, 76, 77, 78, 79, 80, 81, 82, 83, 84, 85, 86, 87, 88, 89, 90, 91, 92, 93, 94, 95, 96, 97, 98, 99, 100, 101, 102, 103] (by decide +kernel) (by decide +kernel)
set_option maxRecDepth 20000 in
theorem gX9_goes_X9_costOf : GoodIn wsX9_goes (wsV RX9 147 RX9 yX9_costOf wsX9_costOf) := goodIn_app (goodIn_of _ (by decide +kernel)) ggX9_goes_X9_costOf
set_option maxRecDepth 20000 in
theorem ggX9_goes_X9_nearest : GoodIn wsX9_goes wsX9_nearest := goodIn_r _ [37, 38, 31, 32, 9, 33, 39, 40, 41, 42, 43, 44, 45, 46, 76, 77, 78, 79, 80, 81, 82, 83, 84, 85, 86, 87, 88, 89, 90, 91, 92, 93, 94, 95, 96, 97, 98, 99, 100, 101, 102, 103] (by decide +kernel) (by decide +kernel)
set_option maxRecDepth 20000 in
theorem gX9_goes_X9_nearest : GoodIn wsX9_goes (wsV RX9 115 RX9 yX9_nearest wsX9_nearest) := goodIn_app (goodIn_of _ (by decide +kernel)) ggX9_goes_X9_nearest
set_option maxRecDepth 20000 in
theorem ggX9_goes_X9_wayOf : GoodIn wsX9_goes wsX9_wayOf := goodIn_r _ [42, 43, 44, 45, 46, 76, 77, 78, 79, 80, 81, 82, 83, 84, 85, 86, 87, 88, 89, 90, 91, 92, 93, 94, 95, 96, 97, 98, 99, 100, 101, 102, 103] (by decide +kernel) (by decide +kernel)
set_option maxRecDepth 20000 in
theorem gX9_goes_X9_wayOf : GoodIn wsX9_goes (wsV RX9 107 RX9 yX9_wayOf wsX9_wayOf) := goodIn_app (goodIn_of _ (by decide +kernel)) ggX9_goes_X9_wayOf
set_option maxRecDepth 20000 in
theorem ggX9_goes_X9_roomedOf : GoodIn wsX9_goes wsX9_roomedOf := goodIn_r _ [55, 56, 3, 38, 15, 5, 57, 58, 23, 24, 25, 9, 26, 31, 32, 33, 39, 40, 41, 42, 43, 44, 45, 46, 76, 77, 78, 79, 80, 81, 82, 83, 84, 85, 86, 87, 88, 89, 90, 91, 92, 93, 94, 95, 96, 97, 98, 99, 100, 101, 102, 103] (by decide +kernel) (by decide +kernel)
set_option maxRecDepth 20000 in
theorem gX9_goes_X9_roomedOf : GoodIn wsX9_goes (wsV RX9 135 RX9 yX9_roomedOf wsX9_roomedOf) := goodIn_app (goodIn_of _ (by decide +kernel)) ggX9_goes_X9_roomedOf
set_option maxRecDepth 20000 in
theorem ggX9_goes_X9_goFrom : GoodIn wsX9_goes wsX9_goFrom := goodIn_r _ [74, 15, 5, 2, 38, 75, 58, 6, 34, 35, 36, 9, 37, 31, 32, 33, 39, 40, 41, 42, 43, 44, 45, 46, 71, 72, 73, 76, 77, 78, 79, 80, 81, 82, 83, 84, 85, 86, 87, 88, 89, 90, 91, 92, 93, 94, 95, 96, 97, 98, 99, 100, 101, 102, 103] (by decide +kernel) (by decide +kernel)
set_option maxRecDepth 20000 in
theorem gX9_goes_X9_goFrom : GoodIn wsX9_goes (wsV RX9 150 RX9 yX9_goFrom wsX9_goFrom) := goodIn_app (goodIn_of _ (by decide +kernel)) ggX9_goes_X9_goFrom
theorem dX9_goes_0 : decode cX9_goes 0 = .ok (.aload_n 0, 1) := by decide +kernel
theorem dX9_goes_1 : decode cX9_goes 1 = .ok (.iconst 0, 1) := by decide +kernel
theorem dX9_goes_2 : decode cX9_goes 2 = .ok (.putfield 58, 3) := by decide +kernel
theorem dX9_goes_5 : decode cX9_goes 5 = .ok (.iload_n 1, 1) := by decide +kernel
theorem dX9_goes_6 : decode cX9_goes 6 = .ok (.iconst 0, 1) := by decide +kernel
theorem dX9_goes_7 : decode cX9_goes 7 = .ok (.iconst 4, 1) := by decide +kernel
theorem dX9_goes_8 : decode cX9_goes 8 = .ok (.invokestatic 91, 3) := by decide +kernel
theorem dX9_goes_11 : decode cX9_goes 11 = .ok (.ifCond .eq 11, 3) := by decide +kernel
theorem dX9_goes_14 : decode cX9_goes 14 = .ok (.aload_n 0, 1) := by decide +kernel
theorem dX9_goes_15 : decode cX9_goes 15 = .ok (.iload_n 2, 1) := by decide +kernel
theorem dX9_goes_16 : decode cX9_goes 16 = .ok (.invokevirtual 98, 3) := by decide +kernel
theorem dX9_goes_19 : decode cX9_goes 19 = .ok (.ifCond .ne 6, 3) := by decide +kernel
theorem dX9_goes_22 : decode cX9_goes 22 = .ok (.bipush (-3), 2) := by decide +kernel
theorem dX9_goes_24 : decode cX9_goes 24 = .ok (.ireturn, 1) := by decide +kernel
theorem dX9_goes_25 : decode cX9_goes 25 = .ok (.aload_n 0, 1) := by decide +kernel
theorem dX9_goes_26 : decode cX9_goes 26 = .ok (.iload_n 1, 1) := by decide +kernel
theorem dX9_goes_27 : decode cX9_goes 27 = .ok (.aload_n 0, 1) := by decide +kernel
theorem dX9_goes_28 : decode cX9_goes 28 = .ok (.getfield 84, 3) := by decide +kernel
theorem dX9_goes_31 : decode cX9_goes 31 = .ok (.invokevirtual 147, 3) := by decide +kernel
theorem dX9_goes_34 : decode cX9_goes 34 = .ok (.ldc 121, 2) := by decide +kernel
theorem dX9_goes_36 : decode cX9_goes 36 = .ok (.if_icmp .ne 5, 3) := by decide +kernel
theorem dX9_goes_39 : decode cX9_goes 39 = .ok (.iconst (-1), 1) := by decide +kernel
theorem dX9_goes_40 : decode cX9_goes 40 = .ok (.ireturn, 1) := by decide +kernel
theorem dX9_goes_41 : decode cX9_goes 41 = .ok (.aload_n 0, 1) := by decide +kernel
theorem dX9_goes_42 : decode cX9_goes 42 = .ok (.aload_n 0, 1) := by decide +kernel
theorem dX9_goes_43 : decode cX9_goes 43 = .ok (.getfield 84, 3) := by decide +kernel
theorem dX9_goes_46 : decode cX9_goes 46 = .ok (.iload_n 2, 1) := by decide +kernel
theorem dX9_goes_47 : decode cX9_goes 47 = .ok (.invokevirtual 115, 3) := by decide +kernel
theorem dX9_goes_50 : decode cX9_goes 50 = .ok (.istore_n 3, 1) := by decide +kernel
theorem dX9_goes_51 : decode cX9_goes 51 = .ok (.iload_n 1, 1) := by decide +kernel
theorem dX9_goes_52 : decode cX9_goes 52 = .ok (.iconst 4, 1) := by decide +kernel
theorem dX9_goes_53 : decode cX9_goes 53 = .ok (.if_icmp .ne 36, 3) := by decide +kernel
theorem dX9_goes_56 : decode cX9_goes 56 = .ok (.iload_n 3, 1) := by decide +kernel
theorem dX9_goes_57 : decode cX9_goes 57 = .ok (.iconst (-1), 1) := by decide +kernel
theorem dX9_goes_58 : decode cX9_goes 58 = .ok (.if_icmp .eq 25, 3) := by decide +kernel
theorem dX9_goes_61 : decode cX9_goes 61 = .ok (.aload_n 0, 1) := by decide +kernel
theorem dX9_goes_62 : decode cX9_goes 62 = .ok (.getfield 13, 3) := by decide +kernel
theorem dX9_goes_65 : decode cX9_goes 65 = .ok (.iload_n 2, 1) := by decide +kernel
theorem dX9_goes_66 : decode cX9_goes 66 = .ok (.iaload, 1) := by decide +kernel
theorem dX9_goes_67 : decode cX9_goes 67 = .ok (.aload_n 0, 1) := by decide +kernel
theorem dX9_goes_68 : decode cX9_goes 68 = .ok (.getfield 7, 3) := by decide +kernel
theorem dX9_goes_71 : decode cX9_goes 71 = .ok (.iload_n 2, 1) := by decide +kernel
theorem dX9_goes_72 : decode cX9_goes 72 = .ok (.iaload, 1) := by decide +kernel
theorem dX9_goes_73 : decode cX9_goes 73 = .ok (.aload_n 0, 1) := by decide +kernel
theorem dX9_goes_74 : decode cX9_goes 74 = .ok (.iload_n 3, 1) := by decide +kernel
theorem dX9_goes_75 : decode cX9_goes 75 = .ok (.iload_n 2, 1) := by decide +kernel
theorem dX9_goes_76 : decode cX9_goes 76 = .ok (.invokevirtual 107, 3) := by decide +kernel
theorem dX9_goes_79 : decode cX9_goes 79 = .ok (.imul, 1) := by decide +kernel
theorem dX9_goes_80 : decode cX9_goes 80 = .ok (.if_icmp .ge 7, 3) := by decide +kernel
theorem dX9_goes_83 : decode cX9_goes 83 = .ok (.iconst (-1), 1) := by decide +kernel
theorem dX9_goes_84 : decode cX9_goes 84 = .ok (.goto 4, 3) := by decide +kernel
theorem dX9_goes_87 : decode cX9_goes 87 = .ok (.iload_n 3, 1) := by decide +kernel
theorem dX9_goes_88 : decode cX9_goes 88 = .ok (.ireturn, 1) := by decide +kernel
theorem dX9_goes_89 : decode cX9_goes 89 = .ok (.iload_n 1, 1) := by decide +kernel
theorem dX9_goes_90 : decode cX9_goes 90 = .ok (.iconst 3, 1) := by decide +kernel
theorem dX9_goes_91 : decode cX9_goes 91 = .ok (.if_icmp .ge 5, 3) := by decide +kernel
theorem dX9_goes_94 : decode cX9_goes 94 = .ok (.iload_n 3, 1) := by decide +kernel
theorem dX9_goes_95 : decode cX9_goes 95 = .ok (.ireturn, 1) := by decide +kernel
theorem dX9_goes_96 : decode cX9_goes 96 = .ok (.aload_n 0, 1) := by decide +kernel
theorem dX9_goes_97 : decode cX9_goes 97 = .ok (.iconst 0, 1) := by decide +kernel
theorem dX9_goes_98 : decode cX9_goes 98 = .ok (.aload_n 0, 1) := by decide +kernel
theorem dX9_goes_99 : decode cX9_goes 99 = .ok (.aload_n 0, 1) := by decide +kernel
theorem dX9_goes_100 : decode cX9_goes 100 = .ok (.getfield 84, 3) := by decide +kernel
theorem dX9_goes_103 : decode cX9_goes 103 = .ok (.invokevirtual 135, 3) := by decide +kernel
theorem dX9_goes_106 : decode cX9_goes 106 = .ok (.invokevirtual 150, 3) := by decide +kernel
theorem dX9_goes_109 : decode cX9_goes 109 = .ok (.istore 4, 2) := by decide +kernel
theorem dX9_goes_111 : decode cX9_goes 111 = .ok (.aload_n 0, 1) := by decide +kernel
theorem dX9_goes_112 : decode cX9_goes 112 = .ok (.getfield 46, 3) := by decide +kernel
theorem dX9_goes_115 : decode cX9_goes 115 = .ok (.iload_n 2, 1) := by decide +kernel
theorem dX9_goes_116 : decode cX9_goes 116 = .ok (.iaload, 1) := by decide +kernel
theorem dX9_goes_117 : decode cX9_goes 117 = .ok (.ireturn, 1) := by decide +kernel
set_option maxRecDepth 20000 in
theorem ggX9_worst_X9_costOf : GoodIn wsX9_worst wsX9_costOf := goodIn_r _ [8, 9, 3, 10, 11, 12, 13, 7, 14, 15, 16, 17, 18, 19, 20, 21, 22, 23, 24, 25, 26, 27, 28, 29, 30, 31, 32, 33, 34, 35, 36, 37, 38, 39, 40, 41, 42, 43, 44, 45, 46, 47, 48, 49, 50, 51, 52, 53, 54, 55, 56, 57, 58, 59, 60, 61, 62, 63, 64, 65, 66, 67, 68, 69, 70, 71, 72, 73, 74, 75, 76, 77, 78, 79, 80, 81, 82, 83, 84, 85, 86, 87, 88, 89, 90] (by decide +kernel) (by decide +kernel)
set_option maxRecDepth 20000 in
theorem gX9_worst_X9_costOf : GoodIn wsX9_worst (wsV RX9 147 RX9 yX9_costOf wsX9_costOf) := goodIn_app (goodIn_of _ (by decide +kernel)) ggX9_worst_X9_costOf
set_option maxRecDepth 20000 in
theorem ggX9_worst_X9_worstClosed : GoodIn wsX9_worst wsX9_worstClosed := goodIn_r _ [54, 30, 23, 24, 7, 25, 15, 16, 17, 18, 9, 19, 20, 21, 22, 10, 26, 27, 28, 29, 31, 32, 33, 34, 35, 36, 37, 38, 63, 64, 65, 66, 67, 68, 69, 70, 71, 72, 73, 74, 75, 76, 77, 78, 79, 80, 81, 82, 83, 84, 85, 86, 87, 88, 89, 90] (by decide +kernel) (by decide +kernel)
set_option maxRecDepth 20000 in
theorem gX9_worst_X9_worstClosed : GoodIn wsX9_worst (wsV RX9 138 RX9 yX9_worstClosed wsX9_worstClosed) := goodIn_app (goodIn_of _ (by decide +kernel)) ggX9_worst_X9_worstClosed
set_option maxRecDepth 20000 in
theorem ggX9_worst_X9_worstRival : GoodIn wsX9_worst wsX9_worstRival := goodIn_r _ [58, 30, 23, 24, 7, 25, 59, 60, 61, 62, 9, 10, 31, 32, 33, 34, 35, 36, 37, 38, 26, 27, 28, 29, 63, 64, 65, 66, 67, 68, 69, 70, 71, 72, 73, 74, 75, 76, 77, 78, 79, 80, 81, 82, 83, 84, 85, 86, 87, 88, 89, 90] (by decide +kernel) (by decide +kernel)
set_option maxRecDepth 20000 in
theorem gX9_worst_X9_worstRival : GoodIn wsX9_worst (wsV RX9 141 RX9 yX9_worstRival wsX9_worstRival) := goodIn_app (goodIn_of _ (by decide +kernel)) ggX9_worst_X9_worstRival
theorem dX9_worst_0 : decode cX9_worst 0 = .ok (.aload_n 0, 1) := by decide +kernel
theorem dX9_worst_1 : decode cX9_worst 1 = .ok (.iconst 0, 1) := by decide +kernel
theorem dX9_worst_2 : decode cX9_worst 2 = .ok (.putfield 58, 3) := by decide +kernel
theorem dX9_worst_5 : decode cX9_worst 5 = .ok (.iload_n 1, 1) := by decide +kernel
theorem dX9_worst_6 : decode cX9_worst 6 = .ok (.iconst 5, 1) := by decide +kernel
theorem dX9_worst_7 : decode cX9_worst 7 = .ok (.if_icmp .eq 12, 3) := by decide +kernel
theorem dX9_worst_10 : decode cX9_worst 10 = .ok (.iload_n 1, 1) := by decide +kernel
theorem dX9_worst_11 : decode cX9_worst 11 = .ok (.bipush 6, 2) := by decide +kernel
theorem dX9_worst_13 : decode cX9_worst 13 = .ok (.if_icmp .eq 6, 3) := by decide +kernel
theorem dX9_worst_16 : decode cX9_worst 16 = .ok (.bipush (-3), 2) := by decide +kernel
theorem dX9_worst_18 : decode cX9_worst 18 = .ok (.ireturn, 1) := by decide +kernel
theorem dX9_worst_19 : decode cX9_worst 19 = .ok (.aload_n 0, 1) := by decide +kernel
theorem dX9_worst_20 : decode cX9_worst 20 = .ok (.iload_n 1, 1) := by decide +kernel
theorem dX9_worst_21 : decode cX9_worst 21 = .ok (.aload_n 0, 1) := by decide +kernel
theorem dX9_worst_22 : decode cX9_worst 22 = .ok (.getfield 84, 3) := by decide +kernel
theorem dX9_worst_25 : decode cX9_worst 25 = .ok (.invokevirtual 147, 3) := by decide +kernel
theorem dX9_worst_28 : decode cX9_worst 28 = .ok (.ldc 121, 2) := by decide +kernel
theorem dX9_worst_30 : decode cX9_worst 30 = .ok (.if_icmp .ne 5, 3) := by decide +kernel
theorem dX9_worst_33 : decode cX9_worst 33 = .ok (.iconst (-1), 1) := by decide +kernel
theorem dX9_worst_34 : decode cX9_worst 34 = .ok (.ireturn, 1) := by decide +kernel
theorem dX9_worst_35 : decode cX9_worst 35 = .ok (.iload_n 1, 1) := by decide +kernel
theorem dX9_worst_36 : decode cX9_worst 36 = .ok (.iconst 5, 1) := by decide +kernel
theorem dX9_worst_37 : decode cX9_worst 37 = .ok (.if_icmp .ne 14, 3) := by decide +kernel
theorem dX9_worst_40 : decode cX9_worst 40 = .ok (.aload_n 0, 1) := by decide +kernel
theorem dX9_worst_41 : decode cX9_worst 41 = .ok (.aload_n 0, 1) := by decide +kernel
theorem dX9_worst_42 : decode cX9_worst 42 = .ok (.getfield 84, 3) := by decide +kernel
theorem dX9_worst_45 : decode cX9_worst 45 = .ok (.invokevirtual 138, 3) := by decide +kernel
theorem dX9_worst_48 : decode cX9_worst 48 = .ok (.goto 11, 3) := by decide +kernel
theorem dX9_worst_51 : decode cX9_worst 51 = .ok (.aload_n 0, 1) := by decide +kernel
theorem dX9_worst_52 : decode cX9_worst 52 = .ok (.aload_n 0, 1) := by decide +kernel
theorem dX9_worst_53 : decode cX9_worst 53 = .ok (.getfield 84, 3) := by decide +kernel
theorem dX9_worst_56 : decode cX9_worst 56 = .ok (.invokevirtual 141, 3) := by decide +kernel
theorem dX9_worst_59 : decode cX9_worst 59 = .ok (.ireturn, 1) := by decide +kernel
set_option maxRecDepth 20000 in
theorem ggX9_search_X9_allHalls : GoodIn wsX9_search wsX9_allHalls := goodIn_r _ [9, 10, 68, 69, 70, 71, 72, 73, 74, 75, 76, 77, 78, 79, 80, 81, 82, 83, 84, 85, 86, 87, 88, 89, 90, 91, 92, 93, 94, 95] (by decide +kernel) (by decide +kernel)
set_option maxRecDepth 20000 in
theorem gX9_search_X9_allHalls : GoodIn wsX9_search (wsV RX9 87 RX9 yX9_allHalls wsX9_allHalls) := goodIn_app (goodIn_of _ (by decide +kernel)) ggX9_search_X9_allHalls
set_option maxRecDepth 20000 in
theorem ggX9_search_X9_sizeOf : GoodIn wsX9_search wsX9_sizeOf := goodIn_r _ [13] (by decide +kernel) (by decide +kernel)
set_option maxRecDepth 20000 in
theorem gX9_search_X9_sizeOf : GoodIn wsX9_search (va_wsS RX9 128 yX9_sizeOf wsX9_sizeOf) := goodIn_app (goodIn_of _ (by decide +kernel)) ggX9_search_X9_sizeOf
set_option maxRecDepth 20000 in
theorem ggX9_search_X9_costOf : GoodIn wsX9_search wsX9_costOf := goodIn_r _ [17, 18, 1, 19, 20, 11, 12, 8, 13, 21, 22, 23, 24, 25, 26, 27, 28, 29, 30, 31, 32, 33, 34, 35, 10, 36, 37, 38, 39, 40, 41, 42, 43, 44, 45, 46, 47, 48, 49, 50, 51, 52, 53, 54, 55, 56, 57, 58, 59, 60, 61, 62, 63, 64, 65, 66, 67, 68, 69, 70, 71, 72, 73, 74, 75, 76, 77, 78, 79, 80, 81, 82, 83, 84, 85, 86, 87, 88, 89, 90, 91, 92, 93, 94, 95] (by decide +kernel) (by decide +kernel)
set_option maxRecDepth 20000 in
theorem gX9_search_X9_costOf : GoodIn wsX9_search (wsV RX9 147 RX9 yX9_costOf wsX9_costOf) := goodIn_app (goodIn_of _ (by decide +kernel)) ggX9_search_X9_costOf
theorem dX9_search_0 : decode cX9_search 0 = .ok (.aload_n 0, 1) := by decide +kernel
theorem dX9_search_1 : decode cX9_search 1 = .ok (.ldc 121, 2) := by decide +kernel
theorem dX9_search_3 : decode cX9_search 3 = .ok (.putfield 153, 3) := by decide +kernel
theorem dX9_search_6 : decode cX9_search 6 = .ok (.aload_n 0, 1) := by decide +kernel
theorem dX9_search_7 : decode cX9_search 7 = .ok (.iconst 0, 1) := by decide +kernel
theorem dX9_search_8 : decode cX9_search 8 = .ok (.putfield 156, 3) := by decide +kernel
theorem dX9_search_11 : decode cX9_search 11 = .ok (.aload_n 0, 1) := by decide +kernel
theorem dX9_search_12 : decode cX9_search 12 = .ok (.iconst (-1), 1) := by decide +kernel
theorem dX9_search_13 : decode cX9_search 13 = .ok (.putfield 159, 3) := by decide +kernel
theorem dX9_search_16 : decode cX9_search 16 = .ok (.iconst 0, 1) := by decide +kernel
theorem dX9_search_17 : decode cX9_search 17 = .ok (.istore 4, 2) := by decide +kernel
theorem dX9_search_19 : decode cX9_search 19 = .ok (.iload 4, 2) := by decide +kernel
theorem dX9_search_21 : decode cX9_search 21 = .ok (.aload_n 0, 1) := by decide +kernel
theorem dX9_search_22 : decode cX9_search 22 = .ok (.invokevirtual 87, 3) := by decide +kernel
theorem dX9_search_25 : decode cX9_search 25 = .ok (.if_icmp .gt 104, 3) := by decide +kernel
theorem dX9_search_28 : decode cX9_search 28 = .ok (.iload_n 2, 1) := by decide +kernel
theorem dX9_search_29 : decode cX9_search 29 = .ok (.iconst (-1), 1) := by decide +kernel
theorem dX9_search_30 : decode cX9_search 30 = .ok (.if_icmp .eq 12, 3) := by decide +kernel
theorem dX9_search_33 : decode cX9_search 33 = .ok (.iload 4, 2) := by decide +kernel
theorem dX9_search_35 : decode cX9_search 35 = .ok (.invokestatic 128, 3) := by decide +kernel
theorem dX9_search_38 : decode cX9_search 38 = .ok (.iload_n 2, 1) := by decide +kernel
theorem dX9_search_39 : decode cX9_search 39 = .ok (.if_icmp .ne 84, 3) := by decide +kernel
theorem dX9_search_42 : decode cX9_search 42 = .ok (.aload_n 0, 1) := by decide +kernel
theorem dX9_search_43 : decode cX9_search 43 = .ok (.iload_n 1, 1) := by decide +kernel
theorem dX9_search_44 : decode cX9_search 44 = .ok (.iload 4, 2) := by decide +kernel
theorem dX9_search_46 : decode cX9_search 46 = .ok (.invokevirtual 147, 3) := by decide +kernel
theorem dX9_search_49 : decode cX9_search 49 = .ok (.istore 5, 2) := by decide +kernel
theorem dX9_search_51 : decode cX9_search 51 = .ok (.iload 5, 2) := by decide +kernel
theorem dX9_search_53 : decode cX9_search 53 = .ok (.aload_n 0, 1) := by decide +kernel
theorem dX9_search_54 : decode cX9_search 54 = .ok (.getfield 153, 3) := by decide +kernel
theorem dX9_search_57 : decode cX9_search 57 = .ok (.if_icmp .ge 19, 3) := by decide +kernel
theorem dX9_search_60 : decode cX9_search 60 = .ok (.aload_n 0, 1) := by decide +kernel
theorem dX9_search_61 : decode cX9_search 61 = .ok (.iload 5, 2) := by decide +kernel
theorem dX9_search_63 : decode cX9_search 63 = .ok (.putfield 153, 3) := by decide +kernel
theorem dX9_search_66 : decode cX9_search 66 = .ok (.aload_n 0, 1) := by decide +kernel
theorem dX9_search_67 : decode cX9_search 67 = .ok (.iconst 0, 1) := by decide +kernel
theorem dX9_search_68 : decode cX9_search 68 = .ok (.putfield 156, 3) := by decide +kernel
theorem dX9_search_71 : decode cX9_search 71 = .ok (.aload_n 0, 1) := by decide +kernel
theorem dX9_search_72 : decode cX9_search 72 = .ok (.iconst (-1), 1) := by decide +kernel
theorem dX9_search_73 : decode cX9_search 73 = .ok (.putfield 159, 3) := by decide +kernel
theorem dX9_search_76 : decode cX9_search 76 = .ok (.iload 5, 2) := by decide +kernel
theorem dX9_search_78 : decode cX9_search 78 = .ok (.aload_n 0, 1) := by decide +kernel
theorem dX9_search_79 : decode cX9_search 79 = .ok (.getfield 153, 3) := by decide +kernel
theorem dX9_search_82 : decode cX9_search 82 = .ok (.if_icmp .ne 41, 3) := by decide +kernel
theorem dX9_search_85 : decode cX9_search 85 = .ok (.iload 5, 2) := by decide +kernel
theorem dX9_search_87 : decode cX9_search 87 = .ok (.ldc 121, 2) := by decide +kernel
theorem dX9_search_89 : decode cX9_search 89 = .ok (.if_icmp .ge 34, 3) := by decide +kernel
theorem dX9_search_92 : decode cX9_search 92 = .ok (.aload_n 0, 1) := by decide +kernel
theorem dX9_search_93 : decode cX9_search 93 = .ok (.aload_n 0, 1) := by decide +kernel
theorem dX9_search_94 : decode cX9_search 94 = .ok (.getfield 156, 3) := by decide +kernel
theorem dX9_search_97 : decode cX9_search 97 = .ok (.iload_n 3, 1) := by decide +kernel
theorem dX9_search_98 : decode cX9_search 98 = .ok (.if_icmp .ne 8, 3) := by decide +kernel
theorem dX9_search_101 : decode cX9_search 101 = .ok (.iload 4, 2) := by decide +kernel
theorem dX9_search_103 : decode cX9_search 103 = .ok (.goto 7, 3) := by decide +kernel
theorem dX9_search_106 : decode cX9_search 106 = .ok (.aload_n 0, 1) := by decide +kernel
theorem dX9_search_107 : decode cX9_search 107 = .ok (.getfield 159, 3) := by decide +kernel
theorem dX9_search_110 : decode cX9_search 110 = .ok (.putfield 159, 3) := by decide +kernel
theorem dX9_search_113 : decode cX9_search 113 = .ok (.aload_n 0, 1) := by decide +kernel
theorem dX9_search_114 : decode cX9_search 114 = .ok (.dup, 1) := by decide +kernel
theorem dX9_search_115 : decode cX9_search 115 = .ok (.getfield 156, 3) := by decide +kernel
theorem dX9_search_118 : decode cX9_search 118 = .ok (.iconst 1, 1) := by decide +kernel
theorem dX9_search_119 : decode cX9_search 119 = .ok (.iadd, 1) := by decide +kernel
theorem dX9_search_120 : decode cX9_search 120 = .ok (.putfield 156, 3) := by decide +kernel
theorem dX9_search_123 : decode cX9_search 123 = .ok (.iinc 4 1, 3) := by decide +kernel
theorem dX9_search_126 : decode cX9_search 126 = .ok (.goto (-107), 3) := by decide +kernel
theorem dX9_search_129 : decode cX9_search 129 = .ok (.return_, 1) := by decide +kernel
set_option maxRecDepth 20000 in
theorem ggX9_isAsked_X9_isKind : GoodIn wsX9_isAsked wsX9_isKind := goodIn_r _ [4, 5, 6, 3, 7] (by decide +kernel) (by decide +kernel)
set_option maxRecDepth 20000 in
theorem gX9_isAsked_X9_isKind : GoodIn wsX9_isAsked (va_wsS RX9 144 yX9_isKind wsX9_isKind) := goodIn_app (goodIn_of _ (by decide +kernel)) ggX9_isAsked_X9_isKind
set_option maxRecDepth 20000 in
theorem ggX9_isAsked_X9_in : GoodIn wsX9_isAsked wsX9_in := goodIn_r _ [7] (by decide +kernel) (by decide +kernel)
set_option maxRecDepth 20000 in
theorem gX9_isAsked_X9_in : GoodIn wsX9_isAsked (va_wsS RX9 91 yX9_in wsX9_in) := goodIn_app (goodIn_of _ (by decide +kernel)) ggX9_isAsked_X9_in
theorem dX9_isAsked_0 : decode cX9_isAsked 0 = .ok (.iload_n 0, 1) := by decide +kernel
theorem dX9_isAsked_1 : decode cX9_isAsked 1 = .ok (.invokestatic 144, 3) := by decide +kernel
theorem dX9_isAsked_4 : decode cX9_isAsked 4 = .ok (.ifCond .eq 17, 3) := by decide +kernel
theorem dX9_isAsked_7 : decode cX9_isAsked 7 = .ok (.iload_n 1, 1) := by decide +kernel
theorem dX9_isAsked_8 : decode cX9_isAsked 8 = .ok (.iconst (-1), 1) := by decide +kernel
theorem dX9_isAsked_9 : decode cX9_isAsked 9 = .ok (.bipush 7, 2) := by decide +kernel
