theorem dX7_startAnew_186 : decode cX7_startAnew 186 = .ok (.goto (-108), 3) := by decide +kernel
theorem dX7_startAnew_189 : decode cX7_startAnew 189 = .ok (.return_, 1) := by decide +kernel
set_option maxRecDepth 20000 in
theorem ggX7_nearestFilling_J7_fill_53178 : GoodIn wsX7_nearestFilling wsJ7_fill_53178 := goodIn_r _ [12] (by decide +kernel) (by decide +kernel)
set_option maxRecDepth 20000 in
theorem gX7_nearestFilling_J7_fill_53178 : GoodIn wsX7_nearestFilling (va_wsS RX7 90 yJ7_fill_53178 wsJ7_fill_53178) := goodIn_app (goodIn_of _ (by decide +kernel)) ggX7_nearestFilling_J7_fill_53178
set_option maxRecDepth 20000 in
theorem ggX7_nearestFilling_X6_nearHall : GoodIn wsX7_nearestFilling wsX6_nearHall := goodIn_r _ [17, 18, 19, 20, 21, 22, 23, 24, 25, 26, 27, 28, 29, 30, 31, 16, 32, 33, 54, 55, 56, 57, 58, 44, 45, 46, 47, 48, 49, 50, 51, 52, 53] (by decide +kernel) (by decide +kernel)
set_option maxRecDepth 20000 in
theorem gX7_nearestFilling_X6_nearHall : GoodIn wsX7_nearestFilling (wsV RX7 93 RX6 yX6_nearHall wsX6_nearHall) := goodIn_app (goodIn_of _ (by decide +kernel)) ggX7_nearestFilling_X6_nearHall
theorem dX7_nearestFilling_0 : decode cX7_nearestFilling 0 = .ok (.lconst 0, 1) := by decide +kernel
theorem dX7_nearestFilling_1 : decode cX7_nearestFilling 1 = .ok (.lstore_n 2, 1) := by decide +kernel
theorem dX7_nearestFilling_2 : decode cX7_nearestFilling 2 = .ok (.aload_n 0, 1) := by decide +kernel
theorem dX7_nearestFilling_3 : decode cX7_nearestFilling 3 = .ok (.getfield 30, 3) := by decide +kernel
theorem dX7_nearestFilling_6 : decode cX7_nearestFilling 6 = .ok (.iconst 0, 1) := by decide +kernel
theorem dX7_nearestFilling_7 : decode cX7_nearestFilling 7 = .ok (.invokestatic 90, 3) := by decide +kernel
theorem dX7_nearestFilling_10 : decode cX7_nearestFilling 10 = .ok (.iconst 0, 1) := by decide +kernel
theorem dX7_nearestFilling_11 : decode cX7_nearestFilling 11 = .ok (.istore 4, 2) := by decide +kernel
theorem dX7_nearestFilling_13 : decode cX7_nearestFilling 13 = .ok (.iload 4, 2) := by decide +kernel
theorem dX7_nearestFilling_15 : decode cX7_nearestFilling 15 = .ok (.aload_n 0, 1) := by decide +kernel
theorem dX7_nearestFilling_16 : decode cX7_nearestFilling 16 = .ok (.getfield 41, 3) := by decide +kernel
theorem dX7_nearestFilling_19 : decode cX7_nearestFilling 19 = .ok (.getfield 75, 3) := by decide +kernel
theorem dX7_nearestFilling_22 : decode cX7_nearestFilling 22 = .ok (.if_icmp .ge 98, 3) := by decide +kernel
theorem dX7_nearestFilling_25 : decode cX7_nearestFilling 25 = .ok (.aload_n 0, 1) := by decide +kernel
theorem dX7_nearestFilling_26 : decode cX7_nearestFilling 26 = .ok (.getfield 45, 3) := by decide +kernel
theorem dX7_nearestFilling_29 : decode cX7_nearestFilling 29 = .ok (.iload_n 1, 1) := by decide +kernel
theorem dX7_nearestFilling_30 : decode cX7_nearestFilling 30 = .ok (.iload 4, 2) := by decide +kernel
theorem dX7_nearestFilling_32 : decode cX7_nearestFilling 32 = .ok (.invokevirtual 93, 3) := by decide +kernel
theorem dX7_nearestFilling_35 : decode cX7_nearestFilling 35 = .ok (.istore 5, 2) := by decide +kernel
theorem dX7_nearestFilling_37 : decode cX7_nearestFilling 37 = .ok (.iload 5, 2) := by decide +kernel
theorem dX7_nearestFilling_39 : decode cX7_nearestFilling 39 = .ok (.iconst (-1), 1) := by decide +kernel
theorem dX7_nearestFilling_40 : decode cX7_nearestFilling 40 = .ok (.if_icmp .eq 34, 3) := by decide +kernel
theorem dX7_nearestFilling_43 : decode cX7_nearestFilling 43 = .ok (.aload_n 0, 1) := by decide +kernel
theorem dX7_nearestFilling_44 : decode cX7_nearestFilling 44 = .ok (.getfield 30, 3) := by decide +kernel
theorem dX7_nearestFilling_47 : decode cX7_nearestFilling 47 = .ok (.iload 5, 2) := by decide +kernel
theorem dX7_nearestFilling_49 : decode cX7_nearestFilling 49 = .ok (.iaload, 1) := by decide +kernel
theorem dX7_nearestFilling_50 : decode cX7_nearestFilling 50 = .ok (.aload_n 0, 1) := by decide +kernel
theorem dX7_nearestFilling_51 : decode cX7_nearestFilling 51 = .ok (.getfield 41, 3) := by decide +kernel
theorem dX7_nearestFilling_54 : decode cX7_nearestFilling 54 = .ok (.getfield 87, 3) := by decide +kernel
theorem dX7_nearestFilling_57 : decode cX7_nearestFilling 57 = .ok (.iload 4, 2) := by decide +kernel
theorem dX7_nearestFilling_59 : decode cX7_nearestFilling 59 = .ok (.iaload, 1) := by decide +kernel
theorem dX7_nearestFilling_60 : decode cX7_nearestFilling 60 = .ok (.iadd, 1) := by decide +kernel
theorem dX7_nearestFilling_61 : decode cX7_nearestFilling 61 = .ok (.aload_n 0, 1) := by decide +kernel
theorem dX7_nearestFilling_62 : decode cX7_nearestFilling 62 = .ok (.getfield 41, 3) := by decide +kernel
theorem dX7_nearestFilling_65 : decode cX7_nearestFilling 65 = .ok (.getfield 98, 3) := by decide +kernel
theorem dX7_nearestFilling_68 : decode cX7_nearestFilling 68 = .ok (.iload 5, 2) := by decide +kernel
theorem dX7_nearestFilling_70 : decode cX7_nearestFilling 70 = .ok (.iaload, 1) := by decide +kernel
theorem dX7_nearestFilling_71 : decode cX7_nearestFilling 71 = .ok (.if_icmp .le 7, 3) := by decide +kernel
theorem dX7_nearestFilling_74 : decode cX7_nearestFilling 74 = .ok (.ldc2_w 60, 3) := by decide +kernel
theorem dX7_nearestFilling_77 : decode cX7_nearestFilling 77 = .ok (.lreturn, 1) := by decide +kernel
theorem dX7_nearestFilling_78 : decode cX7_nearestFilling 78 = .ok (.aload_n 0, 1) := by decide +kernel
theorem dX7_nearestFilling_79 : decode cX7_nearestFilling 79 = .ok (.getfield 30, 3) := by decide +kernel
theorem dX7_nearestFilling_82 : decode cX7_nearestFilling 82 = .ok (.iload 5, 2) := by decide +kernel
theorem dX7_nearestFilling_84 : decode cX7_nearestFilling 84 = .ok (.dup2, 1) := by decide +kernel
theorem dX7_nearestFilling_85 : decode cX7_nearestFilling 85 = .ok (.iaload, 1) := by decide +kernel
theorem dX7_nearestFilling_86 : decode cX7_nearestFilling 86 = .ok (.aload_n 0, 1) := by decide +kernel
theorem dX7_nearestFilling_87 : decode cX7_nearestFilling 87 = .ok (.getfield 41, 3) := by decide +kernel
theorem dX7_nearestFilling_90 : decode cX7_nearestFilling 90 = .ok (.getfield 87, 3) := by decide +kernel
theorem dX7_nearestFilling_93 : decode cX7_nearestFilling 93 = .ok (.iload 4, 2) := by decide +kernel
theorem dX7_nearestFilling_95 : decode cX7_nearestFilling 95 = .ok (.iaload, 1) := by decide +kernel
theorem dX7_nearestFilling_96 : decode cX7_nearestFilling 96 = .ok (.iadd, 1) := by decide +kernel
theorem dX7_nearestFilling_97 : decode cX7_nearestFilling 97 = .ok (.iastore, 1) := by decide +kernel
theorem dX7_nearestFilling_98 : decode cX7_nearestFilling 98 = .ok (.lload_n 2, 1) := by decide +kernel
theorem dX7_nearestFilling_99 : decode cX7_nearestFilling 99 = .ok (.aload_n 0, 1) := by decide +kernel
theorem dX7_nearestFilling_100 : decode cX7_nearestFilling 100 = .ok (.getfield 20, 3) := by decide +kernel
theorem dX7_nearestFilling_103 : decode cX7_nearestFilling 103 = .ok (.iload 5, 2) := by decide +kernel
theorem dX7_nearestFilling_105 : decode cX7_nearestFilling 105 = .ok (.bipush 8, 2) := by decide +kernel
theorem dX7_nearestFilling_107 : decode cX7_nearestFilling 107 = .ok (.imul, 1) := by decide +kernel
theorem dX7_nearestFilling_108 : decode cX7_nearestFilling 108 = .ok (.iload 4, 2) := by decide +kernel
theorem dX7_nearestFilling_110 : decode cX7_nearestFilling 110 = .ok (.iadd, 1) := by decide +kernel
theorem dX7_nearestFilling_111 : decode cX7_nearestFilling 111 = .ok (.laload, 1) := by decide +kernel
theorem dX7_nearestFilling_112 : decode cX7_nearestFilling 112 = .ok (.ladd, 1) := by decide +kernel
theorem dX7_nearestFilling_113 : decode cX7_nearestFilling 113 = .ok (.lstore_n 2, 1) := by decide +kernel
theorem dX7_nearestFilling_114 : decode cX7_nearestFilling 114 = .ok (.iinc 4 1, 3) := by decide +kernel
theorem dX7_nearestFilling_117 : decode cX7_nearestFilling 117 = .ok (.goto (-104), 3) := by decide +kernel
theorem dX7_nearestFilling_120 : decode cX7_nearestFilling 120 = .ok (.lload_n 2, 1) := by decide +kernel
theorem dX7_nearestFilling_121 : decode cX7_nearestFilling 121 = .ok (.lreturn, 1) := by decide +kernel
set_option maxRecDepth 20000 in
theorem ggX7_bestFilling_X5_isIn : GoodIn wsX7_bestFilling wsX5_isIn := goodIn_r _ [8] (by decide +kernel) (by decide +kernel)
set_option maxRecDepth 20000 in
theorem gX7_bestFilling_X5_isIn : GoodIn wsX7_bestFilling (va_wsS RX7 101 yX5_isIn wsX5_isIn) := goodIn_app (goodIn_of _ (by decide +kernel)) ggX7_bestFilling_X5_isIn
set_option maxRecDepth 20000 in
theorem ggX7_bestFilling_X7_layTable : GoodIn wsX7_bestFilling wsX7_layTable := goodIn_r _ [13, 4, 14, 15, 16, 17, 1, 18, 19, 20, 21, 22, 23, 24, 25, 7, 26, 27, 28, 29, 30, 12, 31, 32, 33, 34, 35, 36, 37, 38, 39, 40, 41, 42, 43, 44, 45, 46, 47, 48, 49, 50, 51, 52, 53, 54, 55] (by decide +kernel) (by decide +kernel)
set_option maxRecDepth 20000 in
theorem gX7_bestFilling_X7_layTable : GoodIn wsX7_bestFilling (wsV RX7 105 RX7 yX7_layTable wsX7_layTable) := goodIn_app (goodIn_of _ (by decide +kernel)) ggX7_bestFilling_X7_layTable
set_option maxRecDepth 20000 in
theorem ggX7_bestFilling_X5_everyTown : GoodIn wsX7_bestFilling wsX5_everyTown := goodIn_r _ [26, 27, 46, 47, 48, 49, 50, 51, 52, 53, 54, 55] (by decide +kernel) (by decide +kernel)
set_option maxRecDepth 20000 in
theorem gX7_bestFilling_X5_everyTown : GoodIn wsX7_bestFilling (wsV RX7 109 RX5 yX5_everyTown wsX5_everyTown) := goodIn_app (goodIn_of _ (by decide +kernel)) ggX7_bestFilling_X5_everyTown
theorem dX7_bestFilling_0 : decode cX7_bestFilling 0 = .ok (.aload_n 0, 1) := by decide +kernel
theorem dX7_bestFilling_1 : decode cX7_bestFilling 1 = .ok (.getfield 41, 3) := by decide +kernel
theorem dX7_bestFilling_4 : decode cX7_bestFilling 4 = .ok (.getfield 80, 3) := by decide +kernel
theorem dX7_bestFilling_7 : decode cX7_bestFilling 7 = .ok (.iconst 1, 1) := by decide +kernel
theorem dX7_bestFilling_8 : decode cX7_bestFilling 8 = .ok (.isub, 1) := by decide +kernel
theorem dX7_bestFilling_9 : decode cX7_bestFilling 9 = .ok (.istore_n 2, 1) := by decide +kernel
theorem dX7_bestFilling_10 : decode cX7_bestFilling 10 = .ok (.iload_n 2, 1) := by decide +kernel
theorem dX7_bestFilling_11 : decode cX7_bestFilling 11 = .ok (.ifCond .lt 31, 3) := by decide +kernel
theorem dX7_bestFilling_14 : decode cX7_bestFilling 14 = .ok (.iload_n 1, 1) := by decide +kernel
theorem dX7_bestFilling_15 : decode cX7_bestFilling 15 = .ok (.iload_n 2, 1) := by decide +kernel
theorem dX7_bestFilling_16 : decode cX7_bestFilling 16 = .ok (.ishr, 1) := by decide +kernel
theorem dX7_bestFilling_17 : decode cX7_bestFilling 17 = .ok (.aload_n 0, 1) := by decide +kernel
theorem dX7_bestFilling_18 : decode cX7_bestFilling 18 = .ok (.getfield 33, 3) := by decide +kernel
theorem dX7_bestFilling_21 : decode cX7_bestFilling 21 = .ok (.iload_n 2, 1) := by decide +kernel
theorem dX7_bestFilling_22 : decode cX7_bestFilling 22 = .ok (.ishr, 1) := by decide +kernel
theorem dX7_bestFilling_23 : decode cX7_bestFilling 23 = .ok (.if_icmp .eq 13, 3) := by decide +kernel
theorem dX7_bestFilling_26 : decode cX7_bestFilling 26 = .ok (.aload_n 0, 1) := by decide +kernel
theorem dX7_bestFilling_27 : decode cX7_bestFilling 27 = .ok (.iload_n 2, 1) := by decide +kernel
theorem dX7_bestFilling_28 : decode cX7_bestFilling 28 = .ok (.iload_n 2, 1) := by decide +kernel
theorem dX7_bestFilling_29 : decode cX7_bestFilling 29 = .ok (.iload_n 1, 1) := by decide +kernel
theorem dX7_bestFilling_30 : decode cX7_bestFilling 30 = .ok (.invokestatic 101, 3) := by decide +kernel
theorem dX7_bestFilling_33 : decode cX7_bestFilling 33 = .ok (.invokevirtual 105, 3) := by decide +kernel
theorem dX7_bestFilling_36 : decode cX7_bestFilling 36 = .ok (.iinc 2 (-1), 3) := by decide +kernel
theorem dX7_bestFilling_39 : decode cX7_bestFilling 39 = .ok (.goto (-29), 3) := by decide +kernel
theorem dX7_bestFilling_42 : decode cX7_bestFilling 42 = .ok (.aload_n 0, 1) := by decide +kernel
theorem dX7_bestFilling_43 : decode cX7_bestFilling 43 = .ok (.iload_n 1, 1) := by decide +kernel
theorem dX7_bestFilling_44 : decode cX7_bestFilling 44 = .ok (.putfield 33, 3) := by decide +kernel
theorem dX7_bestFilling_47 : decode cX7_bestFilling 47 = .ok (.aload_n 0, 1) := by decide +kernel
theorem dX7_bestFilling_48 : decode cX7_bestFilling 48 = .ok (.getfield 17, 3) := by decide +kernel
theorem dX7_bestFilling_51 : decode cX7_bestFilling 51 = .ok (.iconst 0, 1) := by decide +kernel
theorem dX7_bestFilling_52 : decode cX7_bestFilling 52 = .ok (.aaload, 1) := by decide +kernel
theorem dX7_bestFilling_53 : decode cX7_bestFilling 53 = .ok (.aload_n 0, 1) := by decide +kernel
theorem dX7_bestFilling_54 : decode cX7_bestFilling 54 = .ok (.getfield 41, 3) := by decide +kernel
theorem dX7_bestFilling_57 : decode cX7_bestFilling 57 = .ok (.invokevirtual 109, 3) := by decide +kernel
theorem dX7_bestFilling_60 : decode cX7_bestFilling 60 = .ok (.laload, 1) := by decide +kernel
theorem dX7_bestFilling_61 : decode cX7_bestFilling 61 = .ok (.lreturn, 1) := by decide +kernel
set_option maxRecDepth 20000 in
theorem ggX7_layTable_X5_everyTown : GoodIn wsX7_layTable wsX5_everyTown := goodIn_r _ [16, 17, 37, 38, 39, 40, 41, 42, 43, 44, 45, 46] (by decide +kernel) (by decide +kernel)
set_option maxRecDepth 20000 in
theorem gX7_layTable_X5_everyTown : GoodIn wsX7_layTable (wsV RX7 109 RX5 yX5_everyTown wsX5_everyTown) := goodIn_app (goodIn_of _ (by decide +kernel)) ggX7_layTable_X5_everyTown
set_option maxRecDepth 20000 in
theorem ggX7_layTable_X7_admit : GoodIn wsX7_layTable wsX7_admit := goodIn_r _ [22, 1, 8, 23, 24, 25, 26, 27, 28, 29, 30, 31, 32, 33, 34, 35, 36] (by decide +kernel) (by decide +kernel)
set_option maxRecDepth 20000 in
theorem gX7_layTable_X7_admit : GoodIn wsX7_layTable (wsV RX7 119 RX7 yX7_admit wsX7_admit) := goodIn_app (goodIn_of _ (by decide +kernel)) ggX7_layTable_X7_admit
theorem dX7_layTable_0 : decode cX7_layTable 0 = .ok (.aload_n 0, 1) := by decide +kernel
theorem dX7_layTable_1 : decode cX7_layTable 1 = .ok (.getfield 17, 3) := by decide +kernel
theorem dX7_layTable_4 : decode cX7_layTable 4 = .ok (.iload_n 1, 1) := by decide +kernel
theorem dX7_layTable_5 : decode cX7_layTable 5 = .ok (.iconst 1, 1) := by decide +kernel
theorem dX7_layTable_6 : decode cX7_layTable 6 = .ok (.iadd, 1) := by decide +kernel
theorem dX7_layTable_7 : decode cX7_layTable 7 = .ok (.aaload, 1) := by decide +kernel
theorem dX7_layTable_8 : decode cX7_layTable 8 = .ok (.iconst 0, 1) := by decide +kernel
theorem dX7_layTable_9 : decode cX7_layTable 9 = .ok (.aload_n 0, 1) := by decide +kernel
theorem dX7_layTable_10 : decode cX7_layTable 10 = .ok (.getfield 17, 3) := by decide +kernel
theorem dX7_layTable_13 : decode cX7_layTable 13 = .ok (.iload_n 1, 1) := by decide +kernel
theorem dX7_layTable_14 : decode cX7_layTable 14 = .ok (.aaload, 1) := by decide +kernel
theorem dX7_layTable_15 : decode cX7_layTable 15 = .ok (.iconst 0, 1) := by decide +kernel
theorem dX7_layTable_16 : decode cX7_layTable 16 = .ok (.sipush 256, 3) := by decide +kernel
theorem dX7_layTable_19 : decode cX7_layTable 19 = .ok (.invokestatic 113, 3) := by decide +kernel
theorem dX7_layTable_22 : decode cX7_layTable 22 = .ok (.iload_n 2, 1) := by decide +kernel
theorem dX7_layTable_23 : decode cX7_layTable 23 = .ok (.ifCond .ne 4, 3) := by decide +kernel
theorem dX7_layTable_26 : decode cX7_layTable 26 = .ok (.return_, 1) := by decide +kernel
theorem dX7_layTable_27 : decode cX7_layTable 27 = .ok (.iconst 0, 1) := by decide +kernel
theorem dX7_layTable_28 : decode cX7_layTable 28 = .ok (.istore_n 3, 1) := by decide +kernel
theorem dX7_layTable_29 : decode cX7_layTable 29 = .ok (.iload_n 3, 1) := by decide +kernel
theorem dX7_layTable_30 : decode cX7_layTable 30 = .ok (.aload_n 0, 1) := by decide +kernel
theorem dX7_layTable_31 : decode cX7_layTable 31 = .ok (.getfield 41, 3) := by decide +kernel
theorem dX7_layTable_34 : decode cX7_layTable 34 = .ok (.getfield 75, 3) := by decide +kernel
theorem dX7_layTable_37 : decode cX7_layTable 37 = .ok (.if_icmp .ge 56, 3) := by decide +kernel
theorem dX7_layTable_40 : decode cX7_layTable 40 = .ok (.iconst 0, 1) := by decide +kernel
theorem dX7_layTable_41 : decode cX7_layTable 41 = .ok (.istore 4, 2) := by decide +kernel
theorem dX7_layTable_43 : decode cX7_layTable 43 = .ok (.iload 4, 2) := by decide +kernel
theorem dX7_layTable_45 : decode cX7_layTable 45 = .ok (.iconst 1, 1) := by decide +kernel
theorem dX7_layTable_46 : decode cX7_layTable 46 = .ok (.iload_n 3, 1) := by decide +kernel
theorem dX7_layTable_47 : decode cX7_layTable 47 = .ok (.ishl, 1) := by decide +kernel
theorem dX7_layTable_48 : decode cX7_layTable 48 = .ok (.if_icmp .ge 39, 3) := by decide +kernel
theorem dX7_layTable_51 : decode cX7_layTable 51 = .ok (.aload_n 0, 1) := by decide +kernel
theorem dX7_layTable_52 : decode cX7_layTable 52 = .ok (.getfield 23, 3) := by decide +kernel
theorem dX7_layTable_55 : decode cX7_layTable 55 = .ok (.iload 4, 2) := by decide +kernel
theorem dX7_layTable_57 : decode cX7_layTable 57 = .ok (.iconst 1, 1) := by decide +kernel
theorem dX7_layTable_58 : decode cX7_layTable 58 = .ok (.iload_n 3, 1) := by decide +kernel
theorem dX7_layTable_59 : decode cX7_layTable 59 = .ok (.ishl, 1) := by decide +kernel
theorem dX7_layTable_60 : decode cX7_layTable 60 = .ok (.ior, 1) := by decide +kernel
theorem dX7_layTable_61 : decode cX7_layTable 61 = .ok (.aload_n 0, 1) := by decide +kernel
theorem dX7_layTable_62 : decode cX7_layTable 62 = .ok (.getfield 23, 3) := by decide +kernel
theorem dX7_layTable_65 : decode cX7_layTable 65 = .ok (.iload 4, 2) := by decide +kernel
theorem dX7_layTable_67 : decode cX7_layTable 67 = .ok (.laload, 1) := by decide +kernel
theorem dX7_layTable_68 : decode cX7_layTable 68 = .ok (.aload_n 0, 1) := by decide +kernel
theorem dX7_layTable_69 : decode cX7_layTable 69 = .ok (.getfield 20, 3) := by decide +kernel
theorem dX7_layTable_72 : decode cX7_layTable 72 = .ok (.iload_n 1, 1) := by decide +kernel
theorem dX7_layTable_73 : decode cX7_layTable 73 = .ok (.bipush 8, 2) := by decide +kernel
theorem dX7_layTable_75 : decode cX7_layTable 75 = .ok (.imul, 1) := by decide +kernel
theorem dX7_layTable_76 : decode cX7_layTable 76 = .ok (.iload_n 3, 1) := by decide +kernel
theorem dX7_layTable_77 : decode cX7_layTable 77 = .ok (.iadd, 1) := by decide +kernel
theorem dX7_layTable_78 : decode cX7_layTable 78 = .ok (.laload, 1) := by decide +kernel
theorem dX7_layTable_79 : decode cX7_layTable 79 = .ok (.ladd, 1) := by decide +kernel
theorem dX7_layTable_80 : decode cX7_layTable 80 = .ok (.lastore, 1) := by decide +kernel
theorem dX7_layTable_81 : decode cX7_layTable 81 = .ok (.iinc 4 1, 3) := by decide +kernel
theorem dX7_layTable_84 : decode cX7_layTable 84 = .ok (.goto (-41), 3) := by decide +kernel
theorem dX7_layTable_87 : decode cX7_layTable 87 = .ok (.iinc 3 1, 3) := by decide +kernel
theorem dX7_layTable_90 : decode cX7_layTable 90 = .ok (.goto (-61), 3) := by decide +kernel
theorem dX7_layTable_93 : decode cX7_layTable 93 = .ok (.aload_n 0, 1) := by decide +kernel
theorem dX7_layTable_94 : decode cX7_layTable 94 = .ok (.getfield 41, 3) := by decide +kernel
theorem dX7_layTable_97 : decode cX7_layTable 97 = .ok (.invokevirtual 109, 3) := by decide +kernel
theorem dX7_layTable_100 : decode cX7_layTable 100 = .ok (.istore_n 3, 1) := by decide +kernel
theorem dX7_layTable_101 : decode cX7_layTable 101 = .ok (.iconst 1, 1) := by decide +kernel
theorem dX7_layTable_102 : decode cX7_layTable 102 = .ok (.istore 4, 2) := by decide +kernel
theorem dX7_layTable_104 : decode cX7_layTable 104 = .ok (.iload 4, 2) := by decide +kernel
theorem dX7_layTable_106 : decode cX7_layTable 106 = .ok (.iload_n 3, 1) := by decide +kernel
theorem dX7_layTable_107 : decode cX7_layTable 107 = .ok (.if_icmp .gt 41, 3) := by decide +kernel
theorem dX7_layTable_110 : decode cX7_layTable 110 = .ok (.aload_n 0, 1) := by decide +kernel
theorem dX7_layTable_111 : decode cX7_layTable 111 = .ok (.getfield 26, 3) := by decide +kernel
theorem dX7_layTable_114 : decode cX7_layTable 114 = .ok (.iload 4, 2) := by decide +kernel
theorem dX7_layTable_116 : decode cX7_layTable 116 = .ok (.iaload, 1) := by decide +kernel
theorem dX7_layTable_117 : decode cX7_layTable 117 = .ok (.aload_n 0, 1) := by decide +kernel
theorem dX7_layTable_118 : decode cX7_layTable 118 = .ok (.getfield 41, 3) := by decide +kernel
theorem dX7_layTable_121 : decode cX7_layTable 121 = .ok (.getfield 98, 3) := by decide +kernel
theorem dX7_layTable_124 : decode cX7_layTable 124 = .ok (.iload_n 1, 1) := by decide +kernel
theorem dX7_layTable_125 : decode cX7_layTable 125 = .ok (.iaload, 1) := by decide +kernel
theorem dX7_layTable_126 : decode cX7_layTable 126 = .ok (.if_icmp .gt 16, 3) := by decide +kernel
theorem dX7_layTable_129 : decode cX7_layTable 129 = .ok (.aload_n 0, 1) := by decide +kernel
theorem dX7_layTable_130 : decode cX7_layTable 130 = .ok (.iload_n 1, 1) := by decide +kernel
theorem dX7_layTable_131 : decode cX7_layTable 131 = .ok (.iload 4, 2) := by decide +kernel
theorem dX7_layTable_133 : decode cX7_layTable 133 = .ok (.iload_n 3, 1) := by decide +kernel
theorem dX7_layTable_134 : decode cX7_layTable 134 = .ok (.iload 4, 2) := by decide +kernel
theorem dX7_layTable_136 : decode cX7_layTable 136 = .ok (.iconst (-1), 1) := by decide +kernel
theorem dX7_layTable_137 : decode cX7_layTable 137 = .ok (.ixor, 1) := by decide +kernel
theorem dX7_layTable_138 : decode cX7_layTable 138 = .ok (.iand, 1) := by decide +kernel
theorem dX7_layTable_139 : decode cX7_layTable 139 = .ok (.invokevirtual 119, 3) := by decide +kernel
theorem dX7_layTable_142 : decode cX7_layTable 142 = .ok (.iinc 4 1, 3) := by decide +kernel
theorem dX7_layTable_145 : decode cX7_layTable 145 = .ok (.goto (-41), 3) := by decide +kernel
theorem dX7_layTable_148 : decode cX7_layTable 148 = .ok (.return_, 1) := by decide +kernel
theorem dX7_admit_0 : decode cX7_admit 0 = .ok (.aload_n 0, 1) := by decide +kernel
theorem dX7_admit_1 : decode cX7_admit 1 = .ok (.getfield 17, 3) := by decide +kernel
theorem dX7_admit_4 : decode cX7_admit 4 = .ok (.iload_n 1, 1) := by decide +kernel
theorem dX7_admit_5 : decode cX7_admit 5 = .ok (.iconst 1, 1) := by decide +kernel
theorem dX7_admit_6 : decode cX7_admit 6 = .ok (.iadd, 1) := by decide +kernel
theorem dX7_admit_7 : decode cX7_admit 7 = .ok (.aaload, 1) := by decide +kernel
theorem dX7_admit_8 : decode cX7_admit 8 = .ok (.astore 4, 2) := by decide +kernel
theorem dX7_admit_10 : decode cX7_admit 10 = .ok (.aload_n 0, 1) := by decide +kernel
theorem dX7_admit_11 : decode cX7_admit 11 = .ok (.getfield 17, 3) := by decide +kernel
theorem dX7_admit_14 : decode cX7_admit 14 = .ok (.iload_n 1, 1) := by decide +kernel
theorem dX7_admit_15 : decode cX7_admit 15 = .ok (.aaload, 1) := by decide +kernel
theorem dX7_admit_16 : decode cX7_admit 16 = .ok (.astore 5, 2) := by decide +kernel
theorem dX7_admit_18 : decode cX7_admit 18 = .ok (.aload_n 0, 1) := by decide +kernel
theorem dX7_admit_19 : decode cX7_admit 19 = .ok (.getfield 23, 3) := by decide +kernel
theorem dX7_admit_22 : decode cX7_admit 22 = .ok (.iload_n 2, 1) := by decide +kernel
theorem dX7_admit_23 : decode cX7_admit 23 = .ok (.laload, 1) := by decide +kernel
theorem dX7_admit_24 : decode cX7_admit 24 = .ok (.lstore 6, 2) := by decide +kernel
theorem dX7_admit_26 : decode cX7_admit 26 = .ok (.aload 5, 2) := by decide +kernel
theorem dX7_admit_28 : decode cX7_admit 28 = .ok (.iload_n 2, 1) := by decide +kernel
theorem dX7_admit_29 : decode cX7_admit 29 = .ok (.iload_n 3, 1) := by decide +kernel
theorem dX7_admit_30 : decode cX7_admit 30 = .ok (.ior, 1) := by decide +kernel
theorem dX7_admit_31 : decode cX7_admit 31 = .ok (.aload 5, 2) := by decide +kernel
theorem dX7_admit_33 : decode cX7_admit 33 = .ok (.iload_n 2, 1) := by decide +kernel
theorem dX7_admit_34 : decode cX7_admit 34 = .ok (.iload_n 3, 1) := by decide +kernel
theorem dX7_admit_35 : decode cX7_admit 35 = .ok (.ior, 1) := by decide +kernel
theorem dX7_admit_36 : decode cX7_admit 36 = .ok (.laload, 1) := by decide +kernel
theorem dX7_admit_37 : decode cX7_admit 37 = .ok (.aload 4, 2) := by decide +kernel
theorem dX7_admit_39 : decode cX7_admit 39 = .ok (.iload_n 3, 1) := by decide +kernel
theorem dX7_admit_40 : decode cX7_admit 40 = .ok (.laload, 1) := by decide +kernel
theorem dX7_admit_41 : decode cX7_admit 41 = .ok (.lload 6, 2) := by decide +kernel
theorem dX7_admit_43 : decode cX7_admit 43 = .ok (.ladd, 1) := by decide +kernel
theorem dX7_admit_44 : decode cX7_admit 44 = .ok (.invokestatic 123, 3) := by decide +kernel
theorem dX7_admit_47 : decode cX7_admit 47 = .ok (.lastore, 1) := by decide +kernel
theorem dX7_admit_48 : decode cX7_admit 48 = .ok (.iload_n 1, 1) := by decide +kernel
theorem dX7_admit_49 : decode cX7_admit 49 = .ok (.ifCond .ne 7, 3) := by decide +kernel
theorem dX7_admit_52 : decode cX7_admit 52 = .ok (.iconst 0, 1) := by decide +kernel
theorem dX7_admit_53 : decode cX7_admit 53 = .ok (.goto 4, 3) := by decide +kernel
theorem dX7_admit_56 : decode cX7_admit 56 = .ok (.iload_n 3, 1) := by decide +kernel
theorem dX7_admit_57 : decode cX7_admit 57 = .ok (.istore 8, 2) := by decide +kernel
theorem dX7_admit_59 : decode cX7_admit 59 = .ok (.iload 8, 2) := by decide +kernel
theorem dX7_admit_61 : decode cX7_admit 61 = .ok (.ifCond .le 48, 3) := by decide +kernel
theorem dX7_admit_64 : decode cX7_admit 64 = .ok (.iload 8, 2) := by decide +kernel
theorem dX7_admit_66 : decode cX7_admit 66 = .ok (.iconst 1, 1) := by decide +kernel
theorem dX7_admit_67 : decode cX7_admit 67 = .ok (.isub, 1) := by decide +kernel
theorem dX7_admit_68 : decode cX7_admit 68 = .ok (.iload_n 3, 1) := by decide +kernel
theorem dX7_admit_69 : decode cX7_admit 69 = .ok (.iand, 1) := by decide +kernel
theorem dX7_admit_70 : decode cX7_admit 70 = .ok (.istore 8, 2) := by decide +kernel
theorem dX7_admit_72 : decode cX7_admit 72 = .ok (.aload 4, 2) := by decide +kernel
theorem dX7_admit_74 : decode cX7_admit 74 = .ok (.iload 8, 2) := by decide +kernel
theorem dX7_admit_76 : decode cX7_admit 76 = .ok (.laload, 1) := by decide +kernel
theorem dX7_admit_77 : decode cX7_admit 77 = .ok (.lload 6, 2) := by decide +kernel
theorem dX7_admit_79 : decode cX7_admit 79 = .ok (.ladd, 1) := by decide +kernel
theorem dX7_admit_80 : decode cX7_admit 80 = .ok (.aload 5, 2) := by decide +kernel
theorem dX7_admit_82 : decode cX7_admit 82 = .ok (.iload_n 2, 1) := by decide +kernel
theorem dX7_admit_83 : decode cX7_admit 83 = .ok (.iload 8, 2) := by decide +kernel
theorem dX7_admit_85 : decode cX7_admit 85 = .ok (.ior, 1) := by decide +kernel
theorem dX7_admit_86 : decode cX7_admit 86 = .ok (.laload, 1) := by decide +kernel
theorem dX7_admit_87 : decode cX7_admit 87 = .ok (.lcmp, 1) := by decide +kernel
theorem dX7_admit_88 : decode cX7_admit 88 = .ok (.ifCond .ge (-29), 3) := by decide +kernel
theorem dX7_admit_91 : decode cX7_admit 91 = .ok (.aload 5, 2) := by decide +kernel
theorem dX7_admit_93 : decode cX7_admit 93 = .ok (.iload_n 2, 1) := by decide +kernel
theorem dX7_admit_94 : decode cX7_admit 94 = .ok (.iload 8, 2) := by decide +kernel
theorem dX7_admit_96 : decode cX7_admit 96 = .ok (.ior, 1) := by decide +kernel
theorem dX7_admit_97 : decode cX7_admit 97 = .ok (.aload 4, 2) := by decide +kernel
theorem dX7_admit_99 : decode cX7_admit 99 = .ok (.iload 8, 2) := by decide +kernel
theorem dX7_admit_101 : decode cX7_admit 101 = .ok (.laload, 1) := by decide +kernel
theorem dX7_admit_102 : decode cX7_admit 102 = .ok (.lload 6, 2) := by decide +kernel
theorem dX7_admit_104 : decode cX7_admit 104 = .ok (.ladd, 1) := by decide +kernel
theorem dX7_admit_105 : decode cX7_admit 105 = .ok (.lastore, 1) := by decide +kernel
theorem dX7_admit_106 : decode cX7_admit 106 = .ok (.goto (-47), 3) := by decide +kernel
theorem dX7_admit_109 : decode cX7_admit 109 = .ok (.return_, 1) := by decide +kernel
set_option maxRecDepth 20000 in
theorem ggX8_init_X5_init : GoodIn wsX8_init wsX5_init := goodIn_r _ [37, 38, 2, 3, 39, 40, 41, 42, 43, 44, 45, 46, 47, 109, 110, 111, 112, 113, 114, 115, 116, 117, 118] (by decide +kernel) (by decide +kernel)
set_option maxRecDepth 20000 in
theorem gX8_init_X5_init_n11 : GoodIn wsX8_init (wsX5_init) := ggX8_init_X5_init
set_option maxRecDepth 20000 in
theorem ggX8_init_X4_init : GoodIn wsX8_init wsX4_init := goodIn_r _ [50, 51, 2, 3, 52, 53, 5, 6, 36, 37, 38, 39, 40, 41, 42, 43, 44, 45, 46, 47, 128, 129, 109, 110, 111, 112, 113, 114, 115, 116, 117, 118] (by decide +kernel) (by decide +kernel)
set_option maxRecDepth 20000 in
theorem gX8_init_X4_init : GoodIn wsX8_init (wsX4_init) := ggX8_init_X4_init
set_option maxRecDepth 20000 in
theorem ggX8_init_X6_init : GoodIn wsX8_init wsX6_init := goodIn_r _ [56, 57, 2, 3, 39, 58, 59, 60, 61, 62, 130, 131, 132, 133, 134] (by decide +kernel) (by decide +kernel)
set_option maxRecDepth 20000 in
theorem gX8_init_X6_init : GoodIn wsX8_init (wsX6_init) := ggX8_init_X6_init
set_option maxRecDepth 20000 in
theorem ggX8_init_X7_init : GoodIn wsX8_init wsX7_init := goodIn_r _ [65, 66, 2, 3, 67, 68, 69, 70, 71, 72, 39, 73, 74, 75, 76, 77, 78, 135, 136, 137, 138, 139, 140, 141, 142, 143, 144] (by decide +kernel) (by decide +kernel)
set_option maxRecDepth 20000 in
theorem gX8_init_X7_init : GoodIn wsX8_init (wsX7_init) := ggX8_init_X7_init
set_option maxRecDepth 20000 in
theorem ggX8_init_X1_init : GoodIn wsX8_init wsX1_init := goodIn_r _ [81, 82, 2, 3, 39, 83, 84, 85, 86, 145, 146, 147, 148, 149] (by decide +kernel) (by decide +kernel)
set_option maxRecDepth 20000 in
theorem gX8_init_X1_init : GoodIn wsX8_init (wsX1_init) := ggX8_init_X1_init
set_option maxRecDepth 20000 in
theorem ggX8_init_X0_init : GoodIn wsX8_init wsX0_init := goodIn_r _ [89, 90, 2, 3, 39, 91, 92, 93, 150, 151, 152] (by decide +kernel) (by decide +kernel)
set_option maxRecDepth 20000 in
theorem gX8_init_X0_init : GoodIn wsX8_init (wsX0_init) := ggX8_init_X0_init
set_option maxRecDepth 20000 in
theorem ggX8_init_X2_init : GoodIn wsX8_init wsX2_init := goodIn_r _ [96, 97, 2, 3, 39, 98, 99, 100, 101, 102, 153, 154, 155, 156, 157] (by decide +kernel) (by decide +kernel)
set_option maxRecDepth 20000 in
theorem gX8_init_X2_init : GoodIn wsX8_init (wsX2_init) := ggX8_init_X2_init
set_option maxRecDepth 20000 in
theorem ggX8_init_X3_init : GoodIn wsX8_init wsX3_init := goodIn_r _ [105, 106, 2, 3, 39, 107, 108, 158, 159, 160, 161, 162] (by decide +kernel) (by decide +kernel)
set_option maxRecDepth 20000 in
theorem gX8_init_X3_init : GoodIn wsX8_init (wsX3_init) := ggX8_init_X3_init
theorem dX8_init_0 : decode cX8_init 0 = .ok (.aload_n 0, 1) := by decide +kernel
theorem dX8_init_1 : decode cX8_init 1 = .ok (.invokespecial 3, 3) := by decide +kernel
theorem dX8_init_4 : decode cX8_init 4 = .ok (.aload_n 0, 1) := by decide +kernel
theorem dX8_init_5 : decode cX8_init 5 = .ok (.new 9, 3) := by decide +kernel
theorem dX8_init_8 : decode cX8_init 8 = .ok (.dup, 1) := by decide +kernel
theorem dX8_init_9 : decode cX8_init 9 = .ok (.invokespecial 11, 3) := by decide +kernel
theorem dX8_init_12 : decode cX8_init 12 = .ok (.putfield 12, 3) := by decide +kernel
theorem dX8_init_15 : decode cX8_init 15 = .ok (.aload_n 0, 1) := by decide +kernel
theorem dX8_init_16 : decode cX8_init 16 = .ok (.new 16, 3) := by decide +kernel
theorem dX8_init_19 : decode cX8_init 19 = .ok (.dup, 1) := by decide +kernel
theorem dX8_init_20 : decode cX8_init 20 = .ok (.invokespecial 18, 3) := by decide +kernel
theorem dX8_init_23 : decode cX8_init 23 = .ok (.putfield 19, 3) := by decide +kernel
theorem dX8_init_26 : decode cX8_init 26 = .ok (.aload_n 0, 1) := by decide +kernel
theorem dX8_init_27 : decode cX8_init 27 = .ok (.new 23, 3) := by decide +kernel
theorem dX8_init_30 : decode cX8_init 30 = .ok (.dup, 1) := by decide +kernel
theorem dX8_init_31 : decode cX8_init 31 = .ok (.aload_n 0, 1) := by decide +kernel
theorem dX8_init_32 : decode cX8_init 32 = .ok (.getfield 12, 3) := by decide +kernel
theorem dX8_init_35 : decode cX8_init 35 = .ok (.invokespecial 25, 3) := by decide +kernel
theorem dX8_init_38 : decode cX8_init 38 = .ok (.putfield 28, 3) := by decide +kernel
theorem dX8_init_41 : decode cX8_init 41 = .ok (.aload_n 0, 1) := by decide +kernel
theorem dX8_init_42 : decode cX8_init 42 = .ok (.new 32, 3) := by decide +kernel
theorem dX8_init_45 : decode cX8_init 45 = .ok (.dup, 1) := by decide +kernel
theorem dX8_init_46 : decode cX8_init 46 = .ok (.aload_n 0, 1) := by decide +kernel
theorem dX8_init_47 : decode cX8_init 47 = .ok (.getfield 12, 3) := by decide +kernel
theorem dX8_init_50 : decode cX8_init 50 = .ok (.aload_n 0, 1) := by decide +kernel
theorem dX8_init_51 : decode cX8_init 51 = .ok (.getfield 28, 3) := by decide +kernel
theorem dX8_init_54 : decode cX8_init 54 = .ok (.invokespecial 34, 3) := by decide +kernel
theorem dX8_init_57 : decode cX8_init 57 = .ok (.putfield 37, 3) := by decide +kernel
theorem dX8_init_60 : decode cX8_init 60 = .ok (.aload_n 0, 1) := by decide +kernel
theorem dX8_init_61 : decode cX8_init 61 = .ok (.new 41, 3) := by decide +kernel
theorem dX8_init_64 : decode cX8_init 64 = .ok (.dup, 1) := by decide +kernel
theorem dX8_init_65 : decode cX8_init 65 = .ok (.aload_n 0, 1) := by decide +kernel
theorem dX8_init_66 : decode cX8_init 66 = .ok (.getfield 12, 3) := by decide +kernel
theorem dX8_init_69 : decode cX8_init 69 = .ok (.aload_n 0, 1) := by decide +kernel
theorem dX8_init_70 : decode cX8_init 70 = .ok (.getfield 28, 3) := by decide +kernel
theorem dX8_init_73 : decode cX8_init 73 = .ok (.aload_n 0, 1) := by decide +kernel
theorem dX8_init_74 : decode cX8_init 74 = .ok (.getfield 37, 3) := by decide +kernel
theorem dX8_init_77 : decode cX8_init 77 = .ok (.invokespecial 43, 3) := by decide +kernel
theorem dX8_init_80 : decode cX8_init 80 = .ok (.putfield 46, 3) := by decide +kernel
theorem dX8_init_83 : decode cX8_init 83 = .ok (.aload_n 0, 1) := by decide +kernel
theorem dX8_init_84 : decode cX8_init 84 = .ok (.new 50, 3) := by decide +kernel
theorem dX8_init_87 : decode cX8_init 87 = .ok (.dup, 1) := by decide +kernel
theorem dX8_init_88 : decode cX8_init 88 = .ok (.aload_n 0, 1) := by decide +kernel
theorem dX8_init_89 : decode cX8_init 89 = .ok (.getfield 12, 3) := by decide +kernel
theorem dX8_init_92 : decode cX8_init 92 = .ok (.invokespecial 52, 3) := by decide +kernel
theorem dX8_init_95 : decode cX8_init 95 = .ok (.putfield 53, 3) := by decide +kernel
theorem dX8_init_98 : decode cX8_init 98 = .ok (.aload_n 0, 1) := by decide +kernel
theorem dX8_init_99 : decode cX8_init 99 = .ok (.new 57, 3) := by decide +kernel
theorem dX8_init_102 : decode cX8_init 102 = .ok (.dup, 1) := by decide +kernel
theorem dX8_init_103 : decode cX8_init 103 = .ok (.aload_n 0, 1) := by decide +kernel
theorem dX8_init_104 : decode cX8_init 104 = .ok (.getfield 12, 3) := by decide +kernel
theorem dX8_init_107 : decode cX8_init 107 = .ok (.aload_n 0, 1) := by decide +kernel
theorem dX8_init_108 : decode cX8_init 108 = .ok (.getfield 28, 3) := by decide +kernel
theorem dX8_init_111 : decode cX8_init 111 = .ok (.invokespecial 59, 3) := by decide +kernel
theorem dX8_init_114 : decode cX8_init 114 = .ok (.putfield 60, 3) := by decide +kernel
theorem dX8_init_117 : decode cX8_init 117 = .ok (.aload_n 0, 1) := by decide +kernel
theorem dX8_init_118 : decode cX8_init 118 = .ok (.new 64, 3) := by decide +kernel
theorem dX8_init_121 : decode cX8_init 121 = .ok (.dup, 1) := by decide +kernel
theorem dX8_init_122 : decode cX8_init 122 = .ok (.aload_n 0, 1) := by decide +kernel
theorem dX8_init_123 : decode cX8_init 123 = .ok (.getfield 12, 3) := by decide +kernel
theorem dX8_init_126 : decode cX8_init 126 = .ok (.invokespecial 66, 3) := by decide +kernel
theorem dX8_init_129 : decode cX8_init 129 = .ok (.putfield 67, 3) := by decide +kernel
theorem dX8_init_132 : decode cX8_init 132 = .ok (.return_, 1) := by decide +kernel
set_option maxRecDepth 20000 in
theorem ggX8_town_X8_keepForUndo : GoodIn wsX8_town wsX8_keepForUndo := goodIn_r _ [7, 8, 1, 9, 10, 11, 12, 13, 14, 15, 16, 17, 18, 19, 20, 21, 22, 23, 24, 25, 26, 27, 28, 29, 30, 31, 32, 33, 34, 35, 36, 37, 38, 39, 40, 41, 6, 42, 43, 44, 45, 46, 47, 48, 49, 50, 51, 52, 53, 54, 55, 56, 57, 58, 59, 60, 61, 62, 63, 68, 69, 70, 71, 72, 73, 74, 75, 76, 87, 88, 77, 78, 79, 80, 81, 82, 83, 84, 85, 86, 89, 90, 91, 92, 93, 94, 95, 96, 97, 98, 99, 100, 101, 102, 103, 104, 105, 106, 107, 108] (by decide +kernel) (by decide +kernel)
set_option maxRecDepth 20000 in
theorem gX8_town_X8_keepForUndo : GoodIn wsX8_town (wsV RX8 75 RX8 yX8_keepForUndo wsX8_keepForUndo) := goodIn_app (goodIn_of _ (by decide +kernel)) ggX8_town_X8_keepForUndo
set_option maxRecDepth 20000 in
theorem ggX8_town_X5_addTown : GoodIn wsX8_town wsX5_addTown := goodIn_r _ [67, 25, 27, 32, 33, 77, 78, 79, 80, 81, 82, 83, 84, 85, 86] (by decide +kernel) (by decide +kernel)
set_option maxRecDepth 20000 in
theorem gX8_town_X5_addTown : GoodIn wsX8_town (wsV RX8 78 RX5 yX5_addTown wsX5_addTown) := goodIn_app (goodIn_of _ (by decide +kernel)) ggX8_town_X5_addTown
theorem dX8_town_0 : decode cX8_town 0 = .ok (.aload_n 0, 1) := by decide +kernel
theorem dX8_town_1 : decode cX8_town 1 = .ok (.getfield 12, 3) := by decide +kernel
theorem dX8_town_4 : decode cX8_town 4 = .ok (.getfield 71, 3) := by decide +kernel
theorem dX8_town_7 : decode cX8_town 7 = .ok (.bipush 8, 2) := by decide +kernel
theorem dX8_town_9 : decode cX8_town 9 = .ok (.if_icmp .lt 6, 3) := by decide +kernel
theorem dX8_town_12 : decode cX8_town 12 = .ok (.bipush (-5), 2) := by decide +kernel
theorem dX8_town_14 : decode cX8_town 14 = .ok (.ireturn, 1) := by decide +kernel
theorem dX8_town_15 : decode cX8_town 15 = .ok (.aload_n 0, 1) := by decide +kernel
theorem dX8_town_16 : decode cX8_town 16 = .ok (.invokevirtual 75, 3) := by decide +kernel
theorem dX8_town_19 : decode cX8_town 19 = .ok (.aload_n 0, 1) := by decide +kernel
theorem dX8_town_20 : decode cX8_town 20 = .ok (.getfield 12, 3) := by decide +kernel
theorem dX8_town_23 : decode cX8_town 23 = .ok (.invokevirtual 78, 3) := by decide +kernel
theorem dX8_town_26 : decode cX8_town 26 = .ok (.ireturn, 1) := by decide +kernel
set_option maxRecDepth 20000 in
theorem ggX8_hall_X8_keepForUndo : GoodIn wsX8_hall wsX8_keepForUndo := goodIn_r _ [7, 8, 1, 9, 10, 11, 12, 13, 14, 15, 16, 17, 18, 19, 20, 21, 22, 23, 24, 25, 26, 27, 28, 29, 30, 31, 32, 33, 34, 35, 36, 37, 38, 39, 40, 41, 6, 42, 43, 44, 45, 46, 47, 48, 49, 50, 51, 52, 53, 54, 55, 56, 57, 58, 59, 60, 61, 62, 63, 73, 74, 75, 76, 77, 78, 79, 80, 81, 92, 93, 82, 83, 84, 85, 86, 87, 88, 89, 90, 91, 94, 95, 96, 97, 98, 99, 100, 101, 102, 103, 104, 105, 106, 107, 108, 109, 110, 111, 112, 113] (by decide +kernel) (by decide +kernel)
set_option maxRecDepth 20000 in
theorem gX8_hall_X8_keepForUndo : GoodIn wsX8_hall (wsV RX8 75 RX8 yX8_keepForUndo wsX8_keepForUndo) := goodIn_app (goodIn_of _ (by decide +kernel)) ggX8_hall_X8_keepForUndo
set_option maxRecDepth 20000 in
theorem ggX8_hall_X5_addHall : GoodIn wsX8_hall wsX5_addHall := goodIn_r _ [67, 26, 34, 35, 68, 69, 70, 23, 71, 36, 37, 38, 72, 82, 83, 84, 85, 86, 87, 88, 89, 90, 91] (by decide +kernel) (by decide +kernel)
set_option maxRecDepth 20000 in
theorem gX8_hall_X5_addHall : GoodIn wsX8_hall (wsV RX8 85 RX5 yX5_addHall wsX5_addHall) := goodIn_app (goodIn_of _ (by decide +kernel)) ggX8_hall_X5_addHall
theorem dX8_hall_0 : decode cX8_hall 0 = .ok (.aload_n 0, 1) := by decide +kernel
theorem dX8_hall_1 : decode cX8_hall 1 = .ok (.getfield 12, 3) := by decide +kernel
theorem dX8_hall_4 : decode cX8_hall 4 = .ok (.getfield 82, 3) := by decide +kernel
theorem dX8_hall_7 : decode cX8_hall 7 = .ok (.bipush 7, 2) := by decide +kernel
theorem dX8_hall_9 : decode cX8_hall 9 = .ok (.if_icmp .lt 6, 3) := by decide +kernel
theorem dX8_hall_12 : decode cX8_hall 12 = .ok (.bipush (-5), 2) := by decide +kernel
theorem dX8_hall_14 : decode cX8_hall 14 = .ok (.ireturn, 1) := by decide +kernel
theorem dX8_hall_15 : decode cX8_hall 15 = .ok (.aload_n 0, 1) := by decide +kernel
theorem dX8_hall_16 : decode cX8_hall 16 = .ok (.invokevirtual 75, 3) := by decide +kernel
theorem dX8_hall_19 : decode cX8_hall 19 = .ok (.aload_n 0, 1) := by decide +kernel
theorem dX8_hall_20 : decode cX8_hall 20 = .ok (.getfield 12, 3) := by decide +kernel
theorem dX8_hall_23 : decode cX8_hall 23 = .ok (.invokevirtual 85, 3) := by decide +kernel
theorem dX8_hall_26 : decode cX8_hall 26 = .ok (.ireturn, 1) := by decide +kernel
set_option maxRecDepth 20000 in
theorem ggX8_people_X5_hasTown : GoodIn wsX8_people wsX5_hasTown := goodIn_r _ [7, 8, 84, 85, 86, 87, 88, 89, 90, 91, 92, 93] (by decide +kernel) (by decide +kernel)
set_option maxRecDepth 20000 in
theorem gX8_people_X5_hasTown : GoodIn wsX8_people (wsV RX8 88 RX5 yX5_hasTown wsX5_hasTown) := goodIn_app (goodIn_of _ (by decide +kernel)) ggX8_people_X5_hasTown
set_option maxRecDepth 20000 in
theorem ggX8_people_X8_within : GoodIn wsX8_people wsX8_within := goodIn_r _ [12] (by decide +kernel) (by decide +kernel)
set_option maxRecDepth 20000 in
theorem gX8_people_X8_within : GoodIn wsX8_people (va_wsS RX8 92 yX8_within wsX8_within) := goodIn_app (goodIn_of _ (by decide +kernel)) ggX8_people_X8_within
set_option maxRecDepth 20000 in
theorem ggX8_people_X8_change : GoodIn wsX8_people wsX8_change := goodIn_r _ [16, 17, 18, 19, 11, 20, 21, 1, 22, 23, 24, 25, 26, 27, 28, 29, 30, 31, 32, 33, 34, 35, 6, 36, 8, 37, 38, 39, 40, 41, 42, 43, 44, 45, 46, 47, 48, 49, 50, 51, 52, 53, 54, 55, 56, 57, 58, 59, 60, 61, 62, 63, 64, 65, 66, 67, 68, 69, 70, 71, 72, 73, 74, 75, 76, 77, 78, 79, 80, 81, 82, 83, 94, 95, 84, 85, 86, 87, 88, 89, 90, 91, 92, 93, 96, 97, 98, 99, 100, 101, 102, 103, 104, 105, 106, 107, 108, 109, 110, 111, 112, 113, 114, 115] (by decide +kernel) (by decide +kernel)
set_option maxRecDepth 20000 in
theorem gX8_people_X8_change : GoodIn wsX8_people (wsV RX8 100 RX8 yX8_change wsX8_change) := goodIn_app (goodIn_of _ (by decide +kernel)) ggX8_people_X8_change
theorem dX8_people_0 : decode cX8_people 0 = .ok (.aload_n 0, 1) := by decide +kernel
theorem dX8_people_1 : decode cX8_people 1 = .ok (.getfield 12, 3) := by decide +kernel
theorem dX8_people_4 : decode cX8_people 4 = .ok (.iload_n 1, 1) := by decide +kernel
theorem dX8_people_5 : decode cX8_people 5 = .ok (.invokevirtual 88, 3) := by decide +kernel
theorem dX8_people_8 : decode cX8_people 8 = .ok (.ifCond .eq 13, 3) := by decide +kernel
theorem dX8_people_11 : decode cX8_people 11 = .ok (.iload_n 2, 1) := by decide +kernel
theorem dX8_people_12 : decode cX8_people 12 = .ok (.iconst 1, 1) := by decide +kernel
theorem dX8_people_13 : decode cX8_people 13 = .ok (.bipush 20, 2) := by decide +kernel
theorem dX8_people_15 : decode cX8_people 15 = .ok (.invokestatic 92, 3) := by decide +kernel
theorem dX8_people_18 : decode cX8_people 18 = .ok (.ifCond .ne 6, 3) := by decide +kernel
theorem dX8_people_21 : decode cX8_people 21 = .ok (.bipush (-3), 2) := by decide +kernel
theorem dX8_people_23 : decode cX8_people 23 = .ok (.ireturn, 1) := by decide +kernel
theorem dX8_people_24 : decode cX8_people 24 = .ok (.aload_n 0, 1) := by decide +kernel
theorem dX8_people_25 : decode cX8_people 25 = .ok (.aload_n 0, 1) := by decide +kernel
theorem dX8_people_26 : decode cX8_people 26 = .ok (.getfield 12, 3) := by decide +kernel
theorem dX8_people_29 : decode cX8_people 29 = .ok (.getfield 96, 3) := by decide +kernel
theorem dX8_people_32 : decode cX8_people 32 = .ok (.iload_n 1, 1) := by decide +kernel
theorem dX8_people_33 : decode cX8_people 33 = .ok (.iload_n 2, 1) := by decide +kernel
theorem dX8_people_34 : decode cX8_people 34 = .ok (.invokevirtual 100, 3) := by decide +kernel
theorem dX8_people_37 : decode cX8_people 37 = .ok (.ireturn, 1) := by decide +kernel
set_option maxRecDepth 20000 in
theorem ggX8_fine_X5_hasTown : GoodIn wsX8_fine wsX5_hasTown := goodIn_r _ [8, 9, 85, 86, 87, 88, 89, 90, 91, 92, 93, 94] (by decide +kernel) (by decide +kernel)
set_option maxRecDepth 20000 in
theorem gX8_fine_X5_hasTown : GoodIn wsX8_fine (wsV RX8 88 RX5 yX5_hasTown wsX5_hasTown) := goodIn_app (goodIn_of _ (by decide +kernel)) ggX8_fine_X5_hasTown
set_option maxRecDepth 20000 in
theorem ggX8_fine_X8_within : GoodIn wsX8_fine wsX8_within := goodIn_r _ [13] (by decide +kernel) (by decide +kernel)
set_option maxRecDepth 20000 in
theorem gX8_fine_X8_within : GoodIn wsX8_fine (va_wsS RX8 92 yX8_within wsX8_within) := goodIn_app (goodIn_of _ (by decide +kernel)) ggX8_fine_X8_within
set_option maxRecDepth 20000 in
theorem ggX8_fine_X8_change : GoodIn wsX8_fine wsX8_change := goodIn_r _ [17, 18, 19, 20, 12, 21, 22, 1, 23, 24, 25, 26, 27, 28, 29, 30, 31, 32, 33, 34, 35, 36, 7, 37, 9, 38, 39, 40, 41, 42, 43, 44, 45, 46, 47, 48, 49, 50, 51, 52, 53, 54, 55, 56, 57, 58, 59, 60, 61, 62, 63, 64, 65, 66, 67, 68, 69, 70, 71, 72, 73, 74, 75, 76, 77, 78, 79, 80, 81, 82, 83, 84, 95, 96, 85, 86, 87, 88, 89, 90, 91, 92, 93, 94, 97, 98, 99, 100, 101, 102, 103, 104, 105, 106, 107, 108, 109, 110, 111, 112, 113, 114, 115, 116] (by decide +kernel) (by decide +kernel)
set_option maxRecDepth 20000 in
theorem gX8_fine_X8_change : GoodIn wsX8_fine (wsV RX8 100 RX8 yX8_change wsX8_change) := goodIn_app (goodIn_of _ (by decide +kernel)) ggX8_fine_X8_change
theorem dX8_fine_0 : decode cX8_fine 0 = .ok (.aload_n 0, 1) := by decide +kernel
theorem dX8_fine_1 : decode cX8_fine 1 = .ok (.getfield 12, 3) := by decide +kernel
theorem dX8_fine_4 : decode cX8_fine 4 = .ok (.iload_n 1, 1) := by decide +kernel
theorem dX8_fine_5 : decode cX8_fine 5 = .ok (.invokevirtual 88, 3) := by decide +kernel
theorem dX8_fine_8 : decode cX8_fine 8 = .ok (.ifCond .eq 13, 3) := by decide +kernel
theorem dX8_fine_11 : decode cX8_fine 11 = .ok (.iload_n 2, 1) := by decide +kernel
theorem dX8_fine_12 : decode cX8_fine 12 = .ok (.iconst 0, 1) := by decide +kernel
theorem dX8_fine_13 : decode cX8_fine 13 = .ok (.ldc 104, 2) := by decide +kernel
theorem dX8_fine_15 : decode cX8_fine 15 = .ok (.invokestatic 92, 3) := by decide +kernel
theorem dX8_fine_18 : decode cX8_fine 18 = .ok (.ifCond .ne 6, 3) := by decide +kernel
theorem dX8_fine_21 : decode cX8_fine 21 = .ok (.bipush (-3), 2) := by decide +kernel
theorem dX8_fine_23 : decode cX8_fine 23 = .ok (.ireturn, 1) := by decide +kernel
theorem dX8_fine_24 : decode cX8_fine 24 = .ok (.aload_n 0, 1) := by decide +kernel
theorem dX8_fine_25 : decode cX8_fine 25 = .ok (.aload_n 0, 1) := by decide +kernel
theorem dX8_fine_26 : decode cX8_fine 26 = .ok (.getfield 12, 3) := by decide +kernel
theorem dX8_fine_29 : decode cX8_fine 29 = .ok (.getfield 105, 3) := by decide +kernel
theorem dX8_fine_32 : decode cX8_fine 32 = .ok (.iload_n 1, 1) := by decide +kernel
theorem dX8_fine_33 : decode cX8_fine 33 = .ok (.iload_n 2, 1) := by decide +kernel
theorem dX8_fine_34 : decode cX8_fine 34 = .ok (.invokevirtual 100, 3) := by decide +kernel
theorem dX8_fine_37 : decode cX8_fine 37 = .ok (.ireturn, 1) := by decide +kernel
set_option maxRecDepth 20000 in
theorem ggX8_place_X5_hasTown : GoodIn wsX8_place wsX5_hasTown := goodIn_r _ [7, 8, 84, 85, 86, 87, 88, 89, 90, 91, 92, 93] (by decide +kernel) (by decide +kernel)
set_option maxRecDepth 20000 in
theorem gX8_place_X5_hasTown : GoodIn wsX8_place (wsV RX8 88 RX5 yX5_hasTown wsX5_hasTown) := goodIn_app (goodIn_of _ (by decide +kernel)) ggX8_place_X5_hasTown
set_option maxRecDepth 20000 in
theorem ggX8_place_X8_within : GoodIn wsX8_place wsX8_within := goodIn_r _ [12] (by decide +kernel) (by decide +kernel)
set_option maxRecDepth 20000 in
theorem gX8_place_X8_within : GoodIn wsX8_place (va_wsS RX8 92 yX8_within wsX8_within) := goodIn_app (goodIn_of _ (by decide +kernel)) ggX8_place_X8_within
set_option maxRecDepth 20000 in
theorem ggX8_place_X8_change : GoodIn wsX8_place wsX8_change := goodIn_r _ [16, 17, 18, 19, 11, 20, 21, 1, 22, 23, 24, 25, 26, 27, 28, 29, 30, 31, 32, 33, 34, 35, 6, 36, 8, 37, 38, 39, 40, 41, 42, 43, 44, 45, 46, 47, 48, 49, 50, 51, 52, 53, 54, 55, 56, 57, 58, 59, 60, 61, 62, 63, 64, 65, 66, 67, 68, 69, 70, 71, 72, 73, 74, 75, 76, 77, 78, 79, 80, 81, 82, 83, 94, 95, 84, 85, 86, 87, 88, 89, 90, 91, 92, 93, 96, 97, 98, 99, 100, 101, 102, 103, 104, 105, 106, 107, 108, 109, 110, 111, 112, 113, 114, 115] (by decide +kernel) (by decide +kernel)
set_option maxRecDepth 20000 in
theorem gX8_place_X8_change : GoodIn wsX8_place (wsV RX8 100 RX8 yX8_change wsX8_change) := goodIn_app (goodIn_of _ (by decide +kernel)) ggX8_place_X8_change
theorem dX8_place_0 : decode cX8_place 0 = .ok (.aload_n 0, 1) := by decide +kernel
theorem dX8_place_1 : decode cX8_place 1 = .ok (.getfield 12, 3) := by decide +kernel
theorem dX8_place_4 : decode cX8_place 4 = .ok (.iload_n 1, 1) := by decide +kernel
theorem dX8_place_5 : decode cX8_place 5 = .ok (.invokevirtual 88, 3) := by decide +kernel
theorem dX8_place_8 : decode cX8_place 8 = .ok (.ifCond .eq 16, 3) := by decide +kernel
theorem dX8_place_11 : decode cX8_place 11 = .ok (.iload_n 2, 1) := by decide +kernel
theorem dX8_place_12 : decode cX8_place 12 = .ok (.sipush (-1000), 3) := by decide +kernel
theorem dX8_place_15 : decode cX8_place 15 = .ok (.sipush 1000, 3) := by decide +kernel
theorem dX8_place_18 : decode cX8_place 18 = .ok (.invokestatic 92, 3) := by decide +kernel
theorem dX8_place_21 : decode cX8_place 21 = .ok (.ifCond .ne 6, 3) := by decide +kernel
theorem dX8_place_24 : decode cX8_place 24 = .ok (.bipush (-3), 2) := by decide +kernel
theorem dX8_place_26 : decode cX8_place 26 = .ok (.ireturn, 1) := by decide +kernel
theorem dX8_place_27 : decode cX8_place 27 = .ok (.aload_n 0, 1) := by decide +kernel
theorem dX8_place_28 : decode cX8_place 28 = .ok (.aload_n 0, 1) := by decide +kernel
theorem dX8_place_29 : decode cX8_place 29 = .ok (.getfield 12, 3) := by decide +kernel
theorem dX8_place_32 : decode cX8_place 32 = .ok (.getfield 108, 3) := by decide +kernel
theorem dX8_place_35 : decode cX8_place 35 = .ok (.iload_n 1, 1) := by decide +kernel
theorem dX8_place_36 : decode cX8_place 36 = .ok (.iload_n 2, 1) := by decide +kernel
theorem dX8_place_37 : decode cX8_place 37 = .ok (.invokevirtual 100, 3) := by decide +kernel
theorem dX8_place_40 : decode cX8_place 40 = .ok (.pop, 1) := by decide +kernel
theorem dX8_place_41 : decode cX8_place 41 = .ok (.iconst 0, 1) := by decide +kernel
theorem dX8_place_42 : decode cX8_place 42 = .ok (.ireturn, 1) := by decide +kernel
set_option maxRecDepth 20000 in
theorem ggX8_price_X5_hasHall : GoodIn wsX8_price wsX5_hasHall := goodIn_r _ [8, 9, 85, 86, 87, 88, 89, 90, 91, 92, 93, 94] (by decide +kernel) (by decide +kernel)
set_option maxRecDepth 20000 in
theorem gX8_price_X5_hasHall : GoodIn wsX8_price (wsV RX8 111 RX5 yX5_hasHall wsX5_hasHall) := goodIn_app (goodIn_of _ (by decide +kernel)) ggX8_price_X5_hasHall
set_option maxRecDepth 20000 in
theorem ggX8_price_X8_within : GoodIn wsX8_price wsX8_within := goodIn_r _ [13] (by decide +kernel) (by decide +kernel)
set_option maxRecDepth 20000 in
theorem gX8_price_X8_within : GoodIn wsX8_price (va_wsS RX8 92 yX8_within wsX8_within) := goodIn_app (goodIn_of _ (by decide +kernel)) ggX8_price_X8_within
set_option maxRecDepth 20000 in
theorem ggX8_price_X8_change : GoodIn wsX8_price wsX8_change := goodIn_r _ [17, 18, 19, 20, 12, 21, 22, 1, 23, 24, 25, 26, 27, 28, 29, 30, 31, 32, 33, 34, 35, 36, 7, 37, 38, 9, 39, 40, 41, 42, 43, 44, 45, 46, 47, 48, 49, 50, 51, 52, 53, 54, 55, 56, 57, 58, 59, 60, 61, 62, 63, 64, 65, 66, 67, 68, 69, 70, 71, 72, 73, 74, 75, 76, 77, 78, 79, 80, 81, 82, 83, 84, 95, 96, 85, 86, 87, 88, 89, 90, 91, 92, 93, 94, 97, 98, 99, 100, 101, 102, 103, 104, 105, 106, 107, 108, 109, 110, 111, 112, 113, 114, 115, 116] (by decide +kernel) (by decide +kernel)
set_option maxRecDepth 20000 in
theorem gX8_price_X8_change : GoodIn wsX8_price (wsV RX8 100 RX8 yX8_change wsX8_change) := goodIn_app (goodIn_of _ (by decide +kernel)) ggX8_price_X8_change
theorem dX8_price_0 : decode cX8_price 0 = .ok (.aload_n 0, 1) := by decide +kernel
theorem dX8_price_1 : decode cX8_price 1 = .ok (.getfield 12, 3) := by decide +kernel
theorem dX8_price_4 : decode cX8_price 4 = .ok (.iload_n 1, 1) := by decide +kernel
theorem dX8_price_5 : decode cX8_price 5 = .ok (.invokevirtual 111, 3) := by decide +kernel
theorem dX8_price_8 : decode cX8_price 8 = .ok (.ifCond .eq 13, 3) := by decide +kernel
theorem dX8_price_11 : decode cX8_price 11 = .ok (.iload_n 2, 1) := by decide +kernel
theorem dX8_price_12 : decode cX8_price 12 = .ok (.iconst 0, 1) := by decide +kernel
theorem dX8_price_13 : decode cX8_price 13 = .ok (.ldc 104, 2) := by decide +kernel
theorem dX8_price_15 : decode cX8_price 15 = .ok (.invokestatic 92, 3) := by decide +kernel
theorem dX8_price_18 : decode cX8_price 18 = .ok (.ifCond .ne 6, 3) := by decide +kernel
theorem dX8_price_21 : decode cX8_price 21 = .ok (.bipush (-3), 2) := by decide +kernel
theorem dX8_price_23 : decode cX8_price 23 = .ok (.ireturn, 1) := by decide +kernel
theorem dX8_price_24 : decode cX8_price 24 = .ok (.aload_n 0, 1) := by decide +kernel
theorem dX8_price_25 : decode cX8_price 25 = .ok (.aload_n 0, 1) := by decide +kernel
theorem dX8_price_26 : decode cX8_price 26 = .ok (.getfield 12, 3) := by decide +kernel
theorem dX8_price_29 : decode cX8_price 29 = .ok (.getfield 114, 3) := by decide +kernel
theorem dX8_price_32 : decode cX8_price 32 = .ok (.iload_n 1, 1) := by decide +kernel
theorem dX8_price_33 : decode cX8_price 33 = .ok (.iload_n 2, 1) := by decide +kernel
theorem dX8_price_34 : decode cX8_price 34 = .ok (.invokevirtual 100, 3) := by decide +kernel
theorem dX8_price_37 : decode cX8_price 37 = .ok (.ireturn, 1) := by decide +kernel
set_option maxRecDepth 20000 in
theorem ggX8_room_X5_hasHall : GoodIn wsX8_room wsX5_hasHall := goodIn_r _ [7, 8, 84, 85, 86, 87, 88, 89, 90, 91, 92, 93] (by decide +kernel) (by decide +kernel)
set_option maxRecDepth 20000 in
theorem gX8_room_X5_hasHall : GoodIn wsX8_room (wsV RX8 111 RX5 yX5_hasHall wsX5_hasHall) := goodIn_app (goodIn_of _ (by decide +kernel)) ggX8_room_X5_hasHall
set_option maxRecDepth 20000 in
theorem ggX8_room_X8_within : GoodIn wsX8_room wsX8_within := goodIn_r _ [12] (by decide +kernel) (by decide +kernel)
set_option maxRecDepth 20000 in
theorem gX8_room_X8_within : GoodIn wsX8_room (va_wsS RX8 92 yX8_within wsX8_within) := goodIn_app (goodIn_of _ (by decide +kernel)) ggX8_room_X8_within
set_option maxRecDepth 20000 in
theorem ggX8_room_X8_change : GoodIn wsX8_room wsX8_change := goodIn_r _ [16, 17, 18, 19, 11, 20, 21, 1, 22, 23, 24, 25, 26, 27, 28, 29, 30, 31, 32, 33, 34, 35, 6, 36, 37, 8, 38, 39, 40, 41, 42, 43, 44, 45, 46, 47, 48, 49, 50, 51, 52, 53, 54, 55, 56, 57, 58, 59, 60, 61, 62, 63, 64, 65, 66, 67, 68, 69, 70, 71, 72, 73, 74, 75, 76, 77, 78, 79, 80, 81, 82, 83, 94, 95, 84, 85, 86, 87, 88, 89, 90, 91, 92, 93, 96, 97, 98, 99, 100, 101, 102, 103, 104, 105, 106, 107, 108, 109, 110, 111, 112, 113, 114, 115] (by decide +kernel) (by decide +kernel)
set_option maxRecDepth 20000 in
theorem gX8_room_X8_change : GoodIn wsX8_room (wsV RX8 100 RX8 yX8_change wsX8_change) := goodIn_app (goodIn_of _ (by decide +kernel)) ggX8_room_X8_change
theorem dX8_room_0 : decode cX8_room 0 = .ok (.aload_n 0, 1) := by decide +kernel
theorem dX8_room_1 : decode cX8_room 1 = .ok (.getfield 12, 3) := by decide +kernel
theorem dX8_room_4 : decode cX8_room 4 = .ok (.iload_n 1, 1) := by decide +kernel
theorem dX8_room_5 : decode cX8_room 5 = .ok (.invokevirtual 111, 3) := by decide +kernel
theorem dX8_room_8 : decode cX8_room 8 = .ok (.ifCond .eq 14, 3) := by decide +kernel
theorem dX8_room_11 : decode cX8_room 11 = .ok (.iload_n 2, 1) := by decide +kernel
theorem dX8_room_12 : decode cX8_room 12 = .ok (.iconst 0, 1) := by decide +kernel
theorem dX8_room_13 : decode cX8_room 13 = .ok (.sipush 200, 3) := by decide +kernel
theorem dX8_room_16 : decode cX8_room 16 = .ok (.invokestatic 92, 3) := by decide +kernel
theorem dX8_room_19 : decode cX8_room 19 = .ok (.ifCond .ne 6, 3) := by decide +kernel
theorem dX8_room_22 : decode cX8_room 22 = .ok (.bipush (-3), 2) := by decide +kernel
theorem dX8_room_24 : decode cX8_room 24 = .ok (.ireturn, 1) := by decide +kernel
theorem dX8_room_25 : decode cX8_room 25 = .ok (.aload_n 0, 1) := by decide +kernel
theorem dX8_room_26 : decode cX8_room 26 = .ok (.aload_n 0, 1) := by decide +kernel
theorem dX8_room_27 : decode cX8_room 27 = .ok (.getfield 12, 3) := by decide +kernel
theorem dX8_room_30 : decode cX8_room 30 = .ok (.getfield 117, 3) := by decide +kernel
theorem dX8_room_33 : decode cX8_room 33 = .ok (.iload_n 1, 1) := by decide +kernel
theorem dX8_room_34 : decode cX8_room 34 = .ok (.iload_n 2, 1) := by decide +kernel
theorem dX8_room_35 : decode cX8_room 35 = .ok (.invokevirtual 100, 3) := by decide +kernel
theorem dX8_room_38 : decode cX8_room 38 = .ok (.ireturn, 1) := by decide +kernel
set_option maxRecDepth 20000 in
theorem ggX8_sheet_X5_hasHall : GoodIn wsX8_sheet wsX5_hasHall := goodIn_r _ [6, 7, 84, 85, 86, 87, 88, 89, 90, 91, 92, 93] (by decide +kernel) (by decide +kernel)
set_option maxRecDepth 20000 in
theorem gX8_sheet_X5_hasHall : GoodIn wsX8_sheet (wsV RX8 111 RX5 yX5_hasHall wsX5_hasHall) := goodIn_app (goodIn_of _ (by decide +kernel)) ggX8_sheet_X5_hasHall
set_option maxRecDepth 20000 in
theorem ggX8_sheet_X8_within : GoodIn wsX8_sheet wsX8_within := goodIn_r _ [11] (by decide +kernel) (by decide +kernel)
set_option maxRecDepth 20000 in
theorem gX8_sheet_X8_within : GoodIn wsX8_sheet (va_wsS RX8 92 yX8_within wsX8_within) := goodIn_app (goodIn_of _ (by decide +kernel)) ggX8_sheet_X8_within
set_option maxRecDepth 20000 in
theorem ggX8_sheet_X8_keepForUndo : GoodIn wsX8_sheet wsX8_keepForUndo := goodIn_r _ [15, 16, 1, 17, 18, 19, 20, 21, 22, 23, 24, 25, 26, 27, 28, 29, 30, 5, 31, 32, 7, 33, 34, 35, 36, 37, 38, 39, 40, 41, 42, 43, 44, 45, 46, 47, 10, 48, 49, 50, 51, 52, 53, 54, 55, 56, 57, 58, 59, 60, 61, 62, 63, 64, 65, 66, 67, 68, 69, 75, 76, 77, 78, 79, 80, 81, 82, 83, 94, 95, 84, 85, 86, 87, 88, 89, 90, 91, 92, 93, 96, 97, 98, 99, 100, 101, 102, 103, 104, 105, 106, 107, 108, 109, 110, 111, 112, 113, 114, 115] (by decide +kernel) (by decide +kernel)
set_option maxRecDepth 20000 in
theorem gX8_sheet_X8_keepForUndo : GoodIn wsX8_sheet (wsV RX8 75 RX8 yX8_keepForUndo wsX8_keepForUndo) := goodIn_app (goodIn_of _ (by decide +kernel)) ggX8_sheet_X8_keepForUndo
set_option maxRecDepth 20000 in
theorem ggX8_sheet_X5_laySheet : GoodIn wsX8_sheet wsX5_laySheet := goodIn_r _ [73, 42, 43, 44, 74, 84, 85, 86, 87, 88, 89, 90, 91, 92, 93] (by decide +kernel) (by decide +kernel)
set_option maxRecDepth 20000 in
theorem gX8_sheet_X5_laySheet : GoodIn wsX8_sheet (wsV RX8 120 RX5 yX5_laySheet wsX5_laySheet) := goodIn_app (goodIn_of _ (by decide +kernel)) ggX8_sheet_X5_laySheet
theorem dX8_sheet_0 : decode cX8_sheet 0 = .ok (.aload_n 0, 1) := by decide +kernel
theorem dX8_sheet_1 : decode cX8_sheet 1 = .ok (.getfield 12, 3) := by decide +kernel
theorem dX8_sheet_4 : decode cX8_sheet 4 = .ok (.iload_n 1, 1) := by decide +kernel
theorem dX8_sheet_5 : decode cX8_sheet 5 = .ok (.invokevirtual 111, 3) := by decide +kernel
theorem dX8_sheet_8 : decode cX8_sheet 8 = .ok (.ifCond .eq 18, 3) := by decide +kernel
theorem dX8_sheet_11 : decode cX8_sheet 11 = .ok (.iload_n 2, 1) := by decide +kernel
theorem dX8_sheet_12 : decode cX8_sheet 12 = .ok (.iconst 0, 1) := by decide +kernel
theorem dX8_sheet_13 : decode cX8_sheet 13 = .ok (.iconst 2, 1) := by decide +kernel
theorem dX8_sheet_14 : decode cX8_sheet 14 = .ok (.invokestatic 92, 3) := by decide +kernel
theorem dX8_sheet_17 : decode cX8_sheet 17 = .ok (.ifCond .eq 9, 3) := by decide +kernel
theorem dX8_sheet_20 : decode cX8_sheet 20 = .ok (.iload_n 3, 1) := by decide +kernel
theorem dX8_sheet_21 : decode cX8_sheet 21 = .ok (.bipush 8, 2) := by decide +kernel
theorem dX8_sheet_23 : decode cX8_sheet 23 = .ok (.if_icmp .le 6, 3) := by decide +kernel
theorem dX8_sheet_26 : decode cX8_sheet 26 = .ok (.bipush (-3), 2) := by decide +kernel
theorem dX8_sheet_28 : decode cX8_sheet 28 = .ok (.ireturn, 1) := by decide +kernel
theorem dX8_sheet_29 : decode cX8_sheet 29 = .ok (.iload_n 3, 1) := by decide +kernel
theorem dX8_sheet_30 : decode cX8_sheet 30 = .ok (.ifCond .ge 6, 3) := by decide +kernel
theorem dX8_sheet_33 : decode cX8_sheet 33 = .ok (.bipush (-14), 2) := by decide +kernel
theorem dX8_sheet_35 : decode cX8_sheet 35 = .ok (.ireturn, 1) := by decide +kernel
theorem dX8_sheet_36 : decode cX8_sheet 36 = .ok (.aload_n 0, 1) := by decide +kernel
theorem dX8_sheet_37 : decode cX8_sheet 37 = .ok (.invokevirtual 75, 3) := by decide +kernel
theorem dX8_sheet_40 : decode cX8_sheet 40 = .ok (.aload_n 0, 1) := by decide +kernel
theorem dX8_sheet_41 : decode cX8_sheet 41 = .ok (.getfield 12, 3) := by decide +kernel
theorem dX8_sheet_44 : decode cX8_sheet 44 = .ok (.iload_n 1, 1) := by decide +kernel
theorem dX8_sheet_45 : decode cX8_sheet 45 = .ok (.iload_n 2, 1) := by decide +kernel
theorem dX8_sheet_46 : decode cX8_sheet 46 = .ok (.iload_n 3, 1) := by decide +kernel
theorem dX8_sheet_47 : decode cX8_sheet 47 = .ok (.invokevirtual 120, 3) := by decide +kernel
theorem dX8_sheet_50 : decode cX8_sheet 50 = .ok (.iload_n 3, 1) := by decide +kernel
theorem dX8_sheet_51 : decode cX8_sheet 51 = .ok (.ireturn, 1) := by decide +kernel
set_option maxRecDepth 20000 in
theorem ggX8_lose_X5_hasHall : GoodIn wsX8_lose wsX5_hasHall := goodIn_r _ [7, 8, 86, 87, 88, 89, 90, 91, 92, 93, 94, 95] (by decide +kernel) (by decide +kernel)
set_option maxRecDepth 20000 in
theorem gX8_lose_X5_hasHall : GoodIn wsX8_lose (wsV RX8 111 RX5 yX5_hasHall wsX5_hasHall) := goodIn_app (goodIn_of _ (by decide +kernel)) ggX8_lose_X5_hasHall
set_option maxRecDepth 20000 in
theorem ggX8_lose_X5_isMissing : GoodIn wsX8_lose wsX5_isMissing := goodIn_r _ [12, 13, 86, 87, 88, 89, 90, 91, 92, 93, 94, 95] (by decide +kernel) (by decide +kernel)
set_option maxRecDepth 20000 in
theorem gX8_lose_X5_isMissing : GoodIn wsX8_lose (wsV RX8 124 RX5 yX5_isMissing wsX5_isMissing) := goodIn_app (goodIn_of _ (by decide +kernel)) ggX8_lose_X5_isMissing
set_option maxRecDepth 20000 in
theorem ggX8_lose_X8_keepForUndo : GoodIn wsX8_lose wsX8_keepForUndo := goodIn_r _ [18, 19, 1, 20, 21, 22, 23, 24, 25, 26, 27, 28, 29, 30, 31, 32, 33, 6, 34, 35, 8, 36, 37, 38, 39, 40, 41, 42, 43, 44, 13, 45, 46, 47, 48, 49, 17, 50, 51, 52, 53, 54, 55, 56, 57, 58, 59, 60, 61, 62, 63, 64, 65, 66, 67, 68, 69, 70, 71, 77, 78, 79, 80, 81, 82, 83, 84, 85, 96, 97, 86, 87, 88, 89, 90, 91, 92, 93, 94, 95, 98, 99, 100, 101, 102, 103, 104, 105, 106, 107, 108, 109, 110, 111, 112, 113, 114, 115, 116, 117] (by decide +kernel) (by decide +kernel)
set_option maxRecDepth 20000 in
theorem gX8_lose_X8_keepForUndo : GoodIn wsX8_lose (wsV RX8 75 RX8 yX8_keepForUndo wsX8_keepForUndo) := goodIn_app (goodIn_of _ (by decide +kernel)) ggX8_lose_X8_keepForUndo
set_option maxRecDepth 20000 in
theorem ggX8_lose_X5_laySheet : GoodIn wsX8_lose wsX5_laySheet := goodIn_r _ [75, 13, 45, 46, 76, 86, 87, 88, 89, 90, 91, 92, 93, 94, 95] (by decide +kernel) (by decide +kernel)
set_option maxRecDepth 20000 in
theorem gX8_lose_X5_laySheet : GoodIn wsX8_lose (wsV RX8 120 RX5 yX5_laySheet wsX5_laySheet) := goodIn_app (goodIn_of _ (by decide +kernel)) ggX8_lose_X5_laySheet
theorem dX8_lose_0 : decode cX8_lose 0 = .ok (.aload_n 0, 1) := by decide +kernel
theorem dX8_lose_1 : decode cX8_lose 1 = .ok (.getfield 12, 3) := by decide +kernel
theorem dX8_lose_4 : decode cX8_lose 4 = .ok (.iload_n 1, 1) := by decide +kernel
theorem dX8_lose_5 : decode cX8_lose 5 = .ok (.invokevirtual 111, 3) := by decide +kernel
theorem dX8_lose_8 : decode cX8_lose 8 = .ok (.ifCond .ne 6, 3) := by decide +kernel
theorem dX8_lose_11 : decode cX8_lose 11 = .ok (.bipush (-3), 2) := by decide +kernel
theorem dX8_lose_13 : decode cX8_lose 13 = .ok (.ireturn, 1) := by decide +kernel
theorem dX8_lose_14 : decode cX8_lose 14 = .ok (.aload_n 0, 1) := by decide +kernel
theorem dX8_lose_15 : decode cX8_lose 15 = .ok (.getfield 12, 3) := by decide +kernel
theorem dX8_lose_18 : decode cX8_lose 18 = .ok (.iload_n 1, 1) := by decide +kernel
theorem dX8_lose_19 : decode cX8_lose 19 = .ok (.invokevirtual 124, 3) := by decide +kernel
theorem dX8_lose_22 : decode cX8_lose 22 = .ok (.ifCond .eq 6, 3) := by decide +kernel
theorem dX8_lose_25 : decode cX8_lose 25 = .ok (.bipush (-11), 2) := by decide +kernel
theorem dX8_lose_27 : decode cX8_lose 27 = .ok (.ireturn, 1) := by decide +kernel
theorem dX8_lose_28 : decode cX8_lose 28 = .ok (.aload_n 0, 1) := by decide +kernel
theorem dX8_lose_29 : decode cX8_lose 29 = .ok (.getfield 12, 3) := by decide +kernel
theorem dX8_lose_32 : decode cX8_lose 32 = .ok (.getfield 127, 3) := by decide +kernel
theorem dX8_lose_35 : decode cX8_lose 35 = .ok (.iload_n 1, 1) := by decide +kernel
theorem dX8_lose_36 : decode cX8_lose 36 = .ok (.iaload, 1) := by decide +kernel
theorem dX8_lose_37 : decode cX8_lose 37 = .ok (.istore_n 2, 1) := by decide +kernel
theorem dX8_lose_38 : decode cX8_lose 38 = .ok (.aload_n 0, 1) := by decide +kernel
theorem dX8_lose_39 : decode cX8_lose 39 = .ok (.invokevirtual 75, 3) := by decide +kernel
theorem dX8_lose_42 : decode cX8_lose 42 = .ok (.aload_n 0, 1) := by decide +kernel
theorem dX8_lose_43 : decode cX8_lose 43 = .ok (.getfield 12, 3) := by decide +kernel
theorem dX8_lose_46 : decode cX8_lose 46 = .ok (.iload_n 1, 1) := by decide +kernel
theorem dX8_lose_47 : decode cX8_lose 47 = .ok (.iconst (-1), 1) := by decide +kernel
theorem dX8_lose_48 : decode cX8_lose 48 = .ok (.iconst 0, 1) := by decide +kernel
theorem dX8_lose_49 : decode cX8_lose 49 = .ok (.invokevirtual 120, 3) := by decide +kernel
theorem dX8_lose_52 : decode cX8_lose 52 = .ok (.iload_n 2, 1) := by decide +kernel
theorem dX8_lose_53 : decode cX8_lose 53 = .ok (.ireturn, 1) := by decide +kernel
set_option maxRecDepth 20000 in
theorem ggX8_way_X5_hasHall : GoodIn wsX8_way wsX5_hasHall := goodIn_r _ [9, 10, 90, 91, 92, 93, 94, 95, 96, 97, 98, 99] (by decide +kernel) (by decide +kernel)
set_option maxRecDepth 20000 in
theorem gX8_way_X5_hasHall : GoodIn wsX8_way (wsV RX8 111 RX5 yX5_hasHall wsX5_hasHall) := goodIn_app (goodIn_of _ (by decide +kernel)) ggX8_way_X5_hasHall
set_option maxRecDepth 20000 in
theorem ggX8_way_X5_isMissing : GoodIn wsX8_way wsX5_isMissing := goodIn_r _ [14, 15, 90, 91, 92, 93, 94, 95, 96, 97, 98, 99] (by decide +kernel) (by decide +kernel)
set_option maxRecDepth 20000 in
theorem gX8_way_X5_isMissing : GoodIn wsX8_way (wsV RX8 124 RX5 yX5_isMissing wsX5_isMissing) := goodIn_app (goodIn_of _ (by decide +kernel)) ggX8_way_X5_isMissing
set_option maxRecDepth 20000 in
theorem ggX8_way_X8_within : GoodIn wsX8_way wsX8_within := goodIn_r _ [19] (by decide +kernel) (by decide +kernel)
set_option maxRecDepth 20000 in
theorem gX8_way_X8_within : GoodIn wsX8_way (va_wsS RX8 92 yX8_within wsX8_within) := goodIn_app (goodIn_of _ (by decide +kernel)) ggX8_way_X8_within
set_option maxRecDepth 20000 in
theorem ggX8_way_X8_change : GoodIn wsX8_way wsX8_change := goodIn_r _ [23, 24, 25, 26, 18, 27, 28, 1, 29, 30, 31, 32, 33, 34, 35, 36, 37, 38, 39, 40, 41, 42, 8, 43, 44, 10, 45, 46, 47, 48, 49, 50, 51, 52, 53, 15, 54, 55, 56, 57, 58, 59, 60, 61, 62, 63, 64, 65, 66, 67, 68, 69, 70, 71, 72, 73, 74, 75, 76, 77, 78, 79, 80, 81, 82, 83, 84, 85, 86, 87, 88, 89, 100, 101, 90, 91, 92, 93, 94, 95, 96, 97, 98, 99, 102, 103, 104, 105, 106, 107, 108, 109, 110, 111, 112, 113, 114, 115, 116, 117, 118, 119, 120, 121] (by decide +kernel) (by decide +kernel)
set_option maxRecDepth 20000 in
theorem gX8_way_X8_change : GoodIn wsX8_way (wsV RX8 100 RX8 yX8_change wsX8_change) := goodIn_app (goodIn_of _ (by decide +kernel)) ggX8_way_X8_change
theorem dX8_way_0 : decode cX8_way 0 = .ok (.aload_n 0, 1) := by decide +kernel
theorem dX8_way_1 : decode cX8_way 1 = .ok (.getfield 12, 3) := by decide +kernel
theorem dX8_way_4 : decode cX8_way 4 = .ok (.iload_n 1, 1) := by decide +kernel
theorem dX8_way_5 : decode cX8_way 5 = .ok (.invokevirtual 111, 3) := by decide +kernel
theorem dX8_way_8 : decode cX8_way 8 = .ok (.ifCond .ne 6, 3) := by decide +kernel
theorem dX8_way_11 : decode cX8_way 11 = .ok (.bipush (-3), 2) := by decide +kernel
theorem dX8_way_13 : decode cX8_way 13 = .ok (.ireturn, 1) := by decide +kernel
theorem dX8_way_14 : decode cX8_way 14 = .ok (.aload_n 0, 1) := by decide +kernel
theorem dX8_way_15 : decode cX8_way 15 = .ok (.getfield 12, 3) := by decide +kernel
theorem dX8_way_18 : decode cX8_way 18 = .ok (.iload_n 1, 1) := by decide +kernel
theorem dX8_way_19 : decode cX8_way 19 = .ok (.invokevirtual 124, 3) := by decide +kernel
theorem dX8_way_22 : decode cX8_way 22 = .ok (.ifCond .eq 6, 3) := by decide +kernel
theorem dX8_way_25 : decode cX8_way 25 = .ok (.bipush (-11), 2) := by decide +kernel
theorem dX8_way_27 : decode cX8_way 27 = .ok (.ireturn, 1) := by decide +kernel
theorem dX8_way_28 : decode cX8_way 28 = .ok (.iload_n 2, 1) := by decide +kernel
theorem dX8_way_29 : decode cX8_way 29 = .ok (.iconst 0, 1) := by decide +kernel
theorem dX8_way_30 : decode cX8_way 30 = .ok (.aload_n 0, 1) := by decide +kernel
theorem dX8_way_31 : decode cX8_way 31 = .ok (.getfield 12, 3) := by decide +kernel
theorem dX8_way_34 : decode cX8_way 34 = .ok (.getfield 127, 3) := by decide +kernel
theorem dX8_way_37 : decode cX8_way 37 = .ok (.iload_n 1, 1) := by decide +kernel
theorem dX8_way_38 : decode cX8_way 38 = .ok (.iaload, 1) := by decide +kernel
theorem dX8_way_39 : decode cX8_way 39 = .ok (.iconst 1, 1) := by decide +kernel
theorem dX8_way_40 : decode cX8_way 40 = .ok (.isub, 1) := by decide +kernel
theorem dX8_way_41 : decode cX8_way 41 = .ok (.invokestatic 92, 3) := by decide +kernel
theorem dX8_way_44 : decode cX8_way 44 = .ok (.ifCond .ne 6, 3) := by decide +kernel
theorem dX8_way_47 : decode cX8_way 47 = .ok (.bipush (-13), 2) := by decide +kernel
theorem dX8_way_49 : decode cX8_way 49 = .ok (.ireturn, 1) := by decide +kernel
theorem dX8_way_50 : decode cX8_way 50 = .ok (.iload_n 3, 1) := by decide +kernel
theorem dX8_way_51 : decode cX8_way 51 = .ok (.iconst 0, 1) := by decide +kernel
theorem dX8_way_52 : decode cX8_way 52 = .ok (.aload_n 0, 1) := by decide +kernel
theorem dX8_way_53 : decode cX8_way 53 = .ok (.getfield 12, 3) := by decide +kernel
theorem dX8_way_56 : decode cX8_way 56 = .ok (.getfield 130, 3) := by decide +kernel
theorem dX8_way_59 : decode cX8_way 59 = .ok (.iload_n 1, 1) := by decide +kernel
theorem dX8_way_60 : decode cX8_way 60 = .ok (.iaload, 1) := by decide +kernel
theorem dX8_way_61 : decode cX8_way 61 = .ok (.ifCond .ne 8, 3) := by decide +kernel
theorem dX8_way_64 : decode cX8_way 64 = .ok (.bipush 127, 2) := by decide +kernel
theorem dX8_way_66 : decode cX8_way 66 = .ok (.goto 6, 3) := by decide +kernel
theorem dX8_way_69 : decode cX8_way 69 = .ok (.sipush 1000, 3) := by decide +kernel
theorem dX8_way_72 : decode cX8_way 72 = .ok (.invokestatic 92, 3) := by decide +kernel
theorem dX8_way_75 : decode cX8_way 75 = .ok (.ifCond .ne 6, 3) := by decide +kernel
theorem dX8_way_78 : decode cX8_way 78 = .ok (.bipush (-3), 2) := by decide +kernel
theorem dX8_way_80 : decode cX8_way 80 = .ok (.ireturn, 1) := by decide +kernel
theorem dX8_way_81 : decode cX8_way 81 = .ok (.aload_n 0, 1) := by decide +kernel
theorem dX8_way_82 : decode cX8_way 82 = .ok (.aload_n 0, 1) := by decide +kernel
theorem dX8_way_83 : decode cX8_way 83 = .ok (.getfield 12, 3) := by decide +kernel
theorem dX8_way_86 : decode cX8_way 86 = .ok (.getfield 133, 3) := by decide +kernel
theorem dX8_way_89 : decode cX8_way 89 = .ok (.iload_n 1, 1) := by decide +kernel
theorem dX8_way_90 : decode cX8_way 90 = .ok (.bipush 8, 2) := by decide +kernel
theorem dX8_way_92 : decode cX8_way 92 = .ok (.imul, 1) := by decide +kernel
theorem dX8_way_93 : decode cX8_way 93 = .ok (.iload_n 2, 1) := by decide +kernel
theorem dX8_way_94 : decode cX8_way 94 = .ok (.iadd, 1) := by decide +kernel
theorem dX8_way_95 : decode cX8_way 95 = .ok (.iload_n 3, 1) := by decide +kernel
theorem dX8_way_96 : decode cX8_way 96 = .ok (.invokevirtual 100, 3) := by decide +kernel
theorem dX8_way_99 : decode cX8_way 99 = .ok (.ireturn, 1) := by decide +kernel
set_option maxRecDepth 20000 in
theorem ggX8_copy_X5_hasHall : GoodIn wsX8_copy wsX5_hasHall := goodIn_r _ [12, 13, 87, 88, 89, 90, 91, 92, 93, 94, 95, 96] (by decide +kernel) (by decide +kernel)
set_option maxRecDepth 20000 in
theorem gX8_copy_X5_hasHall : GoodIn wsX8_copy (wsV RX8 111 RX5 yX5_hasHall wsX5_hasHall) := goodIn_app (goodIn_of _ (by decide +kernel)) ggX8_copy_X5_hasHall
set_option maxRecDepth 20000 in
theorem ggX8_copy_X5_isMissing : GoodIn wsX8_copy wsX5_isMissing := goodIn_r _ [17, 18, 87, 88, 89, 90, 91, 92, 93, 94, 95, 96] (by decide +kernel) (by decide +kernel)
set_option maxRecDepth 20000 in
theorem gX8_copy_X5_isMissing : GoodIn wsX8_copy (wsV RX8 124 RX5 yX5_isMissing wsX5_isMissing) := goodIn_app (goodIn_of _ (by decide +kernel)) ggX8_copy_X5_isMissing
set_option maxRecDepth 20000 in
theorem ggX8_copy_X5_hasPlaces : GoodIn wsX8_copy wsX5_hasPlaces := goodIn_r _ [22, 23, 87, 88, 89, 90, 91, 92, 93, 94, 95, 96] (by decide +kernel) (by decide +kernel)
set_option maxRecDepth 20000 in
theorem gX8_copy_X5_hasPlaces : GoodIn wsX8_copy (wsV RX8 136 RX5 yX5_hasPlaces wsX5_hasPlaces) := goodIn_app (goodIn_of _ (by decide +kernel)) ggX8_copy_X5_hasPlaces
set_option maxRecDepth 20000 in
theorem ggX8_copy_X8_keepForUndo : GoodIn wsX8_copy wsX8_keepForUndo := goodIn_r _ [28, 29, 1, 30, 31, 32, 33, 34, 35, 36, 37, 38, 39, 40, 41, 42, 43, 11, 44, 45, 13, 46, 47, 5, 6, 7, 48, 49, 50, 51, 18, 23, 52, 53, 54, 55, 27, 56, 57, 58, 59, 60, 61, 62, 63, 64, 65, 66, 67, 68, 69, 70, 71, 72, 73, 74, 75, 76, 77, 78, 79, 80, 81, 82, 83, 84, 85, 86, 97, 98, 87, 88, 89, 90, 91, 92, 93, 94, 95, 96, 99, 100, 101, 102, 103, 104, 105, 106, 107, 108, 109, 110, 111, 112, 113, 114, 115, 116, 117, 118] (by decide +kernel) (by decide +kernel)
set_option maxRecDepth 20000 in
theorem gX8_copy_X8_keepForUndo : GoodIn wsX8_copy (wsV RX8 75 RX8 yX8_keepForUndo wsX8_keepForUndo) := goodIn_app (goodIn_of _ (by decide +kernel)) ggX8_copy_X8_keepForUndo
theorem dX8_copy_0 : decode cX8_copy 0 = .ok (.aload_n 0, 1) := by decide +kernel
theorem dX8_copy_1 : decode cX8_copy 1 = .ok (.getfield 12, 3) := by decide +kernel
theorem dX8_copy_4 : decode cX8_copy 4 = .ok (.iload_n 1, 1) := by decide +kernel
theorem dX8_copy_5 : decode cX8_copy 5 = .ok (.invokevirtual 111, 3) := by decide +kernel
theorem dX8_copy_8 : decode cX8_copy 8 = .ok (.ifCond .eq 14, 3) := by decide +kernel
theorem dX8_copy_11 : decode cX8_copy 11 = .ok (.aload_n 0, 1) := by decide +kernel
theorem dX8_copy_12 : decode cX8_copy 12 = .ok (.getfield 12, 3) := by decide +kernel
theorem dX8_copy_15 : decode cX8_copy 15 = .ok (.iload_n 3, 1) := by decide +kernel
theorem dX8_copy_16 : decode cX8_copy 16 = .ok (.invokevirtual 111, 3) := by decide +kernel
theorem dX8_copy_19 : decode cX8_copy 19 = .ok (.ifCond .ne 6, 3) := by decide +kernel
theorem dX8_copy_22 : decode cX8_copy 22 = .ok (.bipush (-3), 2) := by decide +kernel
theorem dX8_copy_24 : decode cX8_copy 24 = .ok (.ireturn, 1) := by decide +kernel
theorem dX8_copy_25 : decode cX8_copy 25 = .ok (.aload_n 0, 1) := by decide +kernel
theorem dX8_copy_26 : decode cX8_copy 26 = .ok (.getfield 12, 3) := by decide +kernel
theorem dX8_copy_29 : decode cX8_copy 29 = .ok (.iload_n 1, 1) := by decide +kernel
theorem dX8_copy_30 : decode cX8_copy 30 = .ok (.invokevirtual 124, 3) := by decide +kernel
theorem dX8_copy_33 : decode cX8_copy 33 = .ok (.ifCond .ne 14, 3) := by decide +kernel
theorem dX8_copy_36 : decode cX8_copy 36 = .ok (.aload_n 0, 1) := by decide +kernel
theorem dX8_copy_37 : decode cX8_copy 37 = .ok (.getfield 12, 3) := by decide +kernel
theorem dX8_copy_40 : decode cX8_copy 40 = .ok (.iload_n 3, 1) := by decide +kernel
theorem dX8_copy_41 : decode cX8_copy 41 = .ok (.invokevirtual 124, 3) := by decide +kernel
theorem dX8_copy_44 : decode cX8_copy 44 = .ok (.ifCond .eq 6, 3) := by decide +kernel
theorem dX8_copy_47 : decode cX8_copy 47 = .ok (.bipush (-11), 2) := by decide +kernel
theorem dX8_copy_49 : decode cX8_copy 49 = .ok (.ireturn, 1) := by decide +kernel
theorem dX8_copy_50 : decode cX8_copy 50 = .ok (.aload_n 0, 1) := by decide +kernel
theorem dX8_copy_51 : decode cX8_copy 51 = .ok (.getfield 12, 3) := by decide +kernel
theorem dX8_copy_54 : decode cX8_copy 54 = .ok (.getfield 130, 3) := by decide +kernel
theorem dX8_copy_57 : decode cX8_copy 57 = .ok (.iload_n 1, 1) := by decide +kernel
theorem dX8_copy_58 : decode cX8_copy 58 = .ok (.iaload, 1) := by decide +kernel
theorem dX8_copy_59 : decode cX8_copy 59 = .ok (.aload_n 0, 1) := by decide +kernel
theorem dX8_copy_60 : decode cX8_copy 60 = .ok (.getfield 12, 3) := by decide +kernel
theorem dX8_copy_63 : decode cX8_copy 63 = .ok (.getfield 130, 3) := by decide +kernel
theorem dX8_copy_66 : decode cX8_copy 66 = .ok (.iload_n 3, 1) := by decide +kernel
theorem dX8_copy_67 : decode cX8_copy 67 = .ok (.iaload, 1) := by decide +kernel
theorem dX8_copy_68 : decode cX8_copy 68 = .ok (.if_icmp .eq 6, 3) := by decide +kernel
theorem dX8_copy_71 : decode cX8_copy 71 = .ok (.bipush (-4), 2) := by decide +kernel
theorem dX8_copy_73 : decode cX8_copy 73 = .ok (.ireturn, 1) := by decide +kernel
theorem dX8_copy_74 : decode cX8_copy 74 = .ok (.aload_n 0, 1) := by decide +kernel
theorem dX8_copy_75 : decode cX8_copy 75 = .ok (.getfield 12, 3) := by decide +kernel
theorem dX8_copy_78 : decode cX8_copy 78 = .ok (.iload_n 1, 1) := by decide +kernel
theorem dX8_copy_79 : decode cX8_copy 79 = .ok (.iload_n 2, 1) := by decide +kernel
theorem dX8_copy_80 : decode cX8_copy 80 = .ok (.iload 5, 2) := by decide +kernel
theorem dX8_copy_82 : decode cX8_copy 82 = .ok (.invokevirtual 136, 3) := by decide +kernel
theorem dX8_copy_85 : decode cX8_copy 85 = .ok (.ifCond .eq 18, 3) := by decide +kernel
theorem dX8_copy_88 : decode cX8_copy 88 = .ok (.aload_n 0, 1) := by decide +kernel
theorem dX8_copy_89 : decode cX8_copy 89 = .ok (.getfield 12, 3) := by decide +kernel
theorem dX8_copy_92 : decode cX8_copy 92 = .ok (.iload_n 3, 1) := by decide +kernel
theorem dX8_copy_93 : decode cX8_copy 93 = .ok (.iload 4, 2) := by decide +kernel
theorem dX8_copy_95 : decode cX8_copy 95 = .ok (.iload 5, 2) := by decide +kernel
theorem dX8_copy_97 : decode cX8_copy 97 = .ok (.invokevirtual 136, 3) := by decide +kernel
theorem dX8_copy_100 : decode cX8_copy 100 = .ok (.ifCond .ne 6, 3) := by decide +kernel
theorem dX8_copy_103 : decode cX8_copy 103 = .ok (.bipush (-13), 2) := by decide +kernel
theorem dX8_copy_105 : decode cX8_copy 105 = .ok (.ireturn, 1) := by decide +kernel
theorem dX8_copy_106 : decode cX8_copy 106 = .ok (.aload_n 0, 1) := by decide +kernel
theorem dX8_copy_107 : decode cX8_copy 107 = .ok (.invokevirtual 75, 3) := by decide +kernel
theorem dX8_copy_110 : decode cX8_copy 110 = .ok (.aload_n 0, 1) := by decide +kernel
theorem dX8_copy_111 : decode cX8_copy 111 = .ok (.getfield 12, 3) := by decide +kernel
theorem dX8_copy_114 : decode cX8_copy 114 = .ok (.getfield 133, 3) := by decide +kernel
theorem dX8_copy_117 : decode cX8_copy 117 = .ok (.iload_n 1, 1) := by decide +kernel
theorem dX8_copy_118 : decode cX8_copy 118 = .ok (.bipush 8, 2) := by decide +kernel
theorem dX8_copy_120 : decode cX8_copy 120 = .ok (.imul, 1) := by decide +kernel
theorem dX8_copy_121 : decode cX8_copy 121 = .ok (.iload_n 2, 1) := by decide +kernel
theorem dX8_copy_122 : decode cX8_copy 122 = .ok (.iadd, 1) := by decide +kernel
theorem dX8_copy_123 : decode cX8_copy 123 = .ok (.aload_n 0, 1) := by decide +kernel
theorem dX8_copy_124 : decode cX8_copy 124 = .ok (.getfield 12, 3) := by decide +kernel
theorem dX8_copy_127 : decode cX8_copy 127 = .ok (.getfield 133, 3) := by decide +kernel
theorem dX8_copy_130 : decode cX8_copy 130 = .ok (.iload_n 3, 1) := by decide +kernel
theorem dX8_copy_131 : decode cX8_copy 131 = .ok (.bipush 8, 2) := by decide +kernel
theorem dX8_copy_133 : decode cX8_copy 133 = .ok (.imul, 1) := by decide +kernel
theorem dX8_copy_134 : decode cX8_copy 134 = .ok (.iload 4, 2) := by decide +kernel
theorem dX8_copy_136 : decode cX8_copy 136 = .ok (.iadd, 1) := by decide +kernel
theorem dX8_copy_137 : decode cX8_copy 137 = .ok (.iload 5, 2) := by decide +kernel
theorem dX8_copy_139 : decode cX8_copy 139 = .ok (.invokestatic 139, 3) := by decide +kernel
theorem dX8_copy_142 : decode cX8_copy 142 = .ok (.iload 5, 2) := by decide +kernel
theorem dX8_copy_144 : decode cX8_copy 144 = .ok (.ireturn, 1) := by decide +kernel
set_option maxRecDepth 20000 in
theorem ggX8_far_X5_hasHall : GoodIn wsX8_far wsX5_hasHall := goodIn_r _ [6, 7, 27, 28, 29, 30, 31, 32, 33, 34, 35, 36] (by decide +kernel) (by decide +kernel)
set_option maxRecDepth 20000 in
theorem gX8_far_X5_hasHall : GoodIn wsX8_far (wsV RX8 111 RX5 yX5_hasHall wsX5_hasHall) := goodIn_app (goodIn_of _ (by decide +kernel)) ggX8_far_X5_hasHall
set_option maxRecDepth 20000 in
theorem ggX8_far_X5_hasTown : GoodIn wsX8_far wsX5_hasTown := goodIn_r _ [11, 12, 27, 28, 29, 30, 31, 32, 33, 34, 35, 36] (by decide +kernel) (by decide +kernel)
set_option maxRecDepth 20000 in
theorem gX8_far_X5_hasTown : GoodIn wsX8_far (wsV RX8 88 RX5 yX5_hasTown wsX5_hasTown) := goodIn_app (goodIn_of _ (by decide +kernel)) ggX8_far_X5_hasTown
set_option maxRecDepth 20000 in
theorem ggX8_far_X5_wayOf : GoodIn wsX8_far wsX5_wayOf := goodIn_r _ [16, 17, 27, 28, 29, 30, 31, 32, 33, 34, 35, 36] (by decide +kernel) (by decide +kernel)
set_option maxRecDepth 20000 in
theorem gX8_far_X5_wayOf : GoodIn wsX8_far (wsV RX8 145 RX5 yX5_wayOf wsX5_wayOf) := goodIn_app (goodIn_of _ (by decide +kernel)) ggX8_far_X5_wayOf
theorem dX8_far_0 : decode cX8_far 0 = .ok (.aload_n 0, 1) := by decide +kernel
theorem dX8_far_1 : decode cX8_far 1 = .ok (.getfield 12, 3) := by decide +kernel
theorem dX8_far_4 : decode cX8_far 4 = .ok (.iload_n 1, 1) := by decide +kernel
theorem dX8_far_5 : decode cX8_far 5 = .ok (.invokevirtual 111, 3) := by decide +kernel
theorem dX8_far_8 : decode cX8_far 8 = .ok (.ifCond .eq 14, 3) := by decide +kernel
theorem dX8_far_11 : decode cX8_far 11 = .ok (.aload_n 0, 1) := by decide +kernel
theorem dX8_far_12 : decode cX8_far 12 = .ok (.getfield 12, 3) := by decide +kernel
theorem dX8_far_15 : decode cX8_far 15 = .ok (.iload_n 2, 1) := by decide +kernel
theorem dX8_far_16 : decode cX8_far 16 = .ok (.invokevirtual 88, 3) := by decide +kernel
theorem dX8_far_19 : decode cX8_far 19 = .ok (.ifCond .ne 6, 3) := by decide +kernel
theorem dX8_far_22 : decode cX8_far 22 = .ok (.bipush (-3), 2) := by decide +kernel
theorem dX8_far_24 : decode cX8_far 24 = .ok (.ireturn, 1) := by decide +kernel
theorem dX8_far_25 : decode cX8_far 25 = .ok (.aload_n 0, 1) := by decide +kernel
theorem dX8_far_26 : decode cX8_far 26 = .ok (.getfield 12, 3) := by decide +kernel
theorem dX8_far_29 : decode cX8_far 29 = .ok (.iload_n 1, 1) := by decide +kernel
theorem dX8_far_30 : decode cX8_far 30 = .ok (.iload_n 2, 1) := by decide +kernel
theorem dX8_far_31 : decode cX8_far 31 = .ok (.invokevirtual 145, 3) := by decide +kernel
theorem dX8_far_34 : decode cX8_far 34 = .ok (.ireturn, 1) := by decide +kernel
set_option maxRecDepth 20000 in
theorem ggX8_about_X5_hasTown : GoodIn wsX8_about wsX5_hasTown := goodIn_r _ [6, 7, 38, 39, 40, 41, 42, 43, 44, 45, 46, 47] (by decide +kernel) (by decide +kernel)
set_option maxRecDepth 20000 in
theorem gX8_about_X5_hasTown : GoodIn wsX8_about (wsV RX8 88 RX5 yX5_hasTown wsX5_hasTown) := goodIn_app (goodIn_of _ (by decide +kernel)) ggX8_about_X5_hasTown
set_option maxRecDepth 20000 in
theorem ggX8_about_X8_aboutTown : GoodIn wsX8_about wsX8_aboutTown := goodIn_r _ [12, 1, 13, 14, 15, 29, 30, 31, 32, 33, 34, 35, 36, 37, 38, 39, 40, 41, 42, 43, 44, 45, 46, 47] (by decide +kernel) (by decide +kernel)
set_option maxRecDepth 20000 in
theorem gX8_about_X8_aboutTown : GoodIn wsX8_about (wsV RX8 149 RX8 yX8_aboutTown wsX8_aboutTown) := goodIn_app (goodIn_of _ (by decide +kernel)) ggX8_about_X8_aboutTown
set_option maxRecDepth 20000 in
theorem ggX8_about_X5_hasHall : GoodIn wsX8_about wsX5_hasHall := goodIn_r _ [19, 20, 38, 39, 40, 41, 42, 43, 44, 45, 46, 47] (by decide +kernel) (by decide +kernel)
set_option maxRecDepth 20000 in
theorem gX8_about_X5_hasHall : GoodIn wsX8_about (wsV RX8 111 RX5 yX5_hasHall wsX5_hasHall) := goodIn_app (goodIn_of _ (by decide +kernel)) ggX8_about_X5_hasHall
set_option maxRecDepth 20000 in
theorem ggX8_about_X8_aboutHall : GoodIn wsX8_about wsX8_aboutHall := goodIn_r _ [24, 1, 25, 26, 27, 28, 29, 30, 31, 32, 33, 34, 35, 36, 37, 38, 39, 40, 41, 42, 43, 44, 45, 46, 47] (by decide +kernel) (by decide +kernel)
set_option maxRecDepth 20000 in
theorem gX8_about_X8_aboutHall : GoodIn wsX8_about (wsV RX8 152 RX8 yX8_aboutHall wsX8_aboutHall) := goodIn_app (goodIn_of _ (by decide +kernel)) ggX8_about_X8_aboutHall
theorem dX8_about_0 : decode cX8_about 0 = .ok (.iload_n 1, 1) := by decide +kernel
theorem dX8_about_1 : decode cX8_about 1 = .ok (.ifCond .ne 21, 3) := by decide +kernel
theorem dX8_about_4 : decode cX8_about 4 = .ok (.aload_n 0, 1) := by decide +kernel
theorem dX8_about_5 : decode cX8_about 5 = .ok (.getfield 12, 3) := by decide +kernel
theorem dX8_about_8 : decode cX8_about 8 = .ok (.iload_n 2, 1) := by decide +kernel
theorem dX8_about_9 : decode cX8_about 9 = .ok (.invokevirtual 88, 3) := by decide +kernel
theorem dX8_about_12 : decode cX8_about 12 = .ok (.ifCond .eq 10, 3) := by decide +kernel
theorem dX8_about_15 : decode cX8_about 15 = .ok (.aload_n 0, 1) := by decide +kernel
theorem dX8_about_16 : decode cX8_about 16 = .ok (.iload_n 2, 1) := by decide +kernel
theorem dX8_about_17 : decode cX8_about 17 = .ok (.iload_n 3, 1) := by decide +kernel
theorem dX8_about_18 : decode cX8_about 18 = .ok (.invokevirtual 149, 3) := by decide +kernel
theorem dX8_about_21 : decode cX8_about 21 = .ok (.ireturn, 1) := by decide +kernel
theorem dX8_about_22 : decode cX8_about 22 = .ok (.iload_n 1, 1) := by decide +kernel
theorem dX8_about_23 : decode cX8_about 23 = .ok (.iconst 1, 1) := by decide +kernel
theorem dX8_about_24 : decode cX8_about 24 = .ok (.if_icmp .ne 21, 3) := by decide +kernel
theorem dX8_about_27 : decode cX8_about 27 = .ok (.aload_n 0, 1) := by decide +kernel
theorem dX8_about_28 : decode cX8_about 28 = .ok (.getfield 12, 3) := by decide +kernel
theorem dX8_about_31 : decode cX8_about 31 = .ok (.iload_n 2, 1) := by decide +kernel
theorem dX8_about_32 : decode cX8_about 32 = .ok (.invokevirtual 111, 3) := by decide +kernel
theorem dX8_about_35 : decode cX8_about 35 = .ok (.ifCond .eq 10, 3) := by decide +kernel
theorem dX8_about_38 : decode cX8_about 38 = .ok (.aload_n 0, 1) := by decide +kernel
theorem dX8_about_39 : decode cX8_about 39 = .ok (.iload_n 2, 1) := by decide +kernel
theorem dX8_about_40 : decode cX8_about 40 = .ok (.iload_n 3, 1) := by decide +kernel
theorem dX8_about_41 : decode cX8_about 41 = .ok (.invokevirtual 152, 3) := by decide +kernel
theorem dX8_about_44 : decode cX8_about 44 = .ok (.ireturn, 1) := by decide +kernel
theorem dX8_about_45 : decode cX8_about 45 = .ok (.bipush (-3), 2) := by decide +kernel
theorem dX8_about_47 : decode cX8_about 47 = .ok (.ireturn, 1) := by decide +kernel
set_option maxRecDepth 20000 in
theorem ggX8_undo_X4_giveBack : GoodIn wsX8_undo wsX4_giveBack := goodIn_r _ [10, 11, 12, 13, 14, 15, 16, 17, 18, 19, 20, 21, 22, 23, 24, 25, 26, 27, 28, 29, 30, 31, 79, 80, 81, 82, 83, 84, 85, 86, 87, 88, 89, 90] (by decide +kernel) (by decide +kernel)
set_option maxRecDepth 20000 in
theorem gX8_undo_X4_giveBack : GoodIn wsX8_undo (wsV RX8 158 RX4 yX4_giveBack wsX4_giveBack) := goodIn_app (goodIn_of _ (by decide +kernel)) ggX8_undo_X4_giveBack
set_option maxRecDepth 20000 in
theorem ggX8_undo_X8_forgetAnswers : GoodIn wsX8_undo wsX8_forgetAnswers := goodIn_r _ [36, 37, 38, 39, 40, 41, 42, 43, 44, 45, 46, 47, 48, 49, 50, 51, 52, 53, 54, 55, 56, 57, 70, 71, 72, 73, 74, 75, 76, 77, 78, 91, 92, 93, 94, 95, 96, 97, 98, 99, 100, 101, 102, 103, 104, 105, 106, 107, 108, 109, 110] (by decide +kernel) (by decide +kernel)
set_option maxRecDepth 20000 in
theorem gX8_undo_X8_forgetAnswers : GoodIn wsX8_undo (wsV RX8 161 RX8 yX8_forgetAnswers wsX8_forgetAnswers) := goodIn_app (goodIn_of _ (by decide +kernel)) ggX8_undo_X8_forgetAnswers
set_option maxRecDepth 20000 in
theorem ggX8_undo_X0_dropLost : GoodIn wsX8_undo wsX0_dropLost := goodIn_r _ [62, 63, 64, 65, 111, 112, 113, 81, 82, 83, 84, 85, 86, 87, 88, 89, 90] (by decide +kernel) (by decide +kernel)
set_option maxRecDepth 20000 in
theorem gX8_undo_X0_dropLost : GoodIn wsX8_undo (wsV RX8 164 RX0 yX0_dropLost wsX0_dropLost) := goodIn_app (goodIn_of _ (by decide +kernel)) ggX8_undo_X0_dropLost
set_option maxRecDepth 20000 in
theorem ggX8_undo_X5_everyHall : GoodIn wsX8_undo wsX5_everyHall := goodIn_r _ [69, 19, 81, 82, 83, 84, 85, 86, 87, 88, 89, 90] (by decide +kernel) (by decide +kernel)
set_option maxRecDepth 20000 in
theorem gX8_undo_X5_everyHall : GoodIn wsX8_undo (wsV RX8 170 RX5 yX5_everyHall wsX5_everyHall) := goodIn_app (goodIn_of _ (by decide +kernel)) ggX8_undo_X5_everyHall
theorem dX8_undo_0 : decode cX8_undo 0 = .ok (.aload_n 0, 1) := by decide +kernel
theorem dX8_undo_1 : decode cX8_undo 1 = .ok (.getfield 19, 3) := by decide +kernel
theorem dX8_undo_4 : decode cX8_undo 4 = .ok (.getfield 155, 3) := by decide +kernel
theorem dX8_undo_7 : decode cX8_undo 7 = .ok (.ifCond .gt 6, 3) := by decide +kernel
theorem dX8_undo_10 : decode cX8_undo 10 = .ok (.bipush (-4), 2) := by decide +kernel
theorem dX8_undo_12 : decode cX8_undo 12 = .ok (.ireturn, 1) := by decide +kernel
theorem dX8_undo_13 : decode cX8_undo 13 = .ok (.aload_n 0, 1) := by decide +kernel
theorem dX8_undo_14 : decode cX8_undo 14 = .ok (.getfield 19, 3) := by decide +kernel
theorem dX8_undo_17 : decode cX8_undo 17 = .ok (.aload_n 0, 1) := by decide +kernel
theorem dX8_undo_18 : decode cX8_undo 18 = .ok (.getfield 12, 3) := by decide +kernel
theorem dX8_undo_21 : decode cX8_undo 21 = .ok (.invokevirtual 158, 3) := by decide +kernel
theorem dX8_undo_24 : decode cX8_undo 24 = .ok (.aload_n 0, 1) := by decide +kernel
theorem dX8_undo_25 : decode cX8_undo 25 = .ok (.invokevirtual 161, 3) := by decide +kernel
theorem dX8_undo_28 : decode cX8_undo 28 = .ok (.aload_n 0, 1) := by decide +kernel
theorem dX8_undo_29 : decode cX8_undo 29 = .ok (.getfield 53, 3) := by decide +kernel
theorem dX8_undo_32 : decode cX8_undo 32 = .ok (.invokevirtual 164, 3) := by decide +kernel
theorem dX8_undo_35 : decode cX8_undo 35 = .ok (.aload_n 0, 1) := by decide +kernel
theorem dX8_undo_36 : decode cX8_undo 36 = .ok (.dup, 1) := by decide +kernel
theorem dX8_undo_37 : decode cX8_undo 37 = .ok (.getfield 167, 3) := by decide +kernel
theorem dX8_undo_40 : decode cX8_undo 40 = .ok (.aload_n 0, 1) := by decide +kernel
theorem dX8_undo_41 : decode cX8_undo 41 = .ok (.getfield 12, 3) := by decide +kernel
theorem dX8_undo_44 : decode cX8_undo 44 = .ok (.invokevirtual 170, 3) := by decide +kernel
theorem dX8_undo_47 : decode cX8_undo 47 = .ok (.iand, 1) := by decide +kernel
theorem dX8_undo_48 : decode cX8_undo 48 = .ok (.putfield 167, 3) := by decide +kernel
theorem dX8_undo_51 : decode cX8_undo 51 = .ok (.aload_n 0, 1) := by decide +kernel
theorem dX8_undo_52 : decode cX8_undo 52 = .ok (.getfield 19, 3) := by decide +kernel
theorem dX8_undo_55 : decode cX8_undo 55 = .ok (.getfield 155, 3) := by decide +kernel
theorem dX8_undo_58 : decode cX8_undo 58 = .ok (.ireturn, 1) := by decide +kernel
set_option maxRecDepth 20000 in
theorem ggX8_open_X5_everyHall : GoodIn wsX8_open wsX5_everyHall := goodIn_r _ [7, 8, 29, 30, 31, 32, 33, 34, 35, 36, 37, 38] (by decide +kernel) (by decide +kernel)
set_option maxRecDepth 20000 in
theorem gX8_open_X5_everyHall : GoodIn wsX8_open (wsV RX8 170 RX5 yX5_everyHall wsX5_everyHall) := goodIn_app (goodIn_of _ (by decide +kernel)) ggX8_open_X5_everyHall
set_option maxRecDepth 20000 in
theorem ggX8_open_X8_within : GoodIn wsX8_open wsX8_within := goodIn_r _ [12] (by decide +kernel) (by decide +kernel)
set_option maxRecDepth 20000 in
theorem gX8_open_X8_within : GoodIn wsX8_open (va_wsS RX8 92 yX8_within wsX8_within) := goodIn_app (goodIn_of _ (by decide +kernel)) ggX8_open_X8_within
set_option maxRecDepth 20000 in
theorem ggX8_open_J6_bitCount_0f7a4 : GoodIn wsX8_open wsJ6_bitCount_0f7a4 := goodIn_r _ [16, 17, 18, 19] (by decide +kernel) (by decide +kernel)
set_option maxRecDepth 20000 in
theorem gX8_open_J6_bitCount_0f7a4 : GoodIn wsX8_open (va_wsS RX8 173 yJ6_bitCount_0f7a4 wsJ6_bitCount_0f7a4) := goodIn_app (goodIn_of _ (by decide +kernel)) ggX8_open_J6_bitCount_0f7a4
theorem dX8_open_0 : decode cX8_open 0 = .ok (.iload_n 1, 1) := by decide +kernel
theorem dX8_open_1 : decode cX8_open 1 = .ok (.iconst 0, 1) := by decide +kernel
theorem dX8_open_2 : decode cX8_open 2 = .ok (.aload_n 0, 1) := by decide +kernel
theorem dX8_open_3 : decode cX8_open 3 = .ok (.getfield 12, 3) := by decide +kernel
theorem dX8_open_6 : decode cX8_open 6 = .ok (.invokevirtual 170, 3) := by decide +kernel
theorem dX8_open_9 : decode cX8_open 9 = .ok (.invokestatic 92, 3) := by decide +kernel
theorem dX8_open_12 : decode cX8_open 12 = .ok (.ifCond .ne 6, 3) := by decide +kernel
theorem dX8_open_15 : decode cX8_open 15 = .ok (.bipush (-3), 2) := by decide +kernel
theorem dX8_open_17 : decode cX8_open 17 = .ok (.ireturn, 1) := by decide +kernel
theorem dX8_open_18 : decode cX8_open 18 = .ok (.aload_n 0, 1) := by decide +kernel
theorem dX8_open_19 : decode cX8_open 19 = .ok (.iload_n 1, 1) := by decide +kernel
theorem dX8_open_20 : decode cX8_open 20 = .ok (.putfield 167, 3) := by decide +kernel
theorem dX8_open_23 : decode cX8_open 23 = .ok (.iload_n 1, 1) := by decide +kernel
theorem dX8_open_24 : decode cX8_open 24 = .ok (.invokestatic 173, 3) := by decide +kernel
theorem dX8_open_27 : decode cX8_open 27 = .ok (.ireturn, 1) := by decide +kernel
theorem dX8_opened_0 : decode cX8_opened 0 = .ok (.aload_n 0, 1) := by decide +kernel
theorem dX8_opened_1 : decode cX8_opened 1 = .ok (.getfield 167, 3) := by decide +kernel
theorem dX8_opened_4 : decode cX8_opened 4 = .ok (.ireturn, 1) := by decide +kernel
set_option maxRecDepth 20000 in
theorem ggX8_cost_X8_isKind : GoodIn wsX8_cost wsX8_isKind := goodIn_r _ [5, 6, 7, 4, 8] (by decide +kernel) (by decide +kernel)
set_option maxRecDepth 20000 in
theorem gX8_cost_X8_isKind : GoodIn wsX8_cost (va_wsS RX8 179 yX8_isKind wsX8_isKind) := goodIn_app (goodIn_of _ (by decide +kernel)) ggX8_cost_X8_isKind
set_option maxRecDepth 20000 in
theorem ggX8_cost_X8_freshCosts : GoodIn wsX8_cost wsX8_freshCosts := goodIn_r _ [12, 13, 14, 15, 16, 17, 18, 19, 20, 21, 22, 23, 24, 25, 26, 27, 28, 29, 30, 31, 32, 33, 34, 35, 36, 37, 38, 39, 40, 41, 42, 43, 187, 188, 189, 190, 191, 192, 193, 194, 195, 196, 197, 198, 199, 200, 201, 202, 203, 204, 205, 206, 207, 208, 209, 210] (by decide +kernel) (by decide +kernel)
set_option maxRecDepth 20000 in
theorem gX8_cost_X8_freshCosts : GoodIn wsX8_cost (wsV RX8 182 RX8 yX8_freshCosts wsX8_freshCosts) := goodIn_app (goodIn_of _ (by decide +kernel)) ggX8_cost_X8_freshCosts
set_option maxRecDepth 20000 in
theorem ggX8_cost_X1_costOf : GoodIn wsX8_cost wsX1_costOf := goodIn_r _ [48, 49, 50, 51, 52, 53, 54, 47, 55, 56, 57, 58, 59, 34, 60, 61, 62, 63, 18, 64, 21, 65, 66, 67, 68, 69, 70, 71, 72, 73, 74, 75, 76, 77, 78, 79, 80, 81, 82, 83, 84, 85, 86, 87, 88, 89, 90, 91, 92, 93, 94, 95, 96, 97, 41, 98, 99, 43, 100, 101, 102, 103, 104, 105, 106, 107, 108, 109, 110, 111, 112, 113, 114, 115, 116, 24, 27, 117, 118, 119, 38, 39, 40, 42, 120, 121, 122, 123, 124, 125, 126, 127, 128, 129, 130, 131, 132, 133, 134, 135, 136, 137, 138, 139, 140, 141, 142, 143, 144, 145, 146, 147, 148, 149, 150, 151, 152, 153, 154, 155, 156, 33, 35, 157, 158, 159, 160, 161, 162, 163, 164, 165, 166, 167, 168, 169, 170, 171, 172, 173, 174, 175, 176, 177, 178, 179, 180, 181, 182, 183, 184, 185, 186, 211, 212, 213, 214, 215, 196, 197, 198, 199, 200, 201, 202, 203, 204, 205, 206, 207, 208, 209, 210, 216, 217, 218, 219, 220, 221, 222, 223, 224, 225] (by decide +kernel) (by decide +kernel)
set_option maxRecDepth 20000 in
theorem gX8_cost_X1_costOf : GoodIn wsX8_cost (wsV RX8 186 RX1 yX1_costOf wsX1_costOf) := goodIn_app (goodIn_of _ (by decide +kernel)) ggX8_cost_X1_costOf
theorem dX8_cost_0 : decode cX8_cost 0 = .ok (.iload_n 1, 1) := by decide +kernel
theorem dX8_cost_1 : decode cX8_cost 1 = .ok (.invokestatic 179, 3) := by decide +kernel
theorem dX8_cost_4 : decode cX8_cost 4 = .ok (.ifCond .eq 18, 3) := by decide +kernel
theorem dX8_cost_7 : decode cX8_cost 7 = .ok (.aload_n 0, 1) := by decide +kernel
theorem dX8_cost_8 : decode cX8_cost 8 = .ok (.invokevirtual 182, 3) := by decide +kernel
theorem dX8_cost_11 : decode cX8_cost 11 = .ok (.iload_n 1, 1) := by decide +kernel
theorem dX8_cost_12 : decode cX8_cost 12 = .ok (.aload_n 0, 1) := by decide +kernel
theorem dX8_cost_13 : decode cX8_cost 13 = .ok (.getfield 167, 3) := by decide +kernel
theorem dX8_cost_16 : decode cX8_cost 16 = .ok (.invokevirtual 186, 3) := by decide +kernel
theorem dX8_cost_19 : decode cX8_cost 19 = .ok (.goto 5, 3) := by decide +kernel
theorem dX8_cost_22 : decode cX8_cost 22 = .ok (.bipush (-3), 2) := by decide +kernel
theorem dX8_cost_24 : decode cX8_cost 24 = .ok (.ireturn, 1) := by decide +kernel
set_option maxRecDepth 20000 in
theorem ggX8_goes_X8_within : GoodIn wsX8_goes wsX8_within := goodIn_r _ [6] (by decide +kernel) (by decide +kernel)
set_option maxRecDepth 20000 in
theorem gX8_goes_X8_within : GoodIn wsX8_goes (va_wsS RX8 92 yX8_within wsX8_within) := goodIn_app (goodIn_of _ (by decide +kernel)) ggX8_goes_X8_within
set_option maxRecDepth 20000 in
theorem ggX8_goes_X5_hasTown : GoodIn wsX8_goes wsX5_hasTown := goodIn_r _ [11, 12, 150, 151, 152, 153, 154, 155, 156, 157, 158, 159] (by decide +kernel) (by decide +kernel)
set_option maxRecDepth 20000 in
theorem gX8_goes_X5_hasTown : GoodIn wsX8_goes (wsV RX8 88 RX5 yX5_hasTown wsX5_hasTown) := goodIn_app (goodIn_of _ (by decide +kernel)) ggX8_goes_X5_hasTown
set_option maxRecDepth 20000 in
theorem ggX8_goes_X8_freshCosts : GoodIn wsX8_goes wsX8_freshCosts := goodIn_r _ [16, 17, 18, 19, 20, 21, 22, 23, 24, 25, 26, 27, 28, 29, 30, 31, 32, 33, 34, 35, 36, 37, 38, 39, 40, 41, 42, 43, 44, 10, 45, 46, 141, 142, 143, 144, 145, 146, 147, 148, 149, 160, 161, 162, 163, 164, 150, 151, 152, 153, 154, 155, 156, 157, 158, 159] (by decide +kernel) (by decide +kernel)
set_option maxRecDepth 20000 in
theorem gX8_goes_X8_freshCosts : GoodIn wsX8_goes (wsV RX8 182 RX8 yX8_freshCosts wsX8_freshCosts) := goodIn_app (goodIn_of _ (by decide +kernel)) ggX8_goes_X8_freshCosts
set_option maxRecDepth 20000 in
theorem ggX8_goes_X1_hallFor : GoodIn wsX8_goes wsX1_hallFor := goodIn_r _ [51, 52, 53, 54, 55, 56, 57, 58, 59, 60, 61, 62, 63, 64, 65, 66, 67, 68, 69, 70, 71, 72, 73, 74, 75, 76, 77, 78, 79, 80, 81, 82, 83, 10, 84, 85, 46, 86, 87, 88, 89, 90, 91, 92, 93, 94, 95, 96, 97, 98, 99, 100, 101, 22, 102, 28, 31, 103, 104, 105, 42, 43, 44, 45, 106, 107, 108, 109, 25, 110, 111, 112, 113, 114, 115, 116, 117, 118, 119, 120, 121, 122, 123, 124, 125, 126, 127, 12, 128, 129, 130, 131, 132, 133, 38, 134, 135, 136, 137, 138, 139, 140, 165, 166, 167, 168, 169, 150, 151, 152, 153, 154, 155, 156, 157, 158, 159, 170, 171, 172, 173, 174, 175, 176, 177, 178, 179, 160, 161, 162, 163, 164] (by decide +kernel) (by decide +kernel)
set_option maxRecDepth 20000 in
theorem gX8_goes_X1_hallFor : GoodIn wsX8_goes (wsV RX8 189 RX1 yX1_hallFor wsX1_hallFor) := goodIn_app (goodIn_of _ (by decide +kernel)) ggX8_goes_X1_hallFor
theorem dX8_goes_0 : decode cX8_goes 0 = .ok (.iload_n 1, 1) := by decide +kernel
theorem dX8_goes_1 : decode cX8_goes 1 = .ok (.iconst 0, 1) := by decide +kernel
theorem dX8_goes_2 : decode cX8_goes 2 = .ok (.iconst 4, 1) := by decide +kernel
theorem dX8_goes_3 : decode cX8_goes 3 = .ok (.invokestatic 92, 3) := by decide +kernel
theorem dX8_goes_6 : decode cX8_goes 6 = .ok (.ifCond .eq 14, 3) := by decide +kernel
theorem dX8_goes_9 : decode cX8_goes 9 = .ok (.aload_n 0, 1) := by decide +kernel
theorem dX8_goes_10 : decode cX8_goes 10 = .ok (.getfield 12, 3) := by decide +kernel
theorem dX8_goes_13 : decode cX8_goes 13 = .ok (.iload_n 2, 1) := by decide +kernel
theorem dX8_goes_14 : decode cX8_goes 14 = .ok (.invokevirtual 88, 3) := by decide +kernel
theorem dX8_goes_17 : decode cX8_goes 17 = .ok (.ifCond .ne 6, 3) := by decide +kernel
theorem dX8_goes_20 : decode cX8_goes 20 = .ok (.bipush (-3), 2) := by decide +kernel
theorem dX8_goes_22 : decode cX8_goes 22 = .ok (.ireturn, 1) := by decide +kernel
theorem dX8_goes_23 : decode cX8_goes 23 = .ok (.aload_n 0, 1) := by decide +kernel
theorem dX8_goes_24 : decode cX8_goes 24 = .ok (.invokevirtual 182, 3) := by decide +kernel
theorem dX8_goes_27 : decode cX8_goes 27 = .ok (.iload_n 1, 1) := by decide +kernel
theorem dX8_goes_28 : decode cX8_goes 28 = .ok (.aload_n 0, 1) := by decide +kernel
theorem dX8_goes_29 : decode cX8_goes 29 = .ok (.getfield 167, 3) := by decide +kernel
theorem dX8_goes_32 : decode cX8_goes 32 = .ok (.iload_n 2, 1) := by decide +kernel
theorem dX8_goes_33 : decode cX8_goes 33 = .ok (.invokevirtual 189, 3) := by decide +kernel
theorem dX8_goes_36 : decode cX8_goes 36 = .ok (.ireturn, 1) := by decide +kernel
set_option maxRecDepth 20000 in
theorem ggX8_worst_X8_freshCosts : GoodIn wsX8_worst wsX8_freshCosts := goodIn_r _ [6, 7, 8, 9, 10, 11, 12, 13, 14, 15, 16, 17, 18, 19, 20, 21, 22, 23, 24, 25, 26, 27, 28, 29, 30, 31, 32, 33, 34, 35, 36, 37, 72, 73, 74, 75, 76, 77, 78, 79, 80, 81, 82, 83, 84, 85, 86, 87, 88, 89, 90, 91, 92, 93, 94, 95] (by decide +kernel) (by decide +kernel)
set_option maxRecDepth 20000 in
theorem gX8_worst_X8_freshCosts : GoodIn wsX8_worst (wsV RX8 182 RX8 yX8_freshCosts wsX8_freshCosts) := goodIn_app (goodIn_of _ (by decide +kernel)) ggX8_worst_X8_freshCosts
set_option maxRecDepth 20000 in
theorem ggX8_worst_X1_worstToClose : GoodIn wsX8_worst wsX1_worstToClose := goodIn_r _ [42, 43, 44, 45, 46, 47, 48, 49, 50, 51, 52, 53, 54, 55, 35, 56, 96, 97, 98, 99, 100, 86, 87, 88, 89, 90, 91, 92, 93, 94, 95, 81, 82, 83, 84, 85] (by decide +kernel) (by decide +kernel)
set_option maxRecDepth 20000 in
theorem gX8_worst_X1_worstToClose : GoodIn wsX8_worst (wsV RX8 193 RX1 yX1_worstToClose wsX1_worstToClose) := goodIn_app (goodIn_of _ (by decide +kernel)) ggX8_worst_X1_worstToClose
set_option maxRecDepth 20000 in
theorem ggX8_worst_X1_worstRival : GoodIn wsX8_worst wsX1_worstRival := goodIn_r _ [60, 43, 44, 54, 55, 35, 56, 61, 62, 63, 41, 64, 65, 45, 66, 67, 33, 34, 36, 37, 68, 69, 70, 12, 71, 15, 96, 97, 98, 99, 100, 86, 87, 88, 89, 90, 91, 92, 93, 94, 95, 81, 82, 83, 84, 85] (by decide +kernel) (by decide +kernel)
set_option maxRecDepth 20000 in
theorem gX8_worst_X1_worstRival : GoodIn wsX8_worst (wsV RX8 196 RX1 yX1_worstRival wsX1_worstRival) := goodIn_app (goodIn_of _ (by decide +kernel)) ggX8_worst_X1_worstRival
theorem dX8_worst_0 : decode cX8_worst 0 = .ok (.iload_n 1, 1) := by decide +kernel
theorem dX8_worst_1 : decode cX8_worst 1 = .ok (.iconst 5, 1) := by decide +kernel
theorem dX8_worst_2 : decode cX8_worst 2 = .ok (.if_icmp .eq 12, 3) := by decide +kernel
theorem dX8_worst_5 : decode cX8_worst 5 = .ok (.iload_n 1, 1) := by decide +kernel
theorem dX8_worst_6 : decode cX8_worst 6 = .ok (.bipush 6, 2) := by decide +kernel
theorem dX8_worst_8 : decode cX8_worst 8 = .ok (.if_icmp .eq 6, 3) := by decide +kernel
theorem dX8_worst_11 : decode cX8_worst 11 = .ok (.bipush (-3), 2) := by decide +kernel
theorem dX8_worst_13 : decode cX8_worst 13 = .ok (.ireturn, 1) := by decide +kernel
theorem dX8_worst_14 : decode cX8_worst 14 = .ok (.iload_n 1, 1) := by decide +kernel
theorem dX8_worst_15 : decode cX8_worst 15 = .ok (.iconst 5, 1) := by decide +kernel
theorem dX8_worst_16 : decode cX8_worst 16 = .ok (.if_icmp .ne 17, 3) := by decide +kernel
theorem dX8_worst_19 : decode cX8_worst 19 = .ok (.aload_n 0, 1) := by decide +kernel
theorem dX8_worst_20 : decode cX8_worst 20 = .ok (.invokevirtual 182, 3) := by decide +kernel
theorem dX8_worst_23 : decode cX8_worst 23 = .ok (.aload_n 0, 1) := by decide +kernel
theorem dX8_worst_24 : decode cX8_worst 24 = .ok (.getfield 167, 3) := by decide +kernel
theorem dX8_worst_27 : decode cX8_worst 27 = .ok (.invokevirtual 193, 3) := by decide +kernel
theorem dX8_worst_30 : decode cX8_worst 30 = .ok (.goto 14, 3) := by decide +kernel
theorem dX8_worst_33 : decode cX8_worst 33 = .ok (.aload_n 0, 1) := by decide +kernel
theorem dX8_worst_34 : decode cX8_worst 34 = .ok (.invokevirtual 182, 3) := by decide +kernel
theorem dX8_worst_37 : decode cX8_worst 37 = .ok (.aload_n 0, 1) := by decide +kernel
theorem dX8_worst_38 : decode cX8_worst 38 = .ok (.getfield 167, 3) := by decide +kernel
theorem dX8_worst_41 : decode cX8_worst 41 = .ok (.invokevirtual 196, 3) := by decide +kernel
theorem dX8_worst_44 : decode cX8_worst 44 = .ok (.ireturn, 1) := by decide +kernel
set_option maxRecDepth 20000 in
theorem ggX8_least_X8_isQuestion : GoodIn wsX8_least wsX8_isQuestion := goodIn_r _ [6, 7, 8, 5, 9, 10, 11, 12] (by decide +kernel) (by decide +kernel)
set_option maxRecDepth 20000 in
theorem gX8_least_X8_isQuestion : GoodIn wsX8_least (va_wsS RX8 199 yX8_isQuestion wsX8_isQuestion) := goodIn_app (goodIn_of _ (by decide +kernel)) ggX8_least_X8_isQuestion
set_option maxRecDepth 20000 in
theorem ggX8_least_X8_freshCosts : GoodIn wsX8_least wsX8_freshCosts := goodIn_r _ [16, 17, 1, 18, 19, 20, 21, 22, 23, 24, 25, 26, 27, 28, 29, 30, 31, 32, 33, 34, 35, 36, 37, 38, 39, 40, 41, 42, 43, 44, 45, 46, 204, 205, 206, 207, 208, 209, 210, 211, 212, 218, 219, 220, 221, 222, 223, 224, 225, 226, 227, 228, 229, 230, 231, 232] (by decide +kernel) (by decide +kernel)
set_option maxRecDepth 20000 in
theorem gX8_least_X8_freshCosts : GoodIn wsX8_least (wsV RX8 182 RX8 yX8_freshCosts wsX8_freshCosts) := goodIn_app (goodIn_of _ (by decide +kernel)) ggX8_least_X8_freshCosts
set_option maxRecDepth 20000 in
theorem ggX8_least_X1_seekBest : GoodIn wsX8_least wsX1_seekBest := goodIn_r _ [51, 52, 53, 54, 55, 56, 57, 44, 58, 59, 60, 61, 62, 63, 64, 65, 66, 67, 68, 69, 50, 70, 71, 72, 73, 74, 75, 76, 77, 78, 79, 80, 37, 81, 82, 83, 84, 21, 85, 24, 86, 87, 88, 89, 90, 91, 92, 93, 94, 95, 96, 97, 98, 99, 100, 101, 102, 103, 104, 105, 106, 107, 108, 109, 110, 111, 112, 113, 114, 115, 116, 117, 118, 119, 120, 46, 121, 122, 123, 124, 125, 126, 127, 128, 129, 130, 131, 132, 133, 134, 135, 136, 137, 27, 30, 138, 139, 140, 41, 42, 43, 45, 141, 142, 143, 144, 145, 146, 147, 148, 149, 150, 151, 152, 153, 154, 155, 156, 157, 158, 159, 160, 161, 162, 163, 164, 165, 166, 167, 168, 169, 170, 171, 172, 173, 174, 175, 176, 177, 36, 38, 178, 179, 180, 181, 182, 183, 184, 185, 186, 187, 188, 189, 190, 191, 192, 193, 194, 195, 196, 197, 198, 199, 200, 201, 202, 203, 213, 214, 215, 216, 217, 223, 224, 225, 226, 227, 228, 229, 230, 231, 232, 218, 219, 220, 221, 222, 233, 234, 235, 236, 237, 238, 239, 240, 241, 242] (by decide +kernel) (by decide +kernel)
set_option maxRecDepth 20000 in
theorem gX8_least_X1_seekBest : GoodIn wsX8_least (wsV RX8 203 RX1 yX1_seekBest wsX1_seekBest) := goodIn_app (goodIn_of _ (by decide +kernel)) ggX8_least_X1_seekBest
theorem dX8_least_0 : decode cX8_least 0 = .ok (.iload_n 1, 1) := by decide +kernel
theorem dX8_least_1 : decode cX8_least 1 = .ok (.iload_n 2, 1) := by decide +kernel
theorem dX8_least_2 : decode cX8_least 2 = .ok (.invokestatic 199, 3) := by decide +kernel
theorem dX8_least_5 : decode cX8_least 5 = .ok (.ifCond .ne 6, 3) := by decide +kernel
theorem dX8_least_8 : decode cX8_least 8 = .ok (.bipush (-3), 2) := by decide +kernel
theorem dX8_least_10 : decode cX8_least 10 = .ok (.ireturn, 1) := by decide +kernel
theorem dX8_least_11 : decode cX8_least 11 = .ok (.aload_n 0, 1) := by decide +kernel
theorem dX8_least_12 : decode cX8_least 12 = .ok (.invokevirtual 182, 3) := by decide +kernel
theorem dX8_least_15 : decode cX8_least 15 = .ok (.iload_n 1, 1) := by decide +kernel
theorem dX8_least_16 : decode cX8_least 16 = .ok (.iload_n 2, 1) := by decide +kernel
theorem dX8_least_17 : decode cX8_least 17 = .ok (.invokevirtual 203, 3) := by decide +kernel
theorem dX8_least_20 : decode cX8_least 20 = .ok (.aload_n 0, 1) := by decide +kernel
theorem dX8_least_21 : decode cX8_least 21 = .ok (.getfield 46, 3) := by decide +kernel
theorem dX8_least_24 : decode cX8_least 24 = .ok (.getfield 207, 3) := by decide +kernel
theorem dX8_least_27 : decode cX8_least 27 = .ok (.ireturn, 1) := by decide +kernel
set_option maxRecDepth 20000 in
theorem ggX8_many_X8_isQuestion : GoodIn wsX8_many wsX8_isQuestion := goodIn_r _ [6, 7, 8, 5, 9, 10, 11, 12] (by decide +kernel) (by decide +kernel)
set_option maxRecDepth 20000 in
theorem gX8_many_X8_isQuestion : GoodIn wsX8_many (va_wsS RX8 199 yX8_isQuestion wsX8_isQuestion) := goodIn_app (goodIn_of _ (by decide +kernel)) ggX8_many_X8_isQuestion
set_option maxRecDepth 20000 in
theorem ggX8_many_X8_freshCosts : GoodIn wsX8_many wsX8_freshCosts := goodIn_r _ [16, 17, 1, 18, 19, 20, 21, 22, 23, 24, 25, 26, 27, 28, 29, 30, 31, 32, 33, 34, 35, 36, 37, 38, 39, 40, 41, 42, 43, 44, 45, 46, 213, 214, 215, 216, 217, 218, 219, 220, 221, 222, 223, 224, 225, 226, 227, 228, 229, 230, 231, 232, 233, 234, 235, 236] (by decide +kernel) (by decide +kernel)
set_option maxRecDepth 20000 in
theorem gX8_many_X8_freshCosts : GoodIn wsX8_many (wsV RX8 182 RX8 yX8_freshCosts wsX8_freshCosts) := goodIn_app (goodIn_of _ (by decide +kernel)) ggX8_many_X8_freshCosts
set_option maxRecDepth 20000 in
theorem ggX8_many_X1_seekBest : GoodIn wsX8_many wsX1_seekBest := goodIn_r _ [51, 52, 53, 54, 55, 56, 57, 44, 58, 59, 60, 61, 62, 63, 64, 65, 66, 67, 68, 69, 50, 70, 71, 72, 73, 74, 75, 76, 77, 78, 79, 80, 37, 81, 82, 83, 84, 21, 85, 24, 86, 87, 88, 89, 90, 91, 92, 93, 94, 95, 96, 97, 98, 99, 100, 101, 102, 103, 104, 105, 106, 107, 108, 109, 110, 111, 112, 113, 114, 115, 116, 117, 118, 119, 120, 46, 121, 122, 123, 124, 125, 126, 127, 128, 129, 130, 131, 132, 133, 134, 135, 136, 137, 27, 30, 138, 139, 140, 41, 42, 43, 45, 141, 142, 143, 144, 145, 146, 147, 148, 149, 150, 151, 152, 153, 154, 155, 156, 157, 158, 159, 160, 161, 162, 163, 164, 165, 166, 167, 168, 169, 170, 171, 172, 173, 174, 175, 176, 177, 36, 38, 178, 179, 180, 181, 182, 183, 184, 185, 186, 187, 188, 189, 190, 191, 192, 193, 194, 195, 196, 197, 198, 199, 200, 201, 202, 203, 237, 238, 239, 240, 241, 227, 228, 229, 230, 231, 232, 233, 234, 235, 236, 222, 223, 224, 225, 226, 242, 243, 244, 245, 246, 247, 248, 249, 250, 251] (by decide +kernel) (by decide +kernel)
set_option maxRecDepth 20000 in
theorem gX8_many_X1_seekBest : GoodIn wsX8_many (wsV RX8 203 RX1 yX1_seekBest wsX1_seekBest) := goodIn_app (goodIn_of _ (by decide +kernel)) ggX8_many_X1_seekBest
set_option maxRecDepth 20000 in
theorem ggX8_many_X5_everyHall : GoodIn wsX8_many wsX5_everyHall := goodIn_r _ [58, 59, 227, 228, 229, 230, 231, 232, 233, 234, 235, 236] (by decide +kernel) (by decide +kernel)
set_option maxRecDepth 20000 in
theorem gX8_many_X5_everyHall : GoodIn wsX8_many (wsV RX8 170 RX5 yX5_everyHall wsX5_everyHall) := goodIn_app (goodIn_of _ (by decide +kernel)) ggX8_many_X5_everyHall
set_option maxRecDepth 20000 in
theorem ggX8_many_X1_bestUpTo : GoodIn wsX8_many wsX1_bestUpTo := goodIn_r _ [208, 209, 210, 211, 50, 212, 52, 54, 237, 238, 239, 240, 241] (by decide +kernel) (by decide +kernel)
set_option maxRecDepth 20000 in
theorem gX8_many_X1_bestUpTo : GoodIn wsX8_many (wsV RX8 210 RX1 yX1_bestUpTo wsX1_bestUpTo) := goodIn_app (goodIn_of _ (by decide +kernel)) ggX8_many_X1_bestUpTo
theorem dX8_many_0 : decode cX8_many 0 = .ok (.iload_n 1, 1) := by decide +kernel
theorem dX8_many_1 : decode cX8_many 1 = .ok (.iload_n 2, 1) := by decide +kernel
theorem dX8_many_2 : decode cX8_many 2 = .ok (.invokestatic 199, 3) := by decide +kernel
theorem dX8_many_5 : decode cX8_many 5 = .ok (.ifCond .ne 6, 3) := by decide +kernel
theorem dX8_many_8 : decode cX8_many 8 = .ok (.bipush (-3), 2) := by decide +kernel
theorem dX8_many_10 : decode cX8_many 10 = .ok (.ireturn, 1) := by decide +kernel
theorem dX8_many_11 : decode cX8_many 11 = .ok (.aload_n 0, 1) := by decide +kernel
theorem dX8_many_12 : decode cX8_many 12 = .ok (.invokevirtual 182, 3) := by decide +kernel
theorem dX8_many_15 : decode cX8_many 15 = .ok (.iload_n 1, 1) := by decide +kernel
theorem dX8_many_16 : decode cX8_many 16 = .ok (.iload_n 2, 1) := by decide +kernel
theorem dX8_many_17 : decode cX8_many 17 = .ok (.invokevirtual 203, 3) := by decide +kernel
theorem dX8_many_20 : decode cX8_many 20 = .ok (.aload_n 0, 1) := by decide +kernel
theorem dX8_many_21 : decode cX8_many 21 = .ok (.getfield 46, 3) := by decide +kernel
theorem dX8_many_24 : decode cX8_many 24 = .ok (.aload_n 0, 1) := by decide +kernel
theorem dX8_many_25 : decode cX8_many 25 = .ok (.getfield 12, 3) := by decide +kernel
theorem dX8_many_28 : decode cX8_many 28 = .ok (.invokevirtual 170, 3) := by decide +kernel
theorem dX8_many_31 : decode cX8_many 31 = .ok (.invokevirtual 210, 3) := by decide +kernel
theorem dX8_many_34 : decode cX8_many 34 = .ok (.ireturn, 1) := by decide +kernel
set_option maxRecDepth 20000 in
theorem ggX8_best_X8_isQuestion : GoodIn wsX8_best wsX8_isQuestion := goodIn_r _ [6, 7, 8, 5, 9, 10, 11, 12] (by decide +kernel) (by decide +kernel)
set_option maxRecDepth 20000 in
theorem gX8_best_X8_isQuestion : GoodIn wsX8_best (va_wsS RX8 199 yX8_isQuestion wsX8_isQuestion) := goodIn_app (goodIn_of _ (by decide +kernel)) ggX8_best_X8_isQuestion
set_option maxRecDepth 20000 in
theorem ggX8_best_X8_freshCosts : GoodIn wsX8_best wsX8_freshCosts := goodIn_r _ [16, 17, 1, 18, 19, 20, 21, 22, 23, 24, 25, 26, 27, 28, 29, 30, 31, 32, 33, 34, 35, 36, 37, 38, 39, 40, 41, 42, 43, 44, 45, 46, 212, 213, 214, 215, 216, 217, 218, 219, 220, 221, 222, 223, 224, 225, 226, 227, 228, 229, 230, 231, 232, 233, 234, 235] (by decide +kernel) (by decide +kernel)
set_option maxRecDepth 20000 in
theorem gX8_best_X8_freshCosts : GoodIn wsX8_best (wsV RX8 182 RX8 yX8_freshCosts wsX8_freshCosts) := goodIn_app (goodIn_of _ (by decide +kernel)) ggX8_best_X8_freshCosts
set_option maxRecDepth 20000 in
theorem ggX8_best_X1_seekBest : GoodIn wsX8_best wsX1_seekBest := goodIn_r _ [51, 52, 53, 54, 55, 56, 57, 44, 58, 59, 60, 61, 62, 63, 64, 65, 66, 67, 68, 69, 50, 70, 71, 72, 73, 74, 75, 76, 77, 78, 79, 80, 37, 81, 82, 83, 84, 21, 85, 24, 86, 87, 88, 89, 90, 91, 92, 93, 94, 95, 96, 97, 98, 99, 100, 101, 102, 103, 104, 105, 106, 107, 108, 109, 110, 111, 112, 113, 114, 115, 116, 117, 118, 119, 120, 46, 121, 122, 123, 124, 125, 126, 127, 128, 129, 130, 131, 132, 133, 134, 135, 136, 137, 27, 30, 138, 139, 140, 41, 42, 43, 45, 141, 142, 143, 144, 145, 146, 147, 148, 149, 150, 151, 152, 153, 154, 155, 156, 157, 158, 159, 160, 161, 162, 163, 164, 165, 166, 167, 168, 169, 170, 171, 172, 173, 174, 175, 176, 177, 36, 38, 178, 179, 180, 181, 182, 183, 184, 185, 186, 187, 188, 189, 190, 191, 192, 193, 194, 195, 196, 197, 198, 199, 200, 201, 202, 203, 236, 237, 238, 239, 240, 226, 227, 228, 229, 230, 231, 232, 233, 234, 235, 221, 222, 223, 224, 225, 241, 242, 243, 244, 245, 246, 247, 248, 249, 250] (by decide +kernel) (by decide +kernel)
set_option maxRecDepth 20000 in
theorem gX8_best_X1_seekBest : GoodIn wsX8_best (wsV RX8 203 RX1 yX1_seekBest wsX1_seekBest) := goodIn_app (goodIn_of _ (by decide +kernel)) ggX8_best_X1_seekBest
set_option maxRecDepth 20000 in
theorem ggX8_best_X1_bestAt : GoodIn wsX8_best wsX1_bestAt := goodIn_r _ [207, 53, 55, 56, 57, 44, 58, 59, 208, 209, 210, 50, 211, 52, 54, 236, 237, 238, 239, 240, 226, 227, 228, 229, 230, 231, 232, 233, 234, 235] (by decide +kernel) (by decide +kernel)
set_option maxRecDepth 20000 in
theorem gX8_best_X1_bestAt : GoodIn wsX8_best (wsV RX8 213 RX1 yX1_bestAt wsX1_bestAt) := goodIn_app (goodIn_of _ (by decide +kernel)) ggX8_best_X1_bestAt
theorem dX8_best_0 : decode cX8_best 0 = .ok (.iload_n 1, 1) := by decide +kernel
theorem dX8_best_1 : decode cX8_best 1 = .ok (.iload_n 2, 1) := by decide +kernel
theorem dX8_best_2 : decode cX8_best 2 = .ok (.invokestatic 199, 3) := by decide +kernel
theorem dX8_best_5 : decode cX8_best 5 = .ok (.ifCond .eq 7, 3) := by decide +kernel
theorem dX8_best_8 : decode cX8_best 8 = .ok (.iload_n 3, 1) := by decide +kernel
theorem dX8_best_9 : decode cX8_best 9 = .ok (.ifCond .ge 6, 3) := by decide +kernel
theorem dX8_best_12 : decode cX8_best 12 = .ok (.bipush (-3), 2) := by decide +kernel
theorem dX8_best_14 : decode cX8_best 14 = .ok (.ireturn, 1) := by decide +kernel
theorem dX8_best_15 : decode cX8_best 15 = .ok (.aload_n 0, 1) := by decide +kernel
theorem dX8_best_16 : decode cX8_best 16 = .ok (.invokevirtual 182, 3) := by decide +kernel
theorem dX8_best_19 : decode cX8_best 19 = .ok (.iload_n 1, 1) := by decide +kernel
theorem dX8_best_20 : decode cX8_best 20 = .ok (.iload_n 2, 1) := by decide +kernel
theorem dX8_best_21 : decode cX8_best 21 = .ok (.invokevirtual 203, 3) := by decide +kernel
theorem dX8_best_24 : decode cX8_best 24 = .ok (.aload_n 0, 1) := by decide +kernel
theorem dX8_best_25 : decode cX8_best 25 = .ok (.getfield 46, 3) := by decide +kernel
theorem dX8_best_28 : decode cX8_best 28 = .ok (.iload_n 3, 1) := by decide +kernel
theorem dX8_best_29 : decode cX8_best 29 = .ok (.invokevirtual 213, 3) := by decide +kernel
theorem dX8_best_32 : decode cX8_best 32 = .ok (.istore 4, 2) := by decide +kernel
theorem dX8_best_34 : decode cX8_best 34 = .ok (.iload 4, 2) := by decide +kernel
theorem dX8_best_36 : decode cX8_best 36 = .ok (.iconst (-1), 1) := by decide +kernel
theorem dX8_best_37 : decode cX8_best 37 = .ok (.if_icmp .eq 9, 3) := by decide +kernel
theorem dX8_best_40 : decode cX8_best 40 = .ok (.aload_n 0, 1) := by decide +kernel
theorem dX8_best_41 : decode cX8_best 41 = .ok (.iload 4, 2) := by decide +kernel
theorem dX8_best_43 : decode cX8_best 43 = .ok (.putfield 167, 3) := by decide +kernel
theorem dX8_best_46 : decode cX8_best 46 = .ok (.iload 4, 2) := by decide +kernel
theorem dX8_best_48 : decode cX8_best 48 = .ok (.ireturn, 1) := by decide +kernel
set_option maxRecDepth 20000 in
theorem ggX8_number_X8_isQuestion : GoodIn wsX8_number wsX8_isQuestion := goodIn_r _ [6, 7, 8, 5, 9, 10, 11, 12] (by decide +kernel) (by decide +kernel)
set_option maxRecDepth 20000 in
theorem gX8_number_X8_isQuestion : GoodIn wsX8_number (va_wsS RX8 199 yX8_isQuestion wsX8_isQuestion) := goodIn_app (goodIn_of _ (by decide +kernel)) ggX8_number_X8_isQuestion
set_option maxRecDepth 20000 in
theorem ggX8_number_X8_freshCosts : GoodIn wsX8_number wsX8_freshCosts := goodIn_r _ [16, 17, 1, 18, 19, 20, 21, 22, 23, 24, 25, 26, 27, 28, 29, 30, 31, 32, 33, 34, 35, 36, 37, 38, 39, 40, 41, 42, 43, 44, 45, 46, 213, 214, 215, 216, 217, 218, 219, 220, 221, 222, 223, 224, 225, 226, 227, 228, 229, 230, 231, 232, 233, 234, 235, 236] (by decide +kernel) (by decide +kernel)
set_option maxRecDepth 20000 in
theorem gX8_number_X8_freshCosts : GoodIn wsX8_number (wsV RX8 182 RX8 yX8_freshCosts wsX8_freshCosts) := goodIn_app (goodIn_of _ (by decide +kernel)) ggX8_number_X8_freshCosts
set_option maxRecDepth 20000 in
theorem ggX8_number_X1_seekBest : GoodIn wsX8_number wsX1_seekBest := goodIn_r _ [51, 52, 53, 54, 55, 56, 57, 44, 58, 59, 60, 61, 62, 63, 64, 65, 66, 67, 68, 69, 50, 70, 71, 72, 73, 74, 75, 76, 77, 78, 79, 80, 37, 81, 82, 83, 84, 21, 85, 24, 86, 87, 88, 89, 90, 91, 92, 93, 94, 95, 96, 97, 98, 99, 100, 101, 102, 103, 104, 105, 106, 107, 108, 109, 110, 111, 112, 113, 114, 115, 116, 117, 118, 119, 120, 46, 121, 122, 123, 124, 125, 126, 127, 128, 129, 130, 131, 132, 133, 134, 135, 136, 137, 27, 30, 138, 139, 140, 41, 42, 43, 45, 141, 142, 143, 144, 145, 146, 147, 148, 149, 150, 151, 152, 153, 154, 155, 156, 157, 158, 159, 160, 161, 162, 163, 164, 165, 166, 167, 168, 169, 170, 171, 172, 173, 174, 175, 176, 177, 36, 38, 178, 179, 180, 181, 182, 183, 184, 185, 186, 187, 188, 189, 190, 191, 192, 193, 194, 195, 196, 197, 198, 199, 200, 201, 202, 203, 237, 238, 239, 240, 241, 227, 228, 229, 230, 231, 232, 233, 234, 235, 236, 222, 223, 224, 225, 226, 242, 243, 244, 245, 246, 247, 248, 249, 250, 251] (by decide +kernel) (by decide +kernel)
set_option maxRecDepth 20000 in
theorem gX8_number_X1_seekBest : GoodIn wsX8_number (wsV RX8 203 RX1 yX1_seekBest wsX1_seekBest) := goodIn_app (goodIn_of _ (by decide +kernel)) ggX8_number_X1_seekBest
set_option maxRecDepth 20000 in
theorem ggX8_number_X1_isBest : GoodIn wsX8_number wsX1_isBest := goodIn_r _ [207, 52, 54, 237, 238, 239, 240, 241] (by decide +kernel) (by decide +kernel)
set_option maxRecDepth 20000 in
theorem gX8_number_X1_isBest : GoodIn wsX8_number (wsV RX8 216 RX1 yX1_isBest wsX1_isBest) := goodIn_app (goodIn_of _ (by decide +kernel)) ggX8_number_X1_isBest
set_option maxRecDepth 20000 in
theorem ggX8_number_X1_bestUpTo : GoodIn wsX8_number wsX1_bestUpTo := goodIn_r _ [211, 212, 205, 206, 50, 207, 52, 54, 237, 238, 239, 240, 241] (by decide +kernel) (by decide +kernel)
set_option maxRecDepth 20000 in
theorem gX8_number_X1_bestUpTo : GoodIn wsX8_number (wsV RX8 210 RX1 yX1_bestUpTo wsX1_bestUpTo) := goodIn_app (goodIn_of _ (by decide +kernel)) ggX8_number_X1_bestUpTo
theorem dX8_number_0 : decode cX8_number 0 = .ok (.iload_n 1, 1) := by decide +kernel
theorem dX8_number_1 : decode cX8_number 1 = .ok (.iload_n 2, 1) := by decide +kernel
theorem dX8_number_2 : decode cX8_number 2 = .ok (.invokestatic 199, 3) := by decide +kernel
theorem dX8_number_5 : decode cX8_number 5 = .ok (.ifCond .ne 6, 3) := by decide +kernel
theorem dX8_number_8 : decode cX8_number 8 = .ok (.bipush (-3), 2) := by decide +kernel
theorem dX8_number_10 : decode cX8_number 10 = .ok (.ireturn, 1) := by decide +kernel
theorem dX8_number_11 : decode cX8_number 11 = .ok (.aload_n 0, 1) := by decide +kernel
theorem dX8_number_12 : decode cX8_number 12 = .ok (.invokevirtual 182, 3) := by decide +kernel
theorem dX8_number_15 : decode cX8_number 15 = .ok (.iload_n 1, 1) := by decide +kernel
theorem dX8_number_16 : decode cX8_number 16 = .ok (.iload_n 2, 1) := by decide +kernel
theorem dX8_number_17 : decode cX8_number 17 = .ok (.invokevirtual 203, 3) := by decide +kernel
theorem dX8_number_20 : decode cX8_number 20 = .ok (.aload_n 0, 1) := by decide +kernel
theorem dX8_number_21 : decode cX8_number 21 = .ok (.getfield 46, 3) := by decide +kernel
theorem dX8_number_24 : decode cX8_number 24 = .ok (.aload_n 0, 1) := by decide +kernel
theorem dX8_number_25 : decode cX8_number 25 = .ok (.getfield 167, 3) := by decide +kernel
theorem dX8_number_28 : decode cX8_number 28 = .ok (.invokevirtual 216, 3) := by decide +kernel
theorem dX8_number_31 : decode cX8_number 31 = .ok (.ifCond .eq 19, 3) := by decide +kernel
theorem dX8_number_34 : decode cX8_number 34 = .ok (.aload_n 0, 1) := by decide +kernel
theorem dX8_number_35 : decode cX8_number 35 = .ok (.getfield 46, 3) := by decide +kernel
theorem dX8_number_38 : decode cX8_number 38 = .ok (.aload_n 0, 1) := by decide +kernel
theorem dX8_number_39 : decode cX8_number 39 = .ok (.getfield 167, 3) := by decide +kernel
theorem dX8_number_42 : decode cX8_number 42 = .ok (.invokevirtual 210, 3) := by decide +kernel
theorem dX8_number_45 : decode cX8_number 45 = .ok (.iconst 1, 1) := by decide +kernel
theorem dX8_number_46 : decode cX8_number 46 = .ok (.isub, 1) := by decide +kernel
theorem dX8_number_47 : decode cX8_number 47 = .ok (.goto 4, 3) := by decide +kernel
theorem dX8_number_50 : decode cX8_number 50 = .ok (.iconst (-1), 1) := by decide +kernel
theorem dX8_number_51 : decode cX8_number 51 = .ok (.ireturn, 1) := by decide +kernel
set_option maxRecDepth 20000 in
theorem ggX8_better_X8_isKind : GoodIn wsX8_better wsX8_isKind := goodIn_r _ [6, 7, 8, 5, 9] (by decide +kernel) (by decide +kernel)
set_option maxRecDepth 20000 in
theorem gX8_better_X8_isKind : GoodIn wsX8_better (va_wsS RX8 179 yX8_isKind wsX8_isKind) := goodIn_app (goodIn_of _ (by decide +kernel)) ggX8_better_X8_isKind
set_option maxRecDepth 20000 in
theorem ggX8_better_X8_within : GoodIn wsX8_better wsX8_within := goodIn_r _ [9] (by decide +kernel) (by decide +kernel)
set_option maxRecDepth 20000 in
theorem gX8_better_X8_within : GoodIn wsX8_better (va_wsS RX8 92 yX8_within wsX8_within) := goodIn_app (goodIn_of _ (by decide +kernel)) ggX8_better_X8_within
set_option maxRecDepth 20000 in
theorem ggX8_better_X8_freshCosts : GoodIn wsX8_better wsX8_freshCosts := goodIn_r _ [13, 14, 1, 15, 16, 17, 18, 19, 20, 21, 22, 23, 24, 25, 26, 27, 28, 29, 30, 31, 32, 33, 34, 35, 36, 37, 38, 39, 40, 41, 42, 43, 208, 209, 210, 211, 212, 213, 214, 215, 216, 217, 218, 219, 220, 221, 222, 223, 224, 225, 226, 227, 228, 229, 230, 231] (by decide +kernel) (by decide +kernel)
set_option maxRecDepth 20000 in
theorem gX8_better_X8_freshCosts : GoodIn wsX8_better (wsV RX8 182 RX8 yX8_freshCosts wsX8_freshCosts) := goodIn_app (goodIn_of _ (by decide +kernel)) ggX8_better_X8_freshCosts
set_option maxRecDepth 20000 in
theorem ggX8_better_X1_seekBest : GoodIn wsX8_better wsX1_seekBest := goodIn_r _ [48, 49, 50, 51, 52, 53, 54, 41, 55, 56, 57, 58, 59, 60, 61, 62, 63, 64, 65, 66, 47, 67, 68, 69, 70, 71, 72, 73, 74, 75, 76, 77, 34, 78, 79, 80, 81, 18, 82, 21, 83, 84, 85, 86, 87, 88, 89, 90, 91, 92, 93, 94, 95, 96, 97, 98, 99, 100, 101, 102, 103, 104, 105, 106, 107, 108, 109, 110, 111, 112, 113, 114, 115, 116, 117, 43, 118, 119, 120, 121, 122, 123, 124, 125, 126, 127, 128, 129, 130, 131, 132, 133, 134, 24, 27, 135, 136, 137, 38, 39, 40, 42, 138, 139, 140, 141, 142, 143, 144, 145, 146, 147, 148, 149, 150, 151, 152, 153, 154, 155, 156, 157, 158, 159, 160, 161, 162, 163, 164, 165, 166, 167, 168, 169, 170, 171, 172, 173, 174, 33, 35, 175, 176, 177, 178, 179, 180, 181, 182, 183, 184, 185, 186, 187, 188, 189, 190, 191, 192, 193, 194, 195, 196, 197, 198, 199, 200, 232, 233, 234, 235, 236, 222, 223, 224, 225, 226, 227, 228, 229, 230, 231, 217, 218, 219, 220, 221, 237, 238, 239, 240, 241, 242, 243, 244, 245, 246] (by decide +kernel) (by decide +kernel)
set_option maxRecDepth 20000 in
theorem gX8_better_X1_seekBest : GoodIn wsX8_better (wsV RX8 203 RX1 yX1_seekBest wsX1_seekBest) := goodIn_app (goodIn_of _ (by decide +kernel)) ggX8_better_X1_seekBest
set_option maxRecDepth 20000 in
theorem ggX8_better_X1_cheapestBeside : GoodIn wsX8_better wsX1_cheapestBeside := goodIn_r _ [204, 50, 51, 52, 53, 54, 41, 55, 56, 205, 206, 47, 207, 57, 58, 59, 60, 61, 62, 63, 198, 199, 200, 232, 233, 234, 235, 236, 222, 223, 224, 225, 226, 227, 228, 229, 230, 231] (by decide +kernel) (by decide +kernel)
set_option maxRecDepth 20000 in
theorem gX8_better_X1_cheapestBeside : GoodIn wsX8_better (wsV RX8 219 RX1 yX1_cheapestBeside wsX1_cheapestBeside) := goodIn_app (goodIn_of _ (by decide +kernel)) ggX8_better_X1_cheapestBeside
