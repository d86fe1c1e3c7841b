theorem dX6_addHallTo_2 : decode cX6_addHallTo 2 = .ok (.iload_n 2, 1) := by decide +kernel
theorem dX6_addHallTo_3 : decode cX6_addHallTo 3 = .ok (.ishl, 1) := by decide +kernel
theorem dX6_addHallTo_4 : decode cX6_addHallTo 4 = .ok (.ior, 1) := by decide +kernel
theorem dX6_addHallTo_5 : decode cX6_addHallTo 5 = .ok (.istore_n 3, 1) := by decide +kernel
theorem dX6_addHallTo_6 : decode cX6_addHallTo 6 = .ok (.iconst 0, 1) := by decide +kernel
theorem dX6_addHallTo_7 : decode cX6_addHallTo 7 = .ok (.istore 4, 2) := by decide +kernel
theorem dX6_addHallTo_9 : decode cX6_addHallTo 9 = .ok (.iconst 0, 1) := by decide +kernel
theorem dX6_addHallTo_10 : decode cX6_addHallTo 10 = .ok (.istore 5, 2) := by decide +kernel
theorem dX6_addHallTo_12 : decode cX6_addHallTo 12 = .ok (.iload 5, 2) := by decide +kernel
theorem dX6_addHallTo_14 : decode cX6_addHallTo 14 = .ok (.aload_n 0, 1) := by decide +kernel
theorem dX6_addHallTo_15 : decode cX6_addHallTo 15 = .ok (.getfield 25, 3) := by decide +kernel
theorem dX6_addHallTo_18 : decode cX6_addHallTo 18 = .ok (.getfield 30, 3) := by decide +kernel
theorem dX6_addHallTo_21 : decode cX6_addHallTo 21 = .ok (.if_icmp .ge 68, 3) := by decide +kernel
theorem dX6_addHallTo_24 : decode cX6_addHallTo 24 = .ok (.aload_n 0, 1) := by decide +kernel
theorem dX6_addHallTo_25 : decode cX6_addHallTo 25 = .ok (.getfield 9, 3) := by decide +kernel
theorem dX6_addHallTo_28 : decode cX6_addHallTo 28 = .ok (.iload_n 1, 1) := by decide +kernel
theorem dX6_addHallTo_29 : decode cX6_addHallTo 29 = .ok (.bipush 8, 2) := by decide +kernel
theorem dX6_addHallTo_31 : decode cX6_addHallTo 31 = .ok (.imul, 1) := by decide +kernel
theorem dX6_addHallTo_32 : decode cX6_addHallTo 32 = .ok (.iload 5, 2) := by decide +kernel
theorem dX6_addHallTo_34 : decode cX6_addHallTo 34 = .ok (.iadd, 1) := by decide +kernel
theorem dX6_addHallTo_35 : decode cX6_addHallTo 35 = .ok (.iaload, 1) := by decide +kernel
theorem dX6_addHallTo_36 : decode cX6_addHallTo 36 = .ok (.aload_n 0, 1) := by decide +kernel
theorem dX6_addHallTo_37 : decode cX6_addHallTo 37 = .ok (.getfield 25, 3) := by decide +kernel
theorem dX6_addHallTo_40 : decode cX6_addHallTo 40 = .ok (.iload_n 2, 1) := by decide +kernel
theorem dX6_addHallTo_41 : decode cX6_addHallTo 41 = .ok (.iload 5, 2) := by decide +kernel
theorem dX6_addHallTo_43 : decode cX6_addHallTo 43 = .ok (.invokevirtual 43, 3) := by decide +kernel
theorem dX6_addHallTo_46 : decode cX6_addHallTo 46 = .ok (.invokestatic 47, 3) := by decide +kernel
theorem dX6_addHallTo_49 : decode cX6_addHallTo 49 = .ok (.istore 6, 2) := by decide +kernel
theorem dX6_addHallTo_51 : decode cX6_addHallTo 51 = .ok (.aload_n 0, 1) := by decide +kernel
theorem dX6_addHallTo_52 : decode cX6_addHallTo 52 = .ok (.getfield 9, 3) := by decide +kernel
theorem dX6_addHallTo_55 : decode cX6_addHallTo 55 = .ok (.iload_n 3, 1) := by decide +kernel
theorem dX6_addHallTo_56 : decode cX6_addHallTo 56 = .ok (.bipush 8, 2) := by decide +kernel
theorem dX6_addHallTo_58 : decode cX6_addHallTo 58 = .ok (.imul, 1) := by decide +kernel
theorem dX6_addHallTo_59 : decode cX6_addHallTo 59 = .ok (.iload 5, 2) := by decide +kernel
theorem dX6_addHallTo_61 : decode cX6_addHallTo 61 = .ok (.iadd, 1) := by decide +kernel
theorem dX6_addHallTo_62 : decode cX6_addHallTo 62 = .ok (.iload 6, 2) := by decide +kernel
theorem dX6_addHallTo_64 : decode cX6_addHallTo 64 = .ok (.iastore, 1) := by decide +kernel
theorem dX6_addHallTo_65 : decode cX6_addHallTo 65 = .ok (.iload 4, 2) := by decide +kernel
theorem dX6_addHallTo_67 : decode cX6_addHallTo 67 = .ok (.aload_n 0, 1) := by decide +kernel
theorem dX6_addHallTo_68 : decode cX6_addHallTo 68 = .ok (.getfield 25, 3) := by decide +kernel
theorem dX6_addHallTo_71 : decode cX6_addHallTo 71 = .ok (.getfield 52, 3) := by decide +kernel
theorem dX6_addHallTo_74 : decode cX6_addHallTo 74 = .ok (.iload 5, 2) := by decide +kernel
theorem dX6_addHallTo_76 : decode cX6_addHallTo 76 = .ok (.iaload, 1) := by decide +kernel
theorem dX6_addHallTo_77 : decode cX6_addHallTo 77 = .ok (.iload 6, 2) := by decide +kernel
theorem dX6_addHallTo_79 : decode cX6_addHallTo 79 = .ok (.imul, 1) := by decide +kernel
theorem dX6_addHallTo_80 : decode cX6_addHallTo 80 = .ok (.iadd, 1) := by decide +kernel
theorem dX6_addHallTo_81 : decode cX6_addHallTo 81 = .ok (.istore 4, 2) := by decide +kernel
theorem dX6_addHallTo_83 : decode cX6_addHallTo 83 = .ok (.iinc 5 1, 3) := by decide +kernel
theorem dX6_addHallTo_86 : decode cX6_addHallTo 86 = .ok (.goto (-74), 3) := by decide +kernel
theorem dX6_addHallTo_89 : decode cX6_addHallTo 89 = .ok (.aload_n 0, 1) := by decide +kernel
theorem dX6_addHallTo_90 : decode cX6_addHallTo 90 = .ok (.getfield 15, 3) := by decide +kernel
theorem dX6_addHallTo_93 : decode cX6_addHallTo 93 = .ok (.iload_n 3, 1) := by decide +kernel
theorem dX6_addHallTo_94 : decode cX6_addHallTo 94 = .ok (.iload 4, 2) := by decide +kernel
theorem dX6_addHallTo_96 : decode cX6_addHallTo 96 = .ok (.iastore, 1) := by decide +kernel
theorem dX6_addHallTo_97 : decode cX6_addHallTo 97 = .ok (.aload_n 0, 1) := by decide +kernel
theorem dX6_addHallTo_98 : decode cX6_addHallTo 98 = .ok (.getfield 18, 3) := by decide +kernel
theorem dX6_addHallTo_101 : decode cX6_addHallTo 101 = .ok (.iload_n 3, 1) := by decide +kernel
theorem dX6_addHallTo_102 : decode cX6_addHallTo 102 = .ok (.aload_n 0, 1) := by decide +kernel
theorem dX6_addHallTo_103 : decode cX6_addHallTo 103 = .ok (.getfield 18, 3) := by decide +kernel
theorem dX6_addHallTo_106 : decode cX6_addHallTo 106 = .ok (.iload_n 1, 1) := by decide +kernel
theorem dX6_addHallTo_107 : decode cX6_addHallTo 107 = .ok (.iaload, 1) := by decide +kernel
theorem dX6_addHallTo_108 : decode cX6_addHallTo 108 = .ok (.aload_n 0, 1) := by decide +kernel
theorem dX6_addHallTo_109 : decode cX6_addHallTo 109 = .ok (.getfield 25, 3) := by decide +kernel
theorem dX6_addHallTo_112 : decode cX6_addHallTo 112 = .ok (.getfield 55, 3) := by decide +kernel
theorem dX6_addHallTo_115 : decode cX6_addHallTo 115 = .ok (.iload_n 2, 1) := by decide +kernel
theorem dX6_addHallTo_116 : decode cX6_addHallTo 116 = .ok (.iaload, 1) := by decide +kernel
theorem dX6_addHallTo_117 : decode cX6_addHallTo 117 = .ok (.iadd, 1) := by decide +kernel
theorem dX6_addHallTo_118 : decode cX6_addHallTo 118 = .ok (.iastore, 1) := by decide +kernel
theorem dX6_addHallTo_119 : decode cX6_addHallTo 119 = .ok (.return_, 1) := by decide +kernel
theorem dX6_nearWay_0 : decode cX6_nearWay 0 = .ok (.aload_n 0, 1) := by decide +kernel
theorem dX6_nearWay_1 : decode cX6_nearWay 1 = .ok (.getfield 9, 3) := by decide +kernel
theorem dX6_nearWay_4 : decode cX6_nearWay 4 = .ok (.iload_n 1, 1) := by decide +kernel
theorem dX6_nearWay_5 : decode cX6_nearWay 5 = .ok (.bipush 8, 2) := by decide +kernel
theorem dX6_nearWay_7 : decode cX6_nearWay 7 = .ok (.imul, 1) := by decide +kernel
theorem dX6_nearWay_8 : decode cX6_nearWay 8 = .ok (.iload_n 2, 1) := by decide +kernel
theorem dX6_nearWay_9 : decode cX6_nearWay 9 = .ok (.iadd, 1) := by decide +kernel
theorem dX6_nearWay_10 : decode cX6_nearWay 10 = .ok (.iaload, 1) := by decide +kernel
theorem dX6_nearWay_11 : decode cX6_nearWay 11 = .ok (.ireturn, 1) := by decide +kernel
set_option maxRecDepth 20000 in
theorem ggX6_nearHall_X5_isIn : GoodIn wsX6_nearHall wsX5_isIn := goodIn_r _ [6] (by decide +kernel) (by decide +kernel)
set_option maxRecDepth 20000 in
theorem gX6_nearHall_X5_isIn : GoodIn wsX6_nearHall (va_wsS RX6 56 yX5_isIn wsX5_isIn) := goodIn_app (goodIn_of _ (by decide +kernel)) ggX6_nearHall_X5_isIn
set_option maxRecDepth 20000 in
theorem ggX6_nearHall_X5_wayOf : GoodIn wsX6_nearHall wsX5_wayOf := goodIn_r _ [10, 11, 23, 24, 25, 26, 27, 28, 29, 30, 31, 32] (by decide +kernel) (by decide +kernel)
set_option maxRecDepth 20000 in
theorem gX6_nearHall_X5_wayOf : GoodIn wsX6_nearHall (wsV RX6 43 RX5 yX5_wayOf wsX5_wayOf) := goodIn_app (goodIn_of _ (by decide +kernel)) ggX6_nearHall_X5_wayOf
set_option maxRecDepth 20000 in
theorem ggX6_nearHall_X6_nearWay : GoodIn wsX6_nearHall wsX6_nearWay := goodIn_r _ [16, 17, 18, 19, 20, 21, 22] (by decide +kernel) (by decide +kernel)
set_option maxRecDepth 20000 in
theorem gX6_nearHall_X6_nearWay : GoodIn wsX6_nearHall (wsV RX6 60 RX6 yX6_nearWay wsX6_nearWay) := goodIn_app (goodIn_of _ (by decide +kernel)) ggX6_nearHall_X6_nearWay
theorem dX6_nearHall_0 : decode cX6_nearHall 0 = .ok (.iconst 0, 1) := by decide +kernel
theorem dX6_nearHall_1 : decode cX6_nearHall 1 = .ok (.istore_n 3, 1) := by decide +kernel
theorem dX6_nearHall_2 : decode cX6_nearHall 2 = .ok (.iload_n 3, 1) := by decide +kernel
theorem dX6_nearHall_3 : decode cX6_nearHall 3 = .ok (.aload_n 0, 1) := by decide +kernel
theorem dX6_nearHall_4 : decode cX6_nearHall 4 = .ok (.getfield 25, 3) := by decide +kernel
theorem dX6_nearHall_7 : decode cX6_nearHall 7 = .ok (.getfield 36, 3) := by decide +kernel
theorem dX6_nearHall_10 : decode cX6_nearHall 10 = .ok (.if_icmp .ge 37, 3) := by decide +kernel
theorem dX6_nearHall_13 : decode cX6_nearHall 13 = .ok (.iload_n 3, 1) := by decide +kernel
theorem dX6_nearHall_14 : decode cX6_nearHall 14 = .ok (.iload_n 1, 1) := by decide +kernel
theorem dX6_nearHall_15 : decode cX6_nearHall 15 = .ok (.invokestatic 56, 3) := by decide +kernel
theorem dX6_nearHall_18 : decode cX6_nearHall 18 = .ok (.ifCond .eq 23, 3) := by decide +kernel
theorem dX6_nearHall_21 : decode cX6_nearHall 21 = .ok (.aload_n 0, 1) := by decide +kernel
theorem dX6_nearHall_22 : decode cX6_nearHall 22 = .ok (.getfield 25, 3) := by decide +kernel
theorem dX6_nearHall_25 : decode cX6_nearHall 25 = .ok (.iload_n 3, 1) := by decide +kernel
theorem dX6_nearHall_26 : decode cX6_nearHall 26 = .ok (.iload_n 2, 1) := by decide +kernel
theorem dX6_nearHall_27 : decode cX6_nearHall 27 = .ok (.invokevirtual 43, 3) := by decide +kernel
theorem dX6_nearHall_30 : decode cX6_nearHall 30 = .ok (.aload_n 0, 1) := by decide +kernel
theorem dX6_nearHall_31 : decode cX6_nearHall 31 = .ok (.iload_n 1, 1) := by decide +kernel
theorem dX6_nearHall_32 : decode cX6_nearHall 32 = .ok (.iload_n 2, 1) := by decide +kernel
theorem dX6_nearHall_33 : decode cX6_nearHall 33 = .ok (.invokevirtual 60, 3) := by decide +kernel
theorem dX6_nearHall_36 : decode cX6_nearHall 36 = .ok (.if_icmp .ne 5, 3) := by decide +kernel
theorem dX6_nearHall_39 : decode cX6_nearHall 39 = .ok (.iload_n 3, 1) := by decide +kernel
theorem dX6_nearHall_40 : decode cX6_nearHall 40 = .ok (.ireturn, 1) := by decide +kernel
theorem dX6_nearHall_41 : decode cX6_nearHall 41 = .ok (.iinc 3 1, 3) := by decide +kernel
theorem dX6_nearHall_44 : decode cX6_nearHall 44 = .ok (.goto (-42), 3) := by decide +kernel
theorem dX6_nearHall_47 : decode cX6_nearHall 47 = .ok (.iconst (-1), 1) := by decide +kernel
theorem dX6_nearHall_48 : decode cX6_nearHall 48 = .ok (.ireturn, 1) := by decide +kernel
theorem dX7_init_0 : decode cX7_init 0 = .ok (.aload_n 0, 1) := by decide +kernel
theorem dX7_init_1 : decode cX7_init 1 = .ok (.invokespecial 5, 3) := by decide +kernel
theorem dX7_init_4 : decode cX7_init 4 = .ok (.aload_n 0, 1) := by decide +kernel
theorem dX7_init_5 : decode cX7_init 5 = .ok (.sipush 128, 3) := by decide +kernel
theorem dX7_init_8 : decode cX7_init 8 = .ok (.newarray .long, 2) := by decide +kernel
theorem dX7_init_10 : decode cX7_init 10 = .ok (.putfield 11, 3) := by decide +kernel
theorem dX7_init_13 : decode cX7_init 13 = .ok (.aload_n 0, 1) := by decide +kernel
theorem dX7_init_14 : decode cX7_init 14 = .ok (.bipush 8, 2) := by decide +kernel
theorem dX7_init_16 : decode cX7_init 16 = .ok (.sipush 256, 3) := by decide +kernel
theorem dX7_init_19 : decode cX7_init 19 = .ok (.multianewarray 15 2, 4) := by decide +kernel
theorem dX7_init_23 : decode cX7_init 23 = .ok (.putfield 17, 3) := by decide +kernel
theorem dX7_init_26 : decode cX7_init 26 = .ok (.aload_n 0, 1) := by decide +kernel
theorem dX7_init_27 : decode cX7_init 27 = .ok (.bipush 56, 2) := by decide +kernel
theorem dX7_init_29 : decode cX7_init 29 = .ok (.newarray .long, 2) := by decide +kernel
theorem dX7_init_31 : decode cX7_init 31 = .ok (.putfield 20, 3) := by decide +kernel
theorem dX7_init_34 : decode cX7_init 34 = .ok (.aload_n 0, 1) := by decide +kernel
theorem dX7_init_35 : decode cX7_init 35 = .ok (.sipush 256, 3) := by decide +kernel
theorem dX7_init_38 : decode cX7_init 38 = .ok (.newarray .long, 2) := by decide +kernel
theorem dX7_init_40 : decode cX7_init 40 = .ok (.putfield 23, 3) := by decide +kernel
theorem dX7_init_43 : decode cX7_init 43 = .ok (.aload_n 0, 1) := by decide +kernel
theorem dX7_init_44 : decode cX7_init 44 = .ok (.sipush 256, 3) := by decide +kernel
theorem dX7_init_47 : decode cX7_init 47 = .ok (.newarray .int, 2) := by decide +kernel
theorem dX7_init_49 : decode cX7_init 49 = .ok (.putfield 26, 3) := by decide +kernel
theorem dX7_init_52 : decode cX7_init 52 = .ok (.aload_n 0, 1) := by decide +kernel
theorem dX7_init_53 : decode cX7_init 53 = .ok (.bipush 7, 2) := by decide +kernel
theorem dX7_init_55 : decode cX7_init 55 = .ok (.newarray .int, 2) := by decide +kernel
theorem dX7_init_57 : decode cX7_init 57 = .ok (.putfield 30, 3) := by decide +kernel
theorem dX7_init_60 : decode cX7_init 60 = .ok (.aload_n 0, 1) := by decide +kernel
theorem dX7_init_61 : decode cX7_init 61 = .ok (.iconst (-1), 1) := by decide +kernel
theorem dX7_init_62 : decode cX7_init 62 = .ok (.putfield 33, 3) := by decide +kernel
theorem dX7_init_65 : decode cX7_init 65 = .ok (.aload_n 0, 1) := by decide +kernel
theorem dX7_init_66 : decode cX7_init 66 = .ok (.iconst 1, 1) := by decide +kernel
theorem dX7_init_67 : decode cX7_init 67 = .ok (.putfield 37, 3) := by decide +kernel
theorem dX7_init_70 : decode cX7_init 70 = .ok (.aload_n 0, 1) := by decide +kernel
theorem dX7_init_71 : decode cX7_init 71 = .ok (.aload_n 1, 1) := by decide +kernel
theorem dX7_init_72 : decode cX7_init 72 = .ok (.putfield 41, 3) := by decide +kernel
theorem dX7_init_75 : decode cX7_init 75 = .ok (.aload_n 0, 1) := by decide +kernel
theorem dX7_init_76 : decode cX7_init 76 = .ok (.aload_n 2, 1) := by decide +kernel
theorem dX7_init_77 : decode cX7_init 77 = .ok (.putfield 45, 3) := by decide +kernel
theorem dX7_init_80 : decode cX7_init 80 = .ok (.return_, 1) := by decide +kernel
theorem dX7_tripsOf_0 : decode cX7_tripsOf 0 = .ok (.lload_n 0, 1) := by decide +kernel
theorem dX7_tripsOf_1 : decode cX7_tripsOf 1 = .ok (.ldc2_w 49, 3) := by decide +kernel
theorem dX7_tripsOf_4 : decode cX7_tripsOf 4 = .ok (.lcmp, 1) := by decide +kernel
theorem dX7_tripsOf_5 : decode cX7_tripsOf 5 = .ok (.ifCond .ne 7, 3) := by decide +kernel
theorem dX7_tripsOf_8 : decode cX7_tripsOf 8 = .ok (.iconst (-1), 1) := by decide +kernel
theorem dX7_tripsOf_9 : decode cX7_tripsOf 9 = .ok (.goto 8, 3) := by decide +kernel
theorem dX7_tripsOf_12 : decode cX7_tripsOf 12 = .ok (.lload_n 0, 1) := by decide +kernel
theorem dX7_tripsOf_13 : decode cX7_tripsOf 13 = .ok (.bipush 24, 2) := by decide +kernel
theorem dX7_tripsOf_15 : decode cX7_tripsOf 15 = .ok (.lshr, 1) := by decide +kernel
theorem dX7_tripsOf_16 : decode cX7_tripsOf 16 = .ok (.l2i, 1) := by decide +kernel
theorem dX7_tripsOf_17 : decode cX7_tripsOf 17 = .ok (.ireturn, 1) := by decide +kernel
set_option maxRecDepth 20000 in
theorem ggX7_hallIn_X7_shiftOf : GoodIn wsX7_hallIn wsX7_shiftOf := goodIn_r _ [6] (by decide +kernel) (by decide +kernel)
set_option maxRecDepth 20000 in
theorem gX7_hallIn_X7_shiftOf : GoodIn wsX7_hallIn (va_wsS RX7 51 yX7_shiftOf wsX7_shiftOf) := goodIn_app (goodIn_of _ (by decide +kernel)) ggX7_hallIn_X7_shiftOf
theorem dX7_hallIn_0 : decode cX7_hallIn 0 = .ok (.lload_n 0, 1) := by decide +kernel
theorem dX7_hallIn_1 : decode cX7_hallIn 1 = .ok (.ldc2_w 49, 3) := by decide +kernel
theorem dX7_hallIn_4 : decode cX7_hallIn 4 = .ok (.lcmp, 1) := by decide +kernel
theorem dX7_hallIn_5 : decode cX7_hallIn 5 = .ok (.ifCond .ne 7, 3) := by decide +kernel
theorem dX7_hallIn_8 : decode cX7_hallIn 8 = .ok (.iconst (-1), 1) := by decide +kernel
theorem dX7_hallIn_9 : decode cX7_hallIn 9 = .ok (.goto 14, 3) := by decide +kernel
theorem dX7_hallIn_12 : decode cX7_hallIn 12 = .ok (.lload_n 0, 1) := by decide +kernel
theorem dX7_hallIn_13 : decode cX7_hallIn 13 = .ok (.iload_n 2, 1) := by decide +kernel
theorem dX7_hallIn_14 : decode cX7_hallIn 14 = .ok (.invokestatic 51, 3) := by decide +kernel
theorem dX7_hallIn_17 : decode cX7_hallIn 17 = .ok (.lshr, 1) := by decide +kernel
theorem dX7_hallIn_18 : decode cX7_hallIn 18 = .ok (.ldc2_w 55, 3) := by decide +kernel
theorem dX7_hallIn_21 : decode cX7_hallIn 21 = .ok (.land, 1) := by decide +kernel
theorem dX7_hallIn_22 : decode cX7_hallIn 22 = .ok (.l2i, 1) := by decide +kernel
theorem dX7_hallIn_23 : decode cX7_hallIn 23 = .ok (.ireturn, 1) := by decide +kernel
theorem dX7_shiftOf_0 : decode cX7_shiftOf 0 = .ok (.iconst 3, 1) := by decide +kernel
theorem dX7_shiftOf_1 : decode cX7_shiftOf 1 = .ok (.bipush 7, 2) := by decide +kernel
theorem dX7_shiftOf_3 : decode cX7_shiftOf 3 = .ok (.iload_n 0, 1) := by decide +kernel
theorem dX7_shiftOf_4 : decode cX7_shiftOf 4 = .ok (.isub, 1) := by decide +kernel
theorem dX7_shiftOf_5 : decode cX7_shiftOf 5 = .ok (.imul, 1) := by decide +kernel
theorem dX7_shiftOf_6 : decode cX7_shiftOf 6 = .ok (.ireturn, 1) := by decide +kernel
theorem dX7_forget_0 : decode cX7_forget 0 = .ok (.aload_n 0, 1) := by decide +kernel
theorem dX7_forget_1 : decode cX7_forget 1 = .ok (.iconst 1, 1) := by decide +kernel
theorem dX7_forget_2 : decode cX7_forget 2 = .ok (.putfield 37, 3) := by decide +kernel
theorem dX7_forget_5 : decode cX7_forget 5 = .ok (.return_, 1) := by decide +kernel
set_option maxRecDepth 20000 in
theorem ggX7_fillingOf_X7_startAnew : GoodIn wsX7_fillingOf wsX7_startAnew := goodIn_r _ [8, 1, 9, 2, 3, 10, 11, 12, 13, 14, 15, 16, 17, 18, 19, 20, 21, 22, 23, 24, 25, 26, 27, 28, 29, 30, 7, 31, 88, 89, 90, 91, 92, 93, 94, 95, 96, 97, 98, 99, 100, 101, 102, 103, 104, 105, 106, 107] (by decide +kernel) (by decide +kernel)
set_option maxRecDepth 20000 in
theorem gX7_fillingOf_X7_startAnew : GoodIn wsX7_fillingOf (wsV RX7 57 RX7 yX7_startAnew wsX7_startAnew) := goodIn_app (goodIn_of _ (by decide +kernel)) ggX7_fillingOf_X7_startAnew
set_option maxRecDepth 20000 in
theorem ggX7_fillingOf_X7_nearestFilling : GoodIn wsX7_fillingOf wsX7_nearestFilling := goodIn_r _ [35, 36, 10, 11, 37, 17, 38, 3, 15, 39, 40, 20, 41, 42, 43, 44, 45, 46, 47, 48, 49, 50, 25, 51, 52, 53, 54, 55, 28, 56, 57, 58, 59, 60, 88, 89, 90, 91, 92, 93, 94, 95, 96, 97, 98, 99, 100, 101, 102, 103, 104, 105, 106, 107, 108, 109, 110, 111, 112] (by decide +kernel) (by decide +kernel)
set_option maxRecDepth 20000 in
theorem gX7_fillingOf_X7_nearestFilling : GoodIn wsX7_fillingOf (wsV RX7 62 RX7 yX7_nearestFilling wsX7_nearestFilling) := goodIn_app (goodIn_of _ (by decide +kernel)) ggX7_fillingOf_X7_nearestFilling
set_option maxRecDepth 20000 in
theorem ggX7_fillingOf_X7_bestFilling : GoodIn wsX7_fillingOf wsX7_bestFilling := goodIn_r _ [64] (by decide +kernel) (by decide +kernel)
set_option maxRecDepth 20000 in
theorem gX7_fillingOf_X7_bestFilling : GoodIn wsX7_fillingOf (wsV RX7 66 RX7 yX7_bestFilling wsX7_bestFilling) := goodIn_app (goodIn_of _ (by decide +kernel)) ggX7_fillingOf_X7_bestFilling
theorem dX7_fillingOf_0 : decode cX7_fillingOf 0 = .ok (.aload_n 0, 1) := by decide +kernel
theorem dX7_fillingOf_1 : decode cX7_fillingOf 1 = .ok (.getfield 37, 3) := by decide +kernel
theorem dX7_fillingOf_4 : decode cX7_fillingOf 4 = .ok (.ifCond .eq 7, 3) := by decide +kernel
theorem dX7_fillingOf_7 : decode cX7_fillingOf 7 = .ok (.aload_n 0, 1) := by decide +kernel
theorem dX7_fillingOf_8 : decode cX7_fillingOf 8 = .ok (.invokevirtual 57, 3) := by decide +kernel
theorem dX7_fillingOf_11 : decode cX7_fillingOf 11 = .ok (.aload_n 0, 1) := by decide +kernel
theorem dX7_fillingOf_12 : decode cX7_fillingOf 12 = .ok (.getfield 11, 3) := by decide +kernel
theorem dX7_fillingOf_15 : decode cX7_fillingOf 15 = .ok (.iload_n 1, 1) := by decide +kernel
theorem dX7_fillingOf_16 : decode cX7_fillingOf 16 = .ok (.laload, 1) := by decide +kernel
theorem dX7_fillingOf_17 : decode cX7_fillingOf 17 = .ok (.ldc2_w 60, 3) := by decide +kernel
theorem dX7_fillingOf_20 : decode cX7_fillingOf 20 = .ok (.lcmp, 1) := by decide +kernel
theorem dX7_fillingOf_21 : decode cX7_fillingOf 21 = .ok (.ifCond .ne 14, 3) := by decide +kernel
theorem dX7_fillingOf_24 : decode cX7_fillingOf 24 = .ok (.aload_n 0, 1) := by decide +kernel
theorem dX7_fillingOf_25 : decode cX7_fillingOf 25 = .ok (.getfield 11, 3) := by decide +kernel
theorem dX7_fillingOf_28 : decode cX7_fillingOf 28 = .ok (.iload_n 1, 1) := by decide +kernel
theorem dX7_fillingOf_29 : decode cX7_fillingOf 29 = .ok (.aload_n 0, 1) := by decide +kernel
theorem dX7_fillingOf_30 : decode cX7_fillingOf 30 = .ok (.iload_n 1, 1) := by decide +kernel
theorem dX7_fillingOf_31 : decode cX7_fillingOf 31 = .ok (.invokevirtual 62, 3) := by decide +kernel
theorem dX7_fillingOf_34 : decode cX7_fillingOf 34 = .ok (.lastore, 1) := by decide +kernel
theorem dX7_fillingOf_35 : decode cX7_fillingOf 35 = .ok (.aload_n 0, 1) := by decide +kernel
theorem dX7_fillingOf_36 : decode cX7_fillingOf 36 = .ok (.getfield 11, 3) := by decide +kernel
theorem dX7_fillingOf_39 : decode cX7_fillingOf 39 = .ok (.iload_n 1, 1) := by decide +kernel
theorem dX7_fillingOf_40 : decode cX7_fillingOf 40 = .ok (.laload, 1) := by decide +kernel
theorem dX7_fillingOf_41 : decode cX7_fillingOf 41 = .ok (.ldc2_w 60, 3) := by decide +kernel
theorem dX7_fillingOf_44 : decode cX7_fillingOf 44 = .ok (.lcmp, 1) := by decide +kernel
theorem dX7_fillingOf_45 : decode cX7_fillingOf 45 = .ok (.ifCond .ne 14, 3) := by decide +kernel
theorem dX7_fillingOf_48 : decode cX7_fillingOf 48 = .ok (.aload_n 0, 1) := by decide +kernel
theorem dX7_fillingOf_49 : decode cX7_fillingOf 49 = .ok (.getfield 11, 3) := by decide +kernel
theorem dX7_fillingOf_52 : decode cX7_fillingOf 52 = .ok (.iload_n 1, 1) := by decide +kernel
theorem dX7_fillingOf_53 : decode cX7_fillingOf 53 = .ok (.aload_n 0, 1) := by decide +kernel
theorem dX7_fillingOf_54 : decode cX7_fillingOf 54 = .ok (.iload_n 1, 1) := by decide +kernel
theorem dX7_fillingOf_55 : decode cX7_fillingOf 55 = .ok (.invokevirtual 66, 3) := by decide +kernel
theorem dX7_fillingOf_58 : decode cX7_fillingOf 58 = .ok (.lastore, 1) := by decide +kernel
theorem dX7_fillingOf_59 : decode cX7_fillingOf 59 = .ok (.aload_n 0, 1) := by decide +kernel
theorem dX7_fillingOf_60 : decode cX7_fillingOf 60 = .ok (.getfield 11, 3) := by decide +kernel
theorem dX7_fillingOf_63 : decode cX7_fillingOf 63 = .ok (.iload_n 1, 1) := by decide +kernel
theorem dX7_fillingOf_64 : decode cX7_fillingOf 64 = .ok (.laload, 1) := by decide +kernel
theorem dX7_fillingOf_65 : decode cX7_fillingOf 65 = .ok (.lreturn, 1) := by decide +kernel
set_option maxRecDepth 20000 in
theorem ggX7_startAnew_J7_fill_d0a16 : GoodIn wsX7_startAnew wsJ7_fill_d0a16 := goodIn_r _ [16] (by decide +kernel) (by decide +kernel)
set_option maxRecDepth 20000 in
theorem gX7_startAnew_J7_fill_d0a16 : GoodIn wsX7_startAnew (va_wsS RX7 69 yJ7_fill_d0a16 wsJ7_fill_d0a16) := goodIn_app (goodIn_of _ (by decide +kernel)) ggX7_startAnew_J7_fill_d0a16
set_option maxRecDepth 20000 in
theorem ggX7_startAnew_X5_tripOf : GoodIn wsX7_startAnew wsX5_tripOf := goodIn_r _ [21, 22, 23, 38, 39, 40, 41, 42, 43, 44, 45, 46, 47] (by decide +kernel) (by decide +kernel)
set_option maxRecDepth 20000 in
theorem gX7_startAnew_X5_tripOf : GoodIn wsX7_startAnew (wsV RX7 83 RX5 yX5_tripOf wsX5_tripOf) := goodIn_app (goodIn_of _ (by decide +kernel)) ggX7_startAnew_X5_tripOf
set_option maxRecDepth 20000 in
theorem ggX7_startAnew_X7_shiftOf : GoodIn wsX7_startAnew wsX7_shiftOf := goodIn_r _ [27] (by decide +kernel) (by decide +kernel)
set_option maxRecDepth 20000 in
theorem gX7_startAnew_X7_shiftOf : GoodIn wsX7_startAnew (va_wsS RX7 51 yX7_shiftOf wsX7_shiftOf) := goodIn_app (goodIn_of _ (by decide +kernel)) ggX7_startAnew_X7_shiftOf
theorem dX7_startAnew_0 : decode cX7_startAnew 0 = .ok (.aload_n 0, 1) := by decide +kernel
theorem dX7_startAnew_1 : decode cX7_startAnew 1 = .ok (.iconst 0, 1) := by decide +kernel
theorem dX7_startAnew_2 : decode cX7_startAnew 2 = .ok (.putfield 37, 3) := by decide +kernel
theorem dX7_startAnew_5 : decode cX7_startAnew 5 = .ok (.aload_n 0, 1) := by decide +kernel
theorem dX7_startAnew_6 : decode cX7_startAnew 6 = .ok (.iconst (-1), 1) := by decide +kernel
theorem dX7_startAnew_7 : decode cX7_startAnew 7 = .ok (.putfield 33, 3) := by decide +kernel
theorem dX7_startAnew_10 : decode cX7_startAnew 10 = .ok (.aload_n 0, 1) := by decide +kernel
theorem dX7_startAnew_11 : decode cX7_startAnew 11 = .ok (.getfield 11, 3) := by decide +kernel
theorem dX7_startAnew_14 : decode cX7_startAnew 14 = .ok (.ldc2_w 60, 3) := by decide +kernel
theorem dX7_startAnew_17 : decode cX7_startAnew 17 = .ok (.invokestatic 69, 3) := by decide +kernel
theorem dX7_startAnew_20 : decode cX7_startAnew 20 = .ok (.aload_n 0, 1) := by decide +kernel
theorem dX7_startAnew_21 : decode cX7_startAnew 21 = .ok (.getfield 11, 3) := by decide +kernel
theorem dX7_startAnew_24 : decode cX7_startAnew 24 = .ok (.iconst 0, 1) := by decide +kernel
theorem dX7_startAnew_25 : decode cX7_startAnew 25 = .ok (.aload_n 0, 1) := by decide +kernel
theorem dX7_startAnew_26 : decode cX7_startAnew 26 = .ok (.getfield 41, 3) := by decide +kernel
theorem dX7_startAnew_29 : decode cX7_startAnew 29 = .ok (.getfield 75, 3) := by decide +kernel
theorem dX7_startAnew_32 : decode cX7_startAnew 32 = .ok (.ifCond .ne 7, 3) := by decide +kernel
theorem dX7_startAnew_35 : decode cX7_startAnew 35 = .ok (.lconst 0, 1) := by decide +kernel
theorem dX7_startAnew_36 : decode cX7_startAnew 36 = .ok (.goto 6, 3) := by decide +kernel
theorem dX7_startAnew_39 : decode cX7_startAnew 39 = .ok (.ldc2_w 49, 3) := by decide +kernel
theorem dX7_startAnew_42 : decode cX7_startAnew 42 = .ok (.lastore, 1) := by decide +kernel
theorem dX7_startAnew_43 : decode cX7_startAnew 43 = .ok (.aload_n 0, 1) := by decide +kernel
theorem dX7_startAnew_44 : decode cX7_startAnew 44 = .ok (.getfield 17, 3) := by decide +kernel
theorem dX7_startAnew_47 : decode cX7_startAnew 47 = .ok (.aload_n 0, 1) := by decide +kernel
theorem dX7_startAnew_48 : decode cX7_startAnew 48 = .ok (.getfield 41, 3) := by decide +kernel
theorem dX7_startAnew_51 : decode cX7_startAnew 51 = .ok (.getfield 80, 3) := by decide +kernel
theorem dX7_startAnew_54 : decode cX7_startAnew 54 = .ok (.aaload, 1) := by decide +kernel
theorem dX7_startAnew_55 : decode cX7_startAnew 55 = .ok (.ldc2_w 49, 3) := by decide +kernel
theorem dX7_startAnew_58 : decode cX7_startAnew 58 = .ok (.invokestatic 69, 3) := by decide +kernel
theorem dX7_startAnew_61 : decode cX7_startAnew 61 = .ok (.aload_n 0, 1) := by decide +kernel
theorem dX7_startAnew_62 : decode cX7_startAnew 62 = .ok (.getfield 17, 3) := by decide +kernel
theorem dX7_startAnew_65 : decode cX7_startAnew 65 = .ok (.aload_n 0, 1) := by decide +kernel
theorem dX7_startAnew_66 : decode cX7_startAnew 66 = .ok (.getfield 41, 3) := by decide +kernel
theorem dX7_startAnew_69 : decode cX7_startAnew 69 = .ok (.getfield 80, 3) := by decide +kernel
theorem dX7_startAnew_72 : decode cX7_startAnew 72 = .ok (.aaload, 1) := by decide +kernel
theorem dX7_startAnew_73 : decode cX7_startAnew 73 = .ok (.iconst 0, 1) := by decide +kernel
theorem dX7_startAnew_74 : decode cX7_startAnew 74 = .ok (.lconst 0, 1) := by decide +kernel
theorem dX7_startAnew_75 : decode cX7_startAnew 75 = .ok (.lastore, 1) := by decide +kernel
theorem dX7_startAnew_76 : decode cX7_startAnew 76 = .ok (.iconst 0, 1) := by decide +kernel
theorem dX7_startAnew_77 : decode cX7_startAnew 77 = .ok (.istore_n 1, 1) := by decide +kernel
theorem dX7_startAnew_78 : decode cX7_startAnew 78 = .ok (.iload_n 1, 1) := by decide +kernel
theorem dX7_startAnew_79 : decode cX7_startAnew 79 = .ok (.aload_n 0, 1) := by decide +kernel
theorem dX7_startAnew_80 : decode cX7_startAnew 80 = .ok (.getfield 41, 3) := by decide +kernel
theorem dX7_startAnew_83 : decode cX7_startAnew 83 = .ok (.getfield 75, 3) := by decide +kernel
theorem dX7_startAnew_86 : decode cX7_startAnew 86 = .ok (.if_icmp .ge 103, 3) := by decide +kernel
theorem dX7_startAnew_89 : decode cX7_startAnew 89 = .ok (.iconst 0, 1) := by decide +kernel
theorem dX7_startAnew_90 : decode cX7_startAnew 90 = .ok (.istore_n 2, 1) := by decide +kernel
theorem dX7_startAnew_91 : decode cX7_startAnew 91 = .ok (.iload_n 2, 1) := by decide +kernel
theorem dX7_startAnew_92 : decode cX7_startAnew 92 = .ok (.aload_n 0, 1) := by decide +kernel
theorem dX7_startAnew_93 : decode cX7_startAnew 93 = .ok (.getfield 41, 3) := by decide +kernel
theorem dX7_startAnew_96 : decode cX7_startAnew 96 = .ok (.getfield 80, 3) := by decide +kernel
theorem dX7_startAnew_99 : decode cX7_startAnew 99 = .ok (.if_icmp .ge 43, 3) := by decide +kernel
theorem dX7_startAnew_102 : decode cX7_startAnew 102 = .ok (.aload_n 0, 1) := by decide +kernel
theorem dX7_startAnew_103 : decode cX7_startAnew 103 = .ok (.getfield 41, 3) := by decide +kernel
theorem dX7_startAnew_106 : decode cX7_startAnew 106 = .ok (.iload_n 2, 1) := by decide +kernel
theorem dX7_startAnew_107 : decode cX7_startAnew 107 = .ok (.iload_n 1, 1) := by decide +kernel
theorem dX7_startAnew_108 : decode cX7_startAnew 108 = .ok (.invokevirtual 83, 3) := by decide +kernel
theorem dX7_startAnew_111 : decode cX7_startAnew 111 = .ok (.i2l, 1) := by decide +kernel
theorem dX7_startAnew_112 : decode cX7_startAnew 112 = .ok (.bipush 24, 2) := by decide +kernel
theorem dX7_startAnew_114 : decode cX7_startAnew 114 = .ok (.lshl, 1) := by decide +kernel
theorem dX7_startAnew_115 : decode cX7_startAnew 115 = .ok (.lstore_n 3, 1) := by decide +kernel
theorem dX7_startAnew_116 : decode cX7_startAnew 116 = .ok (.aload_n 0, 1) := by decide +kernel
theorem dX7_startAnew_117 : decode cX7_startAnew 117 = .ok (.getfield 20, 3) := by decide +kernel
theorem dX7_startAnew_120 : decode cX7_startAnew 120 = .ok (.iload_n 2, 1) := by decide +kernel
theorem dX7_startAnew_121 : decode cX7_startAnew 121 = .ok (.bipush 8, 2) := by decide +kernel
theorem dX7_startAnew_123 : decode cX7_startAnew 123 = .ok (.imul, 1) := by decide +kernel
theorem dX7_startAnew_124 : decode cX7_startAnew 124 = .ok (.iload_n 1, 1) := by decide +kernel
theorem dX7_startAnew_125 : decode cX7_startAnew 125 = .ok (.iadd, 1) := by decide +kernel
theorem dX7_startAnew_126 : decode cX7_startAnew 126 = .ok (.lload_n 3, 1) := by decide +kernel
theorem dX7_startAnew_127 : decode cX7_startAnew 127 = .ok (.iload_n 2, 1) := by decide +kernel
theorem dX7_startAnew_128 : decode cX7_startAnew 128 = .ok (.i2l, 1) := by decide +kernel
theorem dX7_startAnew_129 : decode cX7_startAnew 129 = .ok (.iload_n 1, 1) := by decide +kernel
theorem dX7_startAnew_130 : decode cX7_startAnew 130 = .ok (.invokestatic 51, 3) := by decide +kernel
theorem dX7_startAnew_133 : decode cX7_startAnew 133 = .ok (.lshl, 1) := by decide +kernel
theorem dX7_startAnew_134 : decode cX7_startAnew 134 = .ok (.ladd, 1) := by decide +kernel
theorem dX7_startAnew_135 : decode cX7_startAnew 135 = .ok (.lastore, 1) := by decide +kernel
theorem dX7_startAnew_136 : decode cX7_startAnew 136 = .ok (.iinc 2 1, 3) := by decide +kernel
theorem dX7_startAnew_139 : decode cX7_startAnew 139 = .ok (.goto (-48), 3) := by decide +kernel
theorem dX7_startAnew_142 : decode cX7_startAnew 142 = .ok (.iconst 0, 1) := by decide +kernel
theorem dX7_startAnew_143 : decode cX7_startAnew 143 = .ok (.istore_n 2, 1) := by decide +kernel
theorem dX7_startAnew_144 : decode cX7_startAnew 144 = .ok (.iload_n 2, 1) := by decide +kernel
theorem dX7_startAnew_145 : decode cX7_startAnew 145 = .ok (.iconst 1, 1) := by decide +kernel
theorem dX7_startAnew_146 : decode cX7_startAnew 146 = .ok (.iload_n 1, 1) := by decide +kernel
theorem dX7_startAnew_147 : decode cX7_startAnew 147 = .ok (.ishl, 1) := by decide +kernel
theorem dX7_startAnew_148 : decode cX7_startAnew 148 = .ok (.if_icmp .ge 35, 3) := by decide +kernel
theorem dX7_startAnew_151 : decode cX7_startAnew 151 = .ok (.aload_n 0, 1) := by decide +kernel
theorem dX7_startAnew_152 : decode cX7_startAnew 152 = .ok (.getfield 26, 3) := by decide +kernel
theorem dX7_startAnew_155 : decode cX7_startAnew 155 = .ok (.iload_n 2, 1) := by decide +kernel
theorem dX7_startAnew_156 : decode cX7_startAnew 156 = .ok (.iconst 1, 1) := by decide +kernel
theorem dX7_startAnew_157 : decode cX7_startAnew 157 = .ok (.iload_n 1, 1) := by decide +kernel
theorem dX7_startAnew_158 : decode cX7_startAnew 158 = .ok (.ishl, 1) := by decide +kernel
theorem dX7_startAnew_159 : decode cX7_startAnew 159 = .ok (.ior, 1) := by decide +kernel
theorem dX7_startAnew_160 : decode cX7_startAnew 160 = .ok (.aload_n 0, 1) := by decide +kernel
theorem dX7_startAnew_161 : decode cX7_startAnew 161 = .ok (.getfield 26, 3) := by decide +kernel
theorem dX7_startAnew_164 : decode cX7_startAnew 164 = .ok (.iload_n 2, 1) := by decide +kernel
theorem dX7_startAnew_165 : decode cX7_startAnew 165 = .ok (.iaload, 1) := by decide +kernel
theorem dX7_startAnew_166 : decode cX7_startAnew 166 = .ok (.aload_n 0, 1) := by decide +kernel
theorem dX7_startAnew_167 : decode cX7_startAnew 167 = .ok (.getfield 41, 3) := by decide +kernel
theorem dX7_startAnew_170 : decode cX7_startAnew 170 = .ok (.getfield 87, 3) := by decide +kernel
theorem dX7_startAnew_173 : decode cX7_startAnew 173 = .ok (.iload_n 1, 1) := by decide +kernel
theorem dX7_startAnew_174 : decode cX7_startAnew 174 = .ok (.iaload, 1) := by decide +kernel
theorem dX7_startAnew_175 : decode cX7_startAnew 175 = .ok (.iadd, 1) := by decide +kernel
theorem dX7_startAnew_176 : decode cX7_startAnew 176 = .ok (.iastore, 1) := by decide +kernel
theorem dX7_startAnew_177 : decode cX7_startAnew 177 = .ok (.iinc 2 1, 3) := by decide +kernel
theorem dX7_startAnew_180 : decode cX7_startAnew 180 = .ok (.goto (-36), 3) := by decide +kernel
theorem dX7_startAnew_183 : decode cX7_startAnew 183 = .ok (.iinc 1 1, 3) := by decide +kernel
theorem dX7_startAnew_186 : decode cX7_startAnew 186 = .ok (.goto (-108), 3) := by decide +kernel
theorem dX7_startAnew_189 : decode cX7_startAnew 189 = .ok (.return_, 1) := by decide +kernel
set_option maxRecDepth 20000 in
theorem ggX7_nearestFilling_J7_fill_53178 : GoodIn wsX7_nearestFilling wsJ7_fill_53178 := goodIn_r _ [12] (by decide +kernel) (by decide +kernel)
set_option maxRecDepth 20000 in
theorem gX7_nearestFilling_J7_fill_53178 : GoodIn wsX7_nearestFilling (va_wsS RX7 90 yJ7_fill_53178 wsJ7_fill_53178) := goodIn_app (goodIn_of _ (by decide +kernel)) ggX7_nearestFilling_J7_fill_53178
set_option maxRecDepth 20000 in
theorem ggX7_nearestFilling_X6_nearHall : GoodIn wsX7_nearestFilling wsX6_nearHall := goodIn_r _ [17, 18, 19, 20, 21, 22, 23, 24, 25, 26, 27, 28, 29, 30, 31, 16, 32, 33, 54, 55, 56, 57, 58, 44, 45, 46, 47, 48, 49, 50, 51, 52, 53] (by decide +kernel) (by decide +kernel)
set_option maxRecDepth 20000 in
theorem gX7_nearestFilling_X6_nearHall : GoodIn wsX7_nearestFilling (wsV RX7 93 RX6 yX6_nearHall wsX6_nearHall) := goodIn_app (goodIn_of _ (by decide +kernel)) ggX7_nearestFilling_X6_nearHall
theorem dX7_nearestFilling_0 : decode cX7_nearestFilling 0 = .ok (.lconst 0, 1) := by decide +kernel
theorem dX7_nearestFilling_1 : decode cX7_nearestFilling 1 = .ok (.lstore_n 2, 1) := by decide +kernel
theorem dX7_nearestFilling_2 : decode cX7_nearestFilling 2 = .ok (.aload_n 0, 1) := by decide +kernel
theorem dX7_nearestFilling_3 : decode cX7_nearestFilling 3 = .ok (.getfield 30, 3) := by decide +kernel
theorem dX7_nearestFilling_6 : decode cX7_nearestFilling 6 = .ok (.iconst 0, 1) := by decide +kernel
theorem dX7_nearestFilling_7 : decode cX7_nearestFilling 7 = .ok (.invokestatic 90, 3) := by decide +kernel
theorem dX7_nearestFilling_10 : decode cX7_nearestFilling 10 = .ok (.iconst 0, 1) := by decide +kernel
theorem dX7_nearestFilling_11 : decode cX7_nearestFilling 11 = .ok (.istore 4, 2) := by decide +kernel
theorem dX7_nearestFilling_13 : decode cX7_nearestFilling 13 = .ok (.iload 4, 2) := by decide +kernel
theorem dX7_nearestFilling_15 : decode cX7_nearestFilling 15 = .ok (.aload_n 0, 1) := by decide +kernel
theorem dX7_nearestFilling_16 : decode cX7_nearestFilling 16 = .ok (.getfield 41, 3) := by decide +kernel
theorem dX7_nearestFilling_19 : decode cX7_nearestFilling 19 = .ok (.getfield 75, 3) := by decide +kernel
theorem dX7_nearestFilling_22 : decode cX7_nearestFilling 22 = .ok (.if_icmp .ge 98, 3) := by decide +kernel
theorem dX7_nearestFilling_25 : decode cX7_nearestFilling 25 = .ok (.aload_n 0, 1) := by decide +kernel
theorem dX7_nearestFilling_26 : decode cX7_nearestFilling 26 = .ok (.getfield 45, 3) := by decide +kernel
theorem dX7_nearestFilling_29 : decode cX7_nearestFilling 29 = .ok (.iload_n 1, 1) := by decide +kernel
theorem dX7_nearestFilling_30 : decode cX7_nearestFilling 30 = .ok (.iload 4, 2) := by decide +kernel
theorem dX7_nearestFilling_32 : decode cX7_nearestFilling 32 = .ok (.invokevirtual 93, 3) := by decide +kernel
theorem dX7_nearestFilling_35 : decode cX7_nearestFilling 35 = .ok (.istore 5, 2) := by decide +kernel
theorem dX7_nearestFilling_37 : decode cX7_nearestFilling 37 = .ok (.iload 5, 2) := by decide +kernel
theorem dX7_nearestFilling_39 : decode cX7_nearestFilling 39 = .ok (.iconst (-1), 1) := by decide +kernel
theorem dX7_nearestFilling_40 : decode cX7_nearestFilling 40 = .ok (.if_icmp .eq 34, 3) := by decide +kernel
theorem dX7_nearestFilling_43 : decode cX7_nearestFilling 43 = .ok (.aload_n 0, 1) := by decide +kernel
theorem dX7_nearestFilling_44 : decode cX7_nearestFilling 44 = .ok (.getfield 30, 3) := by decide +kernel
theorem dX7_nearestFilling_47 : decode cX7_nearestFilling 47 = .ok (.iload 5, 2) := by decide +kernel
theorem dX7_nearestFilling_49 : decode cX7_nearestFilling 49 = .ok (.iaload, 1) := by decide +kernel
theorem dX7_nearestFilling_50 : decode cX7_nearestFilling 50 = .ok (.aload_n 0, 1) := by decide +kernel
theorem dX7_nearestFilling_51 : decode cX7_nearestFilling 51 = .ok (.getfield 41, 3) := by decide +kernel
theorem dX7_nearestFilling_54 : decode cX7_nearestFilling 54 = .ok (.getfield 87, 3) := by decide +kernel
theorem dX7_nearestFilling_57 : decode cX7_nearestFilling 57 = .ok (.iload 4, 2) := by decide +kernel
theorem dX7_nearestFilling_59 : decode cX7_nearestFilling 59 = .ok (.iaload, 1) := by decide +kernel
theorem dX7_nearestFilling_60 : decode cX7_nearestFilling 60 = .ok (.iadd, 1) := by decide +kernel
theorem dX7_nearestFilling_61 : decode cX7_nearestFilling 61 = .ok (.aload_n 0, 1) := by decide +kernel
theorem dX7_nearestFilling_62 : decode cX7_nearestFilling 62 = .ok (.getfield 41, 3) := by decide +kernel
theorem dX7_nearestFilling_65 : decode cX7_nearestFilling 65 = .ok (.getfield 98, 3) := by decide +kernel
theorem dX7_nearestFilling_68 : decode cX7_nearestFilling 68 = .ok (.iload 5, 2) := by decide +kernel
theorem dX7_nearestFilling_70 : decode cX7_nearestFilling 70 = .ok (.iaload, 1) := by decide +kernel
theorem dX7_nearestFilling_71 : decode cX7_nearestFilling 71 = .ok (.if_icmp .le 7, 3) := by decide +kernel
theorem dX7_nearestFilling_74 : decode cX7_nearestFilling 74 = .ok (.ldc2_w 60, 3) := by decide +kernel
theorem dX7_nearestFilling_77 : decode cX7_nearestFilling 77 = .ok (.lreturn, 1) := by decide +kernel
theorem dX7_nearestFilling_78 : decode cX7_nearestFilling 78 = .ok (.aload_n 0, 1) := by decide +kernel
theorem dX7_nearestFilling_79 : decode cX7_nearestFilling 79 = .ok (.getfield 30, 3) := by decide +kernel
theorem dX7_nearestFilling_82 : decode cX7_nearestFilling 82 = .ok (.iload 5, 2) := by decide +kernel
theorem dX7_nearestFilling_84 : decode cX7_nearestFilling 84 = .ok (.dup2, 1) := by decide +kernel
theorem dX7_nearestFilling_85 : decode cX7_nearestFilling 85 = .ok (.iaload, 1) := by decide +kernel
theorem dX7_nearestFilling_86 : decode cX7_nearestFilling 86 = .ok (.aload_n 0, 1) := by decide +kernel
theorem dX7_nearestFilling_87 : decode cX7_nearestFilling 87 = .ok (.getfield 41, 3) := by decide +kernel
theorem dX7_nearestFilling_90 : decode cX7_nearestFilling 90 = .ok (.getfield 87, 3) := by decide +kernel
theorem dX7_nearestFilling_93 : decode cX7_nearestFilling 93 = .ok (.iload 4, 2) := by decide +kernel
theorem dX7_nearestFilling_95 : decode cX7_nearestFilling 95 = .ok (.iaload, 1) := by decide +kernel
theorem dX7_nearestFilling_96 : decode cX7_nearestFilling 96 = .ok (.iadd, 1) := by decide +kernel
theorem dX7_nearestFilling_97 : decode cX7_nearestFilling 97 = .ok (.iastore, 1) := by decide +kernel
theorem dX7_nearestFilling_98 : decode cX7_nearestFilling 98 = .ok (.lload_n 2, 1) := by decide +kernel
theorem dX7_nearestFilling_99 : decode cX7_nearestFilling 99 = .ok (.aload_n 0, 1) := by decide +kernel
theorem dX7_nearestFilling_100 : decode cX7_nearestFilling 100 = .ok (.getfield 20, 3) := by decide +kernel
theorem dX7_nearestFilling_103 : decode cX7_nearestFilling 103 = .ok (.iload 5, 2) := by decide +kernel
theorem dX7_nearestFilling_105 : decode cX7_nearestFilling 105 = .ok (.bipush 8, 2) := by decide +kernel
theorem dX7_nearestFilling_107 : decode cX7_nearestFilling 107 = .ok (.imul, 1) := by decide +kernel
theorem dX7_nearestFilling_108 : decode cX7_nearestFilling 108 = .ok (.iload 4, 2) := by decide +kernel
theorem dX7_nearestFilling_110 : decode cX7_nearestFilling 110 = .ok (.iadd, 1) := by decide +kernel
theorem dX7_nearestFilling_111 : decode cX7_nearestFilling 111 = .ok (.laload, 1) := by decide +kernel
theorem dX7_nearestFilling_112 : decode cX7_nearestFilling 112 = .ok (.ladd, 1) := by decide +kernel
theorem dX7_nearestFilling_113 : decode cX7_nearestFilling 113 = .ok (.lstore_n 2, 1) := by decide +kernel
theorem dX7_nearestFilling_114 : decode cX7_nearestFilling 114 = .ok (.iinc 4 1, 3) := by decide +kernel
theorem dX7_nearestFilling_117 : decode cX7_nearestFilling 117 = .ok (.goto (-104), 3) := by decide +kernel
theorem dX7_nearestFilling_120 : decode cX7_nearestFilling 120 = .ok (.lload_n 2, 1) := by decide +kernel
theorem dX7_nearestFilling_121 : decode cX7_nearestFilling 121 = .ok (.lreturn, 1) := by decide +kernel
set_option maxRecDepth 20000 in
theorem ggX8_init_X5_init : GoodIn wsX8_init wsX5_init := goodIn_r _ [37, 38, 2, 3, 39, 40, 41, 42, 43, 44, 45, 46, 47, 109, 110, 111, 112, 113, 114, 115, 116, 117, 118] (by decide +kernel) (by decide +kernel)
set_option maxRecDepth 20000 in
theorem gX8_init_X5_init_n11 : GoodIn wsX8_init (wsX5_init) := ggX8_init_X5_init
set_option maxRecDepth 20000 in
theorem ggX8_init_X4_init : GoodIn wsX8_init wsX4_init := goodIn_r _ [50, 51, 2, 3, 52, 53, 5, 6, 36, 37, 38, 39, 40, 41, 42, 43, 44, 45, 46, 47, 128, 129, 109, 110, 111, 112, 113, 114, 115, 116, 117, 118] (by decide +kernel) (by decide +kernel)
set_option maxRecDepth 20000 in
theorem gX8_init_X4_init : GoodIn wsX8_init (wsX4_init) := ggX8_init_X4_init
set_option maxRecDepth 20000 in
theorem ggX8_init_X6_init : GoodIn wsX8_init wsX6_init := goodIn_r _ [56, 57, 2, 3, 39, 58, 59, 60, 61, 62, 130, 131, 132, 133, 134] (by decide +kernel) (by decide +kernel)
set_option maxRecDepth 20000 in
theorem gX8_init_X6_init : GoodIn wsX8_init (wsX6_init) := ggX8_init_X6_init
set_option maxRecDepth 20000 in
theorem ggX8_init_X7_init : GoodIn wsX8_init wsX7_init := goodIn_r _ [65, 66, 2, 3, 67, 68, 69, 70, 71, 72, 39, 73, 74, 75, 76, 77, 78, 135, 136, 137, 138, 139, 140, 141, 142, 143, 144] (by decide +kernel) (by decide +kernel)
set_option maxRecDepth 20000 in
theorem gX8_init_X7_init : GoodIn wsX8_init (wsX7_init) := ggX8_init_X7_init
set_option maxRecDepth 20000 in
theorem ggX8_init_X1_init : GoodIn wsX8_init wsX1_init := goodIn_r _ [81, 82, 2, 3, 39, 83, 84, 85, 86, 145, 146, 147, 148, 149] (by decide +kernel) (by decide +kernel)
set_option maxRecDepth 20000 in
theorem gX8_init_X1_init : GoodIn wsX8_init (wsX1_init) := ggX8_init_X1_init
set_option maxRecDepth 20000 in
theorem ggX8_init_X0_init : GoodIn wsX8_init wsX0_init := goodIn_r _ [89, 90, 2, 3, 39, 91, 92, 93, 150, 151, 152] (by decide +kernel) (by decide +kernel)
set_option maxRecDepth 20000 in
theorem gX8_init_X0_init : GoodIn wsX8_init (wsX0_init) := ggX8_init_X0_init
set_option maxRecDepth 20000 in
theorem ggX8_init_X2_init : GoodIn wsX8_init wsX2_init := goodIn_r _ [96, 97, 2, 3, 39, 98, 99, 100, 101, 102, 153, 154, 155, 156, 157] (by decide +kernel) (by decide +kernel)
set_option maxRecDepth 20000 in
theorem gX8_init_X2_init : GoodIn wsX8_init (wsX2_init) := ggX8_init_X2_init
set_option maxRecDepth 20000 in
theorem ggX8_init_X3_init : GoodIn wsX8_init wsX3_init := goodIn_r _ [105, 106, 2, 3, 39, 107, 108, 158, 159, 160, 161, 162] (by decide +kernel) (by decide +kernel)
set_option maxRecDepth 20000 in
theorem gX8_init_X3_init : GoodIn wsX8_init (wsX3_init) := ggX8_init_X3_init
theorem dX8_init_0 : decode cX8_init 0 = .ok (.aload_n 0, 1) := by decide +kernel
theorem dX8_init_1 : decode cX8_init 1 = .ok (.invokespecial 3, 3) := by decide +kernel
theorem dX8_init_4 : decode cX8_init 4 = .ok (.aload_n 0, 1) := by decide +kernel
theorem dX8_init_5 : decode cX8_init 5 = .ok (.new 9, 3) := by decide +kernel
theorem dX8_init_8 : decode cX8_init 8 = .ok (.dup, 1) := by decide +kernel
theorem dX8_init_9 : decode cX8_init 9 = .ok (.invokespecial 11, 3) := by decide +kernel
theorem dX8_init_12 : decode cX8_init 12 = .ok (.putfield 12, 3) := by decide +kernel
theorem dX8_init_15 : decode cX8_init 15 = .ok (.aload_n 0, 1) := by decide +kernel
theorem dX8_init_16 : decode cX8_init 16 = .ok (.new 16, 3) := by decide +kernel
theorem dX8_init_19 : decode cX8_init 19 = .ok (.dup, 1) := by decide +kernel
theorem dX8_init_20 : decode cX8_init 20 = .ok (.invokespecial 18, 3) := by decide +kernel
theorem dX8_init_23 : decode cX8_init 23 = .ok (.putfield 19, 3) := by decide +kernel
theorem dX8_init_26 : decode cX8_init 26 = .ok (.aload_n 0, 1) := by decide +kernel
theorem dX8_init_27 : decode cX8_init 27 = .ok (.new 23, 3) := by decide +kernel
theorem dX8_init_30 : decode cX8_init 30 = .ok (.dup, 1) := by decide +kernel
theorem dX8_init_31 : decode cX8_init 31 = .ok (.aload_n 0, 1) := by decide +kernel
theorem dX8_init_32 : decode cX8_init 32 = .ok (.getfield 12, 3) := by decide +kernel
theorem dX8_init_35 : decode cX8_init 35 = .ok (.invokespecial 25, 3) := by decide +kernel
theorem dX8_init_38 : decode cX8_init 38 = .ok (.putfield 28, 3) := by decide +kernel
theorem dX8_init_41 : decode cX8_init 41 = .ok (.aload_n 0, 1) := by decide +kernel
theorem dX8_init_42 : decode cX8_init 42 = .ok (.new 32, 3) := by decide +kernel
theorem dX8_init_45 : decode cX8_init 45 = .ok (.dup, 1) := by decide +kernel
theorem dX8_init_46 : decode cX8_init 46 = .ok (.aload_n 0, 1) := by decide +kernel
theorem dX8_init_47 : decode cX8_init 47 = .ok (.getfield 12, 3) := by decide +kernel
theorem dX8_init_50 : decode cX8_init 50 = .ok (.aload_n 0, 1) := by decide +kernel
theorem dX8_init_51 : decode cX8_init 51 = .ok (.getfield 28, 3) := by decide +kernel
theorem dX8_init_54 : decode cX8_init 54 = .ok (.invokespecial 34, 3) := by decide +kernel
theorem dX8_init_57 : decode cX8_init 57 = .ok (.putfield 37, 3) := by decide +kernel
theorem dX8_init_60 : decode cX8_init 60 = .ok (.aload_n 0, 1) := by decide +kernel
theorem dX8_init_61 : decode cX8_init 61 = .ok (.new 41, 3) := by decide +kernel
theorem dX8_init_64 : decode cX8_init 64 = .ok (.dup, 1) := by decide +kernel
theorem dX8_init_65 : decode cX8_init 65 = .ok (.aload_n 0, 1) := by decide +kernel
theorem dX8_init_66 : decode cX8_init 66 = .ok (.getfield 12, 3) := by decide +kernel
theorem dX8_init_69 : decode cX8_init 69 = .ok (.aload_n 0, 1) := by decide +kernel
theorem dX8_init_70 : decode cX8_init 70 = .ok (.getfield 28, 3) := by decide +kernel
theorem dX8_init_73 : decode cX8_init 73 = .ok (.aload_n 0, 1) := by decide +kernel
theorem dX8_init_74 : decode cX8_init 74 = .ok (.getfield 37, 3) := by decide +kernel
theorem dX8_init_77 : decode cX8_init 77 = .ok (.invokespecial 43, 3) := by decide +kernel
theorem dX8_init_80 : decode cX8_init 80 = .ok (.putfield 46, 3) := by decide +kernel
theorem dX8_init_83 : decode cX8_init 83 = .ok (.aload_n 0, 1) := by decide +kernel
theorem dX8_init_84 : decode cX8_init 84 = .ok (.new 50, 3) := by decide +kernel
theorem dX8_init_87 : decode cX8_init 87 = .ok (.dup, 1) := by decide +kernel
theorem dX8_init_88 : decode cX8_init 88 = .ok (.aload_n 0, 1) := by decide +kernel
theorem dX8_init_89 : decode cX8_init 89 = .ok (.getfield 12, 3) := by decide +kernel
theorem dX8_init_92 : decode cX8_init 92 = .ok (.invokespecial 52, 3) := by decide +kernel
theorem dX8_init_95 : decode cX8_init 95 = .ok (.putfield 53, 3) := by decide +kernel
theorem dX8_init_98 : decode cX8_init 98 = .ok (.aload_n 0, 1) := by decide +kernel
theorem dX8_init_99 : decode cX8_init 99 = .ok (.new 57, 3) := by decide +kernel
theorem dX8_init_102 : decode cX8_init 102 = .ok (.dup, 1) := by decide +kernel
theorem dX8_init_103 : decode cX8_init 103 = .ok (.aload_n 0, 1) := by decide +kernel
theorem dX8_init_104 : decode cX8_init 104 = .ok (.getfield 12, 3) := by decide +kernel
theorem dX8_init_107 : decode cX8_init 107 = .ok (.aload_n 0, 1) := by decide +kernel
theorem dX8_init_108 : decode cX8_init 108 = .ok (.getfield 28, 3) := by decide +kernel
theorem dX8_init_111 : decode cX8_init 111 = .ok (.invokespecial 59, 3) := by decide +kernel
theorem dX8_init_114 : decode cX8_init 114 = .ok (.putfield 60, 3) := by decide +kernel
theorem dX8_init_117 : decode cX8_init 117 = .ok (.aload_n 0, 1) := by decide +kernel
theorem dX8_init_118 : decode cX8_init 118 = .ok (.new 64, 3) := by decide +kernel
theorem dX8_init_121 : decode cX8_init 121 = .ok (.dup, 1) := by decide +kernel
theorem dX8_init_122 : decode cX8_init 122 = .ok (.aload_n 0, 1) := by decide +kernel
theorem dX8_init_123 : decode cX8_init 123 = .ok (.getfield 12, 3) := by decide +kernel
theorem dX8_init_126 : decode cX8_init 126 = .ok (.invokespecial 66, 3) := by decide +kernel
theorem dX8_init_129 : decode cX8_init 129 = .ok (.putfield 67, 3) := by decide +kernel
theorem dX8_init_132 : decode cX8_init 132 = .ok (.return_, 1) := by decide +kernel
set_option maxRecDepth 20000 in
theorem ggX8_town_X8_keepForUndo : GoodIn wsX8_town wsX8_keepForUndo := goodIn_r _ [7, 8, 1, 9, 10, 11, 12, 13, 14, 15, 16, 17, 18, 19, 20, 21, 22, 23, 24, 25, 26, 27, 28, 29, 30, 31, 32, 33, 34, 35, 36, 37, 38, 39, 40, 41, 6, 42, 43, 44, 45, 46, 47, 48, 49, 50, 51, 52, 53, 54, 55, 56, 57, 58, 59, 60, 61, 62, 63, 68, 69, 70, 71, 72, 73, 74, 75, 76, 87, 88, 77, 78, 79, 80, 81, 82, 83, 84, 85, 86, 89, 90, 91, 92, 93, 94, 95, 96, 97, 98, 99, 100, 101, 102, 103, 104, 105, 106, 107, 108] (by decide +kernel) (by decide +kernel)
set_option maxRecDepth 20000 in
theorem gX8_town_X8_keepForUndo : GoodIn wsX8_town (wsV RX8 75 RX8 yX8_keepForUndo wsX8_keepForUndo) := goodIn_app (goodIn_of _ (by decide +kernel)) ggX8_town_X8_keepForUndo
set_option maxRecDepth 20000 in
theorem ggX8_town_X5_addTown : GoodIn wsX8_town wsX5_addTown := goodIn_r _ [67, 25, 27, 32, 33, 77, 78, 79, 80, 81, 82, 83, 84, 85, 86] (by decide +kernel) (by decide +kernel)
set_option maxRecDepth 20000 in
theorem gX8_town_X5_addTown : GoodIn wsX8_town (wsV RX8 78 RX5 yX5_addTown wsX5_addTown) := goodIn_app (goodIn_of _ (by decide +kernel)) ggX8_town_X5_addTown
theorem dX8_town_0 : decode cX8_town 0 = .ok (.aload_n 0, 1) := by decide +kernel
theorem dX8_town_1 : decode cX8_town 1 = .ok (.getfield 12, 3) := by decide +kernel
theorem dX8_town_4 : decode cX8_town 4 = .ok (.getfield 71, 3) := by decide +kernel
theorem dX8_town_7 : decode cX8_town 7 = .ok (.bipush 8, 2) := by decide +kernel
theorem dX8_town_9 : decode cX8_town 9 = .ok (.if_icmp .lt 6, 3) := by decide +kernel
theorem dX8_town_12 : decode cX8_town 12 = .ok (.bipush (-5), 2) := by decide +kernel
theorem dX8_town_14 : decode cX8_town 14 = .ok (.ireturn, 1) := by decide +kernel
theorem dX8_town_15 : decode cX8_town 15 = .ok (.aload_n 0, 1) := by decide +kernel
theorem dX8_town_16 : decode cX8_town 16 = .ok (.invokevirtual 75, 3) := by decide +kernel
theorem dX8_town_19 : decode cX8_town 19 = .ok (.aload_n 0, 1) := by decide +kernel
theorem dX8_town_20 : decode cX8_town 20 = .ok (.getfield 12, 3) := by decide +kernel
theorem dX8_town_23 : decode cX8_town 23 = .ok (.invokevirtual 78, 3) := by decide +kernel
theorem dX8_town_26 : decode cX8_town 26 = .ok (.ireturn, 1) := by decide +kernel
set_option maxRecDepth 20000 in
theorem ggX8_hall_X8_keepForUndo : GoodIn wsX8_hall wsX8_keepForUndo := goodIn_r _ [7, 8, 1, 9, 10, 11, 12, 13, 14, 15, 16, 17, 18, 19, 20, 21, 22, 23, 24, 25, 26, 27, 28, 29, 30, 31, 32, 33, 34, 35, 36, 37, 38, 39, 40, 41, 6, 42, 43, 44, 45, 46, 47, 48, 49, 50, 51, 52, 53, 54, 55, 56, 57, 58, 59, 60, 61, 62, 63, 73, 74, 75, 76, 77, 78, 79, 80, 81, 92, 93, 82, 83, 84, 85, 86, 87, 88, 89, 90, 91, 94, 95, 96, 97, 98, 99, 100, 101, 102, 103, 104, 105, 106, 107, 108, 109, 110, 111, 112, 113] (by decide +kernel) (by decide +kernel)
set_option maxRecDepth 20000 in
theorem gX8_hall_X8_keepForUndo : GoodIn wsX8_hall (wsV RX8 75 RX8 yX8_keepForUndo wsX8_keepForUndo) := goodIn_app (goodIn_of _ (by decide +kernel)) ggX8_hall_X8_keepForUndo
set_option maxRecDepth 20000 in
theorem ggX8_hall_X5_addHall : GoodIn wsX8_hall wsX5_addHall := goodIn_r _ [67, 26, 34, 35, 68, 69, 70, 23, 71, 36, 37, 38, 72, 82, 83, 84, 85, 86, 87, 88, 89, 90, 91] (by decide +kernel) (by decide +kernel)
set_option maxRecDepth 20000 in
theorem gX8_hall_X5_addHall : GoodIn wsX8_hall (wsV RX8 85 RX5 yX5_addHall wsX5_addHall) := goodIn_app (goodIn_of _ (by decide +kernel)) ggX8_hall_X5_addHall
theorem dX8_hall_0 : decode cX8_hall 0 = .ok (.aload_n 0, 1) := by decide +kernel
theorem dX8_hall_1 : decode cX8_hall 1 = .ok (.getfield 12, 3) := by decide +kernel
theorem dX8_hall_4 : decode cX8_hall 4 = .ok (.getfield 82, 3) := by decide +kernel
theorem dX8_hall_7 : decode cX8_hall 7 = .ok (.bipush 7, 2) := by decide +kernel
theorem dX8_hall_9 : decode cX8_hall 9 = .ok (.if_icmp .lt 6, 3) := by decide +kernel
theorem dX8_hall_12 : decode cX8_hall 12 = .ok (.bipush (-5), 2) := by decide +kernel
theorem dX8_hall_14 : decode cX8_hall 14 = .ok (.ireturn, 1) := by decide +kernel
theorem dX8_hall_15 : decode cX8_hall 15 = .ok (.aload_n 0, 1) := by decide +kernel
theorem dX8_hall_16 : decode cX8_hall 16 = .ok (.invokevirtual 75, 3) := by decide +kernel
theorem dX8_hall_19 : decode cX8_hall 19 = .ok (.aload_n 0, 1) := by decide +kernel
theorem dX8_hall_20 : decode cX8_hall 20 = .ok (.getfield 12, 3) := by decide +kernel
theorem dX8_hall_23 : decode cX8_hall 23 = .ok (.invokevirtual 85, 3) := by decide +kernel
theorem dX8_hall_26 : decode cX8_hall 26 = .ok (.ireturn, 1) := by decide +kernel
set_option maxRecDepth 20000 in
theorem ggX8_people_X5_hasTown : GoodIn wsX8_people wsX5_hasTown := goodIn_r _ [7, 8, 84, 85, 86, 87, 88, 89, 90, 91, 92, 93] (by decide +kernel) (by decide +kernel)
set_option maxRecDepth 20000 in
theorem gX8_people_X5_hasTown : GoodIn wsX8_people (wsV RX8 88 RX5 yX5_hasTown wsX5_hasTown) := goodIn_app (goodIn_of _ (by decide +kernel)) ggX8_people_X5_hasTown
set_option maxRecDepth 20000 in
theorem ggX8_people_X8_within : GoodIn wsX8_people wsX8_within := goodIn_r _ [12] (by decide +kernel) (by decide +kernel)
set_option maxRecDepth 20000 in
theorem gX8_people_X8_within : GoodIn wsX8_people (va_wsS RX8 92 yX8_within wsX8_within) := goodIn_app (goodIn_of _ (by decide +kernel)) ggX8_people_X8_within
set_option maxRecDepth 20000 in
theorem ggX8_people_X8_change : GoodIn wsX8_people wsX8_change := goodIn_r _ [16, 17, 18, 19, 11, 20, 21, 1, 22, 23, 24, 25, 26, 27, 28, 29, 30, 31, 32, 33, 34, 35, 6, 36, 8, 37, 38, 39, 40, 41, 42, 43, 44, 45, 46, 47, 48, 49, 50, 51, 52, 53, 54, 55, 56, 57, 58, 59, 60, 61, 62, 63, 64, 65, 66, 67, 68, 69, 70, 71, 72, 73, 74, 75, 76, 77, 78, 79, 80, 81, 82, 83, 94, 95, 84, 85, 86, 87, 88, 89, 90, 91, 92, 93, 96, 97, 98, 99, 100, 101, 102, 103, 104, 105, 106, 107, 108, 109, 110, 111, 112, 113, 114, 115] (by decide +kernel) (by decide +kernel)
set_option maxRecDepth 20000 in
theorem gX8_people_X8_change : GoodIn wsX8_people (wsV RX8 100 RX8 yX8_change wsX8_change) := goodIn_app (goodIn_of _ (by decide +kernel)) ggX8_people_X8_change
theorem dX8_people_0 : decode cX8_people 0 = .ok (.aload_n 0, 1) := by decide +kernel
theorem dX8_people_1 : decode cX8_people 1 = .ok (.getfield 12, 3) := by decide +kernel
theorem dX8_people_4 : decode cX8_people 4 = .ok (.iload_n 1, 1) := by decide +kernel
theorem dX8_people_5 : decode cX8_people 5 = .ok (.invokevirtual 88, 3) := by decide +kernel
theorem dX8_people_8 : decode cX8_people 8 = .ok (.ifCond .eq 13, 3) := by decide +kernel
theorem dX8_people_11 : decode cX8_people 11 = .ok (.iload_n 2, 1) := by decide +kernel
theorem dX8_people_12 : decode cX8_people 12 = .ok (.iconst 1, 1) := by decide +kernel
theorem dX8_people_13 : decode cX8_people 13 = .ok (.bipush 20, 2) := by decide +kernel
theorem dX8_people_15 : decode cX8_people 15 = .ok (.invokestatic 92, 3) := by decide +kernel
theorem dX8_people_18 : decode cX8_people 18 = .ok (.ifCond .ne 6, 3) := by decide +kernel
theorem dX8_people_21 : decode cX8_people 21 = .ok (.bipush (-3), 2) := by decide +kernel
theorem dX8_people_23 : decode cX8_people 23 = .ok (.ireturn, 1) := by decide +kernel
theorem dX8_people_24 : decode cX8_people 24 = .ok (.aload_n 0, 1) := by decide +kernel
theorem dX8_people_25 : decode cX8_people 25 = .ok (.aload_n 0, 1) := by decide +kernel
theorem dX8_people_26 : decode cX8_people 26 = .ok (.getfield 12, 3) := by decide +kernel
theorem dX8_people_29 : decode cX8_people 29 = .ok (.getfield 96, 3) := by decide +kernel
theorem dX8_people_32 : decode cX8_people 32 = .ok (.iload_n 1, 1) := by decide +kernel
theorem dX8_people_33 : decode cX8_people 33 = .ok (.iload_n 2, 1) := by decide +kernel
theorem dX8_people_34 : decode cX8_people 34 = .ok (.invokevirtual 100, 3) := by decide +kernel
theorem dX8_people_37 : decode cX8_people 37 = .ok (.ireturn, 1) := by decide +kernel
set_option maxRecDepth 20000 in
theorem ggX8_fine_X5_hasTown : GoodIn wsX8_fine wsX5_hasTown := goodIn_r _ [8, 9, 85, 86, 87, 88, 89, 90, 91, 92, 93, 94] (by decide +kernel) (by decide +kernel)
set_option maxRecDepth 20000 in
theorem gX8_fine_X5_hasTown : GoodIn wsX8_fine (wsV RX8 88 RX5 yX5_hasTown wsX5_hasTown) := goodIn_app (goodIn_of _ (by decide +kernel)) ggX8_fine_X5_hasTown
set_option maxRecDepth 20000 in
theorem ggX8_fine_X8_within : GoodIn wsX8_fine wsX8_within := goodIn_r _ [13] (by decide +kernel) (by decide +kernel)
set_option maxRecDepth 20000 in
theorem gX8_fine_X8_within : GoodIn wsX8_fine (va_wsS RX8 92 yX8_within wsX8_within) := goodIn_app (goodIn_of _ (by decide +kernel)) ggX8_fine_X8_within
set_option maxRecDepth 20000 in
theorem ggX8_fine_X8_change : GoodIn wsX8_fine wsX8_change := goodIn_r _ [17, 18, 19, 20, 12, 21, 22, 1, 23, 24, 25, 26, 27, 28, 29, 30, 31, 32, 33, 34, 35, 36, 7, 37, 9, 38, 39, 40, 41, 42, 43, 44, 45, 46, 47, 48, 49, 50, 51, 52, 53, 54, 55, 56, 57, 58, 59, 60, 61, 62, 63, 64, 65, 66, 67, 68, 69, 70, 71, 72, 73, 74, 75, 76, 77, 78, 79, 80, 81, 82, 83, 84, 95, 96, 85, 86, 87, 88, 89, 90, 91, 92, 93, 94, 97, 98, 99, 100, 101, 102, 103, 104, 105, 106, 107, 108, 109, 110, 111, 112, 113, 114, 115, 116] (by decide +kernel) (by decide +kernel)
set_option maxRecDepth 20000 in
theorem gX8_fine_X8_change : GoodIn wsX8_fine (wsV RX8 100 RX8 yX8_change wsX8_change) := goodIn_app (goodIn_of _ (by decide +kernel)) ggX8_fine_X8_change
theorem dX8_fine_0 : decode cX8_fine 0 = .ok (.aload_n 0, 1) := by decide +kernel
theorem dX8_fine_1 : decode cX8_fine 1 = .ok (.getfield 12, 3) := by decide +kernel
theorem dX8_fine_4 : decode cX8_fine 4 = .ok (.iload_n 1, 1) := by decide +kernel
theorem dX8_fine_5 : decode cX8_fine 5 = .ok (.invokevirtual 88, 3) := by decide +kernel
theorem dX8_fine_8 : decode cX8_fine 8 = .ok (.ifCond .eq 13, 3) := by decide +kernel
theorem dX8_fine_11 : decode cX8_fine 11 = .ok (.iload_n 2, 1) := by decide +kernel
theorem dX8_fine_12 : decode cX8_fine 12 = .ok (.iconst 0, 1) := by decide +kernel
theorem dX8_fine_13 : decode cX8_fine 13 = .ok (.ldc 104, 2) := by decide +kernel
theorem dX8_fine_15 : decode cX8_fine 15 = .ok (.invokestatic 92, 3) := by decide +kernel
theorem dX8_fine_18 : decode cX8_fine 18 = .ok (.ifCond .ne 6, 3) := by decide +kernel
theorem dX8_fine_21 : decode cX8_fine 21 = .ok (.bipush (-3), 2) := by decide +kernel
theorem dX8_fine_23 : decode cX8_fine 23 = .ok (.ireturn, 1) := by decide +kernel
theorem dX8_fine_24 : decode cX8_fine 24 = .ok (.aload_n 0, 1) := by decide +kernel
theorem dX8_fine_25 : decode cX8_fine 25 = .ok (.aload_n 0, 1) := by decide +kernel
theorem dX8_fine_26 : decode cX8_fine 26 = .ok (.getfield 12, 3) := by decide +kernel
theorem dX8_fine_29 : decode cX8_fine 29 = .ok (.getfield 105, 3) := by decide +kernel
theorem dX8_fine_32 : decode cX8_fine 32 = .ok (.iload_n 1, 1) := by decide +kernel
theorem dX8_fine_33 : decode cX8_fine 33 = .ok (.iload_n 2, 1) := by decide +kernel
theorem dX8_fine_34 : decode cX8_fine 34 = .ok (.invokevirtual 100, 3) := by decide +kernel
theorem dX8_fine_37 : decode cX8_fine 37 = .ok (.ireturn, 1) := by decide +kernel
set_option maxRecDepth 20000 in
theorem ggX8_place_X5_hasTown : GoodIn wsX8_place wsX5_hasTown := goodIn_r _ [7, 8, 84, 85, 86, 87, 88, 89, 90, 91, 92, 93] (by decide +kernel) (by decide +kernel)
set_option maxRecDepth 20000 in
theorem gX8_place_X5_hasTown : GoodIn wsX8_place (wsV RX8 88 RX5 yX5_hasTown wsX5_hasTown) := goodIn_app (goodIn_of _ (by decide +kernel)) ggX8_place_X5_hasTown
set_option maxRecDepth 20000 in
theorem ggX8_place_X8_within : GoodIn wsX8_place wsX8_within := goodIn_r _ [12] (by decide +kernel) (by decide +kernel)
set_option maxRecDepth 20000 in
theorem gX8_place_X8_within : GoodIn wsX8_place (va_wsS RX8 92 yX8_within wsX8_within) := goodIn_app (goodIn_of _ (by decide +kernel)) ggX8_place_X8_within
set_option maxRecDepth 20000 in
theorem ggX8_place_X8_change : GoodIn wsX8_place wsX8_change := goodIn_r _ [16, 17, 18, 19, 11, 20, 21, 1, 22, 23, 24, 25, 26, 27, 28, 29, 30, 31, 32, 33, 34, 35, 6, 36, 8, 37, 38, 39, 40, 41, 42, 43, 44, 45, 46, 47, 48, 49, 50, 51, 52, 53, 54, 55, 56, 57, 58, 59, 60, 61, 62, 63, 64, 65, 66, 67, 68, 69, 70, 71, 72, 73, 74, 75, 76, 77, 78, 79, 80, 81, 82, 83, 94, 95, 84, 85, 86, 87, 88, 89, 90, 91, 92, 93, 96, 97, 98, 99, 100, 101, 102, 103, 104, 105, 106, 107, 108, 109, 110, 111, 112, 113, 114, 115] (by decide +kernel) (by decide +kernel)
set_option maxRecDepth 20000 in
theorem gX8_place_X8_change : GoodIn wsX8_place (wsV RX8 100 RX8 yX8_change wsX8_change) := goodIn_app (goodIn_of _ (by decide +kernel)) ggX8_place_X8_change
theorem dX8_place_0 : decode cX8_place 0 = .ok (.aload_n 0, 1) := by decide +kernel
theorem dX8_place_1 : decode cX8_place 1 = .ok (.getfield 12, 3) := by decide +kernel
theorem dX8_place_4 : decode cX8_place 4 = .ok (.iload_n 1, 1) := by decide +kernel
theorem dX8_place_5 : decode cX8_place 5 = .ok (.invokevirtual 88, 3) := by decide +kernel
theorem dX8_place_8 : decode cX8_place 8 = .ok (.ifCond .eq 16, 3) := by decide +kernel
theorem dX8_place_11 : decode cX8_place 11 = .ok (.iload_n 2, 1) := by decide +kernel
theorem dX8_place_12 : decode cX8_place 12 = .ok (.sipush (-1000), 3) := by decide +kernel
theorem dX8_place_15 : decode cX8_place 15 = .ok (.sipush 1000, 3) := by decide +kernel
theorem dX8_place_18 : decode cX8_place 18 = .ok (.invokestatic 92, 3) := by decide +kernel
theorem dX8_place_21 : decode cX8_place 21 = .ok (.ifCond .ne 6, 3) := by decide +kernel
theorem dX8_place_24 : decode cX8_place 24 = .ok (.bipush (-3), 2) := by decide +kernel
theorem dX8_place_26 : decode cX8_place 26 = .ok (.ireturn, 1) := by decide +kernel
theorem dX8_place_27 : decode cX8_place 27 = .ok (.aload_n 0, 1) := by decide +kernel
theorem dX8_place_28 : decode cX8_place 28 = .ok (.aload_n 0, 1) := by decide +kernel
theorem dX8_place_29 : decode cX8_place 29 = .ok (.getfield 12, 3) := by decide +kernel
theorem dX8_place_32 : decode cX8_place 32 = .ok (.getfield 108, 3) := by decide +kernel
theorem dX8_place_35 : decode cX8_place 35 = .ok (.iload_n 1, 1) := by decide +kernel
theorem dX8_place_36 : decode cX8_place 36 = .ok (.iload_n 2, 1) := by decide +kernel
theorem dX8_place_37 : decode cX8_place 37 = .ok (.invokevirtual 100, 3) := by decide +kernel
theorem dX8_place_40 : decode cX8_place 40 = .ok (.pop, 1) := by decide +kernel
theorem dX8_place_41 : decode cX8_place 41 = .ok (.iconst 0, 1) := by decide +kernel
theorem dX8_place_42 : decode cX8_place 42 = .ok (.ireturn, 1) := by decide +kernel
set_option maxRecDepth 20000 in
theorem ggX8_price_X5_hasHall : GoodIn wsX8_price wsX5_hasHall := goodIn_r _ [8, 9, 85, 86, 87, 88, 89, 90, 91, 92, 93, 94] (by decide +kernel) (by decide +kernel)
set_option maxRecDepth 20000 in
theorem gX8_price_X5_hasHall : GoodIn wsX8_price (wsV RX8 111 RX5 yX5_hasHall wsX5_hasHall) := goodIn_app (goodIn_of _ (by decide +kernel)) ggX8_price_X5_hasHall
set_option maxRecDepth 20000 in
theorem ggX8_price_X8_within : GoodIn wsX8_price wsX8_within := goodIn_r _ [13] (by decide +kernel) (by decide +kernel)
set_option maxRecDepth 20000 in
theorem gX8_price_X8_within : GoodIn wsX8_price (va_wsS RX8 92 yX8_within wsX8_within) := goodIn_app (goodIn_of _ (by decide +kernel)) ggX8_price_X8_within
set_option maxRecDepth 20000 in
theorem ggX8_price_X8_change : GoodIn wsX8_price wsX8_change := goodIn_r _ [17, 18, 19, 20, 12, 21, 22, 1, 23, 24, 25, 26, 27, 28, 29, 30, 31, 32, 33, 34, 35, 36, 7, 37, 38, 9, 39, 40, 41, 42, 43, 44, 45, 46, 47, 48, 49, 50, 51, 52, 53, 54, 55, 56, 57, 58, 59, 60, 61, 62, 63, 64, 65, 66, 67, 68, 69, 70, 71, 72, 73, 74, 75, 76, 77, 78, 79, 80, 81, 82, 83, 84, 95, 96, 85, 86, 87, 88, 89, 90, 91, 92, 93, 94, 97, 98, 99, 100, 101, 102, 103, 104, 105, 106, 107, 108, 109, 110, 111, 112, 113, 114, 115, 116] (by decide +kernel) (by decide +kernel)
set_option maxRecDepth 20000 in
theorem gX8_price_X8_change : GoodIn wsX8_price (wsV RX8 100 RX8 yX8_change wsX8_change) := goodIn_app (goodIn_of _ (by decide +kernel)) ggX8_price_X8_change
theorem dX8_price_0 : decode cX8_price 0 = .ok (.aload_n 0, 1) := by decide +kernel
theorem dX8_price_1 : decode cX8_price 1 = .ok (.getfield 12, 3) := by decide +kernel
theorem dX8_price_4 : decode cX8_price 4 = .ok (.iload_n 1, 1) := by decide +kernel
theorem dX8_price_5 : decode cX8_price 5 = .ok (.invokevirtual 111, 3) := by decide +kernel
theorem dX8_price_8 : decode cX8_price 8 = .ok (.ifCond .eq 13, 3) := by decide +kernel
theorem dX8_price_11 : decode cX8_price 11 = .ok (.iload_n 2, 1) := by decide +kernel
theorem dX8_price_12 : decode cX8_price 12 = .ok (.iconst 0, 1) := by decide +kernel
theorem dX8_price_13 : decode cX8_price 13 = .ok (.ldc 104, 2) := by decide +kernel
theorem dX8_price_15 : decode cX8_price 15 = .ok (.invokestatic 92, 3) := by decide +kernel
theorem dX8_price_18 : decode cX8_price 18 = .ok (.ifCond .ne 6, 3) := by decide +kernel
theorem dX8_price_21 : decode cX8_price 21 = .ok (.bipush (-3), 2) := by decide +kernel
theorem dX8_price_23 : decode cX8_price 23 = .ok (.ireturn, 1) := by decide +kernel
theorem dX8_price_24 : decode cX8_price 24 = .ok (.aload_n 0, 1) := by decide +kernel
theorem dX8_price_25 : decode cX8_price 25 = .ok (.aload_n 0, 1) := by decide +kernel
theorem dX8_price_26 : decode cX8_price 26 = .ok (.getfield 12, 3) := by decide +kernel
theorem dX8_price_29 : decode cX8_price 29 = .ok (.getfield 114, 3) := by decide +kernel
theorem dX8_price_32 : decode cX8_price 32 = .ok (.iload_n 1, 1) := by decide +kernel
theorem dX8_price_33 : decode cX8_price 33 = .ok (.iload_n 2, 1) := by decide +kernel
theorem dX8_price_34 : decode cX8_price 34 = .ok (.invokevirtual 100, 3) := by decide +kernel
theorem dX8_price_37 : decode cX8_price 37 = .ok (.ireturn, 1) := by decide +kernel
set_option maxRecDepth 20000 in
theorem ggX8_room_X5_hasHall : GoodIn wsX8_room wsX5_hasHall := goodIn_r _ [7, 8, 84, 85, 86, 87, 88, 89, 90, 91, 92, 93] (by decide +kernel) (by decide +kernel)
set_option maxRecDepth 20000 in
theorem gX8_room_X5_hasHall : GoodIn wsX8_room (wsV RX8 111 RX5 yX5_hasHall wsX5_hasHall) := goodIn_app (goodIn_of _ (by decide +kernel)) ggX8_room_X5_hasHall
set_option maxRecDepth 20000 in
theorem ggX8_room_X8_within : GoodIn wsX8_room wsX8_within := goodIn_r _ [12] (by decide +kernel) (by decide +kernel)
set_option maxRecDepth 20000 in
theorem gX8_room_X8_within : GoodIn wsX8_room (va_wsS RX8 92 yX8_within wsX8_within) := goodIn_app (goodIn_of _ (by decide +kernel)) ggX8_room_X8_within
set_option maxRecDepth 20000 in
theorem ggX8_room_X8_change : GoodIn wsX8_room wsX8_change := goodIn_r _ [16, 17, 18, 19, 11, 20, 21, 1, 22, 23, 24, 25, 26, 27, 28, 29, 30, 31, 32, 33, 34, 35, 6, 36, 37, 8, 38, 39, 40, 41, 42, 43, 44, 45, 46, 47, 48, 49, 50, 51, 52, 53, 54, 55, 56, 57, 58, 59, 60, 61, 62, 63, 64, 65, 66, 67, 68, 69, 70, 71, 72, 73, 74, 75, 76, 77, 78, 79, 80, 81, 82, 83, 94, 95, 84, 85, 86, 87, 88, 89, 90, 91, 92, 93, 96, 97, 98, 99, 100, 101, 102, 103, 104, 105, 106, 107, 108, 109, 110, 111, 112, 113, 114, 115] (by decide +kernel) (by decide +kernel)
set_option maxRecDepth 20000 in
theorem gX8_room_X8_change : GoodIn wsX8_room (wsV RX8 100 RX8 yX8_change wsX8_change) := goodIn_app (goodIn_of _ (by decide +kernel)) ggX8_room_X8_change
theorem dX8_room_0 : decode cX8_room 0 = .ok (.aload_n 0, 1) := by decide +kernel
theorem dX8_room_1 : decode cX8_room 1 = .ok (.getfield 12, 3) := by decide +kernel
theorem dX8_room_4 : decode cX8_room 4 = .ok (.iload_n 1, 1) := by decide +kernel
theorem dX8_room_5 : decode cX8_room 5 = .ok (.invokevirtual 111, 3) := by decide +kernel
theorem dX8_room_8 : decode cX8_room 8 = .ok (.ifCond .eq 14, 3) := by decide +kernel
theorem dX8_room_11 : decode cX8_room 11 = .ok (.iload_n 2, 1) := by decide +kernel
theorem dX8_room_12 : decode cX8_room 12 = .ok (.iconst 0, 1) := by decide +kernel
theorem dX8_room_13 : decode cX8_room 13 = .ok (.sipush 200, 3) := by decide +kernel
theorem dX8_room_16 : decode cX8_room 16 = .ok (.invokestatic 92, 3) := by decide +kernel
theorem dX8_room_19 : decode cX8_room 19 = .ok (.ifCond .ne 6, 3) := by decide +kernel
theorem dX8_room_22 : decode cX8_room 22 = .ok (.bipush (-3), 2) := by decide +kernel
theorem dX8_room_24 : decode cX8_room 24 = .ok (.ireturn, 1) := by decide +kernel
theorem dX8_room_25 : decode cX8_room 25 = .ok (.aload_n 0, 1) := by decide +kernel
theorem dX8_room_26 : decode cX8_room 26 = .ok (.aload_n 0, 1) := by decide +kernel
theorem dX8_room_27 : decode cX8_room 27 = .ok (.getfield 12, 3) := by decide +kernel
theorem dX8_room_30 : decode cX8_room 30 = .ok (.getfield 117, 3) := by decide +kernel
theorem dX8_room_33 : decode cX8_room 33 = .ok (.iload_n 1, 1) := by decide +kernel
theorem dX8_room_34 : decode cX8_room 34 = .ok (.iload_n 2, 1) := by decide +kernel
theorem dX8_room_35 : decode cX8_room 35 = .ok (.invokevirtual 100, 3) := by decide +kernel
theorem dX8_room_38 : decode cX8_room 38 = .ok (.ireturn, 1) := by decide +kernel
set_option maxRecDepth 20000 in
theorem ggX8_sheet_X5_hasHall : GoodIn wsX8_sheet wsX5_hasHall := goodIn_r _ [6, 7, 84, 85, 86, 87, 88, 89, 90, 91, 92, 93] (by decide +kernel) (by decide +kernel)
set_option maxRecDepth 20000 in
theorem gX8_sheet_X5_hasHall : GoodIn wsX8_sheet (wsV RX8 111 RX5 yX5_hasHall wsX5_hasHall) := goodIn_app (goodIn_of _ (by decide +kernel)) ggX8_sheet_X5_hasHall
set_option maxRecDepth 20000 in
theorem ggX8_sheet_X8_within : GoodIn wsX8_sheet wsX8_within := goodIn_r _ [11] (by decide +kernel) (by decide +kernel)
set_option maxRecDepth 20000 in
theorem gX8_sheet_X8_within : GoodIn wsX8_sheet (va_wsS RX8 92 yX8_within wsX8_within) := goodIn_app (goodIn_of _ (by decide +kernel)) ggX8_sheet_X8_within
set_option maxRecDepth 20000 in
theorem ggX8_sheet_X8_keepForUndo : GoodIn wsX8_sheet wsX8_keepForUndo := goodIn_r _ [15, 16, 1, 17, 18, 19, 20, 21, 22, 23, 24, 25, 26, 27, 28, 29, 30, 5, 31, 32, 7, 33, 34, 35, 36, 37, 38, 39, 40, 41, 42, 43, 44, 45, 46, 47, 10, 48, 49, 50, 51, 52, 53, 54, 55, 56, 57, 58, 59, 60, 61, 62, 63, 64, 65, 66, 67, 68, 69, 75, 76, 77, 78, 79, 80, 81, 82, 83, 94, 95, 84, 85, 86, 87, 88, 89, 90, 91, 92, 93, 96, 97, 98, 99, 100, 101, 102, 103, 104, 105, 106, 107, 108, 109, 110, 111, 112, 113, 114, 115] (by decide +kernel) (by decide +kernel)
set_option maxRecDepth 20000 in
theorem gX8_sheet_X8_keepForUndo : GoodIn wsX8_sheet (wsV RX8 75 RX8 yX8_keepForUndo wsX8_keepForUndo) := goodIn_app (goodIn_of _ (by decide +kernel)) ggX8_sheet_X8_keepForUndo
set_option maxRecDepth 20000 in
theorem ggX8_sheet_X5_laySheet : GoodIn wsX8_sheet wsX5_laySheet := goodIn_r _ [73, 42, 43, 44, 74, 84, 85, 86, 87, 88, 89, 90, 91, 92, 93] (by decide +kernel) (by decide +kernel)
set_option maxRecDepth 20000 in
theorem gX8_sheet_X5_laySheet : GoodIn wsX8_sheet (wsV RX8 120 RX5 yX5_laySheet wsX5_laySheet) := goodIn_app (goodIn_of _ (by decide +kernel)) ggX8_sheet_X5_laySheet
theorem dX8_sheet_0 : decode cX8_sheet 0 = .ok (.aload_n 0, 1) := by decide +kernel
theorem dX8_sheet_1 : decode cX8_sheet 1 = .ok (.getfield 12, 3) := by decide +kernel
theorem dX8_sheet_4 : decode cX8_sheet 4 = .ok (.iload_n 1, 1) := by decide +kernel
theorem dX8_sheet_5 : decode cX8_sheet 5 = .ok (.invokevirtual 111, 3) := by decide +kernel
theorem dX8_sheet_8 : decode cX8_sheet 8 = .ok (.ifCond .eq 18, 3) := by decide +kernel
theorem dX8_sheet_11 : decode cX8_sheet 11 = .ok (.iload_n 2, 1) := by decide +kernel
theorem dX8_sheet_12 : decode cX8_sheet 12 = .ok (.iconst 0, 1) := by decide +kernel
theorem dX8_sheet_13 : decode cX8_sheet 13 = .ok (.iconst 2, 1) := by decide +kernel
theorem dX8_sheet_14 : decode cX8_sheet 14 = .ok (.invokestatic 92, 3) := by decide +kernel
theorem dX8_sheet_17 : decode cX8_sheet 17 = .ok (.ifCond .eq 9, 3) := by decide +kernel
theorem dX8_sheet_20 : decode cX8_sheet 20 = .ok (.iload_n 3, 1) := by decide +kernel
theorem dX8_sheet_21 : decode cX8_sheet 21 = .ok (.bipush 8, 2) := by decide +kernel
theorem dX8_sheet_23 : decode cX8_sheet 23 = .ok (.if_icmp .le 6, 3) := by decide +kernel
theorem dX8_sheet_26 : decode cX8_sheet 26 = .ok (.bipush (-3), 2) := by decide +kernel
theorem dX8_sheet_28 : decode cX8_sheet 28 = .ok (.ireturn, 1) := by decide +kernel
theorem dX8_sheet_29 : decode cX8_sheet 29 = .ok (.iload_n 3, 1) := by decide +kernel
theorem dX8_sheet_30 : decode cX8_sheet 30 = .ok (.ifCond .ge 6, 3) := by decide +kernel
theorem dX8_sheet_33 : decode cX8_sheet 33 = .ok (.bipush (-14), 2) := by decide +kernel
theorem dX8_sheet_35 : decode cX8_sheet 35 = .ok (.ireturn, 1) := by decide +kernel
theorem dX8_sheet_36 : decode cX8_sheet 36 = .ok (.aload_n 0, 1) := by decide +kernel
theorem dX8_sheet_37 : decode cX8_sheet 37 = .ok (.invokevirtual 75, 3) := by decide +kernel
theorem dX8_sheet_40 : decode cX8_sheet 40 = .ok (.aload_n 0, 1) := by decide +kernel
theorem dX8_sheet_41 : decode cX8_sheet 41 = .ok (.getfield 12, 3) := by decide +kernel
theorem dX8_sheet_44 : decode cX8_sheet 44 = .ok (.iload_n 1, 1) := by decide +kernel
theorem dX8_sheet_45 : decode cX8_sheet 45 = .ok (.iload_n 2, 1) := by decide +kernel
theorem dX8_sheet_46 : decode cX8_sheet 46 = .ok (.iload_n 3, 1) := by decide +kernel
theorem dX8_sheet_47 : decode cX8_sheet 47 = .ok (.invokevirtual 120, 3) := by decide +kernel
theorem dX8_sheet_50 : decode cX8_sheet 50 = .ok (.iload_n 3, 1) := by decide +kernel
theorem dX8_sheet_51 : decode cX8_sheet 51 = .ok (.ireturn, 1) := by decide +kernel
set_option maxRecDepth 20000 in
theorem ggX8_lose_X5_hasHall : GoodIn wsX8_lose wsX5_hasHall := goodIn_r _ [7, 8, 86, 87, 88, 89, 90, 91, 92, 93, 94, 95] (by decide +kernel) (by decide +kernel)
set_option maxRecDepth 20000 in
theorem gX8_lose_X5_hasHall : GoodIn wsX8_lose (wsV RX8 111 RX5 yX5_hasHall wsX5_hasHall) := goodIn_app (goodIn_of _ (by decide +kernel)) ggX8_lose_X5_hasHall
set_option maxRecDepth 20000 in
theorem ggX8_lose_X5_isMissing : GoodIn wsX8_lose wsX5_isMissing := goodIn_r _ [12, 13, 86, 87, 88, 89, 90, 91, 92, 93, 94, 95] (by decide +kernel) (by decide +kernel)
set_option maxRecDepth 20000 in
theorem gX8_lose_X5_isMissing : GoodIn wsX8_lose (wsV RX8 124 RX5 yX5_isMissing wsX5_isMissing) := goodIn_app (goodIn_of _ (by decide +kernel)) ggX8_lose_X5_isMissing
set_option maxRecDepth 20000 in
theorem ggX8_lose_X8_keepForUndo : GoodIn wsX8_lose wsX8_keepForUndo := goodIn_r _ [18, 19, 1, 20, 21, 22, 23, 24, 25, 26, 27, 28, 29, 30, 31, 32, 33, 6, 34, 35, 8, 36, 37, 38, 39, 40, 41, 42, 43, 44, 13, 45, 46, 47, 48, 49, 17, 50, 51, 52, 53, 54, 55, 56, 57, 58, 59, 60, 61, 62, 63, 64, 65, 66, 67, 68, 69, 70, 71, 77, 78, 79, 80, 81, 82, 83, 84, 85, 96, 97, 86, 87, 88, 89, 90, 91, 92, 93, 94, 95, 98, 99, 100, 101, 102, 103, 104, 105, 106, 107, 108, 109, 110, 111, 112, 113, 114, 115, 116, 117] (by decide +kernel) (by decide +kernel)
set_option maxRecDepth 20000 in
theorem gX8_lose_X8_keepForUndo : GoodIn wsX8_lose (wsV RX8 75 RX8 yX8_keepForUndo wsX8_keepForUndo) := goodIn_app (goodIn_of _ (by decide +kernel)) ggX8_lose_X8_keepForUndo
set_option maxRecDepth 20000 in
theorem ggX8_lose_X5_laySheet : GoodIn wsX8_lose wsX5_laySheet := goodIn_r _ [75, 13, 45, 46, 76, 86, 87, 88, 89, 90, 91, 92, 93, 94, 95] (by decide +kernel) (by decide +kernel)
set_option maxRecDepth 20000 in
theorem gX8_lose_X5_laySheet : GoodIn wsX8_lose (wsV RX8 120 RX5 yX5_laySheet wsX5_laySheet) := goodIn_app (goodIn_of _ (by decide +kernel)) ggX8_lose_X5_laySheet
theorem dX8_lose_0 : decode cX8_lose 0 = .ok (.aload_n 0, 1) := by decide +kernel
theorem dX8_lose_1 : decode cX8_lose 1 = .ok (.getfield 12, 3) := by decide +kernel
theorem dX8_lose_4 : decode cX8_lose 4 = .ok (.iload_n 1, 1) := by decide +kernel
theorem dX8_lose_5 : decode cX8_lose 5 = .ok (.invokevirtual 111, 3) := by decide +kernel
theorem dX8_lose_8 : decode cX8_lose 8 = .ok (.ifCond .ne 6, 3) := by decide +kernel
theorem dX8_lose_11 : decode cX8_lose 11 = .ok (.bipush (-3), 2) := by decide +kernel
theorem dX8_lose_13 : decode cX8_lose 13 = .ok (.ireturn, 1) := by decide +kernel
theorem dX8_lose_14 : decode cX8_lose 14 = .ok (.aload_n 0, 1) := by decide +kernel
theorem dX8_lose_15 : decode cX8_lose 15 = .ok (.getfield 12, 3) := by decide +kernel
theorem dX8_lose_18 : decode cX8_lose 18 = .ok (.iload_n 1, 1) := by decide +kernel
theorem dX8_lose_19 : decode cX8_lose 19 = .ok (.invokevirtual 124, 3) := by decide +kernel
theorem dX8_lose_22 : decode cX8_lose 22 = .ok (.ifCond .eq 6, 3) := by decide +kernel
theorem dX8_lose_25 : decode cX8_lose 25 = .ok (.bipush (-11), 2) := by decide +kernel
theorem dX8_lose_27 : decode cX8_lose 27 = .ok (.ireturn, 1) := by decide +kernel
theorem dX8_lose_28 : decode cX8_lose 28 = .ok (.aload_n 0, 1) := by decide +kernel
theorem dX8_lose_29 : decode cX8_lose 29 = .ok (.getfield 12, 3) := by decide +kernel
theorem dX8_lose_32 : decode cX8_lose 32 = .ok (.getfield 127, 3) := by decide +kernel
theorem dX8_lose_35 : decode cX8_lose 35 = .ok (.iload_n 1, 1) := by decide +kernel
theorem dX8_lose_36 : decode cX8_lose 36 = .ok (.iaload, 1) := by decide +kernel
theorem dX8_lose_37 : decode cX8_lose 37 = .ok (.istore_n 2, 1) := by decide +kernel
theorem dX8_lose_38 : decode cX8_lose 38 = .ok (.aload_n 0, 1) := by decide +kernel
theorem dX8_lose_39 : decode cX8_lose 39 = .ok (.invokevirtual 75, 3) := by decide +kernel
theorem dX8_lose_42 : decode cX8_lose 42 = .ok (.aload_n 0, 1) := by decide +kernel
theorem dX8_lose_43 : decode cX8_lose 43 = .ok (.getfield 12, 3) := by decide +kernel
theorem dX8_lose_46 : decode cX8_lose 46 = .ok (.iload_n 1, 1) := by decide +kernel
theorem dX8_lose_47 : decode cX8_lose 47 = .ok (.iconst (-1), 1) := by decide +kernel
theorem dX8_lose_48 : decode cX8_lose 48 = .ok (.iconst 0, 1) := by decide +kernel
theorem dX8_lose_49 : decode cX8_lose 49 = .ok (.invokevirtual 120, 3) := by decide +kernel
theorem dX8_lose_52 : decode cX8_lose 52 = .ok (.iload_n 2, 1) := by decide +kernel
theorem dX8_lose_53 : decode cX8_lose 53 = .ok (.ireturn, 1) := by decide +kernel
set_option maxRecDepth 20000 in
theorem ggX8_way_X5_hasHall : GoodIn wsX8_way wsX5_hasHall := goodIn_r _ [9, 10, 90, 91, 92, 93, 94, 95, 96, 97, 98, 99] (by decide +kernel) (by decide +kernel)
set_option maxRecDepth 20000 in
theorem gX8_way_X5_hasHall : GoodIn wsX8_way (wsV RX8 111 RX5 yX5_hasHall wsX5_hasHall) := goodIn_app (goodIn_of _ (by decide +kernel)) ggX8_way_X5_hasHall
set_option maxRecDepth 20000 in
theorem ggX8_way_X5_isMissing : GoodIn wsX8_way wsX5_isMissing := goodIn_r _ [14, 15, 90, 91, 92, 93, 94, 95, 96, 97, 98, 99] (by decide +kernel) (by decide +kernel)
set_option maxRecDepth 20000 in
theorem gX8_way_X5_isMissing : GoodIn wsX8_way (wsV RX8 124 RX5 yX5_isMissing wsX5_isMissing) := goodIn_app (goodIn_of _ (by decide +kernel)) ggX8_way_X5_isMissing
set_option maxRecDepth 20000 in
theorem ggX8_way_X8_within : GoodIn wsX8_way wsX8_within := goodIn_r _ [19] (by decide +kernel) (by decide +kernel)
set_option maxRecDepth 20000 in
theorem gX8_way_X8_within : GoodIn wsX8_way (va_wsS RX8 92 yX8_within wsX8_within) := goodIn_app (goodIn_of _ (by decide +kernel)) ggX8_way_X8_within
set_option maxRecDepth 20000 in
theorem ggX8_way_X8_change : GoodIn wsX8_way wsX8_change := goodIn_r _ [23, 24, 25, 26, 18, 27, 28, 1, 29, 30, 31, 32, 33, 34, 35, 36, 37, 38, 39, 40, 41, 42, 8, 43, 44, 10, 45, 46, 47, 48, 49, 50, 51, 52, 53, 15, 54, 55, 56, 57, 58, 59, 60, 61, 62, 63, 64, 65, 66, 67, 68, 69, 70, 71, 72, 73, 74, 75, 76, 77, 78, 79, 80, 81, 82, 83, 84, 85, 86, 87, 88, 89, 100, 101, 90, 91, 92, 93, 94, 95, 96, 97, 98, 99, 102, 103, 104, 105, 106, 107, 108, 109, 110, 111, 112, 113, 114, 115, 116, 117, 118, 119, 120, 121] (by decide +kernel) (by decide +kernel)
set_option maxRecDepth 20000 in
theorem gX8_way_X8_change : GoodIn wsX8_way (wsV RX8 100 RX8 yX8_change wsX8_change) := goodIn_app (goodIn_of _ (by decide +kernel)) ggX8_way_X8_change
theorem dX8_way_0 : decode cX8_way 0 = .ok (.aload_n 0, 1) := by decide +kernel
theorem dX8_way_1 : decode cX8_way 1 = .ok (.getfield 12, 3) := by decide +kernel
theorem dX8_way_4 : decode cX8_way 4 = .ok (.iload_n 1, 1) := by decide +kernel
theorem dX8_way_5 : decode cX8_way 5 = .ok (.invokevirtual 111, 3) := by decide +kernel
theorem dX8_way_8 : decode cX8_way 8 = .ok (.ifCond .ne 6, 3) := by decide +kernel
theorem dX8_way_11 : decode cX8_way 11 = .ok (.bipush (-3), 2) := by decide +kernel
theorem dX8_way_13 : decode cX8_way 13 = .ok (.ireturn, 1) := by decide +kernel
theorem dX8_way_14 : decode cX8_way 14 = .ok (.aload_n 0, 1) := by decide +kernel
theorem dX8_way_15 : decode cX8_way 15 = .ok (.getfield 12, 3) := by decide +kernel
theorem dX8_way_18 : decode cX8_way 18 = .ok (.iload_n 1, 1) := by decide +kernel
theorem dX8_way_19 : decode cX8_way 19 = .ok (.invokevirtual 124, 3) := by decide +kernel
theorem dX8_way_22 : decode cX8_way 22 = .ok (.ifCond .eq 6, 3) := by decide +kernel
theorem dX8_way_25 : decode cX8_way 25 = .ok (.bipush (-11), 2) := by decide +kernel
theorem dX8_way_27 : decode cX8_way 27 = .ok (.ireturn, 1) := by decide +kernel
theorem dX8_way_28 : decode cX8_way 28 = .ok (.iload_n 2, 1) := by decide +kernel
theorem dX8_way_29 : decode cX8_way 29 = .ok (.iconst 0, 1) := by decide +kernel
theorem dX8_way_30 : decode cX8_way 30 = .ok (.aload_n 0, 1) := by decide +kernel
theorem dX8_way_31 : decode cX8_way 31 = .ok (.getfield 12, 3) := by decide +kernel
theorem dX8_way_34 : decode cX8_way 34 = .ok (.getfield 127, 3) := by decide +kernel
theorem dX8_way_37 : decode cX8_way 37 = .ok (.iload_n 1, 1) := by decide +kernel
theorem dX8_way_38 : decode cX8_way 38 = .ok (.iaload, 1) := by decide +kernel
theorem dX8_way_39 : decode cX8_way 39 = .ok (.iconst 1, 1) := by decide +kernel
theorem dX8_way_40 : decode cX8_way 40 = .ok (.isub, 1) := by decide +kernel
theorem dX8_way_41 : decode cX8_way 41 = .ok (.invokestatic 92, 3) := by decide +kernel
theorem dX8_way_44 : decode cX8_way 44 = .ok (.ifCond .ne 6, 3) := by decide +kernel
theorem dX8_way_47 : decode cX8_way 47 = .ok (.bipush (-13), 2) := by decide +kernel
theorem dX8_way_49 : decode cX8_way 49 = .ok (.ireturn, 1) := by decide +kernel
theorem dX8_way_50 : decode cX8_way 50 = .ok (.iload_n 3, 1) := by decide +kernel
theorem dX8_way_51 : decode cX8_way 51 = .ok (.iconst 0, 1) := by decide +kernel
theorem dX8_way_52 : decode cX8_way 52 = .ok (.aload_n 0, 1) := by decide +kernel
theorem dX8_way_53 : decode cX8_way 53 = .ok (.getfield 12, 3) := by decide +kernel
theorem dX8_way_56 : decode cX8_way 56 = .ok (.getfield 130, 3) := by decide +kernel
theorem dX8_way_59 : decode cX8_way 59 = .ok (.iload_n 1, 1) := by decide +kernel
theorem dX8_way_60 : decode cX8_way 60 = .ok (.iaload, 1) := by decide +kernel
theorem dX8_way_61 : decode cX8_way 61 = .ok (.ifCond .ne 8, 3) := by decide +kernel
theorem dX8_way_64 : decode cX8_way 64 = .ok (.bipush 127, 2) := by decide +kernel
theorem dX8_way_66 : decode cX8_way 66 = .ok (.goto 6, 3) := by decide +kernel
theorem dX8_way_69 : decode cX8_way 69 = .ok (.sipush 1000, 3) := by decide +kernel
theorem dX8_way_72 : decode cX8_way 72 = .ok (.invokestatic 92, 3) := by decide +kernel
