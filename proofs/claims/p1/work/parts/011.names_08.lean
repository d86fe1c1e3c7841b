theorem dX9_line_23 : decode cX9_line 23 = .ok (.iconst (-1), 1) := by decide +kernel
theorem dX9_line_24 : decode cX9_line 24 = .ok (.goto 9, 3) := by decide +kernel
theorem dX9_line_27 : decode cX9_line 27 = .ok (.aload_n 0, 1) := by decide +kernel
theorem dX9_line_28 : decode cX9_line 28 = .ok (.iload_n 1, 1) := by decide +kernel
theorem dX9_line_29 : decode cX9_line 29 = .ok (.iload_n 2, 1) := by decide +kernel
theorem dX9_line_30 : decode cX9_line 30 = .ok (.invokevirtual 207, 3) := by decide +kernel
theorem dX9_line_33 : decode cX9_line 33 = .ok (.ireturn, 1) := by decide +kernel
set_option maxRecDepth 20000 in
theorem ggX9_lineAt_X9_isLine : GoodIn wsX9_lineAt wsX9_isLine := goodIn_r _ [9, 10, 11, 8, 12] (by decide +kernel) (by decide +kernel)
set_option maxRecDepth 20000 in
theorem gX9_lineAt_X9_isLine : GoodIn wsX9_lineAt (va_wsS RX9 204 yX9_isLine wsX9_isLine) := goodIn_app (goodIn_of _ (by decide +kernel)) ggX9_lineAt_X9_isLine
set_option maxRecDepth 20000 in
theorem ggX9_lineAt_X9_findLine : GoodIn wsX9_lineAt wsX9_findLine := goodIn_r _ [16, 3, 17, 4, 18, 19, 20, 8, 21, 2, 22, 5, 23, 24, 25, 26, 27, 28, 29, 30, 31, 32, 33, 34, 35, 36, 37, 38, 39, 40, 41, 42, 43, 44, 45, 46, 47, 48, 49, 50, 51, 52, 53, 54, 55, 56, 57, 58, 59, 60, 61, 62, 63, 64] (by decide +kernel) (by decide +kernel)
set_option maxRecDepth 20000 in
theorem gX9_lineAt_X9_findLine : GoodIn wsX9_lineAt (wsV RX9 207 RX9 yX9_findLine wsX9_findLine) := goodIn_app (goodIn_of _ (by decide +kernel)) ggX9_lineAt_X9_findLine
set_option maxRecDepth 20000 in
theorem ggX9_lineAt_X9_has : GoodIn wsX9_lineAt wsX9_has := goodIn_r _ [33] (by decide +kernel) (by decide +kernel)
set_option maxRecDepth 20000 in
theorem gX9_lineAt_X9_has : GoodIn wsX9_lineAt (va_wsS RX9 111 yX9_has wsX9_has) := goodIn_app (goodIn_of _ (by decide +kernel)) ggX9_lineAt_X9_has
theorem dX9_lineAt_0 : decode cX9_lineAt 0 = .ok (.aload_n 0, 1) := by decide +kernel
theorem dX9_lineAt_1 : decode cX9_lineAt 1 = .ok (.iconst 0, 1) := by decide +kernel
theorem dX9_lineAt_2 : decode cX9_lineAt 2 = .ok (.putfield 58, 3) := by decide +kernel
theorem dX9_lineAt_5 : decode cX9_lineAt 5 = .ok (.iload_n 1, 1) := by decide +kernel
theorem dX9_lineAt_6 : decode cX9_lineAt 6 = .ok (.iload_n 2, 1) := by decide +kernel
theorem dX9_lineAt_7 : decode cX9_lineAt 7 = .ok (.invokestatic 204, 3) := by decide +kernel
theorem dX9_lineAt_10 : decode cX9_lineAt 10 = .ok (.ifCond .eq 7, 3) := by decide +kernel
theorem dX9_lineAt_13 : decode cX9_lineAt 13 = .ok (.iload_n 3, 1) := by decide +kernel
theorem dX9_lineAt_14 : decode cX9_lineAt 14 = .ok (.ifCond .ge 6, 3) := by decide +kernel
theorem dX9_lineAt_17 : decode cX9_lineAt 17 = .ok (.bipush (-3), 2) := by decide +kernel
theorem dX9_lineAt_19 : decode cX9_lineAt 19 = .ok (.ireturn, 1) := by decide +kernel
theorem dX9_lineAt_20 : decode cX9_lineAt 20 = .ok (.aload_n 0, 1) := by decide +kernel
theorem dX9_lineAt_21 : decode cX9_lineAt 21 = .ok (.getfield 68, 3) := by decide +kernel
theorem dX9_lineAt_24 : decode cX9_lineAt 24 = .ok (.ifCond .ne 5, 3) := by decide +kernel
theorem dX9_lineAt_27 : decode cX9_lineAt 27 = .ok (.iconst (-1), 1) := by decide +kernel
theorem dX9_lineAt_28 : decode cX9_lineAt 28 = .ok (.ireturn, 1) := by decide +kernel
theorem dX9_lineAt_29 : decode cX9_lineAt 29 = .ok (.aload_n 0, 1) := by decide +kernel
theorem dX9_lineAt_30 : decode cX9_lineAt 30 = .ok (.iload_n 1, 1) := by decide +kernel
theorem dX9_lineAt_31 : decode cX9_lineAt 31 = .ok (.iload_n 2, 1) := by decide +kernel
theorem dX9_lineAt_32 : decode cX9_lineAt 32 = .ok (.invokevirtual 207, 3) := by decide +kernel
theorem dX9_lineAt_35 : decode cX9_lineAt 35 = .ok (.istore 4, 2) := by decide +kernel
theorem dX9_lineAt_37 : decode cX9_lineAt 37 = .ok (.iload_n 3, 1) := by decide +kernel
theorem dX9_lineAt_38 : decode cX9_lineAt 38 = .ok (.istore 5, 2) := by decide +kernel
theorem dX9_lineAt_40 : decode cX9_lineAt 40 = .ok (.iconst 0, 1) := by decide +kernel
theorem dX9_lineAt_41 : decode cX9_lineAt 41 = .ok (.istore 6, 2) := by decide +kernel
theorem dX9_lineAt_43 : decode cX9_lineAt 43 = .ok (.iload 6, 2) := by decide +kernel
theorem dX9_lineAt_45 : decode cX9_lineAt 45 = .ok (.aload_n 0, 1) := by decide +kernel
theorem dX9_lineAt_46 : decode cX9_lineAt 46 = .ok (.getfield 189, 3) := by decide +kernel
theorem dX9_lineAt_49 : decode cX9_lineAt 49 = .ok (.if_icmp .ge 41, 3) := by decide +kernel
theorem dX9_lineAt_52 : decode cX9_lineAt 52 = .ok (.aload_n 0, 1) := by decide +kernel
theorem dX9_lineAt_53 : decode cX9_lineAt 53 = .ok (.getfield 195, 3) := by decide +kernel
theorem dX9_lineAt_56 : decode cX9_lineAt 56 = .ok (.iload 6, 2) := by decide +kernel
theorem dX9_lineAt_58 : decode cX9_lineAt 58 = .ok (.invokestatic 111, 3) := by decide +kernel
theorem dX9_lineAt_61 : decode cX9_lineAt 61 = .ok (.ifCond .eq 23, 3) := by decide +kernel
theorem dX9_lineAt_64 : decode cX9_lineAt 64 = .ok (.iload 5, 2) := by decide +kernel
theorem dX9_lineAt_66 : decode cX9_lineAt 66 = .ok (.ifCond .ne 15, 3) := by decide +kernel
theorem dX9_lineAt_69 : decode cX9_lineAt 69 = .ok (.aload_n 0, 1) := by decide +kernel
theorem dX9_lineAt_70 : decode cX9_lineAt 70 = .ok (.getfield 55, 3) := by decide +kernel
theorem dX9_lineAt_73 : decode cX9_lineAt 73 = .ok (.iload 6, 2) := by decide +kernel
theorem dX9_lineAt_75 : decode cX9_lineAt 75 = .ok (.iaload, 1) := by decide +kernel
theorem dX9_lineAt_76 : decode cX9_lineAt 76 = .ok (.sipush 1000, 3) := by decide +kernel
theorem dX9_lineAt_79 : decode cX9_lineAt 79 = .ok (.iadd, 1) := by decide +kernel
theorem dX9_lineAt_80 : decode cX9_lineAt 80 = .ok (.ireturn, 1) := by decide +kernel
theorem dX9_lineAt_81 : decode cX9_lineAt 81 = .ok (.iinc 5 (-1), 3) := by decide +kernel
theorem dX9_lineAt_84 : decode cX9_lineAt 84 = .ok (.iinc 6 1, 3) := by decide +kernel
theorem dX9_lineAt_87 : decode cX9_lineAt 87 = .ok (.goto (-44), 3) := by decide +kernel
theorem dX9_lineAt_90 : decode cX9_lineAt 90 = .ok (.iconst (-1), 1) := by decide +kernel
theorem dX9_lineAt_91 : decode cX9_lineAt 91 = .ok (.ireturn, 1) := by decide +kernel
set_option maxRecDepth 20000 in
theorem ggX9_count_X9_sizeOf : GoodIn wsX9_count wsX9_sizeOf := goodIn_r _ [11] (by decide +kernel) (by decide +kernel)
set_option maxRecDepth 20000 in
theorem gX9_count_X9_sizeOf : GoodIn wsX9_count (va_wsS RX9 128 yX9_sizeOf wsX9_sizeOf) := goodIn_app (goodIn_of _ (by decide +kernel)) ggX9_count_X9_sizeOf
set_option maxRecDepth 20000 in
theorem ggX9_count_X9_allTowns : GoodIn wsX9_count wsX9_allTowns := goodIn_r _ [15, 2, 24, 25, 26, 27, 28, 29, 30, 31, 32, 33, 34, 35, 36, 37, 38, 39, 40, 41, 42, 43, 44, 45, 46, 47, 48, 49, 50, 51] (by decide +kernel) (by decide +kernel)
set_option maxRecDepth 20000 in
theorem gX9_count_X9_allTowns : GoodIn wsX9_count (wsV RX9 118 RX9 yX9_allTowns wsX9_allTowns) := goodIn_app (goodIn_of _ (by decide +kernel)) ggX9_count_X9_allTowns
set_option maxRecDepth 20000 in
theorem ggX9_count_X9_together : GoodIn wsX9_count wsX9_together := goodIn_r _ [19, 2, 20, 21, 22, 10, 23, 24, 25, 26, 27, 28, 29, 30, 31, 32, 33, 34, 35, 36, 37, 38, 39, 40, 41, 42, 43, 44, 45, 46, 47, 48, 49, 50, 51] (by decide +kernel) (by decide +kernel)
set_option maxRecDepth 20000 in
theorem gX9_count_X9_together : GoodIn wsX9_count (wsV RX9 175 RX9 yX9_together wsX9_together) := goodIn_app (goodIn_of _ (by decide +kernel)) ggX9_count_X9_together
theorem dX9_count_0 : decode cX9_count 0 = .ok (.aload_n 0, 1) := by decide +kernel
theorem dX9_count_1 : decode cX9_count 1 = .ok (.iconst 0, 1) := by decide +kernel
theorem dX9_count_2 : decode cX9_count 2 = .ok (.putfield 58, 3) := by decide +kernel
theorem dX9_count_5 : decode cX9_count 5 = .ok (.iconst 0, 1) := by decide +kernel
theorem dX9_count_6 : decode cX9_count 6 = .ok (.istore_n 2, 1) := by decide +kernel
theorem dX9_count_7 : decode cX9_count 7 = .ok (.iload_n 1, 1) := by decide +kernel
theorem dX9_count_8 : decode cX9_count 8 = .ok (.tableswitch 139 0 6 #[44, 49, 54, 81, 117, 125, 130], 44) := by decide +kernel
theorem dX9_count_52 : decode cX9_count 52 = .ok (.aload_n 0, 1) := by decide +kernel
theorem dX9_count_53 : decode cX9_count 53 = .ok (.getfield 68, 3) := by decide +kernel
theorem dX9_count_56 : decode cX9_count 56 = .ok (.ireturn, 1) := by decide +kernel
theorem dX9_count_57 : decode cX9_count 57 = .ok (.aload_n 0, 1) := by decide +kernel
theorem dX9_count_58 : decode cX9_count 58 = .ok (.getfield 71, 3) := by decide +kernel
theorem dX9_count_61 : decode cX9_count 61 = .ok (.ireturn, 1) := by decide +kernel
theorem dX9_count_62 : decode cX9_count 62 = .ok (.iconst 0, 1) := by decide +kernel
theorem dX9_count_63 : decode cX9_count 63 = .ok (.istore_n 3, 1) := by decide +kernel
theorem dX9_count_64 : decode cX9_count 64 = .ok (.iload_n 3, 1) := by decide +kernel
theorem dX9_count_65 : decode cX9_count 65 = .ok (.aload_n 0, 1) := by decide +kernel
theorem dX9_count_66 : decode cX9_count 66 = .ok (.getfield 68, 3) := by decide +kernel
theorem dX9_count_69 : decode cX9_count 69 = .ok (.if_icmp .ge 18, 3) := by decide +kernel
theorem dX9_count_72 : decode cX9_count 72 = .ok (.iload_n 2, 1) := by decide +kernel
theorem dX9_count_73 : decode cX9_count 73 = .ok (.aload_n 0, 1) := by decide +kernel
theorem dX9_count_74 : decode cX9_count 74 = .ok (.getfield 7, 3) := by decide +kernel
theorem dX9_count_77 : decode cX9_count 77 = .ok (.iload_n 3, 1) := by decide +kernel
theorem dX9_count_78 : decode cX9_count 78 = .ok (.iaload, 1) := by decide +kernel
theorem dX9_count_79 : decode cX9_count 79 = .ok (.iadd, 1) := by decide +kernel
theorem dX9_count_80 : decode cX9_count 80 = .ok (.istore_n 2, 1) := by decide +kernel
theorem dX9_count_81 : decode cX9_count 81 = .ok (.iinc 3 1, 3) := by decide +kernel
theorem dX9_count_84 : decode cX9_count 84 = .ok (.goto (-20), 3) := by decide +kernel
theorem dX9_count_87 : decode cX9_count 87 = .ok (.iload_n 2, 1) := by decide +kernel
theorem dX9_count_88 : decode cX9_count 88 = .ok (.ireturn, 1) := by decide +kernel
theorem dX9_count_89 : decode cX9_count 89 = .ok (.iconst 0, 1) := by decide +kernel
theorem dX9_count_90 : decode cX9_count 90 = .ok (.istore_n 3, 1) := by decide +kernel
theorem dX9_count_91 : decode cX9_count 91 = .ok (.iload_n 3, 1) := by decide +kernel
theorem dX9_count_92 : decode cX9_count 92 = .ok (.aload_n 0, 1) := by decide +kernel
theorem dX9_count_93 : decode cX9_count 93 = .ok (.getfield 71, 3) := by decide +kernel
theorem dX9_count_96 : decode cX9_count 96 = .ok (.if_icmp .ge 27, 3) := by decide +kernel
theorem dX9_count_99 : decode cX9_count 99 = .ok (.iload_n 2, 1) := by decide +kernel
theorem dX9_count_100 : decode cX9_count 100 = .ok (.aload_n 0, 1) := by decide +kernel
theorem dX9_count_101 : decode cX9_count 101 = .ok (.getfield 25, 3) := by decide +kernel
theorem dX9_count_104 : decode cX9_count 104 = .ok (.iload_n 3, 1) := by decide +kernel
theorem dX9_count_105 : decode cX9_count 105 = .ok (.iaload, 1) := by decide +kernel
theorem dX9_count_106 : decode cX9_count 106 = .ok (.iconst (-1), 1) := by decide +kernel
theorem dX9_count_107 : decode cX9_count 107 = .ok (.if_icmp .eq 7, 3) := by decide +kernel
theorem dX9_count_110 : decode cX9_count 110 = .ok (.iconst 1, 1) := by decide +kernel
theorem dX9_count_111 : decode cX9_count 111 = .ok (.goto 4, 3) := by decide +kernel
theorem dX9_count_114 : decode cX9_count 114 = .ok (.iconst 0, 1) := by decide +kernel
theorem dX9_count_115 : decode cX9_count 115 = .ok (.iadd, 1) := by decide +kernel
theorem dX9_count_116 : decode cX9_count 116 = .ok (.istore_n 2, 1) := by decide +kernel
theorem dX9_count_117 : decode cX9_count 117 = .ok (.iinc 3 1, 3) := by decide +kernel
theorem dX9_count_120 : decode cX9_count 120 = .ok (.goto (-29), 3) := by decide +kernel
theorem dX9_count_123 : decode cX9_count 123 = .ok (.iload_n 2, 1) := by decide +kernel
theorem dX9_count_124 : decode cX9_count 124 = .ok (.ireturn, 1) := by decide +kernel
theorem dX9_count_125 : decode cX9_count 125 = .ok (.aload_n 0, 1) := by decide +kernel
theorem dX9_count_126 : decode cX9_count 126 = .ok (.getfield 84, 3) := by decide +kernel
theorem dX9_count_129 : decode cX9_count 129 = .ok (.invokestatic 128, 3) := by decide +kernel
theorem dX9_count_132 : decode cX9_count 132 = .ok (.ireturn, 1) := by decide +kernel
theorem dX9_count_133 : decode cX9_count 133 = .ok (.aload_n 0, 1) := by decide +kernel
theorem dX9_count_134 : decode cX9_count 134 = .ok (.getfield 78, 3) := by decide +kernel
theorem dX9_count_137 : decode cX9_count 137 = .ok (.ireturn, 1) := by decide +kernel
theorem dX9_count_138 : decode cX9_count 138 = .ok (.aload_n 0, 1) := by decide +kernel
theorem dX9_count_139 : decode cX9_count 139 = .ok (.aload_n 0, 1) := by decide +kernel
theorem dX9_count_140 : decode cX9_count 140 = .ok (.invokevirtual 118, 3) := by decide +kernel
theorem dX9_count_143 : decode cX9_count 143 = .ok (.invokevirtual 175, 3) := by decide +kernel
theorem dX9_count_146 : decode cX9_count 146 = .ok (.ireturn, 1) := by decide +kernel
theorem dX9_count_147 : decode cX9_count 147 = .ok (.bipush (-3), 2) := by decide +kernel
theorem dX9_count_149 : decode cX9_count 149 = .ok (.ireturn, 1) := by decide +kernel
theorem dJ6_bitCount_0f7a4_0 : decode cJ6_bitCount_0f7a4 0 = .ok (.iload_n 0, 1) := by decide +kernel
theorem dJ6_bitCount_0f7a4_1 : decode cJ6_bitCount_0f7a4 1 = .ok (.iload_n 0, 1) := by decide +kernel
theorem dJ6_bitCount_0f7a4_2 : decode cJ6_bitCount_0f7a4 2 = .ok (.iconst 1, 1) := by decide +kernel
theorem dJ6_bitCount_0f7a4_3 : decode cJ6_bitCount_0f7a4 3 = .ok (.iushr, 1) := by decide +kernel
theorem dJ6_bitCount_0f7a4_4 : decode cJ6_bitCount_0f7a4 4 = .ok (.ldc_w 265, 3) := by decide +kernel
theorem dJ6_bitCount_0f7a4_7 : decode cJ6_bitCount_0f7a4 7 = .ok (.iand, 1) := by decide +kernel
theorem dJ6_bitCount_0f7a4_8 : decode cJ6_bitCount_0f7a4 8 = .ok (.isub, 1) := by decide +kernel
theorem dJ6_bitCount_0f7a4_9 : decode cJ6_bitCount_0f7a4 9 = .ok (.istore_n 0, 1) := by decide +kernel
theorem dJ6_bitCount_0f7a4_10 : decode cJ6_bitCount_0f7a4 10 = .ok (.iload_n 0, 1) := by decide +kernel
theorem dJ6_bitCount_0f7a4_11 : decode cJ6_bitCount_0f7a4 11 = .ok (.ldc_w 266, 3) := by decide +kernel
theorem dJ6_bitCount_0f7a4_14 : decode cJ6_bitCount_0f7a4 14 = .ok (.iand, 1) := by decide +kernel
theorem dJ6_bitCount_0f7a4_15 : decode cJ6_bitCount_0f7a4 15 = .ok (.iload_n 0, 1) := by decide +kernel
theorem dJ6_bitCount_0f7a4_16 : decode cJ6_bitCount_0f7a4 16 = .ok (.iconst 2, 1) := by decide +kernel
theorem dJ6_bitCount_0f7a4_17 : decode cJ6_bitCount_0f7a4 17 = .ok (.iushr, 1) := by decide +kernel
theorem dJ6_bitCount_0f7a4_18 : decode cJ6_bitCount_0f7a4 18 = .ok (.ldc_w 266, 3) := by decide +kernel
theorem dJ6_bitCount_0f7a4_21 : decode cJ6_bitCount_0f7a4 21 = .ok (.iand, 1) := by decide +kernel
theorem dJ6_bitCount_0f7a4_22 : decode cJ6_bitCount_0f7a4 22 = .ok (.iadd, 1) := by decide +kernel
theorem dJ6_bitCount_0f7a4_23 : decode cJ6_bitCount_0f7a4 23 = .ok (.istore_n 0, 1) := by decide +kernel
theorem dJ6_bitCount_0f7a4_24 : decode cJ6_bitCount_0f7a4 24 = .ok (.iload_n 0, 1) := by decide +kernel
theorem dJ6_bitCount_0f7a4_25 : decode cJ6_bitCount_0f7a4 25 = .ok (.iload_n 0, 1) := by decide +kernel
theorem dJ6_bitCount_0f7a4_26 : decode cJ6_bitCount_0f7a4 26 = .ok (.iconst 4, 1) := by decide +kernel
theorem dJ6_bitCount_0f7a4_27 : decode cJ6_bitCount_0f7a4 27 = .ok (.iushr, 1) := by decide +kernel
theorem dJ6_bitCount_0f7a4_28 : decode cJ6_bitCount_0f7a4 28 = .ok (.iadd, 1) := by decide +kernel
theorem dJ6_bitCount_0f7a4_29 : decode cJ6_bitCount_0f7a4 29 = .ok (.ldc_w 267, 3) := by decide +kernel
theorem dJ6_bitCount_0f7a4_32 : decode cJ6_bitCount_0f7a4 32 = .ok (.iand, 1) := by decide +kernel
theorem dJ6_bitCount_0f7a4_33 : decode cJ6_bitCount_0f7a4 33 = .ok (.istore_n 0, 1) := by decide +kernel
theorem dJ6_bitCount_0f7a4_34 : decode cJ6_bitCount_0f7a4 34 = .ok (.iload_n 0, 1) := by decide +kernel
theorem dJ6_bitCount_0f7a4_35 : decode cJ6_bitCount_0f7a4 35 = .ok (.iload_n 0, 1) := by decide +kernel
theorem dJ6_bitCount_0f7a4_36 : decode cJ6_bitCount_0f7a4 36 = .ok (.bipush 8, 2) := by decide +kernel
theorem dJ6_bitCount_0f7a4_38 : decode cJ6_bitCount_0f7a4 38 = .ok (.iushr, 1) := by decide +kernel
theorem dJ6_bitCount_0f7a4_39 : decode cJ6_bitCount_0f7a4 39 = .ok (.iadd, 1) := by decide +kernel
theorem dJ6_bitCount_0f7a4_40 : decode cJ6_bitCount_0f7a4 40 = .ok (.istore_n 0, 1) := by decide +kernel
theorem dJ6_bitCount_0f7a4_41 : decode cJ6_bitCount_0f7a4 41 = .ok (.iload_n 0, 1) := by decide +kernel
theorem dJ6_bitCount_0f7a4_42 : decode cJ6_bitCount_0f7a4 42 = .ok (.iload_n 0, 1) := by decide +kernel
theorem dJ6_bitCount_0f7a4_43 : decode cJ6_bitCount_0f7a4 43 = .ok (.bipush 16, 2) := by decide +kernel
theorem dJ6_bitCount_0f7a4_45 : decode cJ6_bitCount_0f7a4 45 = .ok (.iushr, 1) := by decide +kernel
theorem dJ6_bitCount_0f7a4_46 : decode cJ6_bitCount_0f7a4 46 = .ok (.iadd, 1) := by decide +kernel
theorem dJ6_bitCount_0f7a4_47 : decode cJ6_bitCount_0f7a4 47 = .ok (.istore_n 0, 1) := by decide +kernel
theorem dJ6_bitCount_0f7a4_48 : decode cJ6_bitCount_0f7a4 48 = .ok (.iload_n 0, 1) := by decide +kernel
theorem dJ6_bitCount_0f7a4_49 : decode cJ6_bitCount_0f7a4 49 = .ok (.bipush 63, 2) := by decide +kernel
theorem dJ6_bitCount_0f7a4_51 : decode cJ6_bitCount_0f7a4 51 = .ok (.iand, 1) := by decide +kernel
theorem dJ6_bitCount_0f7a4_52 : decode cJ6_bitCount_0f7a4 52 = .ok (.ireturn, 1) := by decide +kernel
theorem dJ9_abs_0f7a4_0 : decode cJ9_abs_0f7a4 0 = .ok (.iload_n 0, 1) := by decide +kernel
theorem dJ9_abs_0f7a4_1 : decode cJ9_abs_0f7a4 1 = .ok (.ifCond .ge 8, 3) := by decide +kernel
theorem dJ9_abs_0f7a4_4 : decode cJ9_abs_0f7a4 4 = .ok (.iload_n 0, 1) := by decide +kernel
theorem dJ9_abs_0f7a4_5 : decode cJ9_abs_0f7a4 5 = .ok (.ineg, 1) := by decide +kernel
theorem dJ9_abs_0f7a4_6 : decode cJ9_abs_0f7a4 6 = .ok (.goto 4, 3) := by decide +kernel
theorem dJ9_abs_0f7a4_9 : decode cJ9_abs_0f7a4 9 = .ok (.iload_n 0, 1) := by decide +kernel
theorem dJ9_abs_0f7a4_10 : decode cJ9_abs_0f7a4 10 = .ok (.ireturn, 1) := by decide +kernel
theorem dJ9_abs_067f4_0 : decode cJ9_abs_067f4 0 = .ok (.lload_n 0, 1) := by decide +kernel
theorem dJ9_abs_067f4_1 : decode cJ9_abs_067f4 1 = .ok (.lconst 0, 1) := by decide +kernel
theorem dJ9_abs_067f4_2 : decode cJ9_abs_067f4 2 = .ok (.lcmp, 1) := by decide +kernel
theorem dJ9_abs_067f4_3 : decode cJ9_abs_067f4 3 = .ok (.ifCond .ge 8, 3) := by decide +kernel
theorem dJ9_abs_067f4_6 : decode cJ9_abs_067f4 6 = .ok (.lload_n 0, 1) := by decide +kernel
theorem dJ9_abs_067f4_7 : decode cJ9_abs_067f4 7 = .ok (.lneg, 1) := by decide +kernel
theorem dJ9_abs_067f4_8 : decode cJ9_abs_067f4 8 = .ok (.goto 4, 3) := by decide +kernel
theorem dJ9_abs_067f4_11 : decode cJ9_abs_067f4 11 = .ok (.lload_n 0, 1) := by decide +kernel
theorem dJ9_abs_067f4_12 : decode cJ9_abs_067f4 12 = .ok (.lreturn, 1) := by decide +kernel
theorem dJ9_max_7cf53_0 : decode cJ9_max_7cf53 0 = .ok (.iload_n 0, 1) := by decide +kernel
theorem dJ9_max_7cf53_1 : decode cJ9_max_7cf53 1 = .ok (.iload_n 1, 1) := by decide +kernel
theorem dJ9_max_7cf53_2 : decode cJ9_max_7cf53 2 = .ok (.if_icmp .lt 7, 3) := by decide +kernel
theorem dJ9_max_7cf53_5 : decode cJ9_max_7cf53 5 = .ok (.iload_n 0, 1) := by decide +kernel
theorem dJ9_max_7cf53_6 : decode cJ9_max_7cf53 6 = .ok (.goto 4, 3) := by decide +kernel
theorem dJ9_max_7cf53_9 : decode cJ9_max_7cf53 9 = .ok (.iload_n 1, 1) := by decide +kernel
theorem dJ9_max_7cf53_10 : decode cJ9_max_7cf53 10 = .ok (.ireturn, 1) := by decide +kernel
theorem dJ9_max_f86c9_0 : decode cJ9_max_f86c9 0 = .ok (.lload_n 0, 1) := by decide +kernel
theorem dJ9_max_f86c9_1 : decode cJ9_max_f86c9 1 = .ok (.lload_n 2, 1) := by decide +kernel
theorem dJ9_max_f86c9_2 : decode cJ9_max_f86c9 2 = .ok (.lcmp, 1) := by decide +kernel
theorem dJ9_max_f86c9_3 : decode cJ9_max_f86c9 3 = .ok (.ifCond .lt 7, 3) := by decide +kernel
theorem dJ9_max_f86c9_6 : decode cJ9_max_f86c9 6 = .ok (.lload_n 0, 1) := by decide +kernel
theorem dJ9_max_f86c9_7 : decode cJ9_max_f86c9 7 = .ok (.goto 4, 3) := by decide +kernel
theorem dJ9_max_f86c9_10 : decode cJ9_max_f86c9 10 = .ok (.lload_n 2, 1) := by decide +kernel
theorem dJ9_max_f86c9_11 : decode cJ9_max_f86c9 11 = .ok (.lreturn, 1) := by decide +kernel
theorem dJ9_min_7cf53_0 : decode cJ9_min_7cf53 0 = .ok (.iload_n 0, 1) := by decide +kernel
theorem dJ9_min_7cf53_1 : decode cJ9_min_7cf53 1 = .ok (.iload_n 1, 1) := by decide +kernel
theorem dJ9_min_7cf53_2 : decode cJ9_min_7cf53 2 = .ok (.if_icmp .gt 7, 3) := by decide +kernel
theorem dJ9_min_7cf53_5 : decode cJ9_min_7cf53 5 = .ok (.iload_n 0, 1) := by decide +kernel
theorem dJ9_min_7cf53_6 : decode cJ9_min_7cf53 6 = .ok (.goto 4, 3) := by decide +kernel
theorem dJ9_min_7cf53_9 : decode cJ9_min_7cf53 9 = .ok (.iload_n 1, 1) := by decide +kernel
theorem dJ9_min_7cf53_10 : decode cJ9_min_7cf53 10 = .ok (.ireturn, 1) := by decide +kernel
theorem dJ9_min_f86c9_0 : decode cJ9_min_f86c9 0 = .ok (.lload_n 0, 1) := by decide +kernel
theorem dJ9_min_f86c9_1 : decode cJ9_min_f86c9 1 = .ok (.lload_n 2, 1) := by decide +kernel
theorem dJ9_min_f86c9_2 : decode cJ9_min_f86c9 2 = .ok (.lcmp, 1) := by decide +kernel
theorem dJ9_min_f86c9_3 : decode cJ9_min_f86c9 3 = .ok (.ifCond .gt 7, 3) := by decide +kernel
theorem dJ9_min_f86c9_6 : decode cJ9_min_f86c9 6 = .ok (.lload_n 0, 1) := by decide +kernel
theorem dJ9_min_f86c9_7 : decode cJ9_min_f86c9 7 = .ok (.goto 4, 3) := by decide +kernel
theorem dJ9_min_f86c9_10 : decode cJ9_min_f86c9 10 = .ok (.lload_n 2, 1) := by decide +kernel
theorem dJ9_min_f86c9_11 : decode cJ9_min_f86c9 11 = .ok (.lreturn, 1) := by decide +kernel
theorem dJ7_fill_d0a16_0 : decode cJ7_fill_d0a16 0 = .ok (.iconst 0, 1) := by decide +kernel
theorem dJ7_fill_d0a16_1 : decode cJ7_fill_d0a16 1 = .ok (.istore_n 3, 1) := by decide +kernel
theorem dJ7_fill_d0a16_2 : decode cJ7_fill_d0a16 2 = .ok (.aload_n 0, 1) := by decide +kernel
theorem dJ7_fill_d0a16_3 : decode cJ7_fill_d0a16 3 = .ok (.arraylength, 1) := by decide +kernel
theorem dJ7_fill_d0a16_4 : decode cJ7_fill_d0a16 4 = .ok (.istore 4, 2) := by decide +kernel
theorem dJ7_fill_d0a16_6 : decode cJ7_fill_d0a16 6 = .ok (.iload_n 3, 1) := by decide +kernel
theorem dJ7_fill_d0a16_7 : decode cJ7_fill_d0a16 7 = .ok (.iload 4, 2) := by decide +kernel
theorem dJ7_fill_d0a16_9 : decode cJ7_fill_d0a16 9 = .ok (.if_icmp .ge 13, 3) := by decide +kernel
theorem dJ7_fill_d0a16_12 : decode cJ7_fill_d0a16 12 = .ok (.aload_n 0, 1) := by decide +kernel
theorem dJ7_fill_d0a16_13 : decode cJ7_fill_d0a16 13 = .ok (.iload_n 3, 1) := by decide +kernel
theorem dJ7_fill_d0a16_14 : decode cJ7_fill_d0a16 14 = .ok (.lload_n 1, 1) := by decide +kernel
theorem dJ7_fill_d0a16_15 : decode cJ7_fill_d0a16 15 = .ok (.lastore, 1) := by decide +kernel
theorem dJ7_fill_d0a16_16 : decode cJ7_fill_d0a16 16 = .ok (.iinc 3 1, 3) := by decide +kernel
theorem dJ7_fill_d0a16_19 : decode cJ7_fill_d0a16 19 = .ok (.goto (-13), 3) := by decide +kernel
theorem dJ7_fill_d0a16_22 : decode cJ7_fill_d0a16 22 = .ok (.return_, 1) := by decide +kernel
theorem dJ7_fill_53178_0 : decode cJ7_fill_53178 0 = .ok (.iconst 0, 1) := by decide +kernel
theorem dJ7_fill_53178_1 : decode cJ7_fill_53178 1 = .ok (.istore_n 2, 1) := by decide +kernel
theorem dJ7_fill_53178_2 : decode cJ7_fill_53178 2 = .ok (.aload_n 0, 1) := by decide +kernel
theorem dJ7_fill_53178_3 : decode cJ7_fill_53178 3 = .ok (.arraylength, 1) := by decide +kernel
theorem dJ7_fill_53178_4 : decode cJ7_fill_53178 4 = .ok (.istore_n 3, 1) := by decide +kernel
theorem dJ7_fill_53178_5 : decode cJ7_fill_53178 5 = .ok (.iload_n 2, 1) := by decide +kernel
theorem dJ7_fill_53178_6 : decode cJ7_fill_53178 6 = .ok (.iload_n 3, 1) := by decide +kernel
theorem dJ7_fill_53178_7 : decode cJ7_fill_53178 7 = .ok (.if_icmp .ge 13, 3) := by decide +kernel
theorem dJ7_fill_53178_10 : decode cJ7_fill_53178 10 = .ok (.aload_n 0, 1) := by decide +kernel
theorem dJ7_fill_53178_11 : decode cJ7_fill_53178 11 = .ok (.iload_n 2, 1) := by decide +kernel
theorem dJ7_fill_53178_12 : decode cJ7_fill_53178 12 = .ok (.iload_n 1, 1) := by decide +kernel
theorem dJ7_fill_53178_13 : decode cJ7_fill_53178 13 = .ok (.iastore, 1) := by decide +kernel
theorem dJ7_fill_53178_14 : decode cJ7_fill_53178 14 = .ok (.iinc 2 1, 3) := by decide +kernel
theorem dJ7_fill_53178_17 : decode cJ7_fill_53178 17 = .ok (.goto (-12), 3) := by decide +kernel
theorem dJ7_fill_53178_20 : decode cJ7_fill_53178 20 = .ok (.return_, 1) := by decide +kernel
abbrev vwCl : List vw_C := [(RX0, TX0, 3), (RX1, TX1, 5), (RX2, TX2, 5), (RX3, TX3, 5), (RX4, TX4, 2), (RX5, TX5, 10), (RX6, TX6, 5), (RX7, TX7, 10), (RX8, TX8, 9), (RX9, TX9, 28)]
