theorem dX9_isAsked_11 : decode cX9_isAsked 11 = .ok (.invokestatic 91, 3) := by decide +kernel
theorem dX9_isAsked_14 : decode cX9_isAsked 14 = .ok (.ifCond .eq 7, 3) := by decide +kernel
theorem dX9_isAsked_17 : decode cX9_isAsked 17 = .ok (.iconst 1, 1) := by decide +kernel
theorem dX9_isAsked_18 : decode cX9_isAsked 18 = .ok (.goto 4, 3) := by decide +kernel
theorem dX9_isAsked_21 : decode cX9_isAsked 21 = .ok (.iconst 0, 1) := by decide +kernel
theorem dX9_isAsked_22 : decode cX9_isAsked 22 = .ok (.ireturn, 1) := by decide +kernel
set_option maxRecDepth 20000 in
theorem ggX9_least_X9_isAsked : GoodIn wsX9_least wsX9_isAsked := goodIn_r _ [7, 8, 9, 6, 10, 11, 12, 13] (by decide +kernel) (by decide +kernel)
set_option maxRecDepth 20000 in
theorem gX9_least_X9_isAsked : GoodIn wsX9_least (va_wsS RX9 162 yX9_isAsked wsX9_isAsked) := goodIn_app (goodIn_of _ (by decide +kernel)) ggX9_least_X9_isAsked
set_option maxRecDepth 20000 in
theorem ggX9_least_X9_search : GoodIn wsX9_least wsX9_search := goodIn_r _ [17, 3, 2, 18, 19, 20, 21, 22, 6, 23, 24, 25, 26, 27, 28, 29, 30, 31, 32, 33, 34, 35, 36, 37, 38, 39, 40, 41, 42, 43, 44, 45, 46, 47, 48, 49, 50, 51, 52, 53, 54, 55, 56, 57, 58, 59, 60, 61, 62, 63, 64, 65, 66, 67, 68, 69, 70, 71, 72, 73, 74, 75, 76, 77, 78, 79, 80, 81, 82, 83, 84, 85, 86, 87, 88, 89, 90, 91, 92, 93, 94, 95, 96, 97, 98, 99, 100, 101, 102, 103, 104, 105, 106, 107, 108, 109] (by decide +kernel) (by decide +kernel)
set_option maxRecDepth 20000 in
theorem gX9_least_X9_search : GoodIn wsX9_least (wsV RX9 165 RX9 yX9_search wsX9_search) := goodIn_app (goodIn_of _ (by decide +kernel)) ggX9_least_X9_search
theorem dX9_least_0 : decode cX9_least 0 = .ok (.aload_n 0, 1) := by decide +kernel
theorem dX9_least_1 : decode cX9_least 1 = .ok (.iconst 0, 1) := by decide +kernel
theorem dX9_least_2 : decode cX9_least 2 = .ok (.putfield 58, 3) := by decide +kernel
theorem dX9_least_5 : decode cX9_least 5 = .ok (.iload_n 1, 1) := by decide +kernel
theorem dX9_least_6 : decode cX9_least 6 = .ok (.iload_n 2, 1) := by decide +kernel
theorem dX9_least_7 : decode cX9_least 7 = .ok (.invokestatic 162, 3) := by decide +kernel
theorem dX9_least_10 : decode cX9_least 10 = .ok (.ifCond .ne 6, 3) := by decide +kernel
theorem dX9_least_13 : decode cX9_least 13 = .ok (.bipush (-3), 2) := by decide +kernel
theorem dX9_least_15 : decode cX9_least 15 = .ok (.ireturn, 1) := by decide +kernel
theorem dX9_least_16 : decode cX9_least 16 = .ok (.aload_n 0, 1) := by decide +kernel
theorem dX9_least_17 : decode cX9_least 17 = .ok (.iload_n 1, 1) := by decide +kernel
theorem dX9_least_18 : decode cX9_least 18 = .ok (.iload_n 2, 1) := by decide +kernel
theorem dX9_least_19 : decode cX9_least 19 = .ok (.iconst (-1), 1) := by decide +kernel
theorem dX9_least_20 : decode cX9_least 20 = .ok (.invokevirtual 165, 3) := by decide +kernel
theorem dX9_least_23 : decode cX9_least 23 = .ok (.aload_n 0, 1) := by decide +kernel
theorem dX9_least_24 : decode cX9_least 24 = .ok (.getfield 153, 3) := by decide +kernel
theorem dX9_least_27 : decode cX9_least 27 = .ok (.ldc 121, 2) := by decide +kernel
theorem dX9_least_29 : decode cX9_least 29 = .ok (.if_icmp .ne 7, 3) := by decide +kernel
theorem dX9_least_32 : decode cX9_least 32 = .ok (.iconst (-1), 1) := by decide +kernel
theorem dX9_least_33 : decode cX9_least 33 = .ok (.goto 7, 3) := by decide +kernel
theorem dX9_least_36 : decode cX9_least 36 = .ok (.aload_n 0, 1) := by decide +kernel
theorem dX9_least_37 : decode cX9_least 37 = .ok (.getfield 153, 3) := by decide +kernel
theorem dX9_least_40 : decode cX9_least 40 = .ok (.ireturn, 1) := by decide +kernel
set_option maxRecDepth 20000 in
theorem ggX9_many_X9_isAsked : GoodIn wsX9_many wsX9_isAsked := goodIn_r _ [6, 7, 8, 5, 9, 10, 11, 12] (by decide +kernel) (by decide +kernel)
set_option maxRecDepth 20000 in
theorem gX9_many_X9_isAsked : GoodIn wsX9_many (va_wsS RX9 162 yX9_isAsked wsX9_isAsked) := goodIn_app (goodIn_of _ (by decide +kernel)) ggX9_many_X9_isAsked
set_option maxRecDepth 20000 in
theorem ggX9_many_X9_search : GoodIn wsX9_many wsX9_search := goodIn_r _ [16, 17, 18, 2, 19, 20, 21, 22, 5, 23, 24, 25, 26, 27, 28, 29, 30, 31, 32, 33, 34, 35, 36, 37, 38, 39, 40, 41, 42, 43, 44, 45, 46, 47, 48, 49, 50, 51, 52, 53, 54, 55, 56, 57, 58, 59, 60, 61, 62, 63, 64, 65, 66, 67, 68, 69, 70, 71, 72, 73, 74, 75, 76, 77, 78, 79, 80, 81, 82, 83, 84, 85, 86, 87, 88, 89, 90, 91, 92, 93, 94, 95, 96, 97, 98, 99, 100, 101, 102, 103, 104, 105, 106, 107, 108, 109] (by decide +kernel) (by decide +kernel)
set_option maxRecDepth 20000 in
theorem gX9_many_X9_search : GoodIn wsX9_many (wsV RX9 165 RX9 yX9_search wsX9_search) := goodIn_app (goodIn_of _ (by decide +kernel)) ggX9_many_X9_search
theorem dX9_many_0 : decode cX9_many 0 = .ok (.aload_n 0, 1) := by decide +kernel
theorem dX9_many_1 : decode cX9_many 1 = .ok (.iconst 0, 1) := by decide +kernel
theorem dX9_many_2 : decode cX9_many 2 = .ok (.putfield 58, 3) := by decide +kernel
theorem dX9_many_5 : decode cX9_many 5 = .ok (.iload_n 1, 1) := by decide +kernel
theorem dX9_many_6 : decode cX9_many 6 = .ok (.iload_n 2, 1) := by decide +kernel
theorem dX9_many_7 : decode cX9_many 7 = .ok (.invokestatic 162, 3) := by decide +kernel
theorem dX9_many_10 : decode cX9_many 10 = .ok (.ifCond .ne 6, 3) := by decide +kernel
theorem dX9_many_13 : decode cX9_many 13 = .ok (.bipush (-3), 2) := by decide +kernel
theorem dX9_many_15 : decode cX9_many 15 = .ok (.ireturn, 1) := by decide +kernel
theorem dX9_many_16 : decode cX9_many 16 = .ok (.aload_n 0, 1) := by decide +kernel
theorem dX9_many_17 : decode cX9_many 17 = .ok (.iload_n 1, 1) := by decide +kernel
theorem dX9_many_18 : decode cX9_many 18 = .ok (.iload_n 2, 1) := by decide +kernel
theorem dX9_many_19 : decode cX9_many 19 = .ok (.iconst (-1), 1) := by decide +kernel
theorem dX9_many_20 : decode cX9_many 20 = .ok (.invokevirtual 165, 3) := by decide +kernel
theorem dX9_many_23 : decode cX9_many 23 = .ok (.aload_n 0, 1) := by decide +kernel
theorem dX9_many_24 : decode cX9_many 24 = .ok (.getfield 156, 3) := by decide +kernel
theorem dX9_many_27 : decode cX9_many 27 = .ok (.ireturn, 1) := by decide +kernel
set_option maxRecDepth 20000 in
theorem ggX9_best_X9_isAsked : GoodIn wsX9_best wsX9_isAsked := goodIn_r _ [7, 8, 9, 6, 10, 11, 12, 13] (by decide +kernel) (by decide +kernel)
set_option maxRecDepth 20000 in
theorem gX9_best_X9_isAsked : GoodIn wsX9_best (va_wsS RX9 162 yX9_isAsked wsX9_isAsked) := goodIn_app (goodIn_of _ (by decide +kernel)) ggX9_best_X9_isAsked
set_option maxRecDepth 20000 in
theorem ggX9_best_X9_search : GoodIn wsX9_best wsX9_search := goodIn_r _ [17, 18, 19, 20, 2, 21, 22, 23, 6, 24, 25, 26, 27, 28, 29, 30, 31, 32, 33, 34, 35, 36, 37, 38, 39, 40, 41, 42, 43, 44, 45, 46, 47, 48, 49, 50, 51, 52, 53, 54, 55, 56, 57, 58, 59, 60, 61, 62, 63, 64, 65, 66, 67, 68, 69, 70, 71, 72, 73, 74, 75, 76, 77, 78, 79, 80, 81, 82, 83, 84, 85, 86, 87, 88, 89, 90, 91, 92, 93, 94, 95, 96, 97, 98, 99, 100, 101, 102, 103, 104, 105, 106, 107, 108, 109, 110] (by decide +kernel) (by decide +kernel)
set_option maxRecDepth 20000 in
theorem gX9_best_X9_search : GoodIn wsX9_best (wsV RX9 165 RX9 yX9_search wsX9_search) := goodIn_app (goodIn_of _ (by decide +kernel)) ggX9_best_X9_search
theorem dX9_best_0 : decode cX9_best 0 = .ok (.aload_n 0, 1) := by decide +kernel
theorem dX9_best_1 : decode cX9_best 1 = .ok (.iconst 0, 1) := by decide +kernel
theorem dX9_best_2 : decode cX9_best 2 = .ok (.putfield 58, 3) := by decide +kernel
theorem dX9_best_5 : decode cX9_best 5 = .ok (.iload_n 1, 1) := by decide +kernel
theorem dX9_best_6 : decode cX9_best 6 = .ok (.iload_n 2, 1) := by decide +kernel
theorem dX9_best_7 : decode cX9_best 7 = .ok (.invokestatic 162, 3) := by decide +kernel
theorem dX9_best_10 : decode cX9_best 10 = .ok (.ifCond .eq 7, 3) := by decide +kernel
theorem dX9_best_13 : decode cX9_best 13 = .ok (.iload_n 3, 1) := by decide +kernel
theorem dX9_best_14 : decode cX9_best 14 = .ok (.ifCond .ge 6, 3) := by decide +kernel
theorem dX9_best_17 : decode cX9_best 17 = .ok (.bipush (-3), 2) := by decide +kernel
theorem dX9_best_19 : decode cX9_best 19 = .ok (.ireturn, 1) := by decide +kernel
theorem dX9_best_20 : decode cX9_best 20 = .ok (.aload_n 0, 1) := by decide +kernel
theorem dX9_best_21 : decode cX9_best 21 = .ok (.iload_n 1, 1) := by decide +kernel
theorem dX9_best_22 : decode cX9_best 22 = .ok (.iload_n 2, 1) := by decide +kernel
theorem dX9_best_23 : decode cX9_best 23 = .ok (.iload_n 3, 1) := by decide +kernel
theorem dX9_best_24 : decode cX9_best 24 = .ok (.invokevirtual 165, 3) := by decide +kernel
theorem dX9_best_27 : decode cX9_best 27 = .ok (.aload_n 0, 1) := by decide +kernel
theorem dX9_best_28 : decode cX9_best 28 = .ok (.getfield 159, 3) := by decide +kernel
theorem dX9_best_31 : decode cX9_best 31 = .ok (.iconst (-1), 1) := by decide +kernel
theorem dX9_best_32 : decode cX9_best 32 = .ok (.if_icmp .ne 5, 3) := by decide +kernel
theorem dX9_best_35 : decode cX9_best 35 = .ok (.iconst (-1), 1) := by decide +kernel
theorem dX9_best_36 : decode cX9_best 36 = .ok (.ireturn, 1) := by decide +kernel
theorem dX9_best_37 : decode cX9_best 37 = .ok (.aload_n 0, 1) := by decide +kernel
theorem dX9_best_38 : decode cX9_best 38 = .ok (.aload_n 0, 1) := by decide +kernel
theorem dX9_best_39 : decode cX9_best 39 = .ok (.getfield 159, 3) := by decide +kernel
theorem dX9_best_42 : decode cX9_best 42 = .ok (.putfield 84, 3) := by decide +kernel
theorem dX9_best_45 : decode cX9_best 45 = .ok (.aload_n 0, 1) := by decide +kernel
theorem dX9_best_46 : decode cX9_best 46 = .ok (.getfield 159, 3) := by decide +kernel
theorem dX9_best_49 : decode cX9_best 49 = .ok (.ireturn, 1) := by decide +kernel
set_option maxRecDepth 20000 in
theorem ggX9_number_X9_isAsked : GoodIn wsX9_number wsX9_isAsked := goodIn_r _ [8, 9, 10, 7, 11, 12, 13, 14] (by decide +kernel) (by decide +kernel)
set_option maxRecDepth 20000 in
theorem gX9_number_X9_isAsked : GoodIn wsX9_number (va_wsS RX9 162 yX9_isAsked wsX9_isAsked) := goodIn_app (goodIn_of _ (by decide +kernel)) ggX9_number_X9_isAsked
set_option maxRecDepth 20000 in
theorem ggX9_number_X9_search : GoodIn wsX9_number wsX9_search := goodIn_r _ [18, 4, 3, 19, 20, 21, 22, 23, 7, 24, 25, 26, 27, 28, 29, 30, 31, 32, 33, 34, 35, 36, 37, 38, 39, 40, 41, 42, 43, 44, 45, 46, 47, 48, 49, 50, 51, 52, 53, 54, 55, 56, 57, 58, 59, 60, 61, 62, 63, 64, 65, 66, 67, 68, 69, 70, 71, 72, 73, 74, 75, 76, 77, 78, 79, 80, 81, 82, 83, 84, 85, 86, 87, 88, 89, 90, 91, 92, 93, 94, 95, 96, 97, 98, 99, 100, 101, 102, 103, 104, 105, 106, 107, 108, 109, 110] (by decide +kernel) (by decide +kernel)
set_option maxRecDepth 20000 in
theorem gX9_number_X9_search : GoodIn wsX9_number (wsV RX9 165 RX9 yX9_search wsX9_search) := goodIn_app (goodIn_of _ (by decide +kernel)) ggX9_number_X9_search
set_option maxRecDepth 20000 in
theorem ggX9_number_X9_sizeOf : GoodIn wsX9_number wsX9_sizeOf := goodIn_r _ [28] (by decide +kernel) (by decide +kernel)
set_option maxRecDepth 20000 in
theorem gX9_number_X9_sizeOf : GoodIn wsX9_number (va_wsS RX9 128 yX9_sizeOf wsX9_sizeOf) := goodIn_app (goodIn_of _ (by decide +kernel)) ggX9_number_X9_sizeOf
set_option maxRecDepth 20000 in
theorem ggX9_number_X9_costOf : GoodIn wsX9_number wsX9_costOf := goodIn_r _ [32, 33, 4, 34, 35, 26, 27, 7, 28, 36, 37, 38, 39, 40, 41, 42, 43, 44, 45, 46, 47, 48, 49, 50, 25, 51, 52, 53, 54, 55, 56, 57, 58, 59, 60, 61, 62, 63, 64, 65, 66, 67, 68, 69, 70, 71, 72, 73, 74, 75, 76, 77, 78, 79, 80, 81, 82, 83, 84, 85, 86, 87, 88, 89, 90, 91, 92, 93, 94, 95, 96, 97, 98, 99, 100, 101, 102, 103, 104, 105, 106, 107, 108, 109, 110] (by decide +kernel) (by decide +kernel)
set_option maxRecDepth 20000 in
theorem gX9_number_X9_costOf : GoodIn wsX9_number (wsV RX9 147 RX9 yX9_costOf wsX9_costOf) := goodIn_app (goodIn_of _ (by decide +kernel)) ggX9_number_X9_costOf
theorem dX9_number_0 : decode cX9_number 0 = .ok (.aload_n 0, 1) := by decide +kernel
theorem dX9_number_1 : decode cX9_number 1 = .ok (.iconst 0, 1) := by decide +kernel
theorem dX9_number_2 : decode cX9_number 2 = .ok (.putfield 58, 3) := by decide +kernel
theorem dX9_number_5 : decode cX9_number 5 = .ok (.iload_n 1, 1) := by decide +kernel
theorem dX9_number_6 : decode cX9_number 6 = .ok (.iload_n 2, 1) := by decide +kernel
theorem dX9_number_7 : decode cX9_number 7 = .ok (.invokestatic 162, 3) := by decide +kernel
theorem dX9_number_10 : decode cX9_number 10 = .ok (.ifCond .ne 6, 3) := by decide +kernel
theorem dX9_number_13 : decode cX9_number 13 = .ok (.bipush (-3), 2) := by decide +kernel
theorem dX9_number_15 : decode cX9_number 15 = .ok (.ireturn, 1) := by decide +kernel
theorem dX9_number_16 : decode cX9_number 16 = .ok (.aload_n 0, 1) := by decide +kernel
theorem dX9_number_17 : decode cX9_number 17 = .ok (.iload_n 1, 1) := by decide +kernel
theorem dX9_number_18 : decode cX9_number 18 = .ok (.iload_n 2, 1) := by decide +kernel
theorem dX9_number_19 : decode cX9_number 19 = .ok (.iconst (-1), 1) := by decide +kernel
theorem dX9_number_20 : decode cX9_number 20 = .ok (.invokevirtual 165, 3) := by decide +kernel
theorem dX9_number_23 : decode cX9_number 23 = .ok (.iload_n 2, 1) := by decide +kernel
theorem dX9_number_24 : decode cX9_number 24 = .ok (.iconst (-1), 1) := by decide +kernel
theorem dX9_number_25 : decode cX9_number 25 = .ok (.if_icmp .eq 14, 3) := by decide +kernel
theorem dX9_number_28 : decode cX9_number 28 = .ok (.aload_n 0, 1) := by decide +kernel
theorem dX9_number_29 : decode cX9_number 29 = .ok (.getfield 84, 3) := by decide +kernel
theorem dX9_number_32 : decode cX9_number 32 = .ok (.invokestatic 128, 3) := by decide +kernel
theorem dX9_number_35 : decode cX9_number 35 = .ok (.iload_n 2, 1) := by decide +kernel
theorem dX9_number_36 : decode cX9_number 36 = .ok (.if_icmp .ne 28, 3) := by decide +kernel
theorem dX9_number_39 : decode cX9_number 39 = .ok (.aload_n 0, 1) := by decide +kernel
theorem dX9_number_40 : decode cX9_number 40 = .ok (.getfield 153, 3) := by decide +kernel
theorem dX9_number_43 : decode cX9_number 43 = .ok (.ldc 121, 2) := by decide +kernel
theorem dX9_number_45 : decode cX9_number 45 = .ok (.if_icmp .eq 19, 3) := by decide +kernel
theorem dX9_number_48 : decode cX9_number 48 = .ok (.aload_n 0, 1) := by decide +kernel
theorem dX9_number_49 : decode cX9_number 49 = .ok (.iload_n 1, 1) := by decide +kernel
theorem dX9_number_50 : decode cX9_number 50 = .ok (.aload_n 0, 1) := by decide +kernel
theorem dX9_number_51 : decode cX9_number 51 = .ok (.getfield 84, 3) := by decide +kernel
theorem dX9_number_54 : decode cX9_number 54 = .ok (.invokevirtual 147, 3) := by decide +kernel
theorem dX9_number_57 : decode cX9_number 57 = .ok (.aload_n 0, 1) := by decide +kernel
theorem dX9_number_58 : decode cX9_number 58 = .ok (.getfield 153, 3) := by decide +kernel
theorem dX9_number_61 : decode cX9_number 61 = .ok (.if_icmp .eq 5, 3) := by decide +kernel
theorem dX9_number_64 : decode cX9_number 64 = .ok (.iconst (-1), 1) := by decide +kernel
theorem dX9_number_65 : decode cX9_number 65 = .ok (.ireturn, 1) := by decide +kernel
theorem dX9_number_66 : decode cX9_number 66 = .ok (.iconst 0, 1) := by decide +kernel
theorem dX9_number_67 : decode cX9_number 67 = .ok (.istore_n 3, 1) := by decide +kernel
theorem dX9_number_68 : decode cX9_number 68 = .ok (.iconst 0, 1) := by decide +kernel
theorem dX9_number_69 : decode cX9_number 69 = .ok (.istore 4, 2) := by decide +kernel
theorem dX9_number_71 : decode cX9_number 71 = .ok (.iload 4, 2) := by decide +kernel
theorem dX9_number_73 : decode cX9_number 73 = .ok (.aload_n 0, 1) := by decide +kernel
theorem dX9_number_74 : decode cX9_number 74 = .ok (.getfield 84, 3) := by decide +kernel
theorem dX9_number_77 : decode cX9_number 77 = .ok (.if_icmp .ge 45, 3) := by decide +kernel
theorem dX9_number_80 : decode cX9_number 80 = .ok (.iload_n 3, 1) := by decide +kernel
theorem dX9_number_81 : decode cX9_number 81 = .ok (.iload_n 2, 1) := by decide +kernel
theorem dX9_number_82 : decode cX9_number 82 = .ok (.iconst (-1), 1) := by decide +kernel
theorem dX9_number_83 : decode cX9_number 83 = .ok (.if_icmp .eq 12, 3) := by decide +kernel
theorem dX9_number_86 : decode cX9_number 86 = .ok (.iload 4, 2) := by decide +kernel
theorem dX9_number_88 : decode cX9_number 88 = .ok (.invokestatic 128, 3) := by decide +kernel
theorem dX9_number_91 : decode cX9_number 91 = .ok (.iload_n 2, 1) := by decide +kernel
theorem dX9_number_92 : decode cX9_number 92 = .ok (.if_icmp .ne 21, 3) := by decide +kernel
theorem dX9_number_95 : decode cX9_number 95 = .ok (.aload_n 0, 1) := by decide +kernel
theorem dX9_number_96 : decode cX9_number 96 = .ok (.iload_n 1, 1) := by decide +kernel
theorem dX9_number_97 : decode cX9_number 97 = .ok (.iload 4, 2) := by decide +kernel
theorem dX9_number_99 : decode cX9_number 99 = .ok (.invokevirtual 147, 3) := by decide +kernel
theorem dX9_number_102 : decode cX9_number 102 = .ok (.aload_n 0, 1) := by decide +kernel
theorem dX9_number_103 : decode cX9_number 103 = .ok (.getfield 153, 3) := by decide +kernel
theorem dX9_number_106 : decode cX9_number 106 = .ok (.if_icmp .ne 7, 3) := by decide +kernel
theorem dX9_number_109 : decode cX9_number 109 = .ok (.iconst 1, 1) := by decide +kernel
theorem dX9_number_110 : decode cX9_number 110 = .ok (.goto 4, 3) := by decide +kernel
theorem dX9_number_113 : decode cX9_number 113 = .ok (.iconst 0, 1) := by decide +kernel
theorem dX9_number_114 : decode cX9_number 114 = .ok (.iadd, 1) := by decide +kernel
theorem dX9_number_115 : decode cX9_number 115 = .ok (.istore_n 3, 1) := by decide +kernel
theorem dX9_number_116 : decode cX9_number 116 = .ok (.iinc 4 1, 3) := by decide +kernel
theorem dX9_number_119 : decode cX9_number 119 = .ok (.goto (-48), 3) := by decide +kernel
theorem dX9_number_122 : decode cX9_number 122 = .ok (.iload_n 3, 1) := by decide +kernel
theorem dX9_number_123 : decode cX9_number 123 = .ok (.ireturn, 1) := by decide +kernel
set_option maxRecDepth 20000 in
theorem ggX9_areNear_X9_sizeOf : GoodIn wsX9_areNear wsX9_sizeOf := goodIn_r _ [4] (by decide +kernel) (by decide +kernel)
set_option maxRecDepth 20000 in
theorem gX9_areNear_X9_sizeOf : GoodIn wsX9_areNear (va_wsS RX9 128 yX9_sizeOf wsX9_sizeOf) := goodIn_app (goodIn_of _ (by decide +kernel)) ggX9_areNear_X9_sizeOf
theorem dX9_areNear_0 : decode cX9_areNear 0 = .ok (.iload_n 0, 1) := by decide +kernel
theorem dX9_areNear_1 : decode cX9_areNear 1 = .ok (.iload_n 1, 1) := by decide +kernel
theorem dX9_areNear_2 : decode cX9_areNear 2 = .ok (.iconst (-1), 1) := by decide +kernel
theorem dX9_areNear_3 : decode cX9_areNear 3 = .ok (.ixor, 1) := by decide +kernel
theorem dX9_areNear_4 : decode cX9_areNear 4 = .ok (.iand, 1) := by decide +kernel
theorem dX9_areNear_5 : decode cX9_areNear 5 = .ok (.invokestatic 128, 3) := by decide +kernel
theorem dX9_areNear_8 : decode cX9_areNear 8 = .ok (.istore_n 2, 1) := by decide +kernel
theorem dX9_areNear_9 : decode cX9_areNear 9 = .ok (.iload_n 1, 1) := by decide +kernel
theorem dX9_areNear_10 : decode cX9_areNear 10 = .ok (.iload_n 0, 1) := by decide +kernel
theorem dX9_areNear_11 : decode cX9_areNear 11 = .ok (.iconst (-1), 1) := by decide +kernel
theorem dX9_areNear_12 : decode cX9_areNear 12 = .ok (.ixor, 1) := by decide +kernel
theorem dX9_areNear_13 : decode cX9_areNear 13 = .ok (.iand, 1) := by decide +kernel
theorem dX9_areNear_14 : decode cX9_areNear 14 = .ok (.invokestatic 128, 3) := by decide +kernel
theorem dX9_areNear_17 : decode cX9_areNear 17 = .ok (.istore_n 3, 1) := by decide +kernel
theorem dX9_areNear_18 : decode cX9_areNear 18 = .ok (.iload_n 2, 1) := by decide +kernel
theorem dX9_areNear_19 : decode cX9_areNear 19 = .ok (.iconst 1, 1) := by decide +kernel
theorem dX9_areNear_20 : decode cX9_areNear 20 = .ok (.if_icmp .gt 18, 3) := by decide +kernel
theorem dX9_areNear_23 : decode cX9_areNear 23 = .ok (.iload_n 3, 1) := by decide +kernel
theorem dX9_areNear_24 : decode cX9_areNear 24 = .ok (.iconst 1, 1) := by decide +kernel
theorem dX9_areNear_25 : decode cX9_areNear 25 = .ok (.if_icmp .gt 13, 3) := by decide +kernel
theorem dX9_areNear_28 : decode cX9_areNear 28 = .ok (.iload_n 2, 1) := by decide +kernel
theorem dX9_areNear_29 : decode cX9_areNear 29 = .ok (.iload_n 3, 1) := by decide +kernel
theorem dX9_areNear_30 : decode cX9_areNear 30 = .ok (.iadd, 1) := by decide +kernel
theorem dX9_areNear_31 : decode cX9_areNear 31 = .ok (.ifCond .le 7, 3) := by decide +kernel
theorem dX9_areNear_34 : decode cX9_areNear 34 = .ok (.iconst 1, 1) := by decide +kernel
theorem dX9_areNear_35 : decode cX9_areNear 35 = .ok (.goto 4, 3) := by decide +kernel
theorem dX9_areNear_38 : decode cX9_areNear 38 = .ok (.iconst 0, 1) := by decide +kernel
theorem dX9_areNear_39 : decode cX9_areNear 39 = .ok (.ireturn, 1) := by decide +kernel
set_option maxRecDepth 20000 in
theorem ggX9_better_X9_isKind : GoodIn wsX9_better wsX9_isKind := goodIn_r _ [6, 7, 8, 5, 9] (by decide +kernel) (by decide +kernel)
set_option maxRecDepth 20000 in
theorem gX9_better_X9_isKind : GoodIn wsX9_better (va_wsS RX9 144 yX9_isKind wsX9_isKind) := goodIn_app (goodIn_of _ (by decide +kernel)) ggX9_better_X9_isKind
set_option maxRecDepth 20000 in
theorem ggX9_better_X9_in : GoodIn wsX9_better wsX9_in := goodIn_r _ [9] (by decide +kernel) (by decide +kernel)
set_option maxRecDepth 20000 in
theorem gX9_better_X9_in : GoodIn wsX9_better (va_wsS RX9 91 yX9_in wsX9_in) := goodIn_app (goodIn_of _ (by decide +kernel)) ggX9_better_X9_in
set_option maxRecDepth 20000 in
theorem ggX9_better_X9_costOf : GoodIn wsX9_better wsX9_costOf := goodIn_r _ [13, 14, 15, 16, 17, 18, 19, 5, 20, 21, 22, 23, 24, 25, 26, 27, 28, 29, 30, 31, 32, 33, 34, 35, 36, 37, 38, 39, 40, 41, 42, 43, 44, 45, 46, 47, 48, 49, 50, 51, 52, 53, 54, 55, 56, 57, 58, 59, 60, 61, 62, 63, 64, 65, 66, 67, 68, 76, 77, 78, 79, 80, 81, 82, 83, 84, 85, 86, 87, 88, 89, 90, 91, 92, 93, 94, 95, 96, 97, 98, 99, 100, 101, 102, 103] (by decide +kernel) (by decide +kernel)
set_option maxRecDepth 20000 in
theorem gX9_better_X9_costOf : GoodIn wsX9_better (wsV RX9 147 RX9 yX9_costOf wsX9_costOf) := goodIn_app (goodIn_of _ (by decide +kernel)) ggX9_better_X9_costOf
set_option maxRecDepth 20000 in
theorem ggX9_better_X9_allHalls : GoodIn wsX9_better wsX9_allHalls := goodIn_r _ [72, 36, 76, 77, 78, 79, 80, 81, 82, 83, 84, 85, 86, 87, 88, 89, 90, 91, 92, 93, 94, 95, 96, 97, 98, 99, 100, 101, 102, 103] (by decide +kernel) (by decide +kernel)
set_option maxRecDepth 20000 in
theorem gX9_better_X9_allHalls : GoodIn wsX9_better (wsV RX9 87 RX9 yX9_allHalls wsX9_allHalls) := goodIn_app (goodIn_of _ (by decide +kernel)) ggX9_better_X9_allHalls
set_option maxRecDepth 20000 in
theorem ggX9_better_X9_areNear : GoodIn wsX9_better wsX9_areNear := goodIn_r _ [75, 18, 19, 5, 20] (by decide +kernel) (by decide +kernel)
set_option maxRecDepth 20000 in
theorem gX9_better_X9_areNear : GoodIn wsX9_better (va_wsS RX9 169 yX9_areNear wsX9_areNear) := goodIn_app (goodIn_of _ (by decide +kernel)) ggX9_better_X9_areNear
theorem dX9_better_0 : decode cX9_better 0 = .ok (.aload_n 0, 1) := by decide +kernel
theorem dX9_better_1 : decode cX9_better 1 = .ok (.iconst 0, 1) := by decide +kernel
theorem dX9_better_2 : decode cX9_better 2 = .ok (.putfield 58, 3) := by decide +kernel
theorem dX9_better_5 : decode cX9_better 5 = .ok (.iload_n 1, 1) := by decide +kernel
theorem dX9_better_6 : decode cX9_better 6 = .ok (.invokestatic 144, 3) := by decide +kernel
theorem dX9_better_9 : decode cX9_better 9 = .ok (.ifCond .eq 13, 3) := by decide +kernel
theorem dX9_better_12 : decode cX9_better 12 = .ok (.iload_n 2, 1) := by decide +kernel
theorem dX9_better_13 : decode cX9_better 13 = .ok (.iconst 1, 1) := by decide +kernel
theorem dX9_better_14 : decode cX9_better 14 = .ok (.bipush 60, 2) := by decide +kernel
theorem dX9_better_16 : decode cX9_better 16 = .ok (.invokestatic 91, 3) := by decide +kernel
theorem dX9_better_19 : decode cX9_better 19 = .ok (.ifCond .ne 6, 3) := by decide +kernel
theorem dX9_better_22 : decode cX9_better 22 = .ok (.bipush (-3), 2) := by decide +kernel
theorem dX9_better_24 : decode cX9_better 24 = .ok (.ireturn, 1) := by decide +kernel
theorem dX9_better_25 : decode cX9_better 25 = .ok (.iconst 0, 1) := by decide +kernel
theorem dX9_better_26 : decode cX9_better 26 = .ok (.istore_n 3, 1) := by decide +kernel
theorem dX9_better_27 : decode cX9_better 27 = .ok (.iconst 1, 1) := by decide +kernel
theorem dX9_better_28 : decode cX9_better 28 = .ok (.istore 4, 2) := by decide +kernel
theorem dX9_better_30 : decode cX9_better 30 = .ok (.iload 4, 2) := by decide +kernel
theorem dX9_better_32 : decode cX9_better 32 = .ok (.ifCond .eq 140, 3) := by decide +kernel
theorem dX9_better_35 : decode cX9_better 35 = .ok (.iload_n 3, 1) := by decide +kernel
theorem dX9_better_36 : decode cX9_better 36 = .ok (.iload_n 2, 1) := by decide +kernel
theorem dX9_better_37 : decode cX9_better 37 = .ok (.if_icmp .ge 135, 3) := by decide +kernel
theorem dX9_better_40 : decode cX9_better 40 = .ok (.aload_n 0, 1) := by decide +kernel
theorem dX9_better_41 : decode cX9_better 41 = .ok (.iload_n 1, 1) := by decide +kernel
theorem dX9_better_42 : decode cX9_better 42 = .ok (.aload_n 0, 1) := by decide +kernel
theorem dX9_better_43 : decode cX9_better 43 = .ok (.getfield 84, 3) := by decide +kernel
theorem dX9_better_46 : decode cX9_better 46 = .ok (.invokevirtual 147, 3) := by decide +kernel
theorem dX9_better_49 : decode cX9_better 49 = .ok (.istore 5, 2) := by decide +kernel
theorem dX9_better_51 : decode cX9_better 51 = .ok (.iconst (-1), 1) := by decide +kernel
theorem dX9_better_52 : decode cX9_better 52 = .ok (.istore 6, 2) := by decide +kernel
theorem dX9_better_54 : decode cX9_better 54 = .ok (.iconst 0, 1) := by decide +kernel
theorem dX9_better_55 : decode cX9_better 55 = .ok (.istore 7, 2) := by decide +kernel
theorem dX9_better_57 : decode cX9_better 57 = .ok (.iload 7, 2) := by decide +kernel
theorem dX9_better_59 : decode cX9_better 59 = .ok (.aload_n 0, 1) := by decide +kernel
theorem dX9_better_60 : decode cX9_better 60 = .ok (.invokevirtual 87, 3) := by decide +kernel
theorem dX9_better_63 : decode cX9_better 63 = .ok (.if_icmp .gt 62, 3) := by decide +kernel
theorem dX9_better_66 : decode cX9_better 66 = .ok (.iload 7, 2) := by decide +kernel
theorem dX9_better_68 : decode cX9_better 68 = .ok (.aload_n 0, 1) := by decide +kernel
theorem dX9_better_69 : decode cX9_better 69 = .ok (.getfield 84, 3) := by decide +kernel
theorem dX9_better_72 : decode cX9_better 72 = .ok (.invokestatic 169, 3) := by decide +kernel
theorem dX9_better_75 : decode cX9_better 75 = .ok (.ifCond .eq 44, 3) := by decide +kernel
theorem dX9_better_78 : decode cX9_better 78 = .ok (.aload_n 0, 1) := by decide +kernel
theorem dX9_better_79 : decode cX9_better 79 = .ok (.iload_n 1, 1) := by decide +kernel
theorem dX9_better_80 : decode cX9_better 80 = .ok (.iload 7, 2) := by decide +kernel
theorem dX9_better_82 : decode cX9_better 82 = .ok (.invokevirtual 147, 3) := by decide +kernel
theorem dX9_better_85 : decode cX9_better 85 = .ok (.istore 8, 2) := by decide +kernel
theorem dX9_better_87 : decode cX9_better 87 = .ok (.iload 8, 2) := by decide +kernel
theorem dX9_better_89 : decode cX9_better 89 = .ok (.iload 5, 2) := by decide +kernel
theorem dX9_better_91 : decode cX9_better 91 = .ok (.if_icmp .ge 8, 3) := by decide +kernel
theorem dX9_better_94 : decode cX9_better 94 = .ok (.iload 7, 2) := by decide +kernel
theorem dX9_better_96 : decode cX9_better 96 = .ok (.goto 5, 3) := by decide +kernel
theorem dX9_better_99 : decode cX9_better 99 = .ok (.iload 6, 2) := by decide +kernel
theorem dX9_better_101 : decode cX9_better 101 = .ok (.istore 6, 2) := by decide +kernel
theorem dX9_better_103 : decode cX9_better 103 = .ok (.iload 8, 2) := by decide +kernel
theorem dX9_better_105 : decode cX9_better 105 = .ok (.iload 5, 2) := by decide +kernel
theorem dX9_better_107 : decode cX9_better 107 = .ok (.if_icmp .ge 8, 3) := by decide +kernel
theorem dX9_better_110 : decode cX9_better 110 = .ok (.iload 8, 2) := by decide +kernel
theorem dX9_better_112 : decode cX9_better 112 = .ok (.goto 5, 3) := by decide +kernel
theorem dX9_better_115 : decode cX9_better 115 = .ok (.iload 5, 2) := by decide +kernel
theorem dX9_better_117 : decode cX9_better 117 = .ok (.istore 5, 2) := by decide +kernel
theorem dX9_better_119 : decode cX9_better 119 = .ok (.iinc 7 1, 3) := by decide +kernel
theorem dX9_better_122 : decode cX9_better 122 = .ok (.goto (-65), 3) := by decide +kernel
theorem dX9_better_125 : decode cX9_better 125 = .ok (.iload 6, 2) := by decide +kernel
theorem dX9_better_127 : decode cX9_better 127 = .ok (.iconst (-1), 1) := by decide +kernel
theorem dX9_better_128 : decode cX9_better 128 = .ok (.if_icmp .eq 7, 3) := by decide +kernel
theorem dX9_better_131 : decode cX9_better 131 = .ok (.iconst 1, 1) := by decide +kernel
theorem dX9_better_132 : decode cX9_better 132 = .ok (.goto 4, 3) := by decide +kernel
theorem dX9_better_135 : decode cX9_better 135 = .ok (.iconst 0, 1) := by decide +kernel
theorem dX9_better_136 : decode cX9_better 136 = .ok (.istore 4, 2) := by decide +kernel
theorem dX9_better_138 : decode cX9_better 138 = .ok (.aload_n 0, 1) := by decide +kernel
theorem dX9_better_139 : decode cX9_better 139 = .ok (.iload 4, 2) := by decide +kernel
theorem dX9_better_141 : decode cX9_better 141 = .ok (.ifCond .eq 8, 3) := by decide +kernel
theorem dX9_better_144 : decode cX9_better 144 = .ok (.iload 6, 2) := by decide +kernel
theorem dX9_better_146 : decode cX9_better 146 = .ok (.goto 7, 3) := by decide +kernel
theorem dX9_better_149 : decode cX9_better 149 = .ok (.aload_n 0, 1) := by decide +kernel
theorem dX9_better_150 : decode cX9_better 150 = .ok (.getfield 84, 3) := by decide +kernel
theorem dX9_better_153 : decode cX9_better 153 = .ok (.putfield 84, 3) := by decide +kernel
theorem dX9_better_156 : decode cX9_better 156 = .ok (.iload_n 3, 1) := by decide +kernel
theorem dX9_better_157 : decode cX9_better 157 = .ok (.iload 4, 2) := by decide +kernel
theorem dX9_better_159 : decode cX9_better 159 = .ok (.ifCond .eq 7, 3) := by decide +kernel
theorem dX9_better_162 : decode cX9_better 162 = .ok (.iconst 1, 1) := by decide +kernel
theorem dX9_better_163 : decode cX9_better 163 = .ok (.goto 4, 3) := by decide +kernel
theorem dX9_better_166 : decode cX9_better 166 = .ok (.iconst 0, 1) := by decide +kernel
theorem dX9_better_167 : decode cX9_better 167 = .ok (.iadd, 1) := by decide +kernel
theorem dX9_better_168 : decode cX9_better 168 = .ok (.istore_n 3, 1) := by decide +kernel
theorem dX9_better_169 : decode cX9_better 169 = .ok (.goto (-139), 3) := by decide +kernel
theorem dX9_better_172 : decode cX9_better 172 = .ok (.iload_n 3, 1) := by decide +kernel
theorem dX9_better_173 : decode cX9_better 173 = .ok (.ireturn, 1) := by decide +kernel
set_option maxRecDepth 20000 in
theorem ggX9_claim_X9_isTown : GoodIn wsX9_claim wsX9_isTown := goodIn_r _ [8, 9, 10, 11, 7, 12, 13, 14, 15, 16, 17, 18, 19, 20, 21, 22, 23, 24, 25, 26, 27, 28, 29, 30, 31, 32, 33, 34, 35, 36, 37, 38, 39, 40] (by decide +kernel) (by decide +kernel)
set_option maxRecDepth 20000 in
theorem gX9_claim_X9_isTown : GoodIn wsX9_claim (wsV RX9 98 RX9 yX9_isTown wsX9_isTown) := goodIn_app (goodIn_of _ (by decide +kernel)) ggX9_claim_X9_isTown
set_option maxRecDepth 20000 in
theorem ggX9_claim_X9_in : GoodIn wsX9_claim wsX9_in := goodIn_r _ [12] (by decide +kernel) (by decide +kernel)
set_option maxRecDepth 20000 in
theorem gX9_claim_X9_in : GoodIn wsX9_claim (va_wsS RX9 91 yX9_in wsX9_in) := goodIn_app (goodIn_of _ (by decide +kernel)) ggX9_claim_X9_in
theorem dX9_claim_0 : decode cX9_claim 0 = .ok (.aload_n 0, 1) := by decide +kernel
theorem dX9_claim_1 : decode cX9_claim 1 = .ok (.iconst 0, 1) := by decide +kernel
theorem dX9_claim_2 : decode cX9_claim 2 = .ok (.putfield 58, 3) := by decide +kernel
theorem dX9_claim_5 : decode cX9_claim 5 = .ok (.aload_n 0, 1) := by decide +kernel
theorem dX9_claim_6 : decode cX9_claim 6 = .ok (.iload_n 1, 1) := by decide +kernel
theorem dX9_claim_7 : decode cX9_claim 7 = .ok (.invokevirtual 98, 3) := by decide +kernel
theorem dX9_claim_10 : decode cX9_claim 10 = .ok (.ifCond .eq 13, 3) := by decide +kernel
theorem dX9_claim_13 : decode cX9_claim 13 = .ok (.iload_n 2, 1) := by decide +kernel
theorem dX9_claim_14 : decode cX9_claim 14 = .ok (.iconst 0, 1) := by decide +kernel
theorem dX9_claim_15 : decode cX9_claim 15 = .ok (.ldc 106, 2) := by decide +kernel
theorem dX9_claim_17 : decode cX9_claim 17 = .ok (.invokestatic 91, 3) := by decide +kernel
theorem dX9_claim_20 : decode cX9_claim 20 = .ok (.ifCond .ne 6, 3) := by decide +kernel
theorem dX9_claim_23 : decode cX9_claim 23 = .ok (.bipush (-3), 2) := by decide +kernel
theorem dX9_claim_25 : decode cX9_claim 25 = .ok (.ireturn, 1) := by decide +kernel
theorem dX9_claim_26 : decode cX9_claim 26 = .ok (.aload_n 0, 1) := by decide +kernel
theorem dX9_claim_27 : decode cX9_claim 27 = .ok (.getfield 37, 3) := by decide +kernel
theorem dX9_claim_30 : decode cX9_claim 30 = .ok (.iload_n 1, 1) := by decide +kernel
theorem dX9_claim_31 : decode cX9_claim 31 = .ok (.iaload, 1) := by decide +kernel
theorem dX9_claim_32 : decode cX9_claim 32 = .ok (.istore_n 3, 1) := by decide +kernel
theorem dX9_claim_33 : decode cX9_claim 33 = .ok (.aload_n 0, 1) := by decide +kernel
theorem dX9_claim_34 : decode cX9_claim 34 = .ok (.getfield 37, 3) := by decide +kernel
theorem dX9_claim_37 : decode cX9_claim 37 = .ok (.iload_n 1, 1) := by decide +kernel
theorem dX9_claim_38 : decode cX9_claim 38 = .ok (.iload_n 2, 1) := by decide +kernel
theorem dX9_claim_39 : decode cX9_claim 39 = .ok (.iastore, 1) := by decide +kernel
theorem dX9_claim_40 : decode cX9_claim 40 = .ok (.iload_n 3, 1) := by decide +kernel
theorem dX9_claim_41 : decode cX9_claim 41 = .ok (.ireturn, 1) := by decide +kernel
set_option maxRecDepth 20000 in
theorem ggX9_claimed_X9_isTown : GoodIn wsX9_claimed wsX9_isTown := goodIn_r _ [7, 8, 9, 10, 6, 11, 12, 13, 14, 15, 16, 17, 18, 19, 20, 21, 22, 23, 24, 25, 26, 27, 28, 29, 30, 31, 32, 33, 34, 35, 36, 37, 38, 39] (by decide +kernel) (by decide +kernel)
set_option maxRecDepth 20000 in
theorem gX9_claimed_X9_isTown : GoodIn wsX9_claimed (wsV RX9 98 RX9 yX9_isTown wsX9_isTown) := goodIn_app (goodIn_of _ (by decide +kernel)) ggX9_claimed_X9_isTown
theorem dX9_claimed_0 : decode cX9_claimed 0 = .ok (.aload_n 0, 1) := by decide +kernel
theorem dX9_claimed_1 : decode cX9_claimed 1 = .ok (.iconst 0, 1) := by decide +kernel
theorem dX9_claimed_2 : decode cX9_claimed 2 = .ok (.putfield 58, 3) := by decide +kernel
theorem dX9_claimed_5 : decode cX9_claimed 5 = .ok (.aload_n 0, 1) := by decide +kernel
theorem dX9_claimed_6 : decode cX9_claimed 6 = .ok (.iload_n 1, 1) := by decide +kernel
theorem dX9_claimed_7 : decode cX9_claimed 7 = .ok (.invokevirtual 98, 3) := by decide +kernel
theorem dX9_claimed_10 : decode cX9_claimed 10 = .ok (.ifCond .eq 12, 3) := by decide +kernel
theorem dX9_claimed_13 : decode cX9_claimed 13 = .ok (.aload_n 0, 1) := by decide +kernel
theorem dX9_claimed_14 : decode cX9_claimed 14 = .ok (.getfield 37, 3) := by decide +kernel
theorem dX9_claimed_17 : decode cX9_claimed 17 = .ok (.iload_n 1, 1) := by decide +kernel
theorem dX9_claimed_18 : decode cX9_claimed 18 = .ok (.iaload, 1) := by decide +kernel
theorem dX9_claimed_19 : decode cX9_claimed 19 = .ok (.goto 5, 3) := by decide +kernel
theorem dX9_claimed_22 : decode cX9_claimed 22 = .ok (.bipush (-3), 2) := by decide +kernel
theorem dX9_claimed_24 : decode cX9_claimed 24 = .ok (.ireturn, 1) := by decide +kernel
set_option maxRecDepth 20000 in
theorem ggX9_together_X9_has : GoodIn wsX9_together wsX9_has := goodIn_r _ [6] (by decide +kernel) (by decide +kernel)
set_option maxRecDepth 20000 in
theorem gX9_together_X9_has : GoodIn wsX9_together (va_wsS RX9 111 yX9_has wsX9_has) := goodIn_app (goodIn_of _ (by decide +kernel)) ggX9_together_X9_has
theorem dX9_together_0 : decode cX9_together 0 = .ok (.iconst 0, 1) := by decide +kernel
theorem dX9_together_1 : decode cX9_together 1 = .ok (.istore_n 2, 1) := by decide +kernel
theorem dX9_together_2 : decode cX9_together 2 = .ok (.iconst 0, 1) := by decide +kernel
theorem dX9_together_3 : decode cX9_together 3 = .ok (.istore_n 3, 1) := by decide +kernel
theorem dX9_together_4 : decode cX9_together 4 = .ok (.iload_n 3, 1) := by decide +kernel
theorem dX9_together_5 : decode cX9_together 5 = .ok (.aload_n 0, 1) := by decide +kernel
theorem dX9_together_6 : decode cX9_together 6 = .ok (.getfield 68, 3) := by decide +kernel
theorem dX9_together_9 : decode cX9_together 9 = .ok (.if_icmp .ge 30, 3) := by decide +kernel
theorem dX9_together_12 : decode cX9_together 12 = .ok (.iload_n 2, 1) := by decide +kernel
theorem dX9_together_13 : decode cX9_together 13 = .ok (.iload_n 1, 1) := by decide +kernel
theorem dX9_together_14 : decode cX9_together 14 = .ok (.iload_n 3, 1) := by decide +kernel
theorem dX9_together_15 : decode cX9_together 15 = .ok (.invokestatic 111, 3) := by decide +kernel
theorem dX9_together_18 : decode cX9_together 18 = .ok (.ifCond .eq 12, 3) := by decide +kernel
theorem dX9_together_21 : decode cX9_together 21 = .ok (.aload_n 0, 1) := by decide +kernel
theorem dX9_together_22 : decode cX9_together 22 = .ok (.getfield 37, 3) := by decide +kernel
theorem dX9_together_25 : decode cX9_together 25 = .ok (.iload_n 3, 1) := by decide +kernel
theorem dX9_together_26 : decode cX9_together 26 = .ok (.iaload, 1) := by decide +kernel
theorem dX9_together_27 : decode cX9_together 27 = .ok (.goto 4, 3) := by decide +kernel
theorem dX9_together_30 : decode cX9_together 30 = .ok (.iconst 0, 1) := by decide +kernel
theorem dX9_together_31 : decode cX9_together 31 = .ok (.iadd, 1) := by decide +kernel
theorem dX9_together_32 : decode cX9_together 32 = .ok (.istore_n 2, 1) := by decide +kernel
theorem dX9_together_33 : decode cX9_together 33 = .ok (.iinc 3 1, 3) := by decide +kernel
theorem dX9_together_36 : decode cX9_together 36 = .ok (.goto (-32), 3) := by decide +kernel
theorem dX9_together_39 : decode cX9_together 39 = .ok (.iload_n 2, 1) := by decide +kernel
theorem dX9_together_40 : decode cX9_together 40 = .ok (.ireturn, 1) := by decide +kernel
set_option maxRecDepth 20000 in
theorem ggX9_notHeld_X9_wayOf : GoodIn wsX9_notHeld wsX9_wayOf := goodIn_r _ [10, 11, 12, 13, 14, 15, 16, 17, 18, 19, 20, 21, 22, 23, 24, 25, 26, 27, 28, 29, 30, 31, 32, 33, 34, 35, 36, 37, 38, 39, 40, 41, 42] (by decide +kernel) (by decide +kernel)
set_option maxRecDepth 20000 in
theorem gX9_notHeld_X9_wayOf : GoodIn wsX9_notHeld (wsV RX9 107 RX9 yX9_wayOf wsX9_wayOf) := goodIn_app (goodIn_of _ (by decide +kernel)) ggX9_notHeld_X9_wayOf
theorem dX9_notHeld_0 : decode cX9_notHeld 0 = .ok (.iconst 0, 1) := by decide +kernel
theorem dX9_notHeld_1 : decode cX9_notHeld 1 = .ok (.istore_n 1, 1) := by decide +kernel
theorem dX9_notHeld_2 : decode cX9_notHeld 2 = .ok (.iload_n 1, 1) := by decide +kernel
theorem dX9_notHeld_3 : decode cX9_notHeld 3 = .ok (.aload_n 0, 1) := by decide +kernel
theorem dX9_notHeld_4 : decode cX9_notHeld 4 = .ok (.getfield 71, 3) := by decide +kernel
theorem dX9_notHeld_7 : decode cX9_notHeld 7 = .ok (.if_icmp .ge 75, 3) := by decide +kernel
theorem dX9_notHeld_10 : decode cX9_notHeld 10 = .ok (.iconst 0, 1) := by decide +kernel
theorem dX9_notHeld_11 : decode cX9_notHeld 11 = .ok (.istore_n 2, 1) := by decide +kernel
theorem dX9_notHeld_12 : decode cX9_notHeld 12 = .ok (.iconst 0, 1) := by decide +kernel
theorem dX9_notHeld_13 : decode cX9_notHeld 13 = .ok (.istore_n 3, 1) := by decide +kernel
theorem dX9_notHeld_14 : decode cX9_notHeld 14 = .ok (.iload_n 3, 1) := by decide +kernel
theorem dX9_notHeld_15 : decode cX9_notHeld 15 = .ok (.aload_n 0, 1) := by decide +kernel
theorem dX9_notHeld_16 : decode cX9_notHeld 16 = .ok (.getfield 68, 3) := by decide +kernel
theorem dX9_notHeld_19 : decode cX9_notHeld 19 = .ok (.if_icmp .ge 45, 3) := by decide +kernel
theorem dX9_notHeld_22 : decode cX9_notHeld 22 = .ok (.aload_n 0, 1) := by decide +kernel
theorem dX9_notHeld_23 : decode cX9_notHeld 23 = .ok (.getfield 37, 3) := by decide +kernel
theorem dX9_notHeld_26 : decode cX9_notHeld 26 = .ok (.iload_n 3, 1) := by decide +kernel
theorem dX9_notHeld_27 : decode cX9_notHeld 27 = .ok (.iaload, 1) := by decide +kernel
theorem dX9_notHeld_28 : decode cX9_notHeld 28 = .ok (.aload_n 0, 1) := by decide +kernel
theorem dX9_notHeld_29 : decode cX9_notHeld 29 = .ok (.getfield 7, 3) := by decide +kernel
theorem dX9_notHeld_32 : decode cX9_notHeld 32 = .ok (.iload_n 3, 1) := by decide +kernel
theorem dX9_notHeld_33 : decode cX9_notHeld 33 = .ok (.iaload, 1) := by decide +kernel
theorem dX9_notHeld_34 : decode cX9_notHeld 34 = .ok (.aload_n 0, 1) := by decide +kernel
theorem dX9_notHeld_35 : decode cX9_notHeld 35 = .ok (.iload_n 1, 1) := by decide +kernel
theorem dX9_notHeld_36 : decode cX9_notHeld 36 = .ok (.iload_n 3, 1) := by decide +kernel
theorem dX9_notHeld_37 : decode cX9_notHeld 37 = .ok (.invokevirtual 107, 3) := by decide +kernel
theorem dX9_notHeld_40 : decode cX9_notHeld 40 = .ok (.imul, 1) := by decide +kernel
theorem dX9_notHeld_41 : decode cX9_notHeld 41 = .ok (.isub, 1) := by decide +kernel
theorem dX9_notHeld_42 : decode cX9_notHeld 42 = .ok (.istore 4, 2) := by decide +kernel
theorem dX9_notHeld_44 : decode cX9_notHeld 44 = .ok (.iload_n 2, 1) := by decide +kernel
theorem dX9_notHeld_45 : decode cX9_notHeld 45 = .ok (.iload 4, 2) := by decide +kernel
theorem dX9_notHeld_47 : decode cX9_notHeld 47 = .ok (.ifCond .le 8, 3) := by decide +kernel
theorem dX9_notHeld_50 : decode cX9_notHeld 50 = .ok (.iload 4, 2) := by decide +kernel
theorem dX9_notHeld_52 : decode cX9_notHeld 52 = .ok (.goto 4, 3) := by decide +kernel
theorem dX9_notHeld_55 : decode cX9_notHeld 55 = .ok (.iconst 0, 1) := by decide +kernel
theorem dX9_notHeld_56 : decode cX9_notHeld 56 = .ok (.iadd, 1) := by decide +kernel
theorem dX9_notHeld_57 : decode cX9_notHeld 57 = .ok (.istore_n 2, 1) := by decide +kernel
theorem dX9_notHeld_58 : decode cX9_notHeld 58 = .ok (.iinc 3 1, 3) := by decide +kernel
theorem dX9_notHeld_61 : decode cX9_notHeld 61 = .ok (.goto (-47), 3) := by decide +kernel
theorem dX9_notHeld_64 : decode cX9_notHeld 64 = .ok (.iload_n 2, 1) := by decide +kernel
theorem dX9_notHeld_65 : decode cX9_notHeld 65 = .ok (.aload_n 0, 1) := by decide +kernel
theorem dX9_notHeld_66 : decode cX9_notHeld 66 = .ok (.getfield 19, 3) := by decide +kernel
theorem dX9_notHeld_69 : decode cX9_notHeld 69 = .ok (.iload_n 1, 1) := by decide +kernel
theorem dX9_notHeld_70 : decode cX9_notHeld 70 = .ok (.iaload, 1) := by decide +kernel
theorem dX9_notHeld_71 : decode cX9_notHeld 71 = .ok (.if_icmp .le 5, 3) := by decide +kernel
theorem dX9_notHeld_74 : decode cX9_notHeld 74 = .ok (.iload_n 1, 1) := by decide +kernel
theorem dX9_notHeld_75 : decode cX9_notHeld 75 = .ok (.ireturn, 1) := by decide +kernel
theorem dX9_notHeld_76 : decode cX9_notHeld 76 = .ok (.iinc 1 1, 3) := by decide +kernel
theorem dX9_notHeld_79 : decode cX9_notHeld 79 = .ok (.goto (-77), 3) := by decide +kernel
theorem dX9_notHeld_82 : decode cX9_notHeld 82 = .ok (.iconst (-1), 1) := by decide +kernel
theorem dX9_notHeld_83 : decode cX9_notHeld 83 = .ok (.ireturn, 1) := by decide +kernel
set_option maxRecDepth 20000 in
theorem ggX9_holds_X9_notHeld : GoodIn wsX9_holds wsX9_notHeld := goodIn_r _ [6, 7, 8, 9, 10, 11, 12, 13, 14, 5, 15, 16, 17, 18, 19, 31, 32, 33, 34, 35, 36, 37, 38, 39, 40, 41, 42, 43, 44, 45, 46, 47, 48, 49, 50, 51, 52, 53, 54, 55, 56, 57, 58] (by decide +kernel) (by decide +kernel)
set_option maxRecDepth 20000 in
theorem gX9_holds_X9_notHeld : GoodIn wsX9_holds (wsV RX9 172 RX9 yX9_notHeld wsX9_notHeld) := goodIn_app (goodIn_of _ (by decide +kernel)) ggX9_holds_X9_notHeld
set_option maxRecDepth 20000 in
theorem ggX9_holds_X9_allTowns : GoodIn wsX9_holds wsX9_allTowns := goodIn_r _ [23, 8, 31, 32, 33, 34, 35, 36, 37, 38, 39, 40, 41, 42, 43, 44, 45, 46, 47, 48, 49, 50, 51, 52, 53, 54, 55, 56, 57, 58] (by decide +kernel) (by decide +kernel)
set_option maxRecDepth 20000 in
theorem gX9_holds_X9_allTowns : GoodIn wsX9_holds (wsV RX9 118 RX9 yX9_allTowns wsX9_allTowns) := goodIn_app (goodIn_of _ (by decide +kernel)) ggX9_holds_X9_allTowns
set_option maxRecDepth 20000 in
theorem ggX9_holds_X9_together : GoodIn wsX9_holds wsX9_together := goodIn_r _ [27, 8, 9, 28, 29, 5, 30, 31, 32, 33, 34, 35, 36, 37, 38, 39, 40, 41, 42, 43, 44, 45, 46, 47, 48, 49, 50, 51, 52, 53, 54, 55, 56, 57, 58] (by decide +kernel) (by decide +kernel)
set_option maxRecDepth 20000 in
theorem gX9_holds_X9_together : GoodIn wsX9_holds (wsV RX9 175 RX9 yX9_together wsX9_together) := goodIn_app (goodIn_of _ (by decide +kernel)) ggX9_holds_X9_together
theorem dX9_holds_0 : decode cX9_holds 0 = .ok (.aload_n 0, 1) := by decide +kernel
theorem dX9_holds_1 : decode cX9_holds 1 = .ok (.iconst 0, 1) := by decide +kernel
theorem dX9_holds_2 : decode cX9_holds 2 = .ok (.putfield 58, 3) := by decide +kernel
theorem dX9_holds_5 : decode cX9_holds 5 = .ok (.aload_n 0, 1) := by decide +kernel
theorem dX9_holds_6 : decode cX9_holds 6 = .ok (.invokevirtual 172, 3) := by decide +kernel
theorem dX9_holds_9 : decode cX9_holds 9 = .ok (.istore_n 1, 1) := by decide +kernel
theorem dX9_holds_10 : decode cX9_holds 10 = .ok (.iload_n 1, 1) := by decide +kernel
theorem dX9_holds_11 : decode cX9_holds 11 = .ok (.iconst (-1), 1) := by decide +kernel
theorem dX9_holds_12 : decode cX9_holds 12 = .ok (.if_icmp .ne 14, 3) := by decide +kernel
theorem dX9_holds_15 : decode cX9_holds 15 = .ok (.aload_n 0, 1) := by decide +kernel
theorem dX9_holds_16 : decode cX9_holds 16 = .ok (.aload_n 0, 1) := by decide +kernel
theorem dX9_holds_17 : decode cX9_holds 17 = .ok (.invokevirtual 118, 3) := by decide +kernel
theorem dX9_holds_20 : decode cX9_holds 20 = .ok (.invokevirtual 175, 3) := by decide +kernel
theorem dX9_holds_23 : decode cX9_holds 23 = .ok (.goto 7, 3) := by decide +kernel
theorem dX9_holds_26 : decode cX9_holds 26 = .ok (.bipush (-100), 2) := by decide +kernel
theorem dX9_holds_28 : decode cX9_holds 28 = .ok (.iload_n 1, 1) := by decide +kernel
theorem dX9_holds_29 : decode cX9_holds 29 = .ok (.isub, 1) := by decide +kernel
theorem dX9_holds_30 : decode cX9_holds 30 = .ok (.ireturn, 1) := by decide +kernel
set_option maxRecDepth 20000 in
theorem ggX9_raise_X9_notHeld : GoodIn wsX9_raise wsX9_notHeld := goodIn_r _ [9, 2, 4, 3, 10, 11, 12, 13, 14, 8, 15, 16, 17, 18, 19, 31, 32, 33, 34, 35, 36, 37, 38, 39, 40, 41, 42, 43, 44, 45, 46, 47, 48, 49, 50, 51, 52, 53, 54, 55, 56, 57, 58] (by decide +kernel) (by decide +kernel)
set_option maxRecDepth 20000 in
theorem gX9_raise_X9_notHeld : GoodIn wsX9_raise (wsV RX9 172 RX9 yX9_notHeld wsX9_notHeld) := goodIn_app (goodIn_of _ (by decide +kernel)) ggX9_raise_X9_notHeld
set_option maxRecDepth 20000 in
theorem ggX9_raise_X9_allTowns : GoodIn wsX9_raise wsX9_allTowns := goodIn_r _ [23, 4, 31, 32, 33, 34, 35, 36, 37, 38, 39, 40, 41, 42, 43, 44, 45, 46, 47, 48, 49, 50, 51, 52, 53, 54, 55, 56, 57, 58] (by decide +kernel) (by decide +kernel)
set_option maxRecDepth 20000 in
theorem gX9_raise_X9_allTowns : GoodIn wsX9_raise (wsV RX9 118 RX9 yX9_allTowns wsX9_allTowns) := goodIn_app (goodIn_of _ (by decide +kernel)) ggX9_raise_X9_allTowns
set_option maxRecDepth 20000 in
theorem ggX9_raise_X9_together : GoodIn wsX9_raise wsX9_together := goodIn_r _ [27, 4, 3, 28, 29, 8, 30, 31, 32, 33, 34, 35, 36, 37, 38, 39, 40, 41, 42, 43, 44, 45, 46, 47, 48, 49, 50, 51, 52, 53, 54, 55, 56, 57, 58] (by decide +kernel) (by decide +kernel)
set_option maxRecDepth 20000 in
theorem gX9_raise_X9_together : GoodIn wsX9_raise (wsV RX9 175 RX9 yX9_together wsX9_together) := goodIn_app (goodIn_of _ (by decide +kernel)) ggX9_raise_X9_together
theorem dX9_raise_0 : decode cX9_raise 0 = .ok (.aload_n 0, 1) := by decide +kernel
theorem dX9_raise_1 : decode cX9_raise 1 = .ok (.iconst 0, 1) := by decide +kernel
theorem dX9_raise_2 : decode cX9_raise 2 = .ok (.putfield 58, 3) := by decide +kernel
theorem dX9_raise_5 : decode cX9_raise 5 = .ok (.aload_n 0, 1) := by decide +kernel
theorem dX9_raise_6 : decode cX9_raise 6 = .ok (.getfield 71, 3) := by decide +kernel
theorem dX9_raise_9 : decode cX9_raise 9 = .ok (.ifCond .ne 6, 3) := by decide +kernel
theorem dX9_raise_12 : decode cX9_raise 12 = .ok (.bipush (-4), 2) := by decide +kernel
theorem dX9_raise_14 : decode cX9_raise 14 = .ok (.ireturn, 1) := by decide +kernel
theorem dX9_raise_15 : decode cX9_raise 15 = .ok (.iconst 0, 1) := by decide +kernel
theorem dX9_raise_16 : decode cX9_raise 16 = .ok (.istore_n 1, 1) := by decide +kernel
theorem dX9_raise_17 : decode cX9_raise 17 = .ok (.iload_n 1, 1) := by decide +kernel
theorem dX9_raise_18 : decode cX9_raise 18 = .ok (.bipush 8, 2) := by decide +kernel
theorem dX9_raise_20 : decode cX9_raise 20 = .ok (.if_icmp .ge 16, 3) := by decide +kernel
theorem dX9_raise_23 : decode cX9_raise 23 = .ok (.aload_n 0, 1) := by decide +kernel
theorem dX9_raise_24 : decode cX9_raise 24 = .ok (.getfield 37, 3) := by decide +kernel
theorem dX9_raise_27 : decode cX9_raise 27 = .ok (.iload_n 1, 1) := by decide +kernel
theorem dX9_raise_28 : decode cX9_raise 28 = .ok (.iconst 0, 1) := by decide +kernel
theorem dX9_raise_29 : decode cX9_raise 29 = .ok (.iastore, 1) := by decide +kernel
theorem dX9_raise_30 : decode cX9_raise 30 = .ok (.iinc 1 1, 3) := by decide +kernel
theorem dX9_raise_33 : decode cX9_raise 33 = .ok (.goto (-16), 3) := by decide +kernel
theorem dX9_raise_36 : decode cX9_raise 36 = .ok (.iconst 1, 1) := by decide +kernel
theorem dX9_raise_37 : decode cX9_raise 37 = .ok (.istore_n 1, 1) := by decide +kernel
theorem dX9_raise_38 : decode cX9_raise 38 = .ok (.iconst 0, 1) := by decide +kernel
theorem dX9_raise_39 : decode cX9_raise 39 = .ok (.istore_n 2, 1) := by decide +kernel
theorem dX9_raise_40 : decode cX9_raise 40 = .ok (.iload_n 2, 1) := by decide +kernel
theorem dX9_raise_41 : decode cX9_raise 41 = .ok (.sipush 2000, 3) := by decide +kernel
theorem dX9_raise_44 : decode cX9_raise 44 = .ok (.if_icmp .ge 64, 3) := by decide +kernel
theorem dX9_raise_47 : decode cX9_raise 47 = .ok (.iload_n 1, 1) := by decide +kernel
theorem dX9_raise_48 : decode cX9_raise 48 = .ok (.ifCond .eq 60, 3) := by decide +kernel
theorem dX9_raise_51 : decode cX9_raise 51 = .ok (.iconst 0, 1) := by decide +kernel
theorem dX9_raise_52 : decode cX9_raise 52 = .ok (.istore_n 1, 1) := by decide +kernel
theorem dX9_raise_53 : decode cX9_raise 53 = .ok (.iconst 0, 1) := by decide +kernel
theorem dX9_raise_54 : decode cX9_raise 54 = .ok (.istore_n 3, 1) := by decide +kernel
theorem dX9_raise_55 : decode cX9_raise 55 = .ok (.iload_n 3, 1) := by decide +kernel
theorem dX9_raise_56 : decode cX9_raise 56 = .ok (.aload_n 0, 1) := by decide +kernel
theorem dX9_raise_57 : decode cX9_raise 57 = .ok (.getfield 68, 3) := by decide +kernel
theorem dX9_raise_60 : decode cX9_raise 60 = .ok (.if_icmp .ge 42, 3) := by decide +kernel
theorem dX9_raise_63 : decode cX9_raise 63 = .ok (.aload_n 0, 1) := by decide +kernel
theorem dX9_raise_64 : decode cX9_raise 64 = .ok (.getfield 37, 3) := by decide +kernel
theorem dX9_raise_67 : decode cX9_raise 67 = .ok (.iload_n 3, 1) := by decide +kernel
theorem dX9_raise_68 : decode cX9_raise 68 = .ok (.dup2, 1) := by decide +kernel
theorem dX9_raise_69 : decode cX9_raise 69 = .ok (.iaload, 1) := by decide +kernel
theorem dX9_raise_70 : decode cX9_raise 70 = .ok (.iconst 1, 1) := by decide +kernel
theorem dX9_raise_71 : decode cX9_raise 71 = .ok (.iadd, 1) := by decide +kernel
theorem dX9_raise_72 : decode cX9_raise 72 = .ok (.iastore, 1) := by decide +kernel
theorem dX9_raise_73 : decode cX9_raise 73 = .ok (.aload_n 0, 1) := by decide +kernel
theorem dX9_raise_74 : decode cX9_raise 74 = .ok (.invokevirtual 172, 3) := by decide +kernel
theorem dX9_raise_77 : decode cX9_raise 77 = .ok (.iconst (-1), 1) := by decide +kernel
theorem dX9_raise_78 : decode cX9_raise 78 = .ok (.if_icmp .ne 8, 3) := by decide +kernel
theorem dX9_raise_81 : decode cX9_raise 81 = .ok (.iconst 1, 1) := by decide +kernel
theorem dX9_raise_82 : decode cX9_raise 82 = .ok (.istore_n 1, 1) := by decide +kernel
theorem dX9_raise_83 : decode cX9_raise 83 = .ok (.goto 13, 3) := by decide +kernel
theorem dX9_raise_86 : decode cX9_raise 86 = .ok (.aload_n 0, 1) := by decide +kernel
theorem dX9_raise_87 : decode cX9_raise 87 = .ok (.getfield 37, 3) := by decide +kernel
theorem dX9_raise_90 : decode cX9_raise 90 = .ok (.iload_n 3, 1) := by decide +kernel
theorem dX9_raise_91 : decode cX9_raise 91 = .ok (.dup2, 1) := by decide +kernel
theorem dX9_raise_92 : decode cX9_raise 92 = .ok (.iaload, 1) := by decide +kernel
theorem dX9_raise_93 : decode cX9_raise 93 = .ok (.iconst 1, 1) := by decide +kernel
theorem dX9_raise_94 : decode cX9_raise 94 = .ok (.isub, 1) := by decide +kernel
theorem dX9_raise_95 : decode cX9_raise 95 = .ok (.iastore, 1) := by decide +kernel
theorem dX9_raise_96 : decode cX9_raise 96 = .ok (.iinc 3 1, 3) := by decide +kernel
theorem dX9_raise_99 : decode cX9_raise 99 = .ok (.goto (-44), 3) := by decide +kernel
theorem dX9_raise_102 : decode cX9_raise 102 = .ok (.iinc 2 1, 3) := by decide +kernel
theorem dX9_raise_105 : decode cX9_raise 105 = .ok (.goto (-65), 3) := by decide +kernel
theorem dX9_raise_108 : decode cX9_raise 108 = .ok (.aload_n 0, 1) := by decide +kernel
theorem dX9_raise_109 : decode cX9_raise 109 = .ok (.aload_n 0, 1) := by decide +kernel
theorem dX9_raise_110 : decode cX9_raise 110 = .ok (.invokevirtual 118, 3) := by decide +kernel
theorem dX9_raise_113 : decode cX9_raise 113 = .ok (.invokevirtual 175, 3) := by decide +kernel
theorem dX9_raise_116 : decode cX9_raise 116 = .ok (.ireturn, 1) := by decide +kernel
set_option maxRecDepth 20000 in
theorem ggX9_findHeaps_X9_allTowns : GoodIn wsX9_findHeaps wsX9_allTowns := goodIn_r _ [7, 8, 39, 40, 41, 42, 43, 44, 45, 46, 47, 48, 49, 50, 51, 52, 53, 54, 55, 56, 57, 58, 59, 60, 61, 62, 63, 64, 65, 66] (by decide +kernel) (by decide +kernel)
set_option maxRecDepth 20000 in
theorem gX9_findHeaps_X9_allTowns : GoodIn wsX9_findHeaps (wsV RX9 118 RX9 yX9_allTowns wsX9_allTowns) := goodIn_app (goodIn_of _ (by decide +kernel)) ggX9_findHeaps_X9_allTowns
set_option maxRecDepth 20000 in
theorem ggX9_findHeaps_X9_allHalls : GoodIn wsX9_findHeaps wsX9_allHalls := goodIn_r _ [12, 13, 39, 40, 41, 42, 43, 44, 45, 46, 47, 48, 49, 50, 51, 52, 53, 54, 55, 56, 57, 58, 59, 60, 61, 62, 63, 64, 65, 66] (by decide +kernel) (by decide +kernel)
set_option maxRecDepth 20000 in
theorem gX9_findHeaps_X9_allHalls : GoodIn wsX9_findHeaps (wsV RX9 87 RX9 yX9_allHalls wsX9_allHalls) := goodIn_app (goodIn_of _ (by decide +kernel)) ggX9_findHeaps_X9_allHalls
set_option maxRecDepth 20000 in
theorem ggX9_findHeaps_X9_sumOf : GoodIn wsX9_findHeaps wsX9_sumOf := goodIn_r _ [17, 8, 18, 19, 20, 6, 21, 22, 23, 24, 25, 13, 26, 27, 28, 29, 30, 31, 32, 33, 39, 40, 41, 42, 43, 44, 45, 46, 47, 48, 49, 50, 51, 52, 53, 54, 55, 56, 57, 58, 59, 60, 61, 62, 63, 64, 65, 66] (by decide +kernel) (by decide +kernel)
set_option maxRecDepth 20000 in
theorem gX9_findHeaps_X9_sumOf : GoodIn wsX9_findHeaps (wsV RX9 122 RX9 yX9_sumOf wsX9_sumOf) := goodIn_app (goodIn_of _ (by decide +kernel)) ggX9_findHeaps_X9_sumOf
set_option maxRecDepth 20000 in
theorem ggX9_findHeaps_X9_pricesOf : GoodIn wsX9_findHeaps wsX9_pricesOf := goodIn_r _ [37, 13, 38, 19, 20, 6, 21, 39, 40, 41, 42, 43, 44, 45, 46, 47, 48, 49, 50, 51, 52, 53, 54, 55, 56, 57, 58, 59, 60, 61, 62, 63, 64, 65, 66] (by decide +kernel) (by decide +kernel)
set_option maxRecDepth 20000 in
theorem gX9_findHeaps_X9_pricesOf : GoodIn wsX9_findHeaps (wsV RX9 132 RX9 yX9_pricesOf wsX9_pricesOf) := goodIn_app (goodIn_of _ (by decide +kernel)) ggX9_findHeaps_X9_pricesOf
theorem dX9_findHeaps_0 : decode cX9_findHeaps 0 = .ok (.iconst 0, 1) := by decide +kernel
theorem dX9_findHeaps_1 : decode cX9_findHeaps 1 = .ok (.istore_n 1, 1) := by decide +kernel
theorem dX9_findHeaps_2 : decode cX9_findHeaps 2 = .ok (.iload_n 1, 1) := by decide +kernel
theorem dX9_findHeaps_3 : decode cX9_findHeaps 3 = .ok (.aload_n 0, 1) := by decide +kernel
theorem dX9_findHeaps_4 : decode cX9_findHeaps 4 = .ok (.invokevirtual 118, 3) := by decide +kernel
theorem dX9_findHeaps_7 : decode cX9_findHeaps 7 = .ok (.if_icmp .gt 84, 3) := by decide +kernel
theorem dX9_findHeaps_10 : decode cX9_findHeaps 10 = .ok (.aload_n 0, 1) := by decide +kernel
theorem dX9_findHeaps_11 : decode cX9_findHeaps 11 = .ok (.getfield 52, 3) := by decide +kernel
theorem dX9_findHeaps_14 : decode cX9_findHeaps 14 = .ok (.iload_n 1, 1) := by decide +kernel
theorem dX9_findHeaps_15 : decode cX9_findHeaps 15 = .ok (.iload_n 1, 1) := by decide +kernel
theorem dX9_findHeaps_16 : decode cX9_findHeaps 16 = .ok (.ifCond .ne 7, 3) := by decide +kernel
theorem dX9_findHeaps_19 : decode cX9_findHeaps 19 = .ok (.iconst 0, 1) := by decide +kernel
theorem dX9_findHeaps_20 : decode cX9_findHeaps 20 = .ok (.goto 5, 3) := by decide +kernel
theorem dX9_findHeaps_23 : decode cX9_findHeaps 23 = .ok (.ldc 121, 2) := by decide +kernel
theorem dX9_findHeaps_25 : decode cX9_findHeaps 25 = .ok (.iastore, 1) := by decide +kernel
theorem dX9_findHeaps_26 : decode cX9_findHeaps 26 = .ok (.iconst 1, 1) := by decide +kernel
theorem dX9_findHeaps_27 : decode cX9_findHeaps 27 = .ok (.istore_n 2, 1) := by decide +kernel
theorem dX9_findHeaps_28 : decode cX9_findHeaps 28 = .ok (.iload_n 2, 1) := by decide +kernel
theorem dX9_findHeaps_29 : decode cX9_findHeaps 29 = .ok (.aload_n 0, 1) := by decide +kernel
theorem dX9_findHeaps_30 : decode cX9_findHeaps 30 = .ok (.invokevirtual 87, 3) := by decide +kernel
theorem dX9_findHeaps_33 : decode cX9_findHeaps 33 = .ok (.if_icmp .gt 52, 3) := by decide +kernel
theorem dX9_findHeaps_36 : decode cX9_findHeaps 36 = .ok (.iload_n 1, 1) := by decide +kernel
theorem dX9_findHeaps_37 : decode cX9_findHeaps 37 = .ok (.ifCond .le 48, 3) := by decide +kernel
theorem dX9_findHeaps_40 : decode cX9_findHeaps 40 = .ok (.aload_n 0, 1) := by decide +kernel
theorem dX9_findHeaps_41 : decode cX9_findHeaps 41 = .ok (.iload_n 2, 1) := by decide +kernel
theorem dX9_findHeaps_42 : decode cX9_findHeaps 42 = .ok (.iload_n 1, 1) := by decide +kernel
theorem dX9_findHeaps_43 : decode cX9_findHeaps 43 = .ok (.invokevirtual 122, 3) := by decide +kernel
theorem dX9_findHeaps_46 : decode cX9_findHeaps 46 = .ok (.aload_n 0, 1) := by decide +kernel
theorem dX9_findHeaps_47 : decode cX9_findHeaps 47 = .ok (.iload_n 2, 1) := by decide +kernel
theorem dX9_findHeaps_48 : decode cX9_findHeaps 48 = .ok (.invokevirtual 132, 3) := by decide +kernel
theorem dX9_findHeaps_51 : decode cX9_findHeaps 51 = .ok (.iadd, 1) := by decide +kernel
theorem dX9_findHeaps_52 : decode cX9_findHeaps 52 = .ok (.istore_n 3, 1) := by decide +kernel
theorem dX9_findHeaps_53 : decode cX9_findHeaps 53 = .ok (.aload_n 0, 1) := by decide +kernel
theorem dX9_findHeaps_54 : decode cX9_findHeaps 54 = .ok (.getfield 52, 3) := by decide +kernel
theorem dX9_findHeaps_57 : decode cX9_findHeaps 57 = .ok (.iload_n 1, 1) := by decide +kernel
theorem dX9_findHeaps_58 : decode cX9_findHeaps 58 = .ok (.iload_n 3, 1) := by decide +kernel
theorem dX9_findHeaps_59 : decode cX9_findHeaps 59 = .ok (.aload_n 0, 1) := by decide +kernel
theorem dX9_findHeaps_60 : decode cX9_findHeaps 60 = .ok (.getfield 52, 3) := by decide +kernel
theorem dX9_findHeaps_63 : decode cX9_findHeaps 63 = .ok (.iload_n 1, 1) := by decide +kernel
theorem dX9_findHeaps_64 : decode cX9_findHeaps 64 = .ok (.iaload, 1) := by decide +kernel
theorem dX9_findHeaps_65 : decode cX9_findHeaps 65 = .ok (.if_icmp .ge 7, 3) := by decide +kernel
theorem dX9_findHeaps_68 : decode cX9_findHeaps 68 = .ok (.iload_n 3, 1) := by decide +kernel
theorem dX9_findHeaps_69 : decode cX9_findHeaps 69 = .ok (.goto 9, 3) := by decide +kernel
theorem dX9_findHeaps_72 : decode cX9_findHeaps 72 = .ok (.aload_n 0, 1) := by decide +kernel
theorem dX9_findHeaps_73 : decode cX9_findHeaps 73 = .ok (.getfield 52, 3) := by decide +kernel
theorem dX9_findHeaps_76 : decode cX9_findHeaps 76 = .ok (.iload_n 1, 1) := by decide +kernel
theorem dX9_findHeaps_77 : decode cX9_findHeaps 77 = .ok (.iaload, 1) := by decide +kernel
theorem dX9_findHeaps_78 : decode cX9_findHeaps 78 = .ok (.iastore, 1) := by decide +kernel
theorem dX9_findHeaps_79 : decode cX9_findHeaps 79 = .ok (.iinc 2 1, 3) := by decide +kernel
theorem dX9_findHeaps_82 : decode cX9_findHeaps 82 = .ok (.goto (-54), 3) := by decide +kernel
theorem dX9_findHeaps_85 : decode cX9_findHeaps 85 = .ok (.iinc 1 1, 3) := by decide +kernel
theorem dX9_findHeaps_88 : decode cX9_findHeaps 88 = .ok (.goto (-86), 3) := by decide +kernel
theorem dX9_findHeaps_91 : decode cX9_findHeaps 91 = .ok (.return_, 1) := by decide +kernel
set_option maxRecDepth 20000 in
theorem ggX9_fair_X9_findHeaps : GoodIn wsX9_fair wsX9_findHeaps := goodIn_r _ [8, 3, 9, 10, 11, 12, 7, 13, 14, 15, 16, 17, 18, 2, 19, 20, 21, 22, 23, 24, 25, 26, 27, 28, 29, 30, 31, 32, 33, 34, 35, 36, 37, 38, 39, 40, 41, 42, 43, 49, 50, 51, 52, 53, 54, 55, 56, 57, 58, 59, 60, 61, 62, 63, 64, 65, 66, 67, 68, 69, 70, 71, 72, 73, 74, 75, 76] (by decide +kernel) (by decide +kernel)
set_option maxRecDepth 20000 in
theorem gX9_fair_X9_findHeaps : GoodIn wsX9_fair (wsV RX9 178 RX9 yX9_findHeaps wsX9_findHeaps) := goodIn_app (goodIn_of _ (by decide +kernel)) ggX9_fair_X9_findHeaps
set_option maxRecDepth 20000 in
theorem ggX9_fair_X9_allTowns : GoodIn wsX9_fair wsX9_allTowns := goodIn_r _ [13, 14, 49, 50, 51, 52, 53, 54, 55, 56, 57, 58, 59, 60, 61, 62, 63, 64, 65, 66, 67, 68, 69, 70, 71, 72, 73, 74, 75, 76] (by decide +kernel) (by decide +kernel)
set_option maxRecDepth 20000 in
theorem gX9_fair_X9_allTowns : GoodIn wsX9_fair (wsV RX9 118 RX9 yX9_allTowns wsX9_allTowns) := goodIn_app (goodIn_of _ (by decide +kernel)) ggX9_fair_X9_allTowns
set_option maxRecDepth 20000 in
theorem ggX9_fair_X9_together : GoodIn wsX9_fair wsX9_together := goodIn_r _ [47, 14, 48, 24, 25, 7, 26, 49, 50, 51, 52, 53, 54, 55, 56, 57, 58, 59, 60, 61, 62, 63, 64, 65, 66, 67, 68, 69, 70, 71, 72, 73, 74, 75, 76] (by decide +kernel) (by decide +kernel)
set_option maxRecDepth 20000 in
theorem gX9_fair_X9_together : GoodIn wsX9_fair (wsV RX9 175 RX9 yX9_together wsX9_together) := goodIn_app (goodIn_of _ (by decide +kernel)) ggX9_fair_X9_together
theorem dX9_fair_0 : decode cX9_fair 0 = .ok (.aload_n 0, 1) := by decide +kernel
theorem dX9_fair_1 : decode cX9_fair 1 = .ok (.iconst 0, 1) := by decide +kernel
theorem dX9_fair_2 : decode cX9_fair 2 = .ok (.putfield 58, 3) := by decide +kernel
theorem dX9_fair_5 : decode cX9_fair 5 = .ok (.aload_n 0, 1) := by decide +kernel
theorem dX9_fair_6 : decode cX9_fair 6 = .ok (.getfield 71, 3) := by decide +kernel
theorem dX9_fair_9 : decode cX9_fair 9 = .ok (.ifCond .ne 5, 3) := by decide +kernel
theorem dX9_fair_12 : decode cX9_fair 12 = .ok (.iconst (-1), 1) := by decide +kernel
theorem dX9_fair_13 : decode cX9_fair 13 = .ok (.ireturn, 1) := by decide +kernel
theorem dX9_fair_14 : decode cX9_fair 14 = .ok (.aload_n 0, 1) := by decide +kernel
theorem dX9_fair_15 : decode cX9_fair 15 = .ok (.invokevirtual 178, 3) := by decide +kernel
theorem dX9_fair_18 : decode cX9_fair 18 = .ok (.aload_n 0, 1) := by decide +kernel
theorem dX9_fair_19 : decode cX9_fair 19 = .ok (.aload_n 0, 1) := by decide +kernel
theorem dX9_fair_20 : decode cX9_fair 20 = .ok (.invokevirtual 118, 3) := by decide +kernel
theorem dX9_fair_23 : decode cX9_fair 23 = .ok (.invokevirtual 175, 3) := by decide +kernel
theorem dX9_fair_26 : decode cX9_fair 26 = .ok (.aload_n 0, 1) := by decide +kernel
theorem dX9_fair_27 : decode cX9_fair 27 = .ok (.getfield 52, 3) := by decide +kernel
theorem dX9_fair_30 : decode cX9_fair 30 = .ok (.aload_n 0, 1) := by decide +kernel
theorem dX9_fair_31 : decode cX9_fair 31 = .ok (.invokevirtual 118, 3) := by decide +kernel
theorem dX9_fair_34 : decode cX9_fair 34 = .ok (.iaload, 1) := by decide +kernel
theorem dX9_fair_35 : decode cX9_fair 35 = .ok (.if_icmp .eq 5, 3) := by decide +kernel
theorem dX9_fair_38 : decode cX9_fair 38 = .ok (.iconst 1, 1) := by decide +kernel
theorem dX9_fair_39 : decode cX9_fair 39 = .ok (.ireturn, 1) := by decide +kernel
theorem dX9_fair_40 : decode cX9_fair 40 = .ok (.iconst 0, 1) := by decide +kernel
theorem dX9_fair_41 : decode cX9_fair 41 = .ok (.istore_n 1, 1) := by decide +kernel
theorem dX9_fair_42 : decode cX9_fair 42 = .ok (.iload_n 1, 1) := by decide +kernel
theorem dX9_fair_43 : decode cX9_fair 43 = .ok (.aload_n 0, 1) := by decide +kernel
theorem dX9_fair_44 : decode cX9_fair 44 = .ok (.invokevirtual 118, 3) := by decide +kernel
theorem dX9_fair_47 : decode cX9_fair 47 = .ok (.if_icmp .gt 27, 3) := by decide +kernel
theorem dX9_fair_50 : decode cX9_fair 50 = .ok (.aload_n 0, 1) := by decide +kernel
theorem dX9_fair_51 : decode cX9_fair 51 = .ok (.iload_n 1, 1) := by decide +kernel
theorem dX9_fair_52 : decode cX9_fair 52 = .ok (.invokevirtual 175, 3) := by decide +kernel
theorem dX9_fair_55 : decode cX9_fair 55 = .ok (.aload_n 0, 1) := by decide +kernel
theorem dX9_fair_56 : decode cX9_fair 56 = .ok (.getfield 52, 3) := by decide +kernel
theorem dX9_fair_59 : decode cX9_fair 59 = .ok (.iload_n 1, 1) := by decide +kernel
theorem dX9_fair_60 : decode cX9_fair 60 = .ok (.iaload, 1) := by decide +kernel
theorem dX9_fair_61 : decode cX9_fair 61 = .ok (.if_icmp .le 7, 3) := by decide +kernel
theorem dX9_fair_64 : decode cX9_fair 64 = .ok (.iconst 2, 1) := by decide +kernel
theorem dX9_fair_65 : decode cX9_fair 65 = .ok (.iload_n 1, 1) := by decide +kernel
theorem dX9_fair_66 : decode cX9_fair 66 = .ok (.iadd, 1) := by decide +kernel
theorem dX9_fair_67 : decode cX9_fair 67 = .ok (.ireturn, 1) := by decide +kernel
theorem dX9_fair_68 : decode cX9_fair 68 = .ok (.iinc 1 1, 3) := by decide +kernel
theorem dX9_fair_71 : decode cX9_fair 71 = .ok (.goto (-29), 3) := by decide +kernel
theorem dX9_fair_74 : decode cX9_fair 74 = .ok (.iconst 0, 1) := by decide +kernel
theorem dX9_fair_75 : decode cX9_fair 75 = .ok (.ireturn, 1) := by decide +kernel
theorem dX9_orders_0 : decode cX9_orders 0 = .ok (.lconst 1, 1) := by decide +kernel
theorem dX9_orders_1 : decode cX9_orders 1 = .ok (.lstore_n 1, 1) := by decide +kernel
theorem dX9_orders_2 : decode cX9_orders 2 = .ok (.iconst 2, 1) := by decide +kernel
theorem dX9_orders_3 : decode cX9_orders 3 = .ok (.istore_n 3, 1) := by decide +kernel
theorem dX9_orders_4 : decode cX9_orders 4 = .ok (.iload_n 3, 1) := by decide +kernel
theorem dX9_orders_5 : decode cX9_orders 5 = .ok (.iload_n 0, 1) := by decide +kernel
theorem dX9_orders_6 : decode cX9_orders 6 = .ok (.if_icmp .gt 14, 3) := by decide +kernel
theorem dX9_orders_9 : decode cX9_orders 9 = .ok (.lload_n 1, 1) := by decide +kernel
theorem dX9_orders_10 : decode cX9_orders 10 = .ok (.iload_n 3, 1) := by decide +kernel
theorem dX9_orders_11 : decode cX9_orders 11 = .ok (.i2l, 1) := by decide +kernel
theorem dX9_orders_12 : decode cX9_orders 12 = .ok (.lmul, 1) := by decide +kernel
theorem dX9_orders_13 : decode cX9_orders 13 = .ok (.lstore_n 1, 1) := by decide +kernel
theorem dX9_orders_14 : decode cX9_orders 14 = .ok (.iinc 3 1, 3) := by decide +kernel
theorem dX9_orders_17 : decode cX9_orders 17 = .ok (.goto (-13), 3) := by decide +kernel
theorem dX9_orders_20 : decode cX9_orders 20 = .ok (.lload_n 1, 1) := by decide +kernel
theorem dX9_orders_21 : decode cX9_orders 21 = .ok (.lreturn, 1) := by decide +kernel
set_option maxRecDepth 20000 in
theorem ggX9_share_X9_isTown : GoodIn wsX9_share wsX9_isTown := goodIn_r _ [11, 5, 12, 13, 10, 14, 59, 60, 61, 62, 63, 64, 65, 66, 67, 68, 69, 70, 71, 72, 73, 74, 75, 76, 77, 78, 79, 80, 81, 82, 83, 84, 85, 86] (by decide +kernel) (by decide +kernel)
set_option maxRecDepth 20000 in
theorem gX9_share_X9_isTown : GoodIn wsX9_share (wsV RX9 98 RX9 yX9_isTown wsX9_isTown) := goodIn_app (goodIn_of _ (by decide +kernel)) ggX9_share_X9_isTown
set_option maxRecDepth 20000 in
theorem ggX9_share_X9_in : GoodIn wsX9_share wsX9_in := goodIn_r _ [14] (by decide +kernel) (by decide +kernel)
set_option maxRecDepth 20000 in
theorem gX9_share_X9_in : GoodIn wsX9_share (va_wsS RX9 91 yX9_in wsX9_in) := goodIn_app (goodIn_of _ (by decide +kernel)) ggX9_share_X9_in
set_option maxRecDepth 20000 in
theorem ggX9_share_X9_findHeaps : GoodIn wsX9_share wsX9_findHeaps := goodIn_r _ [18, 6, 19, 20, 21, 22, 10, 23, 5, 24, 25, 26, 27, 3, 28, 29, 30, 31, 32, 33, 34, 35, 36, 37, 38, 39, 40, 41, 42, 43, 44, 45, 46, 47, 48, 49, 50, 51, 52, 59, 60, 61, 62, 63, 64, 65, 66, 67, 68, 69, 70, 71, 72, 73, 74, 75, 76, 77, 78, 79, 80, 81, 82, 83, 84, 85, 86] (by decide +kernel) (by decide +kernel)
set_option maxRecDepth 20000 in
theorem gX9_share_X9_findHeaps : GoodIn wsX9_share (wsV RX9 178 RX9 yX9_findHeaps wsX9_findHeaps) := goodIn_app (goodIn_of _ (by decide +kernel)) ggX9_share_X9_findHeaps
set_option maxRecDepth 20000 in
theorem ggX9_share_X9_orders : GoodIn wsX9_share wsX9_orders := goodIn_r _ [55] (by decide +kernel) (by decide +kernel)
set_option maxRecDepth 20000 in
theorem gX9_share_X9_orders : GoodIn wsX9_share (va_wsS RX9 185 yX9_orders wsX9_orders) := goodIn_app (goodIn_of _ (by decide +kernel)) ggX9_share_X9_orders
set_option maxRecDepth 20000 in
theorem ggX9_share_X9_allTowns : GoodIn wsX9_share wsX9_allTowns := goodIn_r _ [23, 5, 59, 60, 61, 62, 63, 64, 65, 66, 67, 68, 69, 70, 71, 72, 73, 74, 75, 76, 77, 78, 79, 80, 81, 82, 83, 84, 85, 86] (by decide +kernel) (by decide +kernel)
set_option maxRecDepth 20000 in
theorem gX9_share_X9_allTowns : GoodIn wsX9_share (wsV RX9 118 RX9 yX9_allTowns wsX9_allTowns) := goodIn_app (goodIn_of _ (by decide +kernel)) ggX9_share_X9_allTowns
set_option maxRecDepth 20000 in
theorem ggX9_share_X9_has : GoodIn wsX9_share wsX9_has := goodIn_r _ [35] (by decide +kernel) (by decide +kernel)
set_option maxRecDepth 20000 in
theorem gX9_share_X9_has : GoodIn wsX9_share (va_wsS RX9 111 yX9_has wsX9_has) := goodIn_app (goodIn_of _ (by decide +kernel)) ggX9_share_X9_has
set_option maxRecDepth 20000 in
theorem ggX9_share_X9_sizeOf : GoodIn wsX9_share wsX9_sizeOf := goodIn_r _ [58] (by decide +kernel) (by decide +kernel)
set_option maxRecDepth 20000 in
theorem gX9_share_X9_sizeOf : GoodIn wsX9_share (va_wsS RX9 128 yX9_sizeOf wsX9_sizeOf) := goodIn_app (goodIn_of _ (by decide +kernel)) ggX9_share_X9_sizeOf
theorem dX9_share_0 : decode cX9_share 0 = .ok (.aload_n 0, 1) := by decide +kernel
theorem dX9_share_1 : decode cX9_share 1 = .ok (.iconst 0, 1) := by decide +kernel
theorem dX9_share_2 : decode cX9_share 2 = .ok (.putfield 58, 3) := by decide +kernel
theorem dX9_share_5 : decode cX9_share 5 = .ok (.aload_n 0, 1) := by decide +kernel
theorem dX9_share_6 : decode cX9_share 6 = .ok (.iload_n 1, 1) := by decide +kernel
theorem dX9_share_7 : decode cX9_share 7 = .ok (.invokevirtual 98, 3) := by decide +kernel
theorem dX9_share_10 : decode cX9_share 10 = .ok (.ifCond .eq 12, 3) := by decide +kernel
theorem dX9_share_13 : decode cX9_share 13 = .ok (.iload_n 2, 1) := by decide +kernel
theorem dX9_share_14 : decode cX9_share 14 = .ok (.iconst 0, 1) := by decide +kernel
theorem dX9_share_15 : decode cX9_share 15 = .ok (.iconst 1, 1) := by decide +kernel
theorem dX9_share_16 : decode cX9_share 16 = .ok (.invokestatic 91, 3) := by decide +kernel
theorem dX9_share_19 : decode cX9_share 19 = .ok (.ifCond .ne 7, 3) := by decide +kernel
theorem dX9_share_22 : decode cX9_share 22 = .ok (.ldc2_w 181, 3) := by decide +kernel
theorem dX9_share_25 : decode cX9_share 25 = .ok (.lreturn, 1) := by decide +kernel
theorem dX9_share_26 : decode cX9_share 26 = .ok (.aload_n 0, 1) := by decide +kernel
theorem dX9_share_27 : decode cX9_share 27 = .ok (.getfield 71, 3) := by decide +kernel
theorem dX9_share_30 : decode cX9_share 30 = .ok (.ifCond .ne 7, 3) := by decide +kernel
theorem dX9_share_33 : decode cX9_share 33 = .ok (.ldc2_w 183, 3) := by decide +kernel
theorem dX9_share_36 : decode cX9_share 36 = .ok (.lreturn, 1) := by decide +kernel
theorem dX9_share_37 : decode cX9_share 37 = .ok (.aload_n 0, 1) := by decide +kernel
theorem dX9_share_38 : decode cX9_share 38 = .ok (.invokevirtual 178, 3) := by decide +kernel
theorem dX9_share_41 : decode cX9_share 41 = .ok (.lconst 0, 1) := by decide +kernel
theorem dX9_share_42 : decode cX9_share 42 = .ok (.lstore_n 3, 1) := by decide +kernel
theorem dX9_share_43 : decode cX9_share 43 = .ok (.aload_n 0, 1) := by decide +kernel
theorem dX9_share_44 : decode cX9_share 44 = .ok (.getfield 68, 3) := by decide +kernel
theorem dX9_share_47 : decode cX9_share 47 = .ok (.invokestatic 185, 3) := by decide +kernel
theorem dX9_share_50 : decode cX9_share 50 = .ok (.lstore 5, 2) := by decide +kernel
theorem dX9_share_52 : decode cX9_share 52 = .ok (.iconst 0, 1) := by decide +kernel
theorem dX9_share_53 : decode cX9_share 53 = .ok (.istore 7, 2) := by decide +kernel
theorem dX9_share_55 : decode cX9_share 55 = .ok (.iload 7, 2) := by decide +kernel
theorem dX9_share_57 : decode cX9_share 57 = .ok (.aload_n 0, 1) := by decide +kernel
theorem dX9_share_58 : decode cX9_share 58 = .ok (.invokevirtual 118, 3) := by decide +kernel
theorem dX9_share_61 : decode cX9_share 61 = .ok (.if_icmp .gt 67, 3) := by decide +kernel
theorem dX9_share_64 : decode cX9_share 64 = .ok (.iload 7, 2) := by decide +kernel
theorem dX9_share_66 : decode cX9_share 66 = .ok (.iload_n 1, 1) := by decide +kernel
theorem dX9_share_67 : decode cX9_share 67 = .ok (.invokestatic 111, 3) := by decide +kernel
theorem dX9_share_70 : decode cX9_share 70 = .ok (.ifCond .ne 52, 3) := by decide +kernel
theorem dX9_share_73 : decode cX9_share 73 = .ok (.iload 7, 2) := by decide +kernel
theorem dX9_share_75 : decode cX9_share 75 = .ok (.invokestatic 128, 3) := by decide +kernel
theorem dX9_share_78 : decode cX9_share 78 = .ok (.istore 8, 2) := by decide +kernel
theorem dX9_share_80 : decode cX9_share 80 = .ok (.lload_n 3, 1) := by decide +kernel
theorem dX9_share_81 : decode cX9_share 81 = .ok (.iload 8, 2) := by decide +kernel
theorem dX9_share_83 : decode cX9_share 83 = .ok (.invokestatic 185, 3) := by decide +kernel
theorem dX9_share_86 : decode cX9_share 86 = .ok (.aload_n 0, 1) := by decide +kernel
theorem dX9_share_87 : decode cX9_share 87 = .ok (.getfield 68, 3) := by decide +kernel
theorem dX9_share_90 : decode cX9_share 90 = .ok (.iconst 1, 1) := by decide +kernel
theorem dX9_share_91 : decode cX9_share 91 = .ok (.isub, 1) := by decide +kernel
theorem dX9_share_92 : decode cX9_share 92 = .ok (.iload 8, 2) := by decide +kernel
theorem dX9_share_94 : decode cX9_share 94 = .ok (.isub, 1) := by decide +kernel
theorem dX9_share_95 : decode cX9_share 95 = .ok (.invokestatic 185, 3) := by decide +kernel
theorem dX9_share_98 : decode cX9_share 98 = .ok (.lmul, 1) := by decide +kernel
theorem dX9_share_99 : decode cX9_share 99 = .ok (.aload_n 0, 1) := by decide +kernel
theorem dX9_share_100 : decode cX9_share 100 = .ok (.getfield 52, 3) := by decide +kernel
theorem dX9_share_103 : decode cX9_share 103 = .ok (.iload 7, 2) := by decide +kernel
theorem dX9_share_105 : decode cX9_share 105 = .ok (.iconst 1, 1) := by decide +kernel
theorem dX9_share_106 : decode cX9_share 106 = .ok (.iload_n 1, 1) := by decide +kernel
theorem dX9_share_107 : decode cX9_share 107 = .ok (.ishl, 1) := by decide +kernel
theorem dX9_share_108 : decode cX9_share 108 = .ok (.ior, 1) := by decide +kernel
theorem dX9_share_109 : decode cX9_share 109 = .ok (.iaload, 1) := by decide +kernel
theorem dX9_share_110 : decode cX9_share 110 = .ok (.aload_n 0, 1) := by decide +kernel
theorem dX9_share_111 : decode cX9_share 111 = .ok (.getfield 52, 3) := by decide +kernel
theorem dX9_share_114 : decode cX9_share 114 = .ok (.iload 7, 2) := by decide +kernel
theorem dX9_share_116 : decode cX9_share 116 = .ok (.iaload, 1) := by decide +kernel
theorem dX9_share_117 : decode cX9_share 117 = .ok (.isub, 1) := by decide +kernel
theorem dX9_share_118 : decode cX9_share 118 = .ok (.i2l, 1) := by decide +kernel
theorem dX9_share_119 : decode cX9_share 119 = .ok (.lmul, 1) := by decide +kernel
theorem dX9_share_120 : decode cX9_share 120 = .ok (.ladd, 1) := by decide +kernel
theorem dX9_share_121 : decode cX9_share 121 = .ok (.lstore_n 3, 1) := by decide +kernel
theorem dX9_share_122 : decode cX9_share 122 = .ok (.iinc 7 1, 3) := by decide +kernel
theorem dX9_share_125 : decode cX9_share 125 = .ok (.goto (-70), 3) := by decide +kernel
theorem dX9_share_128 : decode cX9_share 128 = .ok (.lload_n 3, 1) := by decide +kernel
theorem dX9_share_129 : decode cX9_share 129 = .ok (.lconst 0, 1) := by decide +kernel
theorem dX9_share_130 : decode cX9_share 130 = .ok (.lcmp, 1) := by decide +kernel
theorem dX9_share_131 : decode cX9_share 131 = .ok (.ifCond .ge 8, 3) := by decide +kernel
theorem dX9_share_134 : decode cX9_share 134 = .ok (.lload_n 3, 1) := by decide +kernel
theorem dX9_share_135 : decode cX9_share 135 = .ok (.lneg, 1) := by decide +kernel
theorem dX9_share_136 : decode cX9_share 136 = .ok (.goto 4, 3) := by decide +kernel
theorem dX9_share_139 : decode cX9_share 139 = .ok (.lload_n 3, 1) := by decide +kernel
theorem dX9_share_140 : decode cX9_share 140 = .ok (.lstore 7, 2) := by decide +kernel
theorem dX9_share_142 : decode cX9_share 142 = .ok (.lload 5, 2) := by decide +kernel
theorem dX9_share_144 : decode cX9_share 144 = .ok (.lstore 9, 2) := by decide +kernel
theorem dX9_share_146 : decode cX9_share 146 = .ok (.lload 9, 2) := by decide +kernel
theorem dX9_share_148 : decode cX9_share 148 = .ok (.lconst 0, 1) := by decide +kernel
theorem dX9_share_149 : decode cX9_share 149 = .ok (.lcmp, 1) := by decide +kernel
theorem dX9_share_150 : decode cX9_share 150 = .ok (.ifCond .eq 21, 3) := by decide +kernel
theorem dX9_share_153 : decode cX9_share 153 = .ok (.lload 7, 2) := by decide +kernel
theorem dX9_share_155 : decode cX9_share 155 = .ok (.lload 9, 2) := by decide +kernel
theorem dX9_share_157 : decode cX9_share 157 = .ok (.lrem, 1) := by decide +kernel
theorem dX9_share_158 : decode cX9_share 158 = .ok (.lstore 11, 2) := by decide +kernel
theorem dX9_share_160 : decode cX9_share 160 = .ok (.lload 9, 2) := by decide +kernel
theorem dX9_share_162 : decode cX9_share 162 = .ok (.lstore 7, 2) := by decide +kernel
theorem dX9_share_164 : decode cX9_share 164 = .ok (.lload 11, 2) := by decide +kernel
theorem dX9_share_166 : decode cX9_share 166 = .ok (.lstore 9, 2) := by decide +kernel
theorem dX9_share_168 : decode cX9_share 168 = .ok (.goto (-22), 3) := by decide +kernel
theorem dX9_share_171 : decode cX9_share 171 = .ok (.iload_n 2, 1) := by decide +kernel
theorem dX9_share_172 : decode cX9_share 172 = .ok (.ifCond .ne 10, 3) := by decide +kernel
theorem dX9_share_175 : decode cX9_share 175 = .ok (.lload_n 3, 1) := by decide +kernel
theorem dX9_share_176 : decode cX9_share 176 = .ok (.lload 7, 2) := by decide +kernel
theorem dX9_share_178 : decode cX9_share 178 = .ok (.ldiv, 1) := by decide +kernel
theorem dX9_share_179 : decode cX9_share 179 = .ok (.goto 8, 3) := by decide +kernel
theorem dX9_share_182 : decode cX9_share 182 = .ok (.lload 5, 2) := by decide +kernel
theorem dX9_share_184 : decode cX9_share 184 = .ok (.lload 7, 2) := by decide +kernel
theorem dX9_share_186 : decode cX9_share 186 = .ok (.ldiv, 1) := by decide +kernel
theorem dX9_share_187 : decode cX9_share 187 = .ok (.lreturn, 1) := by decide +kernel
theorem dX9_findSpots_0 : decode cX9_findSpots 0 = .ok (.aload_n 0, 1) := by decide +kernel
theorem dX9_findSpots_1 : decode cX9_findSpots 1 = .ok (.iconst 0, 1) := by decide +kernel
theorem dX9_findSpots_2 : decode cX9_findSpots 2 = .ok (.putfield 189, 3) := by decide +kernel
theorem dX9_findSpots_5 : decode cX9_findSpots 5 = .ok (.sipush (-1000), 3) := by decide +kernel
theorem dX9_findSpots_8 : decode cX9_findSpots 8 = .ok (.istore_n 1, 1) := by decide +kernel
theorem dX9_findSpots_9 : decode cX9_findSpots 9 = .ok (.iload_n 1, 1) := by decide +kernel
theorem dX9_findSpots_10 : decode cX9_findSpots 10 = .ok (.sipush 1000, 3) := by decide +kernel
theorem dX9_findSpots_13 : decode cX9_findSpots 13 = .ok (.if_icmp .gt 71, 3) := by decide +kernel
theorem dX9_findSpots_16 : decode cX9_findSpots 16 = .ok (.iconst 0, 1) := by decide +kernel
theorem dX9_findSpots_17 : decode cX9_findSpots 17 = .ok (.istore_n 2, 1) := by decide +kernel
theorem dX9_findSpots_18 : decode cX9_findSpots 18 = .ok (.iconst 0, 1) := by decide +kernel
theorem dX9_findSpots_19 : decode cX9_findSpots 19 = .ok (.istore_n 3, 1) := by decide +kernel
theorem dX9_findSpots_20 : decode cX9_findSpots 20 = .ok (.iload_n 3, 1) := by decide +kernel
theorem dX9_findSpots_21 : decode cX9_findSpots 21 = .ok (.aload_n 0, 1) := by decide +kernel
theorem dX9_findSpots_22 : decode cX9_findSpots 22 = .ok (.getfield 68, 3) := by decide +kernel
theorem dX9_findSpots_25 : decode cX9_findSpots 25 = .ok (.if_icmp .ge 29, 3) := by decide +kernel
theorem dX9_findSpots_28 : decode cX9_findSpots 28 = .ok (.iload_n 2, 1) := by decide +kernel
theorem dX9_findSpots_29 : decode cX9_findSpots 29 = .ok (.ifCond .ne 13, 3) := by decide +kernel
theorem dX9_findSpots_32 : decode cX9_findSpots 32 = .ok (.aload_n 0, 1) := by decide +kernel
theorem dX9_findSpots_33 : decode cX9_findSpots 33 = .ok (.getfield 16, 3) := by decide +kernel
theorem dX9_findSpots_36 : decode cX9_findSpots 36 = .ok (.iload_n 3, 1) := by decide +kernel
theorem dX9_findSpots_37 : decode cX9_findSpots 37 = .ok (.iaload, 1) := by decide +kernel
theorem dX9_findSpots_38 : decode cX9_findSpots 38 = .ok (.iload_n 1, 1) := by decide +kernel
theorem dX9_findSpots_39 : decode cX9_findSpots 39 = .ok (.if_icmp .ne 7, 3) := by decide +kernel
theorem dX9_findSpots_42 : decode cX9_findSpots 42 = .ok (.iconst 1, 1) := by decide +kernel
theorem dX9_findSpots_43 : decode cX9_findSpots 43 = .ok (.goto 4, 3) := by decide +kernel
theorem dX9_findSpots_46 : decode cX9_findSpots 46 = .ok (.iconst 0, 1) := by decide +kernel
theorem dX9_findSpots_47 : decode cX9_findSpots 47 = .ok (.istore_n 2, 1) := by decide +kernel
theorem dX9_findSpots_48 : decode cX9_findSpots 48 = .ok (.iinc 3 1, 3) := by decide +kernel
theorem dX9_findSpots_51 : decode cX9_findSpots 51 = .ok (.goto (-31), 3) := by decide +kernel
theorem dX9_findSpots_54 : decode cX9_findSpots 54 = .ok (.iload_n 2, 1) := by decide +kernel
theorem dX9_findSpots_55 : decode cX9_findSpots 55 = .ok (.ifCond .eq 23, 3) := by decide +kernel
theorem dX9_findSpots_58 : decode cX9_findSpots 58 = .ok (.aload_n 0, 1) := by decide +kernel
theorem dX9_findSpots_59 : decode cX9_findSpots 59 = .ok (.getfield 55, 3) := by decide +kernel
theorem dX9_findSpots_62 : decode cX9_findSpots 62 = .ok (.aload_n 0, 1) := by decide +kernel
theorem dX9_findSpots_63 : decode cX9_findSpots 63 = .ok (.getfield 189, 3) := by decide +kernel
theorem dX9_findSpots_66 : decode cX9_findSpots 66 = .ok (.iload_n 1, 1) := by decide +kernel
theorem dX9_findSpots_67 : decode cX9_findSpots 67 = .ok (.iastore, 1) := by decide +kernel
theorem dX9_findSpots_68 : decode cX9_findSpots 68 = .ok (.aload_n 0, 1) := by decide +kernel
theorem dX9_findSpots_69 : decode cX9_findSpots 69 = .ok (.dup, 1) := by decide +kernel
theorem dX9_findSpots_70 : decode cX9_findSpots 70 = .ok (.getfield 189, 3) := by decide +kernel
theorem dX9_findSpots_73 : decode cX9_findSpots 73 = .ok (.iconst 1, 1) := by decide +kernel
theorem dX9_findSpots_74 : decode cX9_findSpots 74 = .ok (.iadd, 1) := by decide +kernel
theorem dX9_findSpots_75 : decode cX9_findSpots 75 = .ok (.putfield 189, 3) := by decide +kernel
theorem dX9_findSpots_78 : decode cX9_findSpots 78 = .ok (.iinc 1 1, 3) := by decide +kernel
theorem dX9_findSpots_81 : decode cX9_findSpots 81 = .ok (.goto (-72), 3) := by decide +kernel
theorem dX9_findSpots_84 : decode cX9_findSpots 84 = .ok (.return_, 1) := by decide +kernel
set_option maxRecDepth 20000 in
theorem ggX9_lineCost_X9_has : GoodIn wsX9_lineCost wsX9_has := goodIn_r _ [9] (by decide +kernel) (by decide +kernel)
set_option maxRecDepth 20000 in
theorem gX9_lineCost_X9_has : GoodIn wsX9_lineCost (va_wsS RX9 111 yX9_has wsX9_has) := goodIn_app (goodIn_of _ (by decide +kernel)) ggX9_lineCost_X9_has
theorem dX9_lineCost_0 : decode cX9_lineCost 0 = .ok (.iconst 0, 1) := by decide +kernel
theorem dX9_lineCost_1 : decode cX9_lineCost 1 = .ok (.istore_n 3, 1) := by decide +kernel
theorem dX9_lineCost_2 : decode cX9_lineCost 2 = .ok (.iconst 0, 1) := by decide +kernel
theorem dX9_lineCost_3 : decode cX9_lineCost 3 = .ok (.istore 4, 2) := by decide +kernel
theorem dX9_lineCost_5 : decode cX9_lineCost 5 = .ok (.iconst 0, 1) := by decide +kernel
theorem dX9_lineCost_6 : decode cX9_lineCost 6 = .ok (.istore 5, 2) := by decide +kernel
theorem dX9_lineCost_8 : decode cX9_lineCost 8 = .ok (.iload 5, 2) := by decide +kernel
theorem dX9_lineCost_10 : decode cX9_lineCost 10 = .ok (.aload_n 0, 1) := by decide +kernel
theorem dX9_lineCost_11 : decode cX9_lineCost 11 = .ok (.getfield 68, 3) := by decide +kernel
theorem dX9_lineCost_14 : decode cX9_lineCost 14 = .ok (.if_icmp .ge 138, 3) := by decide +kernel
theorem dX9_lineCost_17 : decode cX9_lineCost 17 = .ok (.sipush 10000, 3) := by decide +kernel
theorem dX9_lineCost_20 : decode cX9_lineCost 20 = .ok (.istore 6, 2) := by decide +kernel
theorem dX9_lineCost_22 : decode cX9_lineCost 22 = .ok (.iconst 0, 1) := by decide +kernel
theorem dX9_lineCost_23 : decode cX9_lineCost 23 = .ok (.istore 7, 2) := by decide +kernel
theorem dX9_lineCost_25 : decode cX9_lineCost 25 = .ok (.iload 7, 2) := by decide +kernel
theorem dX9_lineCost_27 : decode cX9_lineCost 27 = .ok (.aload_n 0, 1) := by decide +kernel
theorem dX9_lineCost_28 : decode cX9_lineCost 28 = .ok (.getfield 189, 3) := by decide +kernel
theorem dX9_lineCost_31 : decode cX9_lineCost 31 = .ok (.if_icmp .ge 86, 3) := by decide +kernel
theorem dX9_lineCost_34 : decode cX9_lineCost 34 = .ok (.aload_n 0, 1) := by decide +kernel
theorem dX9_lineCost_35 : decode cX9_lineCost 35 = .ok (.getfield 16, 3) := by decide +kernel
theorem dX9_lineCost_38 : decode cX9_lineCost 38 = .ok (.iload 5, 2) := by decide +kernel
theorem dX9_lineCost_40 : decode cX9_lineCost 40 = .ok (.iaload, 1) := by decide +kernel
theorem dX9_lineCost_41 : decode cX9_lineCost 41 = .ok (.aload_n 0, 1) := by decide +kernel
theorem dX9_lineCost_42 : decode cX9_lineCost 42 = .ok (.getfield 55, 3) := by decide +kernel
theorem dX9_lineCost_45 : decode cX9_lineCost 45 = .ok (.iload 7, 2) := by decide +kernel
theorem dX9_lineCost_47 : decode cX9_lineCost 47 = .ok (.iaload, 1) := by decide +kernel
theorem dX9_lineCost_48 : decode cX9_lineCost 48 = .ok (.if_icmp .le 21, 3) := by decide +kernel
theorem dX9_lineCost_51 : decode cX9_lineCost 51 = .ok (.aload_n 0, 1) := by decide +kernel
theorem dX9_lineCost_52 : decode cX9_lineCost 52 = .ok (.getfield 16, 3) := by decide +kernel
theorem dX9_lineCost_55 : decode cX9_lineCost 55 = .ok (.iload 5, 2) := by decide +kernel
theorem dX9_lineCost_57 : decode cX9_lineCost 57 = .ok (.iaload, 1) := by decide +kernel
theorem dX9_lineCost_58 : decode cX9_lineCost 58 = .ok (.aload_n 0, 1) := by decide +kernel
theorem dX9_lineCost_59 : decode cX9_lineCost 59 = .ok (.getfield 55, 3) := by decide +kernel
theorem dX9_lineCost_62 : decode cX9_lineCost 62 = .ok (.iload 7, 2) := by decide +kernel
theorem dX9_lineCost_64 : decode cX9_lineCost 64 = .ok (.iaload, 1) := by decide +kernel
theorem dX9_lineCost_65 : decode cX9_lineCost 65 = .ok (.isub, 1) := by decide +kernel
theorem dX9_lineCost_66 : decode cX9_lineCost 66 = .ok (.goto 18, 3) := by decide +kernel
theorem dX9_lineCost_69 : decode cX9_lineCost 69 = .ok (.aload_n 0, 1) := by decide +kernel
theorem dX9_lineCost_70 : decode cX9_lineCost 70 = .ok (.getfield 55, 3) := by decide +kernel
theorem dX9_lineCost_73 : decode cX9_lineCost 73 = .ok (.iload 7, 2) := by decide +kernel
theorem dX9_lineCost_75 : decode cX9_lineCost 75 = .ok (.iaload, 1) := by decide +kernel
theorem dX9_lineCost_76 : decode cX9_lineCost 76 = .ok (.aload_n 0, 1) := by decide +kernel
theorem dX9_lineCost_77 : decode cX9_lineCost 77 = .ok (.getfield 16, 3) := by decide +kernel
theorem dX9_lineCost_80 : decode cX9_lineCost 80 = .ok (.iload 5, 2) := by decide +kernel
theorem dX9_lineCost_82 : decode cX9_lineCost 82 = .ok (.iaload, 1) := by decide +kernel
theorem dX9_lineCost_83 : decode cX9_lineCost 83 = .ok (.isub, 1) := by decide +kernel
theorem dX9_lineCost_84 : decode cX9_lineCost 84 = .ok (.istore 8, 2) := by decide +kernel
theorem dX9_lineCost_86 : decode cX9_lineCost 86 = .ok (.iload_n 2, 1) := by decide +kernel
theorem dX9_lineCost_87 : decode cX9_lineCost 87 = .ok (.iload 7, 2) := by decide +kernel
theorem dX9_lineCost_89 : decode cX9_lineCost 89 = .ok (.invokestatic 111, 3) := by decide +kernel
theorem dX9_lineCost_92 : decode cX9_lineCost 92 = .ok (.ifCond .eq 15, 3) := by decide +kernel
theorem dX9_lineCost_95 : decode cX9_lineCost 95 = .ok (.iload 8, 2) := by decide +kernel
theorem dX9_lineCost_97 : decode cX9_lineCost 97 = .ok (.iload 6, 2) := by decide +kernel
theorem dX9_lineCost_99 : decode cX9_lineCost 99 = .ok (.if_icmp .ge 8, 3) := by decide +kernel
theorem dX9_lineCost_102 : decode cX9_lineCost 102 = .ok (.iload 8, 2) := by decide +kernel
theorem dX9_lineCost_104 : decode cX9_lineCost 104 = .ok (.goto 5, 3) := by decide +kernel
theorem dX9_lineCost_107 : decode cX9_lineCost 107 = .ok (.iload 6, 2) := by decide +kernel
theorem dX9_lineCost_109 : decode cX9_lineCost 109 = .ok (.istore 6, 2) := by decide +kernel
theorem dX9_lineCost_111 : decode cX9_lineCost 111 = .ok (.iinc 7 1, 3) := by decide +kernel
theorem dX9_lineCost_114 : decode cX9_lineCost 114 = .ok (.goto (-89), 3) := by decide +kernel
theorem dX9_lineCost_117 : decode cX9_lineCost 117 = .ok (.iload_n 3, 1) := by decide +kernel
theorem dX9_lineCost_118 : decode cX9_lineCost 118 = .ok (.aload_n 0, 1) := by decide +kernel
theorem dX9_lineCost_119 : decode cX9_lineCost 119 = .ok (.getfield 7, 3) := by decide +kernel
theorem dX9_lineCost_122 : decode cX9_lineCost 122 = .ok (.iload 5, 2) := by decide +kernel
theorem dX9_lineCost_124 : decode cX9_lineCost 124 = .ok (.iaload, 1) := by decide +kernel
theorem dX9_lineCost_125 : decode cX9_lineCost 125 = .ok (.iload 6, 2) := by decide +kernel
theorem dX9_lineCost_127 : decode cX9_lineCost 127 = .ok (.imul, 1) := by decide +kernel
theorem dX9_lineCost_128 : decode cX9_lineCost 128 = .ok (.iadd, 1) := by decide +kernel
theorem dX9_lineCost_129 : decode cX9_lineCost 129 = .ok (.istore_n 3, 1) := by decide +kernel
theorem dX9_lineCost_130 : decode cX9_lineCost 130 = .ok (.iload 6, 2) := by decide +kernel
theorem dX9_lineCost_132 : decode cX9_lineCost 132 = .ok (.iload 4, 2) := by decide +kernel
theorem dX9_lineCost_134 : decode cX9_lineCost 134 = .ok (.if_icmp .le 8, 3) := by decide +kernel
theorem dX9_lineCost_137 : decode cX9_lineCost 137 = .ok (.iload 6, 2) := by decide +kernel
theorem dX9_lineCost_139 : decode cX9_lineCost 139 = .ok (.goto 5, 3) := by decide +kernel
theorem dX9_lineCost_142 : decode cX9_lineCost 142 = .ok (.iload 4, 2) := by decide +kernel
theorem dX9_lineCost_144 : decode cX9_lineCost 144 = .ok (.istore 4, 2) := by decide +kernel
theorem dX9_lineCost_146 : decode cX9_lineCost 146 = .ok (.iinc 5 1, 3) := by decide +kernel
theorem dX9_lineCost_149 : decode cX9_lineCost 149 = .ok (.goto (-141), 3) := by decide +kernel
theorem dX9_lineCost_152 : decode cX9_lineCost 152 = .ok (.iload_n 1, 1) := by decide +kernel
theorem dX9_lineCost_153 : decode cX9_lineCost 153 = .ok (.ifCond .ne 7, 3) := by decide +kernel
theorem dX9_lineCost_156 : decode cX9_lineCost 156 = .ok (.iload_n 3, 1) := by decide +kernel
theorem dX9_lineCost_157 : decode cX9_lineCost 157 = .ok (.goto 5, 3) := by decide +kernel
theorem dX9_lineCost_160 : decode cX9_lineCost 160 = .ok (.iload 4, 2) := by decide +kernel
theorem dX9_lineCost_162 : decode cX9_lineCost 162 = .ok (.ireturn, 1) := by decide +kernel
theorem dX9_isAhead_0 : decode cX9_isAhead 0 = .ok (.iload_n 0, 1) := by decide +kernel
theorem dX9_isAhead_1 : decode cX9_isAhead 1 = .ok (.iload_n 1, 1) := by decide +kernel
theorem dX9_isAhead_2 : decode cX9_isAhead 2 = .ok (.ixor, 1) := by decide +kernel
theorem dX9_isAhead_3 : decode cX9_isAhead 3 = .ok (.istore_n 2, 1) := by decide +kernel
theorem dX9_isAhead_4 : decode cX9_isAhead 4 = .ok (.iload_n 0, 1) := by decide +kernel
theorem dX9_isAhead_5 : decode cX9_isAhead 5 = .ok (.iload_n 2, 1) := by decide +kernel
theorem dX9_isAhead_6 : decode cX9_isAhead 6 = .ok (.iand, 1) := by decide +kernel
theorem dX9_isAhead_7 : decode cX9_isAhead 7 = .ok (.iload_n 2, 1) := by decide +kernel
theorem dX9_isAhead_8 : decode cX9_isAhead 8 = .ok (.ineg, 1) := by decide +kernel
theorem dX9_isAhead_9 : decode cX9_isAhead 9 = .ok (.iand, 1) := by decide +kernel
theorem dX9_isAhead_10 : decode cX9_isAhead 10 = .ok (.ifCond .eq 7, 3) := by decide +kernel
theorem dX9_isAhead_13 : decode cX9_isAhead 13 = .ok (.iconst 1, 1) := by decide +kernel
theorem dX9_isAhead_14 : decode cX9_isAhead 14 = .ok (.goto 4, 3) := by decide +kernel
theorem dX9_isAhead_17 : decode cX9_isAhead 17 = .ok (.iconst 0, 1) := by decide +kernel
theorem dX9_isAhead_18 : decode cX9_isAhead 18 = .ok (.ireturn, 1) := by decide +kernel
set_option maxRecDepth 20000 in
theorem ggX9_findLine_X9_findSpots : GoodIn wsX9_findLine wsX9_findSpots := goodIn_r _ [8, 1, 9, 10, 11, 26, 27, 28, 29, 30, 31, 32, 33, 34, 35, 36, 37, 38, 39, 40, 41, 42, 43, 44, 45, 46, 47, 48, 49, 50, 51, 52, 53] (by decide +kernel) (by decide +kernel)
set_option maxRecDepth 20000 in
theorem gX9_findLine_X9_findSpots : GoodIn wsX9_findLine (wsV RX9 192 RX9 yX9_findSpots wsX9_findSpots) := goodIn_app (goodIn_of _ (by decide +kernel)) ggX9_findLine_X9_findSpots
set_option maxRecDepth 20000 in
theorem ggX9_findLine_X9_sizeOf : GoodIn wsX9_findLine wsX9_sizeOf := goodIn_r _ [14] (by decide +kernel) (by decide +kernel)
set_option maxRecDepth 20000 in
theorem gX9_findLine_X9_sizeOf : GoodIn wsX9_findLine (va_wsS RX9 128 yX9_sizeOf wsX9_sizeOf) := goodIn_app (goodIn_of _ (by decide +kernel)) ggX9_findLine_X9_sizeOf
set_option maxRecDepth 20000 in
theorem ggX9_findLine_X9_lineCost : GoodIn wsX9_findLine wsX9_lineCost := goodIn_r _ [18, 9, 1, 10, 11, 19, 20, 21, 7, 22, 26, 27, 28, 29, 30, 31, 32, 33, 34, 35, 36, 37, 38, 39, 40, 41, 42, 43, 44, 45, 46, 47, 48, 49, 50, 51, 52, 53] (by decide +kernel) (by decide +kernel)
set_option maxRecDepth 20000 in
theorem gX9_findLine_X9_lineCost : GoodIn wsX9_findLine (wsV RX9 198 RX9 yX9_lineCost wsX9_lineCost) := goodIn_app (goodIn_of _ (by decide +kernel)) ggX9_findLine_X9_lineCost
set_option maxRecDepth 20000 in
theorem ggX9_findLine_X9_isAhead : GoodIn wsX9_findLine wsX9_isAhead := goodIn_r _ [25] (by decide +kernel) (by decide +kernel)
set_option maxRecDepth 20000 in
theorem gX9_findLine_X9_isAhead : GoodIn wsX9_findLine (va_wsS RX9 201 yX9_isAhead wsX9_isAhead) := goodIn_app (goodIn_of _ (by decide +kernel)) ggX9_findLine_X9_isAhead
theorem dX9_findLine_0 : decode cX9_findLine 0 = .ok (.aload_n 0, 1) := by decide +kernel
theorem dX9_findLine_1 : decode cX9_findLine 1 = .ok (.invokevirtual 192, 3) := by decide +kernel
theorem dX9_findLine_4 : decode cX9_findLine 4 = .ok (.iload_n 2, 1) := by decide +kernel
theorem dX9_findLine_5 : decode cX9_findLine 5 = .ok (.aload_n 0, 1) := by decide +kernel
theorem dX9_findLine_6 : decode cX9_findLine 6 = .ok (.getfield 189, 3) := by decide +kernel
theorem dX9_findLine_9 : decode cX9_findLine 9 = .ok (.if_icmp .ge 7, 3) := by decide +kernel
theorem dX9_findLine_12 : decode cX9_findLine 12 = .ok (.iload_n 2, 1) := by decide +kernel
theorem dX9_findLine_13 : decode cX9_findLine 13 = .ok (.goto 7, 3) := by decide +kernel
theorem dX9_findLine_16 : decode cX9_findLine 16 = .ok (.aload_n 0, 1) := by decide +kernel
theorem dX9_findLine_17 : decode cX9_findLine 17 = .ok (.getfield 189, 3) := by decide +kernel
theorem dX9_findLine_20 : decode cX9_findLine 20 = .ok (.istore_n 3, 1) := by decide +kernel
theorem dX9_findLine_21 : decode cX9_findLine 21 = .ok (.ldc 121, 2) := by decide +kernel
theorem dX9_findLine_23 : decode cX9_findLine 23 = .ok (.istore 4, 2) := by decide +kernel
theorem dX9_findLine_25 : decode cX9_findLine 25 = .ok (.aload_n 0, 1) := by decide +kernel
theorem dX9_findLine_26 : decode cX9_findLine 26 = .ok (.iconst 0, 1) := by decide +kernel
theorem dX9_findLine_27 : decode cX9_findLine 27 = .ok (.putfield 195, 3) := by decide +kernel
theorem dX9_findLine_30 : decode cX9_findLine 30 = .ok (.iconst 0, 1) := by decide +kernel
theorem dX9_findLine_31 : decode cX9_findLine 31 = .ok (.istore 5, 2) := by decide +kernel
theorem dX9_findLine_33 : decode cX9_findLine 33 = .ok (.iload 5, 2) := by decide +kernel
theorem dX9_findLine_35 : decode cX9_findLine 35 = .ok (.iconst 1, 1) := by decide +kernel
theorem dX9_findLine_36 : decode cX9_findLine 36 = .ok (.aload_n 0, 1) := by decide +kernel
theorem dX9_findLine_37 : decode cX9_findLine 37 = .ok (.getfield 189, 3) := by decide +kernel
theorem dX9_findLine_40 : decode cX9_findLine 40 = .ok (.ishl, 1) := by decide +kernel
theorem dX9_findLine_41 : decode cX9_findLine 41 = .ok (.if_icmp .ge 63, 3) := by decide +kernel
theorem dX9_findLine_44 : decode cX9_findLine 44 = .ok (.iload 5, 2) := by decide +kernel
theorem dX9_findLine_46 : decode cX9_findLine 46 = .ok (.invokestatic 128, 3) := by decide +kernel
theorem dX9_findLine_49 : decode cX9_findLine 49 = .ok (.iload_n 3, 1) := by decide +kernel
theorem dX9_findLine_50 : decode cX9_findLine 50 = .ok (.if_icmp .ne 48, 3) := by decide +kernel
theorem dX9_findLine_53 : decode cX9_findLine 53 = .ok (.aload_n 0, 1) := by decide +kernel
theorem dX9_findLine_54 : decode cX9_findLine 54 = .ok (.iload_n 1, 1) := by decide +kernel
theorem dX9_findLine_55 : decode cX9_findLine 55 = .ok (.iload 5, 2) := by decide +kernel
theorem dX9_findLine_57 : decode cX9_findLine 57 = .ok (.invokevirtual 198, 3) := by decide +kernel
theorem dX9_findLine_60 : decode cX9_findLine 60 = .ok (.istore 6, 2) := by decide +kernel
theorem dX9_findLine_62 : decode cX9_findLine 62 = .ok (.iload 6, 2) := by decide +kernel
theorem dX9_findLine_64 : decode cX9_findLine 64 = .ok (.iload 4, 2) := by decide +kernel
theorem dX9_findLine_66 : decode cX9_findLine 66 = .ok (.if_icmp .lt 22, 3) := by decide +kernel
theorem dX9_findLine_69 : decode cX9_findLine 69 = .ok (.iload 6, 2) := by decide +kernel
theorem dX9_findLine_71 : decode cX9_findLine 71 = .ok (.iload 4, 2) := by decide +kernel
theorem dX9_findLine_73 : decode cX9_findLine 73 = .ok (.if_icmp .ne 25, 3) := by decide +kernel
theorem dX9_findLine_76 : decode cX9_findLine 76 = .ok (.iload 5, 2) := by decide +kernel
theorem dX9_findLine_78 : decode cX9_findLine 78 = .ok (.aload_n 0, 1) := by decide +kernel
theorem dX9_findLine_79 : decode cX9_findLine 79 = .ok (.getfield 195, 3) := by decide +kernel
theorem dX9_findLine_82 : decode cX9_findLine 82 = .ok (.invokestatic 201, 3) := by decide +kernel
theorem dX9_findLine_85 : decode cX9_findLine 85 = .ok (.ifCond .eq 13, 3) := by decide +kernel
theorem dX9_findLine_88 : decode cX9_findLine 88 = .ok (.iload 6, 2) := by decide +kernel
theorem dX9_findLine_90 : decode cX9_findLine 90 = .ok (.istore 4, 2) := by decide +kernel
theorem dX9_findLine_92 : decode cX9_findLine 92 = .ok (.aload_n 0, 1) := by decide +kernel
theorem dX9_findLine_93 : decode cX9_findLine 93 = .ok (.iload 5, 2) := by decide +kernel
theorem dX9_findLine_95 : decode cX9_findLine 95 = .ok (.putfield 195, 3) := by decide +kernel
theorem dX9_findLine_98 : decode cX9_findLine 98 = .ok (.iinc 5 1, 3) := by decide +kernel
theorem dX9_findLine_101 : decode cX9_findLine 101 = .ok (.goto (-68), 3) := by decide +kernel
theorem dX9_findLine_104 : decode cX9_findLine 104 = .ok (.iload 4, 2) := by decide +kernel
theorem dX9_findLine_106 : decode cX9_findLine 106 = .ok (.ireturn, 1) := by decide +kernel
set_option maxRecDepth 20000 in
theorem ggX9_isLine_X9_in : GoodIn wsX9_isLine wsX9_in := goodIn_r _ [4] (by decide +kernel) (by decide +kernel)
set_option maxRecDepth 20000 in
theorem gX9_isLine_X9_in : GoodIn wsX9_isLine (va_wsS RX9 91 yX9_in wsX9_in) := goodIn_app (goodIn_of _ (by decide +kernel)) ggX9_isLine_X9_in
theorem dX9_isLine_0 : decode cX9_isLine 0 = .ok (.iload_n 0, 1) := by decide +kernel
theorem dX9_isLine_1 : decode cX9_isLine 1 = .ok (.iconst 0, 1) := by decide +kernel
theorem dX9_isLine_2 : decode cX9_isLine 2 = .ok (.iconst 1, 1) := by decide +kernel
theorem dX9_isLine_3 : decode cX9_isLine 3 = .ok (.invokestatic 91, 3) := by decide +kernel
theorem dX9_isLine_6 : decode cX9_isLine 6 = .ok (.ifCond .eq 17, 3) := by decide +kernel
theorem dX9_isLine_9 : decode cX9_isLine 9 = .ok (.iload_n 1, 1) := by decide +kernel
theorem dX9_isLine_10 : decode cX9_isLine 10 = .ok (.iconst 1, 1) := by decide +kernel
theorem dX9_isLine_11 : decode cX9_isLine 11 = .ok (.bipush 8, 2) := by decide +kernel
theorem dX9_isLine_13 : decode cX9_isLine 13 = .ok (.invokestatic 91, 3) := by decide +kernel
theorem dX9_isLine_16 : decode cX9_isLine 16 = .ok (.ifCond .eq 7, 3) := by decide +kernel
theorem dX9_isLine_19 : decode cX9_isLine 19 = .ok (.iconst 1, 1) := by decide +kernel
theorem dX9_isLine_20 : decode cX9_isLine 20 = .ok (.goto 4, 3) := by decide +kernel
theorem dX9_isLine_23 : decode cX9_isLine 23 = .ok (.iconst 0, 1) := by decide +kernel
theorem dX9_isLine_24 : decode cX9_isLine 24 = .ok (.ireturn, 1) := by decide +kernel
set_option maxRecDepth 20000 in
theorem ggX9_line_X9_isLine : GoodIn wsX9_line wsX9_isLine := goodIn_r _ [6, 7, 8, 5, 9] (by decide +kernel) (by decide +kernel)
set_option maxRecDepth 20000 in
theorem gX9_line_X9_isLine : GoodIn wsX9_line (va_wsS RX9 204 yX9_isLine wsX9_isLine) := goodIn_app (goodIn_of _ (by decide +kernel)) ggX9_line_X9_isLine
set_option maxRecDepth 20000 in
theorem ggX9_line_X9_findLine : GoodIn wsX9_line wsX9_findLine := goodIn_r _ [13, 14, 15, 16, 17, 18, 19, 5, 20, 2, 21, 22, 23, 24, 25, 26, 27, 28, 29, 30, 31, 32, 33, 34, 35, 36, 37, 38, 39, 40, 41, 42, 43, 44, 45, 46, 47, 48, 49, 50, 51, 52, 53, 54, 55, 56, 57, 58, 59, 60, 61, 62, 63, 64] (by decide +kernel) (by decide +kernel)
set_option maxRecDepth 20000 in
theorem gX9_line_X9_findLine : GoodIn wsX9_line (wsV RX9 207 RX9 yX9_findLine wsX9_findLine) := goodIn_app (goodIn_of _ (by decide +kernel)) ggX9_line_X9_findLine
theorem dX9_line_0 : decode cX9_line 0 = .ok (.aload_n 0, 1) := by decide +kernel
theorem dX9_line_1 : decode cX9_line 1 = .ok (.iconst 0, 1) := by decide +kernel
theorem dX9_line_2 : decode cX9_line 2 = .ok (.putfield 58, 3) := by decide +kernel
theorem dX9_line_5 : decode cX9_line 5 = .ok (.iload_n 1, 1) := by decide +kernel
theorem dX9_line_6 : decode cX9_line 6 = .ok (.iload_n 2, 1) := by decide +kernel
theorem dX9_line_7 : decode cX9_line 7 = .ok (.invokestatic 204, 3) := by decide +kernel
theorem dX9_line_10 : decode cX9_line 10 = .ok (.ifCond .ne 6, 3) := by decide +kernel
theorem dX9_line_13 : decode cX9_line 13 = .ok (.bipush (-3), 2) := by decide +kernel
theorem dX9_line_15 : decode cX9_line 15 = .ok (.ireturn, 1) := by decide +kernel
theorem dX9_line_16 : decode cX9_line 16 = .ok (.aload_n 0, 1) := by decide +kernel
theorem dX9_line_17 : decode cX9_line 17 = .ok (.getfield 68, 3) := by decide +kernel
theorem dX9_line_20 : decode cX9_line 20 = .ok (.ifCond .ne 7, 3) := by decide +kernel
