theorem dX8_way_75 : decode cX8_way 75 = .ok (.ifCond .ne 6, 3) := by decide +kernel
theorem dX8_way_78 : decode cX8_way 78 = .ok (.bipush (-3), 2) := by decide +kernel
theorem dX8_way_80 : decode cX8_way 80 = .ok (.ireturn, 1) := by decide +kernel
theorem dX8_way_81 : decode cX8_way 81 = .ok (.aload_n 0, 1) := by decide +kernel
theorem dX8_way_82 : decode cX8_way 82 = .ok (.aload_n 0, 1) := by decide +kernel
theorem dX8_way_83 : decode cX8_way 83 = .ok (.getfield 12, 3) := by decide +kernel
theorem dX8_way_86 : decode cX8_way 86 = .ok (.getfield 133, 3) := by decide +kernel
theorem dX8_way_89 : decode cX8_way 89 = .ok (.iload_n 1, 1) := by decide +kernel
theorem dX8_way_90 : decode cX8_way 90 = .ok (.bipush 8, 2) := by decide +kernel
theorem dX8_way_92 : decode cX8_way 92 = .ok (.imul, 1) := by decide +kernel
theorem dX8_way_93 : decode cX8_way 93 = .ok (.iload_n 2, 1) := by decide +kernel
theorem dX8_way_94 : decode cX8_way 94 = .ok (.iadd, 1) := by decide +kernel
theorem dX8_way_95 : decode cX8_way 95 = .ok (.iload_n 3, 1) := by decide +kernel
theorem dX8_way_96 : decode cX8_way 96 = .ok (.invokevirtual 100, 3) := by decide +kernel
theorem dX8_way_99 : decode cX8_way 99 = .ok (.ireturn, 1) := by decide +kernel
set_option maxRecDepth 20000 in
theorem ggX8_copy_X5_hasHall : GoodIn wsX8_copy wsX5_hasHall := goodIn_r _ [12, 13, 87, 88, 89, 90, 91, 92, 93, 94, 95, 96] (by decide +kernel) (by decide +kernel)
set_option maxRecDepth 20000 in
theorem gX8_copy_X5_hasHall : GoodIn wsX8_copy (wsV RX8 111 RX5 yX5_hasHall wsX5_hasHall) := goodIn_app (goodIn_of _ (by decide +kernel)) ggX8_copy_X5_hasHall
set_option maxRecDepth 20000 in
theorem ggX8_copy_X5_isMissing : GoodIn wsX8_copy wsX5_isMissing := goodIn_r _ [17, 18, 87, 88, 89, 90, 91, 92, 93, 94, 95, 96] (by decide +kernel) (by decide +kernel)
set_option maxRecDepth 20000 in
theorem gX8_copy_X5_isMissing : GoodIn wsX8_copy (wsV RX8 124 RX5 yX5_isMissing wsX5_isMissing) := goodIn_app (goodIn_of _ (by decide +kernel)) ggX8_copy_X5_isMissing
set_option maxRecDepth 20000 in
theorem ggX8_copy_X5_hasPlaces : GoodIn wsX8_copy wsX5_hasPlaces := goodIn_r _ [22, 23, 87, 88, 89, 90, 91, 92, 93, 94, 95, 96] (by decide +kernel) (by decide +kernel)
set_option maxRecDepth 20000 in
theorem gX8_copy_X5_hasPlaces : GoodIn wsX8_copy (wsV RX8 136 RX5 yX5_hasPlaces wsX5_hasPlaces) := goodIn_app (goodIn_of _ (by decide +kernel)) ggX8_copy_X5_hasPlaces
set_option maxRecDepth 20000 in
theorem ggX8_copy_X8_keepForUndo : GoodIn wsX8_copy wsX8_keepForUndo := goodIn_r _ [28, 29, 1, 30, 31, 32, 33, 34, 35, 36, 37, 38, 39, 40, 41, 42, 43, 11, 44, 45, 13, 46, 47, 5, 6, 7, 48, 49, 50, 51, 18, 23, 52, 53, 54, 55, 27, 56, 57, 58, 59, 60, 61, 62, 63, 64, 65, 66, 67, 68, 69, 70, 71, 72, 73, 74, 75, 76, 77, 78, 79, 80, 81, 82, 83, 84, 85, 86, 97, 98, 87, 88, 89, 90, 91, 92, 93, 94, 95, 96, 99, 100, 101, 102, 103, 104, 105, 106, 107, 108, 109, 110, 111, 112, 113, 114, 115, 116, 117, 118] (by decide +kernel) (by decide +kernel)
set_option maxRecDepth 20000 in
theorem gX8_copy_X8_keepForUndo : GoodIn wsX8_copy (wsV RX8 75 RX8 yX8_keepForUndo wsX8_keepForUndo) := goodIn_app (goodIn_of _ (by decide +kernel)) ggX8_copy_X8_keepForUndo
theorem dX8_copy_0 : decode cX8_copy 0 = .ok (.aload_n 0, 1) := by decide +kernel
theorem dX8_copy_1 : decode cX8_copy 1 = .ok (.getfield 12, 3) := by decide +kernel
theorem dX8_copy_4 : decode cX8_copy 4 = .ok (.iload_n 1, 1) := by decide +kernel
theorem dX8_copy_5 : decode cX8_copy 5 = .ok (.invokevirtual 111, 3) := by decide +kernel
theorem dX8_copy_8 : decode cX8_copy 8 = .ok (.ifCond .eq 14, 3) := by decide +kernel
theorem dX8_copy_11 : decode cX8_copy 11 = .ok (.aload_n 0, 1) := by decide +kernel
theorem dX8_copy_12 : decode cX8_copy 12 = .ok (.getfield 12, 3) := by decide +kernel
theorem dX8_copy_15 : decode cX8_copy 15 = .ok (.iload_n 3, 1) := by decide +kernel
theorem dX8_copy_16 : decode cX8_copy 16 = .ok (.invokevirtual 111, 3) := by decide +kernel
theorem dX8_copy_19 : decode cX8_copy 19 = .ok (.ifCond .ne 6, 3) := by decide +kernel
theorem dX8_copy_22 : decode cX8_copy 22 = .ok (.bipush (-3), 2) := by decide +kernel
theorem dX8_copy_24 : decode cX8_copy 24 = .ok (.ireturn, 1) := by decide +kernel
theorem dX8_copy_25 : decode cX8_copy 25 = .ok (.aload_n 0, 1) := by decide +kernel
theorem dX8_copy_26 : decode cX8_copy 26 = .ok (.getfield 12, 3) := by decide +kernel
theorem dX8_copy_29 : decode cX8_copy 29 = .ok (.iload_n 1, 1) := by decide +kernel
theorem dX8_copy_30 : decode cX8_copy 30 = .ok (.invokevirtual 124, 3) := by decide +kernel
theorem dX8_copy_33 : decode cX8_copy 33 = .ok (.ifCond .ne 14, 3) := by decide +kernel
theorem dX8_copy_36 : decode cX8_copy 36 = .ok (.aload_n 0, 1) := by decide +kernel
theorem dX8_copy_37 : decode cX8_copy 37 = .ok (.getfield 12, 3) := by decide +kernel
theorem dX8_copy_40 : decode cX8_copy 40 = .ok (.iload_n 3, 1) := by decide +kernel
theorem dX8_copy_41 : decode cX8_copy 41 = .ok (.invokevirtual 124, 3) := by decide +kernel
theorem dX8_copy_44 : decode cX8_copy 44 = .ok (.ifCond .eq 6, 3) := by decide +kernel
theorem dX8_copy_47 : decode cX8_copy 47 = .ok (.bipush (-11), 2) := by decide +kernel
theorem dX8_copy_49 : decode cX8_copy 49 = .ok (.ireturn, 1) := by decide +kernel
theorem dX8_copy_50 : decode cX8_copy 50 = .ok (.aload_n 0, 1) := by decide +kernel
theorem dX8_copy_51 : decode cX8_copy 51 = .ok (.getfield 12, 3) := by decide +kernel
theorem dX8_copy_54 : decode cX8_copy 54 = .ok (.getfield 130, 3) := by decide +kernel
theorem dX8_copy_57 : decode cX8_copy 57 = .ok (.iload_n 1, 1) := by decide +kernel
theorem dX8_copy_58 : decode cX8_copy 58 = .ok (.iaload, 1) := by decide +kernel
theorem dX8_copy_59 : decode cX8_copy 59 = .ok (.aload_n 0, 1) := by decide +kernel
theorem dX8_copy_60 : decode cX8_copy 60 = .ok (.getfield 12, 3) := by decide +kernel
theorem dX8_copy_63 : decode cX8_copy 63 = .ok (.getfield 130, 3) := by decide +kernel
theorem dX8_copy_66 : decode cX8_copy 66 = .ok (.iload_n 3, 1) := by decide +kernel
theorem dX8_copy_67 : decode cX8_copy 67 = .ok (.iaload, 1) := by decide +kernel
theorem dX8_copy_68 : decode cX8_copy 68 = .ok (.if_icmp .eq 6, 3) := by decide +kernel
theorem dX8_copy_71 : decode cX8_copy 71 = .ok (.bipush (-4), 2) := by decide +kernel
theorem dX8_copy_73 : decode cX8_copy 73 = .ok (.ireturn, 1) := by decide +kernel
theorem dX8_copy_74 : decode cX8_copy 74 = .ok (.aload_n 0, 1) := by decide +kernel
theorem dX8_copy_75 : decode cX8_copy 75 = .ok (.getfield 12, 3) := by decide +kernel
theorem dX8_copy_78 : decode cX8_copy 78 = .ok (.iload_n 1, 1) := by decide +kernel
theorem dX8_copy_79 : decode cX8_copy 79 = .ok (.iload_n 2, 1) := by decide +kernel
theorem dX8_copy_80 : decode cX8_copy 80 = .ok (.iload 5, 2) := by decide +kernel
theorem dX8_copy_82 : decode cX8_copy 82 = .ok (.invokevirtual 136, 3) := by decide +kernel
theorem dX8_copy_85 : decode cX8_copy 85 = .ok (.ifCond .eq 18, 3) := by decide +kernel
theorem dX8_copy_88 : decode cX8_copy 88 = .ok (.aload_n 0, 1) := by decide +kernel
theorem dX8_copy_89 : decode cX8_copy 89 = .ok (.getfield 12, 3) := by decide +kernel
theorem dX8_copy_92 : decode cX8_copy 92 = .ok (.iload_n 3, 1) := by decide +kernel
theorem dX8_copy_93 : decode cX8_copy 93 = .ok (.iload 4, 2) := by decide +kernel
theorem dX8_copy_95 : decode cX8_copy 95 = .ok (.iload 5, 2) := by decide +kernel
theorem dX8_copy_97 : decode cX8_copy 97 = .ok (.invokevirtual 136, 3) := by decide +kernel
theorem dX8_copy_100 : decode cX8_copy 100 = .ok (.ifCond .ne 6, 3) := by decide +kernel
theorem dX8_copy_103 : decode cX8_copy 103 = .ok (.bipush (-13), 2) := by decide +kernel
theorem dX8_copy_105 : decode cX8_copy 105 = .ok (.ireturn, 1) := by decide +kernel
theorem dX8_copy_106 : decode cX8_copy 106 = .ok (.aload_n 0, 1) := by decide +kernel
theorem dX8_copy_107 : decode cX8_copy 107 = .ok (.invokevirtual 75, 3) := by decide +kernel
theorem dX8_copy_110 : decode cX8_copy 110 = .ok (.aload_n 0, 1) := by decide +kernel
theorem dX8_copy_111 : decode cX8_copy 111 = .ok (.getfield 12, 3) := by decide +kernel
theorem dX8_copy_114 : decode cX8_copy 114 = .ok (.getfield 133, 3) := by decide +kernel
theorem dX8_copy_117 : decode cX8_copy 117 = .ok (.iload_n 1, 1) := by decide +kernel
theorem dX8_copy_118 : decode cX8_copy 118 = .ok (.bipush 8, 2) := by decide +kernel
theorem dX8_copy_120 : decode cX8_copy 120 = .ok (.imul, 1) := by decide +kernel
theorem dX8_copy_121 : decode cX8_copy 121 = .ok (.iload_n 2, 1) := by decide +kernel
theorem dX8_copy_122 : decode cX8_copy 122 = .ok (.iadd, 1) := by decide +kernel
theorem dX8_copy_123 : decode cX8_copy 123 = .ok (.aload_n 0, 1) := by decide +kernel
theorem dX8_copy_124 : decode cX8_copy 124 = .ok (.getfield 12, 3) := by decide +kernel
theorem dX8_copy_127 : decode cX8_copy 127 = .ok (.getfield 133, 3) := by decide +kernel
theorem dX8_copy_130 : decode cX8_copy 130 = .ok (.iload_n 3, 1) := by decide +kernel
theorem dX8_copy_131 : decode cX8_copy 131 = .ok (.bipush 8, 2) := by decide +kernel
theorem dX8_copy_133 : decode cX8_copy 133 = .ok (.imul, 1) := by decide +kernel
theorem dX8_copy_134 : decode cX8_copy 134 = .ok (.iload 4, 2) := by decide +kernel
theorem dX8_copy_136 : decode cX8_copy 136 = .ok (.iadd, 1) := by decide +kernel
theorem dX8_copy_137 : decode cX8_copy 137 = .ok (.iload 5, 2) := by decide +kernel
theorem dX8_copy_139 : decode cX8_copy 139 = .ok (.invokestatic 139, 3) := by decide +kernel
theorem dX8_copy_142 : decode cX8_copy 142 = .ok (.iload 5, 2) := by decide +kernel
theorem dX8_copy_144 : decode cX8_copy 144 = .ok (.ireturn, 1) := by decide +kernel
set_option maxRecDepth 20000 in
theorem ggX8_far_X5_hasHall : GoodIn wsX8_far wsX5_hasHall := goodIn_r _ [6, 7, 27, 28, 29, 30, 31, 32, 33, 34, 35, 36] (by decide +kernel) (by decide +kernel)
set_option maxRecDepth 20000 in
theorem gX8_far_X5_hasHall : GoodIn wsX8_far (wsV RX8 111 RX5 yX5_hasHall wsX5_hasHall) := goodIn_app (goodIn_of _ (by decide +kernel)) ggX8_far_X5_hasHall
set_option maxRecDepth 20000 in
theorem ggX8_far_X5_hasTown : GoodIn wsX8_far wsX5_hasTown := goodIn_r _ [11, 12, 27, 28, 29, 30, 31, 32, 33, 34, 35, 36] (by decide +kernel) (by decide +kernel)
set_option maxRecDepth 20000 in
theorem gX8_far_X5_hasTown : GoodIn wsX8_far (wsV RX8 88 RX5 yX5_hasTown wsX5_hasTown) := goodIn_app (goodIn_of _ (by decide +kernel)) ggX8_far_X5_hasTown
set_option maxRecDepth 20000 in
theorem ggX8_far_X5_wayOf : GoodIn wsX8_far wsX5_wayOf := goodIn_r _ [16, 17, 27, 28, 29, 30, 31, 32, 33, 34, 35, 36] (by decide +kernel) (by decide +kernel)
set_option maxRecDepth 20000 in
theorem gX8_far_X5_wayOf : GoodIn wsX8_far (wsV RX8 145 RX5 yX5_wayOf wsX5_wayOf) := goodIn_app (goodIn_of _ (by decide +kernel)) ggX8_far_X5_wayOf
theorem dX8_far_0 : decode cX8_far 0 = .ok (.aload_n 0, 1) := by decide +kernel
theorem dX8_far_1 : decode cX8_far 1 = .ok (.getfield 12, 3) := by decide +kernel
theorem dX8_far_4 : decode cX8_far 4 = .ok (.iload_n 1, 1) := by decide +kernel
theorem dX8_far_5 : decode cX8_far 5 = .ok (.invokevirtual 111, 3) := by decide +kernel
theorem dX8_far_8 : decode cX8_far 8 = .ok (.ifCond .eq 14, 3) := by decide +kernel
theorem dX8_far_11 : decode cX8_far 11 = .ok (.aload_n 0, 1) := by decide +kernel
theorem dX8_far_12 : decode cX8_far 12 = .ok (.getfield 12, 3) := by decide +kernel
theorem dX8_far_15 : decode cX8_far 15 = .ok (.iload_n 2, 1) := by decide +kernel
theorem dX8_far_16 : decode cX8_far 16 = .ok (.invokevirtual 88, 3) := by decide +kernel
theorem dX8_far_19 : decode cX8_far 19 = .ok (.ifCond .ne 6, 3) := by decide +kernel
theorem dX8_far_22 : decode cX8_far 22 = .ok (.bipush (-3), 2) := by decide +kernel
theorem dX8_far_24 : decode cX8_far 24 = .ok (.ireturn, 1) := by decide +kernel
theorem dX8_far_25 : decode cX8_far 25 = .ok (.aload_n 0, 1) := by decide +kernel
theorem dX8_far_26 : decode cX8_far 26 = .ok (.getfield 12, 3) := by decide +kernel
theorem dX8_far_29 : decode cX8_far 29 = .ok (.iload_n 1, 1) := by decide +kernel
theorem dX8_far_30 : decode cX8_far 30 = .ok (.iload_n 2, 1) := by decide +kernel
theorem dX8_far_31 : decode cX8_far 31 = .ok (.invokevirtual 145, 3) := by decide +kernel
theorem dX8_far_34 : decode cX8_far 34 = .ok (.ireturn, 1) := by decide +kernel
set_option maxRecDepth 20000 in
theorem ggX8_about_X5_hasTown : GoodIn wsX8_about wsX5_hasTown := goodIn_r _ [6, 7, 38, 39, 40, 41, 42, 43, 44, 45, 46, 47] (by decide +kernel) (by decide +kernel)
set_option maxRecDepth 20000 in
theorem gX8_about_X5_hasTown : GoodIn wsX8_about (wsV RX8 88 RX5 yX5_hasTown wsX5_hasTown) := goodIn_app (goodIn_of _ (by decide +kernel)) ggX8_about_X5_hasTown
set_option maxRecDepth 20000 in
theorem ggX8_about_X8_aboutTown : GoodIn wsX8_about wsX8_aboutTown := goodIn_r _ [12, 1, 13, 14, 15, 29, 30, 31, 32, 33, 34, 35, 36, 37, 38, 39, 40, 41, 42, 43, 44, 45, 46, 47] (by decide +kernel) (by decide +kernel)
set_option maxRecDepth 20000 in
theorem gX8_about_X8_aboutTown : GoodIn wsX8_about (wsV RX8 149 RX8 yX8_aboutTown wsX8_aboutTown) := goodIn_app (goodIn_of _ (by decide +kernel)) ggX8_about_X8_aboutTown
set_option maxRecDepth 20000 in
theorem ggX8_about_X5_hasHall : GoodIn wsX8_about wsX5_hasHall := goodIn_r _ [19, 20, 38, 39, 40, 41, 42, 43, 44, 45, 46, 47] (by decide +kernel) (by decide +kernel)
set_option maxRecDepth 20000 in
theorem gX8_about_X5_hasHall : GoodIn wsX8_about (wsV RX8 111 RX5 yX5_hasHall wsX5_hasHall) := goodIn_app (goodIn_of _ (by decide +kernel)) ggX8_about_X5_hasHall
set_option maxRecDepth 20000 in
theorem ggX8_about_X8_aboutHall : GoodIn wsX8_about wsX8_aboutHall := goodIn_r _ [24, 1, 25, 26, 27, 28, 29, 30, 31, 32, 33, 34, 35, 36, 37, 38, 39, 40, 41, 42, 43, 44, 45, 46, 47] (by decide +kernel) (by decide +kernel)
set_option maxRecDepth 20000 in
theorem gX8_about_X8_aboutHall : GoodIn wsX8_about (wsV RX8 152 RX8 yX8_aboutHall wsX8_aboutHall) := goodIn_app (goodIn_of _ (by decide +kernel)) ggX8_about_X8_aboutHall
theorem dX8_about_0 : decode cX8_about 0 = .ok (.iload_n 1, 1) := by decide +kernel
theorem dX8_about_1 : decode cX8_about 1 = .ok (.ifCond .ne 21, 3) := by decide +kernel
theorem dX8_about_4 : decode cX8_about 4 = .ok (.aload_n 0, 1) := by decide +kernel
theorem dX8_about_5 : decode cX8_about 5 = .ok (.getfield 12, 3) := by decide +kernel
theorem dX8_about_8 : decode cX8_about 8 = .ok (.iload_n 2, 1) := by decide +kernel
theorem dX8_about_9 : decode cX8_about 9 = .ok (.invokevirtual 88, 3) := by decide +kernel
theorem dX8_about_12 : decode cX8_about 12 = .ok (.ifCond .eq 10, 3) := by decide +kernel
theorem dX8_about_15 : decode cX8_about 15 = .ok (.aload_n 0, 1) := by decide +kernel
theorem dX8_about_16 : decode cX8_about 16 = .ok (.iload_n 2, 1) := by decide +kernel
theorem dX8_about_17 : decode cX8_about 17 = .ok (.iload_n 3, 1) := by decide +kernel
theorem dX8_about_18 : decode cX8_about 18 = .ok (.invokevirtual 149, 3) := by decide +kernel
theorem dX8_about_21 : decode cX8_about 21 = .ok (.ireturn, 1) := by decide +kernel
theorem dX8_about_22 : decode cX8_about 22 = .ok (.iload_n 1, 1) := by decide +kernel
theorem dX8_about_23 : decode cX8_about 23 = .ok (.iconst 1, 1) := by decide +kernel
theorem dX8_about_24 : decode cX8_about 24 = .ok (.if_icmp .ne 21, 3) := by decide +kernel
theorem dX8_about_27 : decode cX8_about 27 = .ok (.aload_n 0, 1) := by decide +kernel
theorem dX8_about_28 : decode cX8_about 28 = .ok (.getfield 12, 3) := by decide +kernel
theorem dX8_about_31 : decode cX8_about 31 = .ok (.iload_n 2, 1) := by decide +kernel
theorem dX8_about_32 : decode cX8_about 32 = .ok (.invokevirtual 111, 3) := by decide +kernel
theorem dX8_about_35 : decode cX8_about 35 = .ok (.ifCond .eq 10, 3) := by decide +kernel
theorem dX8_about_38 : decode cX8_about 38 = .ok (.aload_n 0, 1) := by decide +kernel
theorem dX8_about_39 : decode cX8_about 39 = .ok (.iload_n 2, 1) := by decide +kernel
theorem dX8_about_40 : decode cX8_about 40 = .ok (.iload_n 3, 1) := by decide +kernel
theorem dX8_about_41 : decode cX8_about 41 = .ok (.invokevirtual 152, 3) := by decide +kernel
theorem dX8_about_44 : decode cX8_about 44 = .ok (.ireturn, 1) := by decide +kernel
theorem dX8_about_45 : decode cX8_about 45 = .ok (.bipush (-3), 2) := by decide +kernel
theorem dX8_about_47 : decode cX8_about 47 = .ok (.ireturn, 1) := by decide +kernel
set_option maxRecDepth 20000 in
theorem ggX8_undo_X4_giveBack : GoodIn wsX8_undo wsX4_giveBack := goodIn_r _ [10, 11, 12, 13, 14, 15, 16, 17, 18, 19, 20, 21, 22, 23, 24, 25, 26, 27, 28, 29, 30, 31, 79, 80, 81, 82, 83, 84, 85, 86, 87, 88, 89, 90] (by decide +kernel) (by decide +kernel)
set_option maxRecDepth 20000 in
theorem gX8_undo_X4_giveBack : GoodIn wsX8_undo (wsV RX8 158 RX4 yX4_giveBack wsX4_giveBack) := goodIn_app (goodIn_of _ (by decide +kernel)) ggX8_undo_X4_giveBack
set_option maxRecDepth 20000 in
theorem ggX8_undo_X8_forgetAnswers : GoodIn wsX8_undo wsX8_forgetAnswers := goodIn_r _ [36, 37, 38, 39, 40, 41, 42, 43, 44, 45, 46, 47, 48, 49, 50, 51, 52, 53, 54, 55, 56, 57, 70, 71, 72, 73, 74, 75, 76, 77, 78, 91, 92, 93, 94, 95, 96, 97, 98, 99, 100, 101, 102, 103, 104, 105, 106, 107, 108, 109, 110] (by decide +kernel) (by decide +kernel)
set_option maxRecDepth 20000 in
theorem gX8_undo_X8_forgetAnswers : GoodIn wsX8_undo (wsV RX8 161 RX8 yX8_forgetAnswers wsX8_forgetAnswers) := goodIn_app (goodIn_of _ (by decide +kernel)) ggX8_undo_X8_forgetAnswers
set_option maxRecDepth 20000 in
theorem ggX8_undo_X0_dropLost : GoodIn wsX8_undo wsX0_dropLost := goodIn_r _ [62, 63, 64, 65, 111, 112, 113, 81, 82, 83, 84, 85, 86, 87, 88, 89, 90] (by decide +kernel) (by decide +kernel)
set_option maxRecDepth 20000 in
theorem gX8_undo_X0_dropLost : GoodIn wsX8_undo (wsV RX8 164 RX0 yX0_dropLost wsX0_dropLost) := goodIn_app (goodIn_of _ (by decide +kernel)) ggX8_undo_X0_dropLost
set_option maxRecDepth 20000 in
theorem ggX8_undo_X5_everyHall : GoodIn wsX8_undo wsX5_everyHall := goodIn_r _ [69, 19, 81, 82, 83, 84, 85, 86, 87, 88, 89, 90] (by decide +kernel) (by decide +kernel)
set_option maxRecDepth 20000 in
theorem gX8_undo_X5_everyHall : GoodIn wsX8_undo (wsV RX8 170 RX5 yX5_everyHall wsX5_everyHall) := goodIn_app (goodIn_of _ (by decide +kernel)) ggX8_undo_X5_everyHall
theorem dX8_undo_0 : decode cX8_undo 0 = .ok (.aload_n 0, 1) := by decide +kernel
theorem dX8_undo_1 : decode cX8_undo 1 = .ok (.getfield 19, 3) := by decide +kernel
theorem dX8_undo_4 : decode cX8_undo 4 = .ok (.getfield 155, 3) := by decide +kernel
theorem dX8_undo_7 : decode cX8_undo 7 = .ok (.ifCond .gt 6, 3) := by decide +kernel
theorem dX8_undo_10 : decode cX8_undo 10 = .ok (.bipush (-4), 2) := by decide +kernel
theorem dX8_undo_12 : decode cX8_undo 12 = .ok (.ireturn, 1) := by decide +kernel
theorem dX8_undo_13 : decode cX8_undo 13 = .ok (.aload_n 0, 1) := by decide +kernel
theorem dX8_undo_14 : decode cX8_undo 14 = .ok (.getfield 19, 3) := by decide +kernel
theorem dX8_undo_17 : decode cX8_undo 17 = .ok (.aload_n 0, 1) := by decide +kernel
theorem dX8_undo_18 : decode cX8_undo 18 = .ok (.getfield 12, 3) := by decide +kernel
theorem dX8_undo_21 : decode cX8_undo 21 = .ok (.invokevirtual 158, 3) := by decide +kernel
theorem dX8_undo_24 : decode cX8_undo 24 = .ok (.aload_n 0, 1) := by decide +kernel
theorem dX8_undo_25 : decode cX8_undo 25 = .ok (.invokevirtual 161, 3) := by decide +kernel
theorem dX8_undo_28 : decode cX8_undo 28 = .ok (.aload_n 0, 1) := by decide +kernel
theorem dX8_undo_29 : decode cX8_undo 29 = .ok (.getfield 53, 3) := by decide +kernel
theorem dX8_undo_32 : decode cX8_undo 32 = .ok (.invokevirtual 164, 3) := by decide +kernel
theorem dX8_undo_35 : decode cX8_undo 35 = .ok (.aload_n 0, 1) := by decide +kernel
theorem dX8_undo_36 : decode cX8_undo 36 = .ok (.dup, 1) := by decide +kernel
theorem dX8_undo_37 : decode cX8_undo 37 = .ok (.getfield 167, 3) := by decide +kernel
theorem dX8_undo_40 : decode cX8_undo 40 = .ok (.aload_n 0, 1) := by decide +kernel
theorem dX8_undo_41 : decode cX8_undo 41 = .ok (.getfield 12, 3) := by decide +kernel
theorem dX8_undo_44 : decode cX8_undo 44 = .ok (.invokevirtual 170, 3) := by decide +kernel
theorem dX8_undo_47 : decode cX8_undo 47 = .ok (.iand, 1) := by decide +kernel
theorem dX8_undo_48 : decode cX8_undo 48 = .ok (.putfield 167, 3) := by decide +kernel
theorem dX8_undo_51 : decode cX8_undo 51 = .ok (.aload_n 0, 1) := by decide +kernel
theorem dX8_undo_52 : decode cX8_undo 52 = .ok (.getfield 19, 3) := by decide +kernel
theorem dX8_undo_55 : decode cX8_undo 55 = .ok (.getfield 155, 3) := by decide +kernel
theorem dX8_undo_58 : decode cX8_undo 58 = .ok (.ireturn, 1) := by decide +kernel
set_option maxRecDepth 20000 in
theorem ggX8_open_X5_everyHall : GoodIn wsX8_open wsX5_everyHall := goodIn_r _ [7, 8, 29, 30, 31, 32, 33, 34, 35, 36, 37, 38] (by decide +kernel) (by decide +kernel)
set_option maxRecDepth 20000 in
theorem gX8_open_X5_everyHall : GoodIn wsX8_open (wsV RX8 170 RX5 yX5_everyHall wsX5_everyHall) := goodIn_app (goodIn_of _ (by decide +kernel)) ggX8_open_X5_everyHall
set_option maxRecDepth 20000 in
theorem ggX8_open_X8_within : GoodIn wsX8_open wsX8_within := goodIn_r _ [12] (by decide +kernel) (by decide +kernel)
set_option maxRecDepth 20000 in
theorem gX8_open_X8_within : GoodIn wsX8_open (va_wsS RX8 92 yX8_within wsX8_within) := goodIn_app (goodIn_of _ (by decide +kernel)) ggX8_open_X8_within
set_option maxRecDepth 20000 in
theorem ggX8_open_J6_bitCount_0f7a4 : GoodIn wsX8_open wsJ6_bitCount_0f7a4 := goodIn_r _ [16, 17, 18, 19] (by decide +kernel) (by decide +kernel)
set_option maxRecDepth 20000 in
theorem gX8_open_J6_bitCount_0f7a4 : GoodIn wsX8_open (va_wsS RX8 173 yJ6_bitCount_0f7a4 wsJ6_bitCount_0f7a4) := goodIn_app (goodIn_of _ (by decide +kernel)) ggX8_open_J6_bitCount_0f7a4
theorem dX8_open_0 : decode cX8_open 0 = .ok (.iload_n 1, 1) := by decide +kernel
theorem dX8_open_1 : decode cX8_open 1 = .ok (.iconst 0, 1) := by decide +kernel
theorem dX8_open_2 : decode cX8_open 2 = .ok (.aload_n 0, 1) := by decide +kernel
theorem dX8_open_3 : decode cX8_open 3 = .ok (.getfield 12, 3) := by decide +kernel
theorem dX8_open_6 : decode cX8_open 6 = .ok (.invokevirtual 170, 3) := by decide +kernel
theorem dX8_open_9 : decode cX8_open 9 = .ok (.invokestatic 92, 3) := by decide +kernel
theorem dX8_open_12 : decode cX8_open 12 = .ok (.ifCond .ne 6, 3) := by decide +kernel
theorem dX8_open_15 : decode cX8_open 15 = .ok (.bipush (-3), 2) := by decide +kernel
theorem dX8_open_17 : decode cX8_open 17 = .ok (.ireturn, 1) := by decide +kernel
theorem dX8_open_18 : decode cX8_open 18 = .ok (.aload_n 0, 1) := by decide +kernel
theorem dX8_open_19 : decode cX8_open 19 = .ok (.iload_n 1, 1) := by decide +kernel
theorem dX8_open_20 : decode cX8_open 20 = .ok (.putfield 167, 3) := by decide +kernel
theorem dX8_open_23 : decode cX8_open 23 = .ok (.iload_n 1, 1) := by decide +kernel
theorem dX8_open_24 : decode cX8_open 24 = .ok (.invokestatic 173, 3) := by decide +kernel
theorem dX8_open_27 : decode cX8_open 27 = .ok (.ireturn, 1) := by decide +kernel
theorem dX8_opened_0 : decode cX8_opened 0 = .ok (.aload_n 0, 1) := by decide +kernel
theorem dX8_opened_1 : decode cX8_opened 1 = .ok (.getfield 167, 3) := by decide +kernel
theorem dX8_opened_4 : decode cX8_opened 4 = .ok (.ireturn, 1) := by decide +kernel
set_option maxRecDepth 20000 in
theorem ggX8_cost_X8_isKind : GoodIn wsX8_cost wsX8_isKind := goodIn_r _ [5, 6, 7, 4, 8] (by decide +kernel) (by decide +kernel)
set_option maxRecDepth 20000 in
theorem gX8_cost_X8_isKind : GoodIn wsX8_cost (va_wsS RX8 179 yX8_isKind wsX8_isKind) := goodIn_app (goodIn_of _ (by decide +kernel)) ggX8_cost_X8_isKind
set_option maxRecDepth 20000 in
theorem ggX8_cost_X8_freshCosts : GoodIn wsX8_cost wsX8_freshCosts := goodIn_r _ [12, 13, 14, 15, 16, 17, 18, 19, 20, 21, 22, 23, 24, 25, 26, 27, 28, 29, 30, 31, 32, 33, 34, 35, 36, 37, 38, 39, 40, 41, 42, 43, 187, 188, 189, 190, 191, 192, 193, 194, 195, 196, 197, 198, 199, 200, 201, 202, 203, 204, 205, 206, 207, 208, 209, 210] (by decide +kernel) (by decide +kernel)
set_option maxRecDepth 20000 in
theorem gX8_cost_X8_freshCosts : GoodIn wsX8_cost (wsV RX8 182 RX8 yX8_freshCosts wsX8_freshCosts) := goodIn_app (goodIn_of _ (by decide +kernel)) ggX8_cost_X8_freshCosts
set_option maxRecDepth 20000 in
theorem ggX8_cost_X1_costOf : GoodIn wsX8_cost wsX1_costOf := goodIn_r _ [48, 49, 50, 51, 52, 53, 54, 47, 55, 56, 57, 58, 59, 34, 60, 61, 62, 63, 18, 64, 21, 65, 66, 67, 68, 69, 70, 71, 72, 73, 74, 75, 76, 77, 78, 79, 80, 81, 82, 83, 84, 85, 86, 87, 88, 89, 90, 91, 92, 93, 94, 95, 96, 97, 41, 98, 99, 43, 100, 101, 102, 103, 104, 105, 106, 107, 108, 109, 110, 111, 112, 113, 114, 115, 116, 24, 27, 117, 118, 119, 38, 39, 40, 42, 120, 121, 122, 123, 124, 125, 126, 127, 128, 129, 130, 131, 132, 133, 134, 135, 136, 137, 138, 139, 140, 141, 142, 143, 144, 145, 146, 147, 148, 149, 150, 151, 152, 153, 154, 155, 156, 33, 35, 157, 158, 159, 160, 161, 162, 163, 164, 165, 166, 167, 168, 169, 170, 171, 172, 173, 174, 175, 176, 177, 178, 179, 180, 181, 182, 183, 184, 185, 186, 211, 212, 213, 214, 215, 196, 197, 198, 199, 200, 201, 202, 203, 204, 205, 206, 207, 208, 209, 210, 216, 217, 218, 219, 220, 221, 222, 223, 224, 225] (by decide +kernel) (by decide +kernel)
set_option maxRecDepth 20000 in
theorem gX8_cost_X1_costOf : GoodIn wsX8_cost (wsV RX8 186 RX1 yX1_costOf wsX1_costOf) := goodIn_app (goodIn_of _ (by decide +kernel)) ggX8_cost_X1_costOf
theorem dX8_cost_0 : decode cX8_cost 0 = .ok (.iload_n 1, 1) := by decide +kernel
theorem dX8_cost_1 : decode cX8_cost 1 = .ok (.invokestatic 179, 3) := by decide +kernel
theorem dX8_cost_4 : decode cX8_cost 4 = .ok (.ifCond .eq 18, 3) := by decide +kernel
theorem dX8_cost_7 : decode cX8_cost 7 = .ok (.aload_n 0, 1) := by decide +kernel
theorem dX8_cost_8 : decode cX8_cost 8 = .ok (.invokevirtual 182, 3) := by decide +kernel
theorem dX8_cost_11 : decode cX8_cost 11 = .ok (.iload_n 1, 1) := by decide +kernel
theorem dX8_cost_12 : decode cX8_cost 12 = .ok (.aload_n 0, 1) := by decide +kernel
theorem dX8_cost_13 : decode cX8_cost 13 = .ok (.getfield 167, 3) := by decide +kernel
theorem dX8_cost_16 : decode cX8_cost 16 = .ok (.invokevirtual 186, 3) := by decide +kernel
theorem dX8_cost_19 : decode cX8_cost 19 = .ok (.goto 5, 3) := by decide +kernel
theorem dX8_cost_22 : decode cX8_cost 22 = .ok (.bipush (-3), 2) := by decide +kernel
theorem dX8_cost_24 : decode cX8_cost 24 = .ok (.ireturn, 1) := by decide +kernel
set_option maxRecDepth 20000 in
theorem ggX8_goes_X8_within : GoodIn wsX8_goes wsX8_within := goodIn_r _ [6] (by decide +kernel) (by decide +kernel)
set_option maxRecDepth 20000 in
theorem gX8_goes_X8_within : GoodIn wsX8_goes (va_wsS RX8 92 yX8_within wsX8_within) := goodIn_app (goodIn_of _ (by decide +kernel)) ggX8_goes_X8_within
set_option maxRecDepth 20000 in
theorem ggX8_goes_X5_hasTown : GoodIn wsX8_goes wsX5_hasTown := goodIn_r _ [11, 12, 150, 151, 152, 153, 154, 155, 156, 157, 158, 159] (by decide +kernel) (by decide +kernel)
set_option maxRecDepth 20000 in
theorem gX8_goes_X5_hasTown : GoodIn wsX8_goes (wsV RX8 88 RX5 yX5_hasTown wsX5_hasTown) := goodIn_app (goodIn_of _ (by decide +kernel)) ggX8_goes_X5_hasTown
set_option maxRecDepth 20000 in
theorem ggX8_goes_X8_freshCosts : GoodIn wsX8_goes wsX8_freshCosts := goodIn_r _ [16, 17, 18, 19, 20, 21, 22, 23, 24, 25, 26, 27, 28, 29, 30, 31, 32, 33, 34, 35, 36, 37, 38, 39, 40, 41, 42, 43, 44, 10, 45, 46, 141, 142, 143, 144, 145, 146, 147, 148, 149, 160, 161, 162, 163, 164, 150, 151, 152, 153, 154, 155, 156, 157, 158, 159] (by decide +kernel) (by decide +kernel)
set_option maxRecDepth 20000 in
theorem gX8_goes_X8_freshCosts : GoodIn wsX8_goes (wsV RX8 182 RX8 yX8_freshCosts wsX8_freshCosts) := goodIn_app (goodIn_of _ (by decide +kernel)) ggX8_goes_X8_freshCosts
set_option maxRecDepth 20000 in
theorem ggX8_goes_X1_hallFor : GoodIn wsX8_goes wsX1_hallFor := goodIn_r _ [51, 52, 53, 54, 55, 56, 57, 58, 59, 60, 61, 62, 63, 64, 65, 66, 67, 68, 69, 70, 71, 72, 73, 74, 75, 76, 77, 78, 79, 80, 81, 82, 83, 10, 84, 85, 46, 86, 87, 88, 89, 90, 91, 92, 93, 94, 95, 96, 97, 98, 99, 100, 101, 22, 102, 28, 31, 103, 104, 105, 42, 43, 44, 45, 106, 107, 108, 109, 25, 110, 111, 112, 113, 114, 115, 116, 117, 118, 119, 120, 121, 122, 123, 124, 125, 126, 127, 12, 128, 129, 130, 131, 132, 133, 38, 134, 135, 136, 137, 138, 139, 140, 165, 166, 167, 168, 169, 150, 151, 152, 153, 154, 155, 156, 157, 158, 159, 170, 171, 172, 173, 174, 175, 176, 177, 178, 179, 160, 161, 162, 163, 164] (by decide +kernel) (by decide +kernel)
set_option maxRecDepth 20000 in
theorem gX8_goes_X1_hallFor : GoodIn wsX8_goes (wsV RX8 189 RX1 yX1_hallFor wsX1_hallFor) := goodIn_app (goodIn_of _ (by decide +kernel)) ggX8_goes_X1_hallFor
theorem dX8_goes_0 : decode cX8_goes 0 = .ok (.iload_n 1, 1) := by decide +kernel
theorem dX8_goes_1 : decode cX8_goes 1 = .ok (.iconst 0, 1) := by decide +kernel
theorem dX8_goes_2 : decode cX8_goes 2 = .ok (.iconst 4, 1) := by decide +kernel
theorem dX8_goes_3 : decode cX8_goes 3 = .ok (.invokestatic 92, 3) := by decide +kernel
theorem dX8_goes_6 : decode cX8_goes 6 = .ok (.ifCond .eq 14, 3) := by decide +kernel
theorem dX8_goes_9 : decode cX8_goes 9 = .ok (.aload_n 0, 1) := by decide +kernel
theorem dX8_goes_10 : decode cX8_goes 10 = .ok (.getfield 12, 3) := by decide +kernel
theorem dX8_goes_13 : decode cX8_goes 13 = .ok (.iload_n 2, 1) := by decide +kernel
theorem dX8_goes_14 : decode cX8_goes 14 = .ok (.invokevirtual 88, 3) := by decide +kernel
theorem dX8_goes_17 : decode cX8_goes 17 = .ok (.ifCond .ne 6, 3) := by decide +kernel
theorem dX8_goes_20 : decode cX8_goes 20 = .ok (.bipush (-3), 2) := by decide +kernel
theorem dX8_goes_22 : decode cX8_goes 22 = .ok (.ireturn, 1) := by decide +kernel
theorem dX8_goes_23 : decode cX8_goes 23 = .ok (.aload_n 0, 1) := by decide +kernel
theorem dX8_goes_24 : decode cX8_goes 24 = .ok (.invokevirtual 182, 3) := by decide +kernel
theorem dX8_goes_27 : decode cX8_goes 27 = .ok (.iload_n 1, 1) := by decide +kernel
theorem dX8_goes_28 : decode cX8_goes 28 = .ok (.aload_n 0, 1) := by decide +kernel
theorem dX8_goes_29 : decode cX8_goes 29 = .ok (.getfield 167, 3) := by decide +kernel
theorem dX8_goes_32 : decode cX8_goes 32 = .ok (.iload_n 2, 1) := by decide +kernel
theorem dX8_goes_33 : decode cX8_goes 33 = .ok (.invokevirtual 189, 3) := by decide +kernel
theorem dX8_goes_36 : decode cX8_goes 36 = .ok (.ireturn, 1) := by decide +kernel
set_option maxRecDepth 20000 in
theorem ggX8_worst_X8_freshCosts : GoodIn wsX8_worst wsX8_freshCosts := goodIn_r _ [6, 7, 8, 9, 10, 11, 12, 13, 14, 15, 16, 17, 18, 19, 20, 21, 22, 23, 24, 25, 26, 27, 28, 29, 30, 31, 32, 33, 34, 35, 36, 37, 72, 73, 74, 75, 76, 77, 78, 79, 80, 81, 82, 83, 84, 85, 86, 87, 88, 89, 90, 91, 92, 93, 94, 95] (by decide +kernel) (by decide +kernel)
set_option maxRecDepth 20000 in
theorem gX8_worst_X8_freshCosts : GoodIn wsX8_worst (wsV RX8 182 RX8 yX8_freshCosts wsX8_freshCosts) := goodIn_app (goodIn_of _ (by decide +kernel)) ggX8_worst_X8_freshCosts
set_option maxRecDepth 20000 in
theorem ggX8_worst_X1_worstToClose : GoodIn wsX8_worst wsX1_worstToClose := goodIn_r _ [42, 43, 44, 45, 46, 47, 48, 49, 50, 51, 52, 53, 54, 55, 35, 56, 96, 97, 98, 99, 100, 86, 87, 88, 89, 90, 91, 92, 93, 94, 95, 81, 82, 83, 84, 85] (by decide +kernel) (by decide +kernel)
set_option maxRecDepth 20000 in
theorem gX8_worst_X1_worstToClose : GoodIn wsX8_worst (wsV RX8 193 RX1 yX1_worstToClose wsX1_worstToClose) := goodIn_app (goodIn_of _ (by decide +kernel)) ggX8_worst_X1_worstToClose
set_option maxRecDepth 20000 in
theorem ggX8_worst_X1_worstRival : GoodIn wsX8_worst wsX1_worstRival := goodIn_r _ [60, 43, 44, 54, 55, 35, 56, 61, 62, 63, 41, 64, 65, 45, 66, 67, 33, 34, 36, 37, 68, 69, 70, 12, 71, 15, 96, 97, 98, 99, 100, 86, 87, 88, 89, 90, 91, 92, 93, 94, 95, 81, 82, 83, 84, 85] (by decide +kernel) (by decide +kernel)
set_option maxRecDepth 20000 in
theorem gX8_worst_X1_worstRival : GoodIn wsX8_worst (wsV RX8 196 RX1 yX1_worstRival wsX1_worstRival) := goodIn_app (goodIn_of _ (by decide +kernel)) ggX8_worst_X1_worstRival
theorem dX8_worst_0 : decode cX8_worst 0 = .ok (.iload_n 1, 1) := by decide +kernel
theorem dX8_worst_1 : decode cX8_worst 1 = .ok (.iconst 5, 1) := by decide +kernel
theorem dX8_worst_2 : decode cX8_worst 2 = .ok (.if_icmp .eq 12, 3) := by decide +kernel
theorem dX8_worst_5 : decode cX8_worst 5 = .ok (.iload_n 1, 1) := by decide +kernel
theorem dX8_worst_6 : decode cX8_worst 6 = .ok (.bipush 6, 2) := by decide +kernel
theorem dX8_worst_8 : decode cX8_worst 8 = .ok (.if_icmp .eq 6, 3) := by decide +kernel
theorem dX8_worst_11 : decode cX8_worst 11 = .ok (.bipush (-3), 2) := by decide +kernel
theorem dX8_worst_13 : decode cX8_worst 13 = .ok (.ireturn, 1) := by decide +kernel
theorem dX8_worst_14 : decode cX8_worst 14 = .ok (.iload_n 1, 1) := by decide +kernel
theorem dX8_worst_15 : decode cX8_worst 15 = .ok (.iconst 5, 1) := by decide +kernel
theorem dX8_worst_16 : decode cX8_worst 16 = .ok (.if_icmp .ne 17, 3) := by decide +kernel
theorem dX8_worst_19 : decode cX8_worst 19 = .ok (.aload_n 0, 1) := by decide +kernel
theorem dX8_worst_20 : decode cX8_worst 20 = .ok (.invokevirtual 182, 3) := by decide +kernel
theorem dX8_worst_23 : decode cX8_worst 23 = .ok (.aload_n 0, 1) := by decide +kernel
theorem dX8_worst_24 : decode cX8_worst 24 = .ok (.getfield 167, 3) := by decide +kernel
theorem dX8_worst_27 : decode cX8_worst 27 = .ok (.invokevirtual 193, 3) := by decide +kernel
theorem dX8_worst_30 : decode cX8_worst 30 = .ok (.goto 14, 3) := by decide +kernel
theorem dX8_worst_33 : decode cX8_worst 33 = .ok (.aload_n 0, 1) := by decide +kernel
theorem dX8_worst_34 : decode cX8_worst 34 = .ok (.invokevirtual 182, 3) := by decide +kernel
theorem dX8_worst_37 : decode cX8_worst 37 = .ok (.aload_n 0, 1) := by decide +kernel
theorem dX8_worst_38 : decode cX8_worst 38 = .ok (.getfield 167, 3) := by decide +kernel
theorem dX8_worst_41 : decode cX8_worst 41 = .ok (.invokevirtual 196, 3) := by decide +kernel
theorem dX8_worst_44 : decode cX8_worst 44 = .ok (.ireturn, 1) := by decide +kernel
set_option maxRecDepth 20000 in
theorem ggX8_least_X8_isQuestion : GoodIn wsX8_least wsX8_isQuestion := goodIn_r _ [6, 7, 8, 5, 9, 10, 11, 12] (by decide +kernel) (by decide +kernel)
set_option maxRecDepth 20000 in
theorem gX8_least_X8_isQuestion : GoodIn wsX8_least (va_wsS RX8 199 yX8_isQuestion wsX8_isQuestion) := goodIn_app (goodIn_of _ (by decide +kernel)) ggX8_least_X8_isQuestion
set_option maxRecDepth 20000 in
theorem ggX8_least_X8_freshCosts : GoodIn wsX8_least wsX8_freshCosts := goodIn_r _ [16, 17, 1, 18, 19, 20, 21, 22, 23, 24, 25, 26, 27, 28, 29, 30, 31, 32, 33, 34, 35, 36, 37, 38, 39, 40, 41, 42, 43, 44, 45, 46, 204, 205, 206, 207, 208, 209, 210, 211, 212, 218, 219, 220, 221, 222, 223, 224, 225, 226, 227, 228, 229, 230, 231, 232] (by decide +kernel) (by decide +kernel)
set_option maxRecDepth 20000 in
theorem gX8_least_X8_freshCosts : GoodIn wsX8_least (wsV RX8 182 RX8 yX8_freshCosts wsX8_freshCosts) := goodIn_app (goodIn_of _ (by decide +kernel)) ggX8_least_X8_freshCosts
set_option maxRecDepth 20000 in
theorem ggX8_least_X1_seekBest : GoodIn wsX8_least wsX1_seekBest := goodIn_r _ [51, 52, 53, 54, 55, 56, 57, 44, 58, 59, 60, 61, 62, 63, 64, 65, 66, 67, 68, 69, 50, 70, 71, 72, 73, 74, 75, 76, 77, 78, 79, 80, 37, 81, 82, 83, 84, 21, 85, 24, 86, 87, 88, 89, 90, 91, 92, 93, 94, 95, 96, 97, 98, 99, 100, 101, 102, 103, 104, 105, 106, 107, 108, 109, 110, 111, 112, 113, 114, 115, 116, 117, 118, 119, 120, 46, 121, 122, 123, 124, 125, 126, 127, 128, 129, 130, 131, 132, 133, 134, 135, 136, 137, 27, 30, 138, 139, 140, 41, 42, 43, 45, 141, 142, 143, 144, 145, 146, 147, 148, 149, 150, 151, 152, 153, 154, 155, 156, 157, 158, 159, 160, 161, 162, 163, 164, 165, 166, 167, 168, 169, 170, 171, 172, 173, 174, 175, 176, 177, 36, 38, 178, 179, 180, 181, 182, 183, 184, 185, 186, 187, 188, 189, 190, 191, 192, 193, 194, 195, 196, 197, 198, 199, 200, 201, 202, 203, 213, 214, 215, 216, 217, 223, 224, 225, 226, 227, 228, 229, 230, 231, 232, 218, 219, 220, 221, 222, 233, 234, 235, 236, 237, 238, 239, 240, 241, 242] (by decide +kernel) (by decide +kernel)
set_option maxRecDepth 20000 in
theorem gX8_least_X1_seekBest : GoodIn wsX8_least (wsV RX8 203 RX1 yX1_seekBest wsX1_seekBest) := goodIn_app (goodIn_of _ (by decide +kernel)) ggX8_least_X1_seekBest
theorem dX8_least_0 : decode cX8_least 0 = .ok (.iload_n 1, 1) := by decide +kernel
theorem dX8_least_1 : decode cX8_least 1 = .ok (.iload_n 2, 1) := by decide +kernel
theorem dX8_least_2 : decode cX8_least 2 = .ok (.invokestatic 199, 3) := by decide +kernel
theorem dX8_least_5 : decode cX8_least 5 = .ok (.ifCond .ne 6, 3) := by decide +kernel
theorem dX8_least_8 : decode cX8_least 8 = .ok (.bipush (-3), 2) := by decide +kernel
theorem dX8_least_10 : decode cX8_least 10 = .ok (.ireturn, 1) := by decide +kernel
theorem dX8_least_11 : decode cX8_least 11 = .ok (.aload_n 0, 1) := by decide +kernel
theorem dX8_least_12 : decode cX8_least 12 = .ok (.invokevirtual 182, 3) := by decide +kernel
theorem dX8_least_15 : decode cX8_least 15 = .ok (.iload_n 1, 1) := by decide +kernel
theorem dX8_least_16 : decode cX8_least 16 = .ok (.iload_n 2, 1) := by decide +kernel
theorem dX8_least_17 : decode cX8_least 17 = .ok (.invokevirtual 203, 3) := by decide +kernel
theorem dX8_least_20 : decode cX8_least 20 = .ok (.aload_n 0, 1) := by decide +kernel
theorem dX8_least_21 : decode cX8_least 21 = .ok (.getfield 46, 3) := by decide +kernel
theorem dX8_least_24 : decode cX8_least 24 = .ok (.getfield 207, 3) := by decide +kernel
theorem dX8_least_27 : decode cX8_least 27 = .ok (.ireturn, 1) := by decide +kernel
set_option maxRecDepth 20000 in
theorem ggX8_many_X8_isQuestion : GoodIn wsX8_many wsX8_isQuestion := goodIn_r _ [6, 7, 8, 5, 9, 10, 11, 12] (by decide +kernel) (by decide +kernel)
set_option maxRecDepth 20000 in
theorem gX8_many_X8_isQuestion : GoodIn wsX8_many (va_wsS RX8 199 yX8_isQuestion wsX8_isQuestion) := goodIn_app (goodIn_of _ (by decide +kernel)) ggX8_many_X8_isQuestion
set_option maxRecDepth 20000 in
theorem ggX8_many_X8_freshCosts : GoodIn wsX8_many wsX8_freshCosts := goodIn_r _ [16, 17, 1, 18, 19, 20, 21, 22, 23, 24, 25, 26, 27, 28, 29, 30, 31, 32, 33, 34, 35, 36, 37, 38, 39, 40, 41, 42, 43, 44, 45, 46, 213, 214, 215, 216, 217, 218, 219, 220, 221, 222, 223, 224, 225, 226, 227, 228, 229, 230, 231, 232, 233, 234, 235, 236] (by decide +kernel) (by decide +kernel)
set_option maxRecDepth 20000 in
theorem gX8_many_X8_freshCosts : GoodIn wsX8_many (wsV RX8 182 RX8 yX8_freshCosts wsX8_freshCosts) := goodIn_app (goodIn_of _ (by decide +kernel)) ggX8_many_X8_freshCosts
set_option maxRecDepth 20000 in
theorem ggX8_many_X1_seekBest : GoodIn wsX8_many wsX1_seekBest := goodIn_r _ [51, 52, 53, 54, 55, 56, 57, 44, 58, 59, 60, 61, 62, 63, 64, 65, 66, 67, 68, 69, 50, 70, 71, 72, 73, 74, 75, 76, 77, 78, 79, 80, 37, 81, 82, 83, 84, 21, 85, 24, 86, 87, 88, 89, 90, 91, 92, 93, 94, 95, 96, 97, 98, 99, 100, 101, 102, 103, 104, 105, 106, 107, 108, 109, 110, 111, 112, 113, 114, 115, 116, 117, 118, 119, 120, 46, 121, 122, 123, 124, 125, 126, 127, 128, 129, 130, 131, 132, 133, 134, 135, 136, 137, 27, 30, 138, 139, 140, 41, 42, 43, 45, 141, 142, 143, 144, 145, 146, 147, 148, 149, 150, 151, 152, 153, 154, 155, 156, 157, 158, 159, 160, 161, 162, 163, 164, 165, 166, 167, 168, 169, 170, 171, 172, 173, 174, 175, 176, 177, 36, 38, 178, 179, 180, 181, 182, 183, 184, 185, 186, 187, 188, 189, 190, 191, 192, 193, 194, 195, 196, 197, 198, 199, 200, 201, 202, 203, 237, 238, 239, 240, 241, 227, 228, 229, 230, 231, 232, 233, 234, 235, 236, 222, 223, 224, 225, 226, 242, 243, 244, 245, 246, 247, 248, 249, 250, 251] (by decide +kernel) (by decide +kernel)
set_option maxRecDepth 20000 in
theorem gX8_many_X1_seekBest : GoodIn wsX8_many (wsV RX8 203 RX1 yX1_seekBest wsX1_seekBest) := goodIn_app (goodIn_of _ (by decide +kernel)) ggX8_many_X1_seekBest
set_option maxRecDepth 20000 in
theorem ggX8_many_X5_everyHall : GoodIn wsX8_many wsX5_everyHall := goodIn_r _ [58, 59, 227, 228, 229, 230, 231, 232, 233, 234, 235, 236] (by decide +kernel) (by decide +kernel)
set_option maxRecDepth 20000 in
theorem gX8_many_X5_everyHall : GoodIn wsX8_many (wsV RX8 170 RX5 yX5_everyHall wsX5_everyHall) := goodIn_app (goodIn_of _ (by decide +kernel)) ggX8_many_X5_everyHall
set_option maxRecDepth 20000 in
theorem ggX8_many_X1_bestUpTo : GoodIn wsX8_many wsX1_bestUpTo := goodIn_r _ [208, 209, 210, 211, 50, 212, 52, 54, 237, 238, 239, 240, 241] (by decide +kernel) (by decide +kernel)
set_option maxRecDepth 20000 in
theorem gX8_many_X1_bestUpTo : GoodIn wsX8_many (wsV RX8 210 RX1 yX1_bestUpTo wsX1_bestUpTo) := goodIn_app (goodIn_of _ (by decide +kernel)) ggX8_many_X1_bestUpTo
theorem dX8_many_0 : decode cX8_many 0 = .ok (.iload_n 1, 1) := by decide +kernel
theorem dX8_many_1 : decode cX8_many 1 = .ok (.iload_n 2, 1) := by decide +kernel
theorem dX8_many_2 : decode cX8_many 2 = .ok (.invokestatic 199, 3) := by decide +kernel
theorem dX8_many_5 : decode cX8_many 5 = .ok (.ifCond .ne 6, 3) := by decide +kernel
theorem dX8_many_8 : decode cX8_many 8 = .ok (.bipush (-3), 2) := by decide +kernel
theorem dX8_many_10 : decode cX8_many 10 = .ok (.ireturn, 1) := by decide +kernel
theorem dX8_many_11 : decode cX8_many 11 = .ok (.aload_n 0, 1) := by decide +kernel
theorem dX8_many_12 : decode cX8_many 12 = .ok (.invokevirtual 182, 3) := by decide +kernel
theorem dX8_many_15 : decode cX8_many 15 = .ok (.iload_n 1, 1) := by decide +kernel
theorem dX8_many_16 : decode cX8_many 16 = .ok (.iload_n 2, 1) := by decide +kernel
theorem dX8_many_17 : decode cX8_many 17 = .ok (.invokevirtual 203, 3) := by decide +kernel
theorem dX8_many_20 : decode cX8_many 20 = .ok (.aload_n 0, 1) := by decide +kernel
theorem dX8_many_21 : decode cX8_many 21 = .ok (.getfield 46, 3) := by decide +kernel
theorem dX8_many_24 : decode cX8_many 24 = .ok (.aload_n 0, 1) := by decide +kernel
theorem dX8_many_25 : decode cX8_many 25 = .ok (.getfield 12, 3) := by decide +kernel
theorem dX8_many_28 : decode cX8_many 28 = .ok (.invokevirtual 170, 3) := by decide +kernel
theorem dX8_many_31 : decode cX8_many 31 = .ok (.invokevirtual 210, 3) := by decide +kernel
theorem dX8_many_34 : decode cX8_many 34 = .ok (.ireturn, 1) := by decide +kernel
set_option maxRecDepth 20000 in
theorem ggX8_best_X8_isQuestion : GoodIn wsX8_best wsX8_isQuestion := goodIn_r _ [6, 7, 8, 5, 9, 10, 11, 12] (by decide +kernel) (by decide +kernel)
set_option maxRecDepth 20000 in
theorem gX8_best_X8_isQuestion : GoodIn wsX8_best (va_wsS RX8 199 yX8_isQuestion wsX8_isQuestion) := goodIn_app (goodIn_of _ (by decide +kernel)) ggX8_best_X8_isQuestion
set_option maxRecDepth 20000 in
theorem ggX8_best_X8_freshCosts : GoodIn wsX8_best wsX8_freshCosts := goodIn_r _ [16, 17, 1, 18, 19, 20, 21, 22, 23, 24, 25, 26, 27, 28, 29, 30, 31, 32, 33, 34, 35, 36, 37, 38, 39, 40, 41, 42, 43, 44, 45, 46, 212, 213, 214, 215, 216, 217, 218, 219, 220, 221, 222, 223, 224, 225, 226, 227, 228, 229, 230, 231, 232, 233, 234, 235] (by decide +kernel) (by decide +kernel)
set_option maxRecDepth 20000 in
theorem gX8_best_X8_freshCosts : GoodIn wsX8_best (wsV RX8 182 RX8 yX8_freshCosts wsX8_freshCosts) := goodIn_app (goodIn_of _ (by decide +kernel)) ggX8_best_X8_freshCosts
set_option maxRecDepth 20000 in
theorem ggX8_best_X1_seekBest : GoodIn wsX8_best wsX1_seekBest := goodIn_r _ [51, 52, 53, 54, 55, 56, 57, 44, 58, 59, 60, 61, 62, 63, 64, 65, 66, 67, 68, 69, 50, 70, 71, 72, 73, 74, 75, 76, 77, 78, 79, 80, 37, 81, 82, 83, 84, 21, 85, 24, 86, 87, 88, 89, 90, 91, 92, 93, 94, 95, 96, 97, 98, 99, 100, 101, 102, 103, 104, 105, 106, 107, 108, 109, 110, 111, 112, 113, 114, 115, 116, 117, 118, 119, 120, 46, 121, 122, 123, 124, 125, 126, 127, 128, 129, 130, 131, 132, 133, 134, 135, 136, 137, 27, 30, 138, 139, 140, 41, 42, 43, 45, 141, 142, 143, 144, 145, 146, 147, 148, 149, 150, 151, 152, 153, 154, 155, 156, 157, 158, 159, 160, 161, 162, 163, 164, 165, 166, 167, 168, 169, 170, 171, 172, 173, 174, 175, 176, 177, 36, 38, 178, 179, 180, 181, 182, 183, 184, 185, 186, 187, 188, 189, 190, 191, 192, 193, 194, 195, 196, 197, 198, 199, 200, 201, 202, 203, 236, 237, 238, 239, 240, 226, 227, 228, 229, 230, 231, 232, 233, 234, 235, 221, 222, 223, 224, 225, 241, 242, 243, 244, 245, 246, 247, 248, 249, 250] (by decide +kernel) (by decide +kernel)
set_option maxRecDepth 20000 in
theorem gX8_best_X1_seekBest : GoodIn wsX8_best (wsV RX8 203 RX1 yX1_seekBest wsX1_seekBest) := goodIn_app (goodIn_of _ (by decide +kernel)) ggX8_best_X1_seekBest
set_option maxRecDepth 20000 in
theorem ggX8_best_X1_bestAt : GoodIn wsX8_best wsX1_bestAt := goodIn_r _ [207, 53, 55, 56, 57, 44, 58, 59, 208, 209, 210, 50, 211, 52, 54, 236, 237, 238, 239, 240, 226, 227, 228, 229, 230, 231, 232, 233, 234, 235] (by decide +kernel) (by decide +kernel)
set_option maxRecDepth 20000 in
theorem gX8_best_X1_bestAt : GoodIn wsX8_best (wsV RX8 213 RX1 yX1_bestAt wsX1_bestAt) := goodIn_app (goodIn_of _ (by decide +kernel)) ggX8_best_X1_bestAt
theorem dX8_best_0 : decode cX8_best 0 = .ok (.iload_n 1, 1) := by decide +kernel
theorem dX8_best_1 : decode cX8_best 1 = .ok (.iload_n 2, 1) := by decide +kernel
theorem dX8_best_2 : decode cX8_best 2 = .ok (.invokestatic 199, 3) := by decide +kernel
theorem dX8_best_5 : decode cX8_best 5 = .ok (.ifCond .eq 7, 3) := by decide +kernel
theorem dX8_best_8 : decode cX8_best 8 = .ok (.iload_n 3, 1) := by decide +kernel
theorem dX8_best_9 : decode cX8_best 9 = .ok (.ifCond .ge 6, 3) := by decide +kernel
theorem dX8_best_12 : decode cX8_best 12 = .ok (.bipush (-3), 2) := by decide +kernel
theorem dX8_best_14 : decode cX8_best 14 = .ok (.ireturn, 1) := by decide +kernel
theorem dX8_best_15 : decode cX8_best 15 = .ok (.aload_n 0, 1) := by decide +kernel
theorem dX8_best_16 : decode cX8_best 16 = .ok (.invokevirtual 182, 3) := by decide +kernel
theorem dX8_best_19 : decode cX8_best 19 = .ok (.iload_n 1, 1) := by decide +kernel
theorem dX8_best_20 : decode cX8_best 20 = .ok (.iload_n 2, 1) := by decide +kernel
theorem dX8_best_21 : decode cX8_best 21 = .ok (.invokevirtual 203, 3) := by decide +kernel
theorem dX8_best_24 : decode cX8_best 24 = .ok (.aload_n 0, 1) := by decide +kernel
theorem dX8_best_25 : decode cX8_best 25 = .ok (.getfield 46, 3) := by decide +kernel
theorem dX8_best_28 : decode cX8_best 28 = .ok (.iload_n 3, 1) := by decide +kernel
theorem dX8_best_29 : decode cX8_best 29 = .ok (.invokevirtual 213, 3) := by decide +kernel
theorem dX8_best_32 : decode cX8_best 32 = .ok (.istore 4, 2) := by decide +kernel
theorem dX8_best_34 : decode cX8_best 34 = .ok (.iload 4, 2) := by decide +kernel
theorem dX8_best_36 : decode cX8_best 36 = .ok (.iconst (-1), 1) := by decide +kernel
theorem dX8_best_37 : decode cX8_best 37 = .ok (.if_icmp .eq 9, 3) := by decide +kernel
theorem dX8_best_40 : decode cX8_best 40 = .ok (.aload_n 0, 1) := by decide +kernel
theorem dX8_best_41 : decode cX8_best 41 = .ok (.iload 4, 2) := by decide +kernel
theorem dX8_best_43 : decode cX8_best 43 = .ok (.putfield 167, 3) := by decide +kernel
theorem dX8_best_46 : decode cX8_best 46 = .ok (.iload 4, 2) := by decide +kernel
theorem dX8_best_48 : decode cX8_best 48 = .ok (.ireturn, 1) := by decide +kernel
set_option maxRecDepth 20000 in
theorem ggX8_number_X8_isQuestion : GoodIn wsX8_number wsX8_isQuestion := goodIn_r _ [6, 7, 8, 5, 9, 10, 11, 12] (by decide +kernel) (by decide +kernel)
set_option maxRecDepth 20000 in
theorem gX8_number_X8_isQuestion : GoodIn wsX8_number (va_wsS RX8 199 yX8_isQuestion wsX8_isQuestion) := goodIn_app (goodIn_of _ (by decide +kernel)) ggX8_number_X8_isQuestion
set_option maxRecDepth 20000 in
theorem ggX8_number_X8_freshCosts : GoodIn wsX8_number wsX8_freshCosts := goodIn_r _ [16, 17, 1, 18, 19, 20, 21, 22, 23, 24, 25, 26, 27, 28, 29, 30, 31, 32, 33, 34, 35, 36, 37, 38, 39, 40, 41, 42, 43, 44, 45, 46, 213, 214, 215, 216, 217, 218, 219, 220, 221, 222, 223, 224, 225, 226, 227, 228, 229, 230, 231, 232, 233, 234, 235, 236] (by decide +kernel) (by decide +kernel)
set_option maxRecDepth 20000 in
theorem gX8_number_X8_freshCosts : GoodIn wsX8_number (wsV RX8 182 RX8 yX8_freshCosts wsX8_freshCosts) := goodIn_app (goodIn_of _ (by decide +kernel)) ggX8_number_X8_freshCosts
set_option maxRecDepth 20000 in
theorem ggX8_number_X1_seekBest : GoodIn wsX8_number wsX1_seekBest := goodIn_r _ [51, 52, 53, 54, 55, 56, 57, 44, 58, 59, 60, 61, 62, 63, 64, 65, 66, 67, 68, 69, 50, 70, 71, 72, 73, 74, 75, 76, 77, 78, 79, 80, 37, 81, 82, 83, 84, 21, 85, 24, 86, 87, 88, 89, 90, 91, 92, 93, 94, 95, 96, 97, 98, 99, 100, 101, 102, 103, 104, 105, 106, 107, 108, 109, 110, 111, 112, 113, 114, 115, 116, 117, 118, 119, 120, 46, 121, 122, 123, 124, 125, 126, 127, 128, 129, 130, 131, 132, 133, 134, 135, 136, 137, 27, 30, 138, 139, 140, 41, 42, 43, 45, 141, 142, 143, 144, 145, 146, 147, 148, 149, 150, 151, 152, 153, 154, 155, 156, 157, 158, 159, 160, 161, 162, 163, 164, 165, 166, 167, 168, 169, 170, 171, 172, 173, 174, 175, 176, 177, 36, 38, 178, 179, 180, 181, 182, 183, 184, 185, 186, 187, 188, 189, 190, 191, 192, 193, 194, 195, 196, 197, 198, 199, 200, 201, 202, 203, 237, 238, 239, 240, 241, 227, 228, 229, 230, 231, 232, 233, 234, 235, 236, 222, 223, 224, 225, 226, 242, 243, 244, 245, 246, 247, 248, 249, 250, 251] (by decide +kernel) (by decide +kernel)
set_option maxRecDepth 20000 in
theorem gX8_number_X1_seekBest : GoodIn wsX8_number (wsV RX8 203 RX1 yX1_seekBest wsX1_seekBest) := goodIn_app (goodIn_of _ (by decide +kernel)) ggX8_number_X1_seekBest
set_option maxRecDepth 20000 in
theorem ggX8_number_X1_isBest : GoodIn wsX8_number wsX1_isBest := goodIn_r _ [207, 52, 54, 237, 238, 239, 240, 241] (by decide +kernel) (by decide +kernel)
set_option maxRecDepth 20000 in
theorem gX8_number_X1_isBest : GoodIn wsX8_number (wsV RX8 216 RX1 yX1_isBest wsX1_isBest) := goodIn_app (goodIn_of _ (by decide +kernel)) ggX8_number_X1_isBest
set_option maxRecDepth 20000 in
theorem ggX8_number_X1_bestUpTo : GoodIn wsX8_number wsX1_bestUpTo := goodIn_r _ [211, 212, 205, 206, 50, 207, 52, 54, 237, 238, 239, 240, 241] (by decide +kernel) (by decide +kernel)
set_option maxRecDepth 20000 in
theorem gX8_number_X1_bestUpTo : GoodIn wsX8_number (wsV RX8 210 RX1 yX1_bestUpTo wsX1_bestUpTo) := goodIn_app (goodIn_of _ (by decide +kernel)) ggX8_number_X1_bestUpTo
theorem dX8_number_0 : decode cX8_number 0 = .ok (.iload_n 1, 1) := by decide +kernel
theorem dX8_number_1 : decode cX8_number 1 = .ok (.iload_n 2, 1) := by decide +kernel
theorem dX8_number_2 : decode cX8_number 2 = .ok (.invokestatic 199, 3) := by decide +kernel
theorem dX8_number_5 : decode cX8_number 5 = .ok (.ifCond .ne 6, 3) := by decide +kernel
theorem dX8_number_8 : decode cX8_number 8 = .ok (.bipush (-3), 2) := by decide +kernel
theorem dX8_number_10 : decode cX8_number 10 = .ok (.ireturn, 1) := by decide +kernel
theorem dX8_number_11 : decode cX8_number 11 = .ok (.aload_n 0, 1) := by decide +kernel
theorem dX8_number_12 : decode cX8_number 12 = .ok (.invokevirtual 182, 3) := by decide +kernel
theorem dX8_number_15 : decode cX8_number 15 = .ok (.iload_n 1, 1) := by decide +kernel
theorem dX8_number_16 : decode cX8_number 16 = .ok (.iload_n 2, 1) := by decide +kernel
theorem dX8_number_17 : decode cX8_number 17 = .ok (.invokevirtual 203, 3) := by decide +kernel
theorem dX8_number_20 : decode cX8_number 20 = .ok (.aload_n 0, 1) := by decide +kernel
theorem dX8_number_21 : decode cX8_number 21 = .ok (.getfield 46, 3) := by decide +kernel
theorem dX8_number_24 : decode cX8_number 24 = .ok (.aload_n 0, 1) := by decide +kernel
theorem dX8_number_25 : decode cX8_number 25 = .ok (.getfield 167, 3) := by decide +kernel
theorem dX8_number_28 : decode cX8_number 28 = .ok (.invokevirtual 216, 3) := by decide +kernel
theorem dX8_number_31 : decode cX8_number 31 = .ok (.ifCond .eq 19, 3) := by decide +kernel
theorem dX8_number_34 : decode cX8_number 34 = .ok (.aload_n 0, 1) := by decide +kernel
theorem dX8_number_35 : decode cX8_number 35 = .ok (.getfield 46, 3) := by decide +kernel
theorem dX8_number_38 : decode cX8_number 38 = .ok (.aload_n 0, 1) := by decide +kernel
theorem dX8_number_39 : decode cX8_number 39 = .ok (.getfield 167, 3) := by decide +kernel
theorem dX8_number_42 : decode cX8_number 42 = .ok (.invokevirtual 210, 3) := by decide +kernel
theorem dX8_number_45 : decode cX8_number 45 = .ok (.iconst 1, 1) := by decide +kernel
theorem dX8_number_46 : decode cX8_number 46 = .ok (.isub, 1) := by decide +kernel
theorem dX8_number_47 : decode cX8_number 47 = .ok (.goto 4, 3) := by decide +kernel
theorem dX8_number_50 : decode cX8_number 50 = .ok (.iconst (-1), 1) := by decide +kernel
theorem dX8_number_51 : decode cX8_number 51 = .ok (.ireturn, 1) := by decide +kernel
set_option maxRecDepth 20000 in
theorem ggX8_better_X8_isKind : GoodIn wsX8_better wsX8_isKind := goodIn_r _ [6, 7, 8, 5, 9] (by decide +kernel) (by decide +kernel)
set_option maxRecDepth 20000 in
theorem gX8_better_X8_isKind : GoodIn wsX8_better (va_wsS RX8 179 yX8_isKind wsX8_isKind) := goodIn_app (goodIn_of _ (by decide +kernel)) ggX8_better_X8_isKind
set_option maxRecDepth 20000 in
theorem ggX8_better_X8_within : GoodIn wsX8_better wsX8_within := goodIn_r _ [9] (by decide +kernel) (by decide +kernel)
set_option maxRecDepth 20000 in
theorem gX8_better_X8_within : GoodIn wsX8_better (va_wsS RX8 92 yX8_within wsX8_within) := goodIn_app (goodIn_of _ (by decide +kernel)) ggX8_better_X8_within
set_option maxRecDepth 20000 in
theorem ggX8_better_X8_freshCosts : GoodIn wsX8_better wsX8_freshCosts := goodIn_r _ [13, 14, 1, 15, 16, 17, 18, 19, 20, 21, 22, 23, 24, 25, 26, 27, 28, 29, 30, 31, 32, 33, 34, 35, 36, 37, 38, 39, 40, 41, 42, 43, 208, 209, 210, 211, 212, 213, 214, 215, 216, 217, 218, 219, 220, 221, 222, 223, 224, 225, 226, 227, 228, 229, 230, 231] (by decide +kernel) (by decide +kernel)
set_option maxRecDepth 20000 in
theorem gX8_better_X8_freshCosts : GoodIn wsX8_better (wsV RX8 182 RX8 yX8_freshCosts wsX8_freshCosts) := goodIn_app (goodIn_of _ (by decide +kernel)) ggX8_better_X8_freshCosts
set_option maxRecDepth 20000 in
theorem ggX8_better_X1_seekBest : GoodIn wsX8_better wsX1_seekBest := goodIn_r _ [48, 49, 50, 51, 52, 53, 54, 41, 55, 56, 57, 58, 59, 60, 61, 62, 63, 64, 65, 66, 47, 67, 68, 69, 70, 71, 72, 73, 74, 75, 76, 77, 34, 78, 79, 80, 81, 18, 82, 21, 83, 84, 85, 86, 87, 88, 89, 90, 91, 92, 93, 94, 95, 96, 97, 98, 99, 100, 101, 102, 103, 104, 105, 106, 107, 108, 109, 110, 111, 112, 113, 114, 115, 116, 117, 43, 118, 119, 120, 121, 122, 123, 124, 125, 126, 127, 128, 129, 130, 131, 132, 133, 134, 24, 27, 135, 136, 137, 38, 39, 40, 42, 138, 139, 140, 141, 142, 143, 144, 145, 146, 147, 148, 149, 150, 151, 152, 153, 154, 155, 156, 157, 158, 159, 160, 161, 162, 163, 164, 165, 166, 167, 168, 169, 170, 171, 172, 173, 174, 33, 35, 175, 176, 177, 178, 179, 180, 181, 182, 183, 184, 185, 186, 187, 188, 189, 190, 191, 192, 193, 194, 195, 196, 197, 198, 199, 200, 232, 233, 234, 235, 236, 222, 223, 224, 225, 226, 227, 228, 229, 230, 231, 217, 218, 219, 220, 221, 237, 238, 239, 240, 241, 242, 243, 244, 245, 246] (by decide +kernel) (by decide +kernel)
set_option maxRecDepth 20000 in
theorem gX8_better_X1_seekBest : GoodIn wsX8_better (wsV RX8 203 RX1 yX1_seekBest wsX1_seekBest) := goodIn_app (goodIn_of _ (by decide +kernel)) ggX8_better_X1_seekBest
set_option maxRecDepth 20000 in
theorem ggX8_better_X1_cheapestBeside : GoodIn wsX8_better wsX1_cheapestBeside := goodIn_r _ [204, 50, 51, 52, 53, 54, 41, 55, 56, 205, 206, 47, 207, 57, 58, 59, 60, 61, 62, 63, 198, 199, 200, 232, 233, 234, 235, 236, 222, 223, 224, 225, 226, 227, 228, 229, 230, 231] (by decide +kernel) (by decide +kernel)
set_option maxRecDepth 20000 in
theorem gX8_better_X1_cheapestBeside : GoodIn wsX8_better (wsV RX8 219 RX1 yX1_cheapestBeside wsX1_cheapestBeside) := goodIn_app (goodIn_of _ (by decide +kernel)) ggX8_better_X1_cheapestBeside
theorem dX8_better_0 : decode cX8_better 0 = .ok (.iload_n 1, 1) := by decide +kernel
theorem dX8_better_1 : decode cX8_better 1 = .ok (.invokestatic 179, 3) := by decide +kernel
theorem dX8_better_4 : decode cX8_better 4 = .ok (.ifCond .eq 13, 3) := by decide +kernel
theorem dX8_better_7 : decode cX8_better 7 = .ok (.iload_n 2, 1) := by decide +kernel
theorem dX8_better_8 : decode cX8_better 8 = .ok (.iconst 1, 1) := by decide +kernel
theorem dX8_better_9 : decode cX8_better 9 = .ok (.bipush 60, 2) := by decide +kernel
theorem dX8_better_11 : decode cX8_better 11 = .ok (.invokestatic 92, 3) := by decide +kernel
theorem dX8_better_14 : decode cX8_better 14 = .ok (.ifCond .ne 6, 3) := by decide +kernel
theorem dX8_better_17 : decode cX8_better 17 = .ok (.bipush (-3), 2) := by decide +kernel
theorem dX8_better_19 : decode cX8_better 19 = .ok (.ireturn, 1) := by decide +kernel
theorem dX8_better_20 : decode cX8_better 20 = .ok (.aload_n 0, 1) := by decide +kernel
theorem dX8_better_21 : decode cX8_better 21 = .ok (.invokevirtual 182, 3) := by decide +kernel
theorem dX8_better_24 : decode cX8_better 24 = .ok (.iload_n 1, 1) := by decide +kernel
theorem dX8_better_25 : decode cX8_better 25 = .ok (.iconst (-1), 1) := by decide +kernel
theorem dX8_better_26 : decode cX8_better 26 = .ok (.invokevirtual 203, 3) := by decide +kernel
theorem dX8_better_29 : decode cX8_better 29 = .ok (.iconst 0, 1) := by decide +kernel
theorem dX8_better_30 : decode cX8_better 30 = .ok (.istore_n 3, 1) := by decide +kernel
theorem dX8_better_31 : decode cX8_better 31 = .ok (.iload_n 3, 1) := by decide +kernel
theorem dX8_better_32 : decode cX8_better 32 = .ok (.iload_n 2, 1) := by decide +kernel
theorem dX8_better_33 : decode cX8_better 33 = .ok (.if_icmp .ge 39, 3) := by decide +kernel
theorem dX8_better_36 : decode cX8_better 36 = .ok (.aload_n 0, 1) := by decide +kernel
theorem dX8_better_37 : decode cX8_better 37 = .ok (.getfield 46, 3) := by decide +kernel
theorem dX8_better_40 : decode cX8_better 40 = .ok (.aload_n 0, 1) := by decide +kernel
theorem dX8_better_41 : decode cX8_better 41 = .ok (.getfield 167, 3) := by decide +kernel
theorem dX8_better_44 : decode cX8_better 44 = .ok (.invokevirtual 219, 3) := by decide +kernel
theorem dX8_better_47 : decode cX8_better 47 = .ok (.istore 4, 2) := by decide +kernel
theorem dX8_better_49 : decode cX8_better 49 = .ok (.iload 4, 2) := by decide +kernel
theorem dX8_better_51 : decode cX8_better 51 = .ok (.aload_n 0, 1) := by decide +kernel
theorem dX8_better_52 : decode cX8_better 52 = .ok (.getfield 167, 3) := by decide +kernel
theorem dX8_better_55 : decode cX8_better 55 = .ok (.if_icmp .ne 5, 3) := by decide +kernel
theorem dX8_better_58 : decode cX8_better 58 = .ok (.iload_n 3, 1) := by decide +kernel
theorem dX8_better_59 : decode cX8_better 59 = .ok (.ireturn, 1) := by decide +kernel
theorem dX8_better_60 : decode cX8_better 60 = .ok (.aload_n 0, 1) := by decide +kernel
theorem dX8_better_61 : decode cX8_better 61 = .ok (.iload 4, 2) := by decide +kernel
theorem dX8_better_63 : decode cX8_better 63 = .ok (.putfield 167, 3) := by decide +kernel
theorem dX8_better_66 : decode cX8_better 66 = .ok (.iinc 3 1, 3) := by decide +kernel
theorem dX8_better_69 : decode cX8_better 69 = .ok (.goto (-38), 3) := by decide +kernel
theorem dX8_better_72 : decode cX8_better 72 = .ok (.iload_n 2, 1) := by decide +kernel
theorem dX8_better_73 : decode cX8_better 73 = .ok (.ireturn, 1) := by decide +kernel
set_option maxRecDepth 20000 in
theorem ggX8_claim_X5_hasTown : GoodIn wsX8_claim wsX5_hasTown := goodIn_r _ [9, 10, 27, 28, 29, 30, 31, 32, 33, 34, 35, 36] (by decide +kernel) (by decide +kernel)
set_option maxRecDepth 20000 in
theorem gX8_claim_X5_hasTown : GoodIn wsX8_claim (wsV RX8 88 RX5 yX5_hasTown wsX5_hasTown) := goodIn_app (goodIn_of _ (by decide +kernel)) ggX8_claim_X5_hasTown
set_option maxRecDepth 20000 in
theorem ggX8_claim_X8_within : GoodIn wsX8_claim wsX8_within := goodIn_r _ [14] (by decide +kernel) (by decide +kernel)
set_option maxRecDepth 20000 in
theorem gX8_claim_X8_within : GoodIn wsX8_claim (va_wsS RX8 92 yX8_within wsX8_within) := goodIn_app (goodIn_of _ (by decide +kernel)) ggX8_claim_X8_within
theorem dX8_claim_0 : decode cX8_claim 0 = .ok (.aload_n 0, 1) := by decide +kernel
theorem dX8_claim_1 : decode cX8_claim 1 = .ok (.getfield 12, 3) := by decide +kernel
theorem dX8_claim_4 : decode cX8_claim 4 = .ok (.iload_n 1, 1) := by decide +kernel
theorem dX8_claim_5 : decode cX8_claim 5 = .ok (.invokevirtual 88, 3) := by decide +kernel
theorem dX8_claim_8 : decode cX8_claim 8 = .ok (.ifCond .eq 13, 3) := by decide +kernel
theorem dX8_claim_11 : decode cX8_claim 11 = .ok (.iload_n 2, 1) := by decide +kernel
theorem dX8_claim_12 : decode cX8_claim 12 = .ok (.iconst 0, 1) := by decide +kernel
theorem dX8_claim_13 : decode cX8_claim 13 = .ok (.ldc 222, 2) := by decide +kernel
theorem dX8_claim_15 : decode cX8_claim 15 = .ok (.invokestatic 92, 3) := by decide +kernel
theorem dX8_claim_18 : decode cX8_claim 18 = .ok (.ifCond .ne 6, 3) := by decide +kernel
theorem dX8_claim_21 : decode cX8_claim 21 = .ok (.bipush (-3), 2) := by decide +kernel
theorem dX8_claim_23 : decode cX8_claim 23 = .ok (.ireturn, 1) := by decide +kernel
theorem dX8_claim_24 : decode cX8_claim 24 = .ok (.aload_n 0, 1) := by decide +kernel
theorem dX8_claim_25 : decode cX8_claim 25 = .ok (.getfield 53, 3) := by decide +kernel
theorem dX8_claim_28 : decode cX8_claim 28 = .ok (.getfield 223, 3) := by decide +kernel
theorem dX8_claim_31 : decode cX8_claim 31 = .ok (.iload_n 1, 1) := by decide +kernel
theorem dX8_claim_32 : decode cX8_claim 32 = .ok (.iaload, 1) := by decide +kernel
theorem dX8_claim_33 : decode cX8_claim 33 = .ok (.istore_n 3, 1) := by decide +kernel
theorem dX8_claim_34 : decode cX8_claim 34 = .ok (.aload_n 0, 1) := by decide +kernel
theorem dX8_claim_35 : decode cX8_claim 35 = .ok (.getfield 53, 3) := by decide +kernel
theorem dX8_claim_38 : decode cX8_claim 38 = .ok (.getfield 223, 3) := by decide +kernel
theorem dX8_claim_41 : decode cX8_claim 41 = .ok (.iload_n 1, 1) := by decide +kernel
theorem dX8_claim_42 : decode cX8_claim 42 = .ok (.iload_n 2, 1) := by decide +kernel
theorem dX8_claim_43 : decode cX8_claim 43 = .ok (.iastore, 1) := by decide +kernel
theorem dX8_claim_44 : decode cX8_claim 44 = .ok (.iload_n 3, 1) := by decide +kernel
theorem dX8_claim_45 : decode cX8_claim 45 = .ok (.ireturn, 1) := by decide +kernel
set_option maxRecDepth 20000 in
theorem ggX8_claimed_X5_hasTown : GoodIn wsX8_claimed wsX5_hasTown := goodIn_r _ [8, 9, 22, 23, 24, 25, 26, 27, 28, 29, 30, 31] (by decide +kernel) (by decide +kernel)
set_option maxRecDepth 20000 in
theorem gX8_claimed_X5_hasTown : GoodIn wsX8_claimed (wsV RX8 88 RX5 yX5_hasTown wsX5_hasTown) := goodIn_app (goodIn_of _ (by decide +kernel)) ggX8_claimed_X5_hasTown
theorem dX8_claimed_0 : decode cX8_claimed 0 = .ok (.aload_n 0, 1) := by decide +kernel
theorem dX8_claimed_1 : decode cX8_claimed 1 = .ok (.getfield 12, 3) := by decide +kernel
theorem dX8_claimed_4 : decode cX8_claimed 4 = .ok (.iload_n 1, 1) := by decide +kernel
theorem dX8_claimed_5 : decode cX8_claimed 5 = .ok (.invokevirtual 88, 3) := by decide +kernel
theorem dX8_claimed_8 : decode cX8_claimed 8 = .ok (.ifCond .eq 15, 3) := by decide +kernel
theorem dX8_claimed_11 : decode cX8_claimed 11 = .ok (.aload_n 0, 1) := by decide +kernel
theorem dX8_claimed_12 : decode cX8_claimed 12 = .ok (.getfield 53, 3) := by decide +kernel
theorem dX8_claimed_15 : decode cX8_claimed 15 = .ok (.getfield 223, 3) := by decide +kernel
theorem dX8_claimed_18 : decode cX8_claimed 18 = .ok (.iload_n 1, 1) := by decide +kernel
theorem dX8_claimed_19 : decode cX8_claimed 19 = .ok (.iaload, 1) := by decide +kernel
theorem dX8_claimed_20 : decode cX8_claimed 20 = .ok (.goto 5, 3) := by decide +kernel
theorem dX8_claimed_23 : decode cX8_claimed 23 = .ok (.bipush (-3), 2) := by decide +kernel
theorem dX8_claimed_25 : decode cX8_claimed 25 = .ok (.ireturn, 1) := by decide +kernel
set_option maxRecDepth 20000 in
theorem ggX8_holds_X0_firstBroken : GoodIn wsX8_holds wsX0_firstBroken := goodIn_r _ [7, 8, 9, 10, 11, 12, 13, 14, 15, 16, 17, 18, 19, 20, 21, 22, 23, 45, 46, 47, 48, 49, 50, 51, 52, 53, 54, 55, 56, 57] (by decide +kernel) (by decide +kernel)
set_option maxRecDepth 20000 in
theorem gX8_holds_X0_firstBroken : GoodIn wsX8_holds (wsV RX8 226 RX0 yX0_firstBroken wsX0_firstBroken) := goodIn_app (goodIn_of _ (by decide +kernel)) ggX8_holds_X0_firstBroken
set_option maxRecDepth 20000 in
theorem ggX8_holds_X5_everyTown : GoodIn wsX8_holds wsX5_everyTown := goodIn_r _ [27, 28, 48, 49, 50, 51, 52, 53, 54, 55, 56, 57] (by decide +kernel) (by decide +kernel)
set_option maxRecDepth 20000 in
theorem gX8_holds_X5_everyTown : GoodIn wsX8_holds (wsV RX8 229 RX5 yX5_everyTown wsX5_everyTown) := goodIn_app (goodIn_of _ (by decide +kernel)) ggX8_holds_X5_everyTown
set_option maxRecDepth 20000 in
theorem ggX8_holds_X0_together : GoodIn wsX8_holds wsX0_together := goodIn_r _ [32, 8, 10, 11, 33, 34, 20, 35, 45, 46, 47, 48, 49, 50, 51, 52, 53, 54, 55, 56, 57] (by decide +kernel) (by decide +kernel)
set_option maxRecDepth 20000 in
theorem gX8_holds_X0_together : GoodIn wsX8_holds (wsV RX8 232 RX0 yX0_together wsX0_together) := goodIn_app (goodIn_of _ (by decide +kernel)) ggX8_holds_X0_together
theorem dX8_holds_0 : decode cX8_holds 0 = .ok (.aload_n 0, 1) := by decide +kernel
theorem dX8_holds_1 : decode cX8_holds 1 = .ok (.getfield 53, 3) := by decide +kernel
theorem dX8_holds_4 : decode cX8_holds 4 = .ok (.invokevirtual 226, 3) := by decide +kernel
theorem dX8_holds_7 : decode cX8_holds 7 = .ok (.istore_n 1, 1) := by decide +kernel
theorem dX8_holds_8 : decode cX8_holds 8 = .ok (.iload_n 1, 1) := by decide +kernel
theorem dX8_holds_9 : decode cX8_holds 9 = .ok (.iconst (-1), 1) := by decide +kernel
theorem dX8_holds_10 : decode cX8_holds 10 = .ok (.if_icmp .ne 20, 3) := by decide +kernel
theorem dX8_holds_13 : decode cX8_holds 13 = .ok (.aload_n 0, 1) := by decide +kernel
theorem dX8_holds_14 : decode cX8_holds 14 = .ok (.getfield 53, 3) := by decide +kernel
theorem dX8_holds_17 : decode cX8_holds 17 = .ok (.aload_n 0, 1) := by decide +kernel
theorem dX8_holds_18 : decode cX8_holds 18 = .ok (.getfield 12, 3) := by decide +kernel
theorem dX8_holds_21 : decode cX8_holds 21 = .ok (.invokevirtual 229, 3) := by decide +kernel
theorem dX8_holds_24 : decode cX8_holds 24 = .ok (.invokevirtual 232, 3) := by decide +kernel
theorem dX8_holds_27 : decode cX8_holds 27 = .ok (.goto 7, 3) := by decide +kernel
theorem dX8_holds_30 : decode cX8_holds 30 = .ok (.bipush (-100), 2) := by decide +kernel
theorem dX8_holds_32 : decode cX8_holds 32 = .ok (.iload_n 1, 1) := by decide +kernel
theorem dX8_holds_33 : decode cX8_holds 33 = .ok (.isub, 1) := by decide +kernel
theorem dX8_holds_34 : decode cX8_holds 34 = .ok (.ireturn, 1) := by decide +kernel
set_option maxRecDepth 20000 in
theorem ggX8_raise_X0_raiseAll : GoodIn wsX8_raise wsX0_raiseAll := goodIn_r _ [8, 9, 10, 11, 12, 13, 14, 15, 16, 17, 18, 19, 20, 21, 22, 23, 24, 7, 25, 26, 27, 28, 29, 30, 31, 32, 33, 34, 35, 36, 37, 38, 39, 40, 41, 42, 43, 44, 45, 46, 47, 48, 49, 50, 51, 52, 53, 54, 55, 56, 57, 58, 59, 60, 61, 62, 63, 64, 65, 66, 67, 68, 69, 70, 71, 100, 101, 102, 90, 91, 92, 93, 94, 95, 96, 97, 98, 99] (by decide +kernel) (by decide +kernel)
set_option maxRecDepth 20000 in
theorem gX8_raise_X0_raiseAll : GoodIn wsX8_raise (wsV RX8 235 RX0 yX0_raiseAll wsX0_raiseAll) := goodIn_app (goodIn_of _ (by decide +kernel)) ggX8_raise_X0_raiseAll
set_option maxRecDepth 20000 in
theorem ggX8_raise_X5_everyTown : GoodIn wsX8_raise wsX5_everyTown := goodIn_r _ [75, 76, 90, 91, 92, 93, 94, 95, 96, 97, 98, 99] (by decide +kernel) (by decide +kernel)
set_option maxRecDepth 20000 in
theorem gX8_raise_X5_everyTown : GoodIn wsX8_raise (wsV RX8 229 RX5 yX5_everyTown wsX5_everyTown) := goodIn_app (goodIn_of _ (by decide +kernel)) ggX8_raise_X5_everyTown
set_option maxRecDepth 20000 in
theorem ggX8_raise_X0_together : GoodIn wsX8_raise wsX0_together := goodIn_r _ [80, 10, 26, 9, 57, 58, 38, 59, 100, 101, 102, 90, 91, 92, 93, 94, 95, 96, 97, 98, 99] (by decide +kernel) (by decide +kernel)
set_option maxRecDepth 20000 in
theorem gX8_raise_X0_together : GoodIn wsX8_raise (wsV RX8 232 RX0 yX0_together wsX0_together) := goodIn_app (goodIn_of _ (by decide +kernel)) ggX8_raise_X0_together
theorem dX8_raise_0 : decode cX8_raise 0 = .ok (.aload_n 0, 1) := by decide +kernel
theorem dX8_raise_1 : decode cX8_raise 1 = .ok (.getfield 12, 3) := by decide +kernel
theorem dX8_raise_4 : decode cX8_raise 4 = .ok (.getfield 82, 3) := by decide +kernel
theorem dX8_raise_7 : decode cX8_raise 7 = .ok (.ifCond .ne 6, 3) := by decide +kernel
theorem dX8_raise_10 : decode cX8_raise 10 = .ok (.bipush (-4), 2) := by decide +kernel
theorem dX8_raise_12 : decode cX8_raise 12 = .ok (.ireturn, 1) := by decide +kernel
theorem dX8_raise_13 : decode cX8_raise 13 = .ok (.aload_n 0, 1) := by decide +kernel
theorem dX8_raise_14 : decode cX8_raise 14 = .ok (.getfield 53, 3) := by decide +kernel
theorem dX8_raise_17 : decode cX8_raise 17 = .ok (.invokevirtual 235, 3) := by decide +kernel
theorem dX8_raise_20 : decode cX8_raise 20 = .ok (.aload_n 0, 1) := by decide +kernel
theorem dX8_raise_21 : decode cX8_raise 21 = .ok (.getfield 53, 3) := by decide +kernel
theorem dX8_raise_24 : decode cX8_raise 24 = .ok (.aload_n 0, 1) := by decide +kernel
theorem dX8_raise_25 : decode cX8_raise 25 = .ok (.getfield 12, 3) := by decide +kernel
theorem dX8_raise_28 : decode cX8_raise 28 = .ok (.invokevirtual 229, 3) := by decide +kernel
theorem dX8_raise_31 : decode cX8_raise 31 = .ok (.invokevirtual 232, 3) := by decide +kernel
theorem dX8_raise_34 : decode cX8_raise 34 = .ok (.ireturn, 1) := by decide +kernel
set_option maxRecDepth 20000 in
theorem ggX8_fair_X2_refresh : GoodIn wsX8_fair wsX2_refresh := goodIn_r _ [10, 11, 12, 13, 14, 15, 16, 17, 18, 19, 20, 21, 22, 23, 24, 25, 26, 27, 28, 29, 30, 31, 32, 33, 34, 35, 36, 37, 38, 39, 40, 41, 42, 43, 44, 45, 46, 47, 48, 49, 50, 51, 52, 53, 54, 55, 56, 9, 57, 58, 59, 60, 61, 62, 63, 64, 65, 66, 102, 103, 104, 105, 106, 107, 108, 109, 110, 111, 92, 93, 94, 95, 96, 97, 98, 99, 100, 101] (by decide +kernel) (by decide +kernel)
set_option maxRecDepth 20000 in
theorem gX8_fair_X2_refresh : GoodIn wsX8_fair (wsV RX8 238 RX2 yX2_refresh wsX2_refresh) := goodIn_app (goodIn_of _ (by decide +kernel)) ggX8_fair_X2_refresh
set_option maxRecDepth 20000 in
theorem ggX8_fair_X5_everyTown : GoodIn wsX8_fair wsX5_everyTown := goodIn_r _ [70, 71, 92, 93, 94, 95, 96, 97, 98, 99, 100, 101] (by decide +kernel) (by decide +kernel)
set_option maxRecDepth 20000 in
theorem gX8_fair_X5_everyTown : GoodIn wsX8_fair (wsV RX8 229 RX5 yX5_everyTown wsX5_everyTown) := goodIn_app (goodIn_of _ (by decide +kernel)) ggX8_fair_X5_everyTown
set_option maxRecDepth 20000 in
theorem ggX8_fair_X0_together : GoodIn wsX8_fair wsX0_together := goodIn_r _ [76, 77, 78, 79, 80, 81, 42, 82, 112, 113, 114, 92, 93, 94, 95, 96, 97, 98, 99, 100, 101] (by decide +kernel) (by decide +kernel)
set_option maxRecDepth 20000 in
theorem gX8_fair_X0_together : GoodIn wsX8_fair (wsV RX8 232 RX0 yX0_together wsX0_together) := goodIn_app (goodIn_of _ (by decide +kernel)) ggX8_fair_X0_together
theorem dX8_fair_0 : decode cX8_fair 0 = .ok (.aload_n 0, 1) := by decide +kernel
theorem dX8_fair_1 : decode cX8_fair 1 = .ok (.getfield 12, 3) := by decide +kernel
theorem dX8_fair_4 : decode cX8_fair 4 = .ok (.getfield 82, 3) := by decide +kernel
theorem dX8_fair_7 : decode cX8_fair 7 = .ok (.ifCond .ne 5, 3) := by decide +kernel
theorem dX8_fair_10 : decode cX8_fair 10 = .ok (.iconst (-1), 1) := by decide +kernel
theorem dX8_fair_11 : decode cX8_fair 11 = .ok (.ireturn, 1) := by decide +kernel
theorem dX8_fair_12 : decode cX8_fair 12 = .ok (.aload_n 0, 1) := by decide +kernel
theorem dX8_fair_13 : decode cX8_fair 13 = .ok (.getfield 60, 3) := by decide +kernel
theorem dX8_fair_16 : decode cX8_fair 16 = .ok (.invokevirtual 238, 3) := by decide +kernel
theorem dX8_fair_19 : decode cX8_fair 19 = .ok (.aload_n 0, 1) := by decide +kernel
theorem dX8_fair_20 : decode cX8_fair 20 = .ok (.getfield 12, 3) := by decide +kernel
theorem dX8_fair_23 : decode cX8_fair 23 = .ok (.invokevirtual 229, 3) := by decide +kernel
theorem dX8_fair_26 : decode cX8_fair 26 = .ok (.istore_n 1, 1) := by decide +kernel
theorem dX8_fair_27 : decode cX8_fair 27 = .ok (.aload_n 0, 1) := by decide +kernel
theorem dX8_fair_28 : decode cX8_fair 28 = .ok (.getfield 53, 3) := by decide +kernel
theorem dX8_fair_31 : decode cX8_fair 31 = .ok (.iload_n 1, 1) := by decide +kernel
theorem dX8_fair_32 : decode cX8_fair 32 = .ok (.invokevirtual 232, 3) := by decide +kernel
theorem dX8_fair_35 : decode cX8_fair 35 = .ok (.aload_n 0, 1) := by decide +kernel
theorem dX8_fair_36 : decode cX8_fair 36 = .ok (.getfield 60, 3) := by decide +kernel
theorem dX8_fair_39 : decode cX8_fair 39 = .ok (.getfield 241, 3) := by decide +kernel
theorem dX8_fair_42 : decode cX8_fair 42 = .ok (.iload_n 1, 1) := by decide +kernel
theorem dX8_fair_43 : decode cX8_fair 43 = .ok (.iaload, 1) := by decide +kernel
theorem dX8_fair_44 : decode cX8_fair 44 = .ok (.if_icmp .eq 5, 3) := by decide +kernel
theorem dX8_fair_47 : decode cX8_fair 47 = .ok (.iconst 1, 1) := by decide +kernel
theorem dX8_fair_48 : decode cX8_fair 48 = .ok (.ireturn, 1) := by decide +kernel
theorem dX8_fair_49 : decode cX8_fair 49 = .ok (.iconst 1, 1) := by decide +kernel
theorem dX8_fair_50 : decode cX8_fair 50 = .ok (.istore_n 2, 1) := by decide +kernel
theorem dX8_fair_51 : decode cX8_fair 51 = .ok (.iload_n 2, 1) := by decide +kernel
theorem dX8_fair_52 : decode cX8_fair 52 = .ok (.iload_n 1, 1) := by decide +kernel
theorem dX8_fair_53 : decode cX8_fair 53 = .ok (.if_icmp .gt 33, 3) := by decide +kernel
theorem dX8_fair_56 : decode cX8_fair 56 = .ok (.aload_n 0, 1) := by decide +kernel
theorem dX8_fair_57 : decode cX8_fair 57 = .ok (.getfield 53, 3) := by decide +kernel
theorem dX8_fair_60 : decode cX8_fair 60 = .ok (.iload_n 2, 1) := by decide +kernel
theorem dX8_fair_61 : decode cX8_fair 61 = .ok (.invokevirtual 232, 3) := by decide +kernel
theorem dX8_fair_64 : decode cX8_fair 64 = .ok (.aload_n 0, 1) := by decide +kernel
theorem dX8_fair_65 : decode cX8_fair 65 = .ok (.getfield 60, 3) := by decide +kernel
theorem dX8_fair_68 : decode cX8_fair 68 = .ok (.getfield 241, 3) := by decide +kernel
theorem dX8_fair_71 : decode cX8_fair 71 = .ok (.iload_n 2, 1) := by decide +kernel
theorem dX8_fair_72 : decode cX8_fair 72 = .ok (.iaload, 1) := by decide +kernel
theorem dX8_fair_73 : decode cX8_fair 73 = .ok (.if_icmp .le 7, 3) := by decide +kernel
theorem dX8_fair_76 : decode cX8_fair 76 = .ok (.iconst 2, 1) := by decide +kernel
theorem dX8_fair_77 : decode cX8_fair 77 = .ok (.iload_n 2, 1) := by decide +kernel
theorem dX8_fair_78 : decode cX8_fair 78 = .ok (.iadd, 1) := by decide +kernel
theorem dX8_fair_79 : decode cX8_fair 79 = .ok (.ireturn, 1) := by decide +kernel
theorem dX8_fair_80 : decode cX8_fair 80 = .ok (.iinc 2 1, 3) := by decide +kernel
theorem dX8_fair_83 : decode cX8_fair 83 = .ok (.goto (-32), 3) := by decide +kernel
theorem dX8_fair_86 : decode cX8_fair 86 = .ok (.iconst 0, 1) := by decide +kernel
theorem dX8_fair_87 : decode cX8_fair 87 = .ok (.ireturn, 1) := by decide +kernel
set_option maxRecDepth 20000 in
theorem ggX8_share_X5_hasTown : GoodIn wsX8_share wsX5_hasTown := goodIn_r _ [12, 13, 114, 115, 116, 117, 118, 119, 120, 121, 122, 123] (by decide +kernel) (by decide +kernel)
set_option maxRecDepth 20000 in
theorem gX8_share_X5_hasTown : GoodIn wsX8_share (wsV RX8 88 RX5 yX5_hasTown wsX5_hasTown) := goodIn_app (goodIn_of _ (by decide +kernel)) ggX8_share_X5_hasTown
set_option maxRecDepth 20000 in
theorem ggX8_share_X8_within : GoodIn wsX8_share wsX8_within := goodIn_r _ [17] (by decide +kernel) (by decide +kernel)
set_option maxRecDepth 20000 in
theorem gX8_share_X8_within : GoodIn wsX8_share (va_wsS RX8 92 yX8_within wsX8_within) := goodIn_app (goodIn_of _ (by decide +kernel)) ggX8_share_X8_within
set_option maxRecDepth 20000 in
theorem ggX8_share_X2_refresh : GoodIn wsX8_share wsX2_refresh := goodIn_r _ [22, 23, 24, 25, 26, 27, 28, 29, 30, 31, 32, 33, 34, 35, 36, 37, 38, 39, 40, 41, 42, 43, 44, 45, 46, 47, 48, 49, 50, 51, 52, 53, 11, 54, 55, 56, 57, 58, 59, 60, 61, 62, 63, 64, 65, 66, 67, 21, 68, 69, 70, 71, 72, 73, 74, 75, 76, 77, 124, 125, 126, 127, 128, 129, 130, 131, 132, 133, 114, 115, 116, 117, 118, 119, 120, 121, 122, 123] (by decide +kernel) (by decide +kernel)
set_option maxRecDepth 20000 in
theorem gX8_share_X2_refresh : GoodIn wsX8_share (wsV RX8 238 RX2 yX2_refresh wsX2_refresh) := goodIn_app (goodIn_of _ (by decide +kernel)) ggX8_share_X2_refresh
set_option maxRecDepth 20000 in
theorem ggX8_share_X2_addedInAllOrders : GoodIn wsX8_share wsX2_addedInAllOrders := goodIn_r _ [81, 27, 71, 25, 82, 83, 84, 11, 85, 13, 86, 87, 88, 89, 90, 91, 92, 93, 94, 95, 124, 125, 126, 127, 128, 114, 115, 116, 117, 118, 119, 120, 121, 122, 123] (by decide +kernel) (by decide +kernel)
set_option maxRecDepth 20000 in
theorem gX8_share_X2_addedInAllOrders : GoodIn wsX8_share (wsV RX8 248 RX2 yX2_addedInAllOrders wsX2_addedInAllOrders) := goodIn_app (goodIn_of _ (by decide +kernel)) ggX8_share_X2_addedInAllOrders
set_option maxRecDepth 20000 in
theorem ggX8_share_X8_commonDivisor : GoodIn wsX8_share wsX8_commonDivisor := goodIn_r _ [98, 99, 100, 47, 101, 102, 103, 104] (by decide +kernel) (by decide +kernel)
set_option maxRecDepth 20000 in
theorem gX8_share_X8_commonDivisor : GoodIn wsX8_share (va_wsS RX8 255 yX8_commonDivisor wsX8_commonDivisor) := goodIn_app (goodIn_of _ (by decide +kernel)) ggX8_share_X8_commonDivisor
theorem dX8_share_0 : decode cX8_share 0 = .ok (.aload_n 0, 1) := by decide +kernel
theorem dX8_share_1 : decode cX8_share 1 = .ok (.getfield 12, 3) := by decide +kernel
theorem dX8_share_4 : decode cX8_share 4 = .ok (.iload_n 1, 1) := by decide +kernel
theorem dX8_share_5 : decode cX8_share 5 = .ok (.invokevirtual 88, 3) := by decide +kernel
theorem dX8_share_8 : decode cX8_share 8 = .ok (.ifCond .eq 12, 3) := by decide +kernel
theorem dX8_share_11 : decode cX8_share 11 = .ok (.iload_n 2, 1) := by decide +kernel
theorem dX8_share_12 : decode cX8_share 12 = .ok (.iconst 0, 1) := by decide +kernel
theorem dX8_share_13 : decode cX8_share 13 = .ok (.iconst 1, 1) := by decide +kernel
theorem dX8_share_14 : decode cX8_share 14 = .ok (.invokestatic 92, 3) := by decide +kernel
theorem dX8_share_17 : decode cX8_share 17 = .ok (.ifCond .ne 7, 3) := by decide +kernel
theorem dX8_share_20 : decode cX8_share 20 = .ok (.ldc2_w 244, 3) := by decide +kernel
theorem dX8_share_23 : decode cX8_share 23 = .ok (.lreturn, 1) := by decide +kernel
theorem dX8_share_24 : decode cX8_share 24 = .ok (.aload_n 0, 1) := by decide +kernel
theorem dX8_share_25 : decode cX8_share 25 = .ok (.getfield 12, 3) := by decide +kernel
theorem dX8_share_28 : decode cX8_share 28 = .ok (.getfield 82, 3) := by decide +kernel
theorem dX8_share_31 : decode cX8_share 31 = .ok (.ifCond .ne 7, 3) := by decide +kernel
theorem dX8_share_34 : decode cX8_share 34 = .ok (.ldc2_w 246, 3) := by decide +kernel
theorem dX8_share_37 : decode cX8_share 37 = .ok (.lreturn, 1) := by decide +kernel
theorem dX8_share_38 : decode cX8_share 38 = .ok (.aload_n 0, 1) := by decide +kernel
theorem dX8_share_39 : decode cX8_share 39 = .ok (.getfield 60, 3) := by decide +kernel
theorem dX8_share_42 : decode cX8_share 42 = .ok (.invokevirtual 238, 3) := by decide +kernel
theorem dX8_share_45 : decode cX8_share 45 = .ok (.aload_n 0, 1) := by decide +kernel
theorem dX8_share_46 : decode cX8_share 46 = .ok (.getfield 60, 3) := by decide +kernel
theorem dX8_share_49 : decode cX8_share 49 = .ok (.iload_n 1, 1) := by decide +kernel
theorem dX8_share_50 : decode cX8_share 50 = .ok (.invokevirtual 248, 3) := by decide +kernel
theorem dX8_share_53 : decode cX8_share 53 = .ok (.lstore_n 3, 1) := by decide +kernel
theorem dX8_share_54 : decode cX8_share 54 = .ok (.getstatic 252, 3) := by decide +kernel
theorem dX8_share_57 : decode cX8_share 57 = .ok (.aload_n 0, 1) := by decide +kernel
theorem dX8_share_58 : decode cX8_share 58 = .ok (.getfield 12, 3) := by decide +kernel
theorem dX8_share_61 : decode cX8_share 61 = .ok (.getfield 71, 3) := by decide +kernel
theorem dX8_share_64 : decode cX8_share 64 = .ok (.iaload, 1) := by decide +kernel
theorem dX8_share_65 : decode cX8_share 65 = .ok (.i2l, 1) := by decide +kernel
theorem dX8_share_66 : decode cX8_share 66 = .ok (.lstore 5, 2) := by decide +kernel
theorem dX8_share_68 : decode cX8_share 68 = .ok (.lload_n 3, 1) := by decide +kernel
theorem dX8_share_69 : decode cX8_share 69 = .ok (.lload 5, 2) := by decide +kernel
theorem dX8_share_71 : decode cX8_share 71 = .ok (.invokestatic 255, 3) := by decide +kernel
theorem dX8_share_74 : decode cX8_share 74 = .ok (.lstore 7, 2) := by decide +kernel
theorem dX8_share_76 : decode cX8_share 76 = .ok (.iload_n 2, 1) := by decide +kernel
theorem dX8_share_77 : decode cX8_share 77 = .ok (.ifCond .ne 7, 3) := by decide +kernel
theorem dX8_share_80 : decode cX8_share 80 = .ok (.lload_n 3, 1) := by decide +kernel
theorem dX8_share_81 : decode cX8_share 81 = .ok (.goto 5, 3) := by decide +kernel
theorem dX8_share_84 : decode cX8_share 84 = .ok (.lload 5, 2) := by decide +kernel
theorem dX8_share_86 : decode cX8_share 86 = .ok (.lload 7, 2) := by decide +kernel
theorem dX8_share_88 : decode cX8_share 88 = .ok (.ldiv, 1) := by decide +kernel
theorem dX8_share_89 : decode cX8_share 89 = .ok (.lreturn, 1) := by decide +kernel
set_option maxRecDepth 20000 in
theorem ggX8_line_X8_isLineQuestion : GoodIn wsX8_line wsX8_isLineQuestion := goodIn_r _ [6, 7, 8, 5, 9] (by decide +kernel) (by decide +kernel)
set_option maxRecDepth 20000 in
theorem gX8_line_X8_isLineQuestion : GoodIn wsX8_line (va_wsS RX8 259 yX8_isLineQuestion wsX8_isLineQuestion) := goodIn_app (goodIn_of _ (by decide +kernel)) ggX8_line_X8_isLineQuestion
set_option maxRecDepth 20000 in
theorem ggX8_line_X3_choose : GoodIn wsX8_line wsX3_choose := goodIn_r _ [14, 15, 16, 17, 18, 19, 20, 21, 22, 23, 24, 13, 25, 26, 27, 28, 29, 30, 31, 32, 33, 34, 35, 36, 37, 38, 39, 40, 41, 42, 43, 44, 45, 46, 47, 48, 49, 50, 51, 52, 53, 54, 55, 56, 57, 58, 59, 60, 61, 62, 63, 64, 65, 66, 67, 77, 78, 79, 80, 81, 82, 83, 84, 85, 86, 87, 88, 89, 90, 91] (by decide +kernel) (by decide +kernel)
set_option maxRecDepth 20000 in
theorem gX8_line_X3_choose : GoodIn wsX8_line (wsV RX8 262 RX3 yX3_choose wsX3_choose) := goodIn_app (goodIn_of _ (by decide +kernel)) ggX8_line_X3_choose
theorem dX8_line_0 : decode cX8_line 0 = .ok (.iload_n 1, 1) := by decide +kernel
theorem dX8_line_1 : decode cX8_line 1 = .ok (.iload_n 2, 1) := by decide +kernel
theorem dX8_line_2 : decode cX8_line 2 = .ok (.invokestatic 259, 3) := by decide +kernel
theorem dX8_line_5 : decode cX8_line 5 = .ok (.ifCond .ne 6, 3) := by decide +kernel
theorem dX8_line_8 : decode cX8_line 8 = .ok (.bipush (-3), 2) := by decide +kernel
theorem dX8_line_10 : decode cX8_line 10 = .ok (.ireturn, 1) := by decide +kernel
theorem dX8_line_11 : decode cX8_line 11 = .ok (.aload_n 0, 1) := by decide +kernel
theorem dX8_line_12 : decode cX8_line 12 = .ok (.getfield 67, 3) := by decide +kernel
theorem dX8_line_15 : decode cX8_line 15 = .ok (.iload_n 1, 1) := by decide +kernel
theorem dX8_line_16 : decode cX8_line 16 = .ok (.iload_n 2, 1) := by decide +kernel
theorem dX8_line_17 : decode cX8_line 17 = .ok (.invokevirtual 262, 3) := by decide +kernel
theorem dX8_line_20 : decode cX8_line 20 = .ok (.aload_n 0, 1) := by decide +kernel
theorem dX8_line_21 : decode cX8_line 21 = .ok (.getfield 67, 3) := by decide +kernel
theorem dX8_line_24 : decode cX8_line 24 = .ok (.getfield 265, 3) := by decide +kernel
theorem dX8_line_27 : decode cX8_line 27 = .ok (.ireturn, 1) := by decide +kernel
set_option maxRecDepth 20000 in
theorem ggX8_lineAt_X8_isLineQuestion : GoodIn wsX8_lineAt wsX8_isLineQuestion := goodIn_r _ [5, 6, 7, 4, 8] (by decide +kernel) (by decide +kernel)
set_option maxRecDepth 20000 in
theorem gX8_lineAt_X8_isLineQuestion : GoodIn wsX8_lineAt (va_wsS RX8 259 yX8_isLineQuestion wsX8_isLineQuestion) := goodIn_app (goodIn_of _ (by decide +kernel)) ggX8_lineAt_X8_isLineQuestion
set_option maxRecDepth 20000 in
theorem ggX8_lineAt_X3_choose : GoodIn wsX8_lineAt wsX3_choose := goodIn_r _ [13, 14, 15, 16, 17, 18, 19, 20, 21, 22, 23, 12, 24, 25, 26, 27, 28, 29, 30, 31, 32, 33, 34, 35, 36, 37, 38, 39, 40, 41, 42, 43, 44, 45, 46, 47, 48, 49, 50, 51, 52, 53, 54, 55, 56, 57, 58, 59, 60, 61, 62, 63, 64, 65, 66, 80, 81, 82, 83, 84, 85, 86, 87, 88, 89, 90, 91, 92, 93, 94] (by decide +kernel) (by decide +kernel)
set_option maxRecDepth 20000 in
theorem gX8_lineAt_X3_choose : GoodIn wsX8_lineAt (wsV RX8 262 RX3 yX3_choose wsX3_choose) := goodIn_app (goodIn_of _ (by decide +kernel)) ggX8_lineAt_X3_choose
set_option maxRecDepth 20000 in
theorem ggX8_lineAt_X3_chosenAt : GoodIn wsX8_lineAt wsX3_chosenAt := goodIn_r _ [70, 14, 19, 32, 52, 53, 54, 12, 55, 56, 57, 58, 59, 80, 81, 82, 83, 84] (by decide +kernel) (by decide +kernel)
set_option maxRecDepth 20000 in
theorem gX8_lineAt_X3_chosenAt : GoodIn wsX8_lineAt (wsV RX8 266 RX3 yX3_chosenAt wsX3_chosenAt) := goodIn_app (goodIn_of _ (by decide +kernel)) ggX8_lineAt_X3_chosenAt
theorem dX8_lineAt_0 : decode cX8_lineAt 0 = .ok (.iload_n 1, 1) := by decide +kernel
theorem dX8_lineAt_1 : decode cX8_lineAt 1 = .ok (.iload_n 2, 1) := by decide +kernel
theorem dX8_lineAt_2 : decode cX8_lineAt 2 = .ok (.invokestatic 259, 3) := by decide +kernel
theorem dX8_lineAt_5 : decode cX8_lineAt 5 = .ok (.ifCond .eq 7, 3) := by decide +kernel
theorem dX8_lineAt_8 : decode cX8_lineAt 8 = .ok (.iload_n 3, 1) := by decide +kernel
theorem dX8_lineAt_9 : decode cX8_lineAt 9 = .ok (.ifCond .ge 6, 3) := by decide +kernel
theorem dX8_lineAt_12 : decode cX8_lineAt 12 = .ok (.bipush (-3), 2) := by decide +kernel
theorem dX8_lineAt_14 : decode cX8_lineAt 14 = .ok (.ireturn, 1) := by decide +kernel
theorem dX8_lineAt_15 : decode cX8_lineAt 15 = .ok (.aload_n 0, 1) := by decide +kernel
theorem dX8_lineAt_16 : decode cX8_lineAt 16 = .ok (.getfield 67, 3) := by decide +kernel
theorem dX8_lineAt_19 : decode cX8_lineAt 19 = .ok (.iload_n 1, 1) := by decide +kernel
theorem dX8_lineAt_20 : decode cX8_lineAt 20 = .ok (.iload_n 2, 1) := by decide +kernel
theorem dX8_lineAt_21 : decode cX8_lineAt 21 = .ok (.invokevirtual 262, 3) := by decide +kernel
theorem dX8_lineAt_24 : decode cX8_lineAt 24 = .ok (.aload_n 0, 1) := by decide +kernel
theorem dX8_lineAt_25 : decode cX8_lineAt 25 = .ok (.getfield 67, 3) := by decide +kernel
theorem dX8_lineAt_28 : decode cX8_lineAt 28 = .ok (.iload_n 3, 1) := by decide +kernel
theorem dX8_lineAt_29 : decode cX8_lineAt 29 = .ok (.invokevirtual 266, 3) := by decide +kernel
theorem dX8_lineAt_32 : decode cX8_lineAt 32 = .ok (.ireturn, 1) := by decide +kernel
set_option maxRecDepth 20000 in
theorem ggX8_count_X5_allPeople : GoodIn wsX8_count wsX5_allPeople := goodIn_r _ [12, 13, 14, 56, 57, 58, 59, 60, 61, 62, 63, 64, 65] (by decide +kernel) (by decide +kernel)
set_option maxRecDepth 20000 in
theorem gX8_count_X5_allPeople : GoodIn wsX8_count (wsV RX8 269 RX5 yX5_allPeople wsX5_allPeople) := goodIn_app (goodIn_of _ (by decide +kernel)) ggX8_count_X5_allPeople
set_option maxRecDepth 20000 in
theorem ggX8_count_X5_sheets : GoodIn wsX8_count wsX5_sheets := goodIn_r _ [18, 19, 20, 21, 22, 11, 23, 24, 56, 57, 58, 59, 60, 61, 62, 63, 64, 65] (by decide +kernel) (by decide +kernel)
set_option maxRecDepth 20000 in
theorem gX8_count_X5_sheets : GoodIn wsX8_count (wsV RX8 272 RX5 yX5_sheets wsX5_sheets) := goodIn_app (goodIn_of _ (by decide +kernel)) ggX8_count_X5_sheets
set_option maxRecDepth 20000 in
theorem ggX8_count_J6_bitCount_0f7a4 : GoodIn wsX8_count wsJ6_bitCount_0f7a4 := goodIn_r _ [28, 29, 30, 31] (by decide +kernel) (by decide +kernel)
set_option maxRecDepth 20000 in
theorem gX8_count_J6_bitCount_0f7a4 : GoodIn wsX8_count (va_wsS RX8 173 yJ6_bitCount_0f7a4 wsJ6_bitCount_0f7a4) := goodIn_app (goodIn_of _ (by decide +kernel)) ggX8_count_J6_bitCount_0f7a4
set_option maxRecDepth 20000 in
theorem ggX8_count_X5_everyTown : GoodIn wsX8_count wsX5_everyTown := goodIn_r _ [35, 13, 56, 57, 58, 59, 60, 61, 62, 63, 64, 65] (by decide +kernel) (by decide +kernel)
set_option maxRecDepth 20000 in
theorem gX8_count_X5_everyTown : GoodIn wsX8_count (wsV RX8 229 RX5 yX5_everyTown wsX5_everyTown) := goodIn_app (goodIn_of _ (by decide +kernel)) ggX8_count_X5_everyTown
set_option maxRecDepth 20000 in
theorem ggX8_count_X0_together : GoodIn wsX8_count wsX0_together := goodIn_r _ [40, 41, 42, 43, 44, 45, 11, 46, 68, 69, 70, 56, 57, 58, 59, 60, 61, 62, 63, 64, 65] (by decide +kernel) (by decide +kernel)
set_option maxRecDepth 20000 in
theorem gX8_count_X0_together : GoodIn wsX8_count (wsV RX8 232 RX0 yX0_together wsX0_together) := goodIn_app (goodIn_of _ (by decide +kernel)) ggX8_count_X0_together
theorem dX8_count_0 : decode cX8_count 0 = .ok (.iload_n 1, 1) := by decide +kernel
theorem dX8_count_1 : decode cX8_count 1 = .ok (.tableswitch 106 0 6 #[43, 51, 59, 67, 75, 83, 91], 43) := by decide +kernel
theorem dX8_count_44 : decode cX8_count 44 = .ok (.aload_n 0, 1) := by decide +kernel
theorem dX8_count_45 : decode cX8_count 45 = .ok (.getfield 12, 3) := by decide +kernel
theorem dX8_count_48 : decode cX8_count 48 = .ok (.getfield 71, 3) := by decide +kernel
theorem dX8_count_51 : decode cX8_count 51 = .ok (.ireturn, 1) := by decide +kernel
theorem dX8_count_52 : decode cX8_count 52 = .ok (.aload_n 0, 1) := by decide +kernel
theorem dX8_count_53 : decode cX8_count 53 = .ok (.getfield 12, 3) := by decide +kernel
theorem dX8_count_56 : decode cX8_count 56 = .ok (.getfield 82, 3) := by decide +kernel
theorem dX8_count_59 : decode cX8_count 59 = .ok (.ireturn, 1) := by decide +kernel
theorem dX8_count_60 : decode cX8_count 60 = .ok (.aload_n 0, 1) := by decide +kernel
theorem dX8_count_61 : decode cX8_count 61 = .ok (.getfield 12, 3) := by decide +kernel
theorem dX8_count_64 : decode cX8_count 64 = .ok (.invokevirtual 269, 3) := by decide +kernel
theorem dX8_count_67 : decode cX8_count 67 = .ok (.ireturn, 1) := by decide +kernel
theorem dX8_count_68 : decode cX8_count 68 = .ok (.aload_n 0, 1) := by decide +kernel
theorem dX8_count_69 : decode cX8_count 69 = .ok (.getfield 12, 3) := by decide +kernel
theorem dX8_count_72 : decode cX8_count 72 = .ok (.invokevirtual 272, 3) := by decide +kernel
theorem dX8_count_75 : decode cX8_count 75 = .ok (.ireturn, 1) := by decide +kernel
theorem dX8_count_76 : decode cX8_count 76 = .ok (.aload_n 0, 1) := by decide +kernel
theorem dX8_count_77 : decode cX8_count 77 = .ok (.getfield 167, 3) := by decide +kernel
theorem dX8_count_80 : decode cX8_count 80 = .ok (.invokestatic 173, 3) := by decide +kernel
theorem dX8_count_83 : decode cX8_count 83 = .ok (.ireturn, 1) := by decide +kernel
theorem dX8_count_84 : decode cX8_count 84 = .ok (.aload_n 0, 1) := by decide +kernel
theorem dX8_count_85 : decode cX8_count 85 = .ok (.getfield 19, 3) := by decide +kernel
theorem dX8_count_88 : decode cX8_count 88 = .ok (.getfield 155, 3) := by decide +kernel
theorem dX8_count_91 : decode cX8_count 91 = .ok (.ireturn, 1) := by decide +kernel
theorem dX8_count_92 : decode cX8_count 92 = .ok (.aload_n 0, 1) := by decide +kernel
theorem dX8_count_93 : decode cX8_count 93 = .ok (.getfield 53, 3) := by decide +kernel
theorem dX8_count_96 : decode cX8_count 96 = .ok (.aload_n 0, 1) := by decide +kernel
theorem dX8_count_97 : decode cX8_count 97 = .ok (.getfield 12, 3) := by decide +kernel
theorem dX8_count_100 : decode cX8_count 100 = .ok (.invokevirtual 229, 3) := by decide +kernel
theorem dX8_count_103 : decode cX8_count 103 = .ok (.invokevirtual 232, 3) := by decide +kernel
theorem dX8_count_106 : decode cX8_count 106 = .ok (.ireturn, 1) := by decide +kernel
theorem dX8_count_107 : decode cX8_count 107 = .ok (.bipush (-3), 2) := by decide +kernel
theorem dX8_count_109 : decode cX8_count 109 = .ok (.ireturn, 1) := by decide +kernel
theorem dX8_within_0 : decode cX8_within 0 = .ok (.iload_n 0, 1) := by decide +kernel
theorem dX8_within_1 : decode cX8_within 1 = .ok (.iload_n 1, 1) := by decide +kernel
theorem dX8_within_2 : decode cX8_within 2 = .ok (.if_icmp .lt 12, 3) := by decide +kernel
theorem dX8_within_5 : decode cX8_within 5 = .ok (.iload_n 0, 1) := by decide +kernel
theorem dX8_within_6 : decode cX8_within 6 = .ok (.iload_n 2, 1) := by decide +kernel
theorem dX8_within_7 : decode cX8_within 7 = .ok (.if_icmp .gt 7, 3) := by decide +kernel
theorem dX8_within_10 : decode cX8_within 10 = .ok (.iconst 1, 1) := by decide +kernel
theorem dX8_within_11 : decode cX8_within 11 = .ok (.goto 4, 3) := by decide +kernel
theorem dX8_within_14 : decode cX8_within 14 = .ok (.iconst 0, 1) := by decide +kernel
theorem dX8_within_15 : decode cX8_within 15 = .ok (.ireturn, 1) := by decide +kernel
set_option maxRecDepth 20000 in
theorem ggX8_isKind_X8_within : GoodIn wsX8_isKind wsX8_within := goodIn_r _ [4] (by decide +kernel) (by decide +kernel)
set_option maxRecDepth 20000 in
theorem gX8_isKind_X8_within : GoodIn wsX8_isKind (va_wsS RX8 92 yX8_within wsX8_within) := goodIn_app (goodIn_of _ (by decide +kernel)) ggX8_isKind_X8_within
theorem dX8_isKind_0 : decode cX8_isKind 0 = .ok (.iload_n 0, 1) := by decide +kernel
theorem dX8_isKind_1 : decode cX8_isKind 1 = .ok (.iconst 0, 1) := by decide +kernel
theorem dX8_isKind_2 : decode cX8_isKind 2 = .ok (.bipush 6, 2) := by decide +kernel
theorem dX8_isKind_4 : decode cX8_isKind 4 = .ok (.invokestatic 92, 3) := by decide +kernel
theorem dX8_isKind_7 : decode cX8_isKind 7 = .ok (.ireturn, 1) := by decide +kernel
set_option maxRecDepth 20000 in
theorem ggX8_isQuestion_X8_isKind : GoodIn wsX8_isQuestion wsX8_isKind := goodIn_r _ [4, 5, 6, 3, 7] (by decide +kernel) (by decide +kernel)
set_option maxRecDepth 20000 in
theorem gX8_isQuestion_X8_isKind : GoodIn wsX8_isQuestion (va_wsS RX8 179 yX8_isKind wsX8_isKind) := goodIn_app (goodIn_of _ (by decide +kernel)) ggX8_isQuestion_X8_isKind
set_option maxRecDepth 20000 in
theorem ggX8_isQuestion_X8_within : GoodIn wsX8_isQuestion wsX8_within := goodIn_r _ [7] (by decide +kernel) (by decide +kernel)
set_option maxRecDepth 20000 in
theorem gX8_isQuestion_X8_within : GoodIn wsX8_isQuestion (va_wsS RX8 92 yX8_within wsX8_within) := goodIn_app (goodIn_of _ (by decide +kernel)) ggX8_isQuestion_X8_within
theorem dX8_isQuestion_0 : decode cX8_isQuestion 0 = .ok (.iload_n 0, 1) := by decide +kernel
theorem dX8_isQuestion_1 : decode cX8_isQuestion 1 = .ok (.invokestatic 179, 3) := by decide +kernel
theorem dX8_isQuestion_4 : decode cX8_isQuestion 4 = .ok (.ifCond .eq 17, 3) := by decide +kernel
theorem dX8_isQuestion_7 : decode cX8_isQuestion 7 = .ok (.iload_n 1, 1) := by decide +kernel
theorem dX8_isQuestion_8 : decode cX8_isQuestion 8 = .ok (.iconst (-1), 1) := by decide +kernel
theorem dX8_isQuestion_9 : decode cX8_isQuestion 9 = .ok (.bipush 7, 2) := by decide +kernel
theorem dX8_isQuestion_11 : decode cX8_isQuestion 11 = .ok (.invokestatic 92, 3) := by decide +kernel
theorem dX8_isQuestion_14 : decode cX8_isQuestion 14 = .ok (.ifCond .eq 7, 3) := by decide +kernel
theorem dX8_isQuestion_17 : decode cX8_isQuestion 17 = .ok (.iconst 1, 1) := by decide +kernel
theorem dX8_isQuestion_18 : decode cX8_isQuestion 18 = .ok (.goto 4, 3) := by decide +kernel
theorem dX8_isQuestion_21 : decode cX8_isQuestion 21 = .ok (.iconst 0, 1) := by decide +kernel
theorem dX8_isQuestion_22 : decode cX8_isQuestion 22 = .ok (.ireturn, 1) := by decide +kernel
set_option maxRecDepth 20000 in
theorem ggX8_isLineQuestion_X8_within : GoodIn wsX8_isLineQuestion wsX8_within := goodIn_r _ [4] (by decide +kernel) (by decide +kernel)
set_option maxRecDepth 20000 in
theorem gX8_isLineQuestion_X8_within : GoodIn wsX8_isLineQuestion (va_wsS RX8 92 yX8_within wsX8_within) := goodIn_app (goodIn_of _ (by decide +kernel)) ggX8_isLineQuestion_X8_within
theorem dX8_isLineQuestion_0 : decode cX8_isLineQuestion 0 = .ok (.iload_n 0, 1) := by decide +kernel
theorem dX8_isLineQuestion_1 : decode cX8_isLineQuestion 1 = .ok (.iconst 0, 1) := by decide +kernel
theorem dX8_isLineQuestion_2 : decode cX8_isLineQuestion 2 = .ok (.iconst 1, 1) := by decide +kernel
theorem dX8_isLineQuestion_3 : decode cX8_isLineQuestion 3 = .ok (.invokestatic 92, 3) := by decide +kernel
theorem dX8_isLineQuestion_6 : decode cX8_isLineQuestion 6 = .ok (.ifCond .eq 17, 3) := by decide +kernel
theorem dX8_isLineQuestion_9 : decode cX8_isLineQuestion 9 = .ok (.iload_n 1, 1) := by decide +kernel
theorem dX8_isLineQuestion_10 : decode cX8_isLineQuestion 10 = .ok (.iconst 1, 1) := by decide +kernel
theorem dX8_isLineQuestion_11 : decode cX8_isLineQuestion 11 = .ok (.bipush 8, 2) := by decide +kernel
theorem dX8_isLineQuestion_13 : decode cX8_isLineQuestion 13 = .ok (.invokestatic 92, 3) := by decide +kernel
theorem dX8_isLineQuestion_16 : decode cX8_isLineQuestion 16 = .ok (.ifCond .eq 7, 3) := by decide +kernel
theorem dX8_isLineQuestion_19 : decode cX8_isLineQuestion 19 = .ok (.iconst 1, 1) := by decide +kernel
theorem dX8_isLineQuestion_20 : decode cX8_isLineQuestion 20 = .ok (.goto 4, 3) := by decide +kernel
theorem dX8_isLineQuestion_23 : decode cX8_isLineQuestion 23 = .ok (.iconst 0, 1) := by decide +kernel
theorem dX8_isLineQuestion_24 : decode cX8_isLineQuestion 24 = .ok (.ireturn, 1) := by decide +kernel
set_option maxRecDepth 20000 in
theorem ggX8_keepForUndo_X4_keep : GoodIn wsX8_keepForUndo wsX4_keep := goodIn_r _ [7, 8, 9, 10, 11, 12, 6, 13, 14, 15, 16, 17, 18, 19, 20, 21, 22, 23, 24, 25, 26, 27, 28, 29, 30, 31, 32, 68, 69, 70, 71, 72, 73, 74, 75, 76, 77, 78, 79] (by decide +kernel) (by decide +kernel)
set_option maxRecDepth 20000 in
theorem gX8_keepForUndo_X4_keep : GoodIn wsX8_keepForUndo (wsV RX8 275 RX4 yX4_keep wsX4_keep) := goodIn_app (goodIn_of _ (by decide +kernel)) ggX8_keepForUndo_X4_keep
set_option maxRecDepth 20000 in
theorem ggX8_keepForUndo_X8_forgetAnswers : GoodIn wsX8_keepForUndo wsX8_forgetAnswers := goodIn_r _ [37, 38, 39, 40, 41, 42, 43, 44, 45, 46, 47, 48, 49, 50, 51, 52, 53, 54, 55, 56, 57, 58, 59, 60, 61, 62, 63, 64, 65, 66, 67, 80, 81, 82, 83, 84, 85, 86, 87, 88, 89, 90, 91, 92, 93, 94, 95, 96, 97, 98, 99] (by decide +kernel) (by decide +kernel)
set_option maxRecDepth 20000 in
theorem gX8_keepForUndo_X8_forgetAnswers : GoodIn wsX8_keepForUndo (wsV RX8 161 RX8 yX8_forgetAnswers wsX8_forgetAnswers) := goodIn_app (goodIn_of _ (by decide +kernel)) ggX8_keepForUndo_X8_forgetAnswers
theorem dX8_keepForUndo_0 : decode cX8_keepForUndo 0 = .ok (.aload_n 0, 1) := by decide +kernel
theorem dX8_keepForUndo_1 : decode cX8_keepForUndo 1 = .ok (.getfield 19, 3) := by decide +kernel
theorem dX8_keepForUndo_4 : decode cX8_keepForUndo 4 = .ok (.aload_n 0, 1) := by decide +kernel
theorem dX8_keepForUndo_5 : decode cX8_keepForUndo 5 = .ok (.getfield 12, 3) := by decide +kernel
theorem dX8_keepForUndo_8 : decode cX8_keepForUndo 8 = .ok (.invokevirtual 275, 3) := by decide +kernel
theorem dX8_keepForUndo_11 : decode cX8_keepForUndo 11 = .ok (.aload_n 0, 1) := by decide +kernel
theorem dX8_keepForUndo_12 : decode cX8_keepForUndo 12 = .ok (.invokevirtual 161, 3) := by decide +kernel
theorem dX8_keepForUndo_15 : decode cX8_keepForUndo 15 = .ok (.return_, 1) := by decide +kernel
set_option maxRecDepth 20000 in
theorem ggX8_forgetAnswers_X6_forget : GoodIn wsX8_forgetAnswers wsX6_forget := goodIn_r _ [8, 9, 31, 32, 33, 34, 35] (by decide +kernel) (by decide +kernel)
set_option maxRecDepth 20000 in
theorem gX8_forgetAnswers_X6_forget : GoodIn wsX8_forgetAnswers (wsV RX8 278 RX6 yX6_forget wsX6_forget) := goodIn_app (goodIn_of _ (by decide +kernel)) ggX8_forgetAnswers_X6_forget
set_option maxRecDepth 20000 in
theorem ggX8_forgetAnswers_X7_forget : GoodIn wsX8_forgetAnswers wsX7_forget := goodIn_r _ [14, 15, 36, 37, 38, 39, 40, 41, 42, 43, 44, 45] (by decide +kernel) (by decide +kernel)
set_option maxRecDepth 20000 in
theorem gX8_forgetAnswers_X7_forget : GoodIn wsX8_forgetAnswers (wsV RX8 281 RX7 yX7_forget wsX7_forget) := goodIn_app (goodIn_of _ (by decide +kernel)) ggX8_forgetAnswers_X7_forget
set_option maxRecDepth 20000 in
theorem ggX8_forgetAnswers_X2_forget : GoodIn wsX8_forgetAnswers wsX2_forget := goodIn_r _ [20, 21, 46, 47, 48, 49, 50] (by decide +kernel) (by decide +kernel)
set_option maxRecDepth 20000 in
theorem gX8_forgetAnswers_X2_forget : GoodIn wsX8_forgetAnswers (wsV RX8 282 RX2 yX2_forget wsX2_forget) := goodIn_app (goodIn_of _ (by decide +kernel)) ggX8_forgetAnswers_X2_forget
theorem dX8_forgetAnswers_0 : decode cX8_forgetAnswers 0 = .ok (.aload_n 0, 1) := by decide +kernel
theorem dX8_forgetAnswers_1 : decode cX8_forgetAnswers 1 = .ok (.getfield 28, 3) := by decide +kernel
theorem dX8_forgetAnswers_4 : decode cX8_forgetAnswers 4 = .ok (.invokevirtual 278, 3) := by decide +kernel
theorem dX8_forgetAnswers_7 : decode cX8_forgetAnswers 7 = .ok (.aload_n 0, 1) := by decide +kernel
theorem dX8_forgetAnswers_8 : decode cX8_forgetAnswers 8 = .ok (.getfield 37, 3) := by decide +kernel
theorem dX8_forgetAnswers_11 : decode cX8_forgetAnswers 11 = .ok (.invokevirtual 281, 3) := by decide +kernel
theorem dX8_forgetAnswers_14 : decode cX8_forgetAnswers 14 = .ok (.aload_n 0, 1) := by decide +kernel
theorem dX8_forgetAnswers_15 : decode cX8_forgetAnswers 15 = .ok (.getfield 60, 3) := by decide +kernel
theorem dX8_forgetAnswers_18 : decode cX8_forgetAnswers 18 = .ok (.invokevirtual 282, 3) := by decide +kernel
theorem dX8_forgetAnswers_21 : decode cX8_forgetAnswers 21 = .ok (.return_, 1) := by decide +kernel
set_option maxRecDepth 20000 in
theorem ggX8_freshCosts_X6_refresh : GoodIn wsX8_freshCosts wsX6_refresh := goodIn_r _ [7, 8, 9, 10, 11, 12, 13, 14, 15, 16, 17, 18, 6, 19, 20, 21, 22, 23, 24, 25, 26, 27, 28, 29, 30, 31, 41, 42, 43, 44, 45, 46, 47, 48, 49, 50, 51, 52, 53, 54, 55] (by decide +kernel) (by decide +kernel)
set_option maxRecDepth 20000 in
theorem gX8_freshCosts_X6_refresh : GoodIn wsX8_freshCosts (wsV RX8 283 RX6 yX6_refresh wsX6_refresh) := goodIn_app (goodIn_of _ (by decide +kernel)) ggX8_freshCosts_X6_refresh
theorem dX8_freshCosts_0 : decode cX8_freshCosts 0 = .ok (.aload_n 0, 1) := by decide +kernel
theorem dX8_freshCosts_1 : decode cX8_freshCosts 1 = .ok (.getfield 28, 3) := by decide +kernel
theorem dX8_freshCosts_4 : decode cX8_freshCosts 4 = .ok (.invokevirtual 283, 3) := by decide +kernel
theorem dX8_freshCosts_7 : decode cX8_freshCosts 7 = .ok (.aload_n 0, 1) := by decide +kernel
theorem dX8_freshCosts_8 : decode cX8_freshCosts 8 = .ok (.getfield 46, 3) := by decide +kernel
theorem dX8_freshCosts_11 : decode cX8_freshCosts 11 = .ok (.areturn, 1) := by decide +kernel
set_option maxRecDepth 20000 in
theorem ggX8_change_X8_keepForUndo : GoodIn wsX8_change wsX8_keepForUndo := goodIn_r _ [5, 6, 7, 8, 9, 10, 11, 12, 13, 14, 15, 16, 17, 18, 19, 20, 21, 22, 23, 24, 25, 26, 27, 28, 29, 30, 31, 32, 33, 34, 35, 36, 37, 38, 39, 40, 4, 41, 42, 43, 44, 45, 46, 47, 48, 49, 50, 51, 52, 53, 54, 55, 56, 57, 58, 59, 60, 61, 62, 63, 64, 65, 66, 67, 68, 69, 70, 71, 72, 73, 74, 75, 76, 77, 78, 79, 80, 81, 82, 83, 84, 85, 86, 87, 88, 89, 90, 91, 92, 93, 94, 95, 96, 97, 98, 99, 100, 101, 102, 103] (by decide +kernel) (by decide +kernel)
set_option maxRecDepth 20000 in
theorem gX8_change_X8_keepForUndo : GoodIn wsX8_change (wsV RX8 75 RX8 yX8_keepForUndo wsX8_keepForUndo) := goodIn_app (goodIn_of _ (by decide +kernel)) ggX8_change_X8_keepForUndo
theorem dX8_change_0 : decode cX8_change 0 = .ok (.aload_n 1, 1) := by decide +kernel
theorem dX8_change_1 : decode cX8_change 1 = .ok (.iload_n 2, 1) := by decide +kernel
theorem dX8_change_2 : decode cX8_change 2 = .ok (.iaload, 1) := by decide +kernel
theorem dX8_change_3 : decode cX8_change 3 = .ok (.istore 4, 2) := by decide +kernel
theorem dX8_change_5 : decode cX8_change 5 = .ok (.aload_n 0, 1) := by decide +kernel
theorem dX8_change_6 : decode cX8_change 6 = .ok (.invokevirtual 75, 3) := by decide +kernel
theorem dX8_change_9 : decode cX8_change 9 = .ok (.aload_n 1, 1) := by decide +kernel
theorem dX8_change_10 : decode cX8_change 10 = .ok (.iload_n 2, 1) := by decide +kernel
theorem dX8_change_11 : decode cX8_change 11 = .ok (.iload_n 3, 1) := by decide +kernel
theorem dX8_change_12 : decode cX8_change 12 = .ok (.iastore, 1) := by decide +kernel
theorem dX8_change_13 : decode cX8_change 13 = .ok (.iload 4, 2) := by decide +kernel
theorem dX8_change_15 : decode cX8_change 15 = .ok (.ireturn, 1) := by decide +kernel
theorem dX8_aboutTown_0 : decode cX8_aboutTown 0 = .ok (.iload_n 2, 1) := by decide +kernel
theorem dX8_aboutTown_1 : decode cX8_aboutTown 1 = .ok (.tableswitch 61 0 2 #[27, 37, 47], 27) := by decide +kernel
theorem dX8_aboutTown_28 : decode cX8_aboutTown 28 = .ok (.aload_n 0, 1) := by decide +kernel
theorem dX8_aboutTown_29 : decode cX8_aboutTown 29 = .ok (.getfield 12, 3) := by decide +kernel
theorem dX8_aboutTown_32 : decode cX8_aboutTown 32 = .ok (.getfield 96, 3) := by decide +kernel
theorem dX8_aboutTown_35 : decode cX8_aboutTown 35 = .ok (.iload_n 1, 1) := by decide +kernel
theorem dX8_aboutTown_36 : decode cX8_aboutTown 36 = .ok (.iaload, 1) := by decide +kernel
theorem dX8_aboutTown_37 : decode cX8_aboutTown 37 = .ok (.ireturn, 1) := by decide +kernel
theorem dX8_aboutTown_38 : decode cX8_aboutTown 38 = .ok (.aload_n 0, 1) := by decide +kernel
theorem dX8_aboutTown_39 : decode cX8_aboutTown 39 = .ok (.getfield 12, 3) := by decide +kernel
theorem dX8_aboutTown_42 : decode cX8_aboutTown 42 = .ok (.getfield 105, 3) := by decide +kernel
theorem dX8_aboutTown_45 : decode cX8_aboutTown 45 = .ok (.iload_n 1, 1) := by decide +kernel
theorem dX8_aboutTown_46 : decode cX8_aboutTown 46 = .ok (.iaload, 1) := by decide +kernel
theorem dX8_aboutTown_47 : decode cX8_aboutTown 47 = .ok (.ireturn, 1) := by decide +kernel
theorem dX8_aboutTown_48 : decode cX8_aboutTown 48 = .ok (.aload_n 0, 1) := by decide +kernel
theorem dX8_aboutTown_49 : decode cX8_aboutTown 49 = .ok (.getfield 12, 3) := by decide +kernel
theorem dX8_aboutTown_52 : decode cX8_aboutTown 52 = .ok (.getfield 108, 3) := by decide +kernel
theorem dX8_aboutTown_55 : decode cX8_aboutTown 55 = .ok (.iload_n 1, 1) := by decide +kernel
theorem dX8_aboutTown_56 : decode cX8_aboutTown 56 = .ok (.iaload, 1) := by decide +kernel
theorem dX8_aboutTown_57 : decode cX8_aboutTown 57 = .ok (.sipush 1000, 3) := by decide +kernel
theorem dX8_aboutTown_60 : decode cX8_aboutTown 60 = .ok (.iadd, 1) := by decide +kernel
theorem dX8_aboutTown_61 : decode cX8_aboutTown 61 = .ok (.ireturn, 1) := by decide +kernel
theorem dX8_aboutTown_62 : decode cX8_aboutTown 62 = .ok (.bipush (-3), 2) := by decide +kernel
theorem dX8_aboutTown_64 : decode cX8_aboutTown 64 = .ok (.ireturn, 1) := by decide +kernel
theorem dX8_aboutHall_0 : decode cX8_aboutHall 0 = .ok (.iload_n 2, 1) := by decide +kernel
theorem dX8_aboutHall_1 : decode cX8_aboutHall 1 = .ok (.tableswitch 71 0 3 #[31, 41, 51, 61], 31) := by decide +kernel
theorem dX8_aboutHall_32 : decode cX8_aboutHall 32 = .ok (.aload_n 0, 1) := by decide +kernel
theorem dX8_aboutHall_33 : decode cX8_aboutHall 33 = .ok (.getfield 12, 3) := by decide +kernel
theorem dX8_aboutHall_36 : decode cX8_aboutHall 36 = .ok (.getfield 114, 3) := by decide +kernel
theorem dX8_aboutHall_39 : decode cX8_aboutHall 39 = .ok (.iload_n 1, 1) := by decide +kernel
theorem dX8_aboutHall_40 : decode cX8_aboutHall 40 = .ok (.iaload, 1) := by decide +kernel
theorem dX8_aboutHall_41 : decode cX8_aboutHall 41 = .ok (.ireturn, 1) := by decide +kernel
theorem dX8_aboutHall_42 : decode cX8_aboutHall 42 = .ok (.aload_n 0, 1) := by decide +kernel
theorem dX8_aboutHall_43 : decode cX8_aboutHall 43 = .ok (.getfield 12, 3) := by decide +kernel
theorem dX8_aboutHall_46 : decode cX8_aboutHall 46 = .ok (.getfield 117, 3) := by decide +kernel
theorem dX8_aboutHall_49 : decode cX8_aboutHall 49 = .ok (.iload_n 1, 1) := by decide +kernel
theorem dX8_aboutHall_50 : decode cX8_aboutHall 50 = .ok (.iaload, 1) := by decide +kernel
theorem dX8_aboutHall_51 : decode cX8_aboutHall 51 = .ok (.ireturn, 1) := by decide +kernel
theorem dX8_aboutHall_52 : decode cX8_aboutHall 52 = .ok (.aload_n 0, 1) := by decide +kernel
theorem dX8_aboutHall_53 : decode cX8_aboutHall 53 = .ok (.getfield 12, 3) := by decide +kernel
theorem dX8_aboutHall_56 : decode cX8_aboutHall 56 = .ok (.getfield 130, 3) := by decide +kernel
theorem dX8_aboutHall_59 : decode cX8_aboutHall 59 = .ok (.iload_n 1, 1) := by decide +kernel
theorem dX8_aboutHall_60 : decode cX8_aboutHall 60 = .ok (.iaload, 1) := by decide +kernel
theorem dX8_aboutHall_61 : decode cX8_aboutHall 61 = .ok (.ireturn, 1) := by decide +kernel
theorem dX8_aboutHall_62 : decode cX8_aboutHall 62 = .ok (.aload_n 0, 1) := by decide +kernel
theorem dX8_aboutHall_63 : decode cX8_aboutHall 63 = .ok (.getfield 12, 3) := by decide +kernel
theorem dX8_aboutHall_66 : decode cX8_aboutHall 66 = .ok (.getfield 127, 3) := by decide +kernel
theorem dX8_aboutHall_69 : decode cX8_aboutHall 69 = .ok (.iload_n 1, 1) := by decide +kernel
theorem dX8_aboutHall_70 : decode cX8_aboutHall 70 = .ok (.iaload, 1) := by decide +kernel
theorem dX8_aboutHall_71 : decode cX8_aboutHall 71 = .ok (.ireturn, 1) := by decide +kernel
theorem dX8_aboutHall_72 : decode cX8_aboutHall 72 = .ok (.bipush (-3), 2) := by decide +kernel
theorem dX8_aboutHall_74 : decode cX8_aboutHall 74 = .ok (.ireturn, 1) := by decide +kernel
theorem dX8_commonDivisor_0 : decode cX8_commonDivisor 0 = .ok (.lload_n 0, 1) := by decide +kernel
theorem dX8_commonDivisor_1 : decode cX8_commonDivisor 1 = .ok (.lstore 4, 2) := by decide +kernel
theorem dX8_commonDivisor_3 : decode cX8_commonDivisor 3 = .ok (.lload_n 2, 1) := by decide +kernel
theorem dX8_commonDivisor_4 : decode cX8_commonDivisor 4 = .ok (.lstore 6, 2) := by decide +kernel
theorem dX8_commonDivisor_6 : decode cX8_commonDivisor 6 = .ok (.iconst 0, 1) := by decide +kernel
theorem dX8_commonDivisor_7 : decode cX8_commonDivisor 7 = .ok (.istore 8, 2) := by decide +kernel
theorem dX8_commonDivisor_9 : decode cX8_commonDivisor 9 = .ok (.iload 8, 2) := by decide +kernel
theorem dX8_commonDivisor_11 : decode cX8_commonDivisor 11 = .ok (.sipush 200, 3) := by decide +kernel
theorem dX8_commonDivisor_14 : decode cX8_commonDivisor 14 = .ok (.if_icmp .ge 31, 3) := by decide +kernel
theorem dX8_commonDivisor_17 : decode cX8_commonDivisor 17 = .ok (.lload 6, 2) := by decide +kernel
theorem dX8_commonDivisor_19 : decode cX8_commonDivisor 19 = .ok (.lconst 0, 1) := by decide +kernel
theorem dX8_commonDivisor_20 : decode cX8_commonDivisor 20 = .ok (.lcmp, 1) := by decide +kernel
theorem dX8_commonDivisor_21 : decode cX8_commonDivisor 21 = .ok (.ifCond .eq 24, 3) := by decide +kernel
theorem dX8_commonDivisor_24 : decode cX8_commonDivisor 24 = .ok (.lload 4, 2) := by decide +kernel
theorem dX8_commonDivisor_26 : decode cX8_commonDivisor 26 = .ok (.lload 6, 2) := by decide +kernel
theorem dX8_commonDivisor_28 : decode cX8_commonDivisor 28 = .ok (.lrem, 1) := by decide +kernel
theorem dX8_commonDivisor_29 : decode cX8_commonDivisor 29 = .ok (.lstore 9, 2) := by decide +kernel
theorem dX8_commonDivisor_31 : decode cX8_commonDivisor 31 = .ok (.lload 6, 2) := by decide +kernel
theorem dX8_commonDivisor_33 : decode cX8_commonDivisor 33 = .ok (.lstore 4, 2) := by decide +kernel
theorem dX8_commonDivisor_35 : decode cX8_commonDivisor 35 = .ok (.lload 9, 2) := by decide +kernel
theorem dX8_commonDivisor_37 : decode cX8_commonDivisor 37 = .ok (.lstore 6, 2) := by decide +kernel
theorem dX8_commonDivisor_39 : decode cX8_commonDivisor 39 = .ok (.iinc 8 1, 3) := by decide +kernel
theorem dX8_commonDivisor_42 : decode cX8_commonDivisor 42 = .ok (.goto (-33), 3) := by decide +kernel
theorem dX8_commonDivisor_45 : decode cX8_commonDivisor 45 = .ok (.lconst 1, 1) := by decide +kernel
