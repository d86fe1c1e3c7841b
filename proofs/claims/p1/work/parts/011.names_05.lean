theorem dX8_commonDivisor_46 : decode cX8_commonDivisor 46 = .ok (.lload 4, 2) := by decide +kernel
theorem dX8_commonDivisor_48 : decode cX8_commonDivisor 48 = .ok (.invokestatic 284, 3) := by decide +kernel
theorem dX8_commonDivisor_51 : decode cX8_commonDivisor 51 = .ok (.invokestatic 290, 3) := by decide +kernel
theorem dX8_commonDivisor_54 : decode cX8_commonDivisor 54 = .ok (.lreturn, 1) := by decide +kernel
theorem dX9_init_0 : decode cX9_init 0 = .ok (.aload_n 0, 1) := by decide +kernel
theorem dX9_init_1 : decode cX9_init 1 = .ok (.invokespecial 1, 3) := by decide +kernel
theorem dX9_init_4 : decode cX9_init 4 = .ok (.aload_n 0, 1) := by decide +kernel
theorem dX9_init_5 : decode cX9_init 5 = .ok (.bipush 8, 2) := by decide +kernel
theorem dX9_init_7 : decode cX9_init 7 = .ok (.newarray .int, 2) := by decide +kernel
theorem dX9_init_9 : decode cX9_init 9 = .ok (.putfield 7, 3) := by decide +kernel
theorem dX9_init_12 : decode cX9_init 12 = .ok (.aload_n 0, 1) := by decide +kernel
theorem dX9_init_13 : decode cX9_init 13 = .ok (.bipush 8, 2) := by decide +kernel
theorem dX9_init_15 : decode cX9_init 15 = .ok (.newarray .int, 2) := by decide +kernel
theorem dX9_init_17 : decode cX9_init 17 = .ok (.putfield 13, 3) := by decide +kernel
theorem dX9_init_20 : decode cX9_init 20 = .ok (.aload_n 0, 1) := by decide +kernel
theorem dX9_init_21 : decode cX9_init 21 = .ok (.bipush 8, 2) := by decide +kernel
theorem dX9_init_23 : decode cX9_init 23 = .ok (.newarray .int, 2) := by decide +kernel
theorem dX9_init_25 : decode cX9_init 25 = .ok (.putfield 16, 3) := by decide +kernel
theorem dX9_init_28 : decode cX9_init 28 = .ok (.aload_n 0, 1) := by decide +kernel
theorem dX9_init_29 : decode cX9_init 29 = .ok (.bipush 7, 2) := by decide +kernel
theorem dX9_init_31 : decode cX9_init 31 = .ok (.newarray .int, 2) := by decide +kernel
theorem dX9_init_33 : decode cX9_init 33 = .ok (.putfield 19, 3) := by decide +kernel
theorem dX9_init_36 : decode cX9_init 36 = .ok (.aload_n 0, 1) := by decide +kernel
theorem dX9_init_37 : decode cX9_init 37 = .ok (.bipush 7, 2) := by decide +kernel
theorem dX9_init_39 : decode cX9_init 39 = .ok (.newarray .int, 2) := by decide +kernel
theorem dX9_init_41 : decode cX9_init 41 = .ok (.putfield 22, 3) := by decide +kernel
theorem dX9_init_44 : decode cX9_init 44 = .ok (.aload_n 0, 1) := by decide +kernel
theorem dX9_init_45 : decode cX9_init 45 = .ok (.bipush 7, 2) := by decide +kernel
theorem dX9_init_47 : decode cX9_init 47 = .ok (.newarray .int, 2) := by decide +kernel
theorem dX9_init_49 : decode cX9_init 49 = .ok (.putfield 25, 3) := by decide +kernel
theorem dX9_init_52 : decode cX9_init 52 = .ok (.aload_n 0, 1) := by decide +kernel
theorem dX9_init_53 : decode cX9_init 53 = .ok (.bipush 7, 2) := by decide +kernel
theorem dX9_init_55 : decode cX9_init 55 = .ok (.newarray .int, 2) := by decide +kernel
theorem dX9_init_57 : decode cX9_init 57 = .ok (.putfield 28, 3) := by decide +kernel
theorem dX9_init_60 : decode cX9_init 60 = .ok (.aload_n 0, 1) := by decide +kernel
theorem dX9_init_61 : decode cX9_init 61 = .ok (.bipush 56, 2) := by decide +kernel
theorem dX9_init_63 : decode cX9_init 63 = .ok (.newarray .int, 2) := by decide +kernel
theorem dX9_init_65 : decode cX9_init 65 = .ok (.putfield 31, 3) := by decide +kernel
theorem dX9_init_68 : decode cX9_init 68 = .ok (.aload_n 0, 1) := by decide +kernel
theorem dX9_init_69 : decode cX9_init 69 = .ok (.sipush 880, 3) := by decide +kernel
theorem dX9_init_72 : decode cX9_init 72 = .ok (.newarray .int, 2) := by decide +kernel
theorem dX9_init_74 : decode cX9_init 74 = .ok (.putfield 34, 3) := by decide +kernel
theorem dX9_init_77 : decode cX9_init 77 = .ok (.aload_n 0, 1) := by decide +kernel
theorem dX9_init_78 : decode cX9_init 78 = .ok (.bipush 8, 2) := by decide +kernel
theorem dX9_init_80 : decode cX9_init 80 = .ok (.newarray .int, 2) := by decide +kernel
theorem dX9_init_82 : decode cX9_init 82 = .ok (.putfield 37, 3) := by decide +kernel
theorem dX9_init_85 : decode cX9_init 85 = .ok (.aload_n 0, 1) := by decide +kernel
theorem dX9_init_86 : decode cX9_init 86 = .ok (.sipush 256, 3) := by decide +kernel
theorem dX9_init_89 : decode cX9_init 89 = .ok (.newarray .int, 2) := by decide +kernel
theorem dX9_init_91 : decode cX9_init 91 = .ok (.putfield 40, 3) := by decide +kernel
theorem dX9_init_94 : decode cX9_init 94 = .ok (.aload_n 0, 1) := by decide +kernel
theorem dX9_init_95 : decode cX9_init 95 = .ok (.sipush 256, 3) := by decide +kernel
theorem dX9_init_98 : decode cX9_init 98 = .ok (.newarray .int, 2) := by decide +kernel
theorem dX9_init_100 : decode cX9_init 100 = .ok (.putfield 43, 3) := by decide +kernel
theorem dX9_init_103 : decode cX9_init 103 = .ok (.aload_n 0, 1) := by decide +kernel
theorem dX9_init_104 : decode cX9_init 104 = .ok (.bipush 8, 2) := by decide +kernel
theorem dX9_init_106 : decode cX9_init 106 = .ok (.newarray .int, 2) := by decide +kernel
theorem dX9_init_108 : decode cX9_init 108 = .ok (.putfield 46, 3) := by decide +kernel
theorem dX9_init_111 : decode cX9_init 111 = .ok (.aload_n 0, 1) := by decide +kernel
theorem dX9_init_112 : decode cX9_init 112 = .ok (.bipush 7, 2) := by decide +kernel
theorem dX9_init_114 : decode cX9_init 114 = .ok (.newarray .int, 2) := by decide +kernel
theorem dX9_init_116 : decode cX9_init 116 = .ok (.putfield 49, 3) := by decide +kernel
theorem dX9_init_119 : decode cX9_init 119 = .ok (.aload_n 0, 1) := by decide +kernel
theorem dX9_init_120 : decode cX9_init 120 = .ok (.sipush 256, 3) := by decide +kernel
theorem dX9_init_123 : decode cX9_init 123 = .ok (.newarray .int, 2) := by decide +kernel
theorem dX9_init_125 : decode cX9_init 125 = .ok (.putfield 52, 3) := by decide +kernel
theorem dX9_init_128 : decode cX9_init 128 = .ok (.aload_n 0, 1) := by decide +kernel
theorem dX9_init_129 : decode cX9_init 129 = .ok (.bipush 8, 2) := by decide +kernel
theorem dX9_init_131 : decode cX9_init 131 = .ok (.newarray .int, 2) := by decide +kernel
theorem dX9_init_133 : decode cX9_init 133 = .ok (.putfield 55, 3) := by decide +kernel
theorem dX9_init_136 : decode cX9_init 136 = .ok (.return_, 1) := by decide +kernel
theorem dX9_in_0 : decode cX9_in 0 = .ok (.iload_n 0, 1) := by decide +kernel
theorem dX9_in_1 : decode cX9_in 1 = .ok (.iload_n 1, 1) := by decide +kernel
theorem dX9_in_2 : decode cX9_in 2 = .ok (.if_icmp .lt 12, 3) := by decide +kernel
theorem dX9_in_5 : decode cX9_in 5 = .ok (.iload_n 0, 1) := by decide +kernel
theorem dX9_in_6 : decode cX9_in 6 = .ok (.iload_n 2, 1) := by decide +kernel
theorem dX9_in_7 : decode cX9_in 7 = .ok (.if_icmp .gt 7, 3) := by decide +kernel
theorem dX9_in_10 : decode cX9_in 10 = .ok (.iconst 1, 1) := by decide +kernel
theorem dX9_in_11 : decode cX9_in 11 = .ok (.goto 4, 3) := by decide +kernel
theorem dX9_in_14 : decode cX9_in 14 = .ok (.iconst 0, 1) := by decide +kernel
theorem dX9_in_15 : decode cX9_in 15 = .ok (.ireturn, 1) := by decide +kernel
theorem dX9_write_0 : decode cX9_write 0 = .ok (.iconst 0, 1) := by decide +kernel
theorem dX9_write_1 : decode cX9_write 1 = .ok (.istore_n 3, 1) := by decide +kernel
theorem dX9_write_2 : decode cX9_write 2 = .ok (.iload_n 3, 1) := by decide +kernel
theorem dX9_write_3 : decode cX9_write 3 = .ok (.iload_n 2, 1) := by decide +kernel
theorem dX9_write_4 : decode cX9_write 4 = .ok (.if_icmp .ge 31, 3) := by decide +kernel
theorem dX9_write_7 : decode cX9_write 7 = .ok (.aload_n 0, 1) := by decide +kernel
theorem dX9_write_8 : decode cX9_write 8 = .ok (.getfield 34, 3) := by decide +kernel
theorem dX9_write_11 : decode cX9_write 11 = .ok (.aload_n 0, 1) := by decide +kernel
theorem dX9_write_12 : decode cX9_write 12 = .ok (.getfield 62, 3) := by decide +kernel
theorem dX9_write_15 : decode cX9_write 15 = .ok (.aload_n 1, 1) := by decide +kernel
theorem dX9_write_16 : decode cX9_write 16 = .ok (.iload_n 3, 1) := by decide +kernel
theorem dX9_write_17 : decode cX9_write 17 = .ok (.iaload, 1) := by decide +kernel
theorem dX9_write_18 : decode cX9_write 18 = .ok (.iastore, 1) := by decide +kernel
theorem dX9_write_19 : decode cX9_write 19 = .ok (.aload_n 0, 1) := by decide +kernel
theorem dX9_write_20 : decode cX9_write 20 = .ok (.dup, 1) := by decide +kernel
theorem dX9_write_21 : decode cX9_write 21 = .ok (.getfield 62, 3) := by decide +kernel
theorem dX9_write_24 : decode cX9_write 24 = .ok (.iconst 1, 1) := by decide +kernel
theorem dX9_write_25 : decode cX9_write 25 = .ok (.iadd, 1) := by decide +kernel
theorem dX9_write_26 : decode cX9_write 26 = .ok (.putfield 62, 3) := by decide +kernel
theorem dX9_write_29 : decode cX9_write 29 = .ok (.iinc 3 1, 3) := by decide +kernel
theorem dX9_write_32 : decode cX9_write 32 = .ok (.goto (-30), 3) := by decide +kernel
theorem dX9_write_35 : decode cX9_write 35 = .ok (.return_, 1) := by decide +kernel
theorem dX9_read_0 : decode cX9_read 0 = .ok (.iconst 0, 1) := by decide +kernel
theorem dX9_read_1 : decode cX9_read 1 = .ok (.istore_n 3, 1) := by decide +kernel
theorem dX9_read_2 : decode cX9_read 2 = .ok (.iload_n 3, 1) := by decide +kernel
theorem dX9_read_3 : decode cX9_read 3 = .ok (.iload_n 2, 1) := by decide +kernel
theorem dX9_read_4 : decode cX9_read 4 = .ok (.if_icmp .ge 31, 3) := by decide +kernel
theorem dX9_read_7 : decode cX9_read 7 = .ok (.aload_n 1, 1) := by decide +kernel
theorem dX9_read_8 : decode cX9_read 8 = .ok (.iload_n 3, 1) := by decide +kernel
theorem dX9_read_9 : decode cX9_read 9 = .ok (.aload_n 0, 1) := by decide +kernel
theorem dX9_read_10 : decode cX9_read 10 = .ok (.getfield 34, 3) := by decide +kernel
theorem dX9_read_13 : decode cX9_read 13 = .ok (.aload_n 0, 1) := by decide +kernel
theorem dX9_read_14 : decode cX9_read 14 = .ok (.getfield 62, 3) := by decide +kernel
theorem dX9_read_17 : decode cX9_read 17 = .ok (.iaload, 1) := by decide +kernel
theorem dX9_read_18 : decode cX9_read 18 = .ok (.iastore, 1) := by decide +kernel
theorem dX9_read_19 : decode cX9_read 19 = .ok (.aload_n 0, 1) := by decide +kernel
theorem dX9_read_20 : decode cX9_read 20 = .ok (.dup, 1) := by decide +kernel
theorem dX9_read_21 : decode cX9_read 21 = .ok (.getfield 62, 3) := by decide +kernel
theorem dX9_read_24 : decode cX9_read 24 = .ok (.iconst 1, 1) := by decide +kernel
theorem dX9_read_25 : decode cX9_read 25 = .ok (.iadd, 1) := by decide +kernel
theorem dX9_read_26 : decode cX9_read 26 = .ok (.putfield 62, 3) := by decide +kernel
theorem dX9_read_29 : decode cX9_read 29 = .ok (.iinc 3 1, 3) := by decide +kernel
theorem dX9_read_32 : decode cX9_read 32 = .ok (.goto (-30), 3) := by decide +kernel
theorem dX9_read_35 : decode cX9_read 35 = .ok (.return_, 1) := by decide +kernel
set_option maxRecDepth 20000 in
theorem ggX9_keep_X9_write : GoodIn wsX9_keep wsX9_write := goodIn_r _ [19, 3, 2, 20, 21, 22, 23, 24, 25, 26, 27, 28, 29, 30, 31, 32, 33, 34, 35, 36, 37, 38, 39, 40, 41, 42, 43, 44, 45, 46, 47] (by decide +kernel) (by decide +kernel)
set_option maxRecDepth 20000 in
theorem gX9_keep_X9_write : GoodIn wsX9_keep (wsV RX9 74 RX9 yX9_write wsX9_write) := goodIn_app (goodIn_of _ (by decide +kernel)) ggX9_keep_X9_write
theorem dX9_keep_0 : decode cX9_keep 0 = .ok (.aload_n 0, 1) := by decide +kernel
theorem dX9_keep_1 : decode cX9_keep 1 = .ok (.bipush 110, 2) := by decide +kernel
theorem dX9_keep_3 : decode cX9_keep 3 = .ok (.aload_n 0, 1) := by decide +kernel
theorem dX9_keep_4 : decode cX9_keep 4 = .ok (.getfield 65, 3) := by decide +kernel
theorem dX9_keep_7 : decode cX9_keep 7 = .ok (.imul, 1) := by decide +kernel
theorem dX9_keep_8 : decode cX9_keep 8 = .ok (.putfield 62, 3) := by decide +kernel
theorem dX9_keep_11 : decode cX9_keep 11 = .ok (.aload_n 0, 1) := by decide +kernel
theorem dX9_keep_12 : decode cX9_keep 12 = .ok (.getfield 34, 3) := by decide +kernel
theorem dX9_keep_15 : decode cX9_keep 15 = .ok (.aload_n 0, 1) := by decide +kernel
theorem dX9_keep_16 : decode cX9_keep 16 = .ok (.getfield 62, 3) := by decide +kernel
theorem dX9_keep_19 : decode cX9_keep 19 = .ok (.aload_n 0, 1) := by decide +kernel
theorem dX9_keep_20 : decode cX9_keep 20 = .ok (.getfield 68, 3) := by decide +kernel
theorem dX9_keep_23 : decode cX9_keep 23 = .ok (.iastore, 1) := by decide +kernel
theorem dX9_keep_24 : decode cX9_keep 24 = .ok (.aload_n 0, 1) := by decide +kernel
theorem dX9_keep_25 : decode cX9_keep 25 = .ok (.getfield 34, 3) := by decide +kernel
theorem dX9_keep_28 : decode cX9_keep 28 = .ok (.aload_n 0, 1) := by decide +kernel
theorem dX9_keep_29 : decode cX9_keep 29 = .ok (.getfield 62, 3) := by decide +kernel
theorem dX9_keep_32 : decode cX9_keep 32 = .ok (.iconst 1, 1) := by decide +kernel
theorem dX9_keep_33 : decode cX9_keep 33 = .ok (.iadd, 1) := by decide +kernel
theorem dX9_keep_34 : decode cX9_keep 34 = .ok (.aload_n 0, 1) := by decide +kernel
theorem dX9_keep_35 : decode cX9_keep 35 = .ok (.getfield 71, 3) := by decide +kernel
theorem dX9_keep_38 : decode cX9_keep 38 = .ok (.iastore, 1) := by decide +kernel
theorem dX9_keep_39 : decode cX9_keep 39 = .ok (.aload_n 0, 1) := by decide +kernel
theorem dX9_keep_40 : decode cX9_keep 40 = .ok (.dup, 1) := by decide +kernel
theorem dX9_keep_41 : decode cX9_keep 41 = .ok (.getfield 62, 3) := by decide +kernel
theorem dX9_keep_44 : decode cX9_keep 44 = .ok (.iconst 2, 1) := by decide +kernel
theorem dX9_keep_45 : decode cX9_keep 45 = .ok (.iadd, 1) := by decide +kernel
theorem dX9_keep_46 : decode cX9_keep 46 = .ok (.putfield 62, 3) := by decide +kernel
theorem dX9_keep_49 : decode cX9_keep 49 = .ok (.aload_n 0, 1) := by decide +kernel
theorem dX9_keep_50 : decode cX9_keep 50 = .ok (.aload_n 0, 1) := by decide +kernel
theorem dX9_keep_51 : decode cX9_keep 51 = .ok (.getfield 7, 3) := by decide +kernel
theorem dX9_keep_54 : decode cX9_keep 54 = .ok (.bipush 8, 2) := by decide +kernel
theorem dX9_keep_56 : decode cX9_keep 56 = .ok (.invokevirtual 74, 3) := by decide +kernel
theorem dX9_keep_59 : decode cX9_keep 59 = .ok (.aload_n 0, 1) := by decide +kernel
theorem dX9_keep_60 : decode cX9_keep 60 = .ok (.aload_n 0, 1) := by decide +kernel
theorem dX9_keep_61 : decode cX9_keep 61 = .ok (.getfield 13, 3) := by decide +kernel
theorem dX9_keep_64 : decode cX9_keep 64 = .ok (.bipush 8, 2) := by decide +kernel
theorem dX9_keep_66 : decode cX9_keep 66 = .ok (.invokevirtual 74, 3) := by decide +kernel
theorem dX9_keep_69 : decode cX9_keep 69 = .ok (.aload_n 0, 1) := by decide +kernel
theorem dX9_keep_70 : decode cX9_keep 70 = .ok (.aload_n 0, 1) := by decide +kernel
theorem dX9_keep_71 : decode cX9_keep 71 = .ok (.getfield 16, 3) := by decide +kernel
theorem dX9_keep_74 : decode cX9_keep 74 = .ok (.bipush 8, 2) := by decide +kernel
theorem dX9_keep_76 : decode cX9_keep 76 = .ok (.invokevirtual 74, 3) := by decide +kernel
theorem dX9_keep_79 : decode cX9_keep 79 = .ok (.aload_n 0, 1) := by decide +kernel
theorem dX9_keep_80 : decode cX9_keep 80 = .ok (.aload_n 0, 1) := by decide +kernel
theorem dX9_keep_81 : decode cX9_keep 81 = .ok (.getfield 19, 3) := by decide +kernel
theorem dX9_keep_84 : decode cX9_keep 84 = .ok (.bipush 7, 2) := by decide +kernel
theorem dX9_keep_86 : decode cX9_keep 86 = .ok (.invokevirtual 74, 3) := by decide +kernel
theorem dX9_keep_89 : decode cX9_keep 89 = .ok (.aload_n 0, 1) := by decide +kernel
theorem dX9_keep_90 : decode cX9_keep 90 = .ok (.aload_n 0, 1) := by decide +kernel
theorem dX9_keep_91 : decode cX9_keep 91 = .ok (.getfield 22, 3) := by decide +kernel
theorem dX9_keep_94 : decode cX9_keep 94 = .ok (.bipush 7, 2) := by decide +kernel
theorem dX9_keep_96 : decode cX9_keep 96 = .ok (.invokevirtual 74, 3) := by decide +kernel
theorem dX9_keep_99 : decode cX9_keep 99 = .ok (.aload_n 0, 1) := by decide +kernel
theorem dX9_keep_100 : decode cX9_keep 100 = .ok (.aload_n 0, 1) := by decide +kernel
theorem dX9_keep_101 : decode cX9_keep 101 = .ok (.getfield 25, 3) := by decide +kernel
theorem dX9_keep_104 : decode cX9_keep 104 = .ok (.bipush 7, 2) := by decide +kernel
theorem dX9_keep_106 : decode cX9_keep 106 = .ok (.invokevirtual 74, 3) := by decide +kernel
theorem dX9_keep_109 : decode cX9_keep 109 = .ok (.aload_n 0, 1) := by decide +kernel
theorem dX9_keep_110 : decode cX9_keep 110 = .ok (.aload_n 0, 1) := by decide +kernel
theorem dX9_keep_111 : decode cX9_keep 111 = .ok (.getfield 28, 3) := by decide +kernel
theorem dX9_keep_114 : decode cX9_keep 114 = .ok (.bipush 7, 2) := by decide +kernel
theorem dX9_keep_116 : decode cX9_keep 116 = .ok (.invokevirtual 74, 3) := by decide +kernel
theorem dX9_keep_119 : decode cX9_keep 119 = .ok (.aload_n 0, 1) := by decide +kernel
theorem dX9_keep_120 : decode cX9_keep 120 = .ok (.aload_n 0, 1) := by decide +kernel
theorem dX9_keep_121 : decode cX9_keep 121 = .ok (.getfield 31, 3) := by decide +kernel
theorem dX9_keep_124 : decode cX9_keep 124 = .ok (.bipush 56, 2) := by decide +kernel
theorem dX9_keep_126 : decode cX9_keep 126 = .ok (.invokevirtual 74, 3) := by decide +kernel
theorem dX9_keep_129 : decode cX9_keep 129 = .ok (.aload_n 0, 1) := by decide +kernel
theorem dX9_keep_130 : decode cX9_keep 130 = .ok (.aload_n 0, 1) := by decide +kernel
theorem dX9_keep_131 : decode cX9_keep 131 = .ok (.getfield 65, 3) := by decide +kernel
theorem dX9_keep_134 : decode cX9_keep 134 = .ok (.iconst 1, 1) := by decide +kernel
theorem dX9_keep_135 : decode cX9_keep 135 = .ok (.iadd, 1) := by decide +kernel
theorem dX9_keep_136 : decode cX9_keep 136 = .ok (.bipush 8, 2) := by decide +kernel
theorem dX9_keep_138 : decode cX9_keep 138 = .ok (.irem, 1) := by decide +kernel
theorem dX9_keep_139 : decode cX9_keep 139 = .ok (.putfield 65, 3) := by decide +kernel
theorem dX9_keep_142 : decode cX9_keep 142 = .ok (.aload_n 0, 1) := by decide +kernel
theorem dX9_keep_143 : decode cX9_keep 143 = .ok (.aload_n 0, 1) := by decide +kernel
theorem dX9_keep_144 : decode cX9_keep 144 = .ok (.getfield 78, 3) := by decide +kernel
theorem dX9_keep_147 : decode cX9_keep 147 = .ok (.bipush 8, 2) := by decide +kernel
theorem dX9_keep_149 : decode cX9_keep 149 = .ok (.if_icmp .ge 12, 3) := by decide +kernel
theorem dX9_keep_152 : decode cX9_keep 152 = .ok (.aload_n 0, 1) := by decide +kernel
theorem dX9_keep_153 : decode cX9_keep 153 = .ok (.getfield 78, 3) := by decide +kernel
theorem dX9_keep_156 : decode cX9_keep 156 = .ok (.iconst 1, 1) := by decide +kernel
theorem dX9_keep_157 : decode cX9_keep 157 = .ok (.iadd, 1) := by decide +kernel
theorem dX9_keep_158 : decode cX9_keep 158 = .ok (.goto 5, 3) := by decide +kernel
theorem dX9_keep_161 : decode cX9_keep 161 = .ok (.bipush 8, 2) := by decide +kernel
theorem dX9_keep_163 : decode cX9_keep 163 = .ok (.putfield 78, 3) := by decide +kernel
theorem dX9_keep_166 : decode cX9_keep 166 = .ok (.return_, 1) := by decide +kernel
set_option maxRecDepth 20000 in
theorem ggX9_undo_X9_read : GoodIn wsX9_undo wsX9_read := goodIn_r _ [22, 5, 4, 27, 28, 29, 30, 31, 32, 33, 34, 35, 36, 37, 38, 39, 40, 41, 42, 43, 44, 45, 46, 47, 48, 49, 50, 51, 52, 53, 54] (by decide +kernel) (by decide +kernel)
set_option maxRecDepth 20000 in
theorem gX9_undo_X9_read : GoodIn wsX9_undo (wsV RX9 81 RX9 yX9_read wsX9_read) := goodIn_app (goodIn_of _ (by decide +kernel)) ggX9_undo_X9_read
set_option maxRecDepth 20000 in
theorem ggX9_undo_X9_allHalls : GoodIn wsX9_undo wsX9_allHalls := goodIn_r _ [26, 7, 27, 28, 29, 30, 31, 32, 33, 34, 35, 36, 37, 38, 39, 40, 41, 42, 43, 44, 45, 46, 47, 48, 49, 50, 51, 52, 53, 54] (by decide +kernel) (by decide +kernel)
set_option maxRecDepth 20000 in
theorem gX9_undo_X9_allHalls : GoodIn wsX9_undo (wsV RX9 87 RX9 yX9_allHalls wsX9_allHalls) := goodIn_app (goodIn_of _ (by decide +kernel)) ggX9_undo_X9_allHalls
theorem dX9_undo_0 : decode cX9_undo 0 = .ok (.aload_n 0, 1) := by decide +kernel
theorem dX9_undo_1 : decode cX9_undo 1 = .ok (.iconst 0, 1) := by decide +kernel
theorem dX9_undo_2 : decode cX9_undo 2 = .ok (.putfield 58, 3) := by decide +kernel
theorem dX9_undo_5 : decode cX9_undo 5 = .ok (.aload_n 0, 1) := by decide +kernel
theorem dX9_undo_6 : decode cX9_undo 6 = .ok (.getfield 78, 3) := by decide +kernel
theorem dX9_undo_9 : decode cX9_undo 9 = .ok (.ifCond .ne 6, 3) := by decide +kernel
theorem dX9_undo_12 : decode cX9_undo 12 = .ok (.bipush (-4), 2) := by decide +kernel
theorem dX9_undo_14 : decode cX9_undo 14 = .ok (.ireturn, 1) := by decide +kernel
theorem dX9_undo_15 : decode cX9_undo 15 = .ok (.aload_n 0, 1) := by decide +kernel
theorem dX9_undo_16 : decode cX9_undo 16 = .ok (.aload_n 0, 1) := by decide +kernel
theorem dX9_undo_17 : decode cX9_undo 17 = .ok (.getfield 65, 3) := by decide +kernel
theorem dX9_undo_20 : decode cX9_undo 20 = .ok (.bipush 8, 2) := by decide +kernel
theorem dX9_undo_22 : decode cX9_undo 22 = .ok (.iadd, 1) := by decide +kernel
theorem dX9_undo_23 : decode cX9_undo 23 = .ok (.iconst 1, 1) := by decide +kernel
theorem dX9_undo_24 : decode cX9_undo 24 = .ok (.isub, 1) := by decide +kernel
theorem dX9_undo_25 : decode cX9_undo 25 = .ok (.bipush 8, 2) := by decide +kernel
theorem dX9_undo_27 : decode cX9_undo 27 = .ok (.irem, 1) := by decide +kernel
theorem dX9_undo_28 : decode cX9_undo 28 = .ok (.putfield 65, 3) := by decide +kernel
theorem dX9_undo_31 : decode cX9_undo 31 = .ok (.aload_n 0, 1) := by decide +kernel
theorem dX9_undo_32 : decode cX9_undo 32 = .ok (.dup, 1) := by decide +kernel
theorem dX9_undo_33 : decode cX9_undo 33 = .ok (.getfield 78, 3) := by decide +kernel
theorem dX9_undo_36 : decode cX9_undo 36 = .ok (.iconst 1, 1) := by decide +kernel
theorem dX9_undo_37 : decode cX9_undo 37 = .ok (.isub, 1) := by decide +kernel
theorem dX9_undo_38 : decode cX9_undo 38 = .ok (.putfield 78, 3) := by decide +kernel
theorem dX9_undo_41 : decode cX9_undo 41 = .ok (.aload_n 0, 1) := by decide +kernel
theorem dX9_undo_42 : decode cX9_undo 42 = .ok (.bipush 110, 2) := by decide +kernel
theorem dX9_undo_44 : decode cX9_undo 44 = .ok (.aload_n 0, 1) := by decide +kernel
theorem dX9_undo_45 : decode cX9_undo 45 = .ok (.getfield 65, 3) := by decide +kernel
theorem dX9_undo_48 : decode cX9_undo 48 = .ok (.imul, 1) := by decide +kernel
theorem dX9_undo_49 : decode cX9_undo 49 = .ok (.putfield 62, 3) := by decide +kernel
theorem dX9_undo_52 : decode cX9_undo 52 = .ok (.aload_n 0, 1) := by decide +kernel
theorem dX9_undo_53 : decode cX9_undo 53 = .ok (.aload_n 0, 1) := by decide +kernel
theorem dX9_undo_54 : decode cX9_undo 54 = .ok (.getfield 34, 3) := by decide +kernel
theorem dX9_undo_57 : decode cX9_undo 57 = .ok (.aload_n 0, 1) := by decide +kernel
theorem dX9_undo_58 : decode cX9_undo 58 = .ok (.getfield 62, 3) := by decide +kernel
theorem dX9_undo_61 : decode cX9_undo 61 = .ok (.iaload, 1) := by decide +kernel
theorem dX9_undo_62 : decode cX9_undo 62 = .ok (.putfield 68, 3) := by decide +kernel
theorem dX9_undo_65 : decode cX9_undo 65 = .ok (.aload_n 0, 1) := by decide +kernel
theorem dX9_undo_66 : decode cX9_undo 66 = .ok (.aload_n 0, 1) := by decide +kernel
theorem dX9_undo_67 : decode cX9_undo 67 = .ok (.getfield 34, 3) := by decide +kernel
theorem dX9_undo_70 : decode cX9_undo 70 = .ok (.aload_n 0, 1) := by decide +kernel
theorem dX9_undo_71 : decode cX9_undo 71 = .ok (.getfield 62, 3) := by decide +kernel
theorem dX9_undo_74 : decode cX9_undo 74 = .ok (.iconst 1, 1) := by decide +kernel
theorem dX9_undo_75 : decode cX9_undo 75 = .ok (.iadd, 1) := by decide +kernel
theorem dX9_undo_76 : decode cX9_undo 76 = .ok (.iaload, 1) := by decide +kernel
theorem dX9_undo_77 : decode cX9_undo 77 = .ok (.putfield 71, 3) := by decide +kernel
theorem dX9_undo_80 : decode cX9_undo 80 = .ok (.aload_n 0, 1) := by decide +kernel
theorem dX9_undo_81 : decode cX9_undo 81 = .ok (.dup, 1) := by decide +kernel
theorem dX9_undo_82 : decode cX9_undo 82 = .ok (.getfield 62, 3) := by decide +kernel
theorem dX9_undo_85 : decode cX9_undo 85 = .ok (.iconst 2, 1) := by decide +kernel
theorem dX9_undo_86 : decode cX9_undo 86 = .ok (.iadd, 1) := by decide +kernel
theorem dX9_undo_87 : decode cX9_undo 87 = .ok (.putfield 62, 3) := by decide +kernel
theorem dX9_undo_90 : decode cX9_undo 90 = .ok (.aload_n 0, 1) := by decide +kernel
theorem dX9_undo_91 : decode cX9_undo 91 = .ok (.aload_n 0, 1) := by decide +kernel
theorem dX9_undo_92 : decode cX9_undo 92 = .ok (.getfield 7, 3) := by decide +kernel
theorem dX9_undo_95 : decode cX9_undo 95 = .ok (.bipush 8, 2) := by decide +kernel
theorem dX9_undo_97 : decode cX9_undo 97 = .ok (.invokevirtual 81, 3) := by decide +kernel
theorem dX9_undo_100 : decode cX9_undo 100 = .ok (.aload_n 0, 1) := by decide +kernel
theorem dX9_undo_101 : decode cX9_undo 101 = .ok (.aload_n 0, 1) := by decide +kernel
theorem dX9_undo_102 : decode cX9_undo 102 = .ok (.getfield 13, 3) := by decide +kernel
theorem dX9_undo_105 : decode cX9_undo 105 = .ok (.bipush 8, 2) := by decide +kernel
theorem dX9_undo_107 : decode cX9_undo 107 = .ok (.invokevirtual 81, 3) := by decide +kernel
theorem dX9_undo_110 : decode cX9_undo 110 = .ok (.aload_n 0, 1) := by decide +kernel
theorem dX9_undo_111 : decode cX9_undo 111 = .ok (.aload_n 0, 1) := by decide +kernel
theorem dX9_undo_112 : decode cX9_undo 112 = .ok (.getfield 16, 3) := by decide +kernel
theorem dX9_undo_115 : decode cX9_undo 115 = .ok (.bipush 8, 2) := by decide +kernel
theorem dX9_undo_117 : decode cX9_undo 117 = .ok (.invokevirtual 81, 3) := by decide +kernel
theorem dX9_undo_120 : decode cX9_undo 120 = .ok (.aload_n 0, 1) := by decide +kernel
theorem dX9_undo_121 : decode cX9_undo 121 = .ok (.aload_n 0, 1) := by decide +kernel
theorem dX9_undo_122 : decode cX9_undo 122 = .ok (.getfield 19, 3) := by decide +kernel
theorem dX9_undo_125 : decode cX9_undo 125 = .ok (.bipush 7, 2) := by decide +kernel
theorem dX9_undo_127 : decode cX9_undo 127 = .ok (.invokevirtual 81, 3) := by decide +kernel
theorem dX9_undo_130 : decode cX9_undo 130 = .ok (.aload_n 0, 1) := by decide +kernel
theorem dX9_undo_131 : decode cX9_undo 131 = .ok (.aload_n 0, 1) := by decide +kernel
theorem dX9_undo_132 : decode cX9_undo 132 = .ok (.getfield 22, 3) := by decide +kernel
theorem dX9_undo_135 : decode cX9_undo 135 = .ok (.bipush 7, 2) := by decide +kernel
theorem dX9_undo_137 : decode cX9_undo 137 = .ok (.invokevirtual 81, 3) := by decide +kernel
theorem dX9_undo_140 : decode cX9_undo 140 = .ok (.aload_n 0, 1) := by decide +kernel
theorem dX9_undo_141 : decode cX9_undo 141 = .ok (.aload_n 0, 1) := by decide +kernel
theorem dX9_undo_142 : decode cX9_undo 142 = .ok (.getfield 25, 3) := by decide +kernel
theorem dX9_undo_145 : decode cX9_undo 145 = .ok (.bipush 7, 2) := by decide +kernel
theorem dX9_undo_147 : decode cX9_undo 147 = .ok (.invokevirtual 81, 3) := by decide +kernel
theorem dX9_undo_150 : decode cX9_undo 150 = .ok (.aload_n 0, 1) := by decide +kernel
theorem dX9_undo_151 : decode cX9_undo 151 = .ok (.aload_n 0, 1) := by decide +kernel
theorem dX9_undo_152 : decode cX9_undo 152 = .ok (.getfield 28, 3) := by decide +kernel
theorem dX9_undo_155 : decode cX9_undo 155 = .ok (.bipush 7, 2) := by decide +kernel
theorem dX9_undo_157 : decode cX9_undo 157 = .ok (.invokevirtual 81, 3) := by decide +kernel
theorem dX9_undo_160 : decode cX9_undo 160 = .ok (.aload_n 0, 1) := by decide +kernel
theorem dX9_undo_161 : decode cX9_undo 161 = .ok (.aload_n 0, 1) := by decide +kernel
theorem dX9_undo_162 : decode cX9_undo 162 = .ok (.getfield 31, 3) := by decide +kernel
theorem dX9_undo_165 : decode cX9_undo 165 = .ok (.bipush 56, 2) := by decide +kernel
theorem dX9_undo_167 : decode cX9_undo 167 = .ok (.invokevirtual 81, 3) := by decide +kernel
theorem dX9_undo_170 : decode cX9_undo 170 = .ok (.aload_n 0, 1) := by decide +kernel
theorem dX9_undo_171 : decode cX9_undo 171 = .ok (.dup, 1) := by decide +kernel
theorem dX9_undo_172 : decode cX9_undo 172 = .ok (.getfield 84, 3) := by decide +kernel
theorem dX9_undo_175 : decode cX9_undo 175 = .ok (.aload_n 0, 1) := by decide +kernel
theorem dX9_undo_176 : decode cX9_undo 176 = .ok (.invokevirtual 87, 3) := by decide +kernel
theorem dX9_undo_179 : decode cX9_undo 179 = .ok (.iand, 1) := by decide +kernel
theorem dX9_undo_180 : decode cX9_undo 180 = .ok (.putfield 84, 3) := by decide +kernel
theorem dX9_undo_183 : decode cX9_undo 183 = .ok (.aload_n 0, 1) := by decide +kernel
theorem dX9_undo_184 : decode cX9_undo 184 = .ok (.getfield 68, 3) := by decide +kernel
theorem dX9_undo_187 : decode cX9_undo 187 = .ok (.istore_n 1, 1) := by decide +kernel
theorem dX9_undo_188 : decode cX9_undo 188 = .ok (.iload_n 1, 1) := by decide +kernel
theorem dX9_undo_189 : decode cX9_undo 189 = .ok (.bipush 8, 2) := by decide +kernel
theorem dX9_undo_191 : decode cX9_undo 191 = .ok (.if_icmp .ge 16, 3) := by decide +kernel
theorem dX9_undo_194 : decode cX9_undo 194 = .ok (.aload_n 0, 1) := by decide +kernel
theorem dX9_undo_195 : decode cX9_undo 195 = .ok (.getfield 37, 3) := by decide +kernel
theorem dX9_undo_198 : decode cX9_undo 198 = .ok (.iload_n 1, 1) := by decide +kernel
theorem dX9_undo_199 : decode cX9_undo 199 = .ok (.iconst 0, 1) := by decide +kernel
theorem dX9_undo_200 : decode cX9_undo 200 = .ok (.iastore, 1) := by decide +kernel
theorem dX9_undo_201 : decode cX9_undo 201 = .ok (.iinc 1 1, 3) := by decide +kernel
theorem dX9_undo_204 : decode cX9_undo 204 = .ok (.goto (-16), 3) := by decide +kernel
theorem dX9_undo_207 : decode cX9_undo 207 = .ok (.aload_n 0, 1) := by decide +kernel
theorem dX9_undo_208 : decode cX9_undo 208 = .ok (.getfield 78, 3) := by decide +kernel
theorem dX9_undo_211 : decode cX9_undo 211 = .ok (.ireturn, 1) := by decide +kernel
set_option maxRecDepth 20000 in
theorem ggX9_isTown_X9_in : GoodIn wsX9_isTown wsX9_in := goodIn_r _ [5] (by decide +kernel) (by decide +kernel)
set_option maxRecDepth 20000 in
theorem gX9_isTown_X9_in : GoodIn wsX9_isTown (va_wsS RX9 91 yX9_in wsX9_in) := goodIn_app (goodIn_of _ (by decide +kernel)) ggX9_isTown_X9_in
theorem dX9_isTown_0 : decode cX9_isTown 0 = .ok (.iload_n 1, 1) := by decide +kernel
theorem dX9_isTown_1 : decode cX9_isTown 1 = .ok (.iconst 0, 1) := by decide +kernel
theorem dX9_isTown_2 : decode cX9_isTown 2 = .ok (.aload_n 0, 1) := by decide +kernel
theorem dX9_isTown_3 : decode cX9_isTown 3 = .ok (.getfield 68, 3) := by decide +kernel
theorem dX9_isTown_6 : decode cX9_isTown 6 = .ok (.iconst 1, 1) := by decide +kernel
theorem dX9_isTown_7 : decode cX9_isTown 7 = .ok (.isub, 1) := by decide +kernel
theorem dX9_isTown_8 : decode cX9_isTown 8 = .ok (.invokestatic 91, 3) := by decide +kernel
theorem dX9_isTown_11 : decode cX9_isTown 11 = .ok (.ireturn, 1) := by decide +kernel
set_option maxRecDepth 20000 in
theorem ggX9_isHall_X9_in : GoodIn wsX9_isHall wsX9_in := goodIn_r _ [5] (by decide +kernel) (by decide +kernel)
set_option maxRecDepth 20000 in
theorem gX9_isHall_X9_in : GoodIn wsX9_isHall (va_wsS RX9 91 yX9_in wsX9_in) := goodIn_app (goodIn_of _ (by decide +kernel)) ggX9_isHall_X9_in
theorem dX9_isHall_0 : decode cX9_isHall 0 = .ok (.iload_n 1, 1) := by decide +kernel
theorem dX9_isHall_1 : decode cX9_isHall 1 = .ok (.iconst 0, 1) := by decide +kernel
theorem dX9_isHall_2 : decode cX9_isHall 2 = .ok (.aload_n 0, 1) := by decide +kernel
theorem dX9_isHall_3 : decode cX9_isHall 3 = .ok (.getfield 71, 3) := by decide +kernel
theorem dX9_isHall_6 : decode cX9_isHall 6 = .ok (.iconst 1, 1) := by decide +kernel
theorem dX9_isHall_7 : decode cX9_isHall 7 = .ok (.isub, 1) := by decide +kernel
theorem dX9_isHall_8 : decode cX9_isHall 8 = .ok (.invokestatic 91, 3) := by decide +kernel
theorem dX9_isHall_11 : decode cX9_isHall 11 = .ok (.ireturn, 1) := by decide +kernel
theorem dX9_allHalls_0 : decode cX9_allHalls 0 = .ok (.iconst 1, 1) := by decide +kernel
theorem dX9_allHalls_1 : decode cX9_allHalls 1 = .ok (.aload_n 0, 1) := by decide +kernel
theorem dX9_allHalls_2 : decode cX9_allHalls 2 = .ok (.getfield 71, 3) := by decide +kernel
theorem dX9_allHalls_5 : decode cX9_allHalls 5 = .ok (.ishl, 1) := by decide +kernel
theorem dX9_allHalls_6 : decode cX9_allHalls 6 = .ok (.iconst 1, 1) := by decide +kernel
theorem dX9_allHalls_7 : decode cX9_allHalls 7 = .ok (.isub, 1) := by decide +kernel
theorem dX9_allHalls_8 : decode cX9_allHalls 8 = .ok (.ireturn, 1) := by decide +kernel
theorem dX9_allTowns_0 : decode cX9_allTowns 0 = .ok (.iconst 1, 1) := by decide +kernel
theorem dX9_allTowns_1 : decode cX9_allTowns 1 = .ok (.aload_n 0, 1) := by decide +kernel
theorem dX9_allTowns_2 : decode cX9_allTowns 2 = .ok (.getfield 68, 3) := by decide +kernel
theorem dX9_allTowns_5 : decode cX9_allTowns 5 = .ok (.ishl, 1) := by decide +kernel
theorem dX9_allTowns_6 : decode cX9_allTowns 6 = .ok (.iconst 1, 1) := by decide +kernel
theorem dX9_allTowns_7 : decode cX9_allTowns 7 = .ok (.isub, 1) := by decide +kernel
theorem dX9_allTowns_8 : decode cX9_allTowns 8 = .ok (.ireturn, 1) := by decide +kernel
set_option maxRecDepth 20000 in
theorem ggX9_town_X9_keep : GoodIn wsX9_town wsX9_keep := goodIn_r _ [10, 11, 12, 13, 2, 14, 3, 4, 5, 15, 16, 17, 18, 19, 20, 21, 22, 23, 9, 24, 25, 26, 27, 28, 29, 30, 31, 32, 33, 34, 35, 36, 37, 38, 39, 40, 41, 42, 43, 44, 45, 46, 47, 48, 49, 50, 51, 52] (by decide +kernel) (by decide +kernel)
set_option maxRecDepth 20000 in
theorem gX9_town_X9_keep : GoodIn wsX9_town (wsV RX9 95 RX9 yX9_keep wsX9_keep) := goodIn_app (goodIn_of _ (by decide +kernel)) ggX9_town_X9_keep
theorem dX9_town_0 : decode cX9_town 0 = .ok (.aload_n 0, 1) := by decide +kernel
theorem dX9_town_1 : decode cX9_town 1 = .ok (.iconst 0, 1) := by decide +kernel
theorem dX9_town_2 : decode cX9_town 2 = .ok (.putfield 58, 3) := by decide +kernel
theorem dX9_town_5 : decode cX9_town 5 = .ok (.aload_n 0, 1) := by decide +kernel
theorem dX9_town_6 : decode cX9_town 6 = .ok (.getfield 68, 3) := by decide +kernel
theorem dX9_town_9 : decode cX9_town 9 = .ok (.bipush 8, 2) := by decide +kernel
theorem dX9_town_11 : decode cX9_town 11 = .ok (.if_icmp .ne 6, 3) := by decide +kernel
theorem dX9_town_14 : decode cX9_town 14 = .ok (.bipush (-5), 2) := by decide +kernel
theorem dX9_town_16 : decode cX9_town 16 = .ok (.ireturn, 1) := by decide +kernel
theorem dX9_town_17 : decode cX9_town 17 = .ok (.aload_n 0, 1) := by decide +kernel
theorem dX9_town_18 : decode cX9_town 18 = .ok (.invokevirtual 95, 3) := by decide +kernel
theorem dX9_town_21 : decode cX9_town 21 = .ok (.aload_n 0, 1) := by decide +kernel
theorem dX9_town_22 : decode cX9_town 22 = .ok (.getfield 7, 3) := by decide +kernel
theorem dX9_town_25 : decode cX9_town 25 = .ok (.aload_n 0, 1) := by decide +kernel
theorem dX9_town_26 : decode cX9_town 26 = .ok (.getfield 68, 3) := by decide +kernel
theorem dX9_town_29 : decode cX9_town 29 = .ok (.iconst 1, 1) := by decide +kernel
theorem dX9_town_30 : decode cX9_town 30 = .ok (.iastore, 1) := by decide +kernel
theorem dX9_town_31 : decode cX9_town 31 = .ok (.aload_n 0, 1) := by decide +kernel
theorem dX9_town_32 : decode cX9_town 32 = .ok (.getfield 13, 3) := by decide +kernel
theorem dX9_town_35 : decode cX9_town 35 = .ok (.aload_n 0, 1) := by decide +kernel
theorem dX9_town_36 : decode cX9_town 36 = .ok (.getfield 68, 3) := by decide +kernel
theorem dX9_town_39 : decode cX9_town 39 = .ok (.iconst 0, 1) := by decide +kernel
theorem dX9_town_40 : decode cX9_town 40 = .ok (.iastore, 1) := by decide +kernel
theorem dX9_town_41 : decode cX9_town 41 = .ok (.aload_n 0, 1) := by decide +kernel
theorem dX9_town_42 : decode cX9_town 42 = .ok (.getfield 16, 3) := by decide +kernel
theorem dX9_town_45 : decode cX9_town 45 = .ok (.aload_n 0, 1) := by decide +kernel
theorem dX9_town_46 : decode cX9_town 46 = .ok (.getfield 68, 3) := by decide +kernel
theorem dX9_town_49 : decode cX9_town 49 = .ok (.iconst 0, 1) := by decide +kernel
theorem dX9_town_50 : decode cX9_town 50 = .ok (.iastore, 1) := by decide +kernel
theorem dX9_town_51 : decode cX9_town 51 = .ok (.aload_n 0, 1) := by decide +kernel
theorem dX9_town_52 : decode cX9_town 52 = .ok (.dup, 1) := by decide +kernel
theorem dX9_town_53 : decode cX9_town 53 = .ok (.getfield 68, 3) := by decide +kernel
theorem dX9_town_56 : decode cX9_town 56 = .ok (.iconst 1, 1) := by decide +kernel
theorem dX9_town_57 : decode cX9_town 57 = .ok (.iadd, 1) := by decide +kernel
theorem dX9_town_58 : decode cX9_town 58 = .ok (.putfield 68, 3) := by decide +kernel
theorem dX9_town_61 : decode cX9_town 61 = .ok (.aload_n 0, 1) := by decide +kernel
theorem dX9_town_62 : decode cX9_town 62 = .ok (.getfield 68, 3) := by decide +kernel
theorem dX9_town_65 : decode cX9_town 65 = .ok (.iconst 1, 1) := by decide +kernel
theorem dX9_town_66 : decode cX9_town 66 = .ok (.isub, 1) := by decide +kernel
theorem dX9_town_67 : decode cX9_town 67 = .ok (.ireturn, 1) := by decide +kernel
set_option maxRecDepth 20000 in
theorem ggX9_hall_X9_keep : GoodIn wsX9_hall wsX9_keep := goodIn_r _ [11, 12, 13, 14, 15, 2, 16, 17, 18, 3, 4, 5, 6, 19, 20, 21, 22, 23, 10, 24, 25, 26, 27, 28, 29, 30, 31, 32, 33, 34, 35, 36, 37, 38, 39, 40, 41, 42, 43, 44, 45, 46, 47, 48, 49, 50, 51, 52] (by decide +kernel) (by decide +kernel)
set_option maxRecDepth 20000 in
theorem gX9_hall_X9_keep : GoodIn wsX9_hall (wsV RX9 95 RX9 yX9_keep wsX9_keep) := goodIn_app (goodIn_of _ (by decide +kernel)) ggX9_hall_X9_keep
theorem dX9_hall_0 : decode cX9_hall 0 = .ok (.aload_n 0, 1) := by decide +kernel
theorem dX9_hall_1 : decode cX9_hall 1 = .ok (.iconst 0, 1) := by decide +kernel
theorem dX9_hall_2 : decode cX9_hall 2 = .ok (.putfield 58, 3) := by decide +kernel
theorem dX9_hall_5 : decode cX9_hall 5 = .ok (.aload_n 0, 1) := by decide +kernel
theorem dX9_hall_6 : decode cX9_hall 6 = .ok (.getfield 71, 3) := by decide +kernel
theorem dX9_hall_9 : decode cX9_hall 9 = .ok (.bipush 7, 2) := by decide +kernel
theorem dX9_hall_11 : decode cX9_hall 11 = .ok (.if_icmp .ne 6, 3) := by decide +kernel
theorem dX9_hall_14 : decode cX9_hall 14 = .ok (.bipush (-5), 2) := by decide +kernel
theorem dX9_hall_16 : decode cX9_hall 16 = .ok (.ireturn, 1) := by decide +kernel
theorem dX9_hall_17 : decode cX9_hall 17 = .ok (.aload_n 0, 1) := by decide +kernel
theorem dX9_hall_18 : decode cX9_hall 18 = .ok (.invokevirtual 95, 3) := by decide +kernel
theorem dX9_hall_21 : decode cX9_hall 21 = .ok (.aload_n 0, 1) := by decide +kernel
theorem dX9_hall_22 : decode cX9_hall 22 = .ok (.getfield 19, 3) := by decide +kernel
theorem dX9_hall_25 : decode cX9_hall 25 = .ok (.aload_n 0, 1) := by decide +kernel
theorem dX9_hall_26 : decode cX9_hall 26 = .ok (.getfield 71, 3) := by decide +kernel
theorem dX9_hall_29 : decode cX9_hall 29 = .ok (.iconst 0, 1) := by decide +kernel
theorem dX9_hall_30 : decode cX9_hall 30 = .ok (.iastore, 1) := by decide +kernel
theorem dX9_hall_31 : decode cX9_hall 31 = .ok (.aload_n 0, 1) := by decide +kernel
theorem dX9_hall_32 : decode cX9_hall 32 = .ok (.getfield 22, 3) := by decide +kernel
theorem dX9_hall_35 : decode cX9_hall 35 = .ok (.aload_n 0, 1) := by decide +kernel
theorem dX9_hall_36 : decode cX9_hall 36 = .ok (.getfield 71, 3) := by decide +kernel
theorem dX9_hall_39 : decode cX9_hall 39 = .ok (.sipush 200, 3) := by decide +kernel
theorem dX9_hall_42 : decode cX9_hall 42 = .ok (.iastore, 1) := by decide +kernel
theorem dX9_hall_43 : decode cX9_hall 43 = .ok (.aload_n 0, 1) := by decide +kernel
theorem dX9_hall_44 : decode cX9_hall 44 = .ok (.getfield 25, 3) := by decide +kernel
theorem dX9_hall_47 : decode cX9_hall 47 = .ok (.aload_n 0, 1) := by decide +kernel
theorem dX9_hall_48 : decode cX9_hall 48 = .ok (.getfield 71, 3) := by decide +kernel
theorem dX9_hall_51 : decode cX9_hall 51 = .ok (.iconst (-1), 1) := by decide +kernel
theorem dX9_hall_52 : decode cX9_hall 52 = .ok (.iastore, 1) := by decide +kernel
theorem dX9_hall_53 : decode cX9_hall 53 = .ok (.aload_n 0, 1) := by decide +kernel
theorem dX9_hall_54 : decode cX9_hall 54 = .ok (.getfield 28, 3) := by decide +kernel
theorem dX9_hall_57 : decode cX9_hall 57 = .ok (.aload_n 0, 1) := by decide +kernel
theorem dX9_hall_58 : decode cX9_hall 58 = .ok (.getfield 71, 3) := by decide +kernel
theorem dX9_hall_61 : decode cX9_hall 61 = .ok (.iconst 0, 1) := by decide +kernel
theorem dX9_hall_62 : decode cX9_hall 62 = .ok (.iastore, 1) := by decide +kernel
theorem dX9_hall_63 : decode cX9_hall 63 = .ok (.aload_n 0, 1) := by decide +kernel
theorem dX9_hall_64 : decode cX9_hall 64 = .ok (.dup, 1) := by decide +kernel
theorem dX9_hall_65 : decode cX9_hall 65 = .ok (.getfield 71, 3) := by decide +kernel
theorem dX9_hall_68 : decode cX9_hall 68 = .ok (.iconst 1, 1) := by decide +kernel
theorem dX9_hall_69 : decode cX9_hall 69 = .ok (.iadd, 1) := by decide +kernel
theorem dX9_hall_70 : decode cX9_hall 70 = .ok (.putfield 71, 3) := by decide +kernel
theorem dX9_hall_73 : decode cX9_hall 73 = .ok (.aload_n 0, 1) := by decide +kernel
theorem dX9_hall_74 : decode cX9_hall 74 = .ok (.getfield 71, 3) := by decide +kernel
theorem dX9_hall_77 : decode cX9_hall 77 = .ok (.iconst 1, 1) := by decide +kernel
theorem dX9_hall_78 : decode cX9_hall 78 = .ok (.isub, 1) := by decide +kernel
theorem dX9_hall_79 : decode cX9_hall 79 = .ok (.ireturn, 1) := by decide +kernel
set_option maxRecDepth 20000 in
theorem ggX9_people_X9_isTown : GoodIn wsX9_people wsX9_isTown := goodIn_r _ [7, 8, 9, 10, 6, 11, 32, 33, 34, 35, 36, 37, 38, 39, 40, 41, 42, 43, 44, 45, 46, 47, 48, 49, 50, 51, 52, 53, 54, 55, 56, 57, 58, 59] (by decide +kernel) (by decide +kernel)
set_option maxRecDepth 20000 in
theorem gX9_people_X9_isTown : GoodIn wsX9_people (wsV RX9 98 RX9 yX9_isTown wsX9_isTown) := goodIn_app (goodIn_of _ (by decide +kernel)) ggX9_people_X9_isTown
set_option maxRecDepth 20000 in
theorem ggX9_people_X9_in : GoodIn wsX9_people wsX9_in := goodIn_r _ [11] (by decide +kernel) (by decide +kernel)
set_option maxRecDepth 20000 in
theorem gX9_people_X9_in : GoodIn wsX9_people (va_wsS RX9 91 yX9_in wsX9_in) := goodIn_app (goodIn_of _ (by decide +kernel)) ggX9_people_X9_in
set_option maxRecDepth 20000 in
theorem ggX9_people_X9_keep : GoodIn wsX9_people wsX9_keep := goodIn_r _ [15, 16, 17, 18, 8, 19, 2, 20, 21, 22, 23, 24, 25, 26, 27, 28, 29, 30, 6, 31, 32, 33, 34, 35, 36, 37, 38, 39, 40, 41, 42, 43, 44, 45, 46, 47, 48, 49, 50, 51, 52, 53, 54, 55, 56, 57, 58, 59] (by decide +kernel) (by decide +kernel)
set_option maxRecDepth 20000 in
theorem gX9_people_X9_keep : GoodIn wsX9_people (wsV RX9 95 RX9 yX9_keep wsX9_keep) := goodIn_app (goodIn_of _ (by decide +kernel)) ggX9_people_X9_keep
theorem dX9_people_0 : decode cX9_people 0 = .ok (.aload_n 0, 1) := by decide +kernel
theorem dX9_people_1 : decode cX9_people 1 = .ok (.iconst 0, 1) := by decide +kernel
theorem dX9_people_2 : decode cX9_people 2 = .ok (.putfield 58, 3) := by decide +kernel
theorem dX9_people_5 : decode cX9_people 5 = .ok (.aload_n 0, 1) := by decide +kernel
theorem dX9_people_6 : decode cX9_people 6 = .ok (.iload_n 1, 1) := by decide +kernel
theorem dX9_people_7 : decode cX9_people 7 = .ok (.invokevirtual 98, 3) := by decide +kernel
theorem dX9_people_10 : decode cX9_people 10 = .ok (.ifCond .eq 13, 3) := by decide +kernel
theorem dX9_people_13 : decode cX9_people 13 = .ok (.iload_n 2, 1) := by decide +kernel
theorem dX9_people_14 : decode cX9_people 14 = .ok (.iconst 1, 1) := by decide +kernel
theorem dX9_people_15 : decode cX9_people 15 = .ok (.bipush 20, 2) := by decide +kernel
theorem dX9_people_17 : decode cX9_people 17 = .ok (.invokestatic 91, 3) := by decide +kernel
theorem dX9_people_20 : decode cX9_people 20 = .ok (.ifCond .ne 6, 3) := by decide +kernel
theorem dX9_people_23 : decode cX9_people 23 = .ok (.bipush (-3), 2) := by decide +kernel
theorem dX9_people_25 : decode cX9_people 25 = .ok (.ireturn, 1) := by decide +kernel
theorem dX9_people_26 : decode cX9_people 26 = .ok (.aload_n 0, 1) := by decide +kernel
theorem dX9_people_27 : decode cX9_people 27 = .ok (.invokevirtual 95, 3) := by decide +kernel
theorem dX9_people_30 : decode cX9_people 30 = .ok (.aload_n 0, 1) := by decide +kernel
theorem dX9_people_31 : decode cX9_people 31 = .ok (.getfield 7, 3) := by decide +kernel
theorem dX9_people_34 : decode cX9_people 34 = .ok (.iload_n 1, 1) := by decide +kernel
theorem dX9_people_35 : decode cX9_people 35 = .ok (.iaload, 1) := by decide +kernel
theorem dX9_people_36 : decode cX9_people 36 = .ok (.istore_n 3, 1) := by decide +kernel
theorem dX9_people_37 : decode cX9_people 37 = .ok (.aload_n 0, 1) := by decide +kernel
theorem dX9_people_38 : decode cX9_people 38 = .ok (.getfield 7, 3) := by decide +kernel
theorem dX9_people_41 : decode cX9_people 41 = .ok (.iload_n 1, 1) := by decide +kernel
theorem dX9_people_42 : decode cX9_people 42 = .ok (.iload_n 2, 1) := by decide +kernel
theorem dX9_people_43 : decode cX9_people 43 = .ok (.iastore, 1) := by decide +kernel
theorem dX9_people_44 : decode cX9_people 44 = .ok (.iload_n 3, 1) := by decide +kernel
theorem dX9_people_45 : decode cX9_people 45 = .ok (.ireturn, 1) := by decide +kernel
set_option maxRecDepth 20000 in
theorem ggX9_fine_X9_isTown : GoodIn wsX9_fine wsX9_isTown := goodIn_r _ [8, 9, 10, 11, 7, 12, 33, 34, 35, 36, 37, 38, 39, 40, 41, 42, 43, 44, 45, 46, 47, 48, 49, 50, 51, 52, 53, 54, 55, 56, 57, 58, 59, 60] (by decide +kernel) (by decide +kernel)
set_option maxRecDepth 20000 in
theorem gX9_fine_X9_isTown : GoodIn wsX9_fine (wsV RX9 98 RX9 yX9_isTown wsX9_isTown) := goodIn_app (goodIn_of _ (by decide +kernel)) ggX9_fine_X9_isTown
set_option maxRecDepth 20000 in
theorem ggX9_fine_X9_in : GoodIn wsX9_fine wsX9_in := goodIn_r _ [12] (by decide +kernel) (by decide +kernel)
set_option maxRecDepth 20000 in
theorem gX9_fine_X9_in : GoodIn wsX9_fine (va_wsS RX9 91 yX9_in wsX9_in) := goodIn_app (goodIn_of _ (by decide +kernel)) ggX9_fine_X9_in
set_option maxRecDepth 20000 in
theorem ggX9_fine_X9_keep : GoodIn wsX9_fine wsX9_keep := goodIn_r _ [16, 17, 18, 19, 9, 20, 21, 3, 22, 23, 24, 25, 26, 27, 28, 29, 30, 31, 7, 32, 33, 34, 35, 36, 37, 38, 39, 40, 41, 42, 43, 44, 45, 46, 47, 48, 49, 50, 51, 52, 53, 54, 55, 56, 57, 58, 59, 60] (by decide +kernel) (by decide +kernel)
set_option maxRecDepth 20000 in
theorem gX9_fine_X9_keep : GoodIn wsX9_fine (wsV RX9 95 RX9 yX9_keep wsX9_keep) := goodIn_app (goodIn_of _ (by decide +kernel)) ggX9_fine_X9_keep
theorem dX9_fine_0 : decode cX9_fine 0 = .ok (.aload_n 0, 1) := by decide +kernel
theorem dX9_fine_1 : decode cX9_fine 1 = .ok (.iconst 0, 1) := by decide +kernel
theorem dX9_fine_2 : decode cX9_fine 2 = .ok (.putfield 58, 3) := by decide +kernel
theorem dX9_fine_5 : decode cX9_fine 5 = .ok (.aload_n 0, 1) := by decide +kernel
theorem dX9_fine_6 : decode cX9_fine 6 = .ok (.iload_n 1, 1) := by decide +kernel
theorem dX9_fine_7 : decode cX9_fine 7 = .ok (.invokevirtual 98, 3) := by decide +kernel
theorem dX9_fine_10 : decode cX9_fine 10 = .ok (.ifCond .eq 13, 3) := by decide +kernel
theorem dX9_fine_13 : decode cX9_fine 13 = .ok (.iload_n 2, 1) := by decide +kernel
theorem dX9_fine_14 : decode cX9_fine 14 = .ok (.iconst 0, 1) := by decide +kernel
theorem dX9_fine_15 : decode cX9_fine 15 = .ok (.ldc 102, 2) := by decide +kernel
theorem dX9_fine_17 : decode cX9_fine 17 = .ok (.invokestatic 91, 3) := by decide +kernel
theorem dX9_fine_20 : decode cX9_fine 20 = .ok (.ifCond .ne 6, 3) := by decide +kernel
theorem dX9_fine_23 : decode cX9_fine 23 = .ok (.bipush (-3), 2) := by decide +kernel
theorem dX9_fine_25 : decode cX9_fine 25 = .ok (.ireturn, 1) := by decide +kernel
theorem dX9_fine_26 : decode cX9_fine 26 = .ok (.aload_n 0, 1) := by decide +kernel
theorem dX9_fine_27 : decode cX9_fine 27 = .ok (.invokevirtual 95, 3) := by decide +kernel
theorem dX9_fine_30 : decode cX9_fine 30 = .ok (.aload_n 0, 1) := by decide +kernel
theorem dX9_fine_31 : decode cX9_fine 31 = .ok (.getfield 13, 3) := by decide +kernel
theorem dX9_fine_34 : decode cX9_fine 34 = .ok (.iload_n 1, 1) := by decide +kernel
theorem dX9_fine_35 : decode cX9_fine 35 = .ok (.iaload, 1) := by decide +kernel
theorem dX9_fine_36 : decode cX9_fine 36 = .ok (.istore_n 3, 1) := by decide +kernel
theorem dX9_fine_37 : decode cX9_fine 37 = .ok (.aload_n 0, 1) := by decide +kernel
theorem dX9_fine_38 : decode cX9_fine 38 = .ok (.getfield 13, 3) := by decide +kernel
theorem dX9_fine_41 : decode cX9_fine 41 = .ok (.iload_n 1, 1) := by decide +kernel
theorem dX9_fine_42 : decode cX9_fine 42 = .ok (.iload_n 2, 1) := by decide +kernel
theorem dX9_fine_43 : decode cX9_fine 43 = .ok (.iastore, 1) := by decide +kernel
theorem dX9_fine_44 : decode cX9_fine 44 = .ok (.iload_n 3, 1) := by decide +kernel
theorem dX9_fine_45 : decode cX9_fine 45 = .ok (.ireturn, 1) := by decide +kernel
set_option maxRecDepth 20000 in
theorem ggX9_place_X9_isTown : GoodIn wsX9_place wsX9_isTown := goodIn_r _ [7, 8, 9, 10, 6, 11, 32, 33, 34, 35, 36, 37, 38, 39, 40, 41, 42, 43, 44, 45, 46, 47, 48, 49, 50, 51, 52, 53, 54, 55, 56, 57, 58, 59] (by decide +kernel) (by decide +kernel)
set_option maxRecDepth 20000 in
theorem gX9_place_X9_isTown : GoodIn wsX9_place (wsV RX9 98 RX9 yX9_isTown wsX9_isTown) := goodIn_app (goodIn_of _ (by decide +kernel)) ggX9_place_X9_isTown
set_option maxRecDepth 20000 in
theorem ggX9_place_X9_in : GoodIn wsX9_place wsX9_in := goodIn_r _ [11] (by decide +kernel) (by decide +kernel)
set_option maxRecDepth 20000 in
theorem gX9_place_X9_in : GoodIn wsX9_place (va_wsS RX9 91 yX9_in wsX9_in) := goodIn_app (goodIn_of _ (by decide +kernel)) ggX9_place_X9_in
set_option maxRecDepth 20000 in
theorem ggX9_place_X9_keep : GoodIn wsX9_place wsX9_keep := goodIn_r _ [15, 16, 17, 18, 8, 19, 20, 21, 2, 22, 23, 24, 25, 26, 27, 28, 29, 30, 6, 31, 32, 33, 34, 35, 36, 37, 38, 39, 40, 41, 42, 43, 44, 45, 46, 47, 48, 49, 50, 51, 52, 53, 54, 55, 56, 57, 58, 59] (by decide +kernel) (by decide +kernel)
set_option maxRecDepth 20000 in
theorem gX9_place_X9_keep : GoodIn wsX9_place (wsV RX9 95 RX9 yX9_keep wsX9_keep) := goodIn_app (goodIn_of _ (by decide +kernel)) ggX9_place_X9_keep
theorem dX9_place_0 : decode cX9_place 0 = .ok (.aload_n 0, 1) := by decide +kernel
theorem dX9_place_1 : decode cX9_place 1 = .ok (.iconst 0, 1) := by decide +kernel
theorem dX9_place_2 : decode cX9_place 2 = .ok (.putfield 58, 3) := by decide +kernel
theorem dX9_place_5 : decode cX9_place 5 = .ok (.aload_n 0, 1) := by decide +kernel
theorem dX9_place_6 : decode cX9_place 6 = .ok (.iload_n 1, 1) := by decide +kernel
theorem dX9_place_7 : decode cX9_place 7 = .ok (.invokevirtual 98, 3) := by decide +kernel
theorem dX9_place_10 : decode cX9_place 10 = .ok (.ifCond .eq 16, 3) := by decide +kernel
theorem dX9_place_13 : decode cX9_place 13 = .ok (.iload_n 2, 1) := by decide +kernel
theorem dX9_place_14 : decode cX9_place 14 = .ok (.sipush (-1000), 3) := by decide +kernel
theorem dX9_place_17 : decode cX9_place 17 = .ok (.sipush 1000, 3) := by decide +kernel
theorem dX9_place_20 : decode cX9_place 20 = .ok (.invokestatic 91, 3) := by decide +kernel
theorem dX9_place_23 : decode cX9_place 23 = .ok (.ifCond .ne 6, 3) := by decide +kernel
theorem dX9_place_26 : decode cX9_place 26 = .ok (.bipush (-3), 2) := by decide +kernel
theorem dX9_place_28 : decode cX9_place 28 = .ok (.ireturn, 1) := by decide +kernel
theorem dX9_place_29 : decode cX9_place 29 = .ok (.aload_n 0, 1) := by decide +kernel
theorem dX9_place_30 : decode cX9_place 30 = .ok (.invokevirtual 95, 3) := by decide +kernel
theorem dX9_place_33 : decode cX9_place 33 = .ok (.aload_n 0, 1) := by decide +kernel
theorem dX9_place_34 : decode cX9_place 34 = .ok (.getfield 16, 3) := by decide +kernel
theorem dX9_place_37 : decode cX9_place 37 = .ok (.iload_n 1, 1) := by decide +kernel
theorem dX9_place_38 : decode cX9_place 38 = .ok (.iload_n 2, 1) := by decide +kernel
theorem dX9_place_39 : decode cX9_place 39 = .ok (.iastore, 1) := by decide +kernel
theorem dX9_place_40 : decode cX9_place 40 = .ok (.iconst 0, 1) := by decide +kernel
theorem dX9_place_41 : decode cX9_place 41 = .ok (.ireturn, 1) := by decide +kernel
set_option maxRecDepth 20000 in
theorem ggX9_price_X9_isHall : GoodIn wsX9_price wsX9_isHall := goodIn_r _ [8, 9, 10, 11, 7, 12, 33, 34, 35, 36, 37, 38, 39, 40, 41, 42, 43, 44, 45, 46, 47, 48, 49, 50, 51, 52, 53, 54, 55, 56, 57, 58, 59, 60] (by decide +kernel) (by decide +kernel)
set_option maxRecDepth 20000 in
theorem gX9_price_X9_isHall : GoodIn wsX9_price (wsV RX9 103 RX9 yX9_isHall wsX9_isHall) := goodIn_app (goodIn_of _ (by decide +kernel)) ggX9_price_X9_isHall
set_option maxRecDepth 20000 in
theorem ggX9_price_X9_in : GoodIn wsX9_price wsX9_in := goodIn_r _ [12] (by decide +kernel) (by decide +kernel)
set_option maxRecDepth 20000 in
theorem gX9_price_X9_in : GoodIn wsX9_price (va_wsS RX9 91 yX9_in wsX9_in) := goodIn_app (goodIn_of _ (by decide +kernel)) ggX9_price_X9_in
set_option maxRecDepth 20000 in
theorem ggX9_price_X9_keep : GoodIn wsX9_price wsX9_keep := goodIn_r _ [16, 17, 18, 19, 20, 9, 21, 22, 23, 3, 24, 25, 26, 27, 28, 29, 30, 31, 7, 32, 33, 34, 35, 36, 37, 38, 39, 40, 41, 42, 43, 44, 45, 46, 47, 48, 49, 50, 51, 52, 53, 54, 55, 56, 57, 58, 59, 60] (by decide +kernel) (by decide +kernel)
set_option maxRecDepth 20000 in
theorem gX9_price_X9_keep : GoodIn wsX9_price (wsV RX9 95 RX9 yX9_keep wsX9_keep) := goodIn_app (goodIn_of _ (by decide +kernel)) ggX9_price_X9_keep
theorem dX9_price_0 : decode cX9_price 0 = .ok (.aload_n 0, 1) := by decide +kernel
theorem dX9_price_1 : decode cX9_price 1 = .ok (.iconst 0, 1) := by decide +kernel
theorem dX9_price_2 : decode cX9_price 2 = .ok (.putfield 58, 3) := by decide +kernel
theorem dX9_price_5 : decode cX9_price 5 = .ok (.aload_n 0, 1) := by decide +kernel
theorem dX9_price_6 : decode cX9_price 6 = .ok (.iload_n 1, 1) := by decide +kernel
theorem dX9_price_7 : decode cX9_price 7 = .ok (.invokevirtual 103, 3) := by decide +kernel
theorem dX9_price_10 : decode cX9_price 10 = .ok (.ifCond .eq 13, 3) := by decide +kernel
theorem dX9_price_13 : decode cX9_price 13 = .ok (.iload_n 2, 1) := by decide +kernel
theorem dX9_price_14 : decode cX9_price 14 = .ok (.iconst 0, 1) := by decide +kernel
theorem dX9_price_15 : decode cX9_price 15 = .ok (.ldc 102, 2) := by decide +kernel
theorem dX9_price_17 : decode cX9_price 17 = .ok (.invokestatic 91, 3) := by decide +kernel
theorem dX9_price_20 : decode cX9_price 20 = .ok (.ifCond .ne 6, 3) := by decide +kernel
theorem dX9_price_23 : decode cX9_price 23 = .ok (.bipush (-3), 2) := by decide +kernel
theorem dX9_price_25 : decode cX9_price 25 = .ok (.ireturn, 1) := by decide +kernel
theorem dX9_price_26 : decode cX9_price 26 = .ok (.aload_n 0, 1) := by decide +kernel
theorem dX9_price_27 : decode cX9_price 27 = .ok (.invokevirtual 95, 3) := by decide +kernel
theorem dX9_price_30 : decode cX9_price 30 = .ok (.aload_n 0, 1) := by decide +kernel
theorem dX9_price_31 : decode cX9_price 31 = .ok (.getfield 19, 3) := by decide +kernel
theorem dX9_price_34 : decode cX9_price 34 = .ok (.iload_n 1, 1) := by decide +kernel
theorem dX9_price_35 : decode cX9_price 35 = .ok (.iaload, 1) := by decide +kernel
theorem dX9_price_36 : decode cX9_price 36 = .ok (.istore_n 3, 1) := by decide +kernel
theorem dX9_price_37 : decode cX9_price 37 = .ok (.aload_n 0, 1) := by decide +kernel
theorem dX9_price_38 : decode cX9_price 38 = .ok (.getfield 19, 3) := by decide +kernel
theorem dX9_price_41 : decode cX9_price 41 = .ok (.iload_n 1, 1) := by decide +kernel
theorem dX9_price_42 : decode cX9_price 42 = .ok (.iload_n 2, 1) := by decide +kernel
theorem dX9_price_43 : decode cX9_price 43 = .ok (.iastore, 1) := by decide +kernel
theorem dX9_price_44 : decode cX9_price 44 = .ok (.iload_n 3, 1) := by decide +kernel
theorem dX9_price_45 : decode cX9_price 45 = .ok (.ireturn, 1) := by decide +kernel
set_option maxRecDepth 20000 in
theorem ggX9_room_X9_isHall : GoodIn wsX9_room wsX9_isHall := goodIn_r _ [7, 8, 9, 10, 6, 11, 32, 33, 34, 35, 36, 37, 38, 39, 40, 41, 42, 43, 44, 45, 46, 47, 48, 49, 50, 51, 52, 53, 54, 55, 56, 57, 58, 59] (by decide +kernel) (by decide +kernel)
set_option maxRecDepth 20000 in
theorem gX9_room_X9_isHall : GoodIn wsX9_room (wsV RX9 103 RX9 yX9_isHall wsX9_isHall) := goodIn_app (goodIn_of _ (by decide +kernel)) ggX9_room_X9_isHall
set_option maxRecDepth 20000 in
theorem ggX9_room_X9_in : GoodIn wsX9_room wsX9_in := goodIn_r _ [11] (by decide +kernel) (by decide +kernel)
set_option maxRecDepth 20000 in
theorem gX9_room_X9_in : GoodIn wsX9_room (va_wsS RX9 91 yX9_in wsX9_in) := goodIn_app (goodIn_of _ (by decide +kernel)) ggX9_room_X9_in
set_option maxRecDepth 20000 in
theorem ggX9_room_X9_keep : GoodIn wsX9_room wsX9_keep := goodIn_r _ [15, 16, 17, 18, 19, 8, 20, 21, 22, 23, 2, 24, 25, 26, 27, 28, 29, 30, 6, 31, 32, 33, 34, 35, 36, 37, 38, 39, 40, 41, 42, 43, 44, 45, 46, 47, 48, 49, 50, 51, 52, 53, 54, 55, 56, 57, 58, 59] (by decide +kernel) (by decide +kernel)
set_option maxRecDepth 20000 in
theorem gX9_room_X9_keep : GoodIn wsX9_room (wsV RX9 95 RX9 yX9_keep wsX9_keep) := goodIn_app (goodIn_of _ (by decide +kernel)) ggX9_room_X9_keep
theorem dX9_room_0 : decode cX9_room 0 = .ok (.aload_n 0, 1) := by decide +kernel
theorem dX9_room_1 : decode cX9_room 1 = .ok (.iconst 0, 1) := by decide +kernel
theorem dX9_room_2 : decode cX9_room 2 = .ok (.putfield 58, 3) := by decide +kernel
theorem dX9_room_5 : decode cX9_room 5 = .ok (.aload_n 0, 1) := by decide +kernel
theorem dX9_room_6 : decode cX9_room 6 = .ok (.iload_n 1, 1) := by decide +kernel
theorem dX9_room_7 : decode cX9_room 7 = .ok (.invokevirtual 103, 3) := by decide +kernel
theorem dX9_room_10 : decode cX9_room 10 = .ok (.ifCond .eq 14, 3) := by decide +kernel
theorem dX9_room_13 : decode cX9_room 13 = .ok (.iload_n 2, 1) := by decide +kernel
theorem dX9_room_14 : decode cX9_room 14 = .ok (.iconst 0, 1) := by decide +kernel
theorem dX9_room_15 : decode cX9_room 15 = .ok (.sipush 200, 3) := by decide +kernel
theorem dX9_room_18 : decode cX9_room 18 = .ok (.invokestatic 91, 3) := by decide +kernel
theorem dX9_room_21 : decode cX9_room 21 = .ok (.ifCond .ne 6, 3) := by decide +kernel
theorem dX9_room_24 : decode cX9_room 24 = .ok (.bipush (-3), 2) := by decide +kernel
theorem dX9_room_26 : decode cX9_room 26 = .ok (.ireturn, 1) := by decide +kernel
theorem dX9_room_27 : decode cX9_room 27 = .ok (.aload_n 0, 1) := by decide +kernel
theorem dX9_room_28 : decode cX9_room 28 = .ok (.invokevirtual 95, 3) := by decide +kernel
theorem dX9_room_31 : decode cX9_room 31 = .ok (.aload_n 0, 1) := by decide +kernel
theorem dX9_room_32 : decode cX9_room 32 = .ok (.getfield 22, 3) := by decide +kernel
theorem dX9_room_35 : decode cX9_room 35 = .ok (.iload_n 1, 1) := by decide +kernel
theorem dX9_room_36 : decode cX9_room 36 = .ok (.iaload, 1) := by decide +kernel
theorem dX9_room_37 : decode cX9_room 37 = .ok (.istore_n 3, 1) := by decide +kernel
theorem dX9_room_38 : decode cX9_room 38 = .ok (.aload_n 0, 1) := by decide +kernel
theorem dX9_room_39 : decode cX9_room 39 = .ok (.getfield 22, 3) := by decide +kernel
theorem dX9_room_42 : decode cX9_room 42 = .ok (.iload_n 1, 1) := by decide +kernel
theorem dX9_room_43 : decode cX9_room 43 = .ok (.iload_n 2, 1) := by decide +kernel
theorem dX9_room_44 : decode cX9_room 44 = .ok (.iastore, 1) := by decide +kernel
theorem dX9_room_45 : decode cX9_room 45 = .ok (.iload_n 3, 1) := by decide +kernel
theorem dX9_room_46 : decode cX9_room 46 = .ok (.ireturn, 1) := by decide +kernel
set_option maxRecDepth 20000 in
theorem ggX9_sheet_X9_isHall : GoodIn wsX9_sheet wsX9_isHall := goodIn_r _ [9, 10, 11, 12, 8, 13, 32, 33, 34, 35, 36, 37, 38, 39, 40, 41, 42, 43, 44, 45, 46, 47, 48, 49, 50, 51, 52, 53, 54, 55, 56, 57, 58, 59] (by decide +kernel) (by decide +kernel)
set_option maxRecDepth 20000 in
theorem gX9_sheet_X9_isHall : GoodIn wsX9_sheet (wsV RX9 103 RX9 yX9_isHall wsX9_isHall) := goodIn_app (goodIn_of _ (by decide +kernel)) ggX9_sheet_X9_isHall
set_option maxRecDepth 20000 in
theorem ggX9_sheet_X9_in : GoodIn wsX9_sheet wsX9_in := goodIn_r _ [13] (by decide +kernel) (by decide +kernel)
set_option maxRecDepth 20000 in
theorem gX9_sheet_X9_in : GoodIn wsX9_sheet (va_wsS RX9 91 yX9_in wsX9_in) := goodIn_app (goodIn_of _ (by decide +kernel)) ggX9_sheet_X9_in
set_option maxRecDepth 20000 in
theorem ggX9_sheet_X9_keep : GoodIn wsX9_sheet wsX9_keep := goodIn_r _ [17, 18, 19, 20, 21, 10, 22, 23, 24, 25, 26, 2, 3, 4, 27, 28, 29, 30, 8, 31, 32, 33, 34, 35, 36, 37, 38, 39, 40, 41, 42, 43, 44, 45, 46, 47, 48, 49, 50, 51, 52, 53, 54, 55, 56, 57, 58, 59] (by decide +kernel) (by decide +kernel)
set_option maxRecDepth 20000 in
theorem gX9_sheet_X9_keep : GoodIn wsX9_sheet (wsV RX9 95 RX9 yX9_keep wsX9_keep) := goodIn_app (goodIn_of _ (by decide +kernel)) ggX9_sheet_X9_keep
theorem dX9_sheet_0 : decode cX9_sheet 0 = .ok (.aload_n 0, 1) := by decide +kernel
theorem dX9_sheet_1 : decode cX9_sheet 1 = .ok (.iconst 0, 1) := by decide +kernel
theorem dX9_sheet_2 : decode cX9_sheet 2 = .ok (.putfield 58, 3) := by decide +kernel
theorem dX9_sheet_5 : decode cX9_sheet 5 = .ok (.aload_n 0, 1) := by decide +kernel
theorem dX9_sheet_6 : decode cX9_sheet 6 = .ok (.iload_n 1, 1) := by decide +kernel
theorem dX9_sheet_7 : decode cX9_sheet 7 = .ok (.invokevirtual 103, 3) := by decide +kernel
theorem dX9_sheet_10 : decode cX9_sheet 10 = .ok (.ifCond .eq 18, 3) := by decide +kernel
theorem dX9_sheet_13 : decode cX9_sheet 13 = .ok (.iload_n 2, 1) := by decide +kernel
theorem dX9_sheet_14 : decode cX9_sheet 14 = .ok (.iconst 0, 1) := by decide +kernel
theorem dX9_sheet_15 : decode cX9_sheet 15 = .ok (.iconst 2, 1) := by decide +kernel
theorem dX9_sheet_16 : decode cX9_sheet 16 = .ok (.invokestatic 91, 3) := by decide +kernel
theorem dX9_sheet_19 : decode cX9_sheet 19 = .ok (.ifCond .eq 9, 3) := by decide +kernel
theorem dX9_sheet_22 : decode cX9_sheet 22 = .ok (.iload_n 3, 1) := by decide +kernel
theorem dX9_sheet_23 : decode cX9_sheet 23 = .ok (.bipush 8, 2) := by decide +kernel
theorem dX9_sheet_25 : decode cX9_sheet 25 = .ok (.if_icmp .le 6, 3) := by decide +kernel
theorem dX9_sheet_28 : decode cX9_sheet 28 = .ok (.bipush (-3), 2) := by decide +kernel
theorem dX9_sheet_30 : decode cX9_sheet 30 = .ok (.ireturn, 1) := by decide +kernel
theorem dX9_sheet_31 : decode cX9_sheet 31 = .ok (.iload_n 3, 1) := by decide +kernel
theorem dX9_sheet_32 : decode cX9_sheet 32 = .ok (.ifCond .ge 6, 3) := by decide +kernel
theorem dX9_sheet_35 : decode cX9_sheet 35 = .ok (.bipush (-14), 2) := by decide +kernel
theorem dX9_sheet_37 : decode cX9_sheet 37 = .ok (.ireturn, 1) := by decide +kernel
theorem dX9_sheet_38 : decode cX9_sheet 38 = .ok (.aload_n 0, 1) := by decide +kernel
theorem dX9_sheet_39 : decode cX9_sheet 39 = .ok (.invokevirtual 95, 3) := by decide +kernel
theorem dX9_sheet_42 : decode cX9_sheet 42 = .ok (.aload_n 0, 1) := by decide +kernel
theorem dX9_sheet_43 : decode cX9_sheet 43 = .ok (.getfield 25, 3) := by decide +kernel
theorem dX9_sheet_46 : decode cX9_sheet 46 = .ok (.iload_n 1, 1) := by decide +kernel
theorem dX9_sheet_47 : decode cX9_sheet 47 = .ok (.iload_n 2, 1) := by decide +kernel
theorem dX9_sheet_48 : decode cX9_sheet 48 = .ok (.iastore, 1) := by decide +kernel
theorem dX9_sheet_49 : decode cX9_sheet 49 = .ok (.aload_n 0, 1) := by decide +kernel
theorem dX9_sheet_50 : decode cX9_sheet 50 = .ok (.getfield 28, 3) := by decide +kernel
theorem dX9_sheet_53 : decode cX9_sheet 53 = .ok (.iload_n 1, 1) := by decide +kernel
theorem dX9_sheet_54 : decode cX9_sheet 54 = .ok (.iload_n 3, 1) := by decide +kernel
theorem dX9_sheet_55 : decode cX9_sheet 55 = .ok (.iastore, 1) := by decide +kernel
theorem dX9_sheet_56 : decode cX9_sheet 56 = .ok (.iconst 0, 1) := by decide +kernel
theorem dX9_sheet_57 : decode cX9_sheet 57 = .ok (.istore 4, 2) := by decide +kernel
theorem dX9_sheet_59 : decode cX9_sheet 59 = .ok (.iload 4, 2) := by decide +kernel
theorem dX9_sheet_61 : decode cX9_sheet 61 = .ok (.bipush 8, 2) := by decide +kernel
theorem dX9_sheet_63 : decode cX9_sheet 63 = .ok (.if_icmp .ge 22, 3) := by decide +kernel
theorem dX9_sheet_66 : decode cX9_sheet 66 = .ok (.aload_n 0, 1) := by decide +kernel
theorem dX9_sheet_67 : decode cX9_sheet 67 = .ok (.getfield 31, 3) := by decide +kernel
theorem dX9_sheet_70 : decode cX9_sheet 70 = .ok (.bipush 8, 2) := by decide +kernel
theorem dX9_sheet_72 : decode cX9_sheet 72 = .ok (.iload_n 1, 1) := by decide +kernel
theorem dX9_sheet_73 : decode cX9_sheet 73 = .ok (.imul, 1) := by decide +kernel
theorem dX9_sheet_74 : decode cX9_sheet 74 = .ok (.iload 4, 2) := by decide +kernel
theorem dX9_sheet_76 : decode cX9_sheet 76 = .ok (.iadd, 1) := by decide +kernel
theorem dX9_sheet_77 : decode cX9_sheet 77 = .ok (.iconst 0, 1) := by decide +kernel
theorem dX9_sheet_78 : decode cX9_sheet 78 = .ok (.iastore, 1) := by decide +kernel
theorem dX9_sheet_79 : decode cX9_sheet 79 = .ok (.iinc 4 1, 3) := by decide +kernel
theorem dX9_sheet_82 : decode cX9_sheet 82 = .ok (.goto (-23), 3) := by decide +kernel
theorem dX9_sheet_85 : decode cX9_sheet 85 = .ok (.iload_n 3, 1) := by decide +kernel
theorem dX9_sheet_86 : decode cX9_sheet 86 = .ok (.ireturn, 1) := by decide +kernel
set_option maxRecDepth 20000 in
theorem ggX9_lose_X9_isHall : GoodIn wsX9_lose wsX9_isHall := goodIn_r _ [8, 9, 10, 11, 7, 12, 32, 33, 34, 35, 36, 37, 38, 39, 40, 41, 42, 43, 44, 45, 46, 47, 48, 49, 50, 51, 52, 53, 54, 55, 56, 57, 58, 59] (by decide +kernel) (by decide +kernel)
set_option maxRecDepth 20000 in
theorem gX9_lose_X9_isHall : GoodIn wsX9_lose (wsV RX9 103 RX9 yX9_isHall wsX9_isHall) := goodIn_app (goodIn_of _ (by decide +kernel)) ggX9_lose_X9_isHall
set_option maxRecDepth 20000 in
theorem ggX9_lose_X9_keep : GoodIn wsX9_lose wsX9_keep := goodIn_r _ [16, 17, 18, 19, 20, 9, 21, 22, 23, 24, 25, 2, 3, 26, 27, 28, 29, 30, 7, 31, 32, 33, 34, 35, 36, 37, 38, 39, 40, 41, 42, 43, 44, 45, 46, 47, 48, 49, 50, 51, 52, 53, 54, 55, 56, 57, 58, 59] (by decide +kernel) (by decide +kernel)
set_option maxRecDepth 20000 in
theorem gX9_lose_X9_keep : GoodIn wsX9_lose (wsV RX9 95 RX9 yX9_keep wsX9_keep) := goodIn_app (goodIn_of _ (by decide +kernel)) ggX9_lose_X9_keep
theorem dX9_lose_0 : decode cX9_lose 0 = .ok (.aload_n 0, 1) := by decide +kernel
theorem dX9_lose_1 : decode cX9_lose 1 = .ok (.iconst 0, 1) := by decide +kernel
theorem dX9_lose_2 : decode cX9_lose 2 = .ok (.putfield 58, 3) := by decide +kernel
theorem dX9_lose_5 : decode cX9_lose 5 = .ok (.aload_n 0, 1) := by decide +kernel
theorem dX9_lose_6 : decode cX9_lose 6 = .ok (.iload_n 1, 1) := by decide +kernel
theorem dX9_lose_7 : decode cX9_lose 7 = .ok (.invokevirtual 103, 3) := by decide +kernel
theorem dX9_lose_10 : decode cX9_lose 10 = .ok (.ifCond .ne 6, 3) := by decide +kernel
theorem dX9_lose_13 : decode cX9_lose 13 = .ok (.bipush (-3), 2) := by decide +kernel
theorem dX9_lose_15 : decode cX9_lose 15 = .ok (.ireturn, 1) := by decide +kernel
theorem dX9_lose_16 : decode cX9_lose 16 = .ok (.aload_n 0, 1) := by decide +kernel
theorem dX9_lose_17 : decode cX9_lose 17 = .ok (.getfield 25, 3) := by decide +kernel
theorem dX9_lose_20 : decode cX9_lose 20 = .ok (.iload_n 1, 1) := by decide +kernel
theorem dX9_lose_21 : decode cX9_lose 21 = .ok (.iaload, 1) := by decide +kernel
theorem dX9_lose_22 : decode cX9_lose 22 = .ok (.iconst (-1), 1) := by decide +kernel
theorem dX9_lose_23 : decode cX9_lose 23 = .ok (.if_icmp .ne 6, 3) := by decide +kernel
theorem dX9_lose_26 : decode cX9_lose 26 = .ok (.bipush (-11), 2) := by decide +kernel
theorem dX9_lose_28 : decode cX9_lose 28 = .ok (.ireturn, 1) := by decide +kernel
theorem dX9_lose_29 : decode cX9_lose 29 = .ok (.aload_n 0, 1) := by decide +kernel
theorem dX9_lose_30 : decode cX9_lose 30 = .ok (.invokevirtual 95, 3) := by decide +kernel
theorem dX9_lose_33 : decode cX9_lose 33 = .ok (.aload_n 0, 1) := by decide +kernel
theorem dX9_lose_34 : decode cX9_lose 34 = .ok (.getfield 28, 3) := by decide +kernel
theorem dX9_lose_37 : decode cX9_lose 37 = .ok (.iload_n 1, 1) := by decide +kernel
theorem dX9_lose_38 : decode cX9_lose 38 = .ok (.iaload, 1) := by decide +kernel
theorem dX9_lose_39 : decode cX9_lose 39 = .ok (.istore_n 2, 1) := by decide +kernel
theorem dX9_lose_40 : decode cX9_lose 40 = .ok (.aload_n 0, 1) := by decide +kernel
theorem dX9_lose_41 : decode cX9_lose 41 = .ok (.getfield 25, 3) := by decide +kernel
theorem dX9_lose_44 : decode cX9_lose 44 = .ok (.iload_n 1, 1) := by decide +kernel
theorem dX9_lose_45 : decode cX9_lose 45 = .ok (.iconst (-1), 1) := by decide +kernel
theorem dX9_lose_46 : decode cX9_lose 46 = .ok (.iastore, 1) := by decide +kernel
theorem dX9_lose_47 : decode cX9_lose 47 = .ok (.aload_n 0, 1) := by decide +kernel
theorem dX9_lose_48 : decode cX9_lose 48 = .ok (.getfield 28, 3) := by decide +kernel
theorem dX9_lose_51 : decode cX9_lose 51 = .ok (.iload_n 1, 1) := by decide +kernel
theorem dX9_lose_52 : decode cX9_lose 52 = .ok (.iconst 0, 1) := by decide +kernel
theorem dX9_lose_53 : decode cX9_lose 53 = .ok (.iastore, 1) := by decide +kernel
theorem dX9_lose_54 : decode cX9_lose 54 = .ok (.iload_n 2, 1) := by decide +kernel
theorem dX9_lose_55 : decode cX9_lose 55 = .ok (.ireturn, 1) := by decide +kernel
set_option maxRecDepth 20000 in
theorem ggX9_way_X9_isHall : GoodIn wsX9_way wsX9_isHall := goodIn_r _ [9, 10, 11, 12, 8, 13, 32, 33, 34, 35, 36, 37, 38, 39, 40, 41, 42, 43, 44, 45, 46, 47, 48, 49, 50, 51, 52, 53, 54, 55, 56, 57, 58, 59] (by decide +kernel) (by decide +kernel)
set_option maxRecDepth 20000 in
theorem gX9_way_X9_isHall : GoodIn wsX9_way (wsV RX9 103 RX9 yX9_isHall wsX9_isHall) := goodIn_app (goodIn_of _ (by decide +kernel)) ggX9_way_X9_isHall
set_option maxRecDepth 20000 in
theorem ggX9_way_X9_in : GoodIn wsX9_way wsX9_in := goodIn_r _ [13] (by decide +kernel) (by decide +kernel)
set_option maxRecDepth 20000 in
theorem gX9_way_X9_in : GoodIn wsX9_way (va_wsS RX9 91 yX9_in wsX9_in) := goodIn_app (goodIn_of _ (by decide +kernel)) ggX9_way_X9_in
set_option maxRecDepth 20000 in
theorem ggX9_way_X9_keep : GoodIn wsX9_way wsX9_keep := goodIn_r _ [17, 18, 19, 20, 21, 10, 22, 23, 24, 25, 26, 2, 3, 4, 27, 28, 29, 30, 8, 31, 32, 33, 34, 35, 36, 37, 38, 39, 40, 41, 42, 43, 44, 45, 46, 47, 48, 49, 50, 51, 52, 53, 54, 55, 56, 57, 58, 59] (by decide +kernel) (by decide +kernel)
set_option maxRecDepth 20000 in
theorem gX9_way_X9_keep : GoodIn wsX9_way (wsV RX9 95 RX9 yX9_keep wsX9_keep) := goodIn_app (goodIn_of _ (by decide +kernel)) ggX9_way_X9_keep
theorem dX9_way_0 : decode cX9_way 0 = .ok (.aload_n 0, 1) := by decide +kernel
theorem dX9_way_1 : decode cX9_way 1 = .ok (.iconst 0, 1) := by decide +kernel
theorem dX9_way_2 : decode cX9_way 2 = .ok (.putfield 58, 3) := by decide +kernel
theorem dX9_way_5 : decode cX9_way 5 = .ok (.aload_n 0, 1) := by decide +kernel
theorem dX9_way_6 : decode cX9_way 6 = .ok (.iload_n 1, 1) := by decide +kernel
theorem dX9_way_7 : decode cX9_way 7 = .ok (.invokevirtual 103, 3) := by decide +kernel
theorem dX9_way_10 : decode cX9_way 10 = .ok (.ifCond .ne 6, 3) := by decide +kernel
theorem dX9_way_13 : decode cX9_way 13 = .ok (.bipush (-3), 2) := by decide +kernel
theorem dX9_way_15 : decode cX9_way 15 = .ok (.ireturn, 1) := by decide +kernel
theorem dX9_way_16 : decode cX9_way 16 = .ok (.aload_n 0, 1) := by decide +kernel
theorem dX9_way_17 : decode cX9_way 17 = .ok (.getfield 25, 3) := by decide +kernel
theorem dX9_way_20 : decode cX9_way 20 = .ok (.iload_n 1, 1) := by decide +kernel
theorem dX9_way_21 : decode cX9_way 21 = .ok (.iaload, 1) := by decide +kernel
theorem dX9_way_22 : decode cX9_way 22 = .ok (.iconst (-1), 1) := by decide +kernel
theorem dX9_way_23 : decode cX9_way 23 = .ok (.if_icmp .ne 6, 3) := by decide +kernel
theorem dX9_way_26 : decode cX9_way 26 = .ok (.bipush (-11), 2) := by decide +kernel
theorem dX9_way_28 : decode cX9_way 28 = .ok (.ireturn, 1) := by decide +kernel
theorem dX9_way_29 : decode cX9_way 29 = .ok (.iload_n 2, 1) := by decide +kernel
theorem dX9_way_30 : decode cX9_way 30 = .ok (.iconst 0, 1) := by decide +kernel
theorem dX9_way_31 : decode cX9_way 31 = .ok (.aload_n 0, 1) := by decide +kernel
theorem dX9_way_32 : decode cX9_way 32 = .ok (.getfield 28, 3) := by decide +kernel
theorem dX9_way_35 : decode cX9_way 35 = .ok (.iload_n 1, 1) := by decide +kernel
theorem dX9_way_36 : decode cX9_way 36 = .ok (.iaload, 1) := by decide +kernel
theorem dX9_way_37 : decode cX9_way 37 = .ok (.iconst 1, 1) := by decide +kernel
theorem dX9_way_38 : decode cX9_way 38 = .ok (.isub, 1) := by decide +kernel
theorem dX9_way_39 : decode cX9_way 39 = .ok (.invokestatic 91, 3) := by decide +kernel
theorem dX9_way_42 : decode cX9_way 42 = .ok (.ifCond .ne 6, 3) := by decide +kernel
theorem dX9_way_45 : decode cX9_way 45 = .ok (.bipush (-13), 2) := by decide +kernel
theorem dX9_way_47 : decode cX9_way 47 = .ok (.ireturn, 1) := by decide +kernel
theorem dX9_way_48 : decode cX9_way 48 = .ok (.iload_n 3, 1) := by decide +kernel
theorem dX9_way_49 : decode cX9_way 49 = .ok (.iconst 0, 1) := by decide +kernel
theorem dX9_way_50 : decode cX9_way 50 = .ok (.aload_n 0, 1) := by decide +kernel
theorem dX9_way_51 : decode cX9_way 51 = .ok (.getfield 25, 3) := by decide +kernel
theorem dX9_way_54 : decode cX9_way 54 = .ok (.iload_n 1, 1) := by decide +kernel
theorem dX9_way_55 : decode cX9_way 55 = .ok (.iaload, 1) := by decide +kernel
theorem dX9_way_56 : decode cX9_way 56 = .ok (.ifCond .ne 8, 3) := by decide +kernel
theorem dX9_way_59 : decode cX9_way 59 = .ok (.bipush 127, 2) := by decide +kernel
theorem dX9_way_61 : decode cX9_way 61 = .ok (.goto 6, 3) := by decide +kernel
theorem dX9_way_64 : decode cX9_way 64 = .ok (.sipush 1000, 3) := by decide +kernel
theorem dX9_way_67 : decode cX9_way 67 = .ok (.invokestatic 91, 3) := by decide +kernel
theorem dX9_way_70 : decode cX9_way 70 = .ok (.ifCond .ne 6, 3) := by decide +kernel
theorem dX9_way_73 : decode cX9_way 73 = .ok (.bipush (-3), 2) := by decide +kernel
theorem dX9_way_75 : decode cX9_way 75 = .ok (.ireturn, 1) := by decide +kernel
theorem dX9_way_76 : decode cX9_way 76 = .ok (.aload_n 0, 1) := by decide +kernel
theorem dX9_way_77 : decode cX9_way 77 = .ok (.invokevirtual 95, 3) := by decide +kernel
theorem dX9_way_80 : decode cX9_way 80 = .ok (.aload_n 0, 1) := by decide +kernel
theorem dX9_way_81 : decode cX9_way 81 = .ok (.getfield 31, 3) := by decide +kernel
theorem dX9_way_84 : decode cX9_way 84 = .ok (.bipush 8, 2) := by decide +kernel
theorem dX9_way_86 : decode cX9_way 86 = .ok (.iload_n 1, 1) := by decide +kernel
theorem dX9_way_87 : decode cX9_way 87 = .ok (.imul, 1) := by decide +kernel
theorem dX9_way_88 : decode cX9_way 88 = .ok (.iload_n 2, 1) := by decide +kernel
theorem dX9_way_89 : decode cX9_way 89 = .ok (.iadd, 1) := by decide +kernel
theorem dX9_way_90 : decode cX9_way 90 = .ok (.iaload, 1) := by decide +kernel
theorem dX9_way_91 : decode cX9_way 91 = .ok (.istore 4, 2) := by decide +kernel
theorem dX9_way_93 : decode cX9_way 93 = .ok (.aload_n 0, 1) := by decide +kernel
theorem dX9_way_94 : decode cX9_way 94 = .ok (.getfield 31, 3) := by decide +kernel
theorem dX9_way_97 : decode cX9_way 97 = .ok (.bipush 8, 2) := by decide +kernel
theorem dX9_way_99 : decode cX9_way 99 = .ok (.iload_n 1, 1) := by decide +kernel
theorem dX9_way_100 : decode cX9_way 100 = .ok (.imul, 1) := by decide +kernel
theorem dX9_way_101 : decode cX9_way 101 = .ok (.iload_n 2, 1) := by decide +kernel
theorem dX9_way_102 : decode cX9_way 102 = .ok (.iadd, 1) := by decide +kernel
theorem dX9_way_103 : decode cX9_way 103 = .ok (.iload_n 3, 1) := by decide +kernel
theorem dX9_way_104 : decode cX9_way 104 = .ok (.iastore, 1) := by decide +kernel
theorem dX9_way_105 : decode cX9_way 105 = .ok (.iload 4, 2) := by decide +kernel
theorem dX9_way_107 : decode cX9_way 107 = .ok (.ireturn, 1) := by decide +kernel
set_option maxRecDepth 20000 in
theorem ggX9_copy_X9_isHall : GoodIn wsX9_copy wsX9_isHall := goodIn_r _ [9, 10, 11, 12, 8, 13, 32, 33, 34, 35, 36, 37, 38, 39, 40, 41, 42, 43, 44, 45, 46, 47, 48, 49, 50, 51, 52, 53, 54, 55, 56, 57, 58, 59] (by decide +kernel) (by decide +kernel)
set_option maxRecDepth 20000 in
theorem gX9_copy_X9_isHall : GoodIn wsX9_copy (wsV RX9 103 RX9 yX9_isHall wsX9_isHall) := goodIn_app (goodIn_of _ (by decide +kernel)) ggX9_copy_X9_isHall
set_option maxRecDepth 20000 in
theorem ggX9_copy_X9_keep : GoodIn wsX9_copy wsX9_keep := goodIn_r _ [17, 18, 19, 20, 21, 10, 22, 23, 24, 25, 26, 2, 3, 4, 27, 28, 29, 30, 8, 31, 32, 33, 34, 35, 36, 37, 38, 39, 40, 41, 42, 43, 44, 45, 46, 47, 48, 49, 50, 51, 52, 53, 54, 55, 56, 57, 58, 59] (by decide +kernel) (by decide +kernel)
set_option maxRecDepth 20000 in
theorem gX9_copy_X9_keep : GoodIn wsX9_copy (wsV RX9 95 RX9 yX9_keep wsX9_keep) := goodIn_app (goodIn_of _ (by decide +kernel)) ggX9_copy_X9_keep
theorem dX9_copy_0 : decode cX9_copy 0 = .ok (.aload_n 0, 1) := by decide +kernel
theorem dX9_copy_1 : decode cX9_copy 1 = .ok (.iconst 0, 1) := by decide +kernel
theorem dX9_copy_2 : decode cX9_copy 2 = .ok (.putfield 58, 3) := by decide +kernel
theorem dX9_copy_5 : decode cX9_copy 5 = .ok (.aload_n 0, 1) := by decide +kernel
theorem dX9_copy_6 : decode cX9_copy 6 = .ok (.iload_n 1, 1) := by decide +kernel
theorem dX9_copy_7 : decode cX9_copy 7 = .ok (.invokevirtual 103, 3) := by decide +kernel
theorem dX9_copy_10 : decode cX9_copy 10 = .ok (.ifCond .eq 11, 3) := by decide +kernel
theorem dX9_copy_13 : decode cX9_copy 13 = .ok (.aload_n 0, 1) := by decide +kernel
theorem dX9_copy_14 : decode cX9_copy 14 = .ok (.iload_n 3, 1) := by decide +kernel
theorem dX9_copy_15 : decode cX9_copy 15 = .ok (.invokevirtual 103, 3) := by decide +kernel
theorem dX9_copy_18 : decode cX9_copy 18 = .ok (.ifCond .ne 6, 3) := by decide +kernel
theorem dX9_copy_21 : decode cX9_copy 21 = .ok (.bipush (-3), 2) := by decide +kernel
theorem dX9_copy_23 : decode cX9_copy 23 = .ok (.ireturn, 1) := by decide +kernel
theorem dX9_copy_24 : decode cX9_copy 24 = .ok (.aload_n 0, 1) := by decide +kernel
theorem dX9_copy_25 : decode cX9_copy 25 = .ok (.getfield 25, 3) := by decide +kernel
theorem dX9_copy_28 : decode cX9_copy 28 = .ok (.iload_n 1, 1) := by decide +kernel
theorem dX9_copy_29 : decode cX9_copy 29 = .ok (.iaload, 1) := by decide +kernel
theorem dX9_copy_30 : decode cX9_copy 30 = .ok (.iconst (-1), 1) := by decide +kernel
theorem dX9_copy_31 : decode cX9_copy 31 = .ok (.if_icmp .eq 13, 3) := by decide +kernel
theorem dX9_copy_34 : decode cX9_copy 34 = .ok (.aload_n 0, 1) := by decide +kernel
theorem dX9_copy_35 : decode cX9_copy 35 = .ok (.getfield 25, 3) := by decide +kernel
theorem dX9_copy_38 : decode cX9_copy 38 = .ok (.iload_n 3, 1) := by decide +kernel
theorem dX9_copy_39 : decode cX9_copy 39 = .ok (.iaload, 1) := by decide +kernel
theorem dX9_copy_40 : decode cX9_copy 40 = .ok (.iconst (-1), 1) := by decide +kernel
theorem dX9_copy_41 : decode cX9_copy 41 = .ok (.if_icmp .ne 6, 3) := by decide +kernel
theorem dX9_copy_44 : decode cX9_copy 44 = .ok (.bipush (-11), 2) := by decide +kernel
theorem dX9_copy_46 : decode cX9_copy 46 = .ok (.ireturn, 1) := by decide +kernel
theorem dX9_copy_47 : decode cX9_copy 47 = .ok (.aload_n 0, 1) := by decide +kernel
theorem dX9_copy_48 : decode cX9_copy 48 = .ok (.getfield 25, 3) := by decide +kernel
theorem dX9_copy_51 : decode cX9_copy 51 = .ok (.iload_n 1, 1) := by decide +kernel
theorem dX9_copy_52 : decode cX9_copy 52 = .ok (.iaload, 1) := by decide +kernel
theorem dX9_copy_53 : decode cX9_copy 53 = .ok (.aload_n 0, 1) := by decide +kernel
theorem dX9_copy_54 : decode cX9_copy 54 = .ok (.getfield 25, 3) := by decide +kernel
theorem dX9_copy_57 : decode cX9_copy 57 = .ok (.iload_n 3, 1) := by decide +kernel
theorem dX9_copy_58 : decode cX9_copy 58 = .ok (.iaload, 1) := by decide +kernel
theorem dX9_copy_59 : decode cX9_copy 59 = .ok (.if_icmp .eq 6, 3) := by decide +kernel
theorem dX9_copy_62 : decode cX9_copy 62 = .ok (.bipush (-4), 2) := by decide +kernel
theorem dX9_copy_64 : decode cX9_copy 64 = .ok (.ireturn, 1) := by decide +kernel
theorem dX9_copy_65 : decode cX9_copy 65 = .ok (.iload 5, 2) := by decide +kernel
theorem dX9_copy_67 : decode cX9_copy 67 = .ok (.ifCond .lt 46, 3) := by decide +kernel
theorem dX9_copy_70 : decode cX9_copy 70 = .ok (.iload_n 2, 1) := by decide +kernel
theorem dX9_copy_71 : decode cX9_copy 71 = .ok (.ifCond .lt 42, 3) := by decide +kernel
theorem dX9_copy_74 : decode cX9_copy 74 = .ok (.iload 4, 2) := by decide +kernel
theorem dX9_copy_76 : decode cX9_copy 76 = .ok (.ifCond .lt 37, 3) := by decide +kernel
theorem dX9_copy_79 : decode cX9_copy 79 = .ok (.iload 5, 2) := by decide +kernel
theorem dX9_copy_81 : decode cX9_copy 81 = .ok (.bipush 8, 2) := by decide +kernel
theorem dX9_copy_83 : decode cX9_copy 83 = .ok (.if_icmp .gt 30, 3) := by decide +kernel
theorem dX9_copy_86 : decode cX9_copy 86 = .ok (.iload_n 2, 1) := by decide +kernel
theorem dX9_copy_87 : decode cX9_copy 87 = .ok (.aload_n 0, 1) := by decide +kernel
theorem dX9_copy_88 : decode cX9_copy 88 = .ok (.getfield 28, 3) := by decide +kernel
theorem dX9_copy_91 : decode cX9_copy 91 = .ok (.iload_n 1, 1) := by decide +kernel
theorem dX9_copy_92 : decode cX9_copy 92 = .ok (.iaload, 1) := by decide +kernel
theorem dX9_copy_93 : decode cX9_copy 93 = .ok (.iload 5, 2) := by decide +kernel
theorem dX9_copy_95 : decode cX9_copy 95 = .ok (.isub, 1) := by decide +kernel
theorem dX9_copy_96 : decode cX9_copy 96 = .ok (.if_icmp .gt 17, 3) := by decide +kernel
theorem dX9_copy_99 : decode cX9_copy 99 = .ok (.iload 4, 2) := by decide +kernel
theorem dX9_copy_101 : decode cX9_copy 101 = .ok (.aload_n 0, 1) := by decide +kernel
theorem dX9_copy_102 : decode cX9_copy 102 = .ok (.getfield 28, 3) := by decide +kernel
theorem dX9_copy_105 : decode cX9_copy 105 = .ok (.iload_n 3, 1) := by decide +kernel
theorem dX9_copy_106 : decode cX9_copy 106 = .ok (.iaload, 1) := by decide +kernel
theorem dX9_copy_107 : decode cX9_copy 107 = .ok (.iload 5, 2) := by decide +kernel
theorem dX9_copy_109 : decode cX9_copy 109 = .ok (.isub, 1) := by decide +kernel
theorem dX9_copy_110 : decode cX9_copy 110 = .ok (.if_icmp .le 6, 3) := by decide +kernel
theorem dX9_copy_113 : decode cX9_copy 113 = .ok (.bipush (-13), 2) := by decide +kernel
theorem dX9_copy_115 : decode cX9_copy 115 = .ok (.ireturn, 1) := by decide +kernel
theorem dX9_copy_116 : decode cX9_copy 116 = .ok (.aload_n 0, 1) := by decide +kernel
theorem dX9_copy_117 : decode cX9_copy 117 = .ok (.invokevirtual 95, 3) := by decide +kernel
theorem dX9_copy_120 : decode cX9_copy 120 = .ok (.iconst 0, 1) := by decide +kernel
theorem dX9_copy_121 : decode cX9_copy 121 = .ok (.istore 6, 2) := by decide +kernel
theorem dX9_copy_123 : decode cX9_copy 123 = .ok (.iload 6, 2) := by decide +kernel
theorem dX9_copy_125 : decode cX9_copy 125 = .ok (.iload 5, 2) := by decide +kernel
theorem dX9_copy_127 : decode cX9_copy 127 = .ok (.if_icmp .ge 58, 3) := by decide +kernel
theorem dX9_copy_130 : decode cX9_copy 130 = .ok (.iload 4, 2) := by decide +kernel
theorem dX9_copy_132 : decode cX9_copy 132 = .ok (.iload_n 2, 1) := by decide +kernel
theorem dX9_copy_133 : decode cX9_copy 133 = .ok (.if_icmp .le 13, 3) := by decide +kernel
theorem dX9_copy_136 : decode cX9_copy 136 = .ok (.iload 5, 2) := by decide +kernel
theorem dX9_copy_138 : decode cX9_copy 138 = .ok (.iconst 1, 1) := by decide +kernel
theorem dX9_copy_139 : decode cX9_copy 139 = .ok (.isub, 1) := by decide +kernel
theorem dX9_copy_140 : decode cX9_copy 140 = .ok (.iload 6, 2) := by decide +kernel
theorem dX9_copy_142 : decode cX9_copy 142 = .ok (.isub, 1) := by decide +kernel
theorem dX9_copy_143 : decode cX9_copy 143 = .ok (.goto 5, 3) := by decide +kernel
theorem dX9_copy_146 : decode cX9_copy 146 = .ok (.iload 6, 2) := by decide +kernel
theorem dX9_copy_148 : decode cX9_copy 148 = .ok (.istore 7, 2) := by decide +kernel
theorem dX9_copy_150 : decode cX9_copy 150 = .ok (.aload_n 0, 1) := by decide +kernel
theorem dX9_copy_151 : decode cX9_copy 151 = .ok (.getfield 31, 3) := by decide +kernel
theorem dX9_copy_154 : decode cX9_copy 154 = .ok (.bipush 8, 2) := by decide +kernel
theorem dX9_copy_156 : decode cX9_copy 156 = .ok (.iload_n 3, 1) := by decide +kernel
theorem dX9_copy_157 : decode cX9_copy 157 = .ok (.imul, 1) := by decide +kernel
theorem dX9_copy_158 : decode cX9_copy 158 = .ok (.iload 4, 2) := by decide +kernel
theorem dX9_copy_160 : decode cX9_copy 160 = .ok (.iadd, 1) := by decide +kernel
theorem dX9_copy_161 : decode cX9_copy 161 = .ok (.iload 7, 2) := by decide +kernel
theorem dX9_copy_163 : decode cX9_copy 163 = .ok (.iadd, 1) := by decide +kernel
theorem dX9_copy_164 : decode cX9_copy 164 = .ok (.aload_n 0, 1) := by decide +kernel
theorem dX9_copy_165 : decode cX9_copy 165 = .ok (.getfield 31, 3) := by decide +kernel
theorem dX9_copy_168 : decode cX9_copy 168 = .ok (.bipush 8, 2) := by decide +kernel
theorem dX9_copy_170 : decode cX9_copy 170 = .ok (.iload_n 1, 1) := by decide +kernel
theorem dX9_copy_171 : decode cX9_copy 171 = .ok (.imul, 1) := by decide +kernel
theorem dX9_copy_172 : decode cX9_copy 172 = .ok (.iload_n 2, 1) := by decide +kernel
theorem dX9_copy_173 : decode cX9_copy 173 = .ok (.iadd, 1) := by decide +kernel
theorem dX9_copy_174 : decode cX9_copy 174 = .ok (.iload 7, 2) := by decide +kernel
theorem dX9_copy_176 : decode cX9_copy 176 = .ok (.iadd, 1) := by decide +kernel
theorem dX9_copy_177 : decode cX9_copy 177 = .ok (.iaload, 1) := by decide +kernel
theorem dX9_copy_178 : decode cX9_copy 178 = .ok (.iastore, 1) := by decide +kernel
theorem dX9_copy_179 : decode cX9_copy 179 = .ok (.iinc 6 1, 3) := by decide +kernel
theorem dX9_copy_182 : decode cX9_copy 182 = .ok (.goto (-59), 3) := by decide +kernel
theorem dX9_copy_185 : decode cX9_copy 185 = .ok (.iload 5, 2) := by decide +kernel
theorem dX9_copy_187 : decode cX9_copy 187 = .ok (.ireturn, 1) := by decide +kernel
theorem dX9_wayOf_0 : decode cX9_wayOf 0 = .ok (.aload_n 0, 1) := by decide +kernel
theorem dX9_wayOf_1 : decode cX9_wayOf 1 = .ok (.getfield 25, 3) := by decide +kernel
theorem dX9_wayOf_4 : decode cX9_wayOf 4 = .ok (.iload_n 1, 1) := by decide +kernel
theorem dX9_wayOf_5 : decode cX9_wayOf 5 = .ok (.iaload, 1) := by decide +kernel
theorem dX9_wayOf_6 : decode cX9_wayOf 6 = .ok (.iconst (-1), 1) := by decide +kernel
theorem dX9_wayOf_7 : decode cX9_wayOf 7 = .ok (.if_icmp .eq 27, 3) := by decide +kernel
theorem dX9_wayOf_10 : decode cX9_wayOf 10 = .ok (.iload_n 2, 1) := by decide +kernel
theorem dX9_wayOf_11 : decode cX9_wayOf 11 = .ok (.aload_n 0, 1) := by decide +kernel
theorem dX9_wayOf_12 : decode cX9_wayOf 12 = .ok (.getfield 28, 3) := by decide +kernel
theorem dX9_wayOf_15 : decode cX9_wayOf 15 = .ok (.iload_n 1, 1) := by decide +kernel
theorem dX9_wayOf_16 : decode cX9_wayOf 16 = .ok (.iaload, 1) := by decide +kernel
theorem dX9_wayOf_17 : decode cX9_wayOf 17 = .ok (.if_icmp .ge 17, 3) := by decide +kernel
theorem dX9_wayOf_20 : decode cX9_wayOf 20 = .ok (.aload_n 0, 1) := by decide +kernel
theorem dX9_wayOf_21 : decode cX9_wayOf 21 = .ok (.getfield 31, 3) := by decide +kernel
theorem dX9_wayOf_24 : decode cX9_wayOf 24 = .ok (.bipush 8, 2) := by decide +kernel
theorem dX9_wayOf_26 : decode cX9_wayOf 26 = .ok (.iload_n 1, 1) := by decide +kernel
theorem dX9_wayOf_27 : decode cX9_wayOf 27 = .ok (.imul, 1) := by decide +kernel
theorem dX9_wayOf_28 : decode cX9_wayOf 28 = .ok (.iload_n 2, 1) := by decide +kernel
theorem dX9_wayOf_29 : decode cX9_wayOf 29 = .ok (.iadd, 1) := by decide +kernel
theorem dX9_wayOf_30 : decode cX9_wayOf 30 = .ok (.iaload, 1) := by decide +kernel
theorem dX9_wayOf_31 : decode cX9_wayOf 31 = .ok (.goto 5, 3) := by decide +kernel
theorem dX9_wayOf_34 : decode cX9_wayOf 34 = .ok (.ldc 106, 2) := by decide +kernel
theorem dX9_wayOf_36 : decode cX9_wayOf 36 = .ok (.ireturn, 1) := by decide +kernel
set_option maxRecDepth 20000 in
theorem ggX9_far_X9_isHall : GoodIn wsX9_far wsX9_isHall := goodIn_r _ [6, 7, 8, 9, 5, 10, 24, 25, 26, 27, 28, 29, 30, 31, 32, 33, 34, 35, 36, 37, 38, 39, 40, 41, 42, 43, 44, 45, 46, 47, 48, 49, 50, 51] (by decide +kernel) (by decide +kernel)
set_option maxRecDepth 20000 in
theorem gX9_far_X9_isHall : GoodIn wsX9_far (wsV RX9 103 RX9 yX9_isHall wsX9_isHall) := goodIn_app (goodIn_of _ (by decide +kernel)) ggX9_far_X9_isHall
set_option maxRecDepth 20000 in
theorem ggX9_far_X9_isTown : GoodIn wsX9_far wsX9_isTown := goodIn_r _ [14, 15, 8, 9, 5, 10, 24, 25, 26, 27, 28, 29, 30, 31, 32, 33, 34, 35, 36, 37, 38, 39, 40, 41, 42, 43, 44, 45, 46, 47, 48, 49, 50, 51] (by decide +kernel) (by decide +kernel)
set_option maxRecDepth 20000 in
theorem gX9_far_X9_isTown : GoodIn wsX9_far (wsV RX9 98 RX9 yX9_isTown wsX9_isTown) := goodIn_app (goodIn_of _ (by decide +kernel)) ggX9_far_X9_isTown
set_option maxRecDepth 20000 in
theorem ggX9_far_X9_wayOf : GoodIn wsX9_far wsX9_wayOf := goodIn_r _ [19, 20, 21, 22, 23, 24, 25, 26, 27, 28, 29, 30, 31, 32, 33, 34, 35, 36, 37, 38, 39, 40, 41, 42, 43, 44, 45, 46, 47, 48, 49, 50, 51] (by decide +kernel) (by decide +kernel)
set_option maxRecDepth 20000 in
theorem gX9_far_X9_wayOf : GoodIn wsX9_far (wsV RX9 107 RX9 yX9_wayOf wsX9_wayOf) := goodIn_app (goodIn_of _ (by decide +kernel)) ggX9_far_X9_wayOf
theorem dX9_far_0 : decode cX9_far 0 = .ok (.aload_n 0, 1) := by decide +kernel
theorem dX9_far_1 : decode cX9_far 1 = .ok (.iconst 0, 1) := by decide +kernel
theorem dX9_far_2 : decode cX9_far 2 = .ok (.putfield 58, 3) := by decide +kernel
theorem dX9_far_5 : decode cX9_far 5 = .ok (.aload_n 0, 1) := by decide +kernel
theorem dX9_far_6 : decode cX9_far 6 = .ok (.iload_n 1, 1) := by decide +kernel
theorem dX9_far_7 : decode cX9_far 7 = .ok (.invokevirtual 103, 3) := by decide +kernel
theorem dX9_far_10 : decode cX9_far 10 = .ok (.ifCond .eq 20, 3) := by decide +kernel
theorem dX9_far_13 : decode cX9_far 13 = .ok (.aload_n 0, 1) := by decide +kernel
theorem dX9_far_14 : decode cX9_far 14 = .ok (.iload_n 2, 1) := by decide +kernel
theorem dX9_far_15 : decode cX9_far 15 = .ok (.invokevirtual 98, 3) := by decide +kernel
theorem dX9_far_18 : decode cX9_far 18 = .ok (.ifCond .eq 12, 3) := by decide +kernel
theorem dX9_far_21 : decode cX9_far 21 = .ok (.aload_n 0, 1) := by decide +kernel
theorem dX9_far_22 : decode cX9_far 22 = .ok (.iload_n 1, 1) := by decide +kernel
theorem dX9_far_23 : decode cX9_far 23 = .ok (.iload_n 2, 1) := by decide +kernel
theorem dX9_far_24 : decode cX9_far 24 = .ok (.invokevirtual 107, 3) := by decide +kernel
theorem dX9_far_27 : decode cX9_far 27 = .ok (.goto 5, 3) := by decide +kernel
theorem dX9_far_30 : decode cX9_far 30 = .ok (.bipush (-3), 2) := by decide +kernel
theorem dX9_far_32 : decode cX9_far 32 = .ok (.ireturn, 1) := by decide +kernel
set_option maxRecDepth 20000 in
theorem ggX9_about_X9_isTown : GoodIn wsX9_about wsX9_isTown := goodIn_r _ [13, 14, 15, 16, 12, 17, 23, 24, 25, 26, 27, 28, 29, 30, 31, 32, 33, 34, 35, 36, 37, 38, 39, 40, 41, 42, 43, 44, 45, 46, 47, 48, 49, 50] (by decide +kernel) (by decide +kernel)
set_option maxRecDepth 20000 in
theorem gX9_about_X9_isTown : GoodIn wsX9_about (wsV RX9 98 RX9 yX9_isTown wsX9_isTown) := goodIn_app (goodIn_of _ (by decide +kernel)) ggX9_about_X9_isTown
set_option maxRecDepth 20000 in
theorem ggX9_about_X9_in : GoodIn wsX9_about wsX9_in := goodIn_r _ [17] (by decide +kernel) (by decide +kernel)
set_option maxRecDepth 20000 in
theorem gX9_about_X9_in : GoodIn wsX9_about (va_wsS RX9 91 yX9_in wsX9_in) := goodIn_app (goodIn_of _ (by decide +kernel)) ggX9_about_X9_in
set_option maxRecDepth 20000 in
theorem ggX9_about_X9_isHall : GoodIn wsX9_about wsX9_isHall := goodIn_r _ [21, 22, 15, 16, 12, 17, 23, 24, 25, 26, 27, 28, 29, 30, 31, 32, 33, 34, 35, 36, 37, 38, 39, 40, 41, 42, 43, 44, 45, 46, 47, 48, 49, 50] (by decide +kernel) (by decide +kernel)
set_option maxRecDepth 20000 in
theorem gX9_about_X9_isHall : GoodIn wsX9_about (wsV RX9 103 RX9 yX9_isHall wsX9_isHall) := goodIn_app (goodIn_of _ (by decide +kernel)) ggX9_about_X9_isHall
theorem dX9_about_0 : decode cX9_about 0 = .ok (.aload_n 0, 1) := by decide +kernel
theorem dX9_about_1 : decode cX9_about 1 = .ok (.iconst 0, 1) := by decide +kernel
theorem dX9_about_2 : decode cX9_about 2 = .ok (.putfield 58, 3) := by decide +kernel
theorem dX9_about_5 : decode cX9_about 5 = .ok (.iload_n 1, 1) := by decide +kernel
theorem dX9_about_6 : decode cX9_about 6 = .ok (.ifCond .ne 58, 3) := by decide +kernel
theorem dX9_about_9 : decode cX9_about 9 = .ok (.aload_n 0, 1) := by decide +kernel
theorem dX9_about_10 : decode cX9_about 10 = .ok (.iload_n 2, 1) := by decide +kernel
theorem dX9_about_11 : decode cX9_about 11 = .ok (.invokevirtual 98, 3) := by decide +kernel
theorem dX9_about_14 : decode cX9_about 14 = .ok (.ifCond .eq 50, 3) := by decide +kernel
theorem dX9_about_17 : decode cX9_about 17 = .ok (.iload_n 3, 1) := by decide +kernel
theorem dX9_about_18 : decode cX9_about 18 = .ok (.iconst 0, 1) := by decide +kernel
theorem dX9_about_19 : decode cX9_about 19 = .ok (.iconst 2, 1) := by decide +kernel
theorem dX9_about_20 : decode cX9_about 20 = .ok (.invokestatic 91, 3) := by decide +kernel
theorem dX9_about_23 : decode cX9_about 23 = .ok (.ifCond .eq 41, 3) := by decide +kernel
theorem dX9_about_26 : decode cX9_about 26 = .ok (.iload_n 3, 1) := by decide +kernel
theorem dX9_about_27 : decode cX9_about 27 = .ok (.ifCond .ne 12, 3) := by decide +kernel
theorem dX9_about_30 : decode cX9_about 30 = .ok (.aload_n 0, 1) := by decide +kernel
theorem dX9_about_31 : decode cX9_about 31 = .ok (.getfield 7, 3) := by decide +kernel
theorem dX9_about_34 : decode cX9_about 34 = .ok (.iload_n 2, 1) := by decide +kernel
theorem dX9_about_35 : decode cX9_about 35 = .ok (.iaload, 1) := by decide +kernel
theorem dX9_about_36 : decode cX9_about 36 = .ok (.goto 27, 3) := by decide +kernel
theorem dX9_about_39 : decode cX9_about 39 = .ok (.iload_n 3, 1) := by decide +kernel
theorem dX9_about_40 : decode cX9_about 40 = .ok (.iconst 1, 1) := by decide +kernel
theorem dX9_about_41 : decode cX9_about 41 = .ok (.if_icmp .ne 12, 3) := by decide +kernel
theorem dX9_about_44 : decode cX9_about 44 = .ok (.aload_n 0, 1) := by decide +kernel
theorem dX9_about_45 : decode cX9_about 45 = .ok (.getfield 13, 3) := by decide +kernel
theorem dX9_about_48 : decode cX9_about 48 = .ok (.iload_n 2, 1) := by decide +kernel
theorem dX9_about_49 : decode cX9_about 49 = .ok (.iaload, 1) := by decide +kernel
theorem dX9_about_50 : decode cX9_about 50 = .ok (.goto 13, 3) := by decide +kernel
theorem dX9_about_53 : decode cX9_about 53 = .ok (.aload_n 0, 1) := by decide +kernel
theorem dX9_about_54 : decode cX9_about 54 = .ok (.getfield 16, 3) := by decide +kernel
theorem dX9_about_57 : decode cX9_about 57 = .ok (.iload_n 2, 1) := by decide +kernel
theorem dX9_about_58 : decode cX9_about 58 = .ok (.iaload, 1) := by decide +kernel
theorem dX9_about_59 : decode cX9_about 59 = .ok (.sipush 1000, 3) := by decide +kernel
theorem dX9_about_62 : decode cX9_about 62 = .ok (.iadd, 1) := by decide +kernel
theorem dX9_about_63 : decode cX9_about 63 = .ok (.ireturn, 1) := by decide +kernel
theorem dX9_about_64 : decode cX9_about 64 = .ok (.iload_n 1, 1) := by decide +kernel
theorem dX9_about_65 : decode cX9_about 65 = .ok (.iconst 1, 1) := by decide +kernel
theorem dX9_about_66 : decode cX9_about 66 = .ok (.if_icmp .ne 68, 3) := by decide +kernel
theorem dX9_about_69 : decode cX9_about 69 = .ok (.aload_n 0, 1) := by decide +kernel
theorem dX9_about_70 : decode cX9_about 70 = .ok (.iload_n 2, 1) := by decide +kernel
theorem dX9_about_71 : decode cX9_about 71 = .ok (.invokevirtual 103, 3) := by decide +kernel
theorem dX9_about_74 : decode cX9_about 74 = .ok (.ifCond .eq 60, 3) := by decide +kernel
theorem dX9_about_77 : decode cX9_about 77 = .ok (.iload_n 3, 1) := by decide +kernel
theorem dX9_about_78 : decode cX9_about 78 = .ok (.iconst 0, 1) := by decide +kernel
theorem dX9_about_79 : decode cX9_about 79 = .ok (.iconst 3, 1) := by decide +kernel
theorem dX9_about_80 : decode cX9_about 80 = .ok (.invokestatic 91, 3) := by decide +kernel
theorem dX9_about_83 : decode cX9_about 83 = .ok (.ifCond .eq 51, 3) := by decide +kernel
theorem dX9_about_86 : decode cX9_about 86 = .ok (.iload_n 3, 1) := by decide +kernel
theorem dX9_about_87 : decode cX9_about 87 = .ok (.ifCond .ne 12, 3) := by decide +kernel
theorem dX9_about_90 : decode cX9_about 90 = .ok (.aload_n 0, 1) := by decide +kernel
theorem dX9_about_91 : decode cX9_about 91 = .ok (.getfield 19, 3) := by decide +kernel
theorem dX9_about_94 : decode cX9_about 94 = .ok (.iload_n 2, 1) := by decide +kernel
theorem dX9_about_95 : decode cX9_about 95 = .ok (.iaload, 1) := by decide +kernel
theorem dX9_about_96 : decode cX9_about 96 = .ok (.goto 37, 3) := by decide +kernel
theorem dX9_about_99 : decode cX9_about 99 = .ok (.iload_n 3, 1) := by decide +kernel
theorem dX9_about_100 : decode cX9_about 100 = .ok (.iconst 1, 1) := by decide +kernel
theorem dX9_about_101 : decode cX9_about 101 = .ok (.if_icmp .ne 12, 3) := by decide +kernel
theorem dX9_about_104 : decode cX9_about 104 = .ok (.aload_n 0, 1) := by decide +kernel
theorem dX9_about_105 : decode cX9_about 105 = .ok (.getfield 22, 3) := by decide +kernel
theorem dX9_about_108 : decode cX9_about 108 = .ok (.iload_n 2, 1) := by decide +kernel
theorem dX9_about_109 : decode cX9_about 109 = .ok (.iaload, 1) := by decide +kernel
theorem dX9_about_110 : decode cX9_about 110 = .ok (.goto 23, 3) := by decide +kernel
theorem dX9_about_113 : decode cX9_about 113 = .ok (.iload_n 3, 1) := by decide +kernel
theorem dX9_about_114 : decode cX9_about 114 = .ok (.iconst 2, 1) := by decide +kernel
theorem dX9_about_115 : decode cX9_about 115 = .ok (.if_icmp .ne 12, 3) := by decide +kernel
theorem dX9_about_118 : decode cX9_about 118 = .ok (.aload_n 0, 1) := by decide +kernel
theorem dX9_about_119 : decode cX9_about 119 = .ok (.getfield 25, 3) := by decide +kernel
