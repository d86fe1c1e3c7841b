theorem dX8_better_0 : decode cX8_better 0 = .ok (.iload_n 1, 1) := by decide +kernel
theorem dX8_better_1 : decode cX8_better 1 = .ok (.invokestatic 179, 3) := by decide +kernel
theorem dX8_better_4 : decode cX8_better 4 = .ok (.ifCond .eq 13, 3) := by decide +kernel
theorem dX8_better_7 : decode cX8_better 7 = .ok (.iload_n 2, 1) := by decide +kernel
theorem dX8_better_8 : decode cX8_better 8 = .ok (.iconst 1, 1) := by decide +kernel
theorem dX8_better_9 : decode cX8_better 9 = .ok (.bipush 60, 2) := by decide +kernel
theorem dX8_better_11 : decode cX8_better 11 = .ok (.invokestatic 92, 3) := by decide +kernel
theorem dX8_better_14 : decode cX8_better 14 = .ok (.ifCond .ne 6, 3) := by decide +kernel
theorem dX8_better_17 : decode cX8_better 17 = .ok (.bipush (-3), 2) := by decide +kernel
theorem dX8_better_19 : decode cX8_better 19 = .ok (.ireturn, 1) := by decide +kernel
theorem dX8_better_20 : decode cX8_better 20 = .ok (.aload_n 0, 1) := by decide +kernel
theorem dX8_better_21 : decode cX8_better 21 = .ok (.invokevirtual 182, 3) := by decide +kernel
theorem dX8_better_24 : decode cX8_better 24 = .ok (.iload_n 1, 1) := by decide +kernel
theorem dX8_better_25 : decode cX8_better 25 = .ok (.iconst (-1), 1) := by decide +kernel
theorem dX8_better_26 : decode cX8_better 26 = .ok (.invokevirtual 203, 3) := by decide +kernel
theorem dX8_better_29 : decode cX8_better 29 = .ok (.iconst 0, 1) := by decide +kernel
theorem dX8_better_30 : decode cX8_better 30 = .ok (.istore_n 3, 1) := by decide +kernel
theorem dX8_better_31 : decode cX8_better 31 = .ok (.iload_n 3, 1) := by decide +kernel
theorem dX8_better_32 : decode cX8_better 32 = .ok (.iload_n 2, 1) := by decide +kernel
theorem dX8_better_33 : decode cX8_better 33 = .ok (.if_icmp .ge 39, 3) := by decide +kernel
theorem dX8_better_36 : decode cX8_better 36 = .ok (.aload_n 0, 1) := by decide +kernel
theorem dX8_better_37 : decode cX8_better 37 = .ok (.getfield 46, 3) := by decide +kernel
theorem dX8_better_40 : decode cX8_better 40 = .ok (.aload_n 0, 1) := by decide +kernel
theorem dX8_better_41 : decode cX8_better 41 = .ok (.getfield 167, 3) := by decide +kernel
theorem dX8_better_44 : decode cX8_better 44 = .ok (.invokevirtual 219, 3) := by decide +kernel
theorem dX8_better_47 : decode cX8_better 47 = .ok (.istore 4, 2) := by decide +kernel
theorem dX8_better_49 : decode cX8_better 49 = .ok (.iload 4, 2) := by decide +kernel
theorem dX8_better_51 : decode cX8_better 51 = .ok (.aload_n 0, 1) := by decide +kernel
theorem dX8_better_52 : decode cX8_better 52 = .ok (.getfield 167, 3) := by decide +kernel
theorem dX8_better_55 : decode cX8_better 55 = .ok (.if_icmp .ne 5, 3) := by decide +kernel
theorem dX8_better_58 : decode cX8_better 58 = .ok (.iload_n 3, 1) := by decide +kernel
theorem dX8_better_59 : decode cX8_better 59 = .ok (.ireturn, 1) := by decide +kernel
theorem dX8_better_60 : decode cX8_better 60 = .ok (.aload_n 0, 1) := by decide +kernel
theorem dX8_better_61 : decode cX8_better 61 = .ok (.iload 4, 2) := by decide +kernel
theorem dX8_better_63 : decode cX8_better 63 = .ok (.putfield 167, 3) := by decide +kernel
theorem dX8_better_66 : decode cX8_better 66 = .ok (.iinc 3 1, 3) := by decide +kernel
theorem dX8_better_69 : decode cX8_better 69 = .ok (.goto (-38), 3) := by decide +kernel
theorem dX8_better_72 : decode cX8_better 72 = .ok (.iload_n 2, 1) := by decide +kernel
theorem dX8_better_73 : decode cX8_better 73 = .ok (.ireturn, 1) := by decide +kernel
set_option maxRecDepth 20000 in
theorem ggX8_claim_X5_hasTown : GoodIn wsX8_claim wsX5_hasTown := goodIn_r _ [9, 10, 27, 28, 29, 30, 31, 32, 33, 34, 35, 36] (by decide +kernel) (by decide +kernel)
set_option maxRecDepth 20000 in
theorem gX8_claim_X5_hasTown : GoodIn wsX8_claim (wsV RX8 88 RX5 yX5_hasTown wsX5_hasTown) := goodIn_app (goodIn_of _ (by decide +kernel)) ggX8_claim_X5_hasTown
set_option maxRecDepth 20000 in
theorem ggX8_claim_X8_within : GoodIn wsX8_claim wsX8_within := goodIn_r _ [14] (by decide +kernel) (by decide +kernel)
set_option maxRecDepth 20000 in
theorem gX8_claim_X8_within : GoodIn wsX8_claim (va_wsS RX8 92 yX8_within wsX8_within) := goodIn_app (goodIn_of _ (by decide +kernel)) ggX8_claim_X8_within
theorem dX8_claim_0 : decode cX8_claim 0 = .ok (.aload_n 0, 1) := by decide +kernel
theorem dX8_claim_1 : decode cX8_claim 1 = .ok (.getfield 12, 3) := by decide +kernel
theorem dX8_claim_4 : decode cX8_claim 4 = .ok (.iload_n 1, 1) := by decide +kernel
theorem dX8_claim_5 : decode cX8_claim 5 = .ok (.invokevirtual 88, 3) := by decide +kernel
theorem dX8_claim_8 : decode cX8_claim 8 = .ok (.ifCond .eq 13, 3) := by decide +kernel
theorem dX8_claim_11 : decode cX8_claim 11 = .ok (.iload_n 2, 1) := by decide +kernel
theorem dX8_claim_12 : decode cX8_claim 12 = .ok (.iconst 0, 1) := by decide +kernel
theorem dX8_claim_13 : decode cX8_claim 13 = .ok (.ldc 222, 2) := by decide +kernel
theorem dX8_claim_15 : decode cX8_claim 15 = .ok (.invokestatic 92, 3) := by decide +kernel
theorem dX8_claim_18 : decode cX8_claim 18 = .ok (.ifCond .ne 6, 3) := by decide +kernel
theorem dX8_claim_21 : decode cX8_claim 21 = .ok (.bipush (-3), 2) := by decide +kernel
theorem dX8_claim_23 : decode cX8_claim 23 = .ok (.ireturn, 1) := by decide +kernel
theorem dX8_claim_24 : decode cX8_claim 24 = .ok (.aload_n 0, 1) := by decide +kernel
theorem dX8_claim_25 : decode cX8_claim 25 = .ok (.getfield 53, 3) := by decide +kernel
theorem dX8_claim_28 : decode cX8_claim 28 = .ok (.getfield 223, 3) := by decide +kernel
theorem dX8_claim_31 : decode cX8_claim 31 = .ok (.iload_n 1, 1) := by decide +kernel
theorem dX8_claim_32 : decode cX8_claim 32 = .ok (.iaload, 1) := by decide +kernel
theorem dX8_claim_33 : decode cX8_claim 33 = .ok (.istore_n 3, 1) := by decide +kernel
theorem dX8_claim_34 : decode cX8_claim 34 = .ok (.aload_n 0, 1) := by decide +kernel
theorem dX8_claim_35 : decode cX8_claim 35 = .ok (.getfield 53, 3) := by decide +kernel
theorem dX8_claim_38 : decode cX8_claim 38 = .ok (.getfield 223, 3) := by decide +kernel
theorem dX8_claim_41 : decode cX8_claim 41 = .ok (.iload_n 1, 1) := by decide +kernel
theorem dX8_claim_42 : decode cX8_claim 42 = .ok (.iload_n 2, 1) := by decide +kernel
theorem dX8_claim_43 : decode cX8_claim 43 = .ok (.iastore, 1) := by decide +kernel
theorem dX8_claim_44 : decode cX8_claim 44 = .ok (.iload_n 3, 1) := by decide +kernel
theorem dX8_claim_45 : decode cX8_claim 45 = .ok (.ireturn, 1) := by decide +kernel
set_option maxRecDepth 20000 in
theorem ggX8_claimed_X5_hasTown : GoodIn wsX8_claimed wsX5_hasTown := goodIn_r _ [8, 9, 22, 23, 24, 25, 26, 27, 28, 29, 30, 31] (by decide +kernel) (by decide +kernel)
set_option maxRecDepth 20000 in
theorem gX8_claimed_X5_hasTown : GoodIn wsX8_claimed (wsV RX8 88 RX5 yX5_hasTown wsX5_hasTown) := goodIn_app (goodIn_of _ (by decide +kernel)) ggX8_claimed_X5_hasTown
theorem dX8_claimed_0 : decode cX8_claimed 0 = .ok (.aload_n 0, 1) := by decide +kernel
theorem dX8_claimed_1 : decode cX8_claimed 1 = .ok (.getfield 12, 3) := by decide +kernel
theorem dX8_claimed_4 : decode cX8_claimed 4 = .ok (.iload_n 1, 1) := by decide +kernel
theorem dX8_claimed_5 : decode cX8_claimed 5 = .ok (.invokevirtual 88, 3) := by decide +kernel
theorem dX8_claimed_8 : decode cX8_claimed 8 = .ok (.ifCond .eq 15, 3) := by decide +kernel
theorem dX8_claimed_11 : decode cX8_claimed 11 = .ok (.aload_n 0, 1) := by decide +kernel
theorem dX8_claimed_12 : decode cX8_claimed 12 = .ok (.getfield 53, 3) := by decide +kernel
theorem dX8_claimed_15 : decode cX8_claimed 15 = .ok (.getfield 223, 3) := by decide +kernel
theorem dX8_claimed_18 : decode cX8_claimed 18 = .ok (.iload_n 1, 1) := by decide +kernel
theorem dX8_claimed_19 : decode cX8_claimed 19 = .ok (.iaload, 1) := by decide +kernel
theorem dX8_claimed_20 : decode cX8_claimed 20 = .ok (.goto 5, 3) := by decide +kernel
theorem dX8_claimed_23 : decode cX8_claimed 23 = .ok (.bipush (-3), 2) := by decide +kernel
theorem dX8_claimed_25 : decode cX8_claimed 25 = .ok (.ireturn, 1) := by decide +kernel
set_option maxRecDepth 20000 in
theorem ggX8_holds_X0_firstBroken : GoodIn wsX8_holds wsX0_firstBroken := goodIn_r _ [7, 8, 9, 10, 11, 12, 13, 14, 15, 16, 17, 18, 19, 20, 21, 22, 23, 45, 46, 47, 48, 49, 50, 51, 52, 53, 54, 55, 56, 57] (by decide +kernel) (by decide +kernel)
set_option maxRecDepth 20000 in
theorem gX8_holds_X0_firstBroken : GoodIn wsX8_holds (wsV RX8 226 RX0 yX0_firstBroken wsX0_firstBroken) := goodIn_app (goodIn_of _ (by decide +kernel)) ggX8_holds_X0_firstBroken
set_option maxRecDepth 20000 in
theorem ggX8_holds_X5_everyTown : GoodIn wsX8_holds wsX5_everyTown := goodIn_r _ [27, 28, 48, 49, 50, 51, 52, 53, 54, 55, 56, 57] (by decide +kernel) (by decide +kernel)
set_option maxRecDepth 20000 in
theorem gX8_holds_X5_everyTown : GoodIn wsX8_holds (wsV RX8 229 RX5 yX5_everyTown wsX5_everyTown) := goodIn_app (goodIn_of _ (by decide +kernel)) ggX8_holds_X5_everyTown
set_option maxRecDepth 20000 in
theorem ggX8_holds_X0_together : GoodIn wsX8_holds wsX0_together := goodIn_r _ [32, 8, 10, 11, 33, 34, 20, 35, 45, 46, 47, 48, 49, 50, 51, 52, 53, 54, 55, 56, 57] (by decide +kernel) (by decide +kernel)
set_option maxRecDepth 20000 in
theorem gX8_holds_X0_together : GoodIn wsX8_holds (wsV RX8 232 RX0 yX0_together wsX0_together) := goodIn_app (goodIn_of _ (by decide +kernel)) ggX8_holds_X0_together
theorem dX8_holds_0 : decode cX8_holds 0 = .ok (.aload_n 0, 1) := by decide +kernel
theorem dX8_holds_1 : decode cX8_holds 1 = .ok (.getfield 53, 3) := by decide +kernel
theorem dX8_holds_4 : decode cX8_holds 4 = .ok (.invokevirtual 226, 3) := by decide +kernel
theorem dX8_holds_7 : decode cX8_holds 7 = .ok (.istore_n 1, 1) := by decide +kernel
theorem dX8_holds_8 : decode cX8_holds 8 = .ok (.iload_n 1, 1) := by decide +kernel
theorem dX8_holds_9 : decode cX8_holds 9 = .ok (.iconst (-1), 1) := by decide +kernel
theorem dX8_holds_10 : decode cX8_holds 10 = .ok (.if_icmp .ne 20, 3) := by decide +kernel
theorem dX8_holds_13 : decode cX8_holds 13 = .ok (.aload_n 0, 1) := by decide +kernel
theorem dX8_holds_14 : decode cX8_holds 14 = .ok (.getfield 53, 3) := by decide +kernel
theorem dX8_holds_17 : decode cX8_holds 17 = .ok (.aload_n 0, 1) := by decide +kernel
theorem dX8_holds_18 : decode cX8_holds 18 = .ok (.getfield 12, 3) := by decide +kernel
theorem dX8_holds_21 : decode cX8_holds 21 = .ok (.invokevirtual 229, 3) := by decide +kernel
theorem dX8_holds_24 : decode cX8_holds 24 = .ok (.invokevirtual 232, 3) := by decide +kernel
theorem dX8_holds_27 : decode cX8_holds 27 = .ok (.goto 7, 3) := by decide +kernel
theorem dX8_holds_30 : decode cX8_holds 30 = .ok (.bipush (-100), 2) := by decide +kernel
theorem dX8_holds_32 : decode cX8_holds 32 = .ok (.iload_n 1, 1) := by decide +kernel
theorem dX8_holds_33 : decode cX8_holds 33 = .ok (.isub, 1) := by decide +kernel
theorem dX8_holds_34 : decode cX8_holds 34 = .ok (.ireturn, 1) := by decide +kernel
set_option maxRecDepth 20000 in
theorem ggX8_raise_X0_raiseAll : GoodIn wsX8_raise wsX0_raiseAll := goodIn_r _ [8, 9, 10, 11, 12, 13, 14, 15, 16, 17, 18, 19, 20, 21, 22, 23, 24, 7, 25, 26, 27, 28, 29, 30, 31, 32, 33, 34, 35, 36, 37, 38, 39, 40, 41, 42, 43, 44, 45, 46, 47, 48, 49, 50, 51, 52, 53, 54, 55, 56, 57, 58, 59, 60, 61, 62, 63, 64, 65, 66, 67, 68, 69, 70, 71, 100, 101, 102, 90, 91, 92, 93, 94, 95, 96, 97, 98, 99] (by decide +kernel) (by decide +kernel)
set_option maxRecDepth 20000 in
theorem gX8_raise_X0_raiseAll : GoodIn wsX8_raise (wsV RX8 235 RX0 yX0_raiseAll wsX0_raiseAll) := goodIn_app (goodIn_of _ (by decide +kernel)) ggX8_raise_X0_raiseAll
set_option maxRecDepth 20000 in
theorem ggX8_raise_X5_everyTown : GoodIn wsX8_raise wsX5_everyTown := goodIn_r _ [75, 76, 90, 91, 92, 93, 94, 95, 96, 97, 98, 99] (by decide +kernel) (by decide +kernel)
set_option maxRecDepth 20000 in
theorem gX8_raise_X5_everyTown : GoodIn wsX8_raise (wsV RX8 229 RX5 yX5_everyTown wsX5_everyTown) := goodIn_app (goodIn_of _ (by decide +kernel)) ggX8_raise_X5_everyTown
set_option maxRecDepth 20000 in
theorem ggX8_raise_X0_together : GoodIn wsX8_raise wsX0_together := goodIn_r _ [80, 10, 26, 9, 57, 58, 38, 59, 100, 101, 102, 90, 91, 92, 93, 94, 95, 96, 97, 98, 99] (by decide +kernel) (by decide +kernel)
set_option maxRecDepth 20000 in
theorem gX8_raise_X0_together : GoodIn wsX8_raise (wsV RX8 232 RX0 yX0_together wsX0_together) := goodIn_app (goodIn_of _ (by decide +kernel)) ggX8_raise_X0_together
theorem dX8_raise_0 : decode cX8_raise 0 = .ok (.aload_n 0, 1) := by decide +kernel
theorem dX8_raise_1 : decode cX8_raise 1 = .ok (.getfield 12, 3) := by decide +kernel
theorem dX8_raise_4 : decode cX8_raise 4 = .ok (.getfield 82, 3) := by decide +kernel
theorem dX8_raise_7 : decode cX8_raise 7 = .ok (.ifCond .ne 6, 3) := by decide +kernel
theorem dX8_raise_10 : decode cX8_raise 10 = .ok (.bipush (-4), 2) := by decide +kernel
theorem dX8_raise_12 : decode cX8_raise 12 = .ok (.ireturn, 1) := by decide +kernel
theorem dX8_raise_13 : decode cX8_raise 13 = .ok (.aload_n 0, 1) := by decide +kernel
theorem dX8_raise_14 : decode cX8_raise 14 = .ok (.getfield 53, 3) := by decide +kernel
theorem dX8_raise_17 : decode cX8_raise 17 = .ok (.invokevirtual 235, 3) := by decide +kernel
theorem dX8_raise_20 : decode cX8_raise 20 = .ok (.aload_n 0, 1) := by decide +kernel
theorem dX8_raise_21 : decode cX8_raise 21 = .ok (.getfield 53, 3) := by decide +kernel
theorem dX8_raise_24 : decode cX8_raise 24 = .ok (.aload_n 0, 1) := by decide +kernel
theorem dX8_raise_25 : decode cX8_raise 25 = .ok (.getfield 12, 3) := by decide +kernel
theorem dX8_raise_28 : decode cX8_raise 28 = .ok (.invokevirtual 229, 3) := by decide +kernel
theorem dX8_raise_31 : decode cX8_raise 31 = .ok (.invokevirtual 232, 3) := by decide +kernel
theorem dX8_raise_34 : decode cX8_raise 34 = .ok (.ireturn, 1) := by decide +kernel
set_option maxRecDepth 20000 in
theorem ggX8_fair_X2_refresh : GoodIn wsX8_fair wsX2_refresh := goodIn_r _ [10, 11, 12, 13, 14, 15, 16, 17, 18, 19, 20, 21, 22, 23, 24, 25, 26, 27, 28, 29, 30, 31, 32, 33, 34, 35, 36, 37, 38, 39, 40, 41, 42, 43, 44, 45, 46, 47, 48, 49, 50, 51, 52, 53, 54, 55, 56, 9, 57, 58, 59, 60, 61, 62, 63, 64, 65, 66, 102, 103, 104, 105, 106, 107, 108, 109, 110, 111, 92, 93, 94, 95, 96, 97, 98, 99, 100, 101] (by decide +kernel) (by decide +kernel)
set_option maxRecDepth 20000 in
theorem gX8_fair_X2_refresh : GoodIn wsX8_fair (wsV RX8 238 RX2 yX2_refresh wsX2_refresh) := goodIn_app (goodIn_of _ (by decide +kernel)) ggX8_fair_X2_refresh
set_option maxRecDepth 20000 in
theorem ggX8_fair_X5_everyTown : GoodIn wsX8_fair wsX5_everyTown := goodIn_r _ [70, 71, 92, 93, 94, 95, 96, 97, 98, 99, 100, 101] (by decide +kernel) (by decide +kernel)
set_option maxRecDepth 20000 in
theorem gX8_fair_X5_everyTown : GoodIn wsX8_fair (wsV RX8 229 RX5 yX5_everyTown wsX5_everyTown) := goodIn_app (goodIn_of _ (by decide +kernel)) ggX8_fair_X5_everyTown
set_option maxRecDepth 20000 in
theorem ggX8_fair_X0_together : GoodIn wsX8_fair wsX0_together := goodIn_r _ [76, 77, 78, 79, 80, 81, 42, 82, 112, 113, 114, 92, 93, 94, 95, 96, 97, 98, 99, 100, 101] (by decide +kernel) (by decide +kernel)
set_option maxRecDepth 20000 in
theorem gX8_fair_X0_together : GoodIn wsX8_fair (wsV RX8 232 RX0 yX0_together wsX0_together) := goodIn_app (goodIn_of _ (by decide +kernel)) ggX8_fair_X0_together
theorem dX8_fair_0 : decode cX8_fair 0 = .ok (.aload_n 0, 1) := by decide +kernel
theorem dX8_fair_1 : decode cX8_fair 1 = .ok (.getfield 12, 3) := by decide +kernel
theorem dX8_fair_4 : decode cX8_fair 4 = .ok (.getfield 82, 3) := by decide +kernel
theorem dX8_fair_7 : decode cX8_fair 7 = .ok (.ifCond .ne 5, 3) := by decide +kernel
theorem dX8_fair_10 : decode cX8_fair 10 = .ok (.iconst (-1), 1) := by decide +kernel
theorem dX8_fair_11 : decode cX8_fair 11 = .ok (.ireturn, 1) := by decide +kernel
theorem dX8_fair_12 : decode cX8_fair 12 = .ok (.aload_n 0, 1) := by decide +kernel
theorem dX8_fair_13 : decode cX8_fair 13 = .ok (.getfield 60, 3) := by decide +kernel
theorem dX8_fair_16 : decode cX8_fair 16 = .ok (.invokevirtual 238, 3) := by decide +kernel
theorem dX8_fair_19 : decode cX8_fair 19 = .ok (.aload_n 0, 1) := by decide +kernel
theorem dX8_fair_20 : decode cX8_fair 20 = .ok (.getfield 12, 3) := by decide +kernel
theorem dX8_fair_23 : decode cX8_fair 23 = .ok (.invokevirtual 229, 3) := by decide +kernel
theorem dX8_fair_26 : decode cX8_fair 26 = .ok (.istore_n 1, 1) := by decide +kernel
theorem dX8_fair_27 : decode cX8_fair 27 = .ok (.aload_n 0, 1) := by decide +kernel
theorem dX8_fair_28 : decode cX8_fair 28 = .ok (.getfield 53, 3) := by decide +kernel
theorem dX8_fair_31 : decode cX8_fair 31 = .ok (.iload_n 1, 1) := by decide +kernel
theorem dX8_fair_32 : decode cX8_fair 32 = .ok (.invokevirtual 232, 3) := by decide +kernel
theorem dX8_fair_35 : decode cX8_fair 35 = .ok (.aload_n 0, 1) := by decide +kernel
theorem dX8_fair_36 : decode cX8_fair 36 = .ok (.getfield 60, 3) := by decide +kernel
theorem dX8_fair_39 : decode cX8_fair 39 = .ok (.getfield 241, 3) := by decide +kernel
theorem dX8_fair_42 : decode cX8_fair 42 = .ok (.iload_n 1, 1) := by decide +kernel
theorem dX8_fair_43 : decode cX8_fair 43 = .ok (.iaload, 1) := by decide +kernel
theorem dX8_fair_44 : decode cX8_fair 44 = .ok (.if_icmp .eq 5, 3) := by decide +kernel
theorem dX8_fair_47 : decode cX8_fair 47 = .ok (.iconst 1, 1) := by decide +kernel
theorem dX8_fair_48 : decode cX8_fair 48 = .ok (.ireturn, 1) := by decide +kernel
theorem dX8_fair_49 : decode cX8_fair 49 = .ok (.iconst 1, 1) := by decide +kernel
theorem dX8_fair_50 : decode cX8_fair 50 = .ok (.istore_n 2, 1) := by decide +kernel
theorem dX8_fair_51 : decode cX8_fair 51 = .ok (.iload_n 2, 1) := by decide +kernel
theorem dX8_fair_52 : decode cX8_fair 52 = .ok (.iload_n 1, 1) := by decide +kernel
theorem dX8_fair_53 : decode cX8_fair 53 = .ok (.if_icmp .gt 33, 3) := by decide +kernel
theorem dX8_fair_56 : decode cX8_fair 56 = .ok (.aload_n 0, 1) := by decide +kernel
theorem dX8_fair_57 : decode cX8_fair 57 = .ok (.getfield 53, 3) := by decide +kernel
theorem dX8_fair_60 : decode cX8_fair 60 = .ok (.iload_n 2, 1) := by decide +kernel
theorem dX8_fair_61 : decode cX8_fair 61 = .ok (.invokevirtual 232, 3) := by decide +kernel
theorem dX8_fair_64 : decode cX8_fair 64 = .ok (.aload_n 0, 1) := by decide +kernel
theorem dX8_fair_65 : decode cX8_fair 65 = .ok (.getfield 60, 3) := by decide +kernel
theorem dX8_fair_68 : decode cX8_fair 68 = .ok (.getfield 241, 3) := by decide +kernel
theorem dX8_fair_71 : decode cX8_fair 71 = .ok (.iload_n 2, 1) := by decide +kernel
theorem dX8_fair_72 : decode cX8_fair 72 = .ok (.iaload, 1) := by decide +kernel
theorem dX8_fair_73 : decode cX8_fair 73 = .ok (.if_icmp .le 7, 3) := by decide +kernel
theorem dX8_fair_76 : decode cX8_fair 76 = .ok (.iconst 2, 1) := by decide +kernel
theorem dX8_fair_77 : decode cX8_fair 77 = .ok (.iload_n 2, 1) := by decide +kernel
theorem dX8_fair_78 : decode cX8_fair 78 = .ok (.iadd, 1) := by decide +kernel
theorem dX8_fair_79 : decode cX8_fair 79 = .ok (.ireturn, 1) := by decide +kernel
theorem dX8_fair_80 : decode cX8_fair 80 = .ok (.iinc 2 1, 3) := by decide +kernel
theorem dX8_fair_83 : decode cX8_fair 83 = .ok (.goto (-32), 3) := by decide +kernel
theorem dX8_fair_86 : decode cX8_fair 86 = .ok (.iconst 0, 1) := by decide +kernel
theorem dX8_fair_87 : decode cX8_fair 87 = .ok (.ireturn, 1) := by decide +kernel
set_option maxRecDepth 20000 in
theorem ggX8_share_X5_hasTown : GoodIn wsX8_share wsX5_hasTown := goodIn_r _ [12, 13, 114, 115, 116, 117, 118, 119, 120, 121, 122, 123] (by decide +kernel) (by decide +kernel)
set_option maxRecDepth 20000 in
theorem gX8_share_X5_hasTown : GoodIn wsX8_share (wsV RX8 88 RX5 yX5_hasTown wsX5_hasTown) := goodIn_app (goodIn_of _ (by decide +kernel)) ggX8_share_X5_hasTown
set_option maxRecDepth 20000 in
theorem ggX8_share_X8_within : GoodIn wsX8_share wsX8_within := goodIn_r _ [17] (by decide +kernel) (by decide +kernel)
set_option maxRecDepth 20000 in
theorem gX8_share_X8_within : GoodIn wsX8_share (va_wsS RX8 92 yX8_within wsX8_within) := goodIn_app (goodIn_of _ (by decide +kernel)) ggX8_share_X8_within
set_option maxRecDepth 20000 in
theorem ggX8_share_X2_refresh : GoodIn wsX8_share wsX2_refresh := goodIn_r _ [22, 23, 24, 25, 26, 27, 28, 29, 30, 31, 32, 33, 34, 35, 36, 37, 38, 39, 40, 41, 42, 43, 44, 45, 46, 47, 48, 49, 50, 51, 52, 53, 11, 54, 55, 56, 57, 58, 59, 60, 61, 62, 63, 64, 65, 66, 67, 21, 68, 69, 70, 71, 72, 73, 74, 75, 76, 77, 124, 125, 126, 127, 128, 129, 130, 131, 132, 133, 114, 115, 116, 117, 118, 119, 120, 121, 122, 123] (by decide +kernel) (by decide +kernel)
set_option maxRecDepth 20000 in
theorem gX8_share_X2_refresh : GoodIn wsX8_share (wsV RX8 238 RX2 yX2_refresh wsX2_refresh) := goodIn_app (goodIn_of _ (by decide +kernel)) ggX8_share_X2_refresh
set_option maxRecDepth 20000 in
theorem ggX8_share_X2_addedInAllOrders : GoodIn wsX8_share wsX2_addedInAllOrders := goodIn_r _ [81, 27, 71, 25, 82, 83, 84, 11, 85, 13, 86, 87, 88, 89, 90, 91, 92, 93, 94, 95, 124, 125, 126, 127, 128, 114, 115, 116, 117, 118, 119, 120, 121, 122, 123] (by decide +kernel) (by decide +kernel)
set_option maxRecDepth 20000 in
theorem gX8_share_X2_addedInAllOrders : GoodIn wsX8_share (wsV RX8 248 RX2 yX2_addedInAllOrders wsX2_addedInAllOrders) := goodIn_app (goodIn_of _ (by decide +kernel)) ggX8_share_X2_addedInAllOrders
set_option maxRecDepth 20000 in
theorem ggX8_share_X8_commonDivisor : GoodIn wsX8_share wsX8_commonDivisor := goodIn_r _ [98, 99, 100, 47, 101, 102, 103, 104] (by decide +kernel) (by decide +kernel)
set_option maxRecDepth 20000 in
theorem gX8_share_X8_commonDivisor : GoodIn wsX8_share (va_wsS RX8 255 yX8_commonDivisor wsX8_commonDivisor) := goodIn_app (goodIn_of _ (by decide +kernel)) ggX8_share_X8_commonDivisor
theorem dX8_share_0 : decode cX8_share 0 = .ok (.aload_n 0, 1) := by decide +kernel
theorem dX8_share_1 : decode cX8_share 1 = .ok (.getfield 12, 3) := by decide +kernel
theorem dX8_share_4 : decode cX8_share 4 = .ok (.iload_n 1, 1) := by decide +kernel
theorem dX8_share_5 : decode cX8_share 5 = .ok (.invokevirtual 88, 3) := by decide +kernel
theorem dX8_share_8 : decode cX8_share 8 = .ok (.ifCond .eq 12, 3) := by decide +kernel
theorem dX8_share_11 : decode cX8_share 11 = .ok (.iload_n 2, 1) := by decide +kernel
theorem dX8_share_12 : decode cX8_share 12 = .ok (.iconst 0, 1) := by decide +kernel
theorem dX8_share_13 : decode cX8_share 13 = .ok (.iconst 1, 1) := by decide +kernel
theorem dX8_share_14 : decode cX8_share 14 = .ok (.invokestatic 92, 3) := by decide +kernel
theorem dX8_share_17 : decode cX8_share 17 = .ok (.ifCond .ne 7, 3) := by decide +kernel
theorem dX8_share_20 : decode cX8_share 20 = .ok (.ldc2_w 244, 3) := by decide +kernel
theorem dX8_share_23 : decode cX8_share 23 = .ok (.lreturn, 1) := by decide +kernel
theorem dX8_share_24 : decode cX8_share 24 = .ok (.aload_n 0, 1) := by decide +kernel
theorem dX8_share_25 : decode cX8_share 25 = .ok (.getfield 12, 3) := by decide +kernel
theorem dX8_share_28 : decode cX8_share 28 = .ok (.getfield 82, 3) := by decide +kernel
theorem dX8_share_31 : decode cX8_share 31 = .ok (.ifCond .ne 7, 3) := by decide +kernel
theorem dX8_share_34 : decode cX8_share 34 = .ok (.ldc2_w 246, 3) := by decide +kernel
theorem dX8_share_37 : decode cX8_share 37 = .ok (.lreturn, 1) := by decide +kernel
theorem dX8_share_38 : decode cX8_share 38 = .ok (.aload_n 0, 1) := by decide +kernel
theorem dX8_share_39 : decode cX8_share 39 = .ok (.getfield 60, 3) := by decide +kernel
theorem dX8_share_42 : decode cX8_share 42 = .ok (.invokevirtual 238, 3) := by decide +kernel
theorem dX8_share_45 : decode cX8_share 45 = .ok (.aload_n 0, 1) := by decide +kernel
theorem dX8_share_46 : decode cX8_share 46 = .ok (.getfield 60, 3) := by decide +kernel
theorem dX8_share_49 : decode cX8_share 49 = .ok (.iload_n 1, 1) := by decide +kernel
theorem dX8_share_50 : decode cX8_share 50 = .ok (.invokevirtual 248, 3) := by decide +kernel
theorem dX8_share_53 : decode cX8_share 53 = .ok (.lstore_n 3, 1) := by decide +kernel
theorem dX8_share_54 : decode cX8_share 54 = .ok (.getstatic 252, 3) := by decide +kernel
theorem dX8_share_57 : decode cX8_share 57 = .ok (.aload_n 0, 1) := by decide +kernel
theorem dX8_share_58 : decode cX8_share 58 = .ok (.getfield 12, 3) := by decide +kernel
theorem dX8_share_61 : decode cX8_share 61 = .ok (.getfield 71, 3) := by decide +kernel
theorem dX8_share_64 : decode cX8_share 64 = .ok (.iaload, 1) := by decide +kernel
theorem dX8_share_65 : decode cX8_share 65 = .ok (.i2l, 1) := by decide +kernel
theorem dX8_share_66 : decode cX8_share 66 = .ok (.lstore 5, 2) := by decide +kernel
theorem dX8_share_68 : decode cX8_share 68 = .ok (.lload_n 3, 1) := by decide +kernel
theorem dX8_share_69 : decode cX8_share 69 = .ok (.lload 5, 2) := by decide +kernel
theorem dX8_share_71 : decode cX8_share 71 = .ok (.invokestatic 255, 3) := by decide +kernel
theorem dX8_share_74 : decode cX8_share 74 = .ok (.lstore 7, 2) := by decide +kernel
theorem dX8_share_76 : decode cX8_share 76 = .ok (.iload_n 2, 1) := by decide +kernel
theorem dX8_share_77 : decode cX8_share 77 = .ok (.ifCond .ne 7, 3) := by decide +kernel
theorem dX8_share_80 : decode cX8_share 80 = .ok (.lload_n 3, 1) := by decide +kernel
theorem dX8_share_81 : decode cX8_share 81 = .ok (.goto 5, 3) := by decide +kernel
theorem dX8_share_84 : decode cX8_share 84 = .ok (.lload 5, 2) := by decide +kernel
theorem dX8_share_86 : decode cX8_share 86 = .ok (.lload 7, 2) := by decide +kernel
theorem dX8_share_88 : decode cX8_share 88 = .ok (.ldiv, 1) := by decide +kernel
theorem dX8_share_89 : decode cX8_share 89 = .ok (.lreturn, 1) := by decide +kernel
set_option maxRecDepth 20000 in
theorem ggX8_line_X8_isLineQuestion : GoodIn wsX8_line wsX8_isLineQuestion := goodIn_r _ [6, 7, 8, 5, 9] (by decide +kernel) (by decide +kernel)
set_option maxRecDepth 20000 in
theorem gX8_line_X8_isLineQuestion : GoodIn wsX8_line (va_wsS RX8 259 yX8_isLineQuestion wsX8_isLineQuestion) := goodIn_app (goodIn_of _ (by decide +kernel)) ggX8_line_X8_isLineQuestion
set_option maxRecDepth 20000 in
theorem ggX8_line_X3_choose : GoodIn wsX8_line wsX3_choose := goodIn_r _ [14, 15, 16, 17, 18, 19, 20, 21, 22, 23, 24, 13, 25, 26, 27, 28, 29, 30, 31, 32, 33, 34, 35, 36, 37, 38, 39, 40, 41, 42, 43, 44, 45, 46, 47, 48, 49, 50, 51, 52, 53, 54, 55, 56, 57, 58, 59, 60, 61, 62, 63, 64, 65, 66, 67, 77, 78, 79, 80, 81, 82, 83, 84, 85, 86, 87, 88, 89, 90, 91] (by decide +kernel) (by decide +kernel)
set_option maxRecDepth 20000 in
theorem gX8_line_X3_choose : GoodIn wsX8_line (wsV RX8 262 RX3 yX3_choose wsX3_choose) := goodIn_app (goodIn_of _ (by decide +kernel)) ggX8_line_X3_choose
theorem dX8_line_0 : decode cX8_line 0 = .ok (.iload_n 1, 1) := by decide +kernel
theorem dX8_line_1 : decode cX8_line 1 = .ok (.iload_n 2, 1) := by decide +kernel
theorem dX8_line_2 : decode cX8_line 2 = .ok (.invokestatic 259, 3) := by decide +kernel
theorem dX8_line_5 : decode cX8_line 5 = .ok (.ifCond .ne 6, 3) := by decide +kernel
theorem dX8_line_8 : decode cX8_line 8 = .ok (.bipush (-3), 2) := by decide +kernel
theorem dX8_line_10 : decode cX8_line 10 = .ok (.ireturn, 1) := by decide +kernel
theorem dX8_line_11 : decode cX8_line 11 = .ok (.aload_n 0, 1) := by decide +kernel
theorem dX8_line_12 : decode cX8_line 12 = .ok (.getfield 67, 3) := by decide +kernel
theorem dX8_line_15 : decode cX8_line 15 = .ok (.iload_n 1, 1) := by decide +kernel
theorem dX8_line_16 : decode cX8_line 16 = .ok (.iload_n 2, 1) := by decide +kernel
theorem dX8_line_17 : decode cX8_line 17 = .ok (.invokevirtual 262, 3) := by decide +kernel
theorem dX8_line_20 : decode cX8_line 20 = .ok (.aload_n 0, 1) := by decide +kernel
theorem dX8_line_21 : decode cX8_line 21 = .ok (.getfield 67, 3) := by decide +kernel
theorem dX8_line_24 : decode cX8_line 24 = .ok (.getfield 265, 3) := by decide +kernel
theorem dX8_line_27 : decode cX8_line 27 = .ok (.ireturn, 1) := by decide +kernel
set_option maxRecDepth 20000 in
theorem ggX8_lineAt_X8_isLineQuestion : GoodIn wsX8_lineAt wsX8_isLineQuestion := goodIn_r _ [5, 6, 7, 4, 8] (by decide +kernel) (by decide +kernel)
set_option maxRecDepth 20000 in
theorem gX8_lineAt_X8_isLineQuestion : GoodIn wsX8_lineAt (va_wsS RX8 259 yX8_isLineQuestion wsX8_isLineQuestion) := goodIn_app (goodIn_of _ (by decide +kernel)) ggX8_lineAt_X8_isLineQuestion
set_option maxRecDepth 20000 in
theorem ggX8_lineAt_X3_choose : GoodIn wsX8_lineAt wsX3_choose := goodIn_r _ [13, 14, 15, 16, 17, 18, 19, 20, 21, 22, 23, 12, 24, 25, 26, 27, 28, 29, 30, 31, 32, 33, 34, 35, 36, 37, 38, 39, 40, 41, 42, 43, 44, 45, 46, 47, 48, 49, 50, 51, 52, 53, 54, 55, 56, 57, 58, 59, 60, 61, 62, 63, 64, 65, 66, 80, 81, 82, 83, 84, 85, 86, 87, 88, 89, 90, 91, 92, 93, 94] (by decide +kernel) (by decide +kernel)
set_option maxRecDepth 20000 in
theorem gX8_lineAt_X3_choose : GoodIn wsX8_lineAt (wsV RX8 262 RX3 yX3_choose wsX3_choose) := goodIn_app (goodIn_of _ (by decide +kernel)) ggX8_lineAt_X3_choose
set_option maxRecDepth 20000 in
theorem ggX8_lineAt_X3_chosenAt : GoodIn wsX8_lineAt wsX3_chosenAt := goodIn_r _ [70, 14, 19, 32, 52, 53, 54, 12, 55, 56, 57, 58, 59, 80, 81, 82, 83, 84] (by decide +kernel) (by decide +kernel)
set_option maxRecDepth 20000 in
theorem gX8_lineAt_X3_chosenAt : GoodIn wsX8_lineAt (wsV RX8 266 RX3 yX3_chosenAt wsX3_chosenAt) := goodIn_app (goodIn_of _ (by decide +kernel)) ggX8_lineAt_X3_chosenAt
theorem dX8_lineAt_0 : decode cX8_lineAt 0 = .ok (.iload_n 1, 1) := by decide +kernel
theorem dX8_lineAt_1 : decode cX8_lineAt 1 = .ok (.iload_n 2, 1) := by decide +kernel
theorem dX8_lineAt_2 : decode cX8_lineAt 2 = .ok (.invokestatic 259, 3) := by decide +kernel
theorem dX8_lineAt_5 : decode cX8_lineAt 5 = .ok (.ifCond .eq 7, 3) := by decide +kernel
theorem dX8_lineAt_8 : decode cX8_lineAt 8 = .ok (.iload_n 3, 1) := by decide +kernel
theorem dX8_lineAt_9 : decode cX8_lineAt 9 = .ok (.ifCond .ge 6, 3) := by decide +kernel
theorem dX8_lineAt_12 : decode cX8_lineAt 12 = .ok (.bipush (-3), 2) := by decide +kernel
theorem dX8_lineAt_14 : decode cX8_lineAt 14 = .ok (.ireturn, 1) := by decide +kernel
theorem dX8_lineAt_15 : decode cX8_lineAt 15 = .ok (.aload_n 0, 1) := by decide +kernel
theorem dX8_lineAt_16 : decode cX8_lineAt 16 = .ok (.getfield 67, 3) := by decide +kernel
theorem dX8_lineAt_19 : decode cX8_lineAt 19 = .ok (.iload_n 1, 1) := by decide +kernel
theorem dX8_lineAt_20 : decode cX8_lineAt 20 = .ok (.iload_n 2, 1) := by decide +kernel
theorem dX8_lineAt_21 : decode cX8_lineAt 21 = .ok (.invokevirtual 262, 3) := by decide +kernel
theorem dX8_lineAt_24 : decode cX8_lineAt 24 = .ok (.aload_n 0, 1) := by decide +kernel
theorem dX8_lineAt_25 : decode cX8_lineAt 25 = .ok (.getfield 67, 3) := by decide +kernel
theorem dX8_lineAt_28 : decode cX8_lineAt 28 = .ok (.iload_n 3, 1) := by decide +kernel
theorem dX8_lineAt_29 : decode cX8_lineAt 29 = .ok (.invokevirtual 266, 3) := by decide +kernel
theorem dX8_lineAt_32 : decode cX8_lineAt 32 = .ok (.ireturn, 1) := by decide +kernel
set_option maxRecDepth 20000 in
theorem ggX8_count_X5_allPeople : GoodIn wsX8_count wsX5_allPeople := goodIn_r _ [12, 13, 14, 56, 57, 58, 59, 60, 61, 62, 63, 64, 65] (by decide +kernel) (by decide +kernel)
set_option maxRecDepth 20000 in
theorem gX8_count_X5_allPeople : GoodIn wsX8_count (wsV RX8 269 RX5 yX5_allPeople wsX5_allPeople) := goodIn_app (goodIn_of _ (by decide +kernel)) ggX8_count_X5_allPeople
set_option maxRecDepth 20000 in
theorem ggX8_count_X5_sheets : GoodIn wsX8_count wsX5_sheets := goodIn_r _ [18, 19, 20, 21, 22, 11, 23, 24, 56, 57, 58, 59, 60, 61, 62, 63, 64, 65] (by decide +kernel) (by decide +kernel)
set_option maxRecDepth 20000 in
theorem gX8_count_X5_sheets : GoodIn wsX8_count (wsV RX8 272 RX5 yX5_sheets wsX5_sheets) := goodIn_app (goodIn_of _ (by decide +kernel)) ggX8_count_X5_sheets
set_option maxRecDepth 20000 in
theorem ggX8_count_J6_bitCount_0f7a4 : GoodIn wsX8_count wsJ6_bitCount_0f7a4 := goodIn_r _ [28, 29, 30, 31] (by decide +kernel) (by decide +kernel)
set_option maxRecDepth 20000 in
theorem gX8_count_J6_bitCount_0f7a4 : GoodIn wsX8_count (va_wsS RX8 173 yJ6_bitCount_0f7a4 wsJ6_bitCount_0f7a4) := goodIn_app (goodIn_of _ (by decide +kernel)) ggX8_count_J6_bitCount_0f7a4
set_option maxRecDepth 20000 in
theorem ggX8_count_X5_everyTown : GoodIn wsX8_count wsX5_everyTown := goodIn_r _ [35, 13, 56, 57, 58, 59, 60, 61, 62, 63, 64, 65] (by decide +kernel) (by decide +kernel)
set_option maxRecDepth 20000 in
theorem gX8_count_X5_everyTown : GoodIn wsX8_count (wsV RX8 229 RX5 yX5_everyTown wsX5_everyTown) := goodIn_app (goodIn_of _ (by decide +kernel)) ggX8_count_X5_everyTown
set_option maxRecDepth 20000 in
theorem ggX8_count_X0_together : GoodIn wsX8_count wsX0_together := goodIn_r _ [40, 41, 42, 43, 44, 45, 11, 46, 68, 69, 70, 56, 57, 58, 59, 60, 61, 62, 63, 64, 65] (by decide +kernel) (by decide +kernel)
set_option maxRecDepth 20000 in
theorem gX8_count_X0_together : GoodIn wsX8_count (wsV RX8 232 RX0 yX0_together wsX0_together) := goodIn_app (goodIn_of _ (by decide +kernel)) ggX8_count_X0_together
theorem dX8_count_0 : decode cX8_count 0 = .ok (.iload_n 1, 1) := by decide +kernel
theorem dX8_count_1 : decode cX8_count 1 = .ok (.tableswitch 106 0 6 #[43, 51, 59, 67, 75, 83, 91], 43) := by decide +kernel
theorem dX8_count_44 : decode cX8_count 44 = .ok (.aload_n 0, 1) := by decide +kernel
theorem dX8_count_45 : decode cX8_count 45 = .ok (.getfield 12, 3) := by decide +kernel
theorem dX8_count_48 : decode cX8_count 48 = .ok (.getfield 71, 3) := by decide +kernel
theorem dX8_count_51 : decode cX8_count 51 = .ok (.ireturn, 1) := by decide +kernel
theorem dX8_count_52 : decode cX8_count 52 = .ok (.aload_n 0, 1) := by decide +kernel
theorem dX8_count_53 : decode cX8_count 53 = .ok (.getfield 12, 3) := by decide +kernel
theorem dX8_count_56 : decode cX8_count 56 = .ok (.getfield 82, 3) := by decide +kernel
theorem dX8_count_59 : decode cX8_count 59 = .ok (.ireturn, 1) := by decide +kernel
theorem dX8_count_60 : decode cX8_count 60 = .ok (.aload_n 0, 1) := by decide +kernel
theorem dX8_count_61 : decode cX8_count 61 = .ok (.getfield 12, 3) := by decide +kernel
theorem dX8_count_64 : decode cX8_count 64 = .ok (.invokevirtual 269, 3) := by decide +kernel
theorem dX8_count_67 : decode cX8_count 67 = .ok (.ireturn, 1) := by decide +kernel
theorem dX8_count_68 : decode cX8_count 68 = .ok (.aload_n 0, 1) := by decide +kernel
theorem dX8_count_69 : decode cX8_count 69 = .ok (.getfield 12, 3) := by decide +kernel
theorem dX8_count_72 : decode cX8_count 72 = .ok (.invokevirtual 272, 3) := by decide +kernel
theorem dX8_count_75 : decode cX8_count 75 = .ok (.ireturn, 1) := by decide +kernel
theorem dX8_count_76 : decode cX8_count 76 = .ok (.aload_n 0, 1) := by decide +kernel
theorem dX8_count_77 : decode cX8_count 77 = .ok (.getfield 167, 3) := by decide +kernel
theorem dX8_count_80 : decode cX8_count 80 = .ok (.invokestatic 173, 3) := by decide +kernel
theorem dX8_count_83 : decode cX8_count 83 = .ok (.ireturn, 1) := by decide +kernel
theorem dX8_count_84 : decode cX8_count 84 = .ok (.aload_n 0, 1) := by decide +kernel
theorem dX8_count_85 : decode cX8_count 85 = .ok (.getfield 19, 3) := by decide +kernel
theorem dX8_count_88 : decode cX8_count 88 = .ok (.getfield 155, 3) := by decide +kernel
theorem dX8_count_91 : decode cX8_count 91 = .ok (.ireturn, 1) := by decide +kernel
theorem dX8_count_92 : decode cX8_count 92 = .ok (.aload_n 0, 1) := by decide +kernel
theorem dX8_count_93 : decode cX8_count 93 = .ok (.getfield 53, 3) := by decide +kernel
theorem dX8_count_96 : decode cX8_count 96 = .ok (.aload_n 0, 1) := by decide +kernel
theorem dX8_count_97 : decode cX8_count 97 = .ok (.getfield 12, 3) := by decide +kernel
theorem dX8_count_100 : decode cX8_count 100 = .ok (.invokevirtual 229, 3) := by decide +kernel
theorem dX8_count_103 : decode cX8_count 103 = .ok (.invokevirtual 232, 3) := by decide +kernel
theorem dX8_count_106 : decode cX8_count 106 = .ok (.ireturn, 1) := by decide +kernel
theorem dX8_count_107 : decode cX8_count 107 = .ok (.bipush (-3), 2) := by decide +kernel
theorem dX8_count_109 : decode cX8_count 109 = .ok (.ireturn, 1) := by decide +kernel
theorem dX8_within_0 : decode cX8_within 0 = .ok (.iload_n 0, 1) := by decide +kernel
theorem dX8_within_1 : decode cX8_within 1 = .ok (.iload_n 1, 1) := by decide +kernel
theorem dX8_within_2 : decode cX8_within 2 = .ok (.if_icmp .lt 12, 3) := by decide +kernel
theorem dX8_within_5 : decode cX8_within 5 = .ok (.iload_n 0, 1) := by decide +kernel
theorem dX8_within_6 : decode cX8_within 6 = .ok (.iload_n 2, 1) := by decide +kernel
theorem dX8_within_7 : decode cX8_within 7 = .ok (.if_icmp .gt 7, 3) := by decide +kernel
theorem dX8_within_10 : decode cX8_within 10 = .ok (.iconst 1, 1) := by decide +kernel
theorem dX8_within_11 : decode cX8_within 11 = .ok (.goto 4, 3) := by decide +kernel
theorem dX8_within_14 : decode cX8_within 14 = .ok (.iconst 0, 1) := by decide +kernel
theorem dX8_within_15 : decode cX8_within 15 = .ok (.ireturn, 1) := by decide +kernel
set_option maxRecDepth 20000 in
theorem ggX8_isKind_X8_within : GoodIn wsX8_isKind wsX8_within := goodIn_r _ [4] (by decide +kernel) (by decide +kernel)
set_option maxRecDepth 20000 in
theorem gX8_isKind_X8_within : GoodIn wsX8_isKind (va_wsS RX8 92 yX8_within wsX8_within) := goodIn_app (goodIn_of _ (by decide +kernel)) ggX8_isKind_X8_within
theorem dX8_isKind_0 : decode cX8_isKind 0 = .ok (.iload_n 0, 1) := by decide +kernel
theorem dX8_isKind_1 : decode cX8_isKind 1 = .ok (.iconst 0, 1) := by decide +kernel
theorem dX8_isKind_2 : decode cX8_isKind 2 = .ok (.bipush 6, 2) := by decide +kernel
theorem dX8_isKind_4 : decode cX8_isKind 4 = .ok (.invokestatic 92, 3) := by decide +kernel
theorem dX8_isKind_7 : decode cX8_isKind 7 = .ok (.ireturn, 1) := by decide +kernel
set_option maxRecDepth 20000 in
theorem ggX8_isQuestion_X8_isKind : GoodIn wsX8_isQuestion wsX8_isKind := goodIn_r _ [4, 5, 6, 3, 7] (by decide +kernel) (by decide +kernel)
set_option maxRecDepth 20000 in
theorem gX8_isQuestion_X8_isKind : GoodIn wsX8_isQuestion (va_wsS RX8 179 yX8_isKind wsX8_isKind) := goodIn_app (goodIn_of _ (by decide +kernel)) ggX8_isQuestion_X8_isKind
set_option maxRecDepth 20000 in
theorem ggX8_isQuestion_X8_within : GoodIn wsX8_isQuestion wsX8_within := goodIn_r _ [7] (by decide +kernel) (by decide +kernel)
set_option maxRecDepth 20000 in
theorem gX8_isQuestion_X8_within : GoodIn wsX8_isQuestion (va_wsS RX8 92 yX8_within wsX8_within) := goodIn_app (goodIn_of _ (by decide +kernel)) ggX8_isQuestion_X8_within
theorem dX8_isQuestion_0 : decode cX8_isQuestion 0 = .ok (.iload_n 0, 1) := by decide +kernel
theorem dX8_isQuestion_1 : decode cX8_isQuestion 1 = .ok (.invokestatic 179, 3) := by decide +kernel
theorem dX8_isQuestion_4 : decode cX8_isQuestion 4 = .ok (.ifCond .eq 17, 3) := by decide +kernel
theorem dX8_isQuestion_7 : decode cX8_isQuestion 7 = .ok (.iload_n 1, 1) := by decide +kernel
theorem dX8_isQuestion_8 : decode cX8_isQuestion 8 = .ok (.iconst (-1), 1) := by decide +kernel
theorem dX8_isQuestion_9 : decode cX8_isQuestion 9 = .ok (.bipush 7, 2) := by decide +kernel
theorem dX8_isQuestion_11 : decode cX8_isQuestion 11 = .ok (.invokestatic 92, 3) := by decide +kernel
theorem dX8_isQuestion_14 : decode cX8_isQuestion 14 = .ok (.ifCond .eq 7, 3) := by decide +kernel
theorem dX8_isQuestion_17 : decode cX8_isQuestion 17 = .ok (.iconst 1, 1) := by decide +kernel
theorem dX8_isQuestion_18 : decode cX8_isQuestion 18 = .ok (.goto 4, 3) := by decide +kernel
theorem dX8_isQuestion_21 : decode cX8_isQuestion 21 = .ok (.iconst 0, 1) := by decide +kernel
theorem dX8_isQuestion_22 : decode cX8_isQuestion 22 = .ok (.ireturn, 1) := by decide +kernel
set_option maxRecDepth 20000 in
theorem ggX8_isLineQuestion_X8_within : GoodIn wsX8_isLineQuestion wsX8_within := goodIn_r _ [4] (by decide +kernel) (by decide +kernel)
set_option maxRecDepth 20000 in
theorem gX8_isLineQuestion_X8_within : GoodIn wsX8_isLineQuestion (va_wsS RX8 92 yX8_within wsX8_within) := goodIn_app (goodIn_of _ (by decide +kernel)) ggX8_isLineQuestion_X8_within
theorem dX8_isLineQuestion_0 : decode cX8_isLineQuestion 0 = .ok (.iload_n 0, 1) := by decide +kernel
theorem dX8_isLineQuestion_1 : decode cX8_isLineQuestion 1 = .ok (.iconst 0, 1) := by decide +kernel
theorem dX8_isLineQuestion_2 : decode cX8_isLineQuestion 2 = .ok (.iconst 1, 1) := by decide +kernel
theorem dX8_isLineQuestion_3 : decode cX8_isLineQuestion 3 = .ok (.invokestatic 92, 3) := by decide +kernel
theorem dX8_isLineQuestion_6 : decode cX8_isLineQuestion 6 = .ok (.ifCond .eq 17, 3) := by decide +kernel
theorem dX8_isLineQuestion_9 : decode cX8_isLineQuestion 9 = .ok (.iload_n 1, 1) := by decide +kernel
theorem dX8_isLineQuestion_10 : decode cX8_isLineQuestion 10 = .ok (.iconst 1, 1) := by decide +kernel
theorem dX8_isLineQuestion_11 : decode cX8_isLineQuestion 11 = .ok (.bipush 8, 2) := by decide +kernel
theorem dX8_isLineQuestion_13 : decode cX8_isLineQuestion 13 = .ok (.invokestatic 92, 3) := by decide +kernel
theorem dX8_isLineQuestion_16 : decode cX8_isLineQuestion 16 = .ok (.ifCond .eq 7, 3) := by decide +kernel
theorem dX8_isLineQuestion_19 : decode cX8_isLineQuestion 19 = .ok (.iconst 1, 1) := by decide +kernel
theorem dX8_isLineQuestion_20 : decode cX8_isLineQuestion 20 = .ok (.goto 4, 3) := by decide +kernel
theorem dX8_isLineQuestion_23 : decode cX8_isLineQuestion 23 = .ok (.iconst 0, 1) := by decide +kernel
theorem dX8_isLineQuestion_24 : decode cX8_isLineQuestion 24 = .ok (.ireturn, 1) := by decide +kernel
set_option maxRecDepth 20000 in
theorem ggX8_keepForUndo_X4_keep : GoodIn wsX8_keepForUndo wsX4_keep := goodIn_r _ [7, 8, 9, 10, 11, 12, 6, 13, 14, 15, 16, 17, 18, 19, 20, 21, 22, 23, 24, 25, 26, 27, 28, 29, 30, 31, 32, 68, 69, 70, 71, 72, 73, 74, 75, 76, 77, 78, 79] (by decide +kernel) (by decide +kernel)
set_option maxRecDepth 20000 in
theorem gX8_keepForUndo_X4_keep : GoodIn wsX8_keepForUndo (wsV RX8 275 RX4 yX4_keep wsX4_keep) := goodIn_app (goodIn_of _ (by decide +kernel)) ggX8_keepForUndo_X4_keep
set_option maxRecDepth 20000 in
theorem ggX8_keepForUndo_X8_forgetAnswers : GoodIn wsX8_keepForUndo wsX8_forgetAnswers := goodIn_r _ [37, 38, 39, 40, 41, 42, 43, 44, 45, 46, 47, 48, 49, 50, 51, 52, 53, 54, 55, 56, 57, 58, 59, 60, 61, 62, 63, 64, 65, 66, 67, 80, 81, 82, 83, 84, 85, 86, 87, 88, 89, 90, 91, 92, 93, 94, 95, 96, 97, 98, 99] (by decide +kernel) (by decide +kernel)
set_option maxRecDepth 20000 in
theorem gX8_keepForUndo_X8_forgetAnswers : GoodIn wsX8_keepForUndo (wsV RX8 161 RX8 yX8_forgetAnswers wsX8_forgetAnswers) := goodIn_app (goodIn_of _ (by decide +kernel)) ggX8_keepForUndo_X8_forgetAnswers
theorem dX8_keepForUndo_0 : decode cX8_keepForUndo 0 = .ok (.aload_n 0, 1) := by decide +kernel
theorem dX8_keepForUndo_1 : decode cX8_keepForUndo 1 = .ok (.getfield 19, 3) := by decide +kernel
theorem dX8_keepForUndo_4 : decode cX8_keepForUndo 4 = .ok (.aload_n 0, 1) := by decide +kernel
theorem dX8_keepForUndo_5 : decode cX8_keepForUndo 5 = .ok (.getfield 12, 3) := by decide +kernel
theorem dX8_keepForUndo_8 : decode cX8_keepForUndo 8 = .ok (.invokevirtual 275, 3) := by decide +kernel
theorem dX8_keepForUndo_11 : decode cX8_keepForUndo 11 = .ok (.aload_n 0, 1) := by decide +kernel
theorem dX8_keepForUndo_12 : decode cX8_keepForUndo 12 = .ok (.invokevirtual 161, 3) := by decide +kernel
theorem dX8_keepForUndo_15 : decode cX8_keepForUndo 15 = .ok (.return_, 1) := by decide +kernel
set_option maxRecDepth 20000 in
theorem ggX8_forgetAnswers_X6_forget : GoodIn wsX8_forgetAnswers wsX6_forget := goodIn_r _ [8, 9, 31, 32, 33, 34, 35] (by decide +kernel) (by decide +kernel)
set_option maxRecDepth 20000 in
theorem gX8_forgetAnswers_X6_forget : GoodIn wsX8_forgetAnswers (wsV RX8 278 RX6 yX6_forget wsX6_forget) := goodIn_app (goodIn_of _ (by decide +kernel)) ggX8_forgetAnswers_X6_forget
set_option maxRecDepth 20000 in
theorem ggX8_forgetAnswers_X7_forget : GoodIn wsX8_forgetAnswers wsX7_forget := goodIn_r _ [14, 15, 36, 37, 38, 39, 40, 41, 42, 43, 44, 45] (by decide +kernel) (by decide +kernel)
set_option maxRecDepth 20000 in
theorem gX8_forgetAnswers_X7_forget : GoodIn wsX8_forgetAnswers (wsV RX8 281 RX7 yX7_forget wsX7_forget) := goodIn_app (goodIn_of _ (by decide +kernel)) ggX8_forgetAnswers_X7_forget
set_option maxRecDepth 20000 in
theorem ggX8_forgetAnswers_X2_forget : GoodIn wsX8_forgetAnswers wsX2_forget := goodIn_r _ [20, 21, 46, 47, 48, 49, 50] (by decide +kernel) (by decide +kernel)
set_option maxRecDepth 20000 in
theorem gX8_forgetAnswers_X2_forget : GoodIn wsX8_forgetAnswers (wsV RX8 282 RX2 yX2_forget wsX2_forget) := goodIn_app (goodIn_of _ (by decide +kernel)) ggX8_forgetAnswers_X2_forget
theorem dX8_forgetAnswers_0 : decode cX8_forgetAnswers 0 = .ok (.aload_n 0, 1) := by decide +kernel
theorem dX8_forgetAnswers_1 : decode cX8_forgetAnswers 1 = .ok (.getfield 28, 3) := by decide +kernel
theorem dX8_forgetAnswers_4 : decode cX8_forgetAnswers 4 = .ok (.invokevirtual 278, 3) := by decide +kernel
theorem dX8_forgetAnswers_7 : decode cX8_forgetAnswers 7 = .ok (.aload_n 0, 1) := by decide +kernel
theorem dX8_forgetAnswers_8 : decode cX8_forgetAnswers 8 = .ok (.getfield 37, 3) := by decide +kernel
theorem dX8_forgetAnswers_11 : decode cX8_forgetAnswers 11 = .ok (.invokevirtual 281, 3) := by decide +kernel
theorem dX8_forgetAnswers_14 : decode cX8_forgetAnswers 14 = .ok (.aload_n 0, 1) := by decide +kernel
theorem dX8_forgetAnswers_15 : decode cX8_forgetAnswers 15 = .ok (.getfield 60, 3) := by decide +kernel
theorem dX8_forgetAnswers_18 : decode cX8_forgetAnswers 18 = .ok (.invokevirtual 282, 3) := by decide +kernel
theorem dX8_forgetAnswers_21 : decode cX8_forgetAnswers 21 = .ok (.return_, 1) := by decide +kernel
set_option maxRecDepth 20000 in
theorem ggX8_freshCosts_X6_refresh : GoodIn wsX8_freshCosts wsX6_refresh := goodIn_r _ [7, 8, 9, 10, 11, 12, 13, 14, 15, 16, 17, 18, 6, 19, 20, 21, 22, 23, 24, 25, 26, 27, 28, 29, 30, 31, 41, 42, 43, 44, 45, 46, 47, 48, 49, 50, 51, 52, 53, 54, 55] (by decide +kernel) (by decide +kernel)
set_option maxRecDepth 20000 in
theorem gX8_freshCosts_X6_refresh : GoodIn wsX8_freshCosts (wsV RX8 283 RX6 yX6_refresh wsX6_refresh) := goodIn_app (goodIn_of _ (by decide +kernel)) ggX8_freshCosts_X6_refresh
theorem dX8_freshCosts_0 : decode cX8_freshCosts 0 = .ok (.aload_n 0, 1) := by decide +kernel
theorem dX8_freshCosts_1 : decode cX8_freshCosts 1 = .ok (.getfield 28, 3) := by decide +kernel
theorem dX8_freshCosts_4 : decode cX8_freshCosts 4 = .ok (.invokevirtual 283, 3) := by decide +kernel
theorem dX8_freshCosts_7 : decode cX8_freshCosts 7 = .ok (.aload_n 0, 1) := by decide +kernel
theorem dX8_freshCosts_8 : decode cX8_freshCosts 8 = .ok (.getfield 46, 3) := by decide +kernel
theorem dX8_freshCosts_11 : decode cX8_freshCosts 11 = .ok (.areturn, 1) := by decide +kernel
set_option maxRecDepth 20000 in
theorem ggX8_change_X8_keepForUndo : GoodIn wsX8_change wsX8_keepForUndo := goodIn_r _ [5, 6, 7, 8, 9, 10, 11, 12, 13, 14, 15, 16, 17, 18, 19, 20, 21, 22, 23, 24, 25, 26, 27, 28, 29, 30, 31, 32, 33, 34, 35, 36, 37, 38, 39, 40, 4, 41, 42, 43, 44, 45, 46, 47, 48, 49, 50, 51, 52, 53, 54, 55, 56, 57, 58, 59, 60, 61, 62, 63, 64, 65, 66, 67, 68, 69, 70, 71, 72, 73, 74, 75, 76, 77, 78, 79, 80, 81, 82, 83, 84, 85, 86, 87, 88, 89, 90, 91, 92, 93, 94, 95, 96, 97, 98, 99, 100, 101, 102, 103] (by decide +kernel) (by decide +kernel)
set_option maxRecDepth 20000 in
theorem gX8_change_X8_keepForUndo : GoodIn wsX8_change (wsV RX8 75 RX8 yX8_keepForUndo wsX8_keepForUndo) := goodIn_app (goodIn_of _ (by decide +kernel)) ggX8_change_X8_keepForUndo
theorem dX8_change_0 : decode cX8_change 0 = .ok (.aload_n 1, 1) := by decide +kernel
theorem dX8_change_1 : decode cX8_change 1 = .ok (.iload_n 2, 1) := by decide +kernel
theorem dX8_change_2 : decode cX8_change 2 = .ok (.iaload, 1) := by decide +kernel
theorem dX8_change_3 : decode cX8_change 3 = .ok (.istore 4, 2) := by decide +kernel
theorem dX8_change_5 : decode cX8_change 5 = .ok (.aload_n 0, 1) := by decide +kernel
theorem dX8_change_6 : decode cX8_change 6 = .ok (.invokevirtual 75, 3) := by decide +kernel
theorem dX8_change_9 : decode cX8_change 9 = .ok (.aload_n 1, 1) := by decide +kernel
theorem dX8_change_10 : decode cX8_change 10 = .ok (.iload_n 2, 1) := by decide +kernel
theorem dX8_change_11 : decode cX8_change 11 = .ok (.iload_n 3, 1) := by decide +kernel
theorem dX8_change_12 : decode cX8_change 12 = .ok (.iastore, 1) := by decide +kernel
theorem dX8_change_13 : decode cX8_change 13 = .ok (.iload 4, 2) := by decide +kernel
theorem dX8_change_15 : decode cX8_change 15 = .ok (.ireturn, 1) := by decide +kernel
theorem dX8_aboutTown_0 : decode cX8_aboutTown 0 = .ok (.iload_n 2, 1) := by decide +kernel
theorem dX8_aboutTown_1 : decode cX8_aboutTown 1 = .ok (.tableswitch 61 0 2 #[27, 37, 47], 27) := by decide +kernel
theorem dX8_aboutTown_28 : decode cX8_aboutTown 28 = .ok (.aload_n 0, 1) := by decide +kernel
theorem dX8_aboutTown_29 : decode cX8_aboutTown 29 = .ok (.getfield 12, 3) := by decide +kernel
theorem dX8_aboutTown_32 : decode cX8_aboutTown 32 = .ok (.getfield 96, 3) := by decide +kernel
theorem dX8_aboutTown_35 : decode cX8_aboutTown 35 = .ok (.iload_n 1, 1) := by decide +kernel
theorem dX8_aboutTown_36 : decode cX8_aboutTown 36 = .ok (.iaload, 1) := by decide +kernel
theorem dX8_aboutTown_37 : decode cX8_aboutTown 37 = .ok (.ireturn, 1) := by decide +kernel
theorem dX8_aboutTown_38 : decode cX8_aboutTown 38 = .ok (.aload_n 0, 1) := by decide +kernel
theorem dX8_aboutTown_39 : decode cX8_aboutTown 39 = .ok (.getfield 12, 3) := by decide +kernel
theorem dX8_aboutTown_42 : decode cX8_aboutTown 42 = .ok (.getfield 105, 3) := by decide +kernel
theorem dX8_aboutTown_45 : decode cX8_aboutTown 45 = .ok (.iload_n 1, 1) := by decide +kernel
theorem dX8_aboutTown_46 : decode cX8_aboutTown 46 = .ok (.iaload, 1) := by decide +kernel
theorem dX8_aboutTown_47 : decode cX8_aboutTown 47 = .ok (.ireturn, 1) := by decide +kernel
theorem dX8_aboutTown_48 : decode cX8_aboutTown 48 = .ok (.aload_n 0, 1) := by decide +kernel
theorem dX8_aboutTown_49 : decode cX8_aboutTown 49 = .ok (.getfield 12, 3) := by decide +kernel
theorem dX8_aboutTown_52 : decode cX8_aboutTown 52 = .ok (.getfield 108, 3) := by decide +kernel
theorem dX8_aboutTown_55 : decode cX8_aboutTown 55 = .ok (.iload_n 1, 1) := by decide +kernel
theorem dX8_aboutTown_56 : decode cX8_aboutTown 56 = .ok (.iaload, 1) := by decide +kernel
theorem dX8_aboutTown_57 : decode cX8_aboutTown 57 = .ok (.sipush 1000, 3) := by decide +kernel
theorem dX8_aboutTown_60 : decode cX8_aboutTown 60 = .ok (.iadd, 1) := by decide +kernel
theorem dX8_aboutTown_61 : decode cX8_aboutTown 61 = .ok (.ireturn, 1) := by decide +kernel
theorem dX8_aboutTown_62 : decode cX8_aboutTown 62 = .ok (.bipush (-3), 2) := by decide +kernel
theorem dX8_aboutTown_64 : decode cX8_aboutTown 64 = .ok (.ireturn, 1) := by decide +kernel
theorem dX8_aboutHall_0 : decode cX8_aboutHall 0 = .ok (.iload_n 2, 1) := by decide +kernel
theorem dX8_aboutHall_1 : decode cX8_aboutHall 1 = .ok (.tableswitch 71 0 3 #[31, 41, 51, 61], 31) := by decide +kernel
theorem dX8_aboutHall_32 : decode cX8_aboutHall 32 = .ok (.aload_n 0, 1) := by decide +kernel
theorem dX8_aboutHall_33 : decode cX8_aboutHall 33 = .ok (.getfield 12, 3) := by decide +kernel
theorem dX8_aboutHall_36 : decode cX8_aboutHall 36 = .ok (.getfield 114, 3) := by decide +kernel
theorem dX8_aboutHall_39 : decode cX8_aboutHall 39 = .ok (.iload_n 1, 1) := by decide +kernel
theorem dX8_aboutHall_40 : decode cX8_aboutHall 40 = .ok (.iaload, 1) := by decide +kernel
theorem dX8_aboutHall_41 : decode cX8_aboutHall 41 = .ok (.ireturn, 1) := by decide +kernel
theorem dX8_aboutHall_42 : decode cX8_aboutHall 42 = .ok (.aload_n 0, 1) := by decide +kernel
theorem dX8_aboutHall_43 : decode cX8_aboutHall 43 = .ok (.getfield 12, 3) := by decide +kernel
theorem dX8_aboutHall_46 : decode cX8_aboutHall 46 = .ok (.getfield 117, 3) := by decide +kernel
theorem dX8_aboutHall_49 : decode cX8_aboutHall 49 = .ok (.iload_n 1, 1) := by decide +kernel
theorem dX8_aboutHall_50 : decode cX8_aboutHall 50 = .ok (.iaload, 1) := by decide +kernel
theorem dX8_aboutHall_51 : decode cX8_aboutHall 51 = .ok (.ireturn, 1) := by decide +kernel
theorem dX8_aboutHall_52 : decode cX8_aboutHall 52 = .ok (.aload_n 0, 1) := by decide +kernel
theorem dX8_aboutHall_53 : decode cX8_aboutHall 53 = .ok (.getfield 12, 3) := by decide +kernel
theorem dX8_aboutHall_56 : decode cX8_aboutHall 56 = .ok (.getfield 130, 3) := by decide +kernel
theorem dX8_aboutHall_59 : decode cX8_aboutHall 59 = .ok (.iload_n 1, 1) := by decide +kernel
theorem dX8_aboutHall_60 : decode cX8_aboutHall 60 = .ok (.iaload, 1) := by decide +kernel
theorem dX8_aboutHall_61 : decode cX8_aboutHall 61 = .ok (.ireturn, 1) := by decide +kernel
theorem dX8_aboutHall_62 : decode cX8_aboutHall 62 = .ok (.aload_n 0, 1) := by decide +kernel
theorem dX8_aboutHall_63 : decode cX8_aboutHall 63 = .ok (.getfield 12, 3) := by decide +kernel
theorem dX8_aboutHall_66 : decode cX8_aboutHall 66 = .ok (.getfield 127, 3) := by decide +kernel
theorem dX8_aboutHall_69 : decode cX8_aboutHall 69 = .ok (.iload_n 1, 1) := by decide +kernel
theorem dX8_aboutHall_70 : decode cX8_aboutHall 70 = .ok (.iaload, 1) := by decide +kernel
theorem dX8_aboutHall_71 : decode cX8_aboutHall 71 = .ok (.ireturn, 1) := by decide +kernel
theorem dX8_aboutHall_72 : decode cX8_aboutHall 72 = .ok (.bipush (-3), 2) := by decide +kernel
theorem dX8_aboutHall_74 : decode cX8_aboutHall 74 = .ok (.ireturn, 1) := by decide +kernel
theorem dX8_commonDivisor_0 : decode cX8_commonDivisor 0 = .ok (.lload_n 0, 1) := by decide +kernel
theorem dX8_commonDivisor_1 : decode cX8_commonDivisor 1 = .ok (.lstore 4, 2) := by decide +kernel
theorem dX8_commonDivisor_3 : decode cX8_commonDivisor 3 = .ok (.lload_n 2, 1) := by decide +kernel
theorem dX8_commonDivisor_4 : decode cX8_commonDivisor 4 = .ok (.lstore 6, 2) := by decide +kernel
theorem dX8_commonDivisor_6 : decode cX8_commonDivisor 6 = .ok (.iconst 0, 1) := by decide +kernel
theorem dX8_commonDivisor_7 : decode cX8_commonDivisor 7 = .ok (.istore 8, 2) := by decide +kernel
theorem dX8_commonDivisor_9 : decode cX8_commonDivisor 9 = .ok (.iload 8, 2) := by decide +kernel
theorem dX8_commonDivisor_11 : decode cX8_commonDivisor 11 = .ok (.sipush 200, 3) := by decide +kernel
theorem dX8_commonDivisor_14 : decode cX8_commonDivisor 14 = .ok (.if_icmp .ge 31, 3) := by decide +kernel
theorem dX8_commonDivisor_17 : decode cX8_commonDivisor 17 = .ok (.lload 6, 2) := by decide +kernel
theorem dX8_commonDivisor_19 : decode cX8_commonDivisor 19 = .ok (.lconst 0, 1) := by decide +kernel
theorem dX8_commonDivisor_20 : decode cX8_commonDivisor 20 = .ok (.lcmp, 1) := by decide +kernel
theorem dX8_commonDivisor_21 : decode cX8_commonDivisor 21 = .ok (.ifCond .eq 24, 3) := by decide +kernel
theorem dX8_commonDivisor_24 : decode cX8_commonDivisor 24 = .ok (.lload 4, 2) := by decide +kernel
theorem dX8_commonDivisor_26 : decode cX8_commonDivisor 26 = .ok (.lload 6, 2) := by decide +kernel
theorem dX8_commonDivisor_28 : decode cX8_commonDivisor 28 = .ok (.lrem, 1) := by decide +kernel
theorem dX8_commonDivisor_29 : decode cX8_commonDivisor 29 = .ok (.lstore 9, 2) := by decide +kernel
theorem dX8_commonDivisor_31 : decode cX8_commonDivisor 31 = .ok (.lload 6, 2) := by decide +kernel
theorem dX8_commonDivisor_33 : decode cX8_commonDivisor 33 = .ok (.lstore 4, 2) := by decide +kernel
theorem dX8_commonDivisor_35 : decode cX8_commonDivisor 35 = .ok (.lload 9, 2) := by decide +kernel
theorem dX8_commonDivisor_37 : decode cX8_commonDivisor 37 = .ok (.lstore 6, 2) := by decide +kernel
theorem dX8_commonDivisor_39 : decode cX8_commonDivisor 39 = .ok (.iinc 8 1, 3) := by decide +kernel
theorem dX8_commonDivisor_42 : decode cX8_commonDivisor 42 = .ok (.goto (-33), 3) := by decide +kernel
theorem dX8_commonDivisor_45 : decode cX8_commonDivisor 45 = .ok (.lconst 1, 1) := by decide +kernel
theorem dX8_commonDivisor_46 : decode cX8_commonDivisor 46 = .ok (.lload 4, 2) := by decide +kernel
theorem dX8_commonDivisor_48 : decode cX8_commonDivisor 48 = .ok (.invokestatic 284, 3) := by decide +kernel
theorem dX8_commonDivisor_51 : decode cX8_commonDivisor 51 = .ok (.invokestatic 290, 3) := by decide +kernel
theorem dX8_commonDivisor_54 : decode cX8_commonDivisor 54 = .ok (.lreturn, 1) := by decide +kernel
theorem dX9_init_0 : decode cX9_init 0 = .ok (.aload_n 0, 1) := by decide +kernel
theorem dX9_init_1 : decode cX9_init 1 = .ok (.invokespecial 1, 3) := by decide +kernel
theorem dX9_init_4 : decode cX9_init 4 = .ok (.aload_n 0, 1) := by decide +kernel
theorem dX9_init_5 : decode cX9_init 5 = .ok (.bipush 8, 2) := by decide +kernel
theorem dX9_init_7 : decode cX9_init 7 = .ok (.newarray .int, 2) := by decide +kernel
theorem dX9_init_9 : decode cX9_init 9 = .ok (.putfield 7, 3) := by decide +kernel
theorem dX9_init_12 : decode cX9_init 12 = .ok (.aload_n 0, 1) := by decide +kernel
theorem dX9_init_13 : decode cX9_init 13 = .ok (.bipush 8, 2) := by decide +kernel
theorem dX9_init_15 : decode cX9_init 15 = .ok (.newarray .int, 2) := by decide +kernel
theorem dX9_init_17 : decode cX9_init 17 = .ok (.putfield 13, 3) := by decide +kernel
theorem dX9_init_20 : decode cX9_init 20 = .ok (.aload_n 0, 1) := by decide +kernel
theorem dX9_init_21 : decode cX9_init 21 = .ok (.bipush 8, 2) := by decide +kernel
theorem dX9_init_23 : decode cX9_init 23 = .ok (.newarray .int, 2) := by decide +kernel
theorem dX9_init_25 : decode cX9_init 25 = .ok (.putfield 16, 3) := by decide +kernel
theorem dX9_init_28 : decode cX9_init 28 = .ok (.aload_n 0, 1) := by decide +kernel
theorem dX9_init_29 : decode cX9_init 29 = .ok (.bipush 7, 2) := by decide +kernel
theorem dX9_init_31 : decode cX9_init 31 = .ok (.newarray .int, 2) := by decide +kernel
theorem dX9_init_33 : decode cX9_init 33 = .ok (.putfield 19, 3) := by decide +kernel
theorem dX9_init_36 : decode cX9_init 36 = .ok (.aload_n 0, 1) := by decide +kernel
theorem dX9_init_37 : decode cX9_init 37 = .ok (.bipush 7, 2) := by decide +kernel
theorem dX9_init_39 : decode cX9_init 39 = .ok (.newarray .int, 2) := by decide +kernel
theorem dX9_init_41 : decode cX9_init 41 = .ok (.putfield 22, 3) := by decide +kernel
theorem dX9_init_44 : decode cX9_init 44 = .ok (.aload_n 0, 1) := by decide +kernel
theorem dX9_init_45 : decode cX9_init 45 = .ok (.bipush 7, 2) := by decide +kernel
theorem dX9_init_47 : decode cX9_init 47 = .ok (.newarray .int, 2) := by decide +kernel
theorem dX9_init_49 : decode cX9_init 49 = .ok (.putfield 25, 3) := by decide +kernel
theorem dX9_init_52 : decode cX9_init 52 = .ok (.aload_n 0, 1) := by decide +kernel
theorem dX9_init_53 : decode cX9_init 53 = .ok (.bipush 7, 2) := by decide +kernel
theorem dX9_init_55 : decode cX9_init 55 = .ok (.newarray .int, 2) := by decide +kernel
theorem dX9_init_57 : decode cX9_init 57 = .ok (.putfield 28, 3) := by decide +kernel
theorem dX9_init_60 : decode cX9_init 60 = .ok (.aload_n 0, 1) := by decide +kernel
theorem dX9_init_61 : decode cX9_init 61 = .ok (.bipush 56, 2) := by decide +kernel
theorem dX9_init_63 : decode cX9_init 63 = .ok (.newarray .int, 2) := by decide +kernel
theorem dX9_init_65 : decode cX9_init 65 = .ok (.putfield 31, 3) := by decide +kernel
theorem dX9_init_68 : decode cX9_init 68 = .ok (.aload_n 0, 1) := by decide +kernel
theorem dX9_init_69 : decode cX9_init 69 = .ok (.sipush 880, 3) := by decide +kernel
theorem dX9_init_72 : decode cX9_init 72 = .ok (.newarray .int, 2) := by decide +kernel
theorem dX9_init_74 : decode cX9_init 74 = .ok (.putfield 34, 3) := by decide +kernel
theorem dX9_init_77 : decode cX9_init 77 = .ok (.aload_n 0, 1) := by decide +kernel
theorem dX9_init_78 : decode cX9_init 78 = .ok (.bipush 8, 2) := by decide +kernel
theorem dX9_init_80 : decode cX9_init 80 = .ok (.newarray .int, 2) := by decide +kernel
theorem dX9_init_82 : decode cX9_init 82 = .ok (.putfield 37, 3) := by decide +kernel
theorem dX9_init_85 : decode cX9_init 85 = .ok (.aload_n 0, 1) := by decide +kernel
theorem dX9_init_86 : decode cX9_init 86 = .ok (.sipush 256, 3) := by decide +kernel
theorem dX9_init_89 : decode cX9_init 89 = .ok (.newarray .int, 2) := by decide +kernel
theorem dX9_init_91 : decode cX9_init 91 = .ok (.putfield 40, 3) := by decide +kernel
theorem dX9_init_94 : decode cX9_init 94 = .ok (.aload_n 0, 1) := by decide +kernel
theorem dX9_init_95 : decode cX9_init 95 = .ok (.sipush 256, 3) := by decide +kernel
theorem dX9_init_98 : decode cX9_init 98 = .ok (.newarray .int, 2) := by decide +kernel
theorem dX9_init_100 : decode cX9_init 100 = .ok (.putfield 43, 3) := by decide +kernel
theorem dX9_init_103 : decode cX9_init 103 = .ok (.aload_n 0, 1) := by decide +kernel
theorem dX9_init_104 : decode cX9_init 104 = .ok (.bipush 8, 2) := by decide +kernel
theorem dX9_init_106 : decode cX9_init 106 = .ok (.newarray .int, 2) := by decide +kernel
theorem dX9_init_108 : decode cX9_init 108 = .ok (.putfield 46, 3) := by decide +kernel
theorem dX9_init_111 : decode cX9_init 111 = .ok (.aload_n 0, 1) := by decide +kernel
theorem dX9_init_112 : decode cX9_init 112 = .ok (.bipush 7, 2) := by decide +kernel
theorem dX9_init_114 : decode cX9_init 114 = .ok (.newarray .int, 2) := by decide +kernel
theorem dX9_init_116 : decode cX9_init 116 = .ok (.putfield 49, 3) := by decide +kernel
theorem dX9_init_119 : decode cX9_init 119 = .ok (.aload_n 0, 1) := by decide +kernel
theorem dX9_init_120 : decode cX9_init 120 = .ok (.sipush 256, 3) := by decide +kernel
theorem dX9_init_123 : decode cX9_init 123 = .ok (.newarray .int, 2) := by decide +kernel
theorem dX9_init_125 : decode cX9_init 125 = .ok (.putfield 52, 3) := by decide +kernel
theorem dX9_init_128 : decode cX9_init 128 = .ok (.aload_n 0, 1) := by decide +kernel
theorem dX9_init_129 : decode cX9_init 129 = .ok (.bipush 8, 2) := by decide +kernel
theorem dX9_init_131 : decode cX9_init 131 = .ok (.newarray .int, 2) := by decide +kernel
theorem dX9_init_133 : decode cX9_init 133 = .ok (.putfield 55, 3) := by decide +kernel
theorem dX9_init_136 : decode cX9_init 136 = .ok (.return_, 1) := by decide +kernel
theorem dX9_in_0 : decode cX9_in 0 = .ok (.iload_n 0, 1) := by decide +kernel
theorem dX9_in_1 : decode cX9_in 1 = .ok (.iload_n 1, 1) := by decide +kernel
theorem dX9_in_2 : decode cX9_in 2 = .ok (.if_icmp .lt 12, 3) := by decide +kernel
theorem dX9_in_5 : decode cX9_in 5 = .ok (.iload_n 0, 1) := by decide +kernel
theorem dX9_in_6 : decode cX9_in 6 = .ok (.iload_n 2, 1) := by decide +kernel
theorem dX9_in_7 : decode cX9_in 7 = .ok (.if_icmp .gt 7, 3) := by decide +kernel
theorem dX9_in_10 : decode cX9_in 10 = .ok (.iconst 1, 1) := by decide +kernel
theorem dX9_in_11 : decode cX9_in 11 = .ok (.goto 4, 3) := by decide +kernel
theorem dX9_in_14 : decode cX9_in 14 = .ok (.iconst 0, 1) := by decide +kernel
theorem dX9_in_15 : decode cX9_in 15 = .ok (.ireturn, 1) := by decide +kernel
theorem dX9_write_0 : decode cX9_write 0 = .ok (.iconst 0, 1) := by decide +kernel
theorem dX9_write_1 : decode cX9_write 1 = .ok (.istore_n 3, 1) := by decide +kernel
theorem dX9_write_2 : decode cX9_write 2 = .ok (.iload_n 3, 1) := by decide +kernel
theorem dX9_write_3 : decode cX9_write 3 = .ok (.iload_n 2, 1) := by decide +kernel
theorem dX9_write_4 : decode cX9_write 4 = .ok (.if_icmp .ge 31, 3) := by decide +kernel
theorem dX9_write_7 : decode cX9_write 7 = .ok (.aload_n 0, 1) := by decide +kernel
theorem dX9_write_8 : decode cX9_write 8 = .ok (.getfield 34, 3) := by decide +kernel
theorem dX9_write_11 : decode cX9_write 11 = .ok (.aload_n 0, 1) := by decide +kernel
theorem dX9_write_12 : decode cX9_write 12 = .ok (.getfield 62, 3) := by decide +kernel
theorem dX9_write_15 : decode cX9_write 15 = .ok (.aload_n 1, 1) := by decide +kernel
theorem dX9_write_16 : decode cX9_write 16 = .ok (.iload_n 3, 1) := by decide +kernel
theorem dX9_write_17 : decode cX9_write 17 = .ok (.iaload, 1) := by decide +kernel
theorem dX9_write_18 : decode cX9_write 18 = .ok (.iastore, 1) := by decide +kernel
theorem dX9_write_19 : decode cX9_write 19 = .ok (.aload_n 0, 1) := by decide +kernel
theorem dX9_write_20 : decode cX9_write 20 = .ok (.dup, 1) := by decide +kernel
theorem dX9_write_21 : decode cX9_write 21 = .ok (.getfield 62, 3) := by decide +kernel
theorem dX9_write_24 : decode cX9_write 24 = .ok (.iconst 1, 1) := by decide +kernel
theorem dX9_write_25 : decode cX9_write 25 = .ok (.iadd, 1) := by decide +kernel
theorem dX9_write_26 : decode cX9_write 26 = .ok (.putfield 62, 3) := by decide +kernel
theorem dX9_write_29 : decode cX9_write 29 = .ok (.iinc 3 1, 3) := by decide +kernel
theorem dX9_write_32 : decode cX9_write 32 = .ok (.goto (-30), 3) := by decide +kernel
theorem dX9_write_35 : decode cX9_write 35 = .ok (.return_, 1) := by decide +kernel
theorem dX9_read_0 : decode cX9_read 0 = .ok (.iconst 0, 1) := by decide +kernel
theorem dX9_read_1 : decode cX9_read 1 = .ok (.istore_n 3, 1) := by decide +kernel
theorem dX9_read_2 : decode cX9_read 2 = .ok (.iload_n 3, 1) := by decide +kernel
theorem dX9_read_3 : decode cX9_read 3 = .ok (.iload_n 2, 1) := by decide +kernel
theorem dX9_read_4 : decode cX9_read 4 = .ok (.if_icmp .ge 31, 3) := by decide +kernel
theorem dX9_read_7 : decode cX9_read 7 = .ok (.aload_n 1, 1) := by decide +kernel
theorem dX9_read_8 : decode cX9_read 8 = .ok (.iload_n 3, 1) := by decide +kernel
theorem dX9_read_9 : decode cX9_read 9 = .ok (.aload_n 0, 1) := by decide +kernel
theorem dX9_read_10 : decode cX9_read 10 = .ok (.getfield 34, 3) := by decide +kernel
theorem dX9_read_13 : decode cX9_read 13 = .ok (.aload_n 0, 1) := by decide +kernel
theorem dX9_read_14 : decode cX9_read 14 = .ok (.getfield 62, 3) := by decide +kernel
theorem dX9_read_17 : decode cX9_read 17 = .ok (.iaload, 1) := by decide +kernel
theorem dX9_read_18 : decode cX9_read 18 = .ok (.iastore, 1) := by decide +kernel
theorem dX9_read_19 : decode cX9_read 19 = .ok (.aload_n 0, 1) := by decide +kernel
theorem dX9_read_20 : decode cX9_read 20 = .ok (.dup, 1) := by decide +kernel
theorem dX9_read_21 : decode cX9_read 21 = .ok (.getfield 62, 3) := by decide +kernel
theorem dX9_read_24 : decode cX9_read 24 = .ok (.iconst 1, 1) := by decide +kernel
theorem dX9_read_25 : decode cX9_read 25 = .ok (.iadd, 1) := by decide +kernel
theorem dX9_read_26 : decode cX9_read 26 = .ok (.putfield 62, 3) := by decide +kernel
theorem dX9_read_29 : decode cX9_read 29 = .ok (.iinc 3 1, 3) := by decide +kernel
theorem dX9_read_32 : decode cX9_read 32 = .ok (.goto (-30), 3) := by decide +kernel
theorem dX9_read_35 : decode cX9_read 35 = .ok (.return_, 1) := by decide +kernel
set_option maxRecDepth 20000 in
theorem ggX9_keep_X9_write : GoodIn wsX9_keep wsX9_write := goodIn_r _ [19, 3, 2, 20, 21, 22, 23, 24, 25, 26, 27, 28, 29, 30, 31, 32, 33, 34, 35, 36, 37, 38, 39, 40, 41, 42, 43, 44, 45, 46, 47] (by decide +kernel) (by decide +kernel)
set_option maxRecDepth 20000 in
theorem gX9_keep_X9_write : GoodIn wsX9_keep (wsV RX9 74 RX9 yX9_write wsX9_write) := goodIn_app (goodIn_of _ (by decide +kernel)) ggX9_keep_X9_write
theorem dX9_keep_0 : decode cX9_keep 0 = .ok (.aload_n 0, 1) := by decide +kernel
theorem dX9_keep_1 : decode cX9_keep 1 = .ok (.bipush 110, 2) := by decide +kernel
theorem dX9_keep_3 : decode cX9_keep 3 = .ok (.aload_n 0, 1) := by decide +kernel
theorem dX9_keep_4 : decode cX9_keep 4 = .ok (.getfield 65, 3) := by decide +kernel
theorem dX9_keep_7 : decode cX9_keep 7 = .ok (.imul, 1) := by decide +kernel
theorem dX9_keep_8 : decode cX9_keep 8 = .ok (.putfield 62, 3) := by decide +kernel
theorem dX9_keep_11 : decode cX9_keep 11 = .ok (.aload_n 0, 1) := by decide +kernel
theorem dX9_keep_12 : decode cX9_keep 12 = .ok (.getfield 34, 3) := by decide +kernel
theorem dX9_keep_15 : decode cX9_keep 15 = .ok (.aload_n 0, 1) := by decide +kernel
theorem dX9_keep_16 : decode cX9_keep 16 = .ok (.getfield 62, 3) := by decide +kernel
theorem dX9_keep_19 : decode cX9_keep 19 = .ok (.aload_n 0, 1) := by decide +kernel
theorem dX9_keep_20 : decode cX9_keep 20 = .ok (.getfield 68, 3) := by decide +kernel
theorem dX9_keep_23 : decode cX9_keep 23 = .ok (.iastore, 1) := by decide +kernel
theorem dX9_keep_24 : decode cX9_keep 24 = .ok (.aload_n 0, 1) := by decide +kernel
theorem dX9_keep_25 : decode cX9_keep 25 = .ok (.getfield 34, 3) := by decide +kernel
theorem dX9_keep_28 : decode cX9_keep 28 = .ok (.aload_n 0, 1) := by decide +kernel
theorem dX9_keep_29 : decode cX9_keep 29 = .ok (.getfield 62, 3) := by decide +kernel
theorem dX9_keep_32 : decode cX9_keep 32 = .ok (.iconst 1, 1) := by decide +kernel
theorem dX9_keep_33 : decode cX9_keep 33 = .ok (.iadd, 1) := by decide +kernel
theorem dX9_keep_34 : decode cX9_keep 34 = .ok (.aload_n 0, 1) := by decide +kernel
theorem dX9_keep_35 : decode cX9_keep 35 = .ok (.getfield 71, 3) := by decide +kernel
theorem dX9_keep_38 : decode cX9_keep 38 = .ok (.iastore, 1) := by decide +kernel
theorem dX9_keep_39 : decode cX9_keep 39 = .ok (.aload_n 0, 1) := by decide +kernel
theorem dX9_keep_40 : decode cX9_keep 40 = .ok (.dup, 1) := by decide +kernel
theorem dX9_keep_41 : decode cX9_keep 41 = .ok (.getfield 62, 3) := by decide +kernel
theorem dX9_keep_44 : decode cX9_keep 44 = .ok (.iconst 2, 1) := by decide +kernel
theorem dX9_keep_45 : decode cX9_keep 45 = .ok (.iadd, 1) := by decide +kernel
theorem dX9_keep_46 : decode cX9_keep 46 = .ok (.putfield 62, 3) := by decide +kernel
theorem dX9_keep_49 : decode cX9_keep 49 = .ok (.aload_n 0, 1) := by decide +kernel
theorem dX9_keep_50 : decode cX9_keep 50 = .ok (.aload_n 0, 1) := by decide +kernel
theorem dX9_keep_51 : decode cX9_keep 51 = .ok (.getfield 7, 3) := by decide +kernel
theorem dX9_keep_54 : decode cX9_keep 54 = .ok (.bipush 8, 2) := by decide +kernel
theorem dX9_keep_56 : decode cX9_keep 56 = .ok (.invokevirtual 74, 3) := by decide +kernel
theorem dX9_keep_59 : decode cX9_keep 59 = .ok (.aload_n 0, 1) := by decide +kernel
theorem dX9_keep_60 : decode cX9_keep 60 = .ok (.aload_n 0, 1) := by decide +kernel
theorem dX9_keep_61 : decode cX9_keep 61 = .ok (.getfield 13, 3) := by decide +kernel
theorem dX9_keep_64 : decode cX9_keep 64 = .ok (.bipush 8, 2) := by decide +kernel
theorem dX9_keep_66 : decode cX9_keep 66 = .ok (.invokevirtual 74, 3) := by decide +kernel
theorem dX9_keep_69 : decode cX9_keep 69 = .ok (.aload_n 0, 1) := by decide +kernel
theorem dX9_keep_70 : decode cX9_keep 70 = .ok (.aload_n 0, 1) := by decide +kernel
theorem dX9_keep_71 : decode cX9_keep 71 = .ok (.getfield 16, 3) := by decide +kernel
theorem dX9_keep_74 : decode cX9_keep 74 = .ok (.bipush 8, 2) := by decide +kernel
theorem dX9_keep_76 : decode cX9_keep 76 = .ok (.invokevirtual 74, 3) := by decide +kernel
theorem dX9_keep_79 : decode cX9_keep 79 = .ok (.aload_n 0, 1) := by decide +kernel
theorem dX9_keep_80 : decode cX9_keep 80 = .ok (.aload_n 0, 1) := by decide +kernel
theorem dX9_keep_81 : decode cX9_keep 81 = .ok (.getfield 19, 3) := by decide +kernel
theorem dX9_keep_84 : decode cX9_keep 84 = .ok (.bipush 7, 2) := by decide +kernel
theorem dX9_keep_86 : decode cX9_keep 86 = .ok (.invokevirtual 74, 3) := by decide +kernel
theorem dX9_keep_89 : decode cX9_keep 89 = .ok (.aload_n 0, 1) := by decide +kernel
theorem dX9_keep_90 : decode cX9_keep 90 = .ok (.aload_n 0, 1) := by decide +kernel
theorem dX9_keep_91 : decode cX9_keep 91 = .ok (.getfield 22, 3) := by decide +kernel
theorem dX9_keep_94 : decode cX9_keep 94 = .ok (.bipush 7, 2) := by decide +kernel
theorem dX9_keep_96 : decode cX9_keep 96 = .ok (.invokevirtual 74, 3) := by decide +kernel
theorem dX9_keep_99 : decode cX9_keep 99 = .ok (.aload_n 0, 1) := by decide +kernel
theorem dX9_keep_100 : decode cX9_keep 100 = .ok (.aload_n 0, 1) := by decide +kernel
theorem dX9_keep_101 : decode cX9_keep 101 = .ok (.getfield 25, 3) := by decide +kernel
theorem dX9_keep_104 : decode cX9_keep 104 = .ok (.bipush 7, 2) := by decide +kernel
theorem dX9_keep_106 : decode cX9_keep 106 = .ok (.invokevirtual 74, 3) := by decide +kernel
theorem dX9_keep_109 : decode cX9_keep 109 = .ok (.aload_n 0, 1) := by decide +kernel
theorem dX9_keep_110 : decode cX9_keep 110 = .ok (.aload_n 0, 1) := by decide +kernel
theorem dX9_keep_111 : decode cX9_keep 111 = .ok (.getfield 28, 3) := by decide +kernel
theorem dX9_keep_114 : decode cX9_keep 114 = .ok (.bipush 7, 2) := by decide +kernel
theorem dX9_keep_116 : decode cX9_keep 116 = .ok (.invokevirtual 74, 3) := by decide +kernel
theorem dX9_keep_119 : decode cX9_keep 119 = .ok (.aload_n 0, 1) := by decide +kernel
theorem dX9_keep_120 : decode cX9_keep 120 = .ok (.aload_n 0, 1) := by decide +kernel
theorem dX9_keep_121 : decode cX9_keep 121 = .ok (.getfield 31, 3) := by decide +kernel
theorem dX9_keep_124 : decode cX9_keep 124 = .ok (.bipush 56, 2) := by decide +kernel
theorem dX9_keep_126 : decode cX9_keep 126 = .ok (.invokevirtual 74, 3) := by decide +kernel
theorem dX9_keep_129 : decode cX9_keep 129 = .ok (.aload_n 0, 1) := by decide +kernel
theorem dX9_keep_130 : decode cX9_keep 130 = .ok (.aload_n 0, 1) := by decide +kernel
theorem dX9_keep_131 : decode cX9_keep 131 = .ok (.getfield 65, 3) := by decide +kernel
theorem dX9_keep_134 : decode cX9_keep 134 = .ok (.iconst 1, 1) := by decide +kernel
theorem dX9_keep_135 : decode cX9_keep 135 = .ok (.iadd, 1) := by decide +kernel
theorem dX9_keep_136 : decode cX9_keep 136 = .ok (.bipush 8, 2) := by decide +kernel
theorem dX9_keep_138 : decode cX9_keep 138 = .ok (.irem, 1) := by decide +kernel
theorem dX9_keep_139 : decode cX9_keep 139 = .ok (.putfield 65, 3) := by decide +kernel
theorem dX9_keep_142 : decode cX9_keep 142 = .ok (.aload_n 0, 1) := by decide +kernel
theorem dX9_keep_143 : decode cX9_keep 143 = .ok (.aload_n 0, 1) := by decide +kernel
theorem dX9_keep_144 : decode cX9_keep 144 = .ok (.getfield 78, 3) := by decide +kernel
theorem dX9_keep_147 : decode cX9_keep 147 = .ok (.bipush 8, 2) := by decide +kernel
theorem dX9_keep_149 : decode cX9_keep 149 = .ok (.if_icmp .ge 12, 3) := by decide +kernel
theorem dX9_keep_152 : decode cX9_keep 152 = .ok (.aload_n 0, 1) := by decide +kernel
theorem dX9_keep_153 : decode cX9_keep 153 = .ok (.getfield 78, 3) := by decide +kernel
theorem dX9_keep_156 : decode cX9_keep 156 = .ok (.iconst 1, 1) := by decide +kernel
theorem dX9_keep_157 : decode cX9_keep 157 = .ok (.iadd, 1) := by decide +kernel
theorem dX9_keep_158 : decode cX9_keep 158 = .ok (.goto 5, 3) := by decide +kernel
theorem dX9_keep_161 : decode cX9_keep 161 = .ok (.bipush 8, 2) := by decide +kernel
theorem dX9_keep_163 : decode cX9_keep 163 = .ok (.putfield 78, 3) := by decide +kernel
theorem dX9_keep_166 : decode cX9_keep 166 = .ok (.return_, 1) := by decide +kernel
set_option maxRecDepth 20000 in
theorem ggX9_undo_X9_read : GoodIn wsX9_undo wsX9_read := goodIn_r _ [22, 5, 4, 27, 28, 29, 30, 31, 32, 33, 34, 35, 36, 37, 38, 39, 40, 41, 42, 43, 44, 45, 46, 47, 48, 49, 50, 51, 52, 53, 54] (by decide +kernel) (by decide +kernel)
set_option maxRecDepth 20000 in
theorem gX9_undo_X9_read : GoodIn wsX9_undo (wsV RX9 81 RX9 yX9_read wsX9_read) := goodIn_app (goodIn_of _ (by decide +kernel)) ggX9_undo_X9_read
set_option maxRecDepth 20000 in
theorem ggX9_undo_X9_allHalls : GoodIn wsX9_undo wsX9_allHalls := goodIn_r _ [26, 7, 27, 28, 29, 30, 31, 32, 33, 34, 35, 36, 37, 38, 39, 40, 41, 42, 43, 44, 45, 46, 47, 48, 49, 50, 51, 52, 53, 54] (by decide +kernel) (by decide +kernel)
set_option maxRecDepth 20000 in
theorem gX9_undo_X9_allHalls : GoodIn wsX9_undo (wsV RX9 87 RX9 yX9_allHalls wsX9_allHalls) := goodIn_app (goodIn_of _ (by decide +kernel)) ggX9_undo_X9_allHalls
theorem dX9_undo_0 : decode cX9_undo 0 = .ok (.aload_n 0, 1) := by decide +kernel
theorem dX9_undo_1 : decode cX9_undo 1 = .ok (.iconst 0, 1) := by decide +kernel
theorem dX9_undo_2 : decode cX9_undo 2 = .ok (.putfield 58, 3) := by decide +kernel
theorem dX9_undo_5 : decode cX9_undo 5 = .ok (.aload_n 0, 1) := by decide +kernel
theorem dX9_undo_6 : decode cX9_undo 6 = .ok (.getfield 78, 3) := by decide +kernel
theorem dX9_undo_9 : decode cX9_undo 9 = .ok (.ifCond .ne 6, 3) := by decide +kernel
theorem dX9_undo_12 : decode cX9_undo 12 = .ok (.bipush (-4), 2) := by decide +kernel
theorem dX9_undo_14 : decode cX9_undo 14 = .ok (.ireturn, 1) := by decide +kernel
theorem dX9_undo_15 : decode cX9_undo 15 = .ok (.aload_n 0, 1) := by decide +kernel
theorem dX9_undo_16 : decode cX9_undo 16 = .ok (.aload_n 0, 1) := by decide +kernel
theorem dX9_undo_17 : decode cX9_undo 17 = .ok (.getfield 65, 3) := by decide +kernel
theorem dX9_undo_20 : decode cX9_undo 20 = .ok (.bipush 8, 2) := by decide +kernel
theorem dX9_undo_22 : decode cX9_undo 22 = .ok (.iadd, 1) := by decide +kernel
theorem dX9_undo_23 : decode cX9_undo 23 = .ok (.iconst 1, 1) := by decide +kernel
theorem dX9_undo_24 : decode cX9_undo 24 = .ok (.isub, 1) := by decide +kernel
theorem dX9_undo_25 : decode cX9_undo 25 = .ok (.bipush 8, 2) := by decide +kernel
theorem dX9_undo_27 : decode cX9_undo 27 = .ok (.irem, 1) := by decide +kernel
theorem dX9_undo_28 : decode cX9_undo 28 = .ok (.putfield 65, 3) := by decide +kernel
theorem dX9_undo_31 : decode cX9_undo 31 = .ok (.aload_n 0, 1) := by decide +kernel
theorem dX9_undo_32 : decode cX9_undo 32 = .ok (.dup, 1) := by decide +kernel
theorem dX9_undo_33 : decode cX9_undo 33 = .ok (.getfield 78, 3) := by decide +kernel
theorem dX9_undo_36 : decode cX9_undo 36 = .ok (.iconst 1, 1) := by decide +kernel
theorem dX9_undo_37 : decode cX9_undo 37 = .ok (.isub, 1) := by decide +kernel
theorem dX9_undo_38 : decode cX9_undo 38 = .ok (.putfield 78, 3) := by decide +kernel
theorem dX9_undo_41 : decode cX9_undo 41 = .ok (.aload_n 0, 1) := by decide +kernel
theorem dX9_undo_42 : decode cX9_undo 42 = .ok (.bipush 110, 2) := by decide +kernel
theorem dX9_undo_44 : decode cX9_undo 44 = .ok (.aload_n 0, 1) := by decide +kernel
theorem dX9_undo_45 : decode cX9_undo 45 = .ok (.getfield 65, 3) := by decide +kernel
theorem dX9_undo_48 : decode cX9_undo 48 = .ok (.imul, 1) := by decide +kernel
theorem dX9_undo_49 : decode cX9_undo 49 = .ok (.putfield 62, 3) := by decide +kernel
theorem dX9_undo_52 : decode cX9_undo 52 = .ok (.aload_n 0, 1) := by decide +kernel
theorem dX9_undo_53 : decode cX9_undo 53 = .ok (.aload_n 0, 1) := by decide +kernel
theorem dX9_undo_54 : decode cX9_undo 54 = .ok (.getfield 34, 3) := by decide +kernel
theorem dX9_undo_57 : decode cX9_undo 57 = .ok (.aload_n 0, 1) := by decide +kernel
theorem dX9_undo_58 : decode cX9_undo 58 = .ok (.getfield 62, 3) := by decide +kernel
theorem dX9_undo_61 : decode cX9_undo 61 = .ok (.iaload, 1) := by decide +kernel
theorem dX9_undo_62 : decode cX9_undo 62 = .ok (.putfield 68, 3) := by decide +kernel
theorem dX9_undo_65 : decode cX9_undo 65 = .ok (.aload_n 0, 1) := by decide +kernel
theorem dX9_undo_66 : decode cX9_undo 66 = .ok (.aload_n 0, 1) := by decide +kernel
theorem dX9_undo_67 : decode cX9_undo 67 = .ok (.getfield 34, 3) := by decide +kernel
theorem dX9_undo_70 : decode cX9_undo 70 = .ok (.aload_n 0, 1) := by decide +kernel
theorem dX9_undo_71 : decode cX9_undo 71 = .ok (.getfield 62, 3) := by decide +kernel
theorem dX9_undo_74 : decode cX9_undo 74 = .ok (.iconst 1, 1) := by decide +kernel
theorem dX9_undo_75 : decode cX9_undo 75 = .ok (.iadd, 1) := by decide +kernel
theorem dX9_undo_76 : decode cX9_undo 76 = .ok (.iaload, 1) := by decide +kernel
theorem dX9_undo_77 : decode cX9_undo 77 = .ok (.putfield 71, 3) := by decide +kernel
theorem dX9_undo_80 : decode cX9_undo 80 = .ok (.aload_n 0, 1) := by decide +kernel
theorem dX9_undo_81 : decode cX9_undo 81 = .ok (.dup, 1) := by decide +kernel
theorem dX9_undo_82 : decode cX9_undo 82 = .ok (.getfield 62, 3) := by decide +kernel
theorem dX9_undo_85 : decode cX9_undo 85 = .ok (.iconst 2, 1) := by decide +kernel
theorem dX9_undo_86 : decode cX9_undo 86 = .ok (.iadd, 1) := by decide +kernel
theorem dX9_undo_87 : decode cX9_undo 87 = .ok (.putfield 62, 3) := by decide +kernel
theorem dX9_undo_90 : decode cX9_undo 90 = .ok (.aload_n 0, 1) := by decide +kernel
theorem dX9_undo_91 : decode cX9_undo 91 = .ok (.aload_n 0, 1) := by decide +kernel
theorem dX9_undo_92 : decode cX9_undo 92 = .ok (.getfield 7, 3) := by decide +kernel
theorem dX9_undo_95 : decode cX9_undo 95 = .ok (.bipush 8, 2) := by decide +kernel
theorem dX9_undo_97 : decode cX9_undo 97 = .ok (.invokevirtual 81, 3) := by decide +kernel
theorem dX9_undo_100 : decode cX9_undo 100 = .ok (.aload_n 0, 1) := by decide +kernel
theorem dX9_undo_101 : decode cX9_undo 101 = .ok (.aload_n 0, 1) := by decide +kernel
theorem dX9_undo_102 : decode cX9_undo 102 = .ok (.getfield 13, 3) := by decide +kernel
theorem dX9_undo_105 : decode cX9_undo 105 = .ok (.bipush 8, 2) := by decide +kernel
theorem dX9_undo_107 : decode cX9_undo 107 = .ok (.invokevirtual 81, 3) := by decide +kernel
theorem dX9_undo_110 : decode cX9_undo 110 = .ok (.aload_n 0, 1) := by decide +kernel
theorem dX9_undo_111 : decode cX9_undo 111 = .ok (.aload_n 0, 1) := by decide +kernel
theorem dX9_undo_112 : decode cX9_undo 112 = .ok (.getfield 16, 3) := by decide +kernel
theorem dX9_undo_115 : decode cX9_undo 115 = .ok (.bipush 8, 2) := by decide +kernel
theorem dX9_undo_117 : decode cX9_undo 117 = .ok (.invokevirtual 81, 3) := by decide +kernel
theorem dX9_undo_120 : decode cX9_undo 120 = .ok (.aload_n 0, 1) := by decide +kernel
theorem dX9_undo_121 : decode cX9_undo 121 = .ok (.aload_n 0, 1) := by decide +kernel
theorem dX9_undo_122 : decode cX9_undo 122 = .ok (.getfield 19, 3) := by decide +kernel
theorem dX9_undo_125 : decode cX9_undo 125 = .ok (.bipush 7, 2) := by decide +kernel
theorem dX9_undo_127 : decode cX9_undo 127 = .ok (.invokevirtual 81, 3) := by decide +kernel
theorem dX9_undo_130 : decode cX9_undo 130 = .ok (.aload_n 0, 1) := by decide +kernel
theorem dX9_undo_131 : decode cX9_undo 131 = .ok (.aload_n 0, 1) := by decide +kernel
theorem dX9_undo_132 : decode cX9_undo 132 = .ok (.getfield 22, 3) := by decide +kernel
theorem dX9_undo_135 : decode cX9_undo 135 = .ok (.bipush 7, 2) := by decide +kernel
theorem dX9_undo_137 : decode cX9_undo 137 = .ok (.invokevirtual 81, 3) := by decide +kernel
theorem dX9_undo_140 : decode cX9_undo 140 = .ok (.aload_n 0, 1) := by decide +kernel
theorem dX9_undo_141 : decode cX9_undo 141 = .ok (.aload_n 0, 1) := by decide +kernel
theorem dX9_undo_142 : decode cX9_undo 142 = .ok (.getfield 25, 3) := by decide +kernel
theorem dX9_undo_145 : decode cX9_undo 145 = .ok (.bipush 7, 2) := by decide +kernel
theorem dX9_undo_147 : decode cX9_undo 147 = .ok (.invokevirtual 81, 3) := by decide +kernel
theorem dX9_undo_150 : decode cX9_undo 150 = .ok (.aload_n 0, 1) := by decide +kernel
theorem dX9_undo_151 : decode cX9_undo 151 = .ok (.aload_n 0, 1) := by decide +kernel
theorem dX9_undo_152 : decode cX9_undo 152 = .ok (.getfield 28, 3) := by decide +kernel
theorem dX9_undo_155 : decode cX9_undo 155 = .ok (.bipush 7, 2) := by decide +kernel
theorem dX9_undo_157 : decode cX9_undo 157 = .ok (.invokevirtual 81, 3) := by decide +kernel
theorem dX9_undo_160 : decode cX9_undo 160 = .ok (.aload_n 0, 1) := by decide +kernel
theorem dX9_undo_161 : decode cX9_undo 161 = .ok (.aload_n 0, 1) := by decide +kernel
theorem dX9_undo_162 : decode cX9_undo 162 = .ok (.getfield 31, 3) := by decide +kernel
theorem dX9_undo_165 : decode cX9_undo 165 = .ok (.bipush 56, 2) := by decide +kernel
theorem dX9_undo_167 : decode cX9_undo 167 = .ok (.invokevirtual 81, 3) := by decide +kernel
theorem dX9_undo_170 : decode cX9_undo 170 = .ok (.aload_n 0, 1) := by decide +kernel
theorem dX9_undo_171 : decode cX9_undo 171 = .ok (.dup, 1) := by decide +kernel
theorem dX9_undo_172 : decode cX9_undo 172 = .ok (.getfield 84, 3) := by decide +kernel
theorem dX9_undo_175 : decode cX9_undo 175 = .ok (.aload_n 0, 1) := by decide +kernel
theorem dX9_undo_176 : decode cX9_undo 176 = .ok (.invokevirtual 87, 3) := by decide +kernel
theorem dX9_undo_179 : decode cX9_undo 179 = .ok (.iand, 1) := by decide +kernel
theorem dX9_undo_180 : decode cX9_undo 180 = .ok (.putfield 84, 3) := by decide +kernel
theorem dX9_undo_183 : decode cX9_undo 183 = .ok (.aload_n 0, 1) := by decide +kernel
theorem dX9_undo_184 : decode cX9_undo 184 = .ok (.getfield 68, 3) := by decide +kernel
theorem dX9_undo_187 : decode cX9_undo 187 = .ok (.istore_n 1, 1) := by decide +kernel
theorem dX9_undo_188 : decode cX9_undo 188 = .ok (.iload_n 1, 1) := by decide +kernel
theorem dX9_undo_189 : decode cX9_undo 189 = .ok (.bipush 8, 2) := by decide +kernel
theorem dX9_undo_191 : decode cX9_undo 191 = .ok (.if_icmp .ge 16, 3) := by decide +kernel
theorem dX9_undo_194 : decode cX9_undo 194 = .ok (.aload_n 0, 1) := by decide +kernel
theorem dX9_undo_195 : decode cX9_undo 195 = .ok (.getfield 37, 3) := by decide +kernel
theorem dX9_undo_198 : decode cX9_undo 198 = .ok (.iload_n 1, 1) := by decide +kernel
theorem dX9_undo_199 : decode cX9_undo 199 = .ok (.iconst 0, 1) := by decide +kernel
theorem dX9_undo_200 : decode cX9_undo 200 = .ok (.iastore, 1) := by decide +kernel
theorem dX9_undo_201 : decode cX9_undo 201 = .ok (.iinc 1 1, 3) := by decide +kernel
theorem dX9_undo_204 : decode cX9_undo 204 = .ok (.goto (-16), 3) := by decide +kernel
theorem dX9_undo_207 : decode cX9_undo 207 = .ok (.aload_n 0, 1) := by decide +kernel
theorem dX9_undo_208 : decode cX9_undo 208 = .ok (.getfield 78, 3) := by decide +kernel
theorem dX9_undo_211 : decode cX9_undo 211 = .ok (.ireturn, 1) := by decide +kernel
set_option maxRecDepth 20000 in
theorem ggX9_isTown_X9_in : GoodIn wsX9_isTown wsX9_in := goodIn_r _ [5] (by decide +kernel) (by decide +kernel)
set_option maxRecDepth 20000 in
theorem gX9_isTown_X9_in : GoodIn wsX9_isTown (va_wsS RX9 91 yX9_in wsX9_in) := goodIn_app (goodIn_of _ (by decide +kernel)) ggX9_isTown_X9_in
theorem dX9_isTown_0 : decode cX9_isTown 0 = .ok (.iload_n 1, 1) := by decide +kernel
theorem dX9_isTown_1 : decode cX9_isTown 1 = .ok (.iconst 0, 1) := by decide +kernel
theorem dX9_isTown_2 : decode cX9_isTown 2 = .ok (.aload_n 0, 1) := by decide +kernel
theorem dX9_isTown_3 : decode cX9_isTown 3 = .ok (.getfield 68, 3) := by decide +kernel
theorem dX9_isTown_6 : decode cX9_isTown 6 = .ok (.iconst 1, 1) := by decide +kernel
theorem dX9_isTown_7 : decode cX9_isTown 7 = .ok (.isub, 1) := by decide +kernel
theorem dX9_isTown_8 : decode cX9_isTown 8 = .ok (.invokestatic 91, 3) := by decide +kernel
theorem dX9_isTown_11 : decode cX9_isTown 11 = .ok (.ireturn, 1) := by decide +kernel
set_option maxRecDepth 20000 in
theorem ggX9_isHall_X9_in : GoodIn wsX9_isHall wsX9_in := goodIn_r _ [5] (by decide +kernel) (by decide +kernel)
set_option maxRecDepth 20000 in
theorem gX9_isHall_X9_in : GoodIn wsX9_isHall (va_wsS RX9 91 yX9_in wsX9_in) := goodIn_app (goodIn_of _ (by decide +kernel)) ggX9_isHall_X9_in
theorem dX9_isHall_0 : decode cX9_isHall 0 = .ok (.iload_n 1, 1) := by decide +kernel
theorem dX9_isHall_1 : decode cX9_isHall 1 = .ok (.iconst 0, 1) := by decide +kernel
theorem dX9_isHall_2 : decode cX9_isHall 2 = .ok (.aload_n 0, 1) := by decide +kernel
theorem dX9_isHall_3 : decode cX9_isHall 3 = .ok (.getfield 71, 3) := by decide +kernel
theorem dX9_isHall_6 : decode cX9_isHall 6 = .ok (.iconst 1, 1) := by decide +kernel
theorem dX9_isHall_7 : decode cX9_isHall 7 = .ok (.isub, 1) := by decide +kernel
theorem dX9_isHall_8 : decode cX9_isHall 8 = .ok (.invokestatic 91, 3) := by decide +kernel
theorem dX9_isHall_11 : decode cX9_isHall 11 = .ok (.ireturn, 1) := by decide +kernel
theorem dX9_allHalls_0 : decode cX9_allHalls 0 = .ok (.iconst 1, 1) := by decide +kernel
theorem dX9_allHalls_1 : decode cX9_allHalls 1 = .ok (.aload_n 0, 1) := by decide +kernel
theorem dX9_allHalls_2 : decode cX9_allHalls 2 = .ok (.getfield 71, 3) := by decide +kernel
theorem dX9_allHalls_5 : decode cX9_allHalls 5 = .ok (.ishl, 1) := by decide +kernel
theorem dX9_allHalls_6 : decode cX9_allHalls 6 = .ok (.iconst 1, 1) := by decide +kernel
theorem dX9_allHalls_7 : decode cX9_allHalls 7 = .ok (.isub, 1) := by decide +kernel
theorem dX9_allHalls_8 : decode cX9_allHalls 8 = .ok (.ireturn, 1) := by decide +kernel
theorem dX9_allTowns_0 : decode cX9_allTowns 0 = .ok (.iconst 1, 1) := by decide +kernel
theorem dX9_allTowns_1 : decode cX9_allTowns 1 = .ok (.aload_n 0, 1) := by decide +kernel
theorem dX9_allTowns_2 : decode cX9_allTowns 2 = .ok (.getfield 68, 3) := by decide +kernel
theorem dX9_allTowns_5 : decode cX9_allTowns 5 = .ok (.ishl, 1) := by decide +kernel
theorem dX9_allTowns_6 : decode cX9_allTowns 6 = .ok (.iconst 1, 1) := by decide +kernel
theorem dX9_allTowns_7 : decode cX9_allTowns 7 = .ok (.isub, 1) := by decide +kernel
theorem dX9_allTowns_8 : decode cX9_allTowns 8 = .ok (.ireturn, 1) := by decide +kernel
set_option maxRecDepth 20000 in
theorem ggX9_town_X9_keep : GoodIn wsX9_town wsX9_keep := goodIn_r _ [10, 11, 12, 13, 2, 14, 3, 4, 5, 15, 16, 17, 18, 19, 20, 21, 22, 23, 9, 24, 25, 26, 27, 28, 29, 30, 31, 32, 33, 34, 35, 36, 37, 38, 39, 40, 41, 42, 43, 44, 45, 46, 47, 48, 49, 50, 51, 52] (by decide +kernel) (by decide +kernel)
set_option maxRecDepth 20000 in
theorem gX9_town_X9_keep : GoodIn wsX9_town (wsV RX9 95 RX9 yX9_keep wsX9_keep) := goodIn_app (goodIn_of _ (by decide +kernel)) ggX9_town_X9_keep
theorem dX9_town_0 : decode cX9_town 0 = .ok (.aload_n 0, 1) := by decide +kernel
theorem dX9_town_1 : decode cX9_town 1 = .ok (.iconst 0, 1) := by decide +kernel
theorem dX9_town_2 : decode cX9_town 2 = .ok (.putfield 58, 3) := by decide +kernel
theorem dX9_town_5 : decode cX9_town 5 = .ok (.aload_n 0, 1) := by decide +kernel
theorem dX9_town_6 : decode cX9_town 6 = .ok (.getfield 68, 3) := by decide +kernel
theorem dX9_town_9 : decode cX9_town 9 = .ok (.bipush 8, 2) := by decide +kernel
theorem dX9_town_11 : decode cX9_town 11 = .ok (.if_icmp .ne 6, 3) := by decide +kernel
theorem dX9_town_14 : decode cX9_town 14 = .ok (.bipush (-5), 2) := by decide +kernel
theorem dX9_town_16 : decode cX9_town 16 = .ok (.ireturn, 1) := by decide +kernel
theorem dX9_town_17 : decode cX9_town 17 = .ok (.aload_n 0, 1) := by decide +kernel
theorem dX9_town_18 : decode cX9_town 18 = .ok (.invokevirtual 95, 3) := by decide +kernel
theorem dX9_town_21 : decode cX9_town 21 = .ok (.aload_n 0, 1) := by decide +kernel
theorem dX9_town_22 : decode cX9_town 22 = .ok (.getfield 7, 3) := by decide +kernel
theorem dX9_town_25 : decode cX9_town 25 = .ok (.aload_n 0, 1) := by decide +kernel
theorem dX9_town_26 : decode cX9_town 26 = .ok (.getfield 68, 3) := by decide +kernel
theorem dX9_town_29 : decode cX9_town 29 = .ok (.iconst 1, 1) := by decide +kernel
theorem dX9_town_30 : decode cX9_town 30 = .ok (.iastore, 1) := by decide +kernel
theorem dX9_town_31 : decode cX9_town 31 = .ok (.aload_n 0, 1) := by decide +kernel
theorem dX9_town_32 : decode cX9_town 32 = .ok (.getfield 13, 3) := by decide +kernel
theorem dX9_town_35 : decode cX9_town 35 = .ok (.aload_n 0, 1) := by decide +kernel
theorem dX9_town_36 : decode cX9_town 36 = .ok (.getfield 68, 3) := by decide +kernel
theorem dX9_town_39 : decode cX9_town 39 = .ok (.iconst 0, 1) := by decide +kernel
theorem dX9_town_40 : decode cX9_town 40 = .ok (.iastore, 1) := by decide +kernel
theorem dX9_town_41 : decode cX9_town 41 = .ok (.aload_n 0, 1) := by decide +kernel
theorem dX9_town_42 : decode cX9_town 42 = .ok (.getfield 16, 3) := by decide +kernel
theorem dX9_town_45 : decode cX9_town 45 = .ok (.aload_n 0, 1) := by decide +kernel
theorem dX9_town_46 : decode cX9_town 46 = .ok (.getfield 68, 3) := by decide +kernel
theorem dX9_town_49 : decode cX9_town 49 = .ok (.iconst 0, 1) := by decide +kernel
theorem dX9_town_50 : decode cX9_town 50 = .ok (.iastore, 1) := by decide +kernel
theorem dX9_town_51 : decode cX9_town 51 = .ok (.aload_n 0, 1) := by decide +kernel
theorem dX9_town_52 : decode cX9_town 52 = .ok (.dup, 1) := by decide +kernel
theorem dX9_town_53 : decode cX9_town 53 = .ok (.getfield 68, 3) := by decide +kernel
theorem dX9_town_56 : decode cX9_town 56 = .ok (.iconst 1, 1) := by decide +kernel
theorem dX9_town_57 : decode cX9_town 57 = .ok (.iadd, 1) := by decide +kernel
theorem dX9_town_58 : decode cX9_town 58 = .ok (.putfield 68, 3) := by decide +kernel
theorem dX9_town_61 : decode cX9_town 61 = .ok (.aload_n 0, 1) := by decide +kernel
theorem dX9_town_62 : decode cX9_town 62 = .ok (.getfield 68, 3) := by decide +kernel
theorem dX9_town_65 : decode cX9_town 65 = .ok (.iconst 1, 1) := by decide +kernel
theorem dX9_town_66 : decode cX9_town 66 = .ok (.isub, 1) := by decide +kernel
theorem dX9_town_67 : decode cX9_town 67 = .ok (.ireturn, 1) := by decide +kernel
set_option maxRecDepth 20000 in
theorem ggX9_hall_X9_keep : GoodIn wsX9_hall wsX9_keep := goodIn_r _ [11, 12, 13, 14, 15, 2, 16, 17, 18, 3, 4, 5, 6, 19, 20, 21, 22, 23, 10, 24, 25, 26, 27, 28, 29, 30, 31, 32, 33, 34, 35, 36, 37, 38, 39, 40, 41, 42, 43, 44, 45, 46, 47, 48, 49, 50, 51, 52] (by decide +kernel) (by decide +kernel)
set_option maxRecDepth 20000 in
theorem gX9_hall_X9_keep : GoodIn wsX9_hall (wsV RX9 95 RX9 yX9_keep wsX9_keep) := goodIn_app (goodIn_of _ (by decide +kernel)) ggX9_hall_X9_keep
theorem dX9_hall_0 : decode cX9_hall 0 = .ok (.aload_n 0, 1) := by decide +kernel
theorem dX9_hall_1 : decode cX9_hall 1 = .ok (.iconst 0, 1) := by decide +kernel
theorem dX9_hall_2 : decode cX9_hall 2 = .ok (.putfield 58, 3) := by decide +kernel
theorem dX9_hall_5 : decode cX9_hall 5 = .ok (.aload_n 0, 1) := by decide +kernel
theorem dX9_hall_6 : decode cX9_hall 6 = .ok (.getfield 71, 3) := by decide +kernel
theorem dX9_hall_9 : decode cX9_hall 9 = .ok (.bipush 7, 2) := by decide +kernel
theorem dX9_hall_11 : decode cX9_hall 11 = .ok (.if_icmp .ne 6, 3) := by decide +kernel
theorem dX9_hall_14 : decode cX9_hall 14 = .ok (.bipush (-5), 2) := by decide +kernel
theorem dX9_hall_16 : decode cX9_hall 16 = .ok (.ireturn, 1) := by decide +kernel
theorem dX9_hall_17 : decode cX9_hall 17 = .ok (.aload_n 0, 1) := by decide +kernel
theorem dX9_hall_18 : decode cX9_hall 18 = .ok (.invokevirtual 95, 3) := by decide +kernel
theorem dX9_hall_21 : decode cX9_hall 21 = .ok (.aload_n 0, 1) := by decide +kernel
theorem dX9_hall_22 : decode cX9_hall 22 = .ok (.getfield 19, 3) := by decide +kernel
theorem dX9_hall_25 : decode cX9_hall 25 = .ok (.aload_n 0, 1) := by decide +kernel
theorem dX9_hall_26 : decode cX9_hall 26 = .ok (.getfield 71, 3) := by decide +kernel
theorem dX9_hall_29 : decode cX9_hall 29 = .ok (.iconst 0, 1) := by decide +kernel
theorem dX9_hall_30 : decode cX9_hall 30 = .ok (.iastore, 1) := by decide +kernel
theorem dX9_hall_31 : decode cX9_hall 31 = .ok (.aload_n 0, 1) := by decide +kernel
theorem dX9_hall_32 : decode cX9_hall 32 = .ok (.getfield 22, 3) := by decide +kernel
theorem dX9_hall_35 : decode cX9_hall 35 = .ok (.aload_n 0, 1) := by decide +kernel
theorem dX9_hall_36 : decode cX9_hall 36 = .ok (.getfield 71, 3) := by decide +kernel
theorem dX9_hall_39 : decode cX9_hall 39 = .ok (.sipush 200, 3) := by decide +kernel
theorem dX9_hall_42 : decode cX9_hall 42 = .ok (.iastore, 1) := by decide +kernel
theorem dX9_hall_43 : decode cX9_hall 43 = .ok (.aload_n 0, 1) := by decide +kernel
theorem dX9_hall_44 : decode cX9_hall 44 = .ok (.getfield 25, 3) := by decide +kernel
theorem dX9_hall_47 : decode cX9_hall 47 = .ok (.aload_n 0, 1) := by decide +kernel
theorem dX9_hall_48 : decode cX9_hall 48 = .ok (.getfield 71, 3) := by decide +kernel
theorem dX9_hall_51 : decode cX9_hall 51 = .ok (.iconst (-1), 1) := by decide +kernel
theorem dX9_hall_52 : decode cX9_hall 52 = .ok (.iastore, 1) := by decide +kernel
theorem dX9_hall_53 : decode cX9_hall 53 = .ok (.aload_n 0, 1) := by decide +kernel
theorem dX9_hall_54 : decode cX9_hall 54 = .ok (.getfield 28, 3) := by decide +kernel
theorem dX9_hall_57 : decode cX9_hall 57 = .ok (.aload_n 0, 1) := by decide +kernel
theorem dX9_hall_58 : decode cX9_hall 58 = .ok (.getfield 71, 3) := by decide +kernel
theorem dX9_hall_61 : decode cX9_hall 61 = .ok (.iconst 0, 1) := by decide +kernel
theorem dX9_hall_62 : decode cX9_hall 62 = .ok (.iastore, 1) := by decide +kernel
theorem dX9_hall_63 : decode cX9_hall 63 = .ok (.aload_n 0, 1) := by decide +kernel
theorem dX9_hall_64 : decode cX9_hall 64 = .ok (.dup, 1) := by decide +kernel
theorem dX9_hall_65 : decode cX9_hall 65 = .ok (.getfield 71, 3) := by decide +kernel
theorem dX9_hall_68 : decode cX9_hall 68 = .ok (.iconst 1, 1) := by decide +kernel
theorem dX9_hall_69 : decode cX9_hall 69 = .ok (.iadd, 1) := by decide +kernel
theorem dX9_hall_70 : decode cX9_hall 70 = .ok (.putfield 71, 3) := by decide +kernel
theorem dX9_hall_73 : decode cX9_hall 73 = .ok (.aload_n 0, 1) := by decide +kernel
theorem dX9_hall_74 : decode cX9_hall 74 = .ok (.getfield 71, 3) := by decide +kernel
theorem dX9_hall_77 : decode cX9_hall 77 = .ok (.iconst 1, 1) := by decide +kernel
theorem dX9_hall_78 : decode cX9_hall 78 = .ok (.isub, 1) := by decide +kernel
theorem dX9_hall_79 : decode cX9_hall 79 = .ok (.ireturn, 1) := by decide +kernel
set_option maxRecDepth 20000 in
theorem ggX9_people_X9_isTown : GoodIn wsX9_people wsX9_isTown := goodIn_r _ [7, 8, 9, 10, 6, 11, 32, 33, 34, 35, 36, 37, 38, 39, 40, 41, 42, 43, 44, 45, 46, 47, 48, 49, 50, 51, 52, 53, 54, 55, 56, 57, 58, 59] (by decide +kernel) (by decide +kernel)
set_option maxRecDepth 20000 in
theorem gX9_people_X9_isTown : GoodIn wsX9_people (wsV RX9 98 RX9 yX9_isTown wsX9_isTown) := goodIn_app (goodIn_of _ (by decide +kernel)) ggX9_people_X9_isTown
set_option maxRecDepth 20000 in
theorem ggX9_people_X9_in : GoodIn wsX9_people wsX9_in := goodIn_r _ [11] (by decide +kernel) (by decide +kernel)
set_option maxRecDepth 20000 in
theorem gX9_people_X9_in : GoodIn wsX9_people (va_wsS RX9 91 yX9_in wsX9_in) := goodIn_app (goodIn_of _ (by decide +kernel)) ggX9_people_X9_in
set_option maxRecDepth 20000 in
theorem ggX9_people_X9_keep : GoodIn wsX9_people wsX9_keep := goodIn_r _ [15, 16, 17, 18, 8, 19, 2, 20, 21, 22, 23, 24, 25, 26, 27, 28, 29, 30, 6, 31, 32, 33, 34, 35, 36, 37, 38, 39, 40, 41, 42, 43, 44, 45, 46, 47, 48, 49, 50, 51, 52, 53, 54, 55, 56, 57, 58, 59] (by decide +kernel) (by decide +kernel)
set_option maxRecDepth 20000 in
theorem gX9_people_X9_keep : GoodIn wsX9_people (wsV RX9 95 RX9 yX9_keep wsX9_keep) := goodIn_app (goodIn_of _ (by decide +kernel)) ggX9_people_X9_keep
theorem dX9_people_0 : decode cX9_people 0 = .ok (.aload_n 0, 1) := by decide +kernel
theorem dX9_people_1 : decode cX9_people 1 = .ok (.iconst 0, 1) := by decide +kernel
theorem dX9_people_2 : decode cX9_people 2 = .ok (.putfield 58, 3) := by decide +kernel
theorem dX9_people_5 : decode cX9_people 5 = .ok (.aload_n 0, 1) := by decide +kernel
theorem dX9_people_6 : decode cX9_people 6 = .ok (.iload_n 1, 1) := by decide +kernel
theorem dX9_people_7 : decode cX9_people 7 = .ok (.invokevirtual 98, 3) := by decide +kernel
theorem dX9_people_10 : decode cX9_people 10 = .ok (.ifCond .eq 13, 3) := by decide +kernel
theorem dX9_people_13 : decode cX9_people 13 = .ok (.iload_n 2, 1) := by decide +kernel
theorem dX9_people_14 : decode cX9_people 14 = .ok (.iconst 1, 1) := by decide +kernel
theorem dX9_people_15 : decode cX9_people 15 = .ok (.bipush 20, 2) := by decide +kernel
theorem dX9_people_17 : decode cX9_people 17 = .ok (.invokestatic 91, 3) := by decide +kernel
theorem dX9_people_20 : decode cX9_people 20 = .ok (.ifCond .ne 6, 3) := by decide +kernel
theorem dX9_people_23 : decode cX9_people 23 = .ok (.bipush (-3), 2) := by decide +kernel
theorem dX9_people_25 : decode cX9_people 25 = .ok (.ireturn, 1) := by decide +kernel
theorem dX9_people_26 : decode cX9_people 26 = .ok (.aload_n 0, 1) := by decide +kernel
theorem dX9_people_27 : decode cX9_people 27 = .ok (.invokevirtual 95, 3) := by decide +kernel
theorem dX9_people_30 : decode cX9_people 30 = .ok (.aload_n 0, 1) := by decide +kernel
theorem dX9_people_31 : decode cX9_people 31 = .ok (.getfield 7, 3) := by decide +kernel
theorem dX9_people_34 : decode cX9_people 34 = .ok (.iload_n 1, 1) := by decide +kernel
theorem dX9_people_35 : decode cX9_people 35 = .ok (.iaload, 1) := by decide +kernel
theorem dX9_people_36 : decode cX9_people 36 = .ok (.istore_n 3, 1) := by decide +kernel
theorem dX9_people_37 : decode cX9_people 37 = .ok (.aload_n 0, 1) := by decide +kernel
theorem dX9_people_38 : decode cX9_people 38 = .ok (.getfield 7, 3) := by decide +kernel
theorem dX9_people_41 : decode cX9_people 41 = .ok (.iload_n 1, 1) := by decide +kernel
theorem dX9_people_42 : decode cX9_people 42 = .ok (.iload_n 2, 1) := by decide +kernel
theorem dX9_people_43 : decode cX9_people 43 = .ok (.iastore, 1) := by decide +kernel
theorem dX9_people_44 : decode cX9_people 44 = .ok (.iload_n 3, 1) := by decide +kernel
theorem dX9_people_45 : decode cX9_people 45 = .ok (.ireturn, 1) := by decide +kernel
set_option maxRecDepth 20000 in
theorem ggX9_fine_X9_isTown : GoodIn wsX9_fine wsX9_isTown := goodIn_r _ [8, 9, 10, 11, 7, 12, 33, 34, 35, 36, 37, 38, 39, 40, 41, 42, 43, 44, 45, 46, 47, 48, 49, 50, 51, 52, 53, 54, 55, 56, 57, 58, 59, 60] (by decide +kernel) (by decide +kernel)
set_option maxRecDepth 20000 in
theorem gX9_fine_X9_isTown : GoodIn wsX9_fine (wsV RX9 98 RX9 yX9_isTown wsX9_isTown) := goodIn_app (goodIn_of _ (by decide +kernel)) ggX9_fine_X9_isTown
set_option maxRecDepth 20000 in
theorem ggX9_fine_X9_in : GoodIn wsX9_fine wsX9_in := goodIn_r _ [12] (by decide +kernel) (by decide +kernel)
set_option maxRecDepth 20000 in
theorem gX9_fine_X9_in : GoodIn wsX9_fine (va_wsS RX9 91 yX9_in wsX9_in) := goodIn_app (goodIn_of _ (by decide +kernel)) ggX9_fine_X9_in
set_option maxRecDepth 20000 in
theorem ggX9_fine_X9_keep : GoodIn wsX9_fine wsX9_keep := goodIn_r _ [16, 17, 18, 19, 9, 20, 21, 3, 22, 23, 24, 25, 26, 27, 28, 29, 30, 31, 7, 32, 33, 34, 35, 36, 37, 38, 39, 40, 41, 42, 43, 44, 45, 46, 47, 48, 49, 50, 51, 52, 53, 54, 55, 56, 57, 58, 59, 60] (by decide +kernel) (by decide +kernel)
set_option maxRecDepth 20000 in
theorem gX9_fine_X9_keep : GoodIn wsX9_fine (wsV RX9 95 RX9 yX9_keep wsX9_keep) := goodIn_app (goodIn_of _ (by decide +kernel)) ggX9_fine_X9_keep
theorem dX9_fine_0 : decode cX9_fine 0 = .ok (.aload_n 0, 1) := by decide +kernel
theorem dX9_fine_1 : decode cX9_fine 1 = .ok (.iconst 0, 1) := by decide +kernel
theorem dX9_fine_2 : decode cX9_fine 2 = .ok (.putfield 58, 3) := by decide +kernel
theorem dX9_fine_5 : decode cX9_fine 5 = .ok (.aload_n 0, 1) := by decide +kernel
theorem dX9_fine_6 : decode cX9_fine 6 = .ok (.iload_n 1, 1) := by decide +kernel
theorem dX9_fine_7 : decode cX9_fine 7 = .ok (.invokevirtual 98, 3) := by decide +kernel
theorem dX9_fine_10 : decode cX9_fine 10 = .ok (.ifCond .eq 13, 3) := by decide +kernel
theorem dX9_fine_13 : decode cX9_fine 13 = .ok (.iload_n 2, 1) := by decide +kernel
theorem dX9_fine_14 : decode cX9_fine 14 = .ok (.iconst 0, 1) := by decide +kernel
theorem dX9_fine_15 : decode cX9_fine 15 = .ok (.ldc 102, 2) := by decide +kernel
theorem dX9_fine_17 : decode cX9_fine 17 = .ok (.invokestatic 91, 3) := by decide +kernel
theorem dX9_fine_20 : decode cX9_fine 20 = .ok (.ifCond .ne 6, 3) := by decide +kernel
theorem dX9_fine_23 : decode cX9_fine 23 = .ok (.bipush (-3), 2) := by decide +kernel
theorem dX9_fine_25 : decode cX9_fine 25 = .ok (.ireturn, 1) := by decide +kernel
theorem dX9_fine_26 : decode cX9_fine 26 = .ok (.aload_n 0, 1) := by decide +kernel
theorem dX9_fine_27 : decode cX9_fine 27 = .ok (.invokevirtual 95, 3) := by decide +kernel
theorem dX9_fine_30 : decode cX9_fine 30 = .ok (.aload_n 0, 1) := by decide +kernel
theorem dX9_fine_31 : decode cX9_fine 31 = .ok (.getfield 13, 3) := by decide +kernel
theorem dX9_fine_34 : decode cX9_fine 34 = .ok (.iload_n 1, 1) := by decide +kernel
theorem dX9_fine_35 : decode cX9_fine 35 = .ok (.iaload, 1) := by decide +kernel
theorem dX9_fine_36 : decode cX9_fine 36 = .ok (.istore_n 3, 1) := by decide +kernel
theorem dX9_fine_37 : decode cX9_fine 37 = .ok (.aload_n 0, 1) := by decide +kernel
theorem dX9_fine_38 : decode cX9_fine 38 = .ok (.getfield 13, 3) := by decide +kernel
theorem dX9_fine_41 : decode cX9_fine 41 = .ok (.iload_n 1, 1) := by decide +kernel
theorem dX9_fine_42 : decode cX9_fine 42 = .ok (.iload_n 2, 1) := by decide +kernel
theorem dX9_fine_43 : decode cX9_fine 43 = .ok (.iastore, 1) := by decide +kernel
theorem dX9_fine_44 : decode cX9_fine 44 = .ok (.iload_n 3, 1) := by decide +kernel
theorem dX9_fine_45 : decode cX9_fine 45 = .ok (.ireturn, 1) := by decide +kernel
set_option maxRecDepth 20000 in
theorem ggX9_place_X9_isTown : GoodIn wsX9_place wsX9_isTown := goodIn_r _ [7, 8, 9, 10, 6, 11, 32, 33, 34, 35, 36, 37, 38, 39, 40, 41, 42, 43, 44, 45, 46, 47, 48, 49, 50, 51, 52, 53, 54, 55, 56, 57, 58, 59] (by decide +kernel) (by decide +kernel)
set_option maxRecDepth 20000 in
theorem gX9_place_X9_isTown : GoodIn wsX9_place (wsV RX9 98 RX9 yX9_isTown wsX9_isTown) := goodIn_app (goodIn_of _ (by decide +kernel)) ggX9_place_X9_isTown
set_option maxRecDepth 20000 in
theorem ggX9_place_X9_in : GoodIn wsX9_place wsX9_in := goodIn_r _ [11] (by decide +kernel) (by decide +kernel)
set_option maxRecDepth 20000 in
theorem gX9_place_X9_in : GoodIn wsX9_place (va_wsS RX9 91 yX9_in wsX9_in) := goodIn_app (goodIn_of _ (by decide +kernel)) ggX9_place_X9_in
set_option maxRecDepth 20000 in
theorem ggX9_place_X9_keep : GoodIn wsX9_place wsX9_keep := goodIn_r _ [15, 16, 17, 18, 8, 19, 20, 21, 2, 22, 23, 24, 25, 26, 27, 28, 29, 30, 6, 31, 32, 33, 34, 35, 36, 37, 38, 39, 40, 41, 42, 43, 44, 45, 46, 47, 48, 49, 50, 51, 52, 53, 54, 55, 56, 57, 58, 59] (by decide +kernel) (by decide +kernel)
set_option maxRecDepth 20000 in
theorem gX9_place_X9_keep : GoodIn wsX9_place (wsV RX9 95 RX9 yX9_keep wsX9_keep) := goodIn_app (goodIn_of _ (by decide +kernel)) ggX9_place_X9_keep
theorem dX9_place_0 : decode cX9_place 0 = .ok (.aload_n 0, 1) := by decide +kernel
theorem dX9_place_1 : decode cX9_place 1 = .ok (.iconst 0, 1) := by decide +kernel
theorem dX9_place_2 : decode cX9_place 2 = .ok (.putfield 58, 3) := by decide +kernel
theorem dX9_place_5 : decode cX9_place 5 = .ok (.aload_n 0, 1) := by decide +kernel
theorem dX9_place_6 : decode cX9_place 6 = .ok (.iload_n 1, 1) := by decide +kernel
theorem dX9_place_7 : decode cX9_place 7 = .ok (.invokevirtual 98, 3) := by decide +kernel
theorem dX9_place_10 : decode cX9_place 10 = .ok (.ifCond .eq 16, 3) := by decide +kernel
theorem dX9_place_13 : decode cX9_place 13 = .ok (.iload_n 2, 1) := by decide +kernel
theorem dX9_place_14 : decode cX9_place 14 = .ok (.sipush (-1000), 3) := by decide +kernel
theorem dX9_place_17 : decode cX9_place 17 = .ok (.sipush 1000, 3) := by decide +kernel
theorem dX9_place_20 : decode cX9_place 20 = .ok (.invokestatic 91, 3) := by decide +kernel
theorem dX9_place_23 : decode cX9_place 23 = .ok (.ifCond .ne 6, 3) := by decide +kernel
theorem dX9_place_26 : decode cX9_place 26 = .ok (.bipush (-3), 2) := by decide +kernel
theorem dX9_place_28 : decode cX9_place 28 = .ok (.ireturn, 1) := by decide +kernel
theorem dX9_place_29 : decode cX9_place 29 = .ok (.aload_n 0, 1) := by decide +kernel
theorem dX9_place_30 : decode cX9_place 30 = .ok (.invokevirtual 95, 3) := by decide +kernel
theorem dX9_place_33 : decode cX9_place 33 = .ok (.aload_n 0, 1) := by decide +kernel
theorem dX9_place_34 : decode cX9_place 34 = .ok (.getfield 16, 3) := by decide +kernel
theorem dX9_place_37 : decode cX9_place 37 = .ok (.iload_n 1, 1) := by decide +kernel
theorem dX9_place_38 : decode cX9_place 38 = .ok (.iload_n 2, 1) := by decide +kernel
theorem dX9_place_39 : decode cX9_place 39 = .ok (.iastore, 1) := by decide +kernel
theorem dX9_place_40 : decode cX9_place 40 = .ok (.iconst 0, 1) := by decide +kernel
theorem dX9_place_41 : decode cX9_place 41 = .ok (.ireturn, 1) := by decide +kernel
set_option maxRecDepth 20000 in
theorem ggX9_price_X9_isHall : GoodIn wsX9_price wsX9_isHall := goodIn_r _ [8, 9, 10, 11, 7, 12, 33, 34, 35, 36, 37, 38, 39, 40, 41, 42, 43, 44, 45, 46, 47, 48, 49, 50, 51, 52, 53, 54, 55, 56, 57, 58, 59, 60] (by decide +kernel) (by decide +kernel)
set_option maxRecDepth 20000 in
theorem gX9_price_X9_isHall : GoodIn wsX9_price (wsV RX9 103 RX9 yX9_isHall wsX9_isHall) := goodIn_app (goodIn_of _ (by decide +kernel)) ggX9_price_X9_isHall
set_option maxRecDepth 20000 in
theorem ggX9_price_X9_in : GoodIn wsX9_price wsX9_in := goodIn_r _ [12] (by decide +kernel) (by decide +kernel)
set_option maxRecDepth 20000 in
theorem gX9_price_X9_in : GoodIn wsX9_price (va_wsS RX9 91 yX9_in wsX9_in) := goodIn_app (goodIn_of _ (by decide +kernel)) ggX9_price_X9_in
set_option maxRecDepth 20000 in
theorem ggX9_price_X9_keep : GoodIn wsX9_price wsX9_keep := goodIn_r _ [16, 17, 18, 19, 20, 9, 21, 22, 23, 3, 24, 25, 26, 27, 28, 29, 30, 31, 7, 32, 33, 34, 35, 36, 37, 38, 39, 40, 41, 42, 43, 44, 45, 46, 47, 48, 49, 50, 51, 52, 53, 54, 55, 56, 57, 58, 59, 60] (by decide +kernel) (by decide +kernel)
set_option maxRecDepth 20000 in
theorem gX9_price_X9_keep : GoodIn wsX9_price (wsV RX9 95 RX9 yX9_keep wsX9_keep) := goodIn_app (goodIn_of _ (by decide +kernel)) ggX9_price_X9_keep
theorem dX9_price_0 : decode cX9_price 0 = .ok (.aload_n 0, 1) := by decide +kernel
theorem dX9_price_1 : decode cX9_price 1 = .ok (.iconst 0, 1) := by decide +kernel
theorem dX9_price_2 : decode cX9_price 2 = .ok (.putfield 58, 3) := by decide +kernel
theorem dX9_price_5 : decode cX9_price 5 = .ok (.aload_n 0, 1) := by decide +kernel
theorem dX9_price_6 : decode cX9_price 6 = .ok (.iload_n 1, 1) := by decide +kernel
theorem dX9_price_7 : decode cX9_price 7 = .ok (.invokevirtual 103, 3) := by decide +kernel
theorem dX9_price_10 : decode cX9_price 10 = .ok (.ifCond .eq 13, 3) := by decide +kernel
theorem dX9_price_13 : decode cX9_price 13 = .ok (.iload_n 2, 1) := by decide +kernel
theorem dX9_price_14 : decode cX9_price 14 = .ok (.iconst 0, 1) := by decide +kernel
theorem dX9_price_15 : decode cX9_price 15 = .ok (.ldc 102, 2) := by decide +kernel
theorem dX9_price_17 : decode cX9_price 17 = .ok (.invokestatic 91, 3) := by decide +kernel
theorem dX9_price_20 : decode cX9_price 20 = .ok (.ifCond .ne 6, 3) := by decide +kernel
theorem dX9_price_23 : decode cX9_price 23 = .ok (.bipush (-3), 2) := by decide +kernel
theorem dX9_price_25 : decode cX9_price 25 = .ok (.ireturn, 1) := by decide +kernel
theorem dX9_price_26 : decode cX9_price 26 = .ok (.aload_n 0, 1) := by decide +kernel
theorem dX9_price_27 : decode cX9_price 27 = .ok (.invokevirtual 95, 3) := by decide +kernel
theorem dX9_price_30 : decode cX9_price 30 = .ok (.aload_n 0, 1) := by decide +kernel
theorem dX9_price_31 : decode cX9_price 31 = .ok (.getfield 19, 3) := by decide +kernel
theorem dX9_price_34 : decode cX9_price 34 = .ok (.iload_n 1, 1) := by decide +kernel
theorem dX9_price_35 : decode cX9_price 35 = .ok (.iaload, 1) := by decide +kernel
theorem dX9_price_36 : decode cX9_price 36 = .ok (.istore_n 3, 1) := by decide +kernel
theorem dX9_price_37 : decode cX9_price 37 = .ok (.aload_n 0, 1) := by decide +kernel
theorem dX9_price_38 : decode cX9_price 38 = .ok (.getfield 19, 3) := by decide +kernel
theorem dX9_price_41 : decode cX9_price 41 = .ok (.iload_n 1, 1) := by decide +kernel
theorem dX9_price_42 : decode cX9_price 42 = .ok (.iload_n 2, 1) := by decide +kernel
theorem dX9_price_43 : decode cX9_price 43 = .ok (.iastore, 1) := by decide +kernel
theorem dX9_price_44 : decode cX9_price 44 = .ok (.iload_n 3, 1) := by decide +kernel
theorem dX9_price_45 : decode cX9_price 45 = .ok (.ireturn, 1) := by decide +kernel
set_option maxRecDepth 20000 in
theorem ggX9_room_X9_isHall : GoodIn wsX9_room wsX9_isHall := goodIn_r _ [7, 8, 9, 10, 6, 11, 32, 33, 34, 35, 36, 37, 38, 39, 40, 41, 42, 43, 44, 45, 46, 47, 48, 49, 50, 51, 52, 53, 54, 55, 56, 57, 58, 59] (by decide +kernel) (by decide +kernel)
set_option maxRecDepth 20000 in
theorem gX9_room_X9_isHall : GoodIn wsX9_room (wsV RX9 103 RX9 yX9_isHall wsX9_isHall) := goodIn_app (goodIn_of _ (by decide +kernel)) ggX9_room_X9_isHall
set_option maxRecDepth 20000 in
theorem ggX9_room_X9_in : GoodIn wsX9_room wsX9_in := goodIn_r _ [11] (by decide +kernel) (by decide +kernel)
set_option maxRecDepth 20000 in
theorem gX9_room_X9_in : GoodIn wsX9_room (va_wsS RX9 91 yX9_in wsX9_in) := goodIn_app (goodIn_of _ (by decide +kernel)) ggX9_room_X9_in
set_option maxRecDepth 20000 in
theorem ggX9_room_X9_keep : GoodIn wsX9_room wsX9_keep := goodIn_r _ [15, 16, 17, 18, 19, 8, 20, 21, 22, 23, 2, 24, 25, 26, 27, 28, 29, 30, 6, 31, 32, 33, 34, 35, 36, 37, 38, 39, 40, 41, 42, 43, 44, 45, 46, 47, 48, 49, 50, 51, 52, 53, 54, 55, 56, 57, 58, 59] (by decide +kernel) (by decide +kernel)
set_option maxRecDepth 20000 in
theorem gX9_room_X9_keep : GoodIn wsX9_room (wsV RX9 95 RX9 yX9_keep wsX9_keep) := goodIn_app (goodIn_of _ (by decide +kernel)) ggX9_room_X9_keep
theorem dX9_room_0 : decode cX9_room 0 = .ok (.aload_n 0, 1) := by decide +kernel
theorem dX9_room_1 : decode cX9_room 1 = .ok (.iconst 0, 1) := by decide +kernel
theorem dX9_room_2 : decode cX9_room 2 = .ok (.putfield 58, 3) := by decide +kernel
theorem dX9_room_5 : decode cX9_room 5 = .ok (.aload_n 0, 1) := by decide +kernel
theorem dX9_room_6 : decode cX9_room 6 = .ok (.iload_n 1, 1) := by decide +kernel
theorem dX9_room_7 : decode cX9_room 7 = .ok (.invokevirtual 103, 3) := by decide +kernel
theorem dX9_room_10 : decode cX9_room 10 = .ok (.ifCond .eq 14, 3) := by decide +kernel
theorem dX9_room_13 : decode cX9_room 13 = .ok (.iload_n 2, 1) := by decide +kernel
theorem dX9_room_14 : decode cX9_room 14 = .ok (.iconst 0, 1) := by decide +kernel
theorem dX9_room_15 : decode cX9_room 15 = .ok (.sipush 200, 3) := by decide +kernel
theorem dX9_room_18 : decode cX9_room 18 = .ok (.invokestatic 91, 3) := by decide +kernel
theorem dX9_room_21 : decode cX9_room 21 = .ok (.ifCond .ne 6, 3) := by decide +kernel
theorem dX9_room_24 : decode cX9_room 24 = .ok (.bipush (-3), 2) := by decide +kernel
theorem dX9_room_26 : decode cX9_room 26 = .ok (.ireturn, 1) := by decide +kernel
theorem dX9_room_27 : decode cX9_room 27 = .ok (.aload_n 0, 1) := by decide +kernel
theorem dX9_room_28 : decode cX9_room 28 = .ok (.invokevirtual 95, 3) := by decide +kernel
theorem dX9_room_31 : decode cX9_room 31 = .ok (.aload_n 0, 1) := by decide +kernel
theorem dX9_room_32 : decode cX9_room 32 = .ok (.getfield 22, 3) := by decide +kernel
theorem dX9_room_35 : decode cX9_room 35 = .ok (.iload_n 1, 1) := by decide +kernel
theorem dX9_room_36 : decode cX9_room 36 = .ok (.iaload, 1) := by decide +kernel
theorem dX9_room_37 : decode cX9_room 37 = .ok (.istore_n 3, 1) := by decide +kernel
theorem dX9_room_38 : decode cX9_room 38 = .ok (.aload_n 0, 1) := by decide +kernel
theorem dX9_room_39 : decode cX9_room 39 = .ok (.getfield 22, 3) := by decide +kernel
theorem dX9_room_42 : decode cX9_room 42 = .ok (.iload_n 1, 1) := by decide +kernel
theorem dX9_room_43 : decode cX9_room 43 = .ok (.iload_n 2, 1) := by decide +kernel
theorem dX9_room_44 : decode cX9_room 44 = .ok (.iastore, 1) := by decide +kernel
theorem dX9_room_45 : decode cX9_room 45 = .ok (.iload_n 3, 1) := by decide +kernel
theorem dX9_room_46 : decode cX9_room 46 = .ok (.ireturn, 1) := by decide +kernel
set_option maxRecDepth 20000 in
theorem ggX9_sheet_X9_isHall : GoodIn wsX9_sheet wsX9_isHall := goodIn_r _ [9, 10, 11, 12, 8, 13, 32, 33, 34, 35, 36, 37, 38, 39, 40, 41, 42, 43, 44, 45, 46, 47, 48, 49, 50, 51, 52, 53, 54, 55, 56, 57, 58, 59] (by decide +kernel) (by decide +kernel)
set_option maxRecDepth 20000 in
theorem gX9_sheet_X9_isHall : GoodIn wsX9_sheet (wsV RX9 103 RX9 yX9_isHall wsX9_isHall) := goodIn_app (goodIn_of _ (by decide +kernel)) ggX9_sheet_X9_isHall
set_option maxRecDepth 20000 in
theorem ggX9_sheet_X9_in : GoodIn wsX9_sheet wsX9_in := goodIn_r _ [13] (by decide +kernel) (by decide +kernel)
set_option maxRecDepth 20000 in
theorem gX9_sheet_X9_in : GoodIn wsX9_sheet (va_wsS RX9 91 yX9_in wsX9_in) := goodIn_app (goodIn_of _ (by decide +kernel)) ggX9_sheet_X9_in
set_option maxRecDepth 20000 in
theorem ggX9_sheet_X9_keep : GoodIn wsX9_sheet wsX9_keep := goodIn_r _ [17, 18, 19, 20, 21, 10, 22, 23, 24, 25, 26, 2, 3, 4, 27, 28, 29, 30, 8, 31, 32, 33, 34, 35, 36, 37, 38, 39, 40, 41, 42, 43, 44, 45, 46, 47, 48, 49, 50, 51, 52, 53, 54, 55, 56, 57, 58, 59] (by decide +kernel) (by decide +kernel)
set_option maxRecDepth 20000 in
theorem gX9_sheet_X9_keep : GoodIn wsX9_sheet (wsV RX9 95 RX9 yX9_keep wsX9_keep) := goodIn_app (goodIn_of _ (by decide +kernel)) ggX9_sheet_X9_keep
