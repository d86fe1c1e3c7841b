/-! X1_bestUpTo -/
theorem hw_X1_bestUpTo : wsX1_bestUpTo = Cond.code yX1_bestUpTo cX1_bestUpTo 4 (some .int) :: wsX1_bestUpTo.tail := rfl
set_option maxRecDepth 100000 in
theorem yX1_bestUpTo_X1_isBest : yX1_isBest.cls = RX1 ∧ yX1_isBest.cls ≠ "java/lang/invoke/MethodHandle" ∧ yX1_isBest.cls ≠ "java/lang/invoke/VarHandle" ∧ (parseMethodDescriptor yX1_isBest.desc).map (fun d => d.parameters.length) = some 1 := by decide +kernel
def wc_X1_bestUpTo_4 : hd_xC := (hd_cI (fun x y => decide (x ≤ y)) (hd_iL 3) (hd_iL 1))
def wb_X1_bestUpTo_4 : hd_xS := (hd_sQ (hd_sI 2 (hd_iB (fun x y => x + y) (hd_iL 2) (hd_iQ (hd_c0 (fun x => !decide (x = 0)) (hd_iN (hd_nV hs_sh 1 (hd_rL 0) 1 (hd_pI hd_v0 (hd_iL 3)) wm_X1_isBest))) (hd_iK (1)) (hd_iK (0))))) (hd_sP 3 (1)))
def wo_X1_bestUpTo : hd_xS := (hd_sQ (hd_sI 2 (hd_iK (0))) (hd_sQ (hd_sQ (hd_sI 3 (hd_iK (0))) (hd_sH (wc_X1_bestUpTo_4) (wb_X1_bestUpTo_4))) (hd_sRI (hd_iL 2))))
def wm_X1_bestUpTo : hd_M := hd_mth 4 wo_X1_bestUpTo
set_option maxHeartbeats 4000000 in
set_option maxRecDepth 100000 in
theorem snd_X1_bestUpTo : hd_Snd vwCl hs_sh yX1_bestUpTo wsX1_bestUpTo 2 wm_X1_bestUpTo := hd_method (by decide) rfl rfl (by decide) (fun κ C Rk => (hd_seq (p1 := 2) (hd_sistore_n C (kk0 := 2) (p1 := 1) (hd_iconst C dX1_bestUpTo_0 (by decide)) dX1_bestUpTo_1 (by decide)) (hd_seq (p1 := 31) (hd_seq (p1 := 4) (hd_sistore_n C (kk0 := 3) (p1 := 3) (hd_iconst C dX1_bestUpTo_2 (by decide)) dX1_bestUpTo_3 (by decide)) (hd_loop C (p1 := 9) (p2 := 31) (hd_c_leF C (p1 := 5) (p2 := 6) (tgt := 31) (hd_iload_n C (kk0 := 3) dX1_bestUpTo_4) (hd_iload_n C (kk0 := 1) dX1_bestUpTo_5) dX1_bestUpTo_6 (by decide)) (hd_seq (p1 := 25) (hd_sistore_n C (kk0 := 2) (p1 := 24) (hd_iadd C (p1 := 10) (p2 := 23) (hd_iload_n C (kk0 := 2) dX1_bestUpTo_9) (hd_tnI C (p1 := 18) (p2 := 19) (p3 := 22) (p4 := 23) (hd_z_neF C (p2 := 15) (tgt := 22) (hd_inI (hd_invV C (p1 := 11) (p2 := 12) snd_X1_isBest hw_X1_isBest gX1_bestUpTo_X1_isBest hs_c_1 yX1_bestUpTo_X1_isBest ⟨by decide, by decide⟩ (by decide) (hd_aload_n C (kk0 := 0) dX1_bestUpTo_10) (hd_apI (p1 := 11) (p2 := 12) hd_av0 (hd_iload_n C (kk0 := 3) dX1_bestUpTo_11)) dX1_bestUpTo_12)) dX1_bestUpTo_15 (by decide)) (hd_iconst C dX1_bestUpTo_18 (by decide)) dX1_bestUpTo_19 (by decide) (hd_iconst C dX1_bestUpTo_22 (by decide))) dX1_bestUpTo_23) dX1_bestUpTo_24 (by decide)) (hd_sgoto C (p1 := 28) (tgt := 4) (hd_ends (es := [28]) (by decide) (hd_siinc C dX1_bestUpTo_25 (by decide) (by decide))) dX1_bestUpTo_28 (by decide) (by decide))) (by decide))) (hd_retI C Rk (p1 := 32) (hd_iload_n C (kk0 := 2) dX1_bestUpTo_31) dX1_bestUpTo_32))))
/-! X1_finedOf -/
theorem hw_X1_finedOf : wsX1_finedOf = Cond.code yX1_finedOf cX1_finedOf 4 (some .int) :: wsX1_finedOf.tail := rfl
set_option maxRecDepth 100000 in
theorem uX1_finedOf_X1 : ∀ w ∈ u_ws RX1 TX1 5, w ∈ wsX1_finedOf := by decide +kernel
set_option maxRecDepth 100000 in
theorem lX1_finedOf_19 : Cond.fieldLink RX1 19 (TX1 1).1 (TX1 1).2.1 (TX1 1).2.2.1 ∈ wsX1_finedOf := by decide +kernel
set_option maxRecDepth 100000 in
theorem fX1_finedOf_19 : hd_F wsX1_finedOf RX1 vwCl 1 1 19 := ⟨RX1, TX1, 5, rfl, by decide, uX1_finedOf_X1, lX1_finedOf_19⟩
set_option maxRecDepth 100000 in
theorem uX1_finedOf_X6 : ∀ w ∈ u_ws RX6 TX6 5, w ∈ wsX1_finedOf := by decide +kernel
set_option maxRecDepth 100000 in
theorem lX1_finedOf_59 : Cond.fieldLink RX1 59 (TX6 3).1 (TX6 3).2.1 (TX6 3).2.2.1 ∈ wsX1_finedOf := by decide +kernel
set_option maxRecDepth 100000 in
theorem fX1_finedOf_59 : hd_F wsX1_finedOf RX1 vwCl 6 3 59 := ⟨RX6, TX6, 5, rfl, by decide, uX1_finedOf_X6, lX1_finedOf_59⟩
set_option maxRecDepth 100000 in
theorem lX1_finedOf_15 : Cond.fieldLink RX1 15 (TX1 0).1 (TX1 0).2.1 (TX1 0).2.2.1 ∈ wsX1_finedOf := by decide +kernel
set_option maxRecDepth 100000 in
theorem fX1_finedOf_15 : hd_F wsX1_finedOf RX1 vwCl 1 0 15 := ⟨RX1, TX1, 5, rfl, by decide, uX1_finedOf_X1, lX1_finedOf_15⟩
set_option maxRecDepth 100000 in
theorem uX1_finedOf_X5 : ∀ w ∈ u_ws RX5 TX5 10, w ∈ wsX1_finedOf := by decide +kernel
set_option maxRecDepth 100000 in
theorem lX1_finedOf_62 : Cond.fieldLink RX1 62 (TX5 0).1 (TX5 0).2.1 (TX5 0).2.2.1 ∈ wsX1_finedOf := by decide +kernel
set_option maxRecDepth 100000 in
theorem fX1_finedOf_62 : hd_F wsX1_finedOf RX1 vwCl 5 0 62 := ⟨RX5, TX5, 10, rfl, by decide, uX1_finedOf_X5, lX1_finedOf_62⟩
set_option maxRecDepth 100000 in
theorem lX1_finedOf_76 : Cond.fieldLink RX1 76 (TX5 3).1 (TX5 3).2.1 (TX5 3).2.2.1 ∈ wsX1_finedOf := by decide +kernel
set_option maxRecDepth 100000 in
theorem fX1_finedOf_76 : hd_F wsX1_finedOf RX1 vwCl 5 3 76 := ⟨RX5, TX5, 10, rfl, by decide, uX1_finedOf_X5, lX1_finedOf_76⟩
set_option maxRecDepth 100000 in
theorem lX1_finedOf_79 : Cond.fieldLink RX1 79 (TX5 2).1 (TX5 2).2.1 (TX5 2).2.2.1 ∈ wsX1_finedOf := by decide +kernel
set_option maxRecDepth 100000 in
theorem fX1_finedOf_79 : hd_F wsX1_finedOf RX1 vwCl 5 2 79 := ⟨RX5, TX5, 10, rfl, by decide, uX1_finedOf_X5, lX1_finedOf_79⟩
set_option maxRecDepth 100000 in
theorem yX1_finedOf_X6_nearWay : yX6_nearWay.cls = RX6 ∧ yX6_nearWay.cls ≠ "java/lang/invoke/MethodHandle" ∧ yX6_nearWay.cls ≠ "java/lang/invoke/VarHandle" ∧ (parseMethodDescriptor yX6_nearWay.desc).map (fun d => d.parameters.length) = some 2 := by decide +kernel
set_option maxRecDepth 100000 in
theorem wX1_finedOf_16 : Cond.methodLink RX1 82 Lib.Math.min.name ∈ wsX1_finedOf := by decide +kernel
set_option maxRecDepth 100000 in
theorem wX1_finedOf_17 : Cond.static Lib.Math.min.name ∈ wsX1_finedOf := by decide +kernel
set_option maxRecDepth 100000 in
theorem wX1_finedOf_18 : Cond.initialized "java/lang/Math" ∈ wsX1_finedOf := by decide +kernel
set_option maxRecDepth 100000 in
theorem wX1_finedOf_19 : Cond.code Lib.Math.min.name Lib.Math.min.code 2 (some .int) ∈ wsX1_finedOf := by decide +kernel
def wc_X1_finedOf_12 : hd_xC := (hd_cI (fun x y => decide (x < y)) (hd_iL 3) (hd_iG hs_sh 5 0 (hd_rG hs_sh 1 0 (hd_rL 0))))
def wb_X1_finedOf_12 : hd_xS := (hd_sQ (hd_sI 2 (hd_iB (fun x y => x + y) (hd_iL 2) (hd_iB (fun x y => if y < x then y else x) (hd_iA hs_sh (hd_rG hs_sh 5 3 (hd_rG hs_sh 1 0 (hd_rL 0))) (hd_iL 3)) (hd_iB (fun x y => x * y) (hd_iA hs_sh (hd_rG hs_sh 5 2 (hd_rG hs_sh 1 0 (hd_rL 0))) (hd_iL 3)) (hd_iN (hd_nV hs_sh 6 (hd_rG hs_sh 1 1 (hd_rL 0)) 2 (hd_pI (hd_pI hd_v0 (hd_iL 1)) (hd_iL 3)) wm_X6_nearWay)))))) (hd_sP 3 (1)))
def wo_X1_finedOf : hd_xS := (hd_sQ (hd_sI 2 (hd_iA hs_sh (hd_rG hs_sh 6 3 (hd_rG hs_sh 1 1 (hd_rL 0))) (hd_iL 1))) (hd_sQ (hd_sQ (hd_sI 3 (hd_iK (0))) (hd_sH (wc_X1_finedOf_12) (wb_X1_finedOf_12))) (hd_sRI (hd_iL 2))))
def wm_X1_finedOf : hd_M := hd_mth 4 wo_X1_finedOf
set_option maxHeartbeats 4000000 in
set_option maxRecDepth 100000 in
theorem snd_X1_finedOf : hd_Snd vwCl hs_sh yX1_finedOf wsX1_finedOf 2 wm_X1_finedOf := hd_method (by decide) rfl rfl (by decide) (fun κ C Rk => (hd_seq (p1 := 10) (hd_sistore_n C (kk0 := 2) (p1 := 9) (hd_iald C (p1 := 7) (p2 := 8) (hd_getR C (p1 := 4) fX1_finedOf_59 (hd_getR C (p1 := 1) fX1_finedOf_19 (hd_aload_n C (kk0 := 0) dX1_finedOf_0) dX1_finedOf_1) dX1_finedOf_4) (hd_iload_n C (kk0 := 1) dX1_finedOf_7) dX1_finedOf_8) dX1_finedOf_9 (by decide)) (hd_seq (p1 := 63) (hd_seq (p1 := 12) (hd_sistore_n C (kk0 := 3) (p1 := 11) (hd_iconst C dX1_finedOf_10 (by decide)) dX1_finedOf_11 (by decide)) (hd_loop C (p1 := 23) (p2 := 63) (hd_c_ltF C (p1 := 13) (p2 := 20) (tgt := 63) (hd_iload_n C (kk0 := 3) dX1_finedOf_12) (hd_getI C (p1 := 17) fX1_finedOf_62 (hd_getR C (p1 := 14) fX1_finedOf_15 (hd_aload_n C (kk0 := 0) dX1_finedOf_13) dX1_finedOf_14) dX1_finedOf_17) dX1_finedOf_20 (by decide)) (hd_seq (p1 := 57) (hd_sistore_n C (kk0 := 2) (p1 := 56) (hd_iadd C (p1 := 24) (p2 := 55) (hd_iload_n C (kk0 := 2) dX1_finedOf_23) (hd_mmin C (p1 := 33) (p2 := 52) wX1_finedOf_16 wX1_finedOf_17 wX1_finedOf_18 wX1_finedOf_19 (by decide) (hd_iald C (p1 := 31) (p2 := 32) (hd_getR C (p1 := 28) fX1_finedOf_76 (hd_getR C (p1 := 25) fX1_finedOf_15 (hd_aload_n C (kk0 := 0) dX1_finedOf_24) dX1_finedOf_25) dX1_finedOf_28) (hd_iload_n C (kk0 := 3) dX1_finedOf_31) dX1_finedOf_32) (hd_imul C (p1 := 42) (p2 := 51) (hd_iald C (p1 := 40) (p2 := 41) (hd_getR C (p1 := 37) fX1_finedOf_79 (hd_getR C (p1 := 34) fX1_finedOf_15 (hd_aload_n C (kk0 := 0) dX1_finedOf_33) dX1_finedOf_34) dX1_finedOf_37) (hd_iload_n C (kk0 := 3) dX1_finedOf_40) dX1_finedOf_41) (hd_inI (hd_invV C (p1 := 46) (p2 := 48) snd_X6_nearWay hw_X6_nearWay gX1_finedOf_X6_nearWay hs_c_6 yX1_finedOf_X6_nearWay ⟨by decide, by decide⟩ (by decide) (hd_getR C (p1 := 43) fX1_finedOf_19 (hd_aload_n C (kk0 := 0) dX1_finedOf_42) dX1_finedOf_43) (hd_apI (p1 := 47) (p2 := 48) (hd_apI (p1 := 46) (p2 := 47) hd_av0 (hd_iload_n C (kk0 := 1) dX1_finedOf_46)) (hd_iload_n C (kk0 := 3) dX1_finedOf_47)) dX1_finedOf_48)) dX1_finedOf_51) dX1_finedOf_52) dX1_finedOf_55) dX1_finedOf_56 (by decide)) (hd_sgoto C (p1 := 60) (tgt := 12) (hd_ends (es := [60]) (by decide) (hd_siinc C dX1_finedOf_57 (by decide) (by decide))) dX1_finedOf_60 (by decide) (by decide))) (by decide))) (hd_retI C Rk (p1 := 64) (hd_iload_n C (kk0 := 2) dX1_finedOf_63) dX1_finedOf_64))))
/-! X1_isBeside -/
theorem hw_X1_isBeside : wsX1_isBeside = Cond.code yX1_isBeside cX1_isBeside 3 (some .boolean) :: wsX1_isBeside.tail := rfl
set_option maxRecDepth 100000 in
theorem yX1_isBeside_J6_bitCount_0f7a4 : yJ6_bitCount_0f7a4.cls ≠ "java/lang/invoke/MethodHandle" ∧ yJ6_bitCount_0f7a4.cls ≠ "java/lang/invoke/VarHandle" ∧ (parseMethodDescriptor yJ6_bitCount_0f7a4.desc).map (fun d => d.parameters.length) = some 1 := by decide +kernel
def wo_X1_isBeside : hd_xS := (hd_sQ (hd_sI 2 (hd_iN (hd_nS 1 (hd_pI hd_v0 (hd_iB (fun x y => x ^^^ y) (hd_iL 0) (hd_iL 1))) wm_J6_bitCount_0f7a4))) (hd_sRZ (hd_iC (hd_cO (hd_cI (fun x y => decide (x = y)) (hd_iL 2) (hd_iK (1))) (hd_cA (hd_cI (fun x y => decide (x = y)) (hd_iL 2) (hd_iK (2))) (hd_cI (fun x y => decide (x = y)) (hd_iN (hd_nS 1 (hd_pI hd_v0 (hd_iL 0)) wm_J6_bitCount_0f7a4)) (hd_iN (hd_nS 1 (hd_pI hd_v0 (hd_iL 1)) wm_J6_bitCount_0f7a4))))))))
def wm_X1_isBeside : hd_M := hd_mth 3 wo_X1_isBeside
set_option maxHeartbeats 4000000 in
set_option maxRecDepth 100000 in
theorem snd_X1_isBeside : hd_Snd vwCl hs_sh yX1_isBeside wsX1_isBeside 2 wm_X1_isBeside := hd_method (by decide) rfl rfl (by decide) (fun κ C Rk => (hd_seq (p1 := 7) (hd_sistore_n C (kk0 := 2) (p1 := 6) (hd_inI (hd_invS C (p2 := 3) snd_J6_bitCount_0f7a4 hw_J6_bitCount_0f7a4 gX1_isBeside_J6_bitCount_0f7a4 yX1_isBeside_J6_bitCount_0f7a4 ⟨by decide, by decide⟩ (by decide) (hd_apI (p1 := 0) (p2 := 3) hd_av0 (hd_ixor C (p1 := 1) (p2 := 2) (hd_iload_n C (kk0 := 0) dX1_isBeside_0) (hd_iload_n C (kk0 := 1) dX1_isBeside_1) dX1_isBeside_2)) dX1_isBeside_3)) dX1_isBeside_6 (by decide)) (hd_retZ C Rk (p1 := 33) (hd_boC C (p1 := 28) (p3 := 32) (p4 := 33) (hd_or (p1 := 12) (p2 := 28) (p3 := 32) (hd_c_eqT C (p1 := 8) (p2 := 9) (tgt := 28) (hd_iload_n C (kk0 := 2) dX1_isBeside_7) (hd_iconst C dX1_isBeside_8 (by decide)) dX1_isBeside_9 (by decide)) (hd_and (p1 := 17) (p2 := 28) (p3 := 32) (hd_c_eqF C (p1 := 13) (p2 := 14) (tgt := 32) (hd_iload_n C (kk0 := 2) dX1_isBeside_12) (hd_iconst C dX1_isBeside_13 (by decide)) dX1_isBeside_14 (by decide)) (hd_c_eqF C (p1 := 21) (p2 := 25) (tgt := 32) (hd_inI (hd_invS C (p2 := 18) snd_J6_bitCount_0f7a4 hw_J6_bitCount_0f7a4 gX1_isBeside_J6_bitCount_0f7a4 yX1_isBeside_J6_bitCount_0f7a4 ⟨by decide, by decide⟩ (by decide) (hd_apI (p1 := 17) (p2 := 18) hd_av0 (hd_iload_n C (kk0 := 0) dX1_isBeside_17)) dX1_isBeside_18)) (hd_inI (hd_invS C (p2 := 22) snd_J6_bitCount_0f7a4 hw_J6_bitCount_0f7a4 gX1_isBeside_J6_bitCount_0f7a4 yX1_isBeside_J6_bitCount_0f7a4 ⟨by decide, by decide⟩ (by decide) (hd_apI (p1 := 21) (p2 := 22) hd_av0 (hd_iload_n C (kk0 := 1) dX1_isBeside_21)) dX1_isBeside_22)) dX1_isBeside_25 (by decide)))) dX1_isBeside_28 dX1_isBeside_29 (by decide) dX1_isBeside_32 rfl) dX1_isBeside_33)))
/-! X1_mostOf -/
theorem hw_X1_mostOf : wsX1_mostOf = Cond.code yX1_mostOf cX1_mostOf 4 (some .int) :: wsX1_mostOf.tail := rfl
set_option maxRecDepth 100000 in
theorem uX1_mostOf_X1 : ∀ w ∈ u_ws RX1 TX1 5, w ∈ wsX1_mostOf := by decide +kernel
set_option maxRecDepth 100000 in
theorem lX1_mostOf_19 : Cond.fieldLink RX1 19 (TX1 1).1 (TX1 1).2.1 (TX1 1).2.2.1 ∈ wsX1_mostOf := by decide +kernel
set_option maxRecDepth 100000 in
theorem fX1_mostOf_19 : hd_F wsX1_mostOf RX1 vwCl 1 1 19 := ⟨RX1, TX1, 5, rfl, by decide, uX1_mostOf_X1, lX1_mostOf_19⟩
set_option maxRecDepth 100000 in
theorem uX1_mostOf_X6 : ∀ w ∈ u_ws RX6 TX6 5, w ∈ wsX1_mostOf := by decide +kernel
set_option maxRecDepth 100000 in
theorem lX1_mostOf_27 : Cond.fieldLink RX1 27 (TX6 2).1 (TX6 2).2.1 (TX6 2).2.2.1 ∈ wsX1_mostOf := by decide +kernel
set_option maxRecDepth 100000 in
theorem fX1_mostOf_27 : hd_F wsX1_mostOf RX1 vwCl 6 2 27 := ⟨RX6, TX6, 5, rfl, by decide, uX1_mostOf_X6, lX1_mostOf_27⟩
set_option maxRecDepth 100000 in
theorem lX1_mostOf_15 : Cond.fieldLink RX1 15 (TX1 0).1 (TX1 0).2.1 (TX1 0).2.2.1 ∈ wsX1_mostOf := by decide +kernel
set_option maxRecDepth 100000 in
theorem fX1_mostOf_15 : hd_F wsX1_mostOf RX1 vwCl 1 0 15 := ⟨RX1, TX1, 5, rfl, by decide, uX1_mostOf_X1, lX1_mostOf_15⟩
set_option maxRecDepth 100000 in
theorem uX1_mostOf_X5 : ∀ w ∈ u_ws RX5 TX5 10, w ∈ wsX1_mostOf := by decide +kernel
set_option maxRecDepth 100000 in
theorem lX1_mostOf_62 : Cond.fieldLink RX1 62 (TX5 0).1 (TX5 0).2.1 (TX5 0).2.2.1 ∈ wsX1_mostOf := by decide +kernel
set_option maxRecDepth 100000 in
theorem fX1_mostOf_62 : hd_F wsX1_mostOf RX1 vwCl 5 0 62 := ⟨RX5, TX5, 10, rfl, by decide, uX1_mostOf_X5, lX1_mostOf_62⟩
set_option maxRecDepth 100000 in
theorem yX1_mostOf_X6_nearWay : yX6_nearWay.cls = RX6 ∧ yX6_nearWay.cls ≠ "java/lang/invoke/MethodHandle" ∧ yX6_nearWay.cls ≠ "java/lang/invoke/VarHandle" ∧ (parseMethodDescriptor yX6_nearWay.desc).map (fun d => d.parameters.length) = some 2 := by decide +kernel
set_option maxRecDepth 100000 in
theorem wX1_mostOf_12 : Cond.methodLink RX1 71 Lib.Math.max.name ∈ wsX1_mostOf := by decide +kernel
set_option maxRecDepth 100000 in
theorem wX1_mostOf_13 : Cond.static Lib.Math.max.name ∈ wsX1_mostOf := by decide +kernel
set_option maxRecDepth 100000 in
theorem wX1_mostOf_14 : Cond.initialized "java/lang/Math" ∈ wsX1_mostOf := by decide +kernel
set_option maxRecDepth 100000 in
theorem wX1_mostOf_15 : Cond.code Lib.Math.max.name Lib.Math.max.code 2 (some .int) ∈ wsX1_mostOf := by decide +kernel
def wc_X1_mostOf_19 : hd_xC := (hd_cI (fun x y => decide (x < y)) (hd_iL 3) (hd_iG hs_sh 5 0 (hd_rG hs_sh 1 0 (hd_rL 0))))
def wb_X1_mostOf_19 : hd_xS := (hd_sQ (hd_sI 2 (hd_iB (fun x y => if x < y then y else x) (hd_iL 2) (hd_iN (hd_nV hs_sh 6 (hd_rG hs_sh 1 1 (hd_rL 0)) 2 (hd_pI (hd_pI hd_v0 (hd_iL 1)) (hd_iL 3)) wm_X6_nearWay)))) (hd_sP 3 (1)))
def wo_X1_mostOf : hd_xS := (hd_sQ (hd_sW (hd_cI (fun x y => decide (x = y)) (hd_iA hs_sh (hd_rG hs_sh 6 2 (hd_rG hs_sh 1 1 (hd_rL 0))) (hd_iL 1)) (hd_iK (-1))) (hd_sRI (hd_iK (-1)))) (hd_sQ (hd_sI 2 (hd_iK (0))) (hd_sQ (hd_sQ (hd_sI 3 (hd_iK (0))) (hd_sH (wc_X1_mostOf_19) (wb_X1_mostOf_19))) (hd_sRI (hd_iL 2)))))
def wm_X1_mostOf : hd_M := hd_mth 4 wo_X1_mostOf
set_option maxHeartbeats 4000000 in
set_option maxRecDepth 100000 in
theorem snd_X1_mostOf : hd_Snd vwCl hs_sh yX1_mostOf wsX1_mostOf 2 wm_X1_mostOf := hd_method (by decide) rfl rfl (by decide) (fun κ C Rk => (hd_seq (p1 := 15) (hd_if (p1 := 13) (p2 := 15) (hd_c_eqF C (p1 := 9) (p2 := 10) (tgt := 15) (hd_iald C (p1 := 7) (p2 := 8) (hd_getR C (p1 := 4) fX1_mostOf_27 (hd_getR C (p1 := 1) fX1_mostOf_19 (hd_aload_n C (kk0 := 0) dX1_mostOf_0) dX1_mostOf_1) dX1_mostOf_4) (hd_iload_n C (kk0 := 1) dX1_mostOf_7) dX1_mostOf_8) (hd_iconst C dX1_mostOf_9 (by decide)) dX1_mostOf_10 (by decide)) (hd_retI C Rk (p1 := 14) (hd_iconst C dX1_mostOf_13 (by decide)) dX1_mostOf_14) (by decide)) (hd_seq (p1 := 17) (hd_sistore_n C (kk0 := 2) (p1 := 16) (hd_iconst C dX1_mostOf_15 (by decide)) dX1_mostOf_16 (by decide)) (hd_seq (p1 := 50) (hd_seq (p1 := 19) (hd_sistore_n C (kk0 := 3) (p1 := 18) (hd_iconst C dX1_mostOf_17 (by decide)) dX1_mostOf_18 (by decide)) (hd_loop C (p1 := 30) (p2 := 50) (hd_c_ltF C (p1 := 20) (p2 := 27) (tgt := 50) (hd_iload_n C (kk0 := 3) dX1_mostOf_19) (hd_getI C (p1 := 24) fX1_mostOf_62 (hd_getR C (p1 := 21) fX1_mostOf_15 (hd_aload_n C (kk0 := 0) dX1_mostOf_20) dX1_mostOf_21) dX1_mostOf_24) dX1_mostOf_27 (by decide)) (hd_seq (p1 := 44) (hd_sistore_n C (kk0 := 2) (p1 := 43) (hd_mmax C (p1 := 31) (p2 := 40) wX1_mostOf_12 wX1_mostOf_13 wX1_mostOf_14 wX1_mostOf_15 (by decide) (hd_iload_n C (kk0 := 2) dX1_mostOf_30) (hd_inI (hd_invV C (p1 := 35) (p2 := 37) snd_X6_nearWay hw_X6_nearWay gX1_mostOf_X6_nearWay hs_c_6 yX1_mostOf_X6_nearWay ⟨by decide, by decide⟩ (by decide) (hd_getR C (p1 := 32) fX1_mostOf_19 (hd_aload_n C (kk0 := 0) dX1_mostOf_31) dX1_mostOf_32) (hd_apI (p1 := 36) (p2 := 37) (hd_apI (p1 := 35) (p2 := 36) hd_av0 (hd_iload_n C (kk0 := 1) dX1_mostOf_35)) (hd_iload_n C (kk0 := 3) dX1_mostOf_36)) dX1_mostOf_37)) dX1_mostOf_40) dX1_mostOf_43 (by decide)) (hd_sgoto C (p1 := 47) (tgt := 19) (hd_ends (es := [47]) (by decide) (hd_siinc C dX1_mostOf_44 (by decide) (by decide))) dX1_mostOf_47 (by decide) (by decide))) (by decide))) (hd_retI C Rk (p1 := 51) (hd_iload_n C (kk0 := 2) dX1_mostOf_50) dX1_mostOf_51)))))
/-! X1_takenBy -/
theorem hw_X1_takenBy : wsX1_takenBy = Cond.code yX1_takenBy cX1_takenBy 5 (some .int) :: wsX1_takenBy.tail := rfl
set_option maxRecDepth 100000 in
theorem uX1_takenBy_X1 : ∀ w ∈ u_ws RX1 TX1 5, w ∈ wsX1_takenBy := by decide +kernel
set_option maxRecDepth 100000 in
theorem lX1_takenBy_15 : Cond.fieldLink RX1 15 (TX1 0).1 (TX1 0).2.1 (TX1 0).2.2.1 ∈ wsX1_takenBy := by decide +kernel
set_option maxRecDepth 100000 in
theorem fX1_takenBy_15 : hd_F wsX1_takenBy RX1 vwCl 1 0 15 := ⟨RX1, TX1, 5, rfl, by decide, uX1_takenBy_X1, lX1_takenBy_15⟩
set_option maxRecDepth 100000 in
theorem uX1_takenBy_X5 : ∀ w ∈ u_ws RX5 TX5 10, w ∈ wsX1_takenBy := by decide +kernel
set_option maxRecDepth 100000 in
theorem lX1_takenBy_62 : Cond.fieldLink RX1 62 (TX5 0).1 (TX5 0).2.1 (TX5 0).2.2.1 ∈ wsX1_takenBy := by decide +kernel
set_option maxRecDepth 100000 in
theorem fX1_takenBy_62 : hd_F wsX1_takenBy RX1 vwCl 5 0 62 := ⟨RX5, TX5, 10, rfl, by decide, uX1_takenBy_X5, lX1_takenBy_62⟩
set_option maxRecDepth 100000 in
theorem yX1_takenBy_X5_wayOf : yX5_wayOf.cls = RX5 ∧ yX5_wayOf.cls ≠ "java/lang/invoke/MethodHandle" ∧ yX5_wayOf.cls ≠ "java/lang/invoke/VarHandle" ∧ (parseMethodDescriptor yX5_wayOf.desc).map (fun d => d.parameters.length) = some 2 := by decide +kernel
set_option maxRecDepth 100000 in
theorem lX1_takenBy_19 : Cond.fieldLink RX1 19 (TX1 1).1 (TX1 1).2.1 (TX1 1).2.2.1 ∈ wsX1_takenBy := by decide +kernel
set_option maxRecDepth 100000 in
theorem fX1_takenBy_19 : hd_F wsX1_takenBy RX1 vwCl 1 1 19 := ⟨RX1, TX1, 5, rfl, by decide, uX1_takenBy_X1, lX1_takenBy_19⟩
set_option maxRecDepth 100000 in
theorem yX1_takenBy_X6_nearWay : yX6_nearWay.cls = RX6 ∧ yX6_nearWay.cls ≠ "java/lang/invoke/MethodHandle" ∧ yX6_nearWay.cls ≠ "java/lang/invoke/VarHandle" ∧ (parseMethodDescriptor yX6_nearWay.desc).map (fun d => d.parameters.length) = some 2 := by decide +kernel
set_option maxRecDepth 100000 in
theorem lX1_takenBy_79 : Cond.fieldLink RX1 79 (TX5 2).1 (TX5 2).2.1 (TX5 2).2.2.1 ∈ wsX1_takenBy := by decide +kernel
set_option maxRecDepth 100000 in
theorem fX1_takenBy_79 : hd_F wsX1_takenBy RX1 vwCl 5 2 79 := ⟨RX5, TX5, 10, rfl, by decide, uX1_takenBy_X5, lX1_takenBy_79⟩
def wc_X1_takenBy_5 : hd_xC := (hd_cI (fun x y => decide (x < y)) (hd_iL 4) (hd_iG hs_sh 5 0 (hd_rG hs_sh 1 0 (hd_rL 0))))
def wb_X1_takenBy_5 : hd_xS := (hd_sQ (hd_sI 3 (hd_iB (fun x y => x + y) (hd_iL 3) (hd_iQ (hd_cI (fun x y => decide (x < y)) (hd_iN (hd_nV hs_sh 5 (hd_rG hs_sh 1 0 (hd_rL 0)) 2 (hd_pI (hd_pI hd_v0 (hd_iL 1)) (hd_iL 4)) wm_X5_wayOf)) (hd_iN (hd_nV hs_sh 6 (hd_rG hs_sh 1 1 (hd_rL 0)) 2 (hd_pI (hd_pI hd_v0 (hd_iL 2)) (hd_iL 4)) wm_X6_nearWay))) (hd_iA hs_sh (hd_rG hs_sh 5 2 (hd_rG hs_sh 1 0 (hd_rL 0))) (hd_iL 4)) (hd_iK (0))))) (hd_sP 4 (1)))
def wo_X1_takenBy : hd_xS := (hd_sQ (hd_sI 3 (hd_iK (0))) (hd_sQ (hd_sQ (hd_sI 4 (hd_iK (0))) (hd_sH (wc_X1_takenBy_5) (wb_X1_takenBy_5))) (hd_sRI (hd_iL 3))))
def wm_X1_takenBy : hd_M := hd_mth 5 wo_X1_takenBy
set_option maxHeartbeats 4000000 in
set_option maxRecDepth 100000 in
theorem snd_X1_takenBy : hd_Snd vwCl hs_sh yX1_takenBy wsX1_takenBy 2 wm_X1_takenBy := hd_method (by decide) rfl rfl (by decide) (fun κ C Rk => (hd_seq (p1 := 2) (hd_sistore_n C (kk0 := 3) (p1 := 1) (hd_iconst C dX1_takenBy_0 (by decide)) dX1_takenBy_1 (by decide)) (hd_seq (p1 := 63) (hd_seq (p1 := 5) (hd_sistore C (p1 := 3) (hd_iconst C dX1_takenBy_2 (by decide)) dX1_takenBy_3 (by decide)) (hd_loop C (p1 := 17) (p2 := 63) (hd_c_ltF C (p1 := 7) (p2 := 14) (tgt := 63) (hd_iload C dX1_takenBy_5) (hd_getI C (p1 := 11) fX1_takenBy_62 (hd_getR C (p1 := 8) fX1_takenBy_15 (hd_aload_n C (kk0 := 0) dX1_takenBy_7) dX1_takenBy_8) dX1_takenBy_11) dX1_takenBy_14 (by decide)) (hd_seq (p1 := 57) (hd_sistore_n C (kk0 := 3) (p1 := 56) (hd_iadd C (p1 := 18) (p2 := 55) (hd_iload_n C (kk0 := 3) dX1_takenBy_17) (hd_tnI C (p1 := 41) (p2 := 51) (p3 := 54) (p4 := 55) (hd_c_ltF C (p1 := 28) (p2 := 38) (tgt := 54) (hd_inI (hd_invV C (p1 := 22) (p2 := 25) snd_X5_wayOf hw_X5_wayOf gX1_takenBy_X5_wayOf hs_c_5 yX1_takenBy_X5_wayOf ⟨by decide, by decide⟩ (by decide) (hd_getR C (p1 := 19) fX1_takenBy_15 (hd_aload_n C (kk0 := 0) dX1_takenBy_18) dX1_takenBy_19) (hd_apI (p1 := 23) (p2 := 25) (hd_apI (p1 := 22) (p2 := 23) hd_av0 (hd_iload_n C (kk0 := 1) dX1_takenBy_22)) (hd_iload C dX1_takenBy_23)) dX1_takenBy_25)) (hd_inI (hd_invV C (p1 := 32) (p2 := 35) snd_X6_nearWay hw_X6_nearWay gX1_takenBy_X6_nearWay hs_c_6 yX1_takenBy_X6_nearWay ⟨by decide, by decide⟩ (by decide) (hd_getR C (p1 := 29) fX1_takenBy_19 (hd_aload_n C (kk0 := 0) dX1_takenBy_28) dX1_takenBy_29) (hd_apI (p1 := 33) (p2 := 35) (hd_apI (p1 := 32) (p2 := 33) hd_av0 (hd_iload_n C (kk0 := 2) dX1_takenBy_32)) (hd_iload C dX1_takenBy_33)) dX1_takenBy_35)) dX1_takenBy_38 (by decide)) (hd_iald C (p1 := 48) (p2 := 50) (hd_getR C (p1 := 45) fX1_takenBy_79 (hd_getR C (p1 := 42) fX1_takenBy_15 (hd_aload_n C (kk0 := 0) dX1_takenBy_41) dX1_takenBy_42) dX1_takenBy_45) (hd_iload C dX1_takenBy_48) dX1_takenBy_50) dX1_takenBy_51 (by decide) (hd_iconst C dX1_takenBy_54 (by decide))) dX1_takenBy_55) dX1_takenBy_56 (by decide)) (hd_sgoto C (p1 := 60) (tgt := 5) (hd_ends (es := [60]) (by decide) (hd_siinc C dX1_takenBy_57 (by decide) (by decide))) dX1_takenBy_60 (by decide) (by decide))) (by decide))) (hd_retI C Rk (p1 := 64) (hd_iload_n C (kk0 := 3) dX1_takenBy_63) dX1_takenBy_64))))
/-! X1_worstToClose -/
theorem hw_X1_worstToClose : wsX1_worstToClose = Cond.code yX1_worstToClose cX1_worstToClose 5 (some .int) :: wsX1_worstToClose.tail := rfl
set_option maxRecDepth 100000 in
theorem yX1_worstToClose_J6_bitCount_0f7a4 : yJ6_bitCount_0f7a4.cls ≠ "java/lang/invoke/MethodHandle" ∧ yJ6_bitCount_0f7a4.cls ≠ "java/lang/invoke/VarHandle" ∧ (parseMethodDescriptor yJ6_bitCount_0f7a4.desc).map (fun d => d.parameters.length) = some 1 := by decide +kernel
set_option maxRecDepth 100000 in
theorem uX1_worstToClose_X1 : ∀ w ∈ u_ws RX1 TX1 5, w ∈ wsX1_worstToClose := by decide +kernel
set_option maxRecDepth 100000 in
theorem lX1_worstToClose_15 : Cond.fieldLink RX1 15 (TX1 0).1 (TX1 0).2.1 (TX1 0).2.2.1 ∈ wsX1_worstToClose := by decide +kernel
set_option maxRecDepth 100000 in
theorem fX1_worstToClose_15 : hd_F wsX1_worstToClose RX1 vwCl 1 0 15 := ⟨RX1, TX1, 5, rfl, by decide, uX1_worstToClose_X1, lX1_worstToClose_15⟩
set_option maxRecDepth 100000 in
theorem uX1_worstToClose_X5 : ∀ w ∈ u_ws RX5 TX5 10, w ∈ wsX1_worstToClose := by decide +kernel
set_option maxRecDepth 100000 in
theorem lX1_worstToClose_93 : Cond.fieldLink RX1 93 (TX5 1).1 (TX5 1).2.1 (TX5 1).2.2.1 ∈ wsX1_worstToClose := by decide +kernel
set_option maxRecDepth 100000 in
theorem fX1_worstToClose_93 : hd_F wsX1_worstToClose RX1 vwCl 5 1 93 := ⟨RX5, TX5, 10, rfl, by decide, uX1_worstToClose_X5, lX1_worstToClose_93⟩
set_option maxRecDepth 100000 in
theorem yX1_worstToClose_X5_isIn : yX5_isIn.cls ≠ "java/lang/invoke/MethodHandle" ∧ yX5_isIn.cls ≠ "java/lang/invoke/VarHandle" ∧ (parseMethodDescriptor yX5_isIn.desc).map (fun d => d.parameters.length) = some 2 := by decide +kernel
set_option maxRecDepth 100000 in
theorem lX1_worstToClose_19 : Cond.fieldLink RX1 19 (TX1 1).1 (TX1 1).2.1 (TX1 1).2.2.1 ∈ wsX1_worstToClose := by decide +kernel
set_option maxRecDepth 100000 in
theorem fX1_worstToClose_19 : hd_F wsX1_worstToClose RX1 vwCl 1 1 19 := ⟨RX1, TX1, 5, rfl, by decide, uX1_worstToClose_X1, lX1_worstToClose_19⟩
set_option maxRecDepth 100000 in
theorem uX1_worstToClose_X6 : ∀ w ∈ u_ws RX6 TX6 5, w ∈ wsX1_worstToClose := by decide +kernel
set_option maxRecDepth 100000 in
theorem lX1_worstToClose_27 : Cond.fieldLink RX1 27 (TX6 2).1 (TX6 2).2.1 (TX6 2).2.2.1 ∈ wsX1_worstToClose := by decide +kernel
set_option maxRecDepth 100000 in
theorem fX1_worstToClose_27 : hd_F wsX1_worstToClose RX1 vwCl 6 2 27 := ⟨RX6, TX6, 5, rfl, by decide, uX1_worstToClose_X6, lX1_worstToClose_27⟩
def wc_X1_worstToClose_17 : hd_xC := (hd_cI (fun x y => decide (x < y)) (hd_iL 4) (hd_iG hs_sh 5 1 (hd_rG hs_sh 1 0 (hd_rL 0))))
def wb_X1_worstToClose_17 : hd_xS := (hd_sQ (hd_sW (hd_cA (hd_c0 (fun x => !decide (x = 0)) (hd_iN (hd_nS 2 (hd_pI (hd_pI hd_v0 (hd_iL 4)) (hd_iL 1)) wm_X5_isIn))) (hd_cI (fun x y => decide (y < x)) (hd_iA hs_sh (hd_rG hs_sh 6 2 (hd_rG hs_sh 1 1 (hd_rL 0))) (hd_iB (fun x y => x &&& y) (hd_iL 1) (hd_iB (fun x y => x ^^^ y) (hd_iB (fun x y => x <<< (y &&& 31)) (hd_iK (1)) (hd_iL 4)) (hd_iK (-1))))) (hd_iL 3))) (hd_sQ (hd_sI 2 (hd_iL 4)) (hd_sI 3 (hd_iA hs_sh (hd_rG hs_sh 6 2 (hd_rG hs_sh 1 1 (hd_rL 0))) (hd_iB (fun x y => x &&& y) (hd_iL 1) (hd_iB (fun x y => x ^^^ y) (hd_iB (fun x y => x <<< (y &&& 31)) (hd_iK (1)) (hd_iL 4)) (hd_iK (-1)))))))) (hd_sP 4 (1)))
def wo_X1_worstToClose : hd_xS := (hd_sQ (hd_sW (hd_cI (fun x y => decide (x < y)) (hd_iN (hd_nS 1 (hd_pI hd_v0 (hd_iL 1)) wm_J6_bitCount_0f7a4)) (hd_iK (2))) (hd_sRI (hd_iK (-1)))) (hd_sQ (hd_sI 2 (hd_iK (-1))) (hd_sQ (hd_sI 3 (hd_iK (-1))) (hd_sQ (hd_sQ (hd_sI 4 (hd_iK (0))) (hd_sH (wc_X1_worstToClose_17) (wb_X1_worstToClose_17))) (hd_sRI (hd_iL 2))))))
def wm_X1_worstToClose : hd_M := hd_mth 5 wo_X1_worstToClose
set_option maxHeartbeats 4000000 in
set_option maxRecDepth 100000 in
theorem snd_X1_worstToClose : hd_Snd vwCl hs_sh yX1_worstToClose wsX1_worstToClose 2 wm_X1_worstToClose := hd_method (by decide) rfl rfl (by decide) (fun κ C Rk => (hd_seq (p1 := 10) (hd_if (p1 := 8) (p2 := 10) (hd_c_ltF C (p1 := 4) (p2 := 5) (tgt := 10) (hd_inI (hd_invS C (p2 := 1) snd_J6_bitCount_0f7a4 hw_J6_bitCount_0f7a4 gX1_worstToClose_J6_bitCount_0f7a4 yX1_worstToClose_J6_bitCount_0f7a4 ⟨by decide, by decide⟩ (by decide) (hd_apI (p1 := 0) (p2 := 1) hd_av0 (hd_iload_n C (kk0 := 1) dX1_worstToClose_0)) dX1_worstToClose_1)) (hd_iconst C dX1_worstToClose_4 (by decide)) dX1_worstToClose_5 (by decide)) (hd_retI C Rk (p1 := 9) (hd_iconst C dX1_worstToClose_8 (by decide)) dX1_worstToClose_9) (by decide)) (hd_seq (p1 := 12) (hd_sistore_n C (kk0 := 2) (p1 := 11) (hd_iconst C dX1_worstToClose_10 (by decide)) dX1_worstToClose_11 (by decide)) (hd_seq (p1 := 14) (hd_sistore_n C (kk0 := 3) (p1 := 13) (hd_iconst C dX1_worstToClose_12 (by decide)) dX1_worstToClose_13 (by decide)) (hd_seq (p1 := 84) (hd_seq (p1 := 17) (hd_sistore C (p1 := 15) (hd_iconst C dX1_worstToClose_14 (by decide)) dX1_worstToClose_15 (by decide)) (hd_loop C (p1 := 29) (p2 := 84) (hd_c_ltF C (p1 := 19) (p2 := 26) (tgt := 84) (hd_iload C dX1_worstToClose_17) (hd_getI C (p1 := 23) fX1_worstToClose_93 (hd_getR C (p1 := 20) fX1_worstToClose_15 (hd_aload_n C (kk0 := 0) dX1_worstToClose_19) dX1_worstToClose_20) dX1_worstToClose_23) dX1_worstToClose_26 (by decide)) (hd_seq (p1 := 78) (hd_if (p1 := 58) (p2 := 78) (hd_and (p1 := 38) (p2 := 58) (p3 := 78) (hd_z_neF C (p2 := 35) (tgt := 78) (hd_inI (hd_invS C (p2 := 32) snd_X5_isIn hw_X5_isIn gX1_worstToClose_X5_isIn yX1_worstToClose_X5_isIn ⟨by decide, by decide⟩ (by decide) (hd_apI (p1 := 31) (p2 := 32) (hd_apI (p1 := 29) (p2 := 31) hd_av0 (hd_iload C dX1_worstToClose_29)) (hd_iload_n C (kk0 := 1) dX1_worstToClose_31)) dX1_worstToClose_32)) dX1_worstToClose_35 (by decide)) (hd_c_gtF C (p1 := 54) (p2 := 55) (tgt := 78) (hd_iald C (p1 := 45) (p2 := 53) (hd_getR C (p1 := 42) fX1_worstToClose_27 (hd_getR C (p1 := 39) fX1_worstToClose_19 (hd_aload_n C (kk0 := 0) dX1_worstToClose_38) dX1_worstToClose_39) dX1_worstToClose_42) (hd_iand C (p1 := 46) (p2 := 52) (hd_iload_n C (kk0 := 1) dX1_worstToClose_45) (hd_ixor C (p1 := 50) (p2 := 51) (hd_ishl C (p1 := 47) (p2 := 49) (hd_iconst C dX1_worstToClose_46 (by decide)) (hd_iload C dX1_worstToClose_47) dX1_worstToClose_49) (hd_iconst C dX1_worstToClose_50 (by decide)) dX1_worstToClose_51) dX1_worstToClose_52) dX1_worstToClose_53) (hd_iload_n C (kk0 := 3) dX1_worstToClose_54) dX1_worstToClose_55 (by decide))) (hd_seq (p1 := 61) (hd_sistore_n C (kk0 := 2) (p1 := 60) (hd_iload C dX1_worstToClose_58) dX1_worstToClose_60 (by decide)) (hd_sistore_n C (kk0 := 3) (p1 := 77) (hd_iald C (p1 := 68) (p2 := 76) (hd_getR C (p1 := 65) fX1_worstToClose_27 (hd_getR C (p1 := 62) fX1_worstToClose_19 (hd_aload_n C (kk0 := 0) dX1_worstToClose_61) dX1_worstToClose_62) dX1_worstToClose_65) (hd_iand C (p1 := 69) (p2 := 75) (hd_iload_n C (kk0 := 1) dX1_worstToClose_68) (hd_ixor C (p1 := 73) (p2 := 74) (hd_ishl C (p1 := 70) (p2 := 72) (hd_iconst C dX1_worstToClose_69 (by decide)) (hd_iload C dX1_worstToClose_70) dX1_worstToClose_72) (hd_iconst C dX1_worstToClose_73 (by decide)) dX1_worstToClose_74) dX1_worstToClose_75) dX1_worstToClose_76) dX1_worstToClose_77 (by decide))) (by decide)) (hd_sgoto C (p1 := 81) (tgt := 17) (hd_ends (es := [81]) (by decide) (hd_siinc C dX1_worstToClose_78 (by decide) (by decide))) dX1_worstToClose_81 (by decide) (by decide))) (by decide))) (hd_retI C Rk (p1 := 85) (hd_iload_n C (kk0 := 2) dX1_worstToClose_84) dX1_worstToClose_85))))))
/-! X2_offer -/
theorem hw_X2_offer : wsX2_offer = Cond.code yX2_offer cX2_offer 6 none :: wsX2_offer.tail := rfl
set_option maxRecDepth 100000 in
theorem uX2_offer_X2 : ∀ w ∈ u_ws RX2 TX2 5, w ∈ wsX2_offer := by decide +kernel
set_option maxRecDepth 100000 in
theorem lX2_offer_15 : Cond.fieldLink RX2 15 (TX2 3).1 (TX2 3).2.1 (TX2 3).2.2.1 ∈ wsX2_offer := by decide +kernel
set_option maxRecDepth 100000 in
theorem fX2_offer_15 : hd_F wsX2_offer RX2 vwCl 2 3 15 := ⟨RX2, TX2, 5, rfl, by decide, uX2_offer_X2, lX2_offer_15⟩
set_option maxRecDepth 100000 in
theorem lX2_offer_26 : Cond.fieldLink RX2 26 (TX2 1).1 (TX2 1).2.1 (TX2 1).2.2.1 ∈ wsX2_offer := by decide +kernel
set_option maxRecDepth 100000 in
theorem fX2_offer_26 : hd_F wsX2_offer RX2 vwCl 2 1 26 := ⟨RX2, TX2, 5, rfl, by decide, uX2_offer_X2, lX2_offer_26⟩
set_option maxRecDepth 100000 in
theorem uX2_offer_X6 : ∀ w ∈ u_ws RX6 TX6 5, w ∈ wsX2_offer := by decide +kernel
set_option maxRecDepth 100000 in
theorem lX2_offer_52 : Cond.fieldLink RX2 52 (TX6 3).1 (TX6 3).2.1 (TX6 3).2.2.1 ∈ wsX2_offer := by decide +kernel
set_option maxRecDepth 100000 in
theorem fX2_offer_52 : hd_F wsX2_offer RX2 vwCl 6 3 52 := ⟨RX6, TX6, 5, rfl, by decide, uX2_offer_X6, lX2_offer_52⟩
set_option maxRecDepth 100000 in
theorem lX2_offer_22 : Cond.fieldLink RX2 22 (TX2 0).1 (TX2 0).2.1 (TX2 0).2.2.1 ∈ wsX2_offer := by decide +kernel
set_option maxRecDepth 100000 in
theorem fX2_offer_22 : hd_F wsX2_offer RX2 vwCl 2 0 22 := ⟨RX2, TX2, 5, rfl, by decide, uX2_offer_X2, lX2_offer_22⟩
set_option maxRecDepth 100000 in
theorem uX2_offer_X5 : ∀ w ∈ u_ws RX5 TX5 10, w ∈ wsX2_offer := by decide +kernel
set_option maxRecDepth 100000 in
theorem lX2_offer_55 : Cond.fieldLink RX2 55 (TX5 0).1 (TX5 0).2.1 (TX5 0).2.2.1 ∈ wsX2_offer := by decide +kernel
set_option maxRecDepth 100000 in
theorem fX2_offer_55 : hd_F wsX2_offer RX2 vwCl 5 0 55 := ⟨RX5, TX5, 10, rfl, by decide, uX2_offer_X5, lX2_offer_55⟩
set_option maxRecDepth 100000 in
theorem lX2_offer_59 : Cond.fieldLink RX2 59 (TX5 2).1 (TX5 2).2.1 (TX5 2).2.2.1 ∈ wsX2_offer := by decide +kernel
set_option maxRecDepth 100000 in
theorem fX2_offer_59 : hd_F wsX2_offer RX2 vwCl 5 2 59 := ⟨RX5, TX5, 10, rfl, by decide, uX2_offer_X5, lX2_offer_59⟩
set_option maxRecDepth 100000 in
theorem yX2_offer_X6_nearWay : yX6_nearWay.cls = RX6 ∧ yX6_nearWay.cls ≠ "java/lang/invoke/MethodHandle" ∧ yX6_nearWay.cls ≠ "java/lang/invoke/VarHandle" ∧ (parseMethodDescriptor yX6_nearWay.desc).map (fun d => d.parameters.length) = some 2 := by decide +kernel
set_option maxRecDepth 100000 in
theorem lX2_offer_9 : Cond.fieldLink RX2 9 (TX2 2).1 (TX2 2).2.1 (TX2 2).2.2.1 ∈ wsX2_offer := by decide +kernel
set_option maxRecDepth 100000 in
theorem fX2_offer_9 : hd_F wsX2_offer RX2 vwCl 2 2 9 := ⟨RX2, TX2, 5, rfl, by decide, uX2_offer_X2, lX2_offer_9⟩
set_option maxRecDepth 100000 in
theorem wX2_offer_18 : Cond.methodLink RX2 66 Lib.Math.min.name ∈ wsX2_offer := by decide +kernel
set_option maxRecDepth 100000 in
theorem wX2_offer_19 : Cond.static Lib.Math.min.name ∈ wsX2_offer := by decide +kernel
set_option maxRecDepth 100000 in
theorem wX2_offer_20 : Cond.initialized "java/lang/Math" ∈ wsX2_offer := by decide +kernel
set_option maxRecDepth 100000 in
theorem wX2_offer_21 : Cond.code Lib.Math.min.name Lib.Math.min.code 2 (some .int) ∈ wsX2_offer := by decide +kernel
def wc_X2_offer_51 : hd_xC := (hd_cI (fun x y => decide (x < y)) (hd_iL 4) (hd_iB (fun x y => x <<< (y &&& 31)) (hd_iK (1)) (hd_iL 2)))
def wb_X2_offer_51 : hd_xS := (hd_sQ (hd_sQ (hd_sI 5 (hd_iB (fun x y => x ||| y) (hd_iL 4) (hd_iB (fun x y => x <<< (y &&& 31)) (hd_iK (1)) (hd_iL 2)))) (hd_sQ (hd_sA hs_sh (hd_rG hs_sh 2 3 (hd_rL 0)) (hd_iL 5) (hd_iB (fun x y => x + y) (hd_iA hs_sh (hd_rG hs_sh 2 3 (hd_rL 0)) (hd_iL 4)) (hd_iL 3))) (hd_sA hs_sh (hd_rG hs_sh 2 2 (hd_rL 0)) (hd_iL 5) (hd_iB (fun x y => if y < x then y else x) (hd_iA hs_sh (hd_rG hs_sh 2 2 (hd_rL 0)) (hd_iL 5)) (hd_iA hs_sh (hd_rG hs_sh 2 3 (hd_rL 0)) (hd_iL 5)))))) (hd_sP 4 (1)))
def wc_X2_offer_17 : hd_xC := (hd_cI (fun x y => decide (x < y)) (hd_iL 2) (hd_iG hs_sh 5 0 (hd_rG hs_sh 2 0 (hd_rL 0))))
def wb_X2_offer_17 : hd_xS := (hd_sQ (hd_sQ (hd_sI 3 (hd_iB (fun x y => x * y) (hd_iA hs_sh (hd_rG hs_sh 5 2 (hd_rG hs_sh 2 0 (hd_rL 0))) (hd_iL 2)) (hd_iN (hd_nV hs_sh 6 (hd_rG hs_sh 2 1 (hd_rL 0)) 2 (hd_pI (hd_pI hd_v0 (hd_iL 1)) (hd_iL 2)) wm_X6_nearWay)))) (hd_sQ (hd_sI 4 (hd_iK (0))) (hd_sH (wc_X2_offer_51) (wb_X2_offer_51)))) (hd_sP 2 (1)))
def wo_X2_offer : hd_xS := (hd_sQ (hd_sA hs_sh (hd_rG hs_sh 2 3 (hd_rL 0)) (hd_iK (0)) (hd_iA hs_sh (hd_rG hs_sh 6 3 (hd_rG hs_sh 2 1 (hd_rL 0))) (hd_iL 1))) (hd_sQ (hd_sQ (hd_sI 2 (hd_iK (0))) (hd_sH (wc_X2_offer_17) (wb_X2_offer_17))) hd_sRV))
def wm_X2_offer : hd_M := hd_mth 6 wo_X2_offer
set_option maxHeartbeats 4000000 in
set_option maxRecDepth 100000 in
theorem snd_X2_offer : hd_Snd vwCl hs_sh yX2_offer wsX2_offer 2 wm_X2_offer := hd_method (by decide) rfl rfl (by decide) (fun κ C Rk => (hd_seq (p1 := 15) (hd_siast C (p1 := 4) (p2 := 5) (p3 := 14) (hd_getR C (p1 := 1) fX2_offer_15 (hd_aload_n C (kk0 := 0) dX2_offer_0) dX2_offer_1) (hd_iconst C dX2_offer_4 (by decide)) (hd_iald C (p1 := 12) (p2 := 13) (hd_getR C (p1 := 9) fX2_offer_52 (hd_getR C (p1 := 6) fX2_offer_26 (hd_aload_n C (kk0 := 0) dX2_offer_5) dX2_offer_6) dX2_offer_9) (hd_iload_n C (kk0 := 1) dX2_offer_12) dX2_offer_13) dX2_offer_14) (hd_seq (p1 := 119) (hd_seq (p1 := 17) (hd_sistore_n C (kk0 := 2) (p1 := 16) (hd_iconst C dX2_offer_15 (by decide)) dX2_offer_16 (by decide)) (hd_loop C (p1 := 28) (p2 := 119) (hd_c_ltF C (p1 := 18) (p2 := 25) (tgt := 119) (hd_iload_n C (kk0 := 2) dX2_offer_17) (hd_getI C (p1 := 22) fX2_offer_55 (hd_getR C (p1 := 19) fX2_offer_22 (hd_aload_n C (kk0 := 0) dX2_offer_18) dX2_offer_19) dX2_offer_22) dX2_offer_25 (by decide)) (hd_seq (p1 := 113) (hd_seq (p1 := 48) (hd_sistore_n C (kk0 := 3) (p1 := 47) (hd_imul C (p1 := 37) (p2 := 46) (hd_iald C (p1 := 35) (p2 := 36) (hd_getR C (p1 := 32) fX2_offer_59 (hd_getR C (p1 := 29) fX2_offer_22 (hd_aload_n C (kk0 := 0) dX2_offer_28) dX2_offer_29) dX2_offer_32) (hd_iload_n C (kk0 := 2) dX2_offer_35) dX2_offer_36) (hd_inI (hd_invV C (p1 := 41) (p2 := 43) snd_X6_nearWay hw_X6_nearWay gX2_offer_X6_nearWay hs_c_6 yX2_offer_X6_nearWay ⟨by decide, by decide⟩ (by decide) (hd_getR C (p1 := 38) fX2_offer_26 (hd_aload_n C (kk0 := 0) dX2_offer_37) dX2_offer_38) (hd_apI (p1 := 42) (p2 := 43) (hd_apI (p1 := 41) (p2 := 42) hd_av0 (hd_iload_n C (kk0 := 1) dX2_offer_41)) (hd_iload_n C (kk0 := 2) dX2_offer_42)) dX2_offer_43)) dX2_offer_46) dX2_offer_47 (by decide)) (hd_seq (p1 := 51) (hd_sistore C (p1 := 49) (hd_iconst C dX2_offer_48 (by decide)) dX2_offer_49 (by decide)) (hd_loop C (p1 := 59) (p2 := 113) (hd_c_ltF C (p1 := 53) (p2 := 56) (tgt := 113) (hd_iload C dX2_offer_51) (hd_ishl C (p1 := 54) (p2 := 55) (hd_iconst C dX2_offer_53 (by decide)) (hd_iload_n C (kk0 := 2) dX2_offer_54) dX2_offer_55) dX2_offer_56 (by decide)) (hd_seq (p1 := 107) (hd_seq (p1 := 67) (hd_sistore C (p1 := 65) (hd_ior C (p1 := 61) (p2 := 64) (hd_iload C dX2_offer_59) (hd_ishl C (p1 := 62) (p2 := 63) (hd_iconst C dX2_offer_61 (by decide)) (hd_iload_n C (kk0 := 2) dX2_offer_62) dX2_offer_63) dX2_offer_64) dX2_offer_65 (by decide)) (hd_seq (p1 := 83) (hd_siast C (p1 := 71) (p2 := 73) (p3 := 82) (hd_getR C (p1 := 68) fX2_offer_15 (hd_aload_n C (kk0 := 0) dX2_offer_67) dX2_offer_68) (hd_iload C dX2_offer_71) (hd_iadd C (p1 := 80) (p2 := 81) (hd_iald C (p1 := 77) (p2 := 79) (hd_getR C (p1 := 74) fX2_offer_15 (hd_aload_n C (kk0 := 0) dX2_offer_73) dX2_offer_74) (hd_iload C dX2_offer_77) dX2_offer_79) (hd_iload_n C (kk0 := 3) dX2_offer_80) dX2_offer_81) dX2_offer_82) (hd_siast C (p1 := 87) (p2 := 89) (p3 := 106) (hd_getR C (p1 := 84) fX2_offer_9 (hd_aload_n C (kk0 := 0) dX2_offer_83) dX2_offer_84) (hd_iload C dX2_offer_87) (hd_mmin C (p1 := 96) (p2 := 103) wX2_offer_18 wX2_offer_19 wX2_offer_20 wX2_offer_21 (by decide) (hd_iald C (p1 := 93) (p2 := 95) (hd_getR C (p1 := 90) fX2_offer_9 (hd_aload_n C (kk0 := 0) dX2_offer_89) dX2_offer_90) (hd_iload C dX2_offer_93) dX2_offer_95) (hd_iald C (p1 := 100) (p2 := 102) (hd_getR C (p1 := 97) fX2_offer_15 (hd_aload_n C (kk0 := 0) dX2_offer_96) dX2_offer_97) (hd_iload C dX2_offer_100) dX2_offer_102) dX2_offer_103) dX2_offer_106))) (hd_sgoto C (p1 := 110) (tgt := 51) (hd_ends (es := [110]) (by decide) (hd_siinc C dX2_offer_107 (by decide) (by decide))) dX2_offer_110 (by decide) (by decide))) (by decide)))) (hd_sgoto C (p1 := 116) (tgt := 17) (hd_ends (es := [116]) (by decide) (hd_siinc C dX2_offer_113 (by decide) (by decide))) dX2_offer_116 (by decide) (by decide))) (by decide))) (hd_retV C Rk dX2_offer_119))))
/-! X3_gatherSpots -/
theorem hw_X3_gatherSpots : wsX3_gatherSpots = Cond.code yX3_gatherSpots cX3_gatherSpots 2 none :: wsX3_gatherSpots.tail := rfl
set_option maxRecDepth 100000 in
theorem uX3_gatherSpots_X3 : ∀ w ∈ u_ws RX3 TX3 5, w ∈ wsX3_gatherSpots := by decide +kernel
set_option maxRecDepth 100000 in
theorem lX3_gatherSpots_22 : Cond.fieldLink RX3 22 (TX3 2).1 (TX3 2).2.1 (TX3 2).2.2.1 ∈ wsX3_gatherSpots := by decide +kernel
set_option maxRecDepth 100000 in
theorem qX3_gatherSpots_22 : hd_FP wsX3_gatherSpots RX3 vwCl 3 2 22 .int := ⟨RX3, TX3, 5, tyX3, rfl, by decide, uX3_gatherSpots_X3, lX3_gatherSpots_22, tyX3_ok, nmX3, rfl, rfl⟩
set_option maxRecDepth 100000 in
theorem lX3_gatherSpots_15 : Cond.fieldLink RX3 15 (TX3 0).1 (TX3 0).2.1 (TX3 0).2.2.1 ∈ wsX3_gatherSpots := by decide +kernel
set_option maxRecDepth 100000 in
theorem fX3_gatherSpots_15 : hd_F wsX3_gatherSpots RX3 vwCl 3 0 15 := ⟨RX3, TX3, 5, rfl, by decide, uX3_gatherSpots_X3, lX3_gatherSpots_15⟩
set_option maxRecDepth 100000 in
theorem uX3_gatherSpots_X5 : ∀ w ∈ u_ws RX5 TX5 10, w ∈ wsX3_gatherSpots := by decide +kernel
set_option maxRecDepth 100000 in
theorem lX3_gatherSpots_50 : Cond.fieldLink RX3 50 (TX5 0).1 (TX5 0).2.1 (TX5 0).2.2.1 ∈ wsX3_gatherSpots := by decide +kernel
set_option maxRecDepth 100000 in
theorem fX3_gatherSpots_50 : hd_F wsX3_gatherSpots RX3 vwCl 5 0 50 := ⟨RX5, TX5, 10, rfl, by decide, uX3_gatherSpots_X5, lX3_gatherSpots_50⟩
set_option maxRecDepth 100000 in
theorem lX3_gatherSpots_55 : Cond.fieldLink RX3 55 (TX5 4).1 (TX5 4).2.1 (TX5 4).2.2.1 ∈ wsX3_gatherSpots := by decide +kernel
set_option maxRecDepth 100000 in
theorem fX3_gatherSpots_55 : hd_F wsX3_gatherSpots RX3 vwCl 5 4 55 := ⟨RX5, TX5, 10, rfl, by decide, uX3_gatherSpots_X5, lX3_gatherSpots_55⟩
set_option maxRecDepth 100000 in
theorem yX3_gatherSpots_X3_insertSpot : yX3_insertSpot.cls = RX3 ∧ yX3_insertSpot.cls ≠ "java/lang/invoke/MethodHandle" ∧ yX3_insertSpot.cls ≠ "java/lang/invoke/VarHandle" ∧ (parseMethodDescriptor yX3_insertSpot.desc).map (fun d => d.parameters.length) = some 1 := by decide +kernel
def wc_X3_gatherSpots_7 : hd_xC := (hd_cI (fun x y => decide (x < y)) (hd_iL 1) (hd_iG hs_sh 5 0 (hd_rG hs_sh 3 0 (hd_rL 0))))
def wb_X3_gatherSpots_7 : hd_xS := (hd_sQ (hd_sN (hd_nV hs_sh 3 (hd_rL 0) 1 (hd_pI hd_v0 (hd_iA hs_sh (hd_rG hs_sh 5 4 (hd_rG hs_sh 3 0 (hd_rL 0))) (hd_iL 1))) wm_X3_insertSpot)) (hd_sP 1 (1)))
def wo_X3_gatherSpots : hd_xS := (hd_sQ (hd_sF hs_sh 3 2 (hd_rL 0) (hd_iK (0))) (hd_sQ (hd_sQ (hd_sI 1 (hd_iK (0))) (hd_sH (wc_X3_gatherSpots_7) (wb_X3_gatherSpots_7))) hd_sRV))
def wm_X3_gatherSpots : hd_M := hd_mth 2 wo_X3_gatherSpots
set_option maxHeartbeats 4000000 in
set_option maxRecDepth 100000 in
theorem snd_X3_gatherSpots : hd_Snd vwCl hs_sh yX3_gatherSpots wsX3_gatherSpots 2 wm_X3_gatherSpots := hd_method (by decide) rfl rfl (by decide) (fun κ C Rk => (hd_seq (p1 := 5) (hd_sputI C (p1 := 1) (p2 := 2) qX3_gatherSpots_22 (hd_aload_n C (kk0 := 0) dX3_gatherSpots_0) (hd_iconst C dX3_gatherSpots_1 (by decide)) dX3_gatherSpots_2) (hd_seq (p1 := 37) (hd_seq (p1 := 7) (hd_sistore_n C (kk0 := 1) (p1 := 6) (hd_iconst C dX3_gatherSpots_5 (by decide)) dX3_gatherSpots_6 (by decide)) (hd_loop C (p1 := 18) (p2 := 37) (hd_c_ltF C (p1 := 8) (p2 := 15) (tgt := 37) (hd_iload_n C (kk0 := 1) dX3_gatherSpots_7) (hd_getI C (p1 := 12) fX3_gatherSpots_50 (hd_getR C (p1 := 9) fX3_gatherSpots_15 (hd_aload_n C (kk0 := 0) dX3_gatherSpots_8) dX3_gatherSpots_9) dX3_gatherSpots_12) dX3_gatherSpots_15 (by decide)) (hd_seq (p1 := 31) (hd_scall (hd_invV C (p1 := 19) (p2 := 28) snd_X3_insertSpot hw_X3_insertSpot gX3_gatherSpots_X3_insertSpot hs_c_3 yX3_gatherSpots_X3_insertSpot ⟨by decide, by decide⟩ (by decide) (hd_aload_n C (kk0 := 0) dX3_gatherSpots_18) (hd_apI (p1 := 19) (p2 := 28) hd_av0 (hd_iald C (p1 := 26) (p2 := 27) (hd_getR C (p1 := 23) fX3_gatherSpots_55 (hd_getR C (p1 := 20) fX3_gatherSpots_15 (hd_aload_n C (kk0 := 0) dX3_gatherSpots_19) dX3_gatherSpots_20) dX3_gatherSpots_23) (hd_iload_n C (kk0 := 1) dX3_gatherSpots_26) dX3_gatherSpots_27)) dX3_gatherSpots_28)) (hd_sgoto C (p1 := 34) (tgt := 7) (hd_ends (es := [34]) (by decide) (hd_siinc C dX3_gatherSpots_31 (by decide) (by decide))) dX3_gatherSpots_34 (by decide) (by decide))) (by decide))) (hd_retV C Rk dX3_gatherSpots_37))))
/-! X3_isChosen -/
theorem hw_X3_isChosen : wsX3_isChosen = Cond.code yX3_isChosen cX3_isChosen 3 (some .boolean) :: wsX3_isChosen.tail := rfl
set_option maxRecDepth 100000 in
theorem uX3_isChosen_X3 : ∀ w ∈ u_ws RX3 TX3 5, w ∈ wsX3_isChosen := by decide +kernel
set_option maxRecDepth 100000 in
theorem lX3_isChosen_22 : Cond.fieldLink RX3 22 (TX3 2).1 (TX3 2).2.1 (TX3 2).2.2.1 ∈ wsX3_isChosen := by decide +kernel
set_option maxRecDepth 100000 in
theorem fX3_isChosen_22 : hd_F wsX3_isChosen RX3 vwCl 3 2 22 := ⟨RX3, TX3, 5, rfl, by decide, uX3_isChosen_X3, lX3_isChosen_22⟩
set_option maxRecDepth 100000 in
theorem yX3_isChosen_X5_isIn : yX5_isIn.cls ≠ "java/lang/invoke/MethodHandle" ∧ yX5_isIn.cls ≠ "java/lang/invoke/VarHandle" ∧ (parseMethodDescriptor yX5_isIn.desc).map (fun d => d.parameters.length) = some 2 := by decide +kernel
def wo_X3_isChosen : hd_xS := (hd_sRZ (hd_iN (hd_nS 2 (hd_pI (hd_pI hd_v0 (hd_iB (fun x y => x - y) (hd_iB (fun x y => x - y) (hd_iG hs_sh 3 2 (hd_rL 0)) (hd_iK (1))) (hd_iL 2))) (hd_iL 1)) wm_X5_isIn)))
def wm_X3_isChosen : hd_M := hd_mth 3 wo_X3_isChosen
set_option maxHeartbeats 4000000 in
set_option maxRecDepth 100000 in
theorem snd_X3_isChosen : hd_Snd vwCl hs_sh yX3_isChosen wsX3_isChosen 2 wm_X3_isChosen := hd_method (by decide) rfl rfl (by decide) (fun κ C Rk => (hd_retZ C Rk (p1 := 12) (hd_inI (hd_invS C (p2 := 9) snd_X5_isIn hw_X5_isIn gX3_isChosen_X5_isIn yX3_isChosen_X5_isIn ⟨by decide, by decide⟩ (by decide) (hd_apI (p1 := 8) (p2 := 9) (hd_apI (p1 := 0) (p2 := 8) hd_av0 (hd_isub C (p1 := 6) (p2 := 7) (hd_isub C (p1 := 4) (p2 := 5) (hd_getI C (p1 := 1) fX3_isChosen_22 (hd_aload_n C (kk0 := 0) dX3_isChosen_0) dX3_isChosen_1) (hd_iconst C dX3_isChosen_4 (by decide)) dX3_isChosen_5) (hd_iload_n C (kk0 := 2) dX3_isChosen_6) dX3_isChosen_7)) (hd_iload_n C (kk0 := 1) dX3_isChosen_8)) dX3_isChosen_9)) dX3_isChosen_12))
/-! X4_giveBack -/
theorem hw_X4_giveBack : wsX4_giveBack = Cond.code yX4_giveBack cX4_giveBack 2 none :: wsX4_giveBack.tail := rfl
set_option maxRecDepth 100000 in
theorem uX4_giveBack_X4 : ∀ w ∈ u_ws RX4 TX4 2, w ∈ wsX4_giveBack := by decide +kernel
set_option maxRecDepth 100000 in
theorem lX4_giveBack_18 : Cond.fieldLink RX4 18 (TX4 1).1 (TX4 1).2.1 (TX4 1).2.2.1 ∈ wsX4_giveBack := by decide +kernel
set_option maxRecDepth 100000 in
theorem fX4_giveBack_18 : hd_F wsX4_giveBack RX4 vwCl 4 1 18 := ⟨RX4, TX4, 2, rfl, by decide, uX4_giveBack_X4, lX4_giveBack_18⟩
set_option maxRecDepth 100000 in
theorem qX4_giveBack_18 : hd_FP wsX4_giveBack RX4 vwCl 4 1 18 .int := ⟨RX4, TX4, 2, tyX4, rfl, by decide, uX4_giveBack_X4, lX4_giveBack_18, tyX4_ok, nmX4, rfl, rfl⟩
set_option maxRecDepth 100000 in
theorem lX4_giveBack_11 : Cond.fieldLink RX4 11 (TX4 0).1 (TX4 0).2.1 (TX4 0).2.2.1 ∈ wsX4_giveBack := by decide +kernel
set_option maxRecDepth 100000 in
theorem fX4_giveBack_11 : hd_F wsX4_giveBack RX4 vwCl 4 0 11 := ⟨RX4, TX4, 2, rfl, by decide, uX4_giveBack_X4, lX4_giveBack_11⟩
set_option maxRecDepth 100000 in
theorem yX4_giveBack_X5_takeFrom : yX5_takeFrom.cls = RX5 ∧ yX5_takeFrom.cls ≠ "java/lang/invoke/MethodHandle" ∧ yX5_takeFrom.cls ≠ "java/lang/invoke/VarHandle" ∧ (parseMethodDescriptor yX5_takeFrom.desc).map (fun d => d.parameters.length) = some 1 := by decide +kernel
def wo_X4_giveBack : hd_xS := (hd_sQ (hd_sW (hd_c0 (fun x => decide (0 < x)) (hd_iG hs_sh 4 1 (hd_rL 0))) (hd_sQ (hd_sG (fun x y => x - y) hs_sh 4 1 (hd_rL 0) (hd_iK (1))) (hd_sN (hd_nV hs_sh 5 (hd_rL 1) 1 (hd_pR hd_v0 (hd_rA hs_sh 2 (hd_rG hs_sh 4 0 (hd_rL 0)) (hd_iG hs_sh 4 1 (hd_rL 0)))) wm_X5_takeFrom)))) hd_sRV)
def wm_X4_giveBack : hd_M := hd_mth 2 wo_X4_giveBack
set_option maxHeartbeats 4000000 in
set_option maxRecDepth 100000 in
theorem snd_X4_giveBack : hd_Snd vwCl hs_sh yX4_giveBack wsX4_giveBack 2 wm_X4_giveBack := hd_method (by decide) rfl rfl (by decide) (fun κ C Rk => (hd_seq (p1 := 30) (hd_if (p1 := 7) (p2 := 30) (hd_z_gtF C (p2 := 4) (tgt := 30) (hd_getI C (p1 := 1) fX4_giveBack_18 (hd_aload_n C (kk0 := 0) dX4_giveBack_0) dX4_giveBack_1) dX4_giveBack_4 (by decide)) (hd_seq (p1 := 17) (hd_sfld_isub C (p1 := 8) (p2 := 13) fX4_giveBack_18 qX4_giveBack_18 (hd_aload_n C (kk0 := 0) dX4_giveBack_7) dX4_giveBack_8 dX4_giveBack_9 (hd_iconst C dX4_giveBack_12 (by decide)) dX4_giveBack_13 dX4_giveBack_14) (hd_scall (hd_invV C (p1 := 18) (p2 := 27) snd_X5_takeFrom hw_X5_takeFrom gX4_giveBack_X5_takeFrom hs_c_5 yX4_giveBack_X5_takeFrom ⟨by decide, by decide⟩ (by decide) (hd_aload_n C (kk0 := 1) dX4_giveBack_17) (hd_apR (p1 := 18) (p2 := 27) hd_av0 (hd_aald2 C (p1 := 22) (p2 := 26) (hd_getR C (p1 := 19) fX4_giveBack_11 (hd_aload_n C (kk0 := 0) dX4_giveBack_18) dX4_giveBack_19) (hd_getI C (p1 := 23) fX4_giveBack_18 (hd_aload_n C (kk0 := 0) dX4_giveBack_22) dX4_giveBack_23) dX4_giveBack_26)) dX4_giveBack_27))) (by decide)) (hd_retV C Rk dX4_giveBack_30)))
/-! X4_keep -/
theorem hw_X4_keep : wsX4_keep = Cond.code yX4_keep cX4_keep 2 none :: wsX4_keep.tail := rfl
set_option maxRecDepth 100000 in
theorem uX4_keep_X4 : ∀ w ∈ u_ws RX4 TX4 2, w ∈ wsX4_keep := by decide +kernel
set_option maxRecDepth 100000 in
theorem lX4_keep_18 : Cond.fieldLink RX4 18 (TX4 1).1 (TX4 1).2.1 (TX4 1).2.2.1 ∈ wsX4_keep := by decide +kernel
set_option maxRecDepth 100000 in
theorem fX4_keep_18 : hd_F wsX4_keep RX4 vwCl 4 1 18 := ⟨RX4, TX4, 2, rfl, by decide, uX4_keep_X4, lX4_keep_18⟩
set_option maxRecDepth 100000 in
theorem yX4_keep_X4_dropOldest : yX4_dropOldest.cls = RX4 ∧ yX4_dropOldest.cls ≠ "java/lang/invoke/MethodHandle" ∧ yX4_dropOldest.cls ≠ "java/lang/invoke/VarHandle" ∧ (parseMethodDescriptor yX4_dropOldest.desc).map (fun d => d.parameters.length) = some 0 := by decide +kernel
set_option maxRecDepth 100000 in
theorem lX4_keep_11 : Cond.fieldLink RX4 11 (TX4 0).1 (TX4 0).2.1 (TX4 0).2.2.1 ∈ wsX4_keep := by decide +kernel
set_option maxRecDepth 100000 in
theorem fX4_keep_11 : hd_F wsX4_keep RX4 vwCl 4 0 11 := ⟨RX4, TX4, 2, rfl, by decide, uX4_keep_X4, lX4_keep_11⟩
set_option maxRecDepth 100000 in
theorem yX4_keep_X5_takeFrom : yX5_takeFrom.cls = RX5 ∧ yX5_takeFrom.cls ≠ "java/lang/invoke/MethodHandle" ∧ yX5_takeFrom.cls ≠ "java/lang/invoke/VarHandle" ∧ (parseMethodDescriptor yX5_takeFrom.desc).map (fun d => d.parameters.length) = some 1 := by decide +kernel
set_option maxRecDepth 100000 in
theorem qX4_keep_18 : hd_FP wsX4_keep RX4 vwCl 4 1 18 .int := ⟨RX4, TX4, 2, tyX4, rfl, by decide, uX4_keep_X4, lX4_keep_18, tyX4_ok, nmX4, rfl, rfl⟩
def wo_X4_keep : hd_xS := (hd_sQ (hd_sW (hd_cI (fun x y => decide (y ≤ x)) (hd_iG hs_sh 4 1 (hd_rL 0)) (hd_iK (8))) (hd_sN (hd_nV hs_sh 4 (hd_rL 0) 0 hd_v0 wm_X4_dropOldest))) (hd_sQ (hd_sN (hd_nV hs_sh 5 (hd_rA hs_sh 2 (hd_rG hs_sh 4 0 (hd_rL 0)) (hd_iG hs_sh 4 1 (hd_rL 0))) 1 (hd_pR hd_v0 (hd_rL 1)) wm_X5_takeFrom)) (hd_sQ (hd_sG (fun x y => x + y) hs_sh 4 1 (hd_rL 0) (hd_iK (1))) hd_sRV)))
def wm_X4_keep : hd_M := hd_mth 2 wo_X4_keep
set_option maxHeartbeats 4000000 in
set_option maxRecDepth 100000 in
theorem snd_X4_keep : hd_Snd vwCl hs_sh yX4_keep wsX4_keep 2 wm_X4_keep := hd_method (by decide) rfl rfl (by decide) (fun κ C Rk => (hd_seq (p1 := 13) (hd_if (p1 := 9) (p2 := 13) (hd_c_geF C (p1 := 4) (p2 := 6) (tgt := 13) (hd_getI C (p1 := 1) fX4_keep_18 (hd_aload_n C (kk0 := 0) dX4_keep_0) dX4_keep_1) (hd_bipush C dX4_keep_4 (by decide)) dX4_keep_6 (by decide)) (hd_scall (hd_invV C (p1 := 10) (p2 := 10) snd_X4_dropOldest hw_X4_dropOldest gX4_keep_X4_dropOldest hs_c_4 yX4_keep_X4_dropOldest ⟨by decide, by decide⟩ (by decide) (hd_aload_n C (kk0 := 0) dX4_keep_9) hd_av0 dX4_keep_10)) (by decide)) (hd_seq (p1 := 26) (hd_scall (hd_invV C (p1 := 22) (p2 := 23) snd_X5_takeFrom hw_X5_takeFrom gX4_keep_X5_takeFrom hs_c_5 yX4_keep_X5_takeFrom ⟨by decide, by decide⟩ (by decide) (hd_aald2 C (p1 := 17) (p2 := 21) (hd_getR C (p1 := 14) fX4_keep_11 (hd_aload_n C (kk0 := 0) dX4_keep_13) dX4_keep_14) (hd_getI C (p1 := 18) fX4_keep_18 (hd_aload_n C (kk0 := 0) dX4_keep_17) dX4_keep_18) dX4_keep_21) (hd_apR (p1 := 22) (p2 := 23) hd_av0 (hd_aload_n C (kk0 := 1) dX4_keep_22)) dX4_keep_23)) (hd_seq (p1 := 36) (hd_sfld_iadd C (p1 := 27) (p2 := 32) fX4_keep_18 qX4_keep_18 (hd_aload_n C (kk0 := 0) dX4_keep_26) dX4_keep_27 dX4_keep_28 (hd_iconst C dX4_keep_31 (by decide)) dX4_keep_32 dX4_keep_33) (hd_retV C Rk dX4_keep_36)))))
/-! X5_addHall -/
theorem hw_X5_addHall : wsX5_addHall = Cond.code yX5_addHall cX5_addHall 2 (some .int) :: wsX5_addHall.tail := rfl
set_option maxRecDepth 100000 in
theorem uX5_addHall_X5 : ∀ w ∈ u_ws RX5 TX5 10, w ∈ wsX5_addHall := by decide +kernel
set_option maxRecDepth 100000 in
theorem lX5_addHall_40 : Cond.fieldLink RX5 40 (TX5 1).1 (TX5 1).2.1 (TX5 1).2.2.1 ∈ wsX5_addHall := by decide +kernel
set_option maxRecDepth 100000 in
theorem fX5_addHall_40 : hd_F wsX5_addHall RX5 vwCl 5 1 40 := ⟨RX5, TX5, 10, rfl, by decide, uX5_addHall_X5, lX5_addHall_40⟩
set_option maxRecDepth 100000 in
theorem qX5_addHall_40 : hd_FP wsX5_addHall RX5 vwCl 5 1 40 .int := ⟨RX5, TX5, 10, tyX5, rfl, by decide, uX5_addHall_X5, lX5_addHall_40, tyX5_ok, nmX5, rfl, rfl⟩
set_option maxRecDepth 100000 in
theorem lX5_addHall_21 : Cond.fieldLink RX5 21 (TX5 5).1 (TX5 5).2.1 (TX5 5).2.2.1 ∈ wsX5_addHall := by decide +kernel
set_option maxRecDepth 100000 in
theorem fX5_addHall_21 : hd_F wsX5_addHall RX5 vwCl 5 5 21 := ⟨RX5, TX5, 10, rfl, by decide, uX5_addHall_X5, lX5_addHall_21⟩
set_option maxRecDepth 100000 in
theorem lX5_addHall_24 : Cond.fieldLink RX5 24 (TX5 6).1 (TX5 6).2.1 (TX5 6).2.2.1 ∈ wsX5_addHall := by decide +kernel
set_option maxRecDepth 100000 in
theorem fX5_addHall_24 : hd_F wsX5_addHall RX5 vwCl 5 6 24 := ⟨RX5, TX5, 10, rfl, by decide, uX5_addHall_X5, lX5_addHall_24⟩
set_option maxRecDepth 100000 in
theorem yX5_addHall_X5_laySheet : yX5_laySheet.cls = RX5 ∧ yX5_laySheet.cls ≠ "java/lang/invoke/MethodHandle" ∧ yX5_laySheet.cls ≠ "java/lang/invoke/VarHandle" ∧ (parseMethodDescriptor yX5_laySheet.desc).map (fun d => d.parameters.length) = some 3 := by decide +kernel
def wo_X5_addHall : hd_xS := (hd_sQ (hd_sI 1 (hd_iG hs_sh 5 1 (hd_rL 0))) (hd_sQ (hd_sG (fun x y => x + y) hs_sh 5 1 (hd_rL 0) (hd_iK (1))) (hd_sQ (hd_sA hs_sh (hd_rG hs_sh 5 5 (hd_rL 0)) (hd_iL 1) (hd_iK (0))) (hd_sQ (hd_sA hs_sh (hd_rG hs_sh 5 6 (hd_rL 0)) (hd_iL 1) (hd_iK (200))) (hd_sQ (hd_sN (hd_nV hs_sh 5 (hd_rL 0) 3 (hd_pI (hd_pI (hd_pI hd_v0 (hd_iL 1)) (hd_iK (-1))) (hd_iK (0))) wm_X5_laySheet)) (hd_sRI (hd_iL 1)))))))
def wm_X5_addHall : hd_M := hd_mth 2 wo_X5_addHall
set_option maxHeartbeats 4000000 in
set_option maxRecDepth 100000 in
theorem snd_X5_addHall : hd_Snd vwCl hs_sh yX5_addHall wsX5_addHall 2 wm_X5_addHall := hd_method (by decide) rfl rfl (by decide) (fun κ C Rk => (hd_seq (p1 := 5) (hd_sistore_n C (kk0 := 1) (p1 := 4) (hd_getI C (p1 := 1) fX5_addHall_40 (hd_aload_n C (kk0 := 0) dX5_addHall_0) dX5_addHall_1) dX5_addHall_4 (by decide)) (hd_seq (p1 := 15) (hd_sfld_iadd C (p1 := 6) (p2 := 11) fX5_addHall_40 qX5_addHall_40 (hd_aload_n C (kk0 := 0) dX5_addHall_5) dX5_addHall_6 dX5_addHall_7 (hd_iconst C dX5_addHall_10 (by decide)) dX5_addHall_11 dX5_addHall_12) (hd_seq (p1 := 22) (hd_siast C (p1 := 19) (p2 := 20) (p3 := 21) (hd_getR C (p1 := 16) fX5_addHall_21 (hd_aload_n C (kk0 := 0) dX5_addHall_15) dX5_addHall_16) (hd_iload_n C (kk0 := 1) dX5_addHall_19) (hd_iconst C dX5_addHall_20 (by decide)) dX5_addHall_21) (hd_seq (p1 := 31) (hd_siast C (p1 := 26) (p2 := 27) (p3 := 30) (hd_getR C (p1 := 23) fX5_addHall_24 (hd_aload_n C (kk0 := 0) dX5_addHall_22) dX5_addHall_23) (hd_iload_n C (kk0 := 1) dX5_addHall_26) (hd_sipush C dX5_addHall_27 (by decide)) dX5_addHall_30) (hd_seq (p1 := 38) (hd_scall (hd_invV C (p1 := 32) (p2 := 35) snd_X5_laySheet hw_X5_laySheet gX5_addHall_X5_laySheet hs_c_5 yX5_addHall_X5_laySheet ⟨by decide, by decide⟩ (by decide) (hd_aload_n C (kk0 := 0) dX5_addHall_31) (hd_apI (p1 := 34) (p2 := 35) (hd_apI (p1 := 33) (p2 := 34) (hd_apI (p1 := 32) (p2 := 33) hd_av0 (hd_iload_n C (kk0 := 1) dX5_addHall_32)) (hd_iconst C dX5_addHall_33 (by decide))) (hd_iconst C dX5_addHall_34 (by decide))) dX5_addHall_35)) (hd_retI C Rk (p1 := 39) (hd_iload_n C (kk0 := 1) dX5_addHall_38) dX5_addHall_39)))))))
/-! X5_sheets -/
theorem hw_X5_sheets : wsX5_sheets = Cond.code yX5_sheets cX5_sheets 3 (some .int) :: wsX5_sheets.tail := rfl
set_option maxRecDepth 100000 in
theorem uX5_sheets_X5 : ∀ w ∈ u_ws RX5 TX5 10, w ∈ wsX5_sheets := by decide +kernel
set_option maxRecDepth 100000 in
theorem lX5_sheets_40 : Cond.fieldLink RX5 40 (TX5 1).1 (TX5 1).2.1 (TX5 1).2.2.1 ∈ wsX5_sheets := by decide +kernel
set_option maxRecDepth 100000 in
theorem fX5_sheets_40 : hd_F wsX5_sheets RX5 vwCl 5 1 40 := ⟨RX5, TX5, 10, rfl, by decide, uX5_sheets_X5, lX5_sheets_40⟩
set_option maxRecDepth 100000 in
theorem yX5_sheets_X5_isMissing : yX5_isMissing.cls = RX5 ∧ yX5_isMissing.cls ≠ "java/lang/invoke/MethodHandle" ∧ yX5_isMissing.cls ≠ "java/lang/invoke/VarHandle" ∧ (parseMethodDescriptor yX5_isMissing.desc).map (fun d => d.parameters.length) = some 1 := by decide +kernel
def wc_X5_sheets_4 : hd_xC := (hd_cI (fun x y => decide (x < y)) (hd_iL 2) (hd_iG hs_sh 5 1 (hd_rL 0)))
def wb_X5_sheets_4 : hd_xS := (hd_sQ (hd_sI 1 (hd_iB (fun x y => x + y) (hd_iL 1) (hd_iQ (hd_c0 (fun x => !decide (x = 0)) (hd_iN (hd_nV hs_sh 5 (hd_rL 0) 1 (hd_pI hd_v0 (hd_iL 2)) wm_X5_isMissing))) (hd_iK (0)) (hd_iK (1))))) (hd_sP 2 (1)))
def wo_X5_sheets : hd_xS := (hd_sQ (hd_sI 1 (hd_iK (0))) (hd_sQ (hd_sQ (hd_sI 2 (hd_iK (0))) (hd_sH (wc_X5_sheets_4) (wb_X5_sheets_4))) (hd_sRI (hd_iL 1))))
def wm_X5_sheets : hd_M := hd_mth 3 wo_X5_sheets
set_option maxHeartbeats 4000000 in
set_option maxRecDepth 100000 in
theorem snd_X5_sheets : hd_Snd vwCl hs_sh yX5_sheets wsX5_sheets 2 wm_X5_sheets := hd_method (by decide) rfl rfl (by decide) (fun κ C Rk => (hd_seq (p1 := 2) (hd_sistore_n C (kk0 := 1) (p1 := 1) (hd_iconst C dX5_sheets_0 (by decide)) dX5_sheets_1 (by decide)) (hd_seq (p1 := 34) (hd_seq (p1 := 4) (hd_sistore_n C (kk0 := 2) (p1 := 3) (hd_iconst C dX5_sheets_2 (by decide)) dX5_sheets_3 (by decide)) (hd_loop C (p1 := 12) (p2 := 34) (hd_c_ltF C (p1 := 5) (p2 := 9) (tgt := 34) (hd_iload_n C (kk0 := 2) dX5_sheets_4) (hd_getI C (p1 := 6) fX5_sheets_40 (hd_aload_n C (kk0 := 0) dX5_sheets_5) dX5_sheets_6) dX5_sheets_9 (by decide)) (hd_seq (p1 := 28) (hd_sistore_n C (kk0 := 1) (p1 := 27) (hd_iadd C (p1 := 13) (p2 := 26) (hd_iload_n C (kk0 := 1) dX5_sheets_12) (hd_tnI C (p1 := 21) (p2 := 22) (p3 := 25) (p4 := 26) (hd_z_neF C (p2 := 18) (tgt := 25) (hd_inI (hd_invV C (p1 := 14) (p2 := 15) snd_X5_isMissing hw_X5_isMissing gX5_sheets_X5_isMissing hs_c_5 yX5_sheets_X5_isMissing ⟨by decide, by decide⟩ (by decide) (hd_aload_n C (kk0 := 0) dX5_sheets_13) (hd_apI (p1 := 14) (p2 := 15) hd_av0 (hd_iload_n C (kk0 := 2) dX5_sheets_14)) dX5_sheets_15)) dX5_sheets_18 (by decide)) (hd_iconst C dX5_sheets_21 (by decide)) dX5_sheets_22 (by decide) (hd_iconst C dX5_sheets_25 (by decide))) dX5_sheets_26) dX5_sheets_27 (by decide)) (hd_sgoto C (p1 := 31) (tgt := 4) (hd_ends (es := [31]) (by decide) (hd_siinc C dX5_sheets_28 (by decide) (by decide))) dX5_sheets_31 (by decide) (by decide))) (by decide))) (hd_retI C Rk (p1 := 35) (hd_iload_n C (kk0 := 1) dX5_sheets_34) dX5_sheets_35))))
/-! X6_addHallTo -/
theorem hw_X6_addHallTo : wsX6_addHallTo = Cond.code yX6_addHallTo cX6_addHallTo 7 none :: wsX6_addHallTo.tail := rfl
set_option maxRecDepth 100000 in
theorem uX6_addHallTo_X6 : ∀ w ∈ u_ws RX6 TX6 5, w ∈ wsX6_addHallTo := by decide +kernel
set_option maxRecDepth 100000 in
theorem lX6_addHallTo_25 : Cond.fieldLink RX6 25 (TX6 0).1 (TX6 0).2.1 (TX6 0).2.2.1 ∈ wsX6_addHallTo := by decide +kernel
set_option maxRecDepth 100000 in
theorem fX6_addHallTo_25 : hd_F wsX6_addHallTo RX6 vwCl 6 0 25 := ⟨RX6, TX6, 5, rfl, by decide, uX6_addHallTo_X6, lX6_addHallTo_25⟩
set_option maxRecDepth 100000 in
theorem uX6_addHallTo_X5 : ∀ w ∈ u_ws RX5 TX5 10, w ∈ wsX6_addHallTo := by decide +kernel
set_option maxRecDepth 100000 in
theorem lX6_addHallTo_30 : Cond.fieldLink RX6 30 (TX5 0).1 (TX5 0).2.1 (TX5 0).2.2.1 ∈ wsX6_addHallTo := by decide +kernel
set_option maxRecDepth 100000 in
theorem fX6_addHallTo_30 : hd_F wsX6_addHallTo RX6 vwCl 5 0 30 := ⟨RX5, TX5, 10, rfl, by decide, uX6_addHallTo_X5, lX6_addHallTo_30⟩
set_option maxRecDepth 100000 in
theorem lX6_addHallTo_9 : Cond.fieldLink RX6 9 (TX6 1).1 (TX6 1).2.1 (TX6 1).2.2.1 ∈ wsX6_addHallTo := by decide +kernel
set_option maxRecDepth 100000 in
theorem fX6_addHallTo_9 : hd_F wsX6_addHallTo RX6 vwCl 6 1 9 := ⟨RX6, TX6, 5, rfl, by decide, uX6_addHallTo_X6, lX6_addHallTo_9⟩
set_option maxRecDepth 100000 in
theorem yX6_addHallTo_X5_wayOf : yX5_wayOf.cls = RX5 ∧ yX5_wayOf.cls ≠ "java/lang/invoke/MethodHandle" ∧ yX5_wayOf.cls ≠ "java/lang/invoke/VarHandle" ∧ (parseMethodDescriptor yX5_wayOf.desc).map (fun d => d.parameters.length) = some 2 := by decide +kernel
set_option maxRecDepth 100000 in
theorem wX6_addHallTo_9 : Cond.methodLink RX6 47 Lib.Math.min.name ∈ wsX6_addHallTo := by decide +kernel
set_option maxRecDepth 100000 in
theorem wX6_addHallTo_10 : Cond.static Lib.Math.min.name ∈ wsX6_addHallTo := by decide +kernel
set_option maxRecDepth 100000 in
theorem wX6_addHallTo_11 : Cond.initialized "java/lang/Math" ∈ wsX6_addHallTo := by decide +kernel
set_option maxRecDepth 100000 in
theorem wX6_addHallTo_12 : Cond.code Lib.Math.min.name Lib.Math.min.code 2 (some .int) ∈ wsX6_addHallTo := by decide +kernel
set_option maxRecDepth 100000 in
theorem lX6_addHallTo_52 : Cond.fieldLink RX6 52 (TX5 2).1 (TX5 2).2.1 (TX5 2).2.2.1 ∈ wsX6_addHallTo := by decide +kernel
set_option maxRecDepth 100000 in
theorem fX6_addHallTo_52 : hd_F wsX6_addHallTo RX6 vwCl 5 2 52 := ⟨RX5, TX5, 10, rfl, by decide, uX6_addHallTo_X5, lX6_addHallTo_52⟩
set_option maxRecDepth 100000 in
theorem lX6_addHallTo_15 : Cond.fieldLink RX6 15 (TX6 2).1 (TX6 2).2.1 (TX6 2).2.2.1 ∈ wsX6_addHallTo := by decide +kernel
set_option maxRecDepth 100000 in
theorem fX6_addHallTo_15 : hd_F wsX6_addHallTo RX6 vwCl 6 2 15 := ⟨RX6, TX6, 5, rfl, by decide, uX6_addHallTo_X6, lX6_addHallTo_15⟩
set_option maxRecDepth 100000 in
theorem lX6_addHallTo_18 : Cond.fieldLink RX6 18 (TX6 3).1 (TX6 3).2.1 (TX6 3).2.2.1 ∈ wsX6_addHallTo := by decide +kernel
set_option maxRecDepth 100000 in
theorem fX6_addHallTo_18 : hd_F wsX6_addHallTo RX6 vwCl 6 3 18 := ⟨RX6, TX6, 5, rfl, by decide, uX6_addHallTo_X6, lX6_addHallTo_18⟩
set_option maxRecDepth 100000 in
theorem lX6_addHallTo_55 : Cond.fieldLink RX6 55 (TX5 5).1 (TX5 5).2.1 (TX5 5).2.2.1 ∈ wsX6_addHallTo := by decide +kernel
set_option maxRecDepth 100000 in
theorem fX6_addHallTo_55 : hd_F wsX6_addHallTo RX6 vwCl 5 5 55 := ⟨RX5, TX5, 10, rfl, by decide, uX6_addHallTo_X5, lX6_addHallTo_55⟩
def wc_X6_addHallTo_12 : hd_xC := (hd_cI (fun x y => decide (x < y)) (hd_iL 5) (hd_iG hs_sh 5 0 (hd_rG hs_sh 6 0 (hd_rL 0))))
def wb_X6_addHallTo_12 : hd_xS := (hd_sQ (hd_sQ (hd_sI 6 (hd_iB (fun x y => if y < x then y else x) (hd_iA hs_sh (hd_rG hs_sh 6 1 (hd_rL 0)) (hd_iB (fun x y => x + y) (hd_iB (fun x y => x * y) (hd_iL 1) (hd_iK (8))) (hd_iL 5))) (hd_iN (hd_nV hs_sh 5 (hd_rG hs_sh 6 0 (hd_rL 0)) 2 (hd_pI (hd_pI hd_v0 (hd_iL 2)) (hd_iL 5)) wm_X5_wayOf)))) (hd_sQ (hd_sA hs_sh (hd_rG hs_sh 6 1 (hd_rL 0)) (hd_iB (fun x y => x + y) (hd_iB (fun x y => x * y) (hd_iL 3) (hd_iK (8))) (hd_iL 5)) (hd_iL 6)) (hd_sI 4 (hd_iB (fun x y => x + y) (hd_iL 4) (hd_iB (fun x y => x * y) (hd_iA hs_sh (hd_rG hs_sh 5 2 (hd_rG hs_sh 6 0 (hd_rL 0))) (hd_iL 5)) (hd_iL 6)))))) (hd_sP 5 (1)))
def wo_X6_addHallTo : hd_xS := (hd_sQ (hd_sI 3 (hd_iB (fun x y => x ||| y) (hd_iL 1) (hd_iB (fun x y => x <<< (y &&& 31)) (hd_iK (1)) (hd_iL 2)))) (hd_sQ (hd_sI 4 (hd_iK (0))) (hd_sQ (hd_sQ (hd_sI 5 (hd_iK (0))) (hd_sH (wc_X6_addHallTo_12) (wb_X6_addHallTo_12))) (hd_sQ (hd_sA hs_sh (hd_rG hs_sh 6 2 (hd_rL 0)) (hd_iL 3) (hd_iL 4)) (hd_sQ (hd_sA hs_sh (hd_rG hs_sh 6 3 (hd_rL 0)) (hd_iL 3) (hd_iB (fun x y => x + y) (hd_iA hs_sh (hd_rG hs_sh 6 3 (hd_rL 0)) (hd_iL 1)) (hd_iA hs_sh (hd_rG hs_sh 5 5 (hd_rG hs_sh 6 0 (hd_rL 0))) (hd_iL 2)))) hd_sRV)))))
def wm_X6_addHallTo : hd_M := hd_mth 7 wo_X6_addHallTo
set_option maxHeartbeats 4000000 in
set_option maxRecDepth 100000 in
theorem snd_X6_addHallTo : hd_Snd vwCl hs_sh yX6_addHallTo wsX6_addHallTo 2 wm_X6_addHallTo := hd_method (by decide) rfl rfl (by decide) (fun κ C Rk => (hd_seq (p1 := 6) (hd_sistore_n C (kk0 := 3) (p1 := 5) (hd_ior C (p1 := 1) (p2 := 4) (hd_iload_n C (kk0 := 1) dX6_addHallTo_0) (hd_ishl C (p1 := 2) (p2 := 3) (hd_iconst C dX6_addHallTo_1 (by decide)) (hd_iload_n C (kk0 := 2) dX6_addHallTo_2) dX6_addHallTo_3) dX6_addHallTo_4) dX6_addHallTo_5 (by decide)) (hd_seq (p1 := 9) (hd_sistore C (p1 := 7) (hd_iconst C dX6_addHallTo_6 (by decide)) dX6_addHallTo_7 (by decide)) (hd_seq (p1 := 89) (hd_seq (p1 := 12) (hd_sistore C (p1 := 10) (hd_iconst C dX6_addHallTo_9 (by decide)) dX6_addHallTo_10 (by decide)) (hd_loop C (p1 := 24) (p2 := 89) (hd_c_ltF C (p1 := 14) (p2 := 21) (tgt := 89) (hd_iload C dX6_addHallTo_12) (hd_getI C (p1 := 18) fX6_addHallTo_30 (hd_getR C (p1 := 15) fX6_addHallTo_25 (hd_aload_n C (kk0 := 0) dX6_addHallTo_14) dX6_addHallTo_15) dX6_addHallTo_18) dX6_addHallTo_21 (by decide)) (hd_seq (p1 := 83) (hd_seq (p1 := 51) (hd_sistore C (p1 := 49) (hd_mmin C (p1 := 36) (p2 := 46) wX6_addHallTo_9 wX6_addHallTo_10 wX6_addHallTo_11 wX6_addHallTo_12 (by decide) (hd_iald C (p1 := 28) (p2 := 35) (hd_getR C (p1 := 25) fX6_addHallTo_9 (hd_aload_n C (kk0 := 0) dX6_addHallTo_24) dX6_addHallTo_25) (hd_iadd C (p1 := 32) (p2 := 34) (hd_imul C (p1 := 29) (p2 := 31) (hd_iload_n C (kk0 := 1) dX6_addHallTo_28) (hd_bipush C dX6_addHallTo_29 (by decide)) dX6_addHallTo_31) (hd_iload C dX6_addHallTo_32) dX6_addHallTo_34) dX6_addHallTo_35) (hd_inI (hd_invV C (p1 := 40) (p2 := 43) snd_X5_wayOf hw_X5_wayOf gX6_addHallTo_X5_wayOf hs_c_5 yX6_addHallTo_X5_wayOf ⟨by decide, by decide⟩ (by decide) (hd_getR C (p1 := 37) fX6_addHallTo_25 (hd_aload_n C (kk0 := 0) dX6_addHallTo_36) dX6_addHallTo_37) (hd_apI (p1 := 41) (p2 := 43) (hd_apI (p1 := 40) (p2 := 41) hd_av0 (hd_iload_n C (kk0 := 2) dX6_addHallTo_40)) (hd_iload C dX6_addHallTo_41)) dX6_addHallTo_43)) dX6_addHallTo_46) dX6_addHallTo_49 (by decide)) (hd_seq (p1 := 65) (hd_siast C (p1 := 55) (p2 := 62) (p3 := 64) (hd_getR C (p1 := 52) fX6_addHallTo_9 (hd_aload_n C (kk0 := 0) dX6_addHallTo_51) dX6_addHallTo_52) (hd_iadd C (p1 := 59) (p2 := 61) (hd_imul C (p1 := 56) (p2 := 58) (hd_iload_n C (kk0 := 3) dX6_addHallTo_55) (hd_bipush C dX6_addHallTo_56 (by decide)) dX6_addHallTo_58) (hd_iload C dX6_addHallTo_59) dX6_addHallTo_61) (hd_iload C dX6_addHallTo_62) dX6_addHallTo_64) (hd_sistore C (p1 := 81) (hd_iadd C (p1 := 67) (p2 := 80) (hd_iload C dX6_addHallTo_65) (hd_imul C (p1 := 77) (p2 := 79) (hd_iald C (p1 := 74) (p2 := 76) (hd_getR C (p1 := 71) fX6_addHallTo_52 (hd_getR C (p1 := 68) fX6_addHallTo_25 (hd_aload_n C (kk0 := 0) dX6_addHallTo_67) dX6_addHallTo_68) dX6_addHallTo_71) (hd_iload C dX6_addHallTo_74) dX6_addHallTo_76) (hd_iload C dX6_addHallTo_77) dX6_addHallTo_79) dX6_addHallTo_80) dX6_addHallTo_81 (by decide)))) (hd_sgoto C (p1 := 86) (tgt := 12) (hd_ends (es := [86]) (by decide) (hd_siinc C dX6_addHallTo_83 (by decide) (by decide))) dX6_addHallTo_86 (by decide) (by decide))) (by decide))) (hd_seq (p1 := 97) (hd_siast C (p1 := 93) (p2 := 94) (p3 := 96) (hd_getR C (p1 := 90) fX6_addHallTo_15 (hd_aload_n C (kk0 := 0) dX6_addHallTo_89) dX6_addHallTo_90) (hd_iload_n C (kk0 := 3) dX6_addHallTo_93) (hd_iload C dX6_addHallTo_94) dX6_addHallTo_96) (hd_seq (p1 := 119) (hd_siast C (p1 := 101) (p2 := 102) (p3 := 118) (hd_getR C (p1 := 98) fX6_addHallTo_18 (hd_aload_n C (kk0 := 0) dX6_addHallTo_97) dX6_addHallTo_98) (hd_iload_n C (kk0 := 3) dX6_addHallTo_101) (hd_iadd C (p1 := 108) (p2 := 117) (hd_iald C (p1 := 106) (p2 := 107) (hd_getR C (p1 := 103) fX6_addHallTo_18 (hd_aload_n C (kk0 := 0) dX6_addHallTo_102) dX6_addHallTo_103) (hd_iload_n C (kk0 := 1) dX6_addHallTo_106) dX6_addHallTo_107) (hd_iald C (p1 := 115) (p2 := 116) (hd_getR C (p1 := 112) fX6_addHallTo_55 (hd_getR C (p1 := 109) fX6_addHallTo_25 (hd_aload_n C (kk0 := 0) dX6_addHallTo_108) dX6_addHallTo_109) dX6_addHallTo_112) (hd_iload_n C (kk0 := 2) dX6_addHallTo_115) dX6_addHallTo_116) dX6_addHallTo_117) dX6_addHallTo_118) (hd_retV C Rk dX6_addHallTo_119)))))))
/-! X6_nearHall -/
theorem hw_X6_nearHall : wsX6_nearHall = Cond.code yX6_nearHall cX6_nearHall 4 (some .int) :: wsX6_nearHall.tail := rfl
set_option maxRecDepth 100000 in
theorem uX6_nearHall_X6 : ∀ w ∈ u_ws RX6 TX6 5, w ∈ wsX6_nearHall := by decide +kernel
set_option maxRecDepth 100000 in
theorem lX6_nearHall_25 : Cond.fieldLink RX6 25 (TX6 0).1 (TX6 0).2.1 (TX6 0).2.2.1 ∈ wsX6_nearHall := by decide +kernel
set_option maxRecDepth 100000 in
theorem fX6_nearHall_25 : hd_F wsX6_nearHall RX6 vwCl 6 0 25 := ⟨RX6, TX6, 5, rfl, by decide, uX6_nearHall_X6, lX6_nearHall_25⟩
set_option maxRecDepth 100000 in
theorem uX6_nearHall_X5 : ∀ w ∈ u_ws RX5 TX5 10, w ∈ wsX6_nearHall := by decide +kernel
set_option maxRecDepth 100000 in
theorem lX6_nearHall_36 : Cond.fieldLink RX6 36 (TX5 1).1 (TX5 1).2.1 (TX5 1).2.2.1 ∈ wsX6_nearHall := by decide +kernel
set_option maxRecDepth 100000 in
theorem fX6_nearHall_36 : hd_F wsX6_nearHall RX6 vwCl 5 1 36 := ⟨RX5, TX5, 10, rfl, by decide, uX6_nearHall_X5, lX6_nearHall_36⟩
set_option maxRecDepth 100000 in
theorem yX6_nearHall_X5_isIn : yX5_isIn.cls ≠ "java/lang/invoke/MethodHandle" ∧ yX5_isIn.cls ≠ "java/lang/invoke/VarHandle" ∧ (parseMethodDescriptor yX5_isIn.desc).map (fun d => d.parameters.length) = some 2 := by decide +kernel
set_option maxRecDepth 100000 in
theorem yX6_nearHall_X5_wayOf : yX5_wayOf.cls = RX5 ∧ yX5_wayOf.cls ≠ "java/lang/invoke/MethodHandle" ∧ yX5_wayOf.cls ≠ "java/lang/invoke/VarHandle" ∧ (parseMethodDescriptor yX5_wayOf.desc).map (fun d => d.parameters.length) = some 2 := by decide +kernel
set_option maxRecDepth 100000 in
theorem yX6_nearHall_X6_nearWay : yX6_nearWay.cls = RX6 ∧ yX6_nearWay.cls ≠ "java/lang/invoke/MethodHandle" ∧ yX6_nearWay.cls ≠ "java/lang/invoke/VarHandle" ∧ (parseMethodDescriptor yX6_nearWay.desc).map (fun d => d.parameters.length) = some 2 := by decide +kernel
def wc_X6_nearHall_2 : hd_xC := (hd_cI (fun x y => decide (x < y)) (hd_iL 3) (hd_iG hs_sh 5 1 (hd_rG hs_sh 6 0 (hd_rL 0))))
def wb_X6_nearHall_2 : hd_xS := (hd_sQ (hd_sW (hd_cA (hd_c0 (fun x => !decide (x = 0)) (hd_iN (hd_nS 2 (hd_pI (hd_pI hd_v0 (hd_iL 3)) (hd_iL 1)) wm_X5_isIn))) (hd_cI (fun x y => decide (x = y)) (hd_iN (hd_nV hs_sh 5 (hd_rG hs_sh 6 0 (hd_rL 0)) 2 (hd_pI (hd_pI hd_v0 (hd_iL 3)) (hd_iL 2)) wm_X5_wayOf)) (hd_iN (hd_nV hs_sh 6 (hd_rL 0) 2 (hd_pI (hd_pI hd_v0 (hd_iL 1)) (hd_iL 2)) wm_X6_nearWay)))) (hd_sRI (hd_iL 3))) (hd_sP 3 (1)))
def wo_X6_nearHall : hd_xS := (hd_sQ (hd_sQ (hd_sI 3 (hd_iK (0))) (hd_sH (wc_X6_nearHall_2) (wb_X6_nearHall_2))) (hd_sRI (hd_iK (-1))))
def wm_X6_nearHall : hd_M := hd_mth 4 wo_X6_nearHall
set_option maxHeartbeats 4000000 in
set_option maxRecDepth 100000 in
theorem snd_X6_nearHall : hd_Snd vwCl hs_sh yX6_nearHall wsX6_nearHall 2 wm_X6_nearHall := hd_method (by decide) rfl rfl (by decide) (fun κ C Rk => (hd_seq (p1 := 47) (hd_seq (p1 := 2) (hd_sistore_n C (kk0 := 3) (p1 := 1) (hd_iconst C dX6_nearHall_0 (by decide)) dX6_nearHall_1 (by decide)) (hd_loop C (p1 := 13) (p2 := 47) (hd_c_ltF C (p1 := 3) (p2 := 10) (tgt := 47) (hd_iload_n C (kk0 := 3) dX6_nearHall_2) (hd_getI C (p1 := 7) fX6_nearHall_36 (hd_getR C (p1 := 4) fX6_nearHall_25 (hd_aload_n C (kk0 := 0) dX6_nearHall_3) dX6_nearHall_4) dX6_nearHall_7) dX6_nearHall_10 (by decide)) (hd_seq (p1 := 41) (hd_if (p1 := 39) (p2 := 41) (hd_and (p1 := 21) (p2 := 39) (p3 := 41) (hd_z_neF C (p2 := 18) (tgt := 41) (hd_inI (hd_invS C (p2 := 15) snd_X5_isIn hw_X5_isIn gX6_nearHall_X5_isIn yX6_nearHall_X5_isIn ⟨by decide, by decide⟩ (by decide) (hd_apI (p1 := 14) (p2 := 15) (hd_apI (p1 := 13) (p2 := 14) hd_av0 (hd_iload_n C (kk0 := 3) dX6_nearHall_13)) (hd_iload_n C (kk0 := 1) dX6_nearHall_14)) dX6_nearHall_15)) dX6_nearHall_18 (by decide)) (hd_c_eqF C (p1 := 30) (p2 := 36) (tgt := 41) (hd_inI (hd_invV C (p1 := 25) (p2 := 27) snd_X5_wayOf hw_X5_wayOf gX6_nearHall_X5_wayOf hs_c_5 yX6_nearHall_X5_wayOf ⟨by decide, by decide⟩ (by decide) (hd_getR C (p1 := 22) fX6_nearHall_25 (hd_aload_n C (kk0 := 0) dX6_nearHall_21) dX6_nearHall_22) (hd_apI (p1 := 26) (p2 := 27) (hd_apI (p1 := 25) (p2 := 26) hd_av0 (hd_iload_n C (kk0 := 3) dX6_nearHall_25)) (hd_iload_n C (kk0 := 2) dX6_nearHall_26)) dX6_nearHall_27)) (hd_inI (hd_invV C (p1 := 31) (p2 := 33) snd_X6_nearWay hw_X6_nearWay gX6_nearHall_X6_nearWay hs_c_6 yX6_nearHall_X6_nearWay ⟨by decide, by decide⟩ (by decide) (hd_aload_n C (kk0 := 0) dX6_nearHall_30) (hd_apI (p1 := 32) (p2 := 33) (hd_apI (p1 := 31) (p2 := 32) hd_av0 (hd_iload_n C (kk0 := 1) dX6_nearHall_31)) (hd_iload_n C (kk0 := 2) dX6_nearHall_32)) dX6_nearHall_33)) dX6_nearHall_36 (by decide))) (hd_retI C Rk (p1 := 40) (hd_iload_n C (kk0 := 3) dX6_nearHall_39) dX6_nearHall_40) (by decide)) (hd_sgoto C (p1 := 44) (tgt := 2) (hd_ends (es := [44]) (by decide) (hd_siinc C dX6_nearHall_41 (by decide) (by decide))) dX6_nearHall_44 (by decide) (by decide))) (by decide))) (hd_retI C Rk (p1 := 48) (hd_iconst C dX6_nearHall_47 (by decide)) dX6_nearHall_48)))
/-! X7_hallIn -/
theorem hw_X7_hallIn : wsX7_hallIn = Cond.code yX7_hallIn cX7_hallIn 3 (some .int) :: wsX7_hallIn.tail := rfl
set_option maxRecDepth 100000 in
theorem wX7_hallIn_0 : Cond.constantLong RX7 49 (1152921504606846976) ∈ wsX7_hallIn := by decide +kernel
set_option maxRecDepth 100000 in
theorem yX7_hallIn_X7_shiftOf : yX7_shiftOf.cls ≠ "java/lang/invoke/MethodHandle" ∧ yX7_shiftOf.cls ≠ "java/lang/invoke/VarHandle" ∧ (parseMethodDescriptor yX7_shiftOf.desc).map (fun d => d.parameters.length) = some 1 := by decide +kernel
set_option maxRecDepth 100000 in
theorem wX7_hallIn_2 : Cond.constantLong RX7 55 (7) ∈ wsX7_hallIn := by decide +kernel
def wo_X7_hallIn : hd_xS := (hd_sRI (hd_iQ (hd_cJ (fun x y => decide (x = y)) (hd_jL 0) (hd_jK (1152921504606846976))) (hd_iK (-1)) (hd_iJ (hd_jB (fun x y => x &&& y) (hd_jH (fun x y => x >>> (y.toInt64 &&& 63)) (hd_jL 0) (hd_iN (hd_nS 1 (hd_pI hd_v0 (hd_iL 2)) wm_X7_shiftOf))) (hd_jK (7))))))
def wm_X7_hallIn : hd_M := hd_mth 3 wo_X7_hallIn
set_option maxHeartbeats 4000000 in
set_option maxRecDepth 100000 in
theorem snd_X7_hallIn : hd_Snd vwCl hs_sh yX7_hallIn wsX7_hallIn 2 wm_X7_hallIn := hd_method (by decide) rfl rfl (by decide) (fun κ C Rk => (hd_retI C Rk (p1 := 23) (hd_tnI C (p1 := 8) (p2 := 9) (p3 := 12) (p4 := 23) (hd_l_eqF C (p1 := 1) (p2 := 4) (tgt := 12) (hd_lload_n C (kk0 := 0) dX7_hallIn_0) (hd_ldc2 C wX7_hallIn_0 dX7_hallIn_1) dX7_hallIn_4 dX7_hallIn_5 (by decide)) (hd_iconst C dX7_hallIn_8 (by decide)) dX7_hallIn_9 (by decide) (hd_l2i C (p1 := 22) (hd_land C (p1 := 18) (p2 := 21) (hd_lshr C (p1 := 13) (p2 := 17) (hd_lload_n C (kk0 := 0) dX7_hallIn_12) (hd_inI (hd_invS C (p2 := 14) snd_X7_shiftOf hw_X7_shiftOf gX7_hallIn_X7_shiftOf yX7_hallIn_X7_shiftOf ⟨by decide, by decide⟩ (by decide) (hd_apI (p1 := 13) (p2 := 14) hd_av0 (hd_iload_n C (kk0 := 2) dX7_hallIn_13)) dX7_hallIn_14)) dX7_hallIn_17) (hd_ldc2 C wX7_hallIn_2 dX7_hallIn_18) dX7_hallIn_21) dX7_hallIn_22)) dX7_hallIn_23))
