/-! J6_bitCount_0f7a4 -/
theorem hw_J6_bitCount_0f7a4 : wsJ6_bitCount_0f7a4 = Cond.code yJ6_bitCount_0f7a4 cJ6_bitCount_0f7a4 1 (some .int) :: wsJ6_bitCount_0f7a4.tail := rfl
set_option maxRecDepth 100000 in
theorem wJ6_bitCount_0f7a4_0 : Cond.constant RJ6 265 (1431655765) ∈ wsJ6_bitCount_0f7a4 := by decide +kernel
set_option maxRecDepth 100000 in
theorem wJ6_bitCount_0f7a4_1 : Cond.constant RJ6 266 (858993459) ∈ wsJ6_bitCount_0f7a4 := by decide +kernel
set_option maxRecDepth 100000 in
theorem wJ6_bitCount_0f7a4_2 : Cond.constant RJ6 267 (252645135) ∈ wsJ6_bitCount_0f7a4 := by decide +kernel
def wo_J6_bitCount_0f7a4 : hd_xS := (hd_sQ (hd_sI 0 (hd_iB (fun x y => x - y) (hd_iL 0) (hd_iB (fun x y => x &&& y) (hd_iB (fun x y => (x.toUInt32 >>> (y.toUInt32 &&& Int32.toUInt32 31)).toInt32) (hd_iL 0) (hd_iK (1))) (hd_iK (1431655765))))) (hd_sQ (hd_sI 0 (hd_iB (fun x y => x + y) (hd_iB (fun x y => x &&& y) (hd_iL 0) (hd_iK (858993459))) (hd_iB (fun x y => x &&& y) (hd_iB (fun x y => (x.toUInt32 >>> (y.toUInt32 &&& Int32.toUInt32 31)).toInt32) (hd_iL 0) (hd_iK (2))) (hd_iK (858993459))))) (hd_sQ (hd_sI 0 (hd_iB (fun x y => x &&& y) (hd_iB (fun x y => x + y) (hd_iL 0) (hd_iB (fun x y => (x.toUInt32 >>> (y.toUInt32 &&& Int32.toUInt32 31)).toInt32) (hd_iL 0) (hd_iK (4)))) (hd_iK (252645135)))) (hd_sQ (hd_sI 0 (hd_iB (fun x y => x + y) (hd_iL 0) (hd_iB (fun x y => (x.toUInt32 >>> (y.toUInt32 &&& Int32.toUInt32 31)).toInt32) (hd_iL 0) (hd_iK (8))))) (hd_sQ (hd_sI 0 (hd_iB (fun x y => x + y) (hd_iL 0) (hd_iB (fun x y => (x.toUInt32 >>> (y.toUInt32 &&& Int32.toUInt32 31)).toInt32) (hd_iL 0) (hd_iK (16))))) (hd_sRI (hd_iB (fun x y => x &&& y) (hd_iL 0) (hd_iK (63)))))))))
def wm_J6_bitCount_0f7a4 : hd_M := hd_mth 1 wo_J6_bitCount_0f7a4
set_option maxHeartbeats 4000000 in
set_option maxRecDepth 100000 in
theorem snd_J6_bitCount_0f7a4 : hd_Snd vwCl hs_sh yJ6_bitCount_0f7a4 wsJ6_bitCount_0f7a4 1 wm_J6_bitCount_0f7a4 := hd_method (by decide) rfl rfl (by decide) (fun κ C Rk => (hd_seq (p1 := 10) (hd_sistore_n C (kk0 := 0) (p1 := 9) (hd_isub C (p1 := 1) (p2 := 8) (hd_iload_n C (kk0 := 0) dJ6_bitCount_0f7a4_0) (hd_iand C (p1 := 4) (p2 := 7) (hd_iushr C (p1 := 2) (p2 := 3) (hd_iload_n C (kk0 := 0) dJ6_bitCount_0f7a4_1) (hd_iconst C dJ6_bitCount_0f7a4_2 (by decide)) dJ6_bitCount_0f7a4_3) (hd_ldcw C wJ6_bitCount_0f7a4_0 dJ6_bitCount_0f7a4_4) dJ6_bitCount_0f7a4_7) dJ6_bitCount_0f7a4_8) dJ6_bitCount_0f7a4_9 (by decide)) (hd_seq (p1 := 24) (hd_sistore_n C (kk0 := 0) (p1 := 23) (hd_iadd C (p1 := 15) (p2 := 22) (hd_iand C (p1 := 11) (p2 := 14) (hd_iload_n C (kk0 := 0) dJ6_bitCount_0f7a4_10) (hd_ldcw C wJ6_bitCount_0f7a4_1 dJ6_bitCount_0f7a4_11) dJ6_bitCount_0f7a4_14) (hd_iand C (p1 := 18) (p2 := 21) (hd_iushr C (p1 := 16) (p2 := 17) (hd_iload_n C (kk0 := 0) dJ6_bitCount_0f7a4_15) (hd_iconst C dJ6_bitCount_0f7a4_16 (by decide)) dJ6_bitCount_0f7a4_17) (hd_ldcw C wJ6_bitCount_0f7a4_1 dJ6_bitCount_0f7a4_18) dJ6_bitCount_0f7a4_21) dJ6_bitCount_0f7a4_22) dJ6_bitCount_0f7a4_23 (by decide)) (hd_seq (p1 := 34) (hd_sistore_n C (kk0 := 0) (p1 := 33) (hd_iand C (p1 := 29) (p2 := 32) (hd_iadd C (p1 := 25) (p2 := 28) (hd_iload_n C (kk0 := 0) dJ6_bitCount_0f7a4_24) (hd_iushr C (p1 := 26) (p2 := 27) (hd_iload_n C (kk0 := 0) dJ6_bitCount_0f7a4_25) (hd_iconst C dJ6_bitCount_0f7a4_26 (by decide)) dJ6_bitCount_0f7a4_27) dJ6_bitCount_0f7a4_28) (hd_ldcw C wJ6_bitCount_0f7a4_2 dJ6_bitCount_0f7a4_29) dJ6_bitCount_0f7a4_32) dJ6_bitCount_0f7a4_33 (by decide)) (hd_seq (p1 := 41) (hd_sistore_n C (kk0 := 0) (p1 := 40) (hd_iadd C (p1 := 35) (p2 := 39) (hd_iload_n C (kk0 := 0) dJ6_bitCount_0f7a4_34) (hd_iushr C (p1 := 36) (p2 := 38) (hd_iload_n C (kk0 := 0) dJ6_bitCount_0f7a4_35) (hd_bipush C dJ6_bitCount_0f7a4_36 (by decide)) dJ6_bitCount_0f7a4_38) dJ6_bitCount_0f7a4_39) dJ6_bitCount_0f7a4_40 (by decide)) (hd_seq (p1 := 48) (hd_sistore_n C (kk0 := 0) (p1 := 47) (hd_iadd C (p1 := 42) (p2 := 46) (hd_iload_n C (kk0 := 0) dJ6_bitCount_0f7a4_41) (hd_iushr C (p1 := 43) (p2 := 45) (hd_iload_n C (kk0 := 0) dJ6_bitCount_0f7a4_42) (hd_bipush C dJ6_bitCount_0f7a4_43 (by decide)) dJ6_bitCount_0f7a4_45) dJ6_bitCount_0f7a4_46) dJ6_bitCount_0f7a4_47 (by decide)) (hd_retI C Rk (p1 := 52) (hd_iand C (p1 := 49) (p2 := 51) (hd_iload_n C (kk0 := 0) dJ6_bitCount_0f7a4_48) (hd_bipush C dJ6_bitCount_0f7a4_49 (by decide)) dJ6_bitCount_0f7a4_51) dJ6_bitCount_0f7a4_52)))))))
/-! J7_fill_53178 -/
theorem hw_J7_fill_53178 : wsJ7_fill_53178 = Cond.code yJ7_fill_53178 cJ7_fill_53178 4 none :: wsJ7_fill_53178.tail := rfl
def wc_J7_fill_53178_5 : hd_xC := (hd_cI (fun x y => decide (x < y)) (hd_iL 2) (hd_iL 3))
def wb_J7_fill_53178_5 : hd_xS := (hd_sQ (hd_sA hs_sh (hd_rL 0) (hd_iL 2) (hd_iL 1)) (hd_sP 2 (1)))
def wo_J7_fill_53178 : hd_xS := (hd_sQ (hd_sI 2 (hd_iK (0))) (hd_sQ (hd_sI 3 (hd_iE hs_sh 0 (hd_rL 0))) (hd_sQ (hd_sH (wc_J7_fill_53178_5) (wb_J7_fill_53178_5)) hd_sRV)))
def wm_J7_fill_53178 : hd_M := hd_mth 4 wo_J7_fill_53178
set_option maxHeartbeats 4000000 in
set_option maxRecDepth 100000 in
theorem snd_J7_fill_53178 : hd_Snd vwCl hs_sh yJ7_fill_53178 wsJ7_fill_53178 1 wm_J7_fill_53178 := hd_method (by decide) rfl rfl (by decide) (fun κ C Rk => (hd_seq (p1 := 2) (hd_sistore_n C (kk0 := 2) (p1 := 1) (hd_iconst C dJ7_fill_53178_0 (by decide)) dJ7_fill_53178_1 (by decide)) (hd_seq (p1 := 5) (hd_sistore_n C (kk0 := 3) (p1 := 4) (hd_alen C (p1 := 3) (t := 0) rfl (hd_aload_n C (kk0 := 0) dJ7_fill_53178_2) dJ7_fill_53178_3) dJ7_fill_53178_4 (by decide)) (hd_seq (p1 := 20) (hd_loop C (p1 := 10) (p2 := 20) (hd_c_ltF C (p1 := 6) (p2 := 7) (tgt := 20) (hd_iload_n C (kk0 := 2) dJ7_fill_53178_5) (hd_iload_n C (kk0 := 3) dJ7_fill_53178_6) dJ7_fill_53178_7 (by decide)) (hd_seq (p1 := 14) (hd_siast C (p1 := 11) (p2 := 12) (p3 := 13) (hd_aload_n C (kk0 := 0) dJ7_fill_53178_10) (hd_iload_n C (kk0 := 2) dJ7_fill_53178_11) (hd_iload_n C (kk0 := 1) dJ7_fill_53178_12) dJ7_fill_53178_13) (hd_sgoto C (p1 := 17) (tgt := 5) (hd_ends (es := [17]) (by decide) (hd_siinc C dJ7_fill_53178_14 (by decide) (by decide))) dJ7_fill_53178_17 (by decide) (by decide))) (by decide)) (hd_retV C Rk dJ7_fill_53178_20)))))
/-! J7_fill_d0a16 -/
theorem hw_J7_fill_d0a16 : wsJ7_fill_d0a16 = Cond.code yJ7_fill_d0a16 cJ7_fill_d0a16 5 none :: wsJ7_fill_d0a16.tail := rfl
def wc_J7_fill_d0a16_6 : hd_xC := (hd_cI (fun x y => decide (x < y)) (hd_iL 3) (hd_iL 4))
def wb_J7_fill_d0a16_6 : hd_xS := (hd_sQ (hd_sL hs_sh (hd_rL 0) (hd_iL 3) (hd_jL 1)) (hd_sP 3 (1)))
def wo_J7_fill_d0a16 : hd_xS := (hd_sQ (hd_sI 3 (hd_iK (0))) (hd_sQ (hd_sI 4 (hd_iE hs_sh 1 (hd_rL 0))) (hd_sQ (hd_sH (wc_J7_fill_d0a16_6) (wb_J7_fill_d0a16_6)) hd_sRV)))
def wm_J7_fill_d0a16 : hd_M := hd_mth 5 wo_J7_fill_d0a16
set_option maxHeartbeats 4000000 in
set_option maxRecDepth 100000 in
theorem snd_J7_fill_d0a16 : hd_Snd vwCl hs_sh yJ7_fill_d0a16 wsJ7_fill_d0a16 1 wm_J7_fill_d0a16 := hd_method (by decide) rfl rfl (by decide) (fun κ C Rk => (hd_seq (p1 := 2) (hd_sistore_n C (kk0 := 3) (p1 := 1) (hd_iconst C dJ7_fill_d0a16_0 (by decide)) dJ7_fill_d0a16_1 (by decide)) (hd_seq (p1 := 6) (hd_sistore C (p1 := 4) (hd_alen C (p1 := 3) (t := 1) rfl (hd_aload_n C (kk0 := 0) dJ7_fill_d0a16_2) dJ7_fill_d0a16_3) dJ7_fill_d0a16_4 (by decide)) (hd_seq (p1 := 22) (hd_loop C (p1 := 12) (p2 := 22) (hd_c_ltF C (p1 := 7) (p2 := 9) (tgt := 22) (hd_iload_n C (kk0 := 3) dJ7_fill_d0a16_6) (hd_iload C dJ7_fill_d0a16_7) dJ7_fill_d0a16_9 (by decide)) (hd_seq (p1 := 16) (hd_slast C (p1 := 13) (p2 := 14) (p3 := 15) (hd_aload_n C (kk0 := 0) dJ7_fill_d0a16_12) (hd_iload_n C (kk0 := 3) dJ7_fill_d0a16_13) (hd_lload_n C (kk0 := 1) dJ7_fill_d0a16_14) dJ7_fill_d0a16_15) (hd_sgoto C (p1 := 19) (tgt := 6) (hd_ends (es := [19]) (by decide) (hd_siinc C dJ7_fill_d0a16_16 (by decide) (by decide))) dJ7_fill_d0a16_19 (by decide) (by decide))) (by decide)) (hd_retV C Rk dJ7_fill_d0a16_22)))))
/-! X0_dropLost -/
theorem hw_X0_dropLost : wsX0_dropLost = Cond.code yX0_dropLost cX0_dropLost 2 none :: wsX0_dropLost.tail := rfl
set_option maxRecDepth 100000 in
theorem uX0_dropLost_X0 : ∀ w ∈ u_ws RX0 TX0 3, w ∈ wsX0_dropLost := by decide +kernel
set_option maxRecDepth 100000 in
theorem lX0_dropLost_18 : Cond.fieldLink RX0 18 (TX0 0).1 (TX0 0).2.1 (TX0 0).2.2.1 ∈ wsX0_dropLost := by decide +kernel
set_option maxRecDepth 100000 in
theorem fX0_dropLost_18 : hd_F wsX0_dropLost RX0 vwCl 0 0 18 := ⟨RX0, TX0, 3, rfl, by decide, uX0_dropLost_X0, lX0_dropLost_18⟩
set_option maxRecDepth 100000 in
theorem uX0_dropLost_X5 : ∀ w ∈ u_ws RX5 TX5 10, w ∈ wsX0_dropLost := by decide +kernel
set_option maxRecDepth 100000 in
theorem lX0_dropLost_22 : Cond.fieldLink RX0 22 (TX5 0).1 (TX5 0).2.1 (TX5 0).2.2.1 ∈ wsX0_dropLost := by decide +kernel
set_option maxRecDepth 100000 in
theorem fX0_dropLost_22 : hd_F wsX0_dropLost RX0 vwCl 5 0 22 := ⟨RX5, TX5, 10, rfl, by decide, uX0_dropLost_X5, lX0_dropLost_22⟩
set_option maxRecDepth 100000 in
theorem lX0_dropLost_9 : Cond.fieldLink RX0 9 (TX0 1).1 (TX0 1).2.1 (TX0 1).2.2.1 ∈ wsX0_dropLost := by decide +kernel
set_option maxRecDepth 100000 in
theorem fX0_dropLost_9 : hd_F wsX0_dropLost RX0 vwCl 0 1 9 := ⟨RX0, TX0, 3, rfl, by decide, uX0_dropLost_X0, lX0_dropLost_9⟩
def wc_X0_dropLost_8 : hd_xC := (hd_cI (fun x y => decide (x < y)) (hd_iL 1) (hd_iK (8)))
def wb_X0_dropLost_8 : hd_xS := (hd_sQ (hd_sA hs_sh (hd_rG hs_sh 0 1 (hd_rL 0)) (hd_iL 1) (hd_iK (0))) (hd_sP 1 (1)))
def wo_X0_dropLost : hd_xS := (hd_sQ (hd_sQ (hd_sI 1 (hd_iG hs_sh 5 0 (hd_rG hs_sh 0 0 (hd_rL 0)))) (hd_sH (wc_X0_dropLost_8) (wb_X0_dropLost_8))) hd_sRV)
def wm_X0_dropLost : hd_M := hd_mth 2 wo_X0_dropLost
set_option maxHeartbeats 4000000 in
set_option maxRecDepth 100000 in
theorem snd_X0_dropLost : hd_Snd vwCl hs_sh yX0_dropLost wsX0_dropLost 1 wm_X0_dropLost := hd_method (by decide) rfl rfl (by decide) (fun κ C Rk => (hd_seq (p1 := 27) (hd_seq (p1 := 8) (hd_sistore_n C (kk0 := 1) (p1 := 7) (hd_getI C (p1 := 4) fX0_dropLost_22 (hd_getR C (p1 := 1) fX0_dropLost_18 (hd_aload_n C (kk0 := 0) dX0_dropLost_0) dX0_dropLost_1) dX0_dropLost_4) dX0_dropLost_7 (by decide)) (hd_loop C (p1 := 14) (p2 := 27) (hd_c_ltF C (p1 := 9) (p2 := 11) (tgt := 27) (hd_iload_n C (kk0 := 1) dX0_dropLost_8) (hd_bipush C dX0_dropLost_9 (by decide)) dX0_dropLost_11 (by decide)) (hd_seq (p1 := 21) (hd_siast C (p1 := 18) (p2 := 19) (p3 := 20) (hd_getR C (p1 := 15) fX0_dropLost_9 (hd_aload_n C (kk0 := 0) dX0_dropLost_14) dX0_dropLost_15) (hd_iload_n C (kk0 := 1) dX0_dropLost_18) (hd_iconst C dX0_dropLost_19 (by decide)) dX0_dropLost_20) (hd_sgoto C (p1 := 24) (tgt := 8) (hd_ends (es := [24]) (by decide) (hd_siinc C dX0_dropLost_21 (by decide) (by decide))) dX0_dropLost_24 (by decide) (by decide))) (by decide))) (hd_retV C Rk dX0_dropLost_27)))
/-! X1_isBest -/
theorem hw_X1_isBest : wsX1_isBest = Cond.code yX1_isBest cX1_isBest 2 (some .boolean) :: wsX1_isBest.tail := rfl
set_option maxRecDepth 100000 in
theorem uX1_isBest_X1 : ∀ w ∈ u_ws RX1 TX1 5, w ∈ wsX1_isBest := by decide +kernel
set_option maxRecDepth 100000 in
theorem lX1_isBest_119 : Cond.fieldLink RX1 119 (TX1 4).1 (TX1 4).2.1 (TX1 4).2.2.1 ∈ wsX1_isBest := by decide +kernel
set_option maxRecDepth 100000 in
theorem fX1_isBest_119 : hd_F wsX1_isBest RX1 vwCl 1 4 119 := ⟨RX1, TX1, 5, rfl, by decide, uX1_isBest_X1, lX1_isBest_119⟩
set_option maxRecDepth 100000 in
theorem lX1_isBest_9 : Cond.fieldLink RX1 9 (TX1 3).1 (TX1 3).2.1 (TX1 3).2.2.1 ∈ wsX1_isBest := by decide +kernel
set_option maxRecDepth 100000 in
theorem fX1_isBest_9 : hd_F wsX1_isBest RX1 vwCl 1 3 9 := ⟨RX1, TX1, 5, rfl, by decide, uX1_isBest_X1, lX1_isBest_9⟩
def wo_X1_isBest : hd_xS := (hd_sRZ (hd_iC (hd_cA (hd_cI (fun x y => !decide (x = y)) (hd_iG hs_sh 1 4 (hd_rL 0)) (hd_iK (-1))) (hd_cI (fun x y => decide (x = y)) (hd_iA hs_sh (hd_rG hs_sh 1 3 (hd_rL 0)) (hd_iL 1)) (hd_iG hs_sh 1 4 (hd_rL 0))))))
def wm_X1_isBest : hd_M := hd_mth 2 wo_X1_isBest
set_option maxHeartbeats 4000000 in
set_option maxRecDepth 100000 in
theorem snd_X1_isBest : hd_Snd vwCl hs_sh yX1_isBest wsX1_isBest 1 wm_X1_isBest := hd_method (by decide) rfl rfl (by decide) (fun κ C Rk => (hd_retZ C Rk (p1 := 26) (hd_boC C (p1 := 21) (p3 := 25) (p4 := 26) (hd_and (p1 := 8) (p2 := 21) (p3 := 25) (hd_c_neF C (p1 := 4) (p2 := 5) (tgt := 25) (hd_getI C (p1 := 1) fX1_isBest_119 (hd_aload_n C (kk0 := 0) dX1_isBest_0) dX1_isBest_1) (hd_iconst C dX1_isBest_4 (by decide)) dX1_isBest_5 (by decide)) (hd_c_eqF C (p1 := 14) (p2 := 18) (tgt := 25) (hd_iald C (p1 := 12) (p2 := 13) (hd_getR C (p1 := 9) fX1_isBest_9 (hd_aload_n C (kk0 := 0) dX1_isBest_8) dX1_isBest_9) (hd_iload_n C (kk0 := 1) dX1_isBest_12) dX1_isBest_13) (hd_getI C (p1 := 15) fX1_isBest_119 (hd_aload_n C (kk0 := 0) dX1_isBest_14) dX1_isBest_15) dX1_isBest_18 (by decide))) dX1_isBest_21 dX1_isBest_22 (by decide) dX1_isBest_25 rfl) dX1_isBest_26))
/-! X1_isLess -/
theorem hw_X1_isLess : wsX1_isLess = Cond.code yX1_isLess cX1_isLess 2 (some .boolean) :: wsX1_isLess.tail := rfl
def wo_X1_isLess : hd_xS := (hd_sRZ (hd_iC (hd_cA (hd_cI (fun x y => !decide (x = y)) (hd_iL 0) (hd_iK (-1))) (hd_cO (hd_cI (fun x y => decide (x = y)) (hd_iL 1) (hd_iK (-1))) (hd_cI (fun x y => decide (x < y)) (hd_iL 0) (hd_iL 1))))))
def wm_X1_isLess : hd_M := hd_mth 2 wo_X1_isLess
set_option maxHeartbeats 4000000 in
set_option maxRecDepth 100000 in
theorem snd_X1_isLess : hd_Snd vwCl hs_sh yX1_isLess wsX1_isLess 1 wm_X1_isLess := hd_method (by decide) rfl rfl (by decide) (fun κ C Rk => (hd_retZ C Rk (p1 := 20) (hd_boC C (p1 := 15) (p3 := 19) (p4 := 20) (hd_and (p1 := 5) (p2 := 15) (p3 := 19) (hd_c_neF C (p1 := 1) (p2 := 2) (tgt := 19) (hd_iload_n C (kk0 := 0) dX1_isLess_0) (hd_iconst C dX1_isLess_1 (by decide)) dX1_isLess_2 (by decide)) (hd_or (p1 := 10) (p2 := 15) (p3 := 19) (hd_c_eqT C (p1 := 6) (p2 := 7) (tgt := 15) (hd_iload_n C (kk0 := 1) dX1_isLess_5) (hd_iconst C dX1_isLess_6 (by decide)) dX1_isLess_7 (by decide)) (hd_c_ltF C (p1 := 11) (p2 := 12) (tgt := 19) (hd_iload_n C (kk0 := 0) dX1_isLess_10) (hd_iload_n C (kk0 := 1) dX1_isLess_11) dX1_isLess_12 (by decide)))) dX1_isLess_15 dX1_isLess_16 (by decide) dX1_isLess_19 rfl) dX1_isLess_20))
/-! X1_withPrices -/
theorem hw_X1_withPrices : wsX1_withPrices = Cond.code yX1_withPrices cX1_withPrices 3 (some .int) :: wsX1_withPrices.tail := rfl
set_option maxRecDepth 100000 in
theorem uX1_withPrices_X1 : ∀ w ∈ u_ws RX1 TX1 5, w ∈ wsX1_withPrices := by decide +kernel
set_option maxRecDepth 100000 in
theorem lX1_withPrices_19 : Cond.fieldLink RX1 19 (TX1 1).1 (TX1 1).2.1 (TX1 1).2.2.1 ∈ wsX1_withPrices := by decide +kernel
set_option maxRecDepth 100000 in
theorem fX1_withPrices_19 : hd_F wsX1_withPrices RX1 vwCl 1 1 19 := ⟨RX1, TX1, 5, rfl, by decide, uX1_withPrices_X1, lX1_withPrices_19⟩
set_option maxRecDepth 100000 in
theorem uX1_withPrices_X6 : ∀ w ∈ u_ws RX6 TX6 5, w ∈ wsX1_withPrices := by decide +kernel
set_option maxRecDepth 100000 in
theorem lX1_withPrices_59 : Cond.fieldLink RX1 59 (TX6 3).1 (TX6 3).2.1 (TX6 3).2.2.1 ∈ wsX1_withPrices := by decide +kernel
set_option maxRecDepth 100000 in
theorem fX1_withPrices_59 : hd_F wsX1_withPrices RX1 vwCl 6 3 59 := ⟨RX6, TX6, 5, rfl, by decide, uX1_withPrices_X6, lX1_withPrices_59⟩
def wo_X1_withPrices : hd_xS := (hd_sRI (hd_iQ (hd_cI (fun x y => decide (x = y)) (hd_iL 1) (hd_iK (-1))) (hd_iK (-1)) (hd_iB (fun x y => x + y) (hd_iL 1) (hd_iA hs_sh (hd_rG hs_sh 6 3 (hd_rG hs_sh 1 1 (hd_rL 0))) (hd_iL 2)))))
def wm_X1_withPrices : hd_M := hd_mth 3 wo_X1_withPrices
set_option maxHeartbeats 4000000 in
set_option maxRecDepth 100000 in
theorem snd_X1_withPrices : hd_Snd vwCl hs_sh yX1_withPrices wsX1_withPrices 1 wm_X1_withPrices := hd_method (by decide) rfl rfl (by decide) (fun κ C Rk => (hd_retI C Rk (p1 := 20) (hd_tnI C (p1 := 5) (p2 := 6) (p3 := 9) (p4 := 20) (hd_c_eqF C (p1 := 1) (p2 := 2) (tgt := 9) (hd_iload_n C (kk0 := 1) dX1_withPrices_0) (hd_iconst C dX1_withPrices_1 (by decide)) dX1_withPrices_2 (by decide)) (hd_iconst C dX1_withPrices_5 (by decide)) dX1_withPrices_6 (by decide) (hd_iadd C (p1 := 10) (p2 := 19) (hd_iload_n C (kk0 := 1) dX1_withPrices_9) (hd_iald C (p1 := 17) (p2 := 18) (hd_getR C (p1 := 14) fX1_withPrices_59 (hd_getR C (p1 := 11) fX1_withPrices_19 (hd_aload_n C (kk0 := 0) dX1_withPrices_10) dX1_withPrices_11) dX1_withPrices_14) (hd_iload_n C (kk0 := 2) dX1_withPrices_17) dX1_withPrices_18) dX1_withPrices_19)) dX1_withPrices_20))
/-! X2_forget -/
theorem hw_X2_forget : wsX2_forget = Cond.code yX2_forget cX2_forget 1 none :: wsX2_forget.tail := rfl
set_option maxRecDepth 100000 in
theorem uX2_forget_X2 : ∀ w ∈ u_ws RX2 TX2 5, w ∈ wsX2_forget := by decide +kernel
set_option maxRecDepth 100000 in
theorem lX2_forget_18 : Cond.fieldLink RX2 18 (TX2 4).1 (TX2 4).2.1 (TX2 4).2.2.1 ∈ wsX2_forget := by decide +kernel
set_option maxRecDepth 100000 in
theorem qX2_forget_18 : hd_FP wsX2_forget RX2 vwCl 2 4 18 .boolean := ⟨RX2, TX2, 5, tyX2, rfl, by decide, uX2_forget_X2, lX2_forget_18, tyX2_ok, nmX2, rfl, rfl⟩
def wo_X2_forget : hd_xS := (hd_sQ (hd_sZ hs_sh 2 4 (hd_rL 0) (hd_iK (1))) hd_sRV)
def wm_X2_forget : hd_M := hd_mth 1 wo_X2_forget
set_option maxHeartbeats 4000000 in
set_option maxRecDepth 100000 in
theorem snd_X2_forget : hd_Snd vwCl hs_sh yX2_forget wsX2_forget 1 wm_X2_forget := hd_method (by decide) rfl rfl (by decide) (fun κ C Rk => (hd_seq (p1 := 5) (hd_sputZ C (p1 := 1) (p2 := 2) qX2_forget_18 (hd_aload_n C (kk0 := 0) dX2_forget_0) (hd_iconst C dX2_forget_1 (by decide)) dX2_forget_2) (hd_retV C Rk dX2_forget_5)))
/-! X3_insertSpot -/
theorem hw_X3_insertSpot : wsX3_insertSpot = Cond.code yX3_insertSpot cX3_insertSpot 4 none :: wsX3_insertSpot.tail := rfl
set_option maxRecDepth 100000 in
theorem uX3_insertSpot_X3 : ∀ w ∈ u_ws RX3 TX3 5, w ∈ wsX3_insertSpot := by decide +kernel
set_option maxRecDepth 100000 in
theorem lX3_insertSpot_22 : Cond.fieldLink RX3 22 (TX3 2).1 (TX3 2).2.1 (TX3 2).2.2.1 ∈ wsX3_insertSpot := by decide +kernel
set_option maxRecDepth 100000 in
theorem fX3_insertSpot_22 : hd_F wsX3_insertSpot RX3 vwCl 3 2 22 := ⟨RX3, TX3, 5, rfl, by decide, uX3_insertSpot_X3, lX3_insertSpot_22⟩
set_option maxRecDepth 100000 in
theorem lX3_insertSpot_9 : Cond.fieldLink RX3 9 (TX3 1).1 (TX3 1).2.1 (TX3 1).2.2.1 ∈ wsX3_insertSpot := by decide +kernel
set_option maxRecDepth 100000 in
theorem fX3_insertSpot_9 : hd_F wsX3_insertSpot RX3 vwCl 3 1 9 := ⟨RX3, TX3, 5, rfl, by decide, uX3_insertSpot_X3, lX3_insertSpot_9⟩
set_option maxRecDepth 100000 in
theorem qX3_insertSpot_22 : hd_FP wsX3_insertSpot RX3 vwCl 3 2 22 .int := ⟨RX3, TX3, 5, tyX3, rfl, by decide, uX3_insertSpot_X3, lX3_insertSpot_22, tyX3_ok, nmX3, rfl, rfl⟩
def wc_X3_insertSpot_2 : hd_xC := (hd_cA (hd_cI (fun x y => decide (x < y)) (hd_iL 2) (hd_iG hs_sh 3 2 (hd_rL 0))) (hd_cI (fun x y => decide (x < y)) (hd_iA hs_sh (hd_rG hs_sh 3 1 (hd_rL 0)) (hd_iL 2)) (hd_iL 1)))
def wb_X3_insertSpot_2 : hd_xS := (hd_sP 2 (1))
def wc_X3_insertSpot_50 : hd_xC := (hd_cI (fun x y => decide (y < x)) (hd_iL 3) (hd_iL 2))
def wb_X3_insertSpot_50 : hd_xS := (hd_sQ (hd_sA hs_sh (hd_rG hs_sh 3 1 (hd_rL 0)) (hd_iL 3) (hd_iA hs_sh (hd_rG hs_sh 3 1 (hd_rL 0)) (hd_iB (fun x y => x - y) (hd_iL 3) (hd_iK (1))))) (hd_sP 3 (-1)))
def wo_X3_insertSpot : hd_xS := (hd_sQ (hd_sI 2 (hd_iK (0))) (hd_sQ (hd_sH (wc_X3_insertSpot_2) (wb_X3_insertSpot_2)) (hd_sQ (hd_sW (hd_cA (hd_cI (fun x y => decide (x < y)) (hd_iL 2) (hd_iG hs_sh 3 2 (hd_rL 0))) (hd_cI (fun x y => decide (x = y)) (hd_iA hs_sh (hd_rG hs_sh 3 1 (hd_rL 0)) (hd_iL 2)) (hd_iL 1))) hd_sRV) (hd_sQ (hd_sQ (hd_sI 3 (hd_iG hs_sh 3 2 (hd_rL 0))) (hd_sH (wc_X3_insertSpot_50) (wb_X3_insertSpot_50))) (hd_sQ (hd_sA hs_sh (hd_rG hs_sh 3 1 (hd_rL 0)) (hd_iL 2) (hd_iL 1)) (hd_sQ (hd_sG (fun x y => x + y) hs_sh 3 2 (hd_rL 0) (hd_iK (1))) hd_sRV))))))
def wm_X3_insertSpot : hd_M := hd_mth 4 wo_X3_insertSpot
set_option maxHeartbeats 4000000 in
set_option maxRecDepth 100000 in
theorem snd_X3_insertSpot : hd_Snd vwCl hs_sh yX3_insertSpot wsX3_insertSpot 1 wm_X3_insertSpot := hd_method (by decide) rfl rfl (by decide) (fun κ C Rk => (hd_seq (p1 := 2) (hd_sistore_n C (kk0 := 2) (p1 := 1) (hd_iconst C dX3_insertSpot_0 (by decide)) dX3_insertSpot_1 (by decide)) (hd_seq (p1 := 26) (hd_loop C (p1 := 20) (p2 := 26) (hd_and (p1 := 10) (p2 := 20) (p3 := 26) (hd_c_ltF C (p1 := 3) (p2 := 7) (tgt := 26) (hd_iload_n C (kk0 := 2) dX3_insertSpot_2) (hd_getI C (p1 := 4) fX3_insertSpot_22 (hd_aload_n C (kk0 := 0) dX3_insertSpot_3) dX3_insertSpot_4) dX3_insertSpot_7 (by decide)) (hd_c_ltF C (p1 := 16) (p2 := 17) (tgt := 26) (hd_iald C (p1 := 14) (p2 := 15) (hd_getR C (p1 := 11) fX3_insertSpot_9 (hd_aload_n C (kk0 := 0) dX3_insertSpot_10) dX3_insertSpot_11) (hd_iload_n C (kk0 := 2) dX3_insertSpot_14) dX3_insertSpot_15) (hd_iload_n C (kk0 := 1) dX3_insertSpot_16) dX3_insertSpot_17 (by decide))) (hd_sgoto C (p1 := 23) (tgt := 2) (hd_ends (es := [23]) (by decide) (hd_siinc C dX3_insertSpot_20 (by decide) (by decide))) dX3_insertSpot_23 (by decide) (by decide)) (by decide)) (hd_seq (p1 := 45) (hd_if (p1 := 44) (p2 := 45) (hd_and (p1 := 34) (p2 := 44) (p3 := 45) (hd_c_ltF C (p1 := 27) (p2 := 31) (tgt := 45) (hd_iload_n C (kk0 := 2) dX3_insertSpot_26) (hd_getI C (p1 := 28) fX3_insertSpot_22 (hd_aload_n C (kk0 := 0) dX3_insertSpot_27) dX3_insertSpot_28) dX3_insertSpot_31 (by decide)) (hd_c_eqF C (p1 := 40) (p2 := 41) (tgt := 45) (hd_iald C (p1 := 38) (p2 := 39) (hd_getR C (p1 := 35) fX3_insertSpot_9 (hd_aload_n C (kk0 := 0) dX3_insertSpot_34) dX3_insertSpot_35) (hd_iload_n C (kk0 := 2) dX3_insertSpot_38) dX3_insertSpot_39) (hd_iload_n C (kk0 := 1) dX3_insertSpot_40) dX3_insertSpot_41 (by decide))) (hd_retV C Rk dX3_insertSpot_44) (by decide)) (hd_seq (p1 := 75) (hd_seq (p1 := 50) (hd_sistore_n C (kk0 := 3) (p1 := 49) (hd_getI C (p1 := 46) fX3_insertSpot_22 (hd_aload_n C (kk0 := 0) dX3_insertSpot_45) dX3_insertSpot_46) dX3_insertSpot_49 (by decide)) (hd_loop C (p1 := 55) (p2 := 75) (hd_c_gtF C (p1 := 51) (p2 := 52) (tgt := 75) (hd_iload_n C (kk0 := 3) dX3_insertSpot_50) (hd_iload_n C (kk0 := 2) dX3_insertSpot_51) dX3_insertSpot_52 (by decide)) (hd_seq (p1 := 69) (hd_siast C (p1 := 59) (p2 := 60) (p3 := 68) (hd_getR C (p1 := 56) fX3_insertSpot_9 (hd_aload_n C (kk0 := 0) dX3_insertSpot_55) dX3_insertSpot_56) (hd_iload_n C (kk0 := 3) dX3_insertSpot_59) (hd_iald C (p1 := 64) (p2 := 67) (hd_getR C (p1 := 61) fX3_insertSpot_9 (hd_aload_n C (kk0 := 0) dX3_insertSpot_60) dX3_insertSpot_61) (hd_isub C (p1 := 65) (p2 := 66) (hd_iload_n C (kk0 := 3) dX3_insertSpot_64) (hd_iconst C dX3_insertSpot_65 (by decide)) dX3_insertSpot_66) dX3_insertSpot_67) dX3_insertSpot_68) (hd_sgoto C (p1 := 72) (tgt := 50) (hd_ends (es := [72]) (by decide) (hd_siinc C dX3_insertSpot_69 (by decide) (by decide))) dX3_insertSpot_72 (by decide) (by decide))) (by decide))) (hd_seq (p1 := 82) (hd_siast C (p1 := 79) (p2 := 80) (p3 := 81) (hd_getR C (p1 := 76) fX3_insertSpot_9 (hd_aload_n C (kk0 := 0) dX3_insertSpot_75) dX3_insertSpot_76) (hd_iload_n C (kk0 := 2) dX3_insertSpot_79) (hd_iload_n C (kk0 := 1) dX3_insertSpot_80) dX3_insertSpot_81) (hd_seq (p1 := 92) (hd_sfld_iadd C (p1 := 83) (p2 := 88) fX3_insertSpot_22 qX3_insertSpot_22 (hd_aload_n C (kk0 := 0) dX3_insertSpot_82) dX3_insertSpot_83 dX3_insertSpot_84 (hd_iconst C dX3_insertSpot_87 (by decide)) dX3_insertSpot_88 dX3_insertSpot_89) (hd_retV C Rk dX3_insertSpot_92))))))))
/-! X4_dropOldest -/
theorem hw_X4_dropOldest : wsX4_dropOldest = Cond.code yX4_dropOldest cX4_dropOldest 3 none :: wsX4_dropOldest.tail := rfl
set_option maxRecDepth 100000 in
theorem uX4_dropOldest_X4 : ∀ w ∈ u_ws RX4 TX4 2, w ∈ wsX4_dropOldest := by decide +kernel
set_option maxRecDepth 100000 in
theorem lX4_dropOldest_11 : Cond.fieldLink RX4 11 (TX4 0).1 (TX4 0).2.1 (TX4 0).2.2.1 ∈ wsX4_dropOldest := by decide +kernel
set_option maxRecDepth 100000 in
theorem fX4_dropOldest_11 : hd_F wsX4_dropOldest RX4 vwCl 4 0 11 := ⟨RX4, TX4, 2, rfl, by decide, uX4_dropOldest_X4, lX4_dropOldest_11⟩
set_option maxRecDepth 100000 in
theorem lX4_dropOldest_18 : Cond.fieldLink RX4 18 (TX4 1).1 (TX4 1).2.1 (TX4 1).2.2.1 ∈ wsX4_dropOldest := by decide +kernel
set_option maxRecDepth 100000 in
theorem qX4_dropOldest_18 : hd_FP wsX4_dropOldest RX4 vwCl 4 1 18 .int := ⟨RX4, TX4, 2, tyX4, rfl, by decide, uX4_dropOldest_X4, lX4_dropOldest_18, tyX4_ok, nmX4, rfl, rfl⟩
def wc_X4_dropOldest_9 : hd_xC := (hd_cI (fun x y => decide (x < y)) (hd_iL 2) (hd_iK (8)))
def wb_X4_dropOldest_9 : hd_xS := (hd_sQ (hd_sB hs_sh 5 (hd_rG hs_sh 4 0 (hd_rL 0)) (hd_iB (fun x y => x - y) (hd_iL 2) (hd_iK (1))) (hd_rA hs_sh 2 (hd_rG hs_sh 4 0 (hd_rL 0)) (hd_iL 2))) (hd_sP 2 (1)))
def wo_X4_dropOldest : hd_xS := (hd_sQ (hd_sR 1 (hd_rA hs_sh 2 (hd_rG hs_sh 4 0 (hd_rL 0)) (hd_iK (0)))) (hd_sQ (hd_sQ (hd_sI 2 (hd_iK (1))) (hd_sH (wc_X4_dropOldest_9) (wb_X4_dropOldest_9))) (hd_sQ (hd_sB hs_sh 5 (hd_rG hs_sh 4 0 (hd_rL 0)) (hd_iK (7)) (hd_rL 1)) (hd_sQ (hd_sF hs_sh 4 1 (hd_rL 0) (hd_iK (7))) hd_sRV))))
def wm_X4_dropOldest : hd_M := hd_mth 3 wo_X4_dropOldest
set_option maxHeartbeats 4000000 in
set_option maxRecDepth 100000 in
theorem snd_X4_dropOldest : hd_Snd vwCl hs_sh yX4_dropOldest wsX4_dropOldest 1 wm_X4_dropOldest := hd_method (by decide) rfl rfl (by decide) (fun κ C Rk => (hd_seq (p1 := 7) (hd_sastore_n C (kk0 := 1) (p1 := 6) (hd_aald2 C (p1 := 4) (p2 := 5) (hd_getR C (p1 := 1) fX4_dropOldest_11 (hd_aload_n C (kk0 := 0) dX4_dropOldest_0) dX4_dropOldest_1) (hd_iconst C dX4_dropOldest_4 (by decide)) dX4_dropOldest_5) dX4_dropOldest_6 (by decide)) (hd_seq (p1 := 35) (hd_seq (p1 := 9) (hd_sistore_n C (kk0 := 2) (p1 := 8) (hd_iconst C dX4_dropOldest_7 (by decide)) dX4_dropOldest_8 (by decide)) (hd_loop C (p1 := 15) (p2 := 35) (hd_c_ltF C (p1 := 10) (p2 := 12) (tgt := 35) (hd_iload_n C (kk0 := 2) dX4_dropOldest_9) (hd_bipush C dX4_dropOldest_10 (by decide)) dX4_dropOldest_12 (by decide)) (hd_seq (p1 := 29) (hd_saast C (p1 := 19) (p2 := 22) (p3 := 28) hs_c_5 (hd_getR C (p1 := 16) fX4_dropOldest_11 (hd_aload_n C (kk0 := 0) dX4_dropOldest_15) dX4_dropOldest_16) (hd_isub C (p1 := 20) (p2 := 21) (hd_iload_n C (kk0 := 2) dX4_dropOldest_19) (hd_iconst C dX4_dropOldest_20 (by decide)) dX4_dropOldest_21) (hd_aald2 C (p1 := 26) (p2 := 27) (hd_getR C (p1 := 23) fX4_dropOldest_11 (hd_aload_n C (kk0 := 0) dX4_dropOldest_22) dX4_dropOldest_23) (hd_iload_n C (kk0 := 2) dX4_dropOldest_26) dX4_dropOldest_27) dX4_dropOldest_28) (hd_sgoto C (p1 := 32) (tgt := 9) (hd_ends (es := [32]) (by decide) (hd_siinc C dX4_dropOldest_29 (by decide) (by decide))) dX4_dropOldest_32 (by decide) (by decide))) (by decide))) (hd_seq (p1 := 43) (hd_saast C (p1 := 39) (p2 := 41) (p3 := 42) hs_c_5 (hd_getR C (p1 := 36) fX4_dropOldest_11 (hd_aload_n C (kk0 := 0) dX4_dropOldest_35) dX4_dropOldest_36) (hd_bipush C dX4_dropOldest_39 (by decide)) (hd_aload_n C (kk0 := 1) dX4_dropOldest_41) dX4_dropOldest_42) (hd_seq (p1 := 49) (hd_sputI C (p1 := 44) (p2 := 46) qX4_dropOldest_18 (hd_aload_n C (kk0 := 0) dX4_dropOldest_43) (hd_bipush C dX4_dropOldest_44 (by decide)) dX4_dropOldest_46) (hd_retV C Rk dX4_dropOldest_49))))))
/-! X5_addTown -/
theorem hw_X5_addTown : wsX5_addTown = Cond.code yX5_addTown cX5_addTown 2 (some .int) :: wsX5_addTown.tail := rfl
set_option maxRecDepth 100000 in
theorem uX5_addTown_X5 : ∀ w ∈ u_ws RX5 TX5 10, w ∈ wsX5_addTown := by decide +kernel
set_option maxRecDepth 100000 in
theorem lX5_addTown_36 : Cond.fieldLink RX5 36 (TX5 0).1 (TX5 0).2.1 (TX5 0).2.2.1 ∈ wsX5_addTown := by decide +kernel
set_option maxRecDepth 100000 in
theorem fX5_addTown_36 : hd_F wsX5_addTown RX5 vwCl 5 0 36 := ⟨RX5, TX5, 10, rfl, by decide, uX5_addTown_X5, lX5_addTown_36⟩
set_option maxRecDepth 100000 in
theorem qX5_addTown_36 : hd_FP wsX5_addTown RX5 vwCl 5 0 36 .int := ⟨RX5, TX5, 10, tyX5, rfl, by decide, uX5_addTown_X5, lX5_addTown_36, tyX5_ok, nmX5, rfl, rfl⟩
set_option maxRecDepth 100000 in
theorem lX5_addTown_9 : Cond.fieldLink RX5 9 (TX5 2).1 (TX5 2).2.1 (TX5 2).2.2.1 ∈ wsX5_addTown := by decide +kernel
set_option maxRecDepth 100000 in
theorem fX5_addTown_9 : hd_F wsX5_addTown RX5 vwCl 5 2 9 := ⟨RX5, TX5, 10, rfl, by decide, uX5_addTown_X5, lX5_addTown_9⟩
set_option maxRecDepth 100000 in
theorem lX5_addTown_15 : Cond.fieldLink RX5 15 (TX5 3).1 (TX5 3).2.1 (TX5 3).2.2.1 ∈ wsX5_addTown := by decide +kernel
set_option maxRecDepth 100000 in
theorem fX5_addTown_15 : hd_F wsX5_addTown RX5 vwCl 5 3 15 := ⟨RX5, TX5, 10, rfl, by decide, uX5_addTown_X5, lX5_addTown_15⟩
set_option maxRecDepth 100000 in
theorem lX5_addTown_18 : Cond.fieldLink RX5 18 (TX5 4).1 (TX5 4).2.1 (TX5 4).2.2.1 ∈ wsX5_addTown := by decide +kernel
set_option maxRecDepth 100000 in
theorem fX5_addTown_18 : hd_F wsX5_addTown RX5 vwCl 5 4 18 := ⟨RX5, TX5, 10, rfl, by decide, uX5_addTown_X5, lX5_addTown_18⟩
def wo_X5_addTown : hd_xS := (hd_sQ (hd_sI 1 (hd_iG hs_sh 5 0 (hd_rL 0))) (hd_sQ (hd_sG (fun x y => x + y) hs_sh 5 0 (hd_rL 0) (hd_iK (1))) (hd_sQ (hd_sA hs_sh (hd_rG hs_sh 5 2 (hd_rL 0)) (hd_iL 1) (hd_iK (1))) (hd_sQ (hd_sA hs_sh (hd_rG hs_sh 5 3 (hd_rL 0)) (hd_iL 1) (hd_iK (0))) (hd_sQ (hd_sA hs_sh (hd_rG hs_sh 5 4 (hd_rL 0)) (hd_iL 1) (hd_iK (0))) (hd_sRI (hd_iL 1)))))))
def wm_X5_addTown : hd_M := hd_mth 2 wo_X5_addTown
set_option maxHeartbeats 4000000 in
set_option maxRecDepth 100000 in
theorem snd_X5_addTown : hd_Snd vwCl hs_sh yX5_addTown wsX5_addTown 1 wm_X5_addTown := hd_method (by decide) rfl rfl (by decide) (fun κ C Rk => (hd_seq (p1 := 5) (hd_sistore_n C (kk0 := 1) (p1 := 4) (hd_getI C (p1 := 1) fX5_addTown_36 (hd_aload_n C (kk0 := 0) dX5_addTown_0) dX5_addTown_1) dX5_addTown_4 (by decide)) (hd_seq (p1 := 15) (hd_sfld_iadd C (p1 := 6) (p2 := 11) fX5_addTown_36 qX5_addTown_36 (hd_aload_n C (kk0 := 0) dX5_addTown_5) dX5_addTown_6 dX5_addTown_7 (hd_iconst C dX5_addTown_10 (by decide)) dX5_addTown_11 dX5_addTown_12) (hd_seq (p1 := 22) (hd_siast C (p1 := 19) (p2 := 20) (p3 := 21) (hd_getR C (p1 := 16) fX5_addTown_9 (hd_aload_n C (kk0 := 0) dX5_addTown_15) dX5_addTown_16) (hd_iload_n C (kk0 := 1) dX5_addTown_19) (hd_iconst C dX5_addTown_20 (by decide)) dX5_addTown_21) (hd_seq (p1 := 29) (hd_siast C (p1 := 26) (p2 := 27) (p3 := 28) (hd_getR C (p1 := 23) fX5_addTown_15 (hd_aload_n C (kk0 := 0) dX5_addTown_22) dX5_addTown_23) (hd_iload_n C (kk0 := 1) dX5_addTown_26) (hd_iconst C dX5_addTown_27 (by decide)) dX5_addTown_28) (hd_seq (p1 := 36) (hd_siast C (p1 := 33) (p2 := 34) (p3 := 35) (hd_getR C (p1 := 30) fX5_addTown_18 (hd_aload_n C (kk0 := 0) dX5_addTown_29) dX5_addTown_30) (hd_iload_n C (kk0 := 1) dX5_addTown_33) (hd_iconst C dX5_addTown_34 (by decide)) dX5_addTown_35) (hd_retI C Rk (p1 := 37) (hd_iload_n C (kk0 := 1) dX5_addTown_36) dX5_addTown_37)))))))
/-! X5_allPeople -/
theorem hw_X5_allPeople : wsX5_allPeople = Cond.code yX5_allPeople cX5_allPeople 3 (some .int) :: wsX5_allPeople.tail := rfl
set_option maxRecDepth 100000 in
theorem uX5_allPeople_X5 : ∀ w ∈ u_ws RX5 TX5 10, w ∈ wsX5_allPeople := by decide +kernel
set_option maxRecDepth 100000 in
theorem lX5_allPeople_36 : Cond.fieldLink RX5 36 (TX5 0).1 (TX5 0).2.1 (TX5 0).2.2.1 ∈ wsX5_allPeople := by decide +kernel
set_option maxRecDepth 100000 in
theorem fX5_allPeople_36 : hd_F wsX5_allPeople RX5 vwCl 5 0 36 := ⟨RX5, TX5, 10, rfl, by decide, uX5_allPeople_X5, lX5_allPeople_36⟩
set_option maxRecDepth 100000 in
theorem lX5_allPeople_9 : Cond.fieldLink RX5 9 (TX5 2).1 (TX5 2).2.1 (TX5 2).2.2.1 ∈ wsX5_allPeople := by decide +kernel
set_option maxRecDepth 100000 in
theorem fX5_allPeople_9 : hd_F wsX5_allPeople RX5 vwCl 5 2 9 := ⟨RX5, TX5, 10, rfl, by decide, uX5_allPeople_X5, lX5_allPeople_9⟩
def wc_X5_allPeople_4 : hd_xC := (hd_cI (fun x y => decide (x < y)) (hd_iL 2) (hd_iG hs_sh 5 0 (hd_rL 0)))
def wb_X5_allPeople_4 : hd_xS := (hd_sQ (hd_sI 1 (hd_iB (fun x y => x + y) (hd_iL 1) (hd_iA hs_sh (hd_rG hs_sh 5 2 (hd_rL 0)) (hd_iL 2)))) (hd_sP 2 (1)))
def wo_X5_allPeople : hd_xS := (hd_sQ (hd_sI 1 (hd_iK (0))) (hd_sQ (hd_sQ (hd_sI 2 (hd_iK (0))) (hd_sH (wc_X5_allPeople_4) (wb_X5_allPeople_4))) (hd_sRI (hd_iL 1))))
def wm_X5_allPeople : hd_M := hd_mth 3 wo_X5_allPeople
set_option maxHeartbeats 4000000 in
set_option maxRecDepth 100000 in
theorem snd_X5_allPeople : hd_Snd vwCl hs_sh yX5_allPeople wsX5_allPeople 1 wm_X5_allPeople := hd_method (by decide) rfl rfl (by decide) (fun κ C Rk => (hd_seq (p1 := 2) (hd_sistore_n C (kk0 := 1) (p1 := 1) (hd_iconst C dX5_allPeople_0 (by decide)) dX5_allPeople_1 (by decide)) (hd_seq (p1 := 27) (hd_seq (p1 := 4) (hd_sistore_n C (kk0 := 2) (p1 := 3) (hd_iconst C dX5_allPeople_2 (by decide)) dX5_allPeople_3 (by decide)) (hd_loop C (p1 := 12) (p2 := 27) (hd_c_ltF C (p1 := 5) (p2 := 9) (tgt := 27) (hd_iload_n C (kk0 := 2) dX5_allPeople_4) (hd_getI C (p1 := 6) fX5_allPeople_36 (hd_aload_n C (kk0 := 0) dX5_allPeople_5) dX5_allPeople_6) dX5_allPeople_9 (by decide)) (hd_seq (p1 := 21) (hd_sistore_n C (kk0 := 1) (p1 := 20) (hd_iadd C (p1 := 13) (p2 := 19) (hd_iload_n C (kk0 := 1) dX5_allPeople_12) (hd_iald C (p1 := 17) (p2 := 18) (hd_getR C (p1 := 14) fX5_allPeople_9 (hd_aload_n C (kk0 := 0) dX5_allPeople_13) dX5_allPeople_14) (hd_iload_n C (kk0 := 2) dX5_allPeople_17) dX5_allPeople_18) dX5_allPeople_19) dX5_allPeople_20 (by decide)) (hd_sgoto C (p1 := 24) (tgt := 4) (hd_ends (es := [24]) (by decide) (hd_siinc C dX5_allPeople_21 (by decide) (by decide))) dX5_allPeople_24 (by decide) (by decide))) (by decide))) (hd_retI C Rk (p1 := 28) (hd_iload_n C (kk0 := 1) dX5_allPeople_27) dX5_allPeople_28))))
/-! X5_everyHall -/
theorem hw_X5_everyHall : wsX5_everyHall = Cond.code yX5_everyHall cX5_everyHall 1 (some .int) :: wsX5_everyHall.tail := rfl
set_option maxRecDepth 100000 in
theorem uX5_everyHall_X5 : ∀ w ∈ u_ws RX5 TX5 10, w ∈ wsX5_everyHall := by decide +kernel
set_option maxRecDepth 100000 in
theorem lX5_everyHall_40 : Cond.fieldLink RX5 40 (TX5 1).1 (TX5 1).2.1 (TX5 1).2.2.1 ∈ wsX5_everyHall := by decide +kernel
set_option maxRecDepth 100000 in
theorem fX5_everyHall_40 : hd_F wsX5_everyHall RX5 vwCl 5 1 40 := ⟨RX5, TX5, 10, rfl, by decide, uX5_everyHall_X5, lX5_everyHall_40⟩
def wo_X5_everyHall : hd_xS := (hd_sRI (hd_iB (fun x y => x - y) (hd_iB (fun x y => x <<< (y &&& 31)) (hd_iK (1)) (hd_iG hs_sh 5 1 (hd_rL 0))) (hd_iK (1))))
def wm_X5_everyHall : hd_M := hd_mth 1 wo_X5_everyHall
set_option maxHeartbeats 4000000 in
set_option maxRecDepth 100000 in
theorem snd_X5_everyHall : hd_Snd vwCl hs_sh yX5_everyHall wsX5_everyHall 1 wm_X5_everyHall := hd_method (by decide) rfl rfl (by decide) (fun κ C Rk => (hd_retI C Rk (p1 := 8) (hd_isub C (p1 := 6) (p2 := 7) (hd_ishl C (p1 := 1) (p2 := 5) (hd_iconst C dX5_everyHall_0 (by decide)) (hd_getI C (p1 := 2) fX5_everyHall_40 (hd_aload_n C (kk0 := 0) dX5_everyHall_1) dX5_everyHall_2) dX5_everyHall_5) (hd_iconst C dX5_everyHall_6 (by decide)) dX5_everyHall_7) dX5_everyHall_8))
/-! X5_everyTown -/
theorem hw_X5_everyTown : wsX5_everyTown = Cond.code yX5_everyTown cX5_everyTown 1 (some .int) :: wsX5_everyTown.tail := rfl
set_option maxRecDepth 100000 in
theorem uX5_everyTown_X5 : ∀ w ∈ u_ws RX5 TX5 10, w ∈ wsX5_everyTown := by decide +kernel
set_option maxRecDepth 100000 in
theorem lX5_everyTown_36 : Cond.fieldLink RX5 36 (TX5 0).1 (TX5 0).2.1 (TX5 0).2.2.1 ∈ wsX5_everyTown := by decide +kernel
set_option maxRecDepth 100000 in
theorem fX5_everyTown_36 : hd_F wsX5_everyTown RX5 vwCl 5 0 36 := ⟨RX5, TX5, 10, rfl, by decide, uX5_everyTown_X5, lX5_everyTown_36⟩
def wo_X5_everyTown : hd_xS := (hd_sRI (hd_iB (fun x y => x - y) (hd_iB (fun x y => x <<< (y &&& 31)) (hd_iK (1)) (hd_iG hs_sh 5 0 (hd_rL 0))) (hd_iK (1))))
def wm_X5_everyTown : hd_M := hd_mth 1 wo_X5_everyTown
set_option maxHeartbeats 4000000 in
set_option maxRecDepth 100000 in
theorem snd_X5_everyTown : hd_Snd vwCl hs_sh yX5_everyTown wsX5_everyTown 1 wm_X5_everyTown := hd_method (by decide) rfl rfl (by decide) (fun κ C Rk => (hd_retI C Rk (p1 := 8) (hd_isub C (p1 := 6) (p2 := 7) (hd_ishl C (p1 := 1) (p2 := 5) (hd_iconst C dX5_everyTown_0 (by decide)) (hd_getI C (p1 := 2) fX5_everyTown_36 (hd_aload_n C (kk0 := 0) dX5_everyTown_1) dX5_everyTown_2) dX5_everyTown_5) (hd_iconst C dX5_everyTown_6 (by decide)) dX5_everyTown_7) dX5_everyTown_8))
/-! X5_hasHall -/
theorem hw_X5_hasHall : wsX5_hasHall = Cond.code yX5_hasHall cX5_hasHall 2 (some .boolean) :: wsX5_hasHall.tail := rfl
set_option maxRecDepth 100000 in
theorem uX5_hasHall_X5 : ∀ w ∈ u_ws RX5 TX5 10, w ∈ wsX5_hasHall := by decide +kernel
set_option maxRecDepth 100000 in
theorem lX5_hasHall_40 : Cond.fieldLink RX5 40 (TX5 1).1 (TX5 1).2.1 (TX5 1).2.2.1 ∈ wsX5_hasHall := by decide +kernel
set_option maxRecDepth 100000 in
theorem fX5_hasHall_40 : hd_F wsX5_hasHall RX5 vwCl 5 1 40 := ⟨RX5, TX5, 10, rfl, by decide, uX5_hasHall_X5, lX5_hasHall_40⟩
def wo_X5_hasHall : hd_xS := (hd_sRZ (hd_iC (hd_cA (hd_c0 (fun x => decide (0 ≤ x)) (hd_iL 1)) (hd_cI (fun x y => decide (x < y)) (hd_iL 1) (hd_iG hs_sh 5 1 (hd_rL 0))))))
def wm_X5_hasHall : hd_M := hd_mth 2 wo_X5_hasHall
set_option maxHeartbeats 4000000 in
set_option maxRecDepth 100000 in
theorem snd_X5_hasHall : hd_Snd vwCl hs_sh yX5_hasHall wsX5_hasHall 1 wm_X5_hasHall := hd_method (by decide) rfl rfl (by decide) (fun κ C Rk => (hd_retZ C Rk (p1 := 17) (hd_boC C (p1 := 12) (p3 := 16) (p4 := 17) (hd_and (p1 := 4) (p2 := 12) (p3 := 16) (hd_z_geF C (p2 := 1) (tgt := 16) (hd_iload_n C (kk0 := 1) dX5_hasHall_0) dX5_hasHall_1 (by decide)) (hd_c_ltF C (p1 := 5) (p2 := 9) (tgt := 16) (hd_iload_n C (kk0 := 1) dX5_hasHall_4) (hd_getI C (p1 := 6) fX5_hasHall_40 (hd_aload_n C (kk0 := 0) dX5_hasHall_5) dX5_hasHall_6) dX5_hasHall_9 (by decide))) dX5_hasHall_12 dX5_hasHall_13 (by decide) dX5_hasHall_16 rfl) dX5_hasHall_17))
/-! X5_hasPlaces -/
theorem hw_X5_hasPlaces : wsX5_hasPlaces = Cond.code yX5_hasPlaces cX5_hasPlaces 4 (some .boolean) :: wsX5_hasPlaces.tail := rfl
set_option maxRecDepth 100000 in
theorem uX5_hasPlaces_X5 : ∀ w ∈ u_ws RX5 TX5 10, w ∈ wsX5_hasPlaces := by decide +kernel
set_option maxRecDepth 100000 in
theorem lX5_hasPlaces_30 : Cond.fieldLink RX5 30 (TX5 8).1 (TX5 8).2.1 (TX5 8).2.2.1 ∈ wsX5_hasPlaces := by decide +kernel
set_option maxRecDepth 100000 in
theorem fX5_hasPlaces_30 : hd_F wsX5_hasPlaces RX5 vwCl 5 8 30 := ⟨RX5, TX5, 10, rfl, by decide, uX5_hasPlaces_X5, lX5_hasPlaces_30⟩
def wo_X5_hasPlaces : hd_xS := (hd_sRZ (hd_iC (hd_cA (hd_cA (hd_c0 (fun x => decide (0 ≤ x)) (hd_iL 2)) (hd_c0 (fun x => decide (0 ≤ x)) (hd_iL 3))) (hd_cI (fun x y => decide (x ≤ y)) (hd_iL 3) (hd_iB (fun x y => x - y) (hd_iA hs_sh (hd_rG hs_sh 5 8 (hd_rL 0)) (hd_iL 1)) (hd_iL 2))))))
def wm_X5_hasPlaces : hd_M := hd_mth 4 wo_X5_hasPlaces
set_option maxHeartbeats 4000000 in
set_option maxRecDepth 100000 in
theorem snd_X5_hasPlaces : hd_Snd vwCl hs_sh yX5_hasPlaces wsX5_hasPlaces 1 wm_X5_hasPlaces := hd_method (by decide) rfl rfl (by decide) (fun κ C Rk => (hd_retZ C Rk (p1 := 25) (hd_boC C (p1 := 20) (p3 := 24) (p4 := 25) (hd_and (p1 := 8) (p2 := 20) (p3 := 24) (hd_and (p1 := 4) (p2 := 8) (p3 := 24) (hd_z_geF C (p2 := 1) (tgt := 24) (hd_iload_n C (kk0 := 2) dX5_hasPlaces_0) dX5_hasPlaces_1 (by decide)) (hd_z_geF C (p2 := 5) (tgt := 24) (hd_iload_n C (kk0 := 3) dX5_hasPlaces_4) dX5_hasPlaces_5 (by decide))) (hd_c_leF C (p1 := 9) (p2 := 17) (tgt := 24) (hd_iload_n C (kk0 := 3) dX5_hasPlaces_8) (hd_isub C (p1 := 15) (p2 := 16) (hd_iald C (p1 := 13) (p2 := 14) (hd_getR C (p1 := 10) fX5_hasPlaces_30 (hd_aload_n C (kk0 := 0) dX5_hasPlaces_9) dX5_hasPlaces_10) (hd_iload_n C (kk0 := 1) dX5_hasPlaces_13) dX5_hasPlaces_14) (hd_iload_n C (kk0 := 2) dX5_hasPlaces_15) dX5_hasPlaces_16) dX5_hasPlaces_17 (by decide))) dX5_hasPlaces_20 dX5_hasPlaces_21 (by decide) dX5_hasPlaces_24 rfl) dX5_hasPlaces_25))
/-! X5_hasTown -/
theorem hw_X5_hasTown : wsX5_hasTown = Cond.code yX5_hasTown cX5_hasTown 2 (some .boolean) :: wsX5_hasTown.tail := rfl
set_option maxRecDepth 100000 in
theorem uX5_hasTown_X5 : ∀ w ∈ u_ws RX5 TX5 10, w ∈ wsX5_hasTown := by decide +kernel
set_option maxRecDepth 100000 in
theorem lX5_hasTown_36 : Cond.fieldLink RX5 36 (TX5 0).1 (TX5 0).2.1 (TX5 0).2.2.1 ∈ wsX5_hasTown := by decide +kernel
set_option maxRecDepth 100000 in
theorem fX5_hasTown_36 : hd_F wsX5_hasTown RX5 vwCl 5 0 36 := ⟨RX5, TX5, 10, rfl, by decide, uX5_hasTown_X5, lX5_hasTown_36⟩
def wo_X5_hasTown : hd_xS := (hd_sRZ (hd_iC (hd_cA (hd_c0 (fun x => decide (0 ≤ x)) (hd_iL 1)) (hd_cI (fun x y => decide (x < y)) (hd_iL 1) (hd_iG hs_sh 5 0 (hd_rL 0))))))
def wm_X5_hasTown : hd_M := hd_mth 2 wo_X5_hasTown
set_option maxHeartbeats 4000000 in
set_option maxRecDepth 100000 in
theorem snd_X5_hasTown : hd_Snd vwCl hs_sh yX5_hasTown wsX5_hasTown 1 wm_X5_hasTown := hd_method (by decide) rfl rfl (by decide) (fun κ C Rk => (hd_retZ C Rk (p1 := 17) (hd_boC C (p1 := 12) (p3 := 16) (p4 := 17) (hd_and (p1 := 4) (p2 := 12) (p3 := 16) (hd_z_geF C (p2 := 1) (tgt := 16) (hd_iload_n C (kk0 := 1) dX5_hasTown_0) dX5_hasTown_1 (by decide)) (hd_c_ltF C (p1 := 5) (p2 := 9) (tgt := 16) (hd_iload_n C (kk0 := 1) dX5_hasTown_4) (hd_getI C (p1 := 6) fX5_hasTown_36 (hd_aload_n C (kk0 := 0) dX5_hasTown_5) dX5_hasTown_6) dX5_hasTown_9 (by decide))) dX5_hasTown_12 dX5_hasTown_13 (by decide) dX5_hasTown_16 rfl) dX5_hasTown_17))
/-! X5_isIn -/
theorem hw_X5_isIn : wsX5_isIn = Cond.code yX5_isIn cX5_isIn 2 (some .boolean) :: wsX5_isIn.tail := rfl
def wo_X5_isIn : hd_xS := (hd_sRZ (hd_iC (hd_c0 (fun x => !decide (x = 0)) (hd_iB (fun x y => x &&& y) (hd_iB (fun x y => x >>> (y &&& 31)) (hd_iL 1) (hd_iL 0)) (hd_iK (1))))))
def wm_X5_isIn : hd_M := hd_mth 2 wo_X5_isIn
set_option maxHeartbeats 4000000 in
set_option maxRecDepth 100000 in
theorem snd_X5_isIn : hd_Snd vwCl hs_sh yX5_isIn wsX5_isIn 1 wm_X5_isIn := hd_method (by decide) rfl rfl (by decide) (fun κ C Rk => (hd_retZ C Rk (p1 := 13) (hd_boC C (p1 := 8) (p3 := 12) (p4 := 13) (hd_z_neF C (p2 := 5) (tgt := 12) (hd_iand C (p1 := 3) (p2 := 4) (hd_ishr C (p1 := 1) (p2 := 2) (hd_iload_n C (kk0 := 1) dX5_isIn_0) (hd_iload_n C (kk0 := 0) dX5_isIn_1) dX5_isIn_2) (hd_iconst C dX5_isIn_3 (by decide)) dX5_isIn_4) dX5_isIn_5 (by decide)) dX5_isIn_8 dX5_isIn_9 (by decide) dX5_isIn_12 rfl) dX5_isIn_13))
/-! X5_isMissing -/
theorem hw_X5_isMissing : wsX5_isMissing = Cond.code yX5_isMissing cX5_isMissing 2 (some .boolean) :: wsX5_isMissing.tail := rfl
set_option maxRecDepth 100000 in
theorem uX5_isMissing_X5 : ∀ w ∈ u_ws RX5 TX5 10, w ∈ wsX5_isMissing := by decide +kernel
set_option maxRecDepth 100000 in
theorem lX5_isMissing_27 : Cond.fieldLink RX5 27 (TX5 7).1 (TX5 7).2.1 (TX5 7).2.2.1 ∈ wsX5_isMissing := by decide +kernel
set_option maxRecDepth 100000 in
theorem fX5_isMissing_27 : hd_F wsX5_isMissing RX5 vwCl 5 7 27 := ⟨RX5, TX5, 10, rfl, by decide, uX5_isMissing_X5, lX5_isMissing_27⟩
def wo_X5_isMissing : hd_xS := (hd_sRZ (hd_iC (hd_cI (fun x y => decide (x = y)) (hd_iA hs_sh (hd_rG hs_sh 5 7 (hd_rL 0)) (hd_iL 1)) (hd_iK (-1)))))
def wm_X5_isMissing : hd_M := hd_mth 2 wo_X5_isMissing
set_option maxHeartbeats 4000000 in
set_option maxRecDepth 100000 in
theorem snd_X5_isMissing : hd_Snd vwCl hs_sh yX5_isMissing wsX5_isMissing 1 wm_X5_isMissing := hd_method (by decide) rfl rfl (by decide) (fun κ C Rk => (hd_retZ C Rk (p1 := 15) (hd_boC C (p1 := 10) (p3 := 14) (p4 := 15) (hd_c_eqF C (p1 := 6) (p2 := 7) (tgt := 14) (hd_iald C (p1 := 4) (p2 := 5) (hd_getR C (p1 := 1) fX5_isMissing_27 (hd_aload_n C (kk0 := 0) dX5_isMissing_0) dX5_isMissing_1) (hd_iload_n C (kk0 := 1) dX5_isMissing_4) dX5_isMissing_5) (hd_iconst C dX5_isMissing_6 (by decide)) dX5_isMissing_7 (by decide)) dX5_isMissing_10 dX5_isMissing_11 (by decide) dX5_isMissing_14 rfl) dX5_isMissing_15))
/-! X5_laySheet -/
theorem hw_X5_laySheet : wsX5_laySheet = Cond.code yX5_laySheet cX5_laySheet 5 none :: wsX5_laySheet.tail := rfl
set_option maxRecDepth 100000 in
theorem uX5_laySheet_X5 : ∀ w ∈ u_ws RX5 TX5 10, w ∈ wsX5_laySheet := by decide +kernel
set_option maxRecDepth 100000 in
theorem lX5_laySheet_27 : Cond.fieldLink RX5 27 (TX5 7).1 (TX5 7).2.1 (TX5 7).2.2.1 ∈ wsX5_laySheet := by decide +kernel
set_option maxRecDepth 100000 in
theorem fX5_laySheet_27 : hd_F wsX5_laySheet RX5 vwCl 5 7 27 := ⟨RX5, TX5, 10, rfl, by decide, uX5_laySheet_X5, lX5_laySheet_27⟩
set_option maxRecDepth 100000 in
theorem lX5_laySheet_30 : Cond.fieldLink RX5 30 (TX5 8).1 (TX5 8).2.1 (TX5 8).2.2.1 ∈ wsX5_laySheet := by decide +kernel
set_option maxRecDepth 100000 in
theorem fX5_laySheet_30 : hd_F wsX5_laySheet RX5 vwCl 5 8 30 := ⟨RX5, TX5, 10, rfl, by decide, uX5_laySheet_X5, lX5_laySheet_30⟩
set_option maxRecDepth 100000 in
theorem lX5_laySheet_33 : Cond.fieldLink RX5 33 (TX5 9).1 (TX5 9).2.1 (TX5 9).2.2.1 ∈ wsX5_laySheet := by decide +kernel
set_option maxRecDepth 100000 in
theorem fX5_laySheet_33 : hd_F wsX5_laySheet RX5 vwCl 5 9 33 := ⟨RX5, TX5, 10, rfl, by decide, uX5_laySheet_X5, lX5_laySheet_33⟩
set_option maxRecDepth 100000 in
theorem wX5_laySheet_7 : Cond.constant RX5 53 (1000000) ∈ wsX5_laySheet := by decide +kernel
def wc_X5_laySheet_17 : hd_xC := (hd_cI (fun x y => decide (x < y)) (hd_iL 4) (hd_iK (8)))
def wb_X5_laySheet_17 : hd_xS := (hd_sQ (hd_sA hs_sh (hd_rG hs_sh 5 9 (hd_rL 0)) (hd_iB (fun x y => x + y) (hd_iB (fun x y => x * y) (hd_iL 1) (hd_iK (8))) (hd_iL 4)) (hd_iQ (hd_cI (fun x y => decide (x < y)) (hd_iL 4) (hd_iL 3)) (hd_iK (0)) (hd_iK (1000000)))) (hd_sP 4 (1)))
def wo_X5_laySheet : hd_xS := (hd_sQ (hd_sA hs_sh (hd_rG hs_sh 5 7 (hd_rL 0)) (hd_iL 1) (hd_iL 2)) (hd_sQ (hd_sA hs_sh (hd_rG hs_sh 5 8 (hd_rL 0)) (hd_iL 1) (hd_iL 3)) (hd_sQ (hd_sQ (hd_sI 4 (hd_iK (0))) (hd_sH (wc_X5_laySheet_17) (wb_X5_laySheet_17))) hd_sRV)))
def wm_X5_laySheet : hd_M := hd_mth 5 wo_X5_laySheet
set_option maxHeartbeats 4000000 in
set_option maxRecDepth 100000 in
theorem snd_X5_laySheet : hd_Snd vwCl hs_sh yX5_laySheet wsX5_laySheet 1 wm_X5_laySheet := hd_method (by decide) rfl rfl (by decide) (fun κ C Rk => (hd_seq (p1 := 7) (hd_siast C (p1 := 4) (p2 := 5) (p3 := 6) (hd_getR C (p1 := 1) fX5_laySheet_27 (hd_aload_n C (kk0 := 0) dX5_laySheet_0) dX5_laySheet_1) (hd_iload_n C (kk0 := 1) dX5_laySheet_4) (hd_iload_n C (kk0 := 2) dX5_laySheet_5) dX5_laySheet_6) (hd_seq (p1 := 14) (hd_siast C (p1 := 11) (p2 := 12) (p3 := 13) (hd_getR C (p1 := 8) fX5_laySheet_30 (hd_aload_n C (kk0 := 0) dX5_laySheet_7) dX5_laySheet_8) (hd_iload_n C (kk0 := 1) dX5_laySheet_11) (hd_iload_n C (kk0 := 3) dX5_laySheet_12) dX5_laySheet_13) (hd_seq (p1 := 54) (hd_seq (p1 := 17) (hd_sistore C (p1 := 15) (hd_iconst C dX5_laySheet_14 (by decide)) dX5_laySheet_15 (by decide)) (hd_loop C (p1 := 24) (p2 := 54) (hd_c_ltF C (p1 := 19) (p2 := 21) (tgt := 54) (hd_iload C dX5_laySheet_17) (hd_bipush C dX5_laySheet_19 (by decide)) dX5_laySheet_21 (by decide)) (hd_seq (p1 := 48) (hd_siast C (p1 := 28) (p2 := 35) (p3 := 47) (hd_getR C (p1 := 25) fX5_laySheet_33 (hd_aload_n C (kk0 := 0) dX5_laySheet_24) dX5_laySheet_25) (hd_iadd C (p1 := 32) (p2 := 34) (hd_imul C (p1 := 29) (p2 := 31) (hd_iload_n C (kk0 := 1) dX5_laySheet_28) (hd_bipush C dX5_laySheet_29 (by decide)) dX5_laySheet_31) (hd_iload C dX5_laySheet_32) dX5_laySheet_34) (hd_tnI C (p1 := 41) (p2 := 42) (p3 := 45) (p4 := 47) (hd_c_ltF C (p1 := 37) (p2 := 38) (tgt := 45) (hd_iload C dX5_laySheet_35) (hd_iload_n C (kk0 := 3) dX5_laySheet_37) dX5_laySheet_38 (by decide)) (hd_iconst C dX5_laySheet_41 (by decide)) dX5_laySheet_42 (by decide) (hd_ldc C wX5_laySheet_7 dX5_laySheet_45)) dX5_laySheet_47) (hd_sgoto C (p1 := 51) (tgt := 17) (hd_ends (es := [51]) (by decide) (hd_siinc C dX5_laySheet_48 (by decide) (by decide))) dX5_laySheet_51 (by decide) (by decide))) (by decide))) (hd_retV C Rk dX5_laySheet_54)))))
/-! X5_takeFrom -/
theorem hw_X5_takeFrom : wsX5_takeFrom = Cond.code yX5_takeFrom cX5_takeFrom 2 none :: wsX5_takeFrom.tail := rfl
set_option maxRecDepth 100000 in
theorem uX5_takeFrom_X5 : ∀ w ∈ u_ws RX5 TX5 10, w ∈ wsX5_takeFrom := by decide +kernel
set_option maxRecDepth 100000 in
theorem lX5_takeFrom_36 : Cond.fieldLink RX5 36 (TX5 0).1 (TX5 0).2.1 (TX5 0).2.2.1 ∈ wsX5_takeFrom := by decide +kernel
set_option maxRecDepth 100000 in
theorem fX5_takeFrom_36 : hd_F wsX5_takeFrom RX5 vwCl 5 0 36 := ⟨RX5, TX5, 10, rfl, by decide, uX5_takeFrom_X5, lX5_takeFrom_36⟩
set_option maxRecDepth 100000 in
theorem qX5_takeFrom_36 : hd_FP wsX5_takeFrom RX5 vwCl 5 0 36 .int := ⟨RX5, TX5, 10, tyX5, rfl, by decide, uX5_takeFrom_X5, lX5_takeFrom_36, tyX5_ok, nmX5, rfl, rfl⟩
set_option maxRecDepth 100000 in
theorem lX5_takeFrom_40 : Cond.fieldLink RX5 40 (TX5 1).1 (TX5 1).2.1 (TX5 1).2.2.1 ∈ wsX5_takeFrom := by decide +kernel
set_option maxRecDepth 100000 in
theorem fX5_takeFrom_40 : hd_F wsX5_takeFrom RX5 vwCl 5 1 40 := ⟨RX5, TX5, 10, rfl, by decide, uX5_takeFrom_X5, lX5_takeFrom_40⟩
set_option maxRecDepth 100000 in
theorem qX5_takeFrom_40 : hd_FP wsX5_takeFrom RX5 vwCl 5 1 40 .int := ⟨RX5, TX5, 10, tyX5, rfl, by decide, uX5_takeFrom_X5, lX5_takeFrom_40, tyX5_ok, nmX5, rfl, rfl⟩
set_option maxRecDepth 100000 in
theorem lX5_takeFrom_9 : Cond.fieldLink RX5 9 (TX5 2).1 (TX5 2).2.1 (TX5 2).2.2.1 ∈ wsX5_takeFrom := by decide +kernel
set_option maxRecDepth 100000 in
theorem fX5_takeFrom_9 : hd_F wsX5_takeFrom RX5 vwCl 5 2 9 := ⟨RX5, TX5, 10, rfl, by decide, uX5_takeFrom_X5, lX5_takeFrom_9⟩
set_option maxRecDepth 100000 in
theorem wX5_takeFrom_9 : Cond.methodLink RX5 43 arraycopyName ∈ wsX5_takeFrom := by decide +kernel
set_option maxRecDepth 100000 in
theorem wX5_takeFrom_10 : Cond.native arraycopyName ∈ wsX5_takeFrom := by decide +kernel
set_option maxRecDepth 100000 in
theorem wX5_takeFrom_11 : Cond.static arraycopyName ∈ wsX5_takeFrom := by decide +kernel
set_option maxRecDepth 100000 in
theorem wX5_takeFrom_12 : Cond.initialized "java/lang/System" ∈ wsX5_takeFrom := by decide +kernel
set_option maxRecDepth 100000 in
theorem lX5_takeFrom_15 : Cond.fieldLink RX5 15 (TX5 3).1 (TX5 3).2.1 (TX5 3).2.2.1 ∈ wsX5_takeFrom := by decide +kernel
set_option maxRecDepth 100000 in
theorem fX5_takeFrom_15 : hd_F wsX5_takeFrom RX5 vwCl 5 3 15 := ⟨RX5, TX5, 10, rfl, by decide, uX5_takeFrom_X5, lX5_takeFrom_15⟩
set_option maxRecDepth 100000 in
theorem lX5_takeFrom_18 : Cond.fieldLink RX5 18 (TX5 4).1 (TX5 4).2.1 (TX5 4).2.2.1 ∈ wsX5_takeFrom := by decide +kernel
set_option maxRecDepth 100000 in
theorem fX5_takeFrom_18 : hd_F wsX5_takeFrom RX5 vwCl 5 4 18 := ⟨RX5, TX5, 10, rfl, by decide, uX5_takeFrom_X5, lX5_takeFrom_18⟩
set_option maxRecDepth 100000 in
theorem lX5_takeFrom_21 : Cond.fieldLink RX5 21 (TX5 5).1 (TX5 5).2.1 (TX5 5).2.2.1 ∈ wsX5_takeFrom := by decide +kernel
set_option maxRecDepth 100000 in
theorem fX5_takeFrom_21 : hd_F wsX5_takeFrom RX5 vwCl 5 5 21 := ⟨RX5, TX5, 10, rfl, by decide, uX5_takeFrom_X5, lX5_takeFrom_21⟩
set_option maxRecDepth 100000 in
theorem lX5_takeFrom_24 : Cond.fieldLink RX5 24 (TX5 6).1 (TX5 6).2.1 (TX5 6).2.2.1 ∈ wsX5_takeFrom := by decide +kernel
set_option maxRecDepth 100000 in
theorem fX5_takeFrom_24 : hd_F wsX5_takeFrom RX5 vwCl 5 6 24 := ⟨RX5, TX5, 10, rfl, by decide, uX5_takeFrom_X5, lX5_takeFrom_24⟩
set_option maxRecDepth 100000 in
theorem lX5_takeFrom_27 : Cond.fieldLink RX5 27 (TX5 7).1 (TX5 7).2.1 (TX5 7).2.2.1 ∈ wsX5_takeFrom := by decide +kernel
set_option maxRecDepth 100000 in
theorem fX5_takeFrom_27 : hd_F wsX5_takeFrom RX5 vwCl 5 7 27 := ⟨RX5, TX5, 10, rfl, by decide, uX5_takeFrom_X5, lX5_takeFrom_27⟩
set_option maxRecDepth 100000 in
theorem lX5_takeFrom_30 : Cond.fieldLink RX5 30 (TX5 8).1 (TX5 8).2.1 (TX5 8).2.2.1 ∈ wsX5_takeFrom := by decide +kernel
set_option maxRecDepth 100000 in
theorem fX5_takeFrom_30 : hd_F wsX5_takeFrom RX5 vwCl 5 8 30 := ⟨RX5, TX5, 10, rfl, by decide, uX5_takeFrom_X5, lX5_takeFrom_30⟩
set_option maxRecDepth 100000 in
theorem lX5_takeFrom_33 : Cond.fieldLink RX5 33 (TX5 9).1 (TX5 9).2.1 (TX5 9).2.2.1 ∈ wsX5_takeFrom := by decide +kernel
set_option maxRecDepth 100000 in
theorem fX5_takeFrom_33 : hd_F wsX5_takeFrom RX5 vwCl 5 9 33 := ⟨RX5, TX5, 10, rfl, by decide, uX5_takeFrom_X5, lX5_takeFrom_33⟩
def wo_X5_takeFrom : hd_xS := (hd_sQ (hd_sF hs_sh 5 0 (hd_rL 0) (hd_iG hs_sh 5 0 (hd_rL 1))) (hd_sQ (hd_sF hs_sh 5 1 (hd_rL 0) (hd_iG hs_sh 5 1 (hd_rL 1))) (hd_sQ (hd_sCI hs_sh (hd_rG hs_sh 5 2 (hd_rL 1)) (hd_iK (0)) (hd_rG hs_sh 5 2 (hd_rL 0)) (hd_iK (0)) (hd_iK (8))) (hd_sQ (hd_sCI hs_sh (hd_rG hs_sh 5 3 (hd_rL 1)) (hd_iK (0)) (hd_rG hs_sh 5 3 (hd_rL 0)) (hd_iK (0)) (hd_iK (8))) (hd_sQ (hd_sCI hs_sh (hd_rG hs_sh 5 4 (hd_rL 1)) (hd_iK (0)) (hd_rG hs_sh 5 4 (hd_rL 0)) (hd_iK (0)) (hd_iK (8))) (hd_sQ (hd_sCI hs_sh (hd_rG hs_sh 5 5 (hd_rL 1)) (hd_iK (0)) (hd_rG hs_sh 5 5 (hd_rL 0)) (hd_iK (0)) (hd_iK (7))) (hd_sQ (hd_sCI hs_sh (hd_rG hs_sh 5 6 (hd_rL 1)) (hd_iK (0)) (hd_rG hs_sh 5 6 (hd_rL 0)) (hd_iK (0)) (hd_iK (7))) (hd_sQ (hd_sCI hs_sh (hd_rG hs_sh 5 7 (hd_rL 1)) (hd_iK (0)) (hd_rG hs_sh 5 7 (hd_rL 0)) (hd_iK (0)) (hd_iK (7))) (hd_sQ (hd_sCI hs_sh (hd_rG hs_sh 5 8 (hd_rL 1)) (hd_iK (0)) (hd_rG hs_sh 5 8 (hd_rL 0)) (hd_iK (0)) (hd_iK (7))) (hd_sQ (hd_sCI hs_sh (hd_rG hs_sh 5 9 (hd_rL 1)) (hd_iK (0)) (hd_rG hs_sh 5 9 (hd_rL 0)) (hd_iK (0)) (hd_iK (56))) hd_sRV))))))))))
def wm_X5_takeFrom : hd_M := hd_mth 2 wo_X5_takeFrom
set_option maxHeartbeats 4000000 in
set_option maxRecDepth 100000 in
theorem snd_X5_takeFrom : hd_Snd vwCl hs_sh yX5_takeFrom wsX5_takeFrom 1 wm_X5_takeFrom := hd_method (by decide) rfl rfl (by decide) (fun κ C Rk => (hd_seq (p1 := 8) (hd_sputI C (p1 := 1) (p2 := 5) qX5_takeFrom_36 (hd_aload_n C (kk0 := 0) dX5_takeFrom_0) (hd_getI C (p1 := 2) fX5_takeFrom_36 (hd_aload_n C (kk0 := 1) dX5_takeFrom_1) dX5_takeFrom_2) dX5_takeFrom_5) (hd_seq (p1 := 16) (hd_sputI C (p1 := 9) (p2 := 13) qX5_takeFrom_40 (hd_aload_n C (kk0 := 0) dX5_takeFrom_8) (hd_getI C (p1 := 10) fX5_takeFrom_40 (hd_aload_n C (kk0 := 1) dX5_takeFrom_9) dX5_takeFrom_10) dX5_takeFrom_13) (hd_seq (p1 := 31) (hd_scopyi C (p1 := 20) (p2 := 21) (p3 := 25) (p4 := 26) (p5 := 28) wX5_takeFrom_9 wX5_takeFrom_10 wX5_takeFrom_11 wX5_takeFrom_12 (hd_getR C (p1 := 17) fX5_takeFrom_9 (hd_aload_n C (kk0 := 1) dX5_takeFrom_16) dX5_takeFrom_17) (hd_iconst C dX5_takeFrom_20 (by decide)) (hd_getR C (p1 := 22) fX5_takeFrom_9 (hd_aload_n C (kk0 := 0) dX5_takeFrom_21) dX5_takeFrom_22) (hd_iconst C dX5_takeFrom_25 (by decide)) (hd_bipush C dX5_takeFrom_26 (by decide)) dX5_takeFrom_28) (hd_seq (p1 := 46) (hd_scopyi C (p1 := 35) (p2 := 36) (p3 := 40) (p4 := 41) (p5 := 43) wX5_takeFrom_9 wX5_takeFrom_10 wX5_takeFrom_11 wX5_takeFrom_12 (hd_getR C (p1 := 32) fX5_takeFrom_15 (hd_aload_n C (kk0 := 1) dX5_takeFrom_31) dX5_takeFrom_32) (hd_iconst C dX5_takeFrom_35 (by decide)) (hd_getR C (p1 := 37) fX5_takeFrom_15 (hd_aload_n C (kk0 := 0) dX5_takeFrom_36) dX5_takeFrom_37) (hd_iconst C dX5_takeFrom_40 (by decide)) (hd_bipush C dX5_takeFrom_41 (by decide)) dX5_takeFrom_43) (hd_seq (p1 := 61) (hd_scopyi C (p1 := 50) (p2 := 51) (p3 := 55) (p4 := 56) (p5 := 58) wX5_takeFrom_9 wX5_takeFrom_10 wX5_takeFrom_11 wX5_takeFrom_12 (hd_getR C (p1 := 47) fX5_takeFrom_18 (hd_aload_n C (kk0 := 1) dX5_takeFrom_46) dX5_takeFrom_47) (hd_iconst C dX5_takeFrom_50 (by decide)) (hd_getR C (p1 := 52) fX5_takeFrom_18 (hd_aload_n C (kk0 := 0) dX5_takeFrom_51) dX5_takeFrom_52) (hd_iconst C dX5_takeFrom_55 (by decide)) (hd_bipush C dX5_takeFrom_56 (by decide)) dX5_takeFrom_58) (hd_seq (p1 := 76) (hd_scopyi C (p1 := 65) (p2 := 66) (p3 := 70) (p4 := 71) (p5 := 73) wX5_takeFrom_9 wX5_takeFrom_10 wX5_takeFrom_11 wX5_takeFrom_12 (hd_getR C (p1 := 62) fX5_takeFrom_21 (hd_aload_n C (kk0 := 1) dX5_takeFrom_61) dX5_takeFrom_62) (hd_iconst C dX5_takeFrom_65 (by decide)) (hd_getR C (p1 := 67) fX5_takeFrom_21 (hd_aload_n C (kk0 := 0) dX5_takeFrom_66) dX5_takeFrom_67) (hd_iconst C dX5_takeFrom_70 (by decide)) (hd_bipush C dX5_takeFrom_71 (by decide)) dX5_takeFrom_73) (hd_seq (p1 := 91) (hd_scopyi C (p1 := 80) (p2 := 81) (p3 := 85) (p4 := 86) (p5 := 88) wX5_takeFrom_9 wX5_takeFrom_10 wX5_takeFrom_11 wX5_takeFrom_12 (hd_getR C (p1 := 77) fX5_takeFrom_24 (hd_aload_n C (kk0 := 1) dX5_takeFrom_76) dX5_takeFrom_77) (hd_iconst C dX5_takeFrom_80 (by decide)) (hd_getR C (p1 := 82) fX5_takeFrom_24 (hd_aload_n C (kk0 := 0) dX5_takeFrom_81) dX5_takeFrom_82) (hd_iconst C dX5_takeFrom_85 (by decide)) (hd_bipush C dX5_takeFrom_86 (by decide)) dX5_takeFrom_88) (hd_seq (p1 := 106) (hd_scopyi C (p1 := 95) (p2 := 96) (p3 := 100) (p4 := 101) (p5 := 103) wX5_takeFrom_9 wX5_takeFrom_10 wX5_takeFrom_11 wX5_takeFrom_12 (hd_getR C (p1 := 92) fX5_takeFrom_27 (hd_aload_n C (kk0 := 1) dX5_takeFrom_91) dX5_takeFrom_92) (hd_iconst C dX5_takeFrom_95 (by decide)) (hd_getR C (p1 := 97) fX5_takeFrom_27 (hd_aload_n C (kk0 := 0) dX5_takeFrom_96) dX5_takeFrom_97) (hd_iconst C dX5_takeFrom_100 (by decide)) (hd_bipush C dX5_takeFrom_101 (by decide)) dX5_takeFrom_103) (hd_seq (p1 := 121) (hd_scopyi C (p1 := 110) (p2 := 111) (p3 := 115) (p4 := 116) (p5 := 118) wX5_takeFrom_9 wX5_takeFrom_10 wX5_takeFrom_11 wX5_takeFrom_12 (hd_getR C (p1 := 107) fX5_takeFrom_30 (hd_aload_n C (kk0 := 1) dX5_takeFrom_106) dX5_takeFrom_107) (hd_iconst C dX5_takeFrom_110 (by decide)) (hd_getR C (p1 := 112) fX5_takeFrom_30 (hd_aload_n C (kk0 := 0) dX5_takeFrom_111) dX5_takeFrom_112) (hd_iconst C dX5_takeFrom_115 (by decide)) (hd_bipush C dX5_takeFrom_116 (by decide)) dX5_takeFrom_118) (hd_seq (p1 := 136) (hd_scopyi C (p1 := 125) (p2 := 126) (p3 := 130) (p4 := 131) (p5 := 133) wX5_takeFrom_9 wX5_takeFrom_10 wX5_takeFrom_11 wX5_takeFrom_12 (hd_getR C (p1 := 122) fX5_takeFrom_33 (hd_aload_n C (kk0 := 1) dX5_takeFrom_121) dX5_takeFrom_122) (hd_iconst C dX5_takeFrom_125 (by decide)) (hd_getR C (p1 := 127) fX5_takeFrom_33 (hd_aload_n C (kk0 := 0) dX5_takeFrom_126) dX5_takeFrom_127) (hd_iconst C dX5_takeFrom_130 (by decide)) (hd_bipush C dX5_takeFrom_131 (by decide)) dX5_takeFrom_133) (hd_retV C Rk dX5_takeFrom_136))))))))))))
/-! X5_tripOf -/
theorem hw_X5_tripOf : wsX5_tripOf = Cond.code yX5_tripOf cX5_tripOf 3 (some .int) :: wsX5_tripOf.tail := rfl
set_option maxRecDepth 100000 in
theorem uX5_tripOf_X5 : ∀ w ∈ u_ws RX5 TX5 10, w ∈ wsX5_tripOf := by decide +kernel
set_option maxRecDepth 100000 in
theorem lX5_tripOf_9 : Cond.fieldLink RX5 9 (TX5 2).1 (TX5 2).2.1 (TX5 2).2.2.1 ∈ wsX5_tripOf := by decide +kernel
set_option maxRecDepth 100000 in
theorem fX5_tripOf_9 : hd_F wsX5_tripOf RX5 vwCl 5 2 9 := ⟨RX5, TX5, 10, rfl, by decide, uX5_tripOf_X5, lX5_tripOf_9⟩
set_option maxRecDepth 100000 in
theorem lX5_tripOf_33 : Cond.fieldLink RX5 33 (TX5 9).1 (TX5 9).2.1 (TX5 9).2.2.1 ∈ wsX5_tripOf := by decide +kernel
set_option maxRecDepth 100000 in
theorem fX5_tripOf_33 : hd_F wsX5_tripOf RX5 vwCl 5 9 33 := ⟨RX5, TX5, 10, rfl, by decide, uX5_tripOf_X5, lX5_tripOf_33⟩
def wo_X5_tripOf : hd_xS := (hd_sRI (hd_iB (fun x y => x * y) (hd_iA hs_sh (hd_rG hs_sh 5 2 (hd_rL 0)) (hd_iL 2)) (hd_iA hs_sh (hd_rG hs_sh 5 9 (hd_rL 0)) (hd_iB (fun x y => x + y) (hd_iB (fun x y => x * y) (hd_iL 1) (hd_iK (8))) (hd_iL 2)))))
def wm_X5_tripOf : hd_M := hd_mth 3 wo_X5_tripOf
set_option maxHeartbeats 4000000 in
set_option maxRecDepth 100000 in
theorem snd_X5_tripOf : hd_Snd vwCl hs_sh yX5_tripOf wsX5_tripOf 1 wm_X5_tripOf := hd_method (by decide) rfl rfl (by decide) (fun κ C Rk => (hd_retI C Rk (p1 := 18) (hd_imul C (p1 := 6) (p2 := 17) (hd_iald C (p1 := 4) (p2 := 5) (hd_getR C (p1 := 1) fX5_tripOf_9 (hd_aload_n C (kk0 := 0) dX5_tripOf_0) dX5_tripOf_1) (hd_iload_n C (kk0 := 2) dX5_tripOf_4) dX5_tripOf_5) (hd_iald C (p1 := 10) (p2 := 16) (hd_getR C (p1 := 7) fX5_tripOf_33 (hd_aload_n C (kk0 := 0) dX5_tripOf_6) dX5_tripOf_7) (hd_iadd C (p1 := 14) (p2 := 15) (hd_imul C (p1 := 11) (p2 := 13) (hd_iload_n C (kk0 := 1) dX5_tripOf_10) (hd_bipush C dX5_tripOf_11 (by decide)) dX5_tripOf_13) (hd_iload_n C (kk0 := 2) dX5_tripOf_14) dX5_tripOf_15) dX5_tripOf_16) dX5_tripOf_17) dX5_tripOf_18))
/-! X5_wayOf -/
theorem hw_X5_wayOf : wsX5_wayOf = Cond.code yX5_wayOf cX5_wayOf 3 (some .int) :: wsX5_wayOf.tail := rfl
set_option maxRecDepth 100000 in
theorem uX5_wayOf_X5 : ∀ w ∈ u_ws RX5 TX5 10, w ∈ wsX5_wayOf := by decide +kernel
set_option maxRecDepth 100000 in
theorem lX5_wayOf_33 : Cond.fieldLink RX5 33 (TX5 9).1 (TX5 9).2.1 (TX5 9).2.2.1 ∈ wsX5_wayOf := by decide +kernel
set_option maxRecDepth 100000 in
theorem fX5_wayOf_33 : hd_F wsX5_wayOf RX5 vwCl 5 9 33 := ⟨RX5, TX5, 10, rfl, by decide, uX5_wayOf_X5, lX5_wayOf_33⟩
def wo_X5_wayOf : hd_xS := (hd_sRI (hd_iA hs_sh (hd_rG hs_sh 5 9 (hd_rL 0)) (hd_iB (fun x y => x + y) (hd_iB (fun x y => x * y) (hd_iL 1) (hd_iK (8))) (hd_iL 2))))
def wm_X5_wayOf : hd_M := hd_mth 3 wo_X5_wayOf
set_option maxHeartbeats 4000000 in
set_option maxRecDepth 100000 in
theorem snd_X5_wayOf : hd_Snd vwCl hs_sh yX5_wayOf wsX5_wayOf 1 wm_X5_wayOf := hd_method (by decide) rfl rfl (by decide) (fun κ C Rk => (hd_retI C Rk (p1 := 11) (hd_iald C (p1 := 4) (p2 := 10) (hd_getR C (p1 := 1) fX5_wayOf_33 (hd_aload_n C (kk0 := 0) dX5_wayOf_0) dX5_wayOf_1) (hd_iadd C (p1 := 8) (p2 := 9) (hd_imul C (p1 := 5) (p2 := 7) (hd_iload_n C (kk0 := 1) dX5_wayOf_4) (hd_bipush C dX5_wayOf_5 (by decide)) dX5_wayOf_7) (hd_iload_n C (kk0 := 2) dX5_wayOf_8) dX5_wayOf_9) dX5_wayOf_10) dX5_wayOf_11))
/-! X6_forget -/
theorem hw_X6_forget : wsX6_forget = Cond.code yX6_forget cX6_forget 1 none :: wsX6_forget.tail := rfl
set_option maxRecDepth 100000 in
theorem uX6_forget_X6 : ∀ w ∈ u_ws RX6 TX6 5, w ∈ wsX6_forget := by decide +kernel
set_option maxRecDepth 100000 in
theorem lX6_forget_21 : Cond.fieldLink RX6 21 (TX6 4).1 (TX6 4).2.1 (TX6 4).2.2.1 ∈ wsX6_forget := by decide +kernel
set_option maxRecDepth 100000 in
theorem qX6_forget_21 : hd_FP wsX6_forget RX6 vwCl 6 4 21 .boolean := ⟨RX6, TX6, 5, tyX6, rfl, by decide, uX6_forget_X6, lX6_forget_21, tyX6_ok, nmX6, rfl, rfl⟩
def wo_X6_forget : hd_xS := (hd_sQ (hd_sZ hs_sh 6 4 (hd_rL 0) (hd_iK (1))) hd_sRV)
def wm_X6_forget : hd_M := hd_mth 1 wo_X6_forget
set_option maxHeartbeats 4000000 in
set_option maxRecDepth 100000 in
theorem snd_X6_forget : hd_Snd vwCl hs_sh yX6_forget wsX6_forget 1 wm_X6_forget := hd_method (by decide) rfl rfl (by decide) (fun κ C Rk => (hd_seq (p1 := 5) (hd_sputZ C (p1 := 1) (p2 := 2) qX6_forget_21 (hd_aload_n C (kk0 := 0) dX6_forget_0) (hd_iconst C dX6_forget_1 (by decide)) dX6_forget_2) (hd_retV C Rk dX6_forget_5)))
/-! X6_nearWay -/
theorem hw_X6_nearWay : wsX6_nearWay = Cond.code yX6_nearWay cX6_nearWay 3 (some .int) :: wsX6_nearWay.tail := rfl
set_option maxRecDepth 100000 in
theorem uX6_nearWay_X6 : ∀ w ∈ u_ws RX6 TX6 5, w ∈ wsX6_nearWay := by decide +kernel
set_option maxRecDepth 100000 in
theorem lX6_nearWay_9 : Cond.fieldLink RX6 9 (TX6 1).1 (TX6 1).2.1 (TX6 1).2.2.1 ∈ wsX6_nearWay := by decide +kernel
set_option maxRecDepth 100000 in
theorem fX6_nearWay_9 : hd_F wsX6_nearWay RX6 vwCl 6 1 9 := ⟨RX6, TX6, 5, rfl, by decide, uX6_nearWay_X6, lX6_nearWay_9⟩
def wo_X6_nearWay : hd_xS := (hd_sRI (hd_iA hs_sh (hd_rG hs_sh 6 1 (hd_rL 0)) (hd_iB (fun x y => x + y) (hd_iB (fun x y => x * y) (hd_iL 1) (hd_iK (8))) (hd_iL 2))))
def wm_X6_nearWay : hd_M := hd_mth 3 wo_X6_nearWay
set_option maxHeartbeats 4000000 in
set_option maxRecDepth 100000 in
theorem snd_X6_nearWay : hd_Snd vwCl hs_sh yX6_nearWay wsX6_nearWay 1 wm_X6_nearWay := hd_method (by decide) rfl rfl (by decide) (fun κ C Rk => (hd_retI C Rk (p1 := 11) (hd_iald C (p1 := 4) (p2 := 10) (hd_getR C (p1 := 1) fX6_nearWay_9 (hd_aload_n C (kk0 := 0) dX6_nearWay_0) dX6_nearWay_1) (hd_iadd C (p1 := 8) (p2 := 9) (hd_imul C (p1 := 5) (p2 := 7) (hd_iload_n C (kk0 := 1) dX6_nearWay_4) (hd_bipush C dX6_nearWay_5 (by decide)) dX6_nearWay_7) (hd_iload_n C (kk0 := 2) dX6_nearWay_8) dX6_nearWay_9) dX6_nearWay_10) dX6_nearWay_11))
