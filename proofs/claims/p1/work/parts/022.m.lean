/-! X7_forget -/
theorem hw_X7_forget : wsX7_forget = Cond.code yX7_forget cX7_forget 1 none :: wsX7_forget.tail := rfl
set_option maxRecDepth 100000 in
theorem uX7_forget_X7 : ∀ w ∈ u_ws RX7 TX7 10, w ∈ wsX7_forget := by decide +kernel
set_option maxRecDepth 100000 in
theorem lX7_forget_37 : Cond.fieldLink RX7 37 (TX7 9).1 (TX7 9).2.1 (TX7 9).2.2.1 ∈ wsX7_forget := by decide +kernel
set_option maxRecDepth 100000 in
theorem qX7_forget_37 : hd_FP wsX7_forget RX7 vwCl 7 9 37 .boolean := ⟨RX7, TX7, 10, tyX7, rfl, by decide, uX7_forget_X7, lX7_forget_37, tyX7_ok, nmX7, rfl, rfl⟩
def wo_X7_forget : hd_xS := (hd_sQ (hd_sZ hs_sh 7 9 (hd_rL 0) (hd_iK (1))) hd_sRV)
def wm_X7_forget : hd_M := hd_mth 1 wo_X7_forget
set_option maxHeartbeats 4000000 in
set_option maxRecDepth 100000 in
theorem snd_X7_forget : hd_Snd vwCl hs_sh yX7_forget wsX7_forget 1 wm_X7_forget := hd_method (by decide) rfl rfl (by decide) (fun κ C Rk => (hd_seq (p1 := 5) (hd_sputZ C (p1 := 1) (p2 := 2) qX7_forget_37 (hd_aload_n C (kk0 := 0) dX7_forget_0) (hd_iconst C dX7_forget_1 (by decide)) dX7_forget_2) (hd_retV C Rk dX7_forget_5)))
/-! X7_shiftOf -/
theorem hw_X7_shiftOf : wsX7_shiftOf = Cond.code yX7_shiftOf cX7_shiftOf 1 (some .int) :: wsX7_shiftOf.tail := rfl
def wo_X7_shiftOf : hd_xS := (hd_sRI (hd_iB (fun x y => x * y) (hd_iK (3)) (hd_iB (fun x y => x - y) (hd_iK (7)) (hd_iL 0))))
def wm_X7_shiftOf : hd_M := hd_mth 1 wo_X7_shiftOf
set_option maxHeartbeats 4000000 in
set_option maxRecDepth 100000 in
theorem snd_X7_shiftOf : hd_Snd vwCl hs_sh yX7_shiftOf wsX7_shiftOf 1 wm_X7_shiftOf := hd_method (by decide) rfl rfl (by decide) (fun κ C Rk => (hd_retI C Rk (p1 := 6) (hd_imul C (p1 := 1) (p2 := 5) (hd_iconst C dX7_shiftOf_0 (by decide)) (hd_isub C (p1 := 3) (p2 := 4) (hd_bipush C dX7_shiftOf_1 (by decide)) (hd_iload_n C (kk0 := 0) dX7_shiftOf_3) dX7_shiftOf_4) dX7_shiftOf_5) dX7_shiftOf_6))
/-! X7_tripsOf -/
theorem hw_X7_tripsOf : wsX7_tripsOf = Cond.code yX7_tripsOf cX7_tripsOf 2 (some .int) :: wsX7_tripsOf.tail := rfl
set_option maxRecDepth 100000 in
theorem wX7_tripsOf_0 : Cond.constantLong RX7 49 (1152921504606846976) ∈ wsX7_tripsOf := by decide +kernel
def wo_X7_tripsOf : hd_xS := (hd_sRI (hd_iQ (hd_cJ (fun x y => decide (x = y)) (hd_jL 0) (hd_jK (1152921504606846976))) (hd_iK (-1)) (hd_iJ (hd_jH (fun x y => x >>> (y.toInt64 &&& 63)) (hd_jL 0) (hd_iK (24))))))
def wm_X7_tripsOf : hd_M := hd_mth 2 wo_X7_tripsOf
set_option maxHeartbeats 4000000 in
set_option maxRecDepth 100000 in
theorem snd_X7_tripsOf : hd_Snd vwCl hs_sh yX7_tripsOf wsX7_tripsOf 1 wm_X7_tripsOf := hd_method (by decide) rfl rfl (by decide) (fun κ C Rk => (hd_retI C Rk (p1 := 17) (hd_tnI C (p1 := 8) (p2 := 9) (p3 := 12) (p4 := 17) (hd_l_eqF C (p1 := 1) (p2 := 4) (tgt := 12) (hd_lload_n C (kk0 := 0) dX7_tripsOf_0) (hd_ldc2 C wX7_tripsOf_0 dX7_tripsOf_1) dX7_tripsOf_4 dX7_tripsOf_5 (by decide)) (hd_iconst C dX7_tripsOf_8 (by decide)) dX7_tripsOf_9 (by decide) (hd_l2i C (p1 := 16) (hd_lshr C (p1 := 13) (p2 := 15) (hd_lload_n C (kk0 := 0) dX7_tripsOf_12) (hd_bipush C dX7_tripsOf_13 (by decide)) dX7_tripsOf_15) dX7_tripsOf_16)) dX7_tripsOf_17))
/-! X8_aboutHall -/
theorem hw_X8_aboutHall : wsX8_aboutHall = Cond.code yX8_aboutHall cX8_aboutHall 3 (some .int) :: wsX8_aboutHall.tail := rfl
set_option maxRecDepth 100000 in
theorem uX8_aboutHall_X8 : ∀ w ∈ u_ws RX8 TX8 9, w ∈ wsX8_aboutHall := by decide +kernel
set_option maxRecDepth 100000 in
theorem lX8_aboutHall_12 : Cond.fieldLink RX8 12 (TX8 0).1 (TX8 0).2.1 (TX8 0).2.2.1 ∈ wsX8_aboutHall := by decide +kernel
set_option maxRecDepth 100000 in
theorem fX8_aboutHall_12 : hd_F wsX8_aboutHall RX8 vwCl 8 0 12 := ⟨RX8, TX8, 9, rfl, by decide, uX8_aboutHall_X8, lX8_aboutHall_12⟩
set_option maxRecDepth 100000 in
theorem uX8_aboutHall_X5 : ∀ w ∈ u_ws RX5 TX5 10, w ∈ wsX8_aboutHall := by decide +kernel
set_option maxRecDepth 100000 in
theorem lX8_aboutHall_114 : Cond.fieldLink RX8 114 (TX5 5).1 (TX5 5).2.1 (TX5 5).2.2.1 ∈ wsX8_aboutHall := by decide +kernel
set_option maxRecDepth 100000 in
theorem fX8_aboutHall_114 : hd_F wsX8_aboutHall RX8 vwCl 5 5 114 := ⟨RX5, TX5, 10, rfl, by decide, uX8_aboutHall_X5, lX8_aboutHall_114⟩
set_option maxRecDepth 100000 in
theorem lX8_aboutHall_117 : Cond.fieldLink RX8 117 (TX5 6).1 (TX5 6).2.1 (TX5 6).2.2.1 ∈ wsX8_aboutHall := by decide +kernel
set_option maxRecDepth 100000 in
theorem fX8_aboutHall_117 : hd_F wsX8_aboutHall RX8 vwCl 5 6 117 := ⟨RX5, TX5, 10, rfl, by decide, uX8_aboutHall_X5, lX8_aboutHall_117⟩
set_option maxRecDepth 100000 in
theorem lX8_aboutHall_130 : Cond.fieldLink RX8 130 (TX5 7).1 (TX5 7).2.1 (TX5 7).2.2.1 ∈ wsX8_aboutHall := by decide +kernel
set_option maxRecDepth 100000 in
theorem fX8_aboutHall_130 : hd_F wsX8_aboutHall RX8 vwCl 5 7 130 := ⟨RX5, TX5, 10, rfl, by decide, uX8_aboutHall_X5, lX8_aboutHall_130⟩
set_option maxRecDepth 100000 in
theorem lX8_aboutHall_127 : Cond.fieldLink RX8 127 (TX5 8).1 (TX5 8).2.1 (TX5 8).2.2.1 ∈ wsX8_aboutHall := by decide +kernel
set_option maxRecDepth 100000 in
theorem fX8_aboutHall_127 : hd_F wsX8_aboutHall RX8 vwCl 5 8 127 := ⟨RX5, TX5, 10, rfl, by decide, uX8_aboutHall_X5, lX8_aboutHall_127⟩
def wo_X8_aboutHall : hd_xS := (hd_sSw (hd_iL 2) [(hd_sRI (hd_iA hs_sh (hd_rG hs_sh 5 5 (hd_rG hs_sh 8 0 (hd_rL 0))) (hd_iL 1))), (hd_sRI (hd_iA hs_sh (hd_rG hs_sh 5 6 (hd_rG hs_sh 8 0 (hd_rL 0))) (hd_iL 1))), (hd_sRI (hd_iA hs_sh (hd_rG hs_sh 5 7 (hd_rG hs_sh 8 0 (hd_rL 0))) (hd_iL 1))), (hd_sRI (hd_iA hs_sh (hd_rG hs_sh 5 8 (hd_rG hs_sh 8 0 (hd_rL 0))) (hd_iL 1)))] (hd_sRI (hd_iK (-3))))
def wm_X8_aboutHall : hd_M := hd_mth 3 wo_X8_aboutHall
set_option maxHeartbeats 4000000 in
set_option maxRecDepth 100000 in
theorem snd_X8_aboutHall : hd_Snd vwCl hs_sh yX8_aboutHall wsX8_aboutHall 1 wm_X8_aboutHall := hd_method (by decide) rfl rfl (by decide) (fun κ C Rk => (hd_switch2 C (p1 := 1) (tgt := 72) (hd_iload_n C (kk0 := 2) dX8_aboutHall_0) dX8_aboutHall_1 (by decide) (by decide) ⟨⟨31, 32, rfl, by decide, (hd_retI C Rk (p1 := 41) (hd_iald C (p1 := 39) (p2 := 40) (hd_getR C (p1 := 36) fX8_aboutHall_114 (hd_getR C (p1 := 33) fX8_aboutHall_12 (hd_aload_n C (kk0 := 0) dX8_aboutHall_32) dX8_aboutHall_33) dX8_aboutHall_36) (hd_iload_n C (kk0 := 1) dX8_aboutHall_39) dX8_aboutHall_40) dX8_aboutHall_41)⟩, ⟨41, 42, rfl, by decide, (hd_retI C Rk (p1 := 51) (hd_iald C (p1 := 49) (p2 := 50) (hd_getR C (p1 := 46) fX8_aboutHall_117 (hd_getR C (p1 := 43) fX8_aboutHall_12 (hd_aload_n C (kk0 := 0) dX8_aboutHall_42) dX8_aboutHall_43) dX8_aboutHall_46) (hd_iload_n C (kk0 := 1) dX8_aboutHall_49) dX8_aboutHall_50) dX8_aboutHall_51)⟩, ⟨51, 52, rfl, by decide, (hd_retI C Rk (p1 := 61) (hd_iald C (p1 := 59) (p2 := 60) (hd_getR C (p1 := 56) fX8_aboutHall_130 (hd_getR C (p1 := 53) fX8_aboutHall_12 (hd_aload_n C (kk0 := 0) dX8_aboutHall_52) dX8_aboutHall_53) dX8_aboutHall_56) (hd_iload_n C (kk0 := 1) dX8_aboutHall_59) dX8_aboutHall_60) dX8_aboutHall_61)⟩, ⟨61, 62, rfl, by decide, (hd_retI C Rk (p1 := 71) (hd_iald C (p1 := 69) (p2 := 70) (hd_getR C (p1 := 66) fX8_aboutHall_127 (hd_getR C (p1 := 63) fX8_aboutHall_12 (hd_aload_n C (kk0 := 0) dX8_aboutHall_62) dX8_aboutHall_63) dX8_aboutHall_66) (hd_iload_n C (kk0 := 1) dX8_aboutHall_69) dX8_aboutHall_70) dX8_aboutHall_71)⟩, trivial⟩ (by decide) (hd_retI C Rk (p1 := 74) (hd_bipush C dX8_aboutHall_72 (by decide)) dX8_aboutHall_74)))
/-! X8_aboutTown -/
theorem hw_X8_aboutTown : wsX8_aboutTown = Cond.code yX8_aboutTown cX8_aboutTown 3 (some .int) :: wsX8_aboutTown.tail := rfl
set_option maxRecDepth 100000 in
theorem uX8_aboutTown_X8 : ∀ w ∈ u_ws RX8 TX8 9, w ∈ wsX8_aboutTown := by decide +kernel
set_option maxRecDepth 100000 in
theorem lX8_aboutTown_12 : Cond.fieldLink RX8 12 (TX8 0).1 (TX8 0).2.1 (TX8 0).2.2.1 ∈ wsX8_aboutTown := by decide +kernel
set_option maxRecDepth 100000 in
theorem fX8_aboutTown_12 : hd_F wsX8_aboutTown RX8 vwCl 8 0 12 := ⟨RX8, TX8, 9, rfl, by decide, uX8_aboutTown_X8, lX8_aboutTown_12⟩
set_option maxRecDepth 100000 in
theorem uX8_aboutTown_X5 : ∀ w ∈ u_ws RX5 TX5 10, w ∈ wsX8_aboutTown := by decide +kernel
set_option maxRecDepth 100000 in
theorem lX8_aboutTown_96 : Cond.fieldLink RX8 96 (TX5 2).1 (TX5 2).2.1 (TX5 2).2.2.1 ∈ wsX8_aboutTown := by decide +kernel
set_option maxRecDepth 100000 in
theorem fX8_aboutTown_96 : hd_F wsX8_aboutTown RX8 vwCl 5 2 96 := ⟨RX5, TX5, 10, rfl, by decide, uX8_aboutTown_X5, lX8_aboutTown_96⟩
set_option maxRecDepth 100000 in
theorem lX8_aboutTown_105 : Cond.fieldLink RX8 105 (TX5 3).1 (TX5 3).2.1 (TX5 3).2.2.1 ∈ wsX8_aboutTown := by decide +kernel
set_option maxRecDepth 100000 in
theorem fX8_aboutTown_105 : hd_F wsX8_aboutTown RX8 vwCl 5 3 105 := ⟨RX5, TX5, 10, rfl, by decide, uX8_aboutTown_X5, lX8_aboutTown_105⟩
set_option maxRecDepth 100000 in
theorem lX8_aboutTown_108 : Cond.fieldLink RX8 108 (TX5 4).1 (TX5 4).2.1 (TX5 4).2.2.1 ∈ wsX8_aboutTown := by decide +kernel
set_option maxRecDepth 100000 in
theorem fX8_aboutTown_108 : hd_F wsX8_aboutTown RX8 vwCl 5 4 108 := ⟨RX5, TX5, 10, rfl, by decide, uX8_aboutTown_X5, lX8_aboutTown_108⟩
def wo_X8_aboutTown : hd_xS := (hd_sSw (hd_iL 2) [(hd_sRI (hd_iA hs_sh (hd_rG hs_sh 5 2 (hd_rG hs_sh 8 0 (hd_rL 0))) (hd_iL 1))), (hd_sRI (hd_iA hs_sh (hd_rG hs_sh 5 3 (hd_rG hs_sh 8 0 (hd_rL 0))) (hd_iL 1))), (hd_sRI (hd_iB (fun x y => x + y) (hd_iA hs_sh (hd_rG hs_sh 5 4 (hd_rG hs_sh 8 0 (hd_rL 0))) (hd_iL 1)) (hd_iK (1000))))] (hd_sRI (hd_iK (-3))))
def wm_X8_aboutTown : hd_M := hd_mth 3 wo_X8_aboutTown
set_option maxHeartbeats 4000000 in
set_option maxRecDepth 100000 in
theorem snd_X8_aboutTown : hd_Snd vwCl hs_sh yX8_aboutTown wsX8_aboutTown 1 wm_X8_aboutTown := hd_method (by decide) rfl rfl (by decide) (fun κ C Rk => (hd_switch2 C (p1 := 1) (tgt := 62) (hd_iload_n C (kk0 := 2) dX8_aboutTown_0) dX8_aboutTown_1 (by decide) (by decide) ⟨⟨27, 28, rfl, by decide, (hd_retI C Rk (p1 := 37) (hd_iald C (p1 := 35) (p2 := 36) (hd_getR C (p1 := 32) fX8_aboutTown_96 (hd_getR C (p1 := 29) fX8_aboutTown_12 (hd_aload_n C (kk0 := 0) dX8_aboutTown_28) dX8_aboutTown_29) dX8_aboutTown_32) (hd_iload_n C (kk0 := 1) dX8_aboutTown_35) dX8_aboutTown_36) dX8_aboutTown_37)⟩, ⟨37, 38, rfl, by decide, (hd_retI C Rk (p1 := 47) (hd_iald C (p1 := 45) (p2 := 46) (hd_getR C (p1 := 42) fX8_aboutTown_105 (hd_getR C (p1 := 39) fX8_aboutTown_12 (hd_aload_n C (kk0 := 0) dX8_aboutTown_38) dX8_aboutTown_39) dX8_aboutTown_42) (hd_iload_n C (kk0 := 1) dX8_aboutTown_45) dX8_aboutTown_46) dX8_aboutTown_47)⟩, ⟨47, 48, rfl, by decide, (hd_retI C Rk (p1 := 61) (hd_iadd C (p1 := 57) (p2 := 60) (hd_iald C (p1 := 55) (p2 := 56) (hd_getR C (p1 := 52) fX8_aboutTown_108 (hd_getR C (p1 := 49) fX8_aboutTown_12 (hd_aload_n C (kk0 := 0) dX8_aboutTown_48) dX8_aboutTown_49) dX8_aboutTown_52) (hd_iload_n C (kk0 := 1) dX8_aboutTown_55) dX8_aboutTown_56) (hd_sipush C dX8_aboutTown_57 (by decide)) dX8_aboutTown_60) dX8_aboutTown_61)⟩, trivial⟩ (by decide) (hd_retI C Rk (p1 := 64) (hd_bipush C dX8_aboutTown_62 (by decide)) dX8_aboutTown_64)))
/-! X8_commonDivisor -/
theorem hw_X8_commonDivisor : wsX8_commonDivisor = Cond.code yX8_commonDivisor cX8_commonDivisor 11 (some .long) :: wsX8_commonDivisor.tail := rfl
set_option maxRecDepth 100000 in
theorem wX8_commonDivisor_0 : Cond.methodLink RX8 284 Lib.MathLoose.abs_long.x ∈ wsX8_commonDivisor := by decide +kernel
set_option maxRecDepth 100000 in
theorem wX8_commonDivisor_1 : Cond.static Lib.MathLoose.abs_long.x ∈ wsX8_commonDivisor := by decide +kernel
set_option maxRecDepth 100000 in
theorem wX8_commonDivisor_2 : Cond.initialized "java/lang/Math" ∈ wsX8_commonDivisor := by decide +kernel
set_option maxRecDepth 100000 in
theorem wX8_commonDivisor_3 : Cond.code Lib.MathLoose.abs_long.x Lib.MathLoose.abs_long.code 2 (some .long) ∈ wsX8_commonDivisor := by decide +kernel
set_option maxRecDepth 100000 in
theorem wX8_commonDivisor_4 : Cond.methodLink RX8 290 Lib.MathLoose.max_long.x ∈ wsX8_commonDivisor := by decide +kernel
set_option maxRecDepth 100000 in
theorem wX8_commonDivisor_5 : Cond.static Lib.MathLoose.max_long.x ∈ wsX8_commonDivisor := by decide +kernel
set_option maxRecDepth 100000 in
theorem wX8_commonDivisor_6 : Cond.code Lib.MathLoose.max_long.x Lib.MathLoose.max_long.code 4 (some .long) ∈ wsX8_commonDivisor := by decide +kernel
def wc_X8_commonDivisor_9 : hd_xC := (hd_cA (hd_cI (fun x y => decide (x < y)) (hd_iL 8) (hd_iK (200))) (hd_cJ (fun x y => !decide (x = y)) (hd_jL 6) (hd_jK (0))))
def wb_X8_commonDivisor_9 : hd_xS := (hd_sQ (hd_sQ (hd_sJ 9 (hd_jD (fun x y => x - x / y * y) (hd_jL 4) (hd_jL 6))) (hd_sQ (hd_sJ 4 (hd_jL 6)) (hd_sJ 6 (hd_jL 9)))) (hd_sP 8 (1)))
def wo_X8_commonDivisor : hd_xS := (hd_sQ (hd_sJ 4 (hd_jL 0)) (hd_sQ (hd_sJ 6 (hd_jL 2)) (hd_sQ (hd_sQ (hd_sI 8 (hd_iK (0))) (hd_sH (wc_X8_commonDivisor_9) (wb_X8_commonDivisor_9))) (hd_sRJ (hd_jB (fun x y => if y < x then x else y) (hd_jK (1)) (hd_jU (fun x => if 0 < x then x else -x) (hd_jL 4)))))))
def wm_X8_commonDivisor : hd_M := hd_mth 11 wo_X8_commonDivisor
set_option maxHeartbeats 4000000 in
set_option maxRecDepth 100000 in
theorem snd_X8_commonDivisor : hd_Snd vwCl hs_sh yX8_commonDivisor wsX8_commonDivisor 1 wm_X8_commonDivisor := hd_method (by decide) rfl rfl (by decide) (fun κ C Rk => (hd_seq (p1 := 3) (hd_slstore C (p1 := 1) (hd_lload_n C (kk0 := 0) dX8_commonDivisor_0) dX8_commonDivisor_1 (by decide)) (hd_seq (p1 := 6) (hd_slstore C (p1 := 4) (hd_lload_n C (kk0 := 2) dX8_commonDivisor_3) dX8_commonDivisor_4 (by decide)) (hd_seq (p1 := 45) (hd_seq (p1 := 9) (hd_sistore C (p1 := 7) (hd_iconst C dX8_commonDivisor_6 (by decide)) dX8_commonDivisor_7 (by decide)) (hd_loop C (p1 := 24) (p2 := 45) (hd_and (p1 := 17) (p2 := 24) (p3 := 45) (hd_c_ltF C (p1 := 11) (p2 := 14) (tgt := 45) (hd_iload C dX8_commonDivisor_9) (hd_sipush C dX8_commonDivisor_11 (by decide)) dX8_commonDivisor_14 (by decide)) (hd_l_neF C (p1 := 19) (p2 := 20) (tgt := 45) (hd_lload C dX8_commonDivisor_17) (hd_lconst C dX8_commonDivisor_19 (by decide)) dX8_commonDivisor_20 dX8_commonDivisor_21 (by decide))) (hd_seq (p1 := 39) (hd_seq (p1 := 31) (hd_slstore C (p1 := 29) (hd_lrem C (p1 := 26) (p2 := 28) (hd_lload C dX8_commonDivisor_24) (hd_lload C dX8_commonDivisor_26) dX8_commonDivisor_28) dX8_commonDivisor_29 (by decide)) (hd_seq (p1 := 35) (hd_slstore C (p1 := 33) (hd_lload C dX8_commonDivisor_31) dX8_commonDivisor_33 (by decide)) (hd_slstore C (p1 := 37) (hd_lload C dX8_commonDivisor_35) dX8_commonDivisor_37 (by decide)))) (hd_sgoto C (p1 := 42) (tgt := 9) (hd_ends (es := [42]) (by decide) (hd_siinc C dX8_commonDivisor_39 (by decide) (by decide))) dX8_commonDivisor_42 (by decide) (by decide))) (by decide))) (hd_retJ C Rk (p1 := 54) (hd_mmaxL C (p1 := 46) (p2 := 51) wX8_commonDivisor_4 wX8_commonDivisor_5 wX8_commonDivisor_2 wX8_commonDivisor_6 (by decide) (hd_lconst C dX8_commonDivisor_45 (by decide)) (hd_mabsL C (p1 := 48) wX8_commonDivisor_0 wX8_commonDivisor_1 wX8_commonDivisor_2 wX8_commonDivisor_3 (by decide) (hd_lload C dX8_commonDivisor_46) dX8_commonDivisor_48) dX8_commonDivisor_51) dX8_commonDivisor_54)))))
/-! X8_opened -/
theorem hw_X8_opened : wsX8_opened = Cond.code yX8_opened cX8_opened 1 (some .int) :: wsX8_opened.tail := rfl
set_option maxRecDepth 100000 in
theorem uX8_opened_X8 : ∀ w ∈ u_ws RX8 TX8 9, w ∈ wsX8_opened := by decide +kernel
set_option maxRecDepth 100000 in
theorem lX8_opened_167 : Cond.fieldLink RX8 167 (TX8 8).1 (TX8 8).2.1 (TX8 8).2.2.1 ∈ wsX8_opened := by decide +kernel
set_option maxRecDepth 100000 in
theorem fX8_opened_167 : hd_F wsX8_opened RX8 vwCl 8 8 167 := ⟨RX8, TX8, 9, rfl, by decide, uX8_opened_X8, lX8_opened_167⟩
def wo_X8_opened : hd_xS := (hd_sRI (hd_iG hs_sh 8 8 (hd_rL 0)))
def wm_X8_opened : hd_M := hd_mth 1 wo_X8_opened
set_option maxHeartbeats 4000000 in
set_option maxRecDepth 100000 in
theorem snd_X8_opened : hd_Snd vwCl hs_sh yX8_opened wsX8_opened 1 wm_X8_opened := hd_method (by decide) rfl rfl (by decide) (fun κ C Rk => (hd_retI C Rk (p1 := 4) (hd_getI C (p1 := 1) fX8_opened_167 (hd_aload_n C (kk0 := 0) dX8_opened_0) dX8_opened_1) dX8_opened_4))
/-! X8_within -/
theorem hw_X8_within : wsX8_within = Cond.code yX8_within cX8_within 3 (some .boolean) :: wsX8_within.tail := rfl
def wo_X8_within : hd_xS := (hd_sRZ (hd_iC (hd_cA (hd_cI (fun x y => decide (y ≤ x)) (hd_iL 0) (hd_iL 1)) (hd_cI (fun x y => decide (x ≤ y)) (hd_iL 0) (hd_iL 2)))))
def wm_X8_within : hd_M := hd_mth 3 wo_X8_within
set_option maxHeartbeats 4000000 in
set_option maxRecDepth 100000 in
theorem snd_X8_within : hd_Snd vwCl hs_sh yX8_within wsX8_within 1 wm_X8_within := hd_method (by decide) rfl rfl (by decide) (fun κ C Rk => (hd_retZ C Rk (p1 := 15) (hd_boC C (p1 := 10) (p3 := 14) (p4 := 15) (hd_and (p1 := 5) (p2 := 10) (p3 := 14) (hd_c_geF C (p1 := 1) (p2 := 2) (tgt := 14) (hd_iload_n C (kk0 := 0) dX8_within_0) (hd_iload_n C (kk0 := 1) dX8_within_1) dX8_within_2 (by decide)) (hd_c_leF C (p1 := 6) (p2 := 7) (tgt := 14) (hd_iload_n C (kk0 := 0) dX8_within_5) (hd_iload_n C (kk0 := 2) dX8_within_6) dX8_within_7 (by decide))) dX8_within_10 dX8_within_11 (by decide) dX8_within_14 rfl) dX8_within_15))
/-! X9_allHalls -/
theorem hw_X9_allHalls : wsX9_allHalls = Cond.code yX9_allHalls cX9_allHalls 1 (some .int) :: wsX9_allHalls.tail := rfl
set_option maxRecDepth 100000 in
theorem uX9_allHalls_X9 : ∀ w ∈ u_ws RX9 TX9 28, w ∈ wsX9_allHalls := by decide +kernel
set_option maxRecDepth 100000 in
theorem lX9_allHalls_71 : Cond.fieldLink RX9 71 (TX9 2).1 (TX9 2).2.1 (TX9 2).2.2.1 ∈ wsX9_allHalls := by decide +kernel
set_option maxRecDepth 100000 in
theorem fX9_allHalls_71 : hd_F wsX9_allHalls RX9 vwCl 9 2 71 := ⟨RX9, TX9, 28, rfl, by decide, uX9_allHalls_X9, lX9_allHalls_71⟩
def wo_X9_allHalls : hd_xS := (hd_sRI (hd_iB (fun x y => x - y) (hd_iB (fun x y => x <<< (y &&& 31)) (hd_iK (1)) (hd_iG hs_sh 9 2 (hd_rL 0))) (hd_iK (1))))
def wm_X9_allHalls : hd_M := hd_mth 1 wo_X9_allHalls
set_option maxHeartbeats 4000000 in
set_option maxRecDepth 100000 in
theorem snd_X9_allHalls : hd_Snd vwCl hs_sh yX9_allHalls wsX9_allHalls 1 wm_X9_allHalls := hd_method (by decide) rfl rfl (by decide) (fun κ C Rk => (hd_retI C Rk (p1 := 8) (hd_isub C (p1 := 6) (p2 := 7) (hd_ishl C (p1 := 1) (p2 := 5) (hd_iconst C dX9_allHalls_0 (by decide)) (hd_getI C (p1 := 2) fX9_allHalls_71 (hd_aload_n C (kk0 := 0) dX9_allHalls_1) dX9_allHalls_2) dX9_allHalls_5) (hd_iconst C dX9_allHalls_6 (by decide)) dX9_allHalls_7) dX9_allHalls_8))
/-! X9_allTowns -/
theorem hw_X9_allTowns : wsX9_allTowns = Cond.code yX9_allTowns cX9_allTowns 1 (some .int) :: wsX9_allTowns.tail := rfl
set_option maxRecDepth 100000 in
theorem uX9_allTowns_X9 : ∀ w ∈ u_ws RX9 TX9 28, w ∈ wsX9_allTowns := by decide +kernel
set_option maxRecDepth 100000 in
theorem lX9_allTowns_68 : Cond.fieldLink RX9 68 (TX9 1).1 (TX9 1).2.1 (TX9 1).2.2.1 ∈ wsX9_allTowns := by decide +kernel
set_option maxRecDepth 100000 in
theorem fX9_allTowns_68 : hd_F wsX9_allTowns RX9 vwCl 9 1 68 := ⟨RX9, TX9, 28, rfl, by decide, uX9_allTowns_X9, lX9_allTowns_68⟩
def wo_X9_allTowns : hd_xS := (hd_sRI (hd_iB (fun x y => x - y) (hd_iB (fun x y => x <<< (y &&& 31)) (hd_iK (1)) (hd_iG hs_sh 9 1 (hd_rL 0))) (hd_iK (1))))
def wm_X9_allTowns : hd_M := hd_mth 1 wo_X9_allTowns
set_option maxHeartbeats 4000000 in
set_option maxRecDepth 100000 in
theorem snd_X9_allTowns : hd_Snd vwCl hs_sh yX9_allTowns wsX9_allTowns 1 wm_X9_allTowns := hd_method (by decide) rfl rfl (by decide) (fun κ C Rk => (hd_retI C Rk (p1 := 8) (hd_isub C (p1 := 6) (p2 := 7) (hd_ishl C (p1 := 1) (p2 := 5) (hd_iconst C dX9_allTowns_0 (by decide)) (hd_getI C (p1 := 2) fX9_allTowns_68 (hd_aload_n C (kk0 := 0) dX9_allTowns_1) dX9_allTowns_2) dX9_allTowns_5) (hd_iconst C dX9_allTowns_6 (by decide)) dX9_allTowns_7) dX9_allTowns_8))
/-! X9_findSpots -/
theorem hw_X9_findSpots : wsX9_findSpots = Cond.code yX9_findSpots cX9_findSpots 4 none :: wsX9_findSpots.tail := rfl
set_option maxRecDepth 100000 in
theorem uX9_findSpots_X9 : ∀ w ∈ u_ws RX9 TX9 28, w ∈ wsX9_findSpots := by decide +kernel
set_option maxRecDepth 100000 in
theorem lX9_findSpots_189 : Cond.fieldLink RX9 189 (TX9 25).1 (TX9 25).2.1 (TX9 25).2.2.1 ∈ wsX9_findSpots := by decide +kernel
set_option maxRecDepth 100000 in
theorem qX9_findSpots_189 : hd_FP wsX9_findSpots RX9 vwCl 9 25 189 .int := ⟨RX9, TX9, 28, tyX9, rfl, by decide, uX9_findSpots_X9, lX9_findSpots_189, tyX9_ok, nmX9, rfl, rfl⟩
set_option maxRecDepth 100000 in
theorem lX9_findSpots_68 : Cond.fieldLink RX9 68 (TX9 1).1 (TX9 1).2.1 (TX9 1).2.2.1 ∈ wsX9_findSpots := by decide +kernel
set_option maxRecDepth 100000 in
theorem fX9_findSpots_68 : hd_F wsX9_findSpots RX9 vwCl 9 1 68 := ⟨RX9, TX9, 28, rfl, by decide, uX9_findSpots_X9, lX9_findSpots_68⟩
set_option maxRecDepth 100000 in
theorem lX9_findSpots_16 : Cond.fieldLink RX9 16 (TX9 5).1 (TX9 5).2.1 (TX9 5).2.2.1 ∈ wsX9_findSpots := by decide +kernel
set_option maxRecDepth 100000 in
theorem fX9_findSpots_16 : hd_F wsX9_findSpots RX9 vwCl 9 5 16 := ⟨RX9, TX9, 28, rfl, by decide, uX9_findSpots_X9, lX9_findSpots_16⟩
set_option maxRecDepth 100000 in
theorem lX9_findSpots_55 : Cond.fieldLink RX9 55 (TX9 26).1 (TX9 26).2.1 (TX9 26).2.2.1 ∈ wsX9_findSpots := by decide +kernel
set_option maxRecDepth 100000 in
theorem fX9_findSpots_55 : hd_F wsX9_findSpots RX9 vwCl 9 26 55 := ⟨RX9, TX9, 28, rfl, by decide, uX9_findSpots_X9, lX9_findSpots_55⟩
set_option maxRecDepth 100000 in
theorem fX9_findSpots_189 : hd_F wsX9_findSpots RX9 vwCl 9 25 189 := ⟨RX9, TX9, 28, rfl, by decide, uX9_findSpots_X9, lX9_findSpots_189⟩
def wc_X9_findSpots_20 : hd_xC := (hd_cI (fun x y => decide (x < y)) (hd_iL 3) (hd_iG hs_sh 9 1 (hd_rL 0)))
def wb_X9_findSpots_20 : hd_xS := (hd_sQ (hd_sI 2 (hd_iC (hd_cO (hd_c0 (fun x => !decide (x = 0)) (hd_iL 2)) (hd_cI (fun x y => decide (x = y)) (hd_iA hs_sh (hd_rG hs_sh 9 5 (hd_rL 0)) (hd_iL 3)) (hd_iL 1))))) (hd_sP 3 (1)))
def wc_X9_findSpots_9 : hd_xC := (hd_cI (fun x y => decide (x ≤ y)) (hd_iL 1) (hd_iK (1000)))
def wb_X9_findSpots_9 : hd_xS := (hd_sQ (hd_sQ (hd_sI 2 (hd_iK (0))) (hd_sQ (hd_sQ (hd_sI 3 (hd_iK (0))) (hd_sH (wc_X9_findSpots_20) (wb_X9_findSpots_20))) (hd_sW (hd_c0 (fun x => !decide (x = 0)) (hd_iL 2)) (hd_sQ (hd_sA hs_sh (hd_rG hs_sh 9 26 (hd_rL 0)) (hd_iG hs_sh 9 25 (hd_rL 0)) (hd_iL 1)) (hd_sG (fun x y => x + y) hs_sh 9 25 (hd_rL 0) (hd_iK (1))))))) (hd_sP 1 (1)))
def wo_X9_findSpots : hd_xS := (hd_sQ (hd_sF hs_sh 9 25 (hd_rL 0) (hd_iK (0))) (hd_sQ (hd_sQ (hd_sI 1 (hd_iK (-1000))) (hd_sH (wc_X9_findSpots_9) (wb_X9_findSpots_9))) hd_sRV))
def wm_X9_findSpots : hd_M := hd_mth 4 wo_X9_findSpots
set_option maxHeartbeats 4000000 in
set_option maxRecDepth 100000 in
theorem snd_X9_findSpots : hd_Snd vwCl hs_sh yX9_findSpots wsX9_findSpots 1 wm_X9_findSpots := hd_method (by decide) rfl rfl (by decide) (fun κ C Rk => (hd_seq (p1 := 5) (hd_sputI C (p1 := 1) (p2 := 2) qX9_findSpots_189 (hd_aload_n C (kk0 := 0) dX9_findSpots_0) (hd_iconst C dX9_findSpots_1 (by decide)) dX9_findSpots_2) (hd_seq (p1 := 84) (hd_seq (p1 := 9) (hd_sistore_n C (kk0 := 1) (p1 := 8) (hd_sipush C dX9_findSpots_5 (by decide)) dX9_findSpots_8 (by decide)) (hd_loop C (p1 := 16) (p2 := 84) (hd_c_leF C (p1 := 10) (p2 := 13) (tgt := 84) (hd_iload_n C (kk0 := 1) dX9_findSpots_9) (hd_sipush C dX9_findSpots_10 (by decide)) dX9_findSpots_13 (by decide)) (hd_seq (p1 := 78) (hd_seq (p1 := 18) (hd_sistore_n C (kk0 := 2) (p1 := 17) (hd_iconst C dX9_findSpots_16 (by decide)) dX9_findSpots_17 (by decide)) (hd_seq (p1 := 54) (hd_seq (p1 := 20) (hd_sistore_n C (kk0 := 3) (p1 := 19) (hd_iconst C dX9_findSpots_18 (by decide)) dX9_findSpots_19 (by decide)) (hd_loop C (p1 := 28) (p2 := 54) (hd_c_ltF C (p1 := 21) (p2 := 25) (tgt := 54) (hd_iload_n C (kk0 := 3) dX9_findSpots_20) (hd_getI C (p1 := 22) fX9_findSpots_68 (hd_aload_n C (kk0 := 0) dX9_findSpots_21) dX9_findSpots_22) dX9_findSpots_25 (by decide)) (hd_seq (p1 := 48) (hd_sistore_n C (kk0 := 2) (p1 := 47) (hd_boC C (p1 := 42) (p3 := 46) (p4 := 47) (hd_or (p1 := 32) (p2 := 42) (p3 := 46) (hd_z_neT C (p2 := 29) (tgt := 42) (hd_iload_n C (kk0 := 2) dX9_findSpots_28) dX9_findSpots_29 (by decide)) (hd_c_eqF C (p1 := 38) (p2 := 39) (tgt := 46) (hd_iald C (p1 := 36) (p2 := 37) (hd_getR C (p1 := 33) fX9_findSpots_16 (hd_aload_n C (kk0 := 0) dX9_findSpots_32) dX9_findSpots_33) (hd_iload_n C (kk0 := 3) dX9_findSpots_36) dX9_findSpots_37) (hd_iload_n C (kk0 := 1) dX9_findSpots_38) dX9_findSpots_39 (by decide))) dX9_findSpots_42 dX9_findSpots_43 (by decide) dX9_findSpots_46 rfl) dX9_findSpots_47 (by decide)) (hd_sgoto C (p1 := 51) (tgt := 20) (hd_ends (es := [51]) (by decide) (hd_siinc C dX9_findSpots_48 (by decide) (by decide))) dX9_findSpots_51 (by decide) (by decide))) (by decide))) (hd_if (p1 := 58) (p2 := 78) (hd_z_neF C (p2 := 55) (tgt := 78) (hd_iload_n C (kk0 := 2) dX9_findSpots_54) dX9_findSpots_55 (by decide)) (hd_seq (p1 := 68) (hd_siast C (p1 := 62) (p2 := 66) (p3 := 67) (hd_getR C (p1 := 59) fX9_findSpots_55 (hd_aload_n C (kk0 := 0) dX9_findSpots_58) dX9_findSpots_59) (hd_getI C (p1 := 63) fX9_findSpots_189 (hd_aload_n C (kk0 := 0) dX9_findSpots_62) dX9_findSpots_63) (hd_iload_n C (kk0 := 1) dX9_findSpots_66) dX9_findSpots_67) (hd_sfld_iadd C (p1 := 69) (p2 := 74) fX9_findSpots_189 qX9_findSpots_189 (hd_aload_n C (kk0 := 0) dX9_findSpots_68) dX9_findSpots_69 dX9_findSpots_70 (hd_iconst C dX9_findSpots_73 (by decide)) dX9_findSpots_74 dX9_findSpots_75)) (by decide)))) (hd_sgoto C (p1 := 81) (tgt := 9) (hd_ends (es := [81]) (by decide) (hd_siinc C dX9_findSpots_78 (by decide) (by decide))) dX9_findSpots_81 (by decide) (by decide))) (by decide))) (hd_retV C Rk dX9_findSpots_84))))
/-! X9_has -/
theorem hw_X9_has : wsX9_has = Cond.code yX9_has cX9_has 2 (some .boolean) :: wsX9_has.tail := rfl
def wo_X9_has : hd_xS := (hd_sRZ (hd_iC (hd_cI (fun x y => decide (x = y)) (hd_iB (fun x y => x &&& y) (hd_iB (fun x y => x >>> (y &&& 31)) (hd_iL 0) (hd_iL 1)) (hd_iK (1))) (hd_iK (1)))))
def wm_X9_has : hd_M := hd_mth 2 wo_X9_has
set_option maxHeartbeats 4000000 in
set_option maxRecDepth 100000 in
theorem snd_X9_has : hd_Snd vwCl hs_sh yX9_has wsX9_has 1 wm_X9_has := hd_method (by decide) rfl rfl (by decide) (fun κ C Rk => (hd_retZ C Rk (p1 := 14) (hd_boC C (p1 := 9) (p3 := 13) (p4 := 14) (hd_c_eqF C (p1 := 5) (p2 := 6) (tgt := 13) (hd_iand C (p1 := 3) (p2 := 4) (hd_ishr C (p1 := 1) (p2 := 2) (hd_iload_n C (kk0 := 0) dX9_has_0) (hd_iload_n C (kk0 := 1) dX9_has_1) dX9_has_2) (hd_iconst C dX9_has_3 (by decide)) dX9_has_4) (hd_iconst C dX9_has_5 (by decide)) dX9_has_6 (by decide)) dX9_has_9 dX9_has_10 (by decide) dX9_has_13 rfl) dX9_has_14))
/-! X9_in -/
theorem hw_X9_in : wsX9_in = Cond.code yX9_in cX9_in 3 (some .boolean) :: wsX9_in.tail := rfl
def wo_X9_in : hd_xS := (hd_sRZ (hd_iC (hd_cA (hd_cI (fun x y => decide (y ≤ x)) (hd_iL 0) (hd_iL 1)) (hd_cI (fun x y => decide (x ≤ y)) (hd_iL 0) (hd_iL 2)))))
def wm_X9_in : hd_M := hd_mth 3 wo_X9_in
set_option maxHeartbeats 4000000 in
set_option maxRecDepth 100000 in
theorem snd_X9_in : hd_Snd vwCl hs_sh yX9_in wsX9_in 1 wm_X9_in := hd_method (by decide) rfl rfl (by decide) (fun κ C Rk => (hd_retZ C Rk (p1 := 15) (hd_boC C (p1 := 10) (p3 := 14) (p4 := 15) (hd_and (p1 := 5) (p2 := 10) (p3 := 14) (hd_c_geF C (p1 := 1) (p2 := 2) (tgt := 14) (hd_iload_n C (kk0 := 0) dX9_in_0) (hd_iload_n C (kk0 := 1) dX9_in_1) dX9_in_2 (by decide)) (hd_c_leF C (p1 := 6) (p2 := 7) (tgt := 14) (hd_iload_n C (kk0 := 0) dX9_in_5) (hd_iload_n C (kk0 := 2) dX9_in_6) dX9_in_7 (by decide))) dX9_in_10 dX9_in_11 (by decide) dX9_in_14 rfl) dX9_in_15))
/-! X9_isAhead -/
theorem hw_X9_isAhead : wsX9_isAhead = Cond.code yX9_isAhead cX9_isAhead 3 (some .boolean) :: wsX9_isAhead.tail := rfl
def wo_X9_isAhead : hd_xS := (hd_sQ (hd_sI 2 (hd_iB (fun x y => x ^^^ y) (hd_iL 0) (hd_iL 1))) (hd_sRZ (hd_iC (hd_c0 (fun x => !decide (x = 0)) (hd_iB (fun x y => x &&& y) (hd_iB (fun x y => x &&& y) (hd_iL 0) (hd_iL 2)) (hd_iU (fun x => -x) (hd_iL 2)))))))
def wm_X9_isAhead : hd_M := hd_mth 3 wo_X9_isAhead
set_option maxHeartbeats 4000000 in
set_option maxRecDepth 100000 in
theorem snd_X9_isAhead : hd_Snd vwCl hs_sh yX9_isAhead wsX9_isAhead 1 wm_X9_isAhead := hd_method (by decide) rfl rfl (by decide) (fun κ C Rk => (hd_seq (p1 := 4) (hd_sistore_n C (kk0 := 2) (p1 := 3) (hd_ixor C (p1 := 1) (p2 := 2) (hd_iload_n C (kk0 := 0) dX9_isAhead_0) (hd_iload_n C (kk0 := 1) dX9_isAhead_1) dX9_isAhead_2) dX9_isAhead_3 (by decide)) (hd_retZ C Rk (p1 := 18) (hd_boC C (p1 := 13) (p3 := 17) (p4 := 18) (hd_z_neF C (p2 := 10) (tgt := 17) (hd_iand C (p1 := 7) (p2 := 9) (hd_iand C (p1 := 5) (p2 := 6) (hd_iload_n C (kk0 := 0) dX9_isAhead_4) (hd_iload_n C (kk0 := 2) dX9_isAhead_5) dX9_isAhead_6) (hd_ineg C (p1 := 8) (hd_iload_n C (kk0 := 2) dX9_isAhead_7) dX9_isAhead_8) dX9_isAhead_9) dX9_isAhead_10 (by decide)) dX9_isAhead_13 dX9_isAhead_14 (by decide) dX9_isAhead_17 rfl) dX9_isAhead_18)))
/-! X9_opened -/
theorem hw_X9_opened : wsX9_opened = Cond.code yX9_opened cX9_opened 1 (some .int) :: wsX9_opened.tail := rfl
set_option maxRecDepth 100000 in
theorem uX9_opened_X9 : ∀ w ∈ u_ws RX9 TX9 28, w ∈ wsX9_opened := by decide +kernel
set_option maxRecDepth 100000 in
theorem lX9_opened_58 : Cond.fieldLink RX9 58 (TX9 0).1 (TX9 0).2.1 (TX9 0).2.2.1 ∈ wsX9_opened := by decide +kernel
set_option maxRecDepth 100000 in
theorem qX9_opened_58 : hd_FP wsX9_opened RX9 vwCl 9 0 58 .int := ⟨RX9, TX9, 28, tyX9, rfl, by decide, uX9_opened_X9, lX9_opened_58, tyX9_ok, nmX9, rfl, rfl⟩
set_option maxRecDepth 100000 in
theorem lX9_opened_84 : Cond.fieldLink RX9 84 (TX9 14).1 (TX9 14).2.1 (TX9 14).2.2.1 ∈ wsX9_opened := by decide +kernel
set_option maxRecDepth 100000 in
theorem fX9_opened_84 : hd_F wsX9_opened RX9 vwCl 9 14 84 := ⟨RX9, TX9, 28, rfl, by decide, uX9_opened_X9, lX9_opened_84⟩
def wo_X9_opened : hd_xS := (hd_sQ (hd_sF hs_sh 9 0 (hd_rL 0) (hd_iK (0))) (hd_sRI (hd_iG hs_sh 9 14 (hd_rL 0))))
def wm_X9_opened : hd_M := hd_mth 1 wo_X9_opened
set_option maxHeartbeats 4000000 in
set_option maxRecDepth 100000 in
theorem snd_X9_opened : hd_Snd vwCl hs_sh yX9_opened wsX9_opened 1 wm_X9_opened := hd_method (by decide) rfl rfl (by decide) (fun κ C Rk => (hd_seq (p1 := 5) (hd_sputI C (p1 := 1) (p2 := 2) qX9_opened_58 (hd_aload_n C (kk0 := 0) dX9_opened_0) (hd_iconst C dX9_opened_1 (by decide)) dX9_opened_2) (hd_retI C Rk (p1 := 9) (hd_getI C (p1 := 6) fX9_opened_84 (hd_aload_n C (kk0 := 0) dX9_opened_5) dX9_opened_6) dX9_opened_9)))
/-! X9_orders -/
theorem hw_X9_orders : wsX9_orders = Cond.code yX9_orders cX9_orders 4 (some .long) :: wsX9_orders.tail := rfl
def wc_X9_orders_4 : hd_xC := (hd_cI (fun x y => decide (x ≤ y)) (hd_iL 3) (hd_iL 0))
def wb_X9_orders_4 : hd_xS := (hd_sQ (hd_sJ 1 (hd_jB (fun x y => x * y) (hd_jL 1) (hd_jI (hd_iL 3)))) (hd_sP 3 (1)))
def wo_X9_orders : hd_xS := (hd_sQ (hd_sJ 1 (hd_jK (1))) (hd_sQ (hd_sQ (hd_sI 3 (hd_iK (2))) (hd_sH (wc_X9_orders_4) (wb_X9_orders_4))) (hd_sRJ (hd_jL 1))))
def wm_X9_orders : hd_M := hd_mth 4 wo_X9_orders
set_option maxHeartbeats 4000000 in
set_option maxRecDepth 100000 in
theorem snd_X9_orders : hd_Snd vwCl hs_sh yX9_orders wsX9_orders 1 wm_X9_orders := hd_method (by decide) rfl rfl (by decide) (fun κ C Rk => (hd_seq (p1 := 2) (hd_slstore_n C (kk0 := 1) (p1 := 1) (hd_lconst C dX9_orders_0 (by decide)) dX9_orders_1 (by decide)) (hd_seq (p1 := 20) (hd_seq (p1 := 4) (hd_sistore_n C (kk0 := 3) (p1 := 3) (hd_iconst C dX9_orders_2 (by decide)) dX9_orders_3 (by decide)) (hd_loop C (p1 := 9) (p2 := 20) (hd_c_leF C (p1 := 5) (p2 := 6) (tgt := 20) (hd_iload_n C (kk0 := 3) dX9_orders_4) (hd_iload_n C (kk0 := 0) dX9_orders_5) dX9_orders_6 (by decide)) (hd_seq (p1 := 14) (hd_slstore_n C (kk0 := 1) (p1 := 13) (hd_lmul C (p1 := 10) (p2 := 12) (hd_lload_n C (kk0 := 1) dX9_orders_9) (hd_i2l C (p1 := 11) (hd_iload_n C (kk0 := 3) dX9_orders_10) dX9_orders_11) dX9_orders_12) dX9_orders_13 (by decide)) (hd_sgoto C (p1 := 17) (tgt := 4) (hd_ends (es := [17]) (by decide) (hd_siinc C dX9_orders_14 (by decide) (by decide))) dX9_orders_17 (by decide) (by decide))) (by decide))) (hd_retJ C Rk (p1 := 21) (hd_lload_n C (kk0 := 1) dX9_orders_20) dX9_orders_21))))
/-! X9_read -/
theorem hw_X9_read : wsX9_read = Cond.code yX9_read cX9_read 4 none :: wsX9_read.tail := rfl
set_option maxRecDepth 100000 in
theorem uX9_read_X9 : ∀ w ∈ u_ws RX9 TX9 28, w ∈ wsX9_read := by decide +kernel
set_option maxRecDepth 100000 in
theorem lX9_read_34 : Cond.fieldLink RX9 34 (TX9 11).1 (TX9 11).2.1 (TX9 11).2.2.1 ∈ wsX9_read := by decide +kernel
set_option maxRecDepth 100000 in
theorem fX9_read_34 : hd_F wsX9_read RX9 vwCl 9 11 34 := ⟨RX9, TX9, 28, rfl, by decide, uX9_read_X9, lX9_read_34⟩
set_option maxRecDepth 100000 in
theorem lX9_read_62 : Cond.fieldLink RX9 62 (TX9 16).1 (TX9 16).2.1 (TX9 16).2.2.1 ∈ wsX9_read := by decide +kernel
set_option maxRecDepth 100000 in
theorem fX9_read_62 : hd_F wsX9_read RX9 vwCl 9 16 62 := ⟨RX9, TX9, 28, rfl, by decide, uX9_read_X9, lX9_read_62⟩
set_option maxRecDepth 100000 in
theorem qX9_read_62 : hd_FP wsX9_read RX9 vwCl 9 16 62 .int := ⟨RX9, TX9, 28, tyX9, rfl, by decide, uX9_read_X9, lX9_read_62, tyX9_ok, nmX9, rfl, rfl⟩
def wc_X9_read_2 : hd_xC := (hd_cI (fun x y => decide (x < y)) (hd_iL 3) (hd_iL 2))
def wb_X9_read_2 : hd_xS := (hd_sQ (hd_sQ (hd_sA hs_sh (hd_rL 1) (hd_iL 3) (hd_iA hs_sh (hd_rG hs_sh 9 11 (hd_rL 0)) (hd_iG hs_sh 9 16 (hd_rL 0)))) (hd_sG (fun x y => x + y) hs_sh 9 16 (hd_rL 0) (hd_iK (1)))) (hd_sP 3 (1)))
def wo_X9_read : hd_xS := (hd_sQ (hd_sQ (hd_sI 3 (hd_iK (0))) (hd_sH (wc_X9_read_2) (wb_X9_read_2))) hd_sRV)
def wm_X9_read : hd_M := hd_mth 4 wo_X9_read
set_option maxHeartbeats 4000000 in
set_option maxRecDepth 100000 in
theorem snd_X9_read : hd_Snd vwCl hs_sh yX9_read wsX9_read 1 wm_X9_read := hd_method (by decide) rfl rfl (by decide) (fun κ C Rk => (hd_seq (p1 := 35) (hd_seq (p1 := 2) (hd_sistore_n C (kk0 := 3) (p1 := 1) (hd_iconst C dX9_read_0 (by decide)) dX9_read_1 (by decide)) (hd_loop C (p1 := 7) (p2 := 35) (hd_c_ltF C (p1 := 3) (p2 := 4) (tgt := 35) (hd_iload_n C (kk0 := 3) dX9_read_2) (hd_iload_n C (kk0 := 2) dX9_read_3) dX9_read_4 (by decide)) (hd_seq (p1 := 29) (hd_seq (p1 := 19) (hd_siast C (p1 := 8) (p2 := 9) (p3 := 18) (hd_aload_n C (kk0 := 1) dX9_read_7) (hd_iload_n C (kk0 := 3) dX9_read_8) (hd_iald C (p1 := 13) (p2 := 17) (hd_getR C (p1 := 10) fX9_read_34 (hd_aload_n C (kk0 := 0) dX9_read_9) dX9_read_10) (hd_getI C (p1 := 14) fX9_read_62 (hd_aload_n C (kk0 := 0) dX9_read_13) dX9_read_14) dX9_read_17) dX9_read_18) (hd_sfld_iadd C (p1 := 20) (p2 := 25) fX9_read_62 qX9_read_62 (hd_aload_n C (kk0 := 0) dX9_read_19) dX9_read_20 dX9_read_21 (hd_iconst C dX9_read_24 (by decide)) dX9_read_25 dX9_read_26)) (hd_sgoto C (p1 := 32) (tgt := 2) (hd_ends (es := [32]) (by decide) (hd_siinc C dX9_read_29 (by decide) (by decide))) dX9_read_32 (by decide) (by decide))) (by decide))) (hd_retV C Rk dX9_read_35)))
/-! X9_sizeOf -/
theorem hw_X9_sizeOf : wsX9_sizeOf = Cond.code yX9_sizeOf cX9_sizeOf 3 (some .int) :: wsX9_sizeOf.tail := rfl
def wc_X9_sizeOf_4 : hd_xC := (hd_cI (fun x y => decide (x < y)) (hd_iL 2) (hd_iK (8)))
def wb_X9_sizeOf_4 : hd_xS := (hd_sQ (hd_sI 1 (hd_iB (fun x y => x + y) (hd_iL 1) (hd_iB (fun x y => x &&& y) (hd_iB (fun x y => x >>> (y &&& 31)) (hd_iL 0) (hd_iL 2)) (hd_iK (1))))) (hd_sP 2 (1)))
def wo_X9_sizeOf : hd_xS := (hd_sQ (hd_sI 1 (hd_iK (0))) (hd_sQ (hd_sQ (hd_sI 2 (hd_iK (0))) (hd_sH (wc_X9_sizeOf_4) (wb_X9_sizeOf_4))) (hd_sRI (hd_iL 1))))
def wm_X9_sizeOf : hd_M := hd_mth 3 wo_X9_sizeOf
set_option maxHeartbeats 4000000 in
set_option maxRecDepth 100000 in
theorem snd_X9_sizeOf : hd_Snd vwCl hs_sh yX9_sizeOf wsX9_sizeOf 1 wm_X9_sizeOf := hd_method (by decide) rfl rfl (by decide) (fun κ C Rk => (hd_seq (p1 := 2) (hd_sistore_n C (kk0 := 1) (p1 := 1) (hd_iconst C dX9_sizeOf_0 (by decide)) dX9_sizeOf_1 (by decide)) (hd_seq (p1 := 24) (hd_seq (p1 := 4) (hd_sistore_n C (kk0 := 2) (p1 := 3) (hd_iconst C dX9_sizeOf_2 (by decide)) dX9_sizeOf_3 (by decide)) (hd_loop C (p1 := 10) (p2 := 24) (hd_c_ltF C (p1 := 5) (p2 := 7) (tgt := 24) (hd_iload_n C (kk0 := 2) dX9_sizeOf_4) (hd_bipush C dX9_sizeOf_5 (by decide)) dX9_sizeOf_7 (by decide)) (hd_seq (p1 := 18) (hd_sistore_n C (kk0 := 1) (p1 := 17) (hd_iadd C (p1 := 11) (p2 := 16) (hd_iload_n C (kk0 := 1) dX9_sizeOf_10) (hd_iand C (p1 := 14) (p2 := 15) (hd_ishr C (p1 := 12) (p2 := 13) (hd_iload_n C (kk0 := 0) dX9_sizeOf_11) (hd_iload_n C (kk0 := 2) dX9_sizeOf_12) dX9_sizeOf_13) (hd_iconst C dX9_sizeOf_14 (by decide)) dX9_sizeOf_15) dX9_sizeOf_16) dX9_sizeOf_17 (by decide)) (hd_sgoto C (p1 := 21) (tgt := 4) (hd_ends (es := [21]) (by decide) (hd_siinc C dX9_sizeOf_18 (by decide) (by decide))) dX9_sizeOf_21 (by decide) (by decide))) (by decide))) (hd_retI C Rk (p1 := 25) (hd_iload_n C (kk0 := 1) dX9_sizeOf_24) dX9_sizeOf_25))))
/-! X9_wayOf -/
theorem hw_X9_wayOf : wsX9_wayOf = Cond.code yX9_wayOf cX9_wayOf 3 (some .int) :: wsX9_wayOf.tail := rfl
set_option maxRecDepth 100000 in
theorem uX9_wayOf_X9 : ∀ w ∈ u_ws RX9 TX9 28, w ∈ wsX9_wayOf := by decide +kernel
set_option maxRecDepth 100000 in
theorem lX9_wayOf_25 : Cond.fieldLink RX9 25 (TX9 8).1 (TX9 8).2.1 (TX9 8).2.2.1 ∈ wsX9_wayOf := by decide +kernel
set_option maxRecDepth 100000 in
theorem fX9_wayOf_25 : hd_F wsX9_wayOf RX9 vwCl 9 8 25 := ⟨RX9, TX9, 28, rfl, by decide, uX9_wayOf_X9, lX9_wayOf_25⟩
set_option maxRecDepth 100000 in
theorem lX9_wayOf_28 : Cond.fieldLink RX9 28 (TX9 9).1 (TX9 9).2.1 (TX9 9).2.2.1 ∈ wsX9_wayOf := by decide +kernel
set_option maxRecDepth 100000 in
theorem fX9_wayOf_28 : hd_F wsX9_wayOf RX9 vwCl 9 9 28 := ⟨RX9, TX9, 28, rfl, by decide, uX9_wayOf_X9, lX9_wayOf_28⟩
set_option maxRecDepth 100000 in
theorem lX9_wayOf_31 : Cond.fieldLink RX9 31 (TX9 10).1 (TX9 10).2.1 (TX9 10).2.2.1 ∈ wsX9_wayOf := by decide +kernel
set_option maxRecDepth 100000 in
theorem fX9_wayOf_31 : hd_F wsX9_wayOf RX9 vwCl 9 10 31 := ⟨RX9, TX9, 28, rfl, by decide, uX9_wayOf_X9, lX9_wayOf_31⟩
set_option maxRecDepth 100000 in
theorem wX9_wayOf_7 : Cond.constant RX9 106 (1000000) ∈ wsX9_wayOf := by decide +kernel
def wo_X9_wayOf : hd_xS := (hd_sRI (hd_iQ (hd_cA (hd_cI (fun x y => !decide (x = y)) (hd_iA hs_sh (hd_rG hs_sh 9 8 (hd_rL 0)) (hd_iL 1)) (hd_iK (-1))) (hd_cI (fun x y => decide (x < y)) (hd_iL 2) (hd_iA hs_sh (hd_rG hs_sh 9 9 (hd_rL 0)) (hd_iL 1)))) (hd_iA hs_sh (hd_rG hs_sh 9 10 (hd_rL 0)) (hd_iB (fun x y => x + y) (hd_iB (fun x y => x * y) (hd_iK (8)) (hd_iL 1)) (hd_iL 2))) (hd_iK (1000000))))
def wm_X9_wayOf : hd_M := hd_mth 3 wo_X9_wayOf
set_option maxHeartbeats 4000000 in
set_option maxRecDepth 100000 in
theorem snd_X9_wayOf : hd_Snd vwCl hs_sh yX9_wayOf wsX9_wayOf 1 wm_X9_wayOf := hd_method (by decide) rfl rfl (by decide) (fun κ C Rk => (hd_retI C Rk (p1 := 36) (hd_tnI C (p1 := 20) (p2 := 31) (p3 := 34) (p4 := 36) (hd_and (p1 := 10) (p2 := 20) (p3 := 34) (hd_c_neF C (p1 := 6) (p2 := 7) (tgt := 34) (hd_iald C (p1 := 4) (p2 := 5) (hd_getR C (p1 := 1) fX9_wayOf_25 (hd_aload_n C (kk0 := 0) dX9_wayOf_0) dX9_wayOf_1) (hd_iload_n C (kk0 := 1) dX9_wayOf_4) dX9_wayOf_5) (hd_iconst C dX9_wayOf_6 (by decide)) dX9_wayOf_7 (by decide)) (hd_c_ltF C (p1 := 11) (p2 := 17) (tgt := 34) (hd_iload_n C (kk0 := 2) dX9_wayOf_10) (hd_iald C (p1 := 15) (p2 := 16) (hd_getR C (p1 := 12) fX9_wayOf_28 (hd_aload_n C (kk0 := 0) dX9_wayOf_11) dX9_wayOf_12) (hd_iload_n C (kk0 := 1) dX9_wayOf_15) dX9_wayOf_16) dX9_wayOf_17 (by decide))) (hd_iald C (p1 := 24) (p2 := 30) (hd_getR C (p1 := 21) fX9_wayOf_31 (hd_aload_n C (kk0 := 0) dX9_wayOf_20) dX9_wayOf_21) (hd_iadd C (p1 := 28) (p2 := 29) (hd_imul C (p1 := 26) (p2 := 27) (hd_bipush C dX9_wayOf_24 (by decide)) (hd_iload_n C (kk0 := 1) dX9_wayOf_26) dX9_wayOf_27) (hd_iload_n C (kk0 := 2) dX9_wayOf_28) dX9_wayOf_29) dX9_wayOf_30) dX9_wayOf_31 (by decide) (hd_ldc C wX9_wayOf_7 dX9_wayOf_34)) dX9_wayOf_36))
/-! X9_write -/
theorem hw_X9_write : wsX9_write = Cond.code yX9_write cX9_write 4 none :: wsX9_write.tail := rfl
set_option maxRecDepth 100000 in
theorem uX9_write_X9 : ∀ w ∈ u_ws RX9 TX9 28, w ∈ wsX9_write := by decide +kernel
set_option maxRecDepth 100000 in
theorem lX9_write_34 : Cond.fieldLink RX9 34 (TX9 11).1 (TX9 11).2.1 (TX9 11).2.2.1 ∈ wsX9_write := by decide +kernel
set_option maxRecDepth 100000 in
theorem fX9_write_34 : hd_F wsX9_write RX9 vwCl 9 11 34 := ⟨RX9, TX9, 28, rfl, by decide, uX9_write_X9, lX9_write_34⟩
set_option maxRecDepth 100000 in
theorem lX9_write_62 : Cond.fieldLink RX9 62 (TX9 16).1 (TX9 16).2.1 (TX9 16).2.2.1 ∈ wsX9_write := by decide +kernel
set_option maxRecDepth 100000 in
theorem fX9_write_62 : hd_F wsX9_write RX9 vwCl 9 16 62 := ⟨RX9, TX9, 28, rfl, by decide, uX9_write_X9, lX9_write_62⟩
set_option maxRecDepth 100000 in
theorem qX9_write_62 : hd_FP wsX9_write RX9 vwCl 9 16 62 .int := ⟨RX9, TX9, 28, tyX9, rfl, by decide, uX9_write_X9, lX9_write_62, tyX9_ok, nmX9, rfl, rfl⟩
def wc_X9_write_2 : hd_xC := (hd_cI (fun x y => decide (x < y)) (hd_iL 3) (hd_iL 2))
def wb_X9_write_2 : hd_xS := (hd_sQ (hd_sQ (hd_sA hs_sh (hd_rG hs_sh 9 11 (hd_rL 0)) (hd_iG hs_sh 9 16 (hd_rL 0)) (hd_iA hs_sh (hd_rL 1) (hd_iL 3))) (hd_sG (fun x y => x + y) hs_sh 9 16 (hd_rL 0) (hd_iK (1)))) (hd_sP 3 (1)))
def wo_X9_write : hd_xS := (hd_sQ (hd_sQ (hd_sI 3 (hd_iK (0))) (hd_sH (wc_X9_write_2) (wb_X9_write_2))) hd_sRV)
def wm_X9_write : hd_M := hd_mth 4 wo_X9_write
set_option maxHeartbeats 4000000 in
set_option maxRecDepth 100000 in
theorem snd_X9_write : hd_Snd vwCl hs_sh yX9_write wsX9_write 1 wm_X9_write := hd_method (by decide) rfl rfl (by decide) (fun κ C Rk => (hd_seq (p1 := 35) (hd_seq (p1 := 2) (hd_sistore_n C (kk0 := 3) (p1 := 1) (hd_iconst C dX9_write_0 (by decide)) dX9_write_1 (by decide)) (hd_loop C (p1 := 7) (p2 := 35) (hd_c_ltF C (p1 := 3) (p2 := 4) (tgt := 35) (hd_iload_n C (kk0 := 3) dX9_write_2) (hd_iload_n C (kk0 := 2) dX9_write_3) dX9_write_4 (by decide)) (hd_seq (p1 := 29) (hd_seq (p1 := 19) (hd_siast C (p1 := 11) (p2 := 15) (p3 := 18) (hd_getR C (p1 := 8) fX9_write_34 (hd_aload_n C (kk0 := 0) dX9_write_7) dX9_write_8) (hd_getI C (p1 := 12) fX9_write_62 (hd_aload_n C (kk0 := 0) dX9_write_11) dX9_write_12) (hd_iald C (p1 := 16) (p2 := 17) (hd_aload_n C (kk0 := 1) dX9_write_15) (hd_iload_n C (kk0 := 3) dX9_write_16) dX9_write_17) dX9_write_18) (hd_sfld_iadd C (p1 := 20) (p2 := 25) fX9_write_62 qX9_write_62 (hd_aload_n C (kk0 := 0) dX9_write_19) dX9_write_20 dX9_write_21 (hd_iconst C dX9_write_24 (by decide)) dX9_write_25 dX9_write_26)) (hd_sgoto C (p1 := 32) (tgt := 2) (hd_ends (es := [32]) (by decide) (hd_siinc C dX9_write_29 (by decide) (by decide))) dX9_write_32 (by decide) (by decide))) (by decide))) (hd_retV C Rk dX9_write_35)))
/-! X0_firstBroken -/
theorem hw_X0_firstBroken : wsX0_firstBroken = Cond.code yX0_firstBroken cX0_firstBroken 4 (some .int) :: wsX0_firstBroken.tail := rfl
set_option maxRecDepth 100000 in
theorem uX0_firstBroken_X0 : ∀ w ∈ u_ws RX0 TX0 3, w ∈ wsX0_firstBroken := by decide +kernel
set_option maxRecDepth 100000 in
theorem lX0_firstBroken_18 : Cond.fieldLink RX0 18 (TX0 0).1 (TX0 0).2.1 (TX0 0).2.2.1 ∈ wsX0_firstBroken := by decide +kernel
set_option maxRecDepth 100000 in
theorem fX0_firstBroken_18 : hd_F wsX0_firstBroken RX0 vwCl 0 0 18 := ⟨RX0, TX0, 3, rfl, by decide, uX0_firstBroken_X0, lX0_firstBroken_18⟩
set_option maxRecDepth 100000 in
theorem uX0_firstBroken_X5 : ∀ w ∈ u_ws RX5 TX5 10, w ∈ wsX0_firstBroken := by decide +kernel
set_option maxRecDepth 100000 in
theorem lX0_firstBroken_32 : Cond.fieldLink RX0 32 (TX5 1).1 (TX5 1).2.1 (TX5 1).2.2.1 ∈ wsX0_firstBroken := by decide +kernel
set_option maxRecDepth 100000 in
theorem fX0_firstBroken_32 : hd_F wsX0_firstBroken RX0 vwCl 5 1 32 := ⟨RX5, TX5, 10, rfl, by decide, uX0_firstBroken_X5, lX0_firstBroken_32⟩
set_option maxRecDepth 100000 in
theorem lX0_firstBroken_22 : Cond.fieldLink RX0 22 (TX5 0).1 (TX5 0).2.1 (TX5 0).2.2.1 ∈ wsX0_firstBroken := by decide +kernel
set_option maxRecDepth 100000 in
theorem fX0_firstBroken_22 : hd_F wsX0_firstBroken RX0 vwCl 5 0 22 := ⟨RX5, TX5, 10, rfl, by decide, uX0_firstBroken_X5, lX0_firstBroken_22⟩
set_option maxRecDepth 100000 in
theorem lX0_firstBroken_9 : Cond.fieldLink RX0 9 (TX0 1).1 (TX0 1).2.1 (TX0 1).2.2.1 ∈ wsX0_firstBroken := by decide +kernel
set_option maxRecDepth 100000 in
theorem fX0_firstBroken_9 : hd_F wsX0_firstBroken RX0 vwCl 0 1 9 := ⟨RX0, TX0, 3, rfl, by decide, uX0_firstBroken_X0, lX0_firstBroken_9⟩
set_option maxRecDepth 100000 in
theorem yX0_firstBroken_X5_tripOf : yX5_tripOf.cls = RX5 ∧ yX5_tripOf.cls ≠ "java/lang/invoke/MethodHandle" ∧ yX5_tripOf.cls ≠ "java/lang/invoke/VarHandle" ∧ (parseMethodDescriptor yX5_tripOf.desc).map (fun d => d.parameters.length) = some 2 := by decide +kernel
set_option maxRecDepth 100000 in
theorem wX0_firstBroken_11 : Cond.methodLink RX0 39 Lib.Math.max.name ∈ wsX0_firstBroken := by decide +kernel
set_option maxRecDepth 100000 in
theorem wX0_firstBroken_12 : Cond.static Lib.Math.max.name ∈ wsX0_firstBroken := by decide +kernel
set_option maxRecDepth 100000 in
theorem wX0_firstBroken_13 : Cond.initialized "java/lang/Math" ∈ wsX0_firstBroken := by decide +kernel
set_option maxRecDepth 100000 in
theorem wX0_firstBroken_14 : Cond.code Lib.Math.max.name Lib.Math.max.code 2 (some .int) ∈ wsX0_firstBroken := by decide +kernel
set_option maxRecDepth 100000 in
theorem lX0_firstBroken_44 : Cond.fieldLink RX0 44 (TX5 5).1 (TX5 5).2.1 (TX5 5).2.2.1 ∈ wsX0_firstBroken := by decide +kernel
set_option maxRecDepth 100000 in
theorem fX0_firstBroken_44 : hd_F wsX0_firstBroken RX0 vwCl 5 5 44 := ⟨RX5, TX5, 10, rfl, by decide, uX0_firstBroken_X5, lX0_firstBroken_44⟩
def wc_X0_firstBroken_17 : hd_xC := (hd_cI (fun x y => decide (x < y)) (hd_iL 3) (hd_iG hs_sh 5 0 (hd_rG hs_sh 0 0 (hd_rL 0))))
def wb_X0_firstBroken_17 : hd_xS := (hd_sQ (hd_sI 2 (hd_iB (fun x y => x + y) (hd_iL 2) (hd_iB (fun x y => if x < y then y else x) (hd_iK (0)) (hd_iB (fun x y => x - y) (hd_iA hs_sh (hd_rG hs_sh 0 1 (hd_rL 0)) (hd_iL 3)) (hd_iN (hd_nV hs_sh 5 (hd_rG hs_sh 0 0 (hd_rL 0)) 2 (hd_pI (hd_pI hd_v0 (hd_iL 1)) (hd_iL 3)) wm_X5_tripOf)))))) (hd_sP 3 (1)))
def wc_X0_firstBroken_2 : hd_xC := (hd_cI (fun x y => decide (x < y)) (hd_iL 1) (hd_iG hs_sh 5 1 (hd_rG hs_sh 0 0 (hd_rL 0))))
def wb_X0_firstBroken_2 : hd_xS := (hd_sQ (hd_sQ (hd_sI 2 (hd_iK (0))) (hd_sQ (hd_sQ (hd_sI 3 (hd_iK (0))) (hd_sH (wc_X0_firstBroken_17) (wb_X0_firstBroken_17))) (hd_sW (hd_cI (fun x y => decide (y < x)) (hd_iL 2) (hd_iA hs_sh (hd_rG hs_sh 5 5 (hd_rG hs_sh 0 0 (hd_rL 0))) (hd_iL 1))) (hd_sRI (hd_iL 1))))) (hd_sP 1 (1)))
def wo_X0_firstBroken : hd_xS := (hd_sQ (hd_sQ (hd_sI 1 (hd_iK (0))) (hd_sH (wc_X0_firstBroken_2) (wb_X0_firstBroken_2))) (hd_sRI (hd_iK (-1))))
def wm_X0_firstBroken : hd_M := hd_mth 4 wo_X0_firstBroken
set_option maxHeartbeats 4000000 in
set_option maxRecDepth 100000 in
theorem snd_X0_firstBroken : hd_Snd vwCl hs_sh yX0_firstBroken wsX0_firstBroken 2 wm_X0_firstBroken := hd_method (by decide) rfl rfl (by decide) (fun κ C Rk => (hd_seq (p1 := 78) (hd_seq (p1 := 2) (hd_sistore_n C (kk0 := 1) (p1 := 1) (hd_iconst C dX0_firstBroken_0 (by decide)) dX0_firstBroken_1 (by decide)) (hd_loop C (p1 := 13) (p2 := 78) (hd_c_ltF C (p1 := 3) (p2 := 10) (tgt := 78) (hd_iload_n C (kk0 := 1) dX0_firstBroken_2) (hd_getI C (p1 := 7) fX0_firstBroken_32 (hd_getR C (p1 := 4) fX0_firstBroken_18 (hd_aload_n C (kk0 := 0) dX0_firstBroken_3) dX0_firstBroken_4) dX0_firstBroken_7) dX0_firstBroken_10 (by decide)) (hd_seq (p1 := 72) (hd_seq (p1 := 15) (hd_sistore_n C (kk0 := 2) (p1 := 14) (hd_iconst C dX0_firstBroken_13 (by decide)) dX0_firstBroken_14 (by decide)) (hd_seq (p1 := 57) (hd_seq (p1 := 17) (hd_sistore_n C (kk0 := 3) (p1 := 16) (hd_iconst C dX0_firstBroken_15 (by decide)) dX0_firstBroken_16 (by decide)) (hd_loop C (p1 := 28) (p2 := 57) (hd_c_ltF C (p1 := 18) (p2 := 25) (tgt := 57) (hd_iload_n C (kk0 := 3) dX0_firstBroken_17) (hd_getI C (p1 := 22) fX0_firstBroken_22 (hd_getR C (p1 := 19) fX0_firstBroken_18 (hd_aload_n C (kk0 := 0) dX0_firstBroken_18) dX0_firstBroken_19) dX0_firstBroken_22) dX0_firstBroken_25 (by decide)) (hd_seq (p1 := 51) (hd_sistore_n C (kk0 := 2) (p1 := 50) (hd_iadd C (p1 := 29) (p2 := 49) (hd_iload_n C (kk0 := 2) dX0_firstBroken_28) (hd_mmax C (p1 := 30) (p2 := 46) wX0_firstBroken_11 wX0_firstBroken_12 wX0_firstBroken_13 wX0_firstBroken_14 (by decide) (hd_iconst C dX0_firstBroken_29 (by decide)) (hd_isub C (p1 := 36) (p2 := 45) (hd_iald C (p1 := 34) (p2 := 35) (hd_getR C (p1 := 31) fX0_firstBroken_9 (hd_aload_n C (kk0 := 0) dX0_firstBroken_30) dX0_firstBroken_31) (hd_iload_n C (kk0 := 3) dX0_firstBroken_34) dX0_firstBroken_35) (hd_inI (hd_invV C (p1 := 40) (p2 := 42) snd_X5_tripOf hw_X5_tripOf gX0_firstBroken_X5_tripOf hs_c_5 yX0_firstBroken_X5_tripOf ⟨by decide, by decide⟩ (by decide) (hd_getR C (p1 := 37) fX0_firstBroken_18 (hd_aload_n C (kk0 := 0) dX0_firstBroken_36) dX0_firstBroken_37) (hd_apI (p1 := 41) (p2 := 42) (hd_apI (p1 := 40) (p2 := 41) hd_av0 (hd_iload_n C (kk0 := 1) dX0_firstBroken_40)) (hd_iload_n C (kk0 := 3) dX0_firstBroken_41)) dX0_firstBroken_42)) dX0_firstBroken_45) dX0_firstBroken_46) dX0_firstBroken_49) dX0_firstBroken_50 (by decide)) (hd_sgoto C (p1 := 54) (tgt := 17) (hd_ends (es := [54]) (by decide) (hd_siinc C dX0_firstBroken_51 (by decide) (by decide))) dX0_firstBroken_54 (by decide) (by decide))) (by decide))) (hd_if (p1 := 70) (p2 := 72) (hd_c_gtF C (p1 := 58) (p2 := 67) (tgt := 72) (hd_iload_n C (kk0 := 2) dX0_firstBroken_57) (hd_iald C (p1 := 65) (p2 := 66) (hd_getR C (p1 := 62) fX0_firstBroken_44 (hd_getR C (p1 := 59) fX0_firstBroken_18 (hd_aload_n C (kk0 := 0) dX0_firstBroken_58) dX0_firstBroken_59) dX0_firstBroken_62) (hd_iload_n C (kk0 := 1) dX0_firstBroken_65) dX0_firstBroken_66) dX0_firstBroken_67 (by decide)) (hd_retI C Rk (p1 := 71) (hd_iload_n C (kk0 := 1) dX0_firstBroken_70) dX0_firstBroken_71) (by decide)))) (hd_sgoto C (p1 := 75) (tgt := 2) (hd_ends (es := [75]) (by decide) (hd_siinc C dX0_firstBroken_72 (by decide) (by decide))) dX0_firstBroken_75 (by decide) (by decide))) (by decide))) (hd_retI C Rk (p1 := 79) (hd_iconst C dX0_firstBroken_78 (by decide)) dX0_firstBroken_79)))
/-! X0_pays -/
theorem hw_X0_pays : wsX0_pays = Cond.code yX0_pays cX0_pays 3 (some .boolean) :: wsX0_pays.tail := rfl
set_option maxRecDepth 100000 in
theorem uX0_pays_X0 : ∀ w ∈ u_ws RX0 TX0 3, w ∈ wsX0_pays := by decide +kernel
set_option maxRecDepth 100000 in
theorem lX0_pays_9 : Cond.fieldLink RX0 9 (TX0 1).1 (TX0 1).2.1 (TX0 1).2.2.1 ∈ wsX0_pays := by decide +kernel
set_option maxRecDepth 100000 in
theorem fX0_pays_9 : hd_F wsX0_pays RX0 vwCl 0 1 9 := ⟨RX0, TX0, 3, rfl, by decide, uX0_pays_X0, lX0_pays_9⟩
set_option maxRecDepth 100000 in
theorem lX0_pays_18 : Cond.fieldLink RX0 18 (TX0 0).1 (TX0 0).2.1 (TX0 0).2.2.1 ∈ wsX0_pays := by decide +kernel
set_option maxRecDepth 100000 in
theorem fX0_pays_18 : hd_F wsX0_pays RX0 vwCl 0 0 18 := ⟨RX0, TX0, 3, rfl, by decide, uX0_pays_X0, lX0_pays_18⟩
set_option maxRecDepth 100000 in
theorem yX0_pays_X5_tripOf : yX5_tripOf.cls = RX5 ∧ yX5_tripOf.cls ≠ "java/lang/invoke/MethodHandle" ∧ yX5_tripOf.cls ≠ "java/lang/invoke/VarHandle" ∧ (parseMethodDescriptor yX5_tripOf.desc).map (fun d => d.parameters.length) = some 2 := by decide +kernel
def wo_X0_pays : hd_xS := (hd_sRZ (hd_iC (hd_cI (fun x y => decide (y ≤ x)) (hd_iA hs_sh (hd_rG hs_sh 0 1 (hd_rL 0)) (hd_iL 1)) (hd_iN (hd_nV hs_sh 5 (hd_rG hs_sh 0 0 (hd_rL 0)) 2 (hd_pI (hd_pI hd_v0 (hd_iL 2)) (hd_iL 1)) wm_X5_tripOf)))))
def wm_X0_pays : hd_M := hd_mth 3 wo_X0_pays
set_option maxHeartbeats 4000000 in
set_option maxRecDepth 100000 in
theorem snd_X0_pays : hd_Snd vwCl hs_sh yX0_pays wsX0_pays 2 wm_X0_pays := hd_method (by decide) rfl rfl (by decide) (fun κ C Rk => (hd_retZ C Rk (p1 := 23) (hd_boC C (p1 := 18) (p3 := 22) (p4 := 23) (hd_c_geF C (p1 := 6) (p2 := 15) (tgt := 22) (hd_iald C (p1 := 4) (p2 := 5) (hd_getR C (p1 := 1) fX0_pays_9 (hd_aload_n C (kk0 := 0) dX0_pays_0) dX0_pays_1) (hd_iload_n C (kk0 := 1) dX0_pays_4) dX0_pays_5) (hd_inI (hd_invV C (p1 := 10) (p2 := 12) snd_X5_tripOf hw_X5_tripOf gX0_pays_X5_tripOf hs_c_5 yX0_pays_X5_tripOf ⟨by decide, by decide⟩ (by decide) (hd_getR C (p1 := 7) fX0_pays_18 (hd_aload_n C (kk0 := 0) dX0_pays_6) dX0_pays_7) (hd_apI (p1 := 11) (p2 := 12) (hd_apI (p1 := 10) (p2 := 11) hd_av0 (hd_iload_n C (kk0 := 2) dX0_pays_10)) (hd_iload_n C (kk0 := 1) dX0_pays_11)) dX0_pays_12)) dX0_pays_15 (by decide)) dX0_pays_18 dX0_pays_19 (by decide) dX0_pays_22 rfl) dX0_pays_23))
/-! X0_together -/
theorem hw_X0_together : wsX0_together = Cond.code yX0_together cX0_together 4 (some .int) :: wsX0_together.tail := rfl
set_option maxRecDepth 100000 in
theorem uX0_together_X0 : ∀ w ∈ u_ws RX0 TX0 3, w ∈ wsX0_together := by decide +kernel
set_option maxRecDepth 100000 in
theorem lX0_together_18 : Cond.fieldLink RX0 18 (TX0 0).1 (TX0 0).2.1 (TX0 0).2.2.1 ∈ wsX0_together := by decide +kernel
set_option maxRecDepth 100000 in
theorem fX0_together_18 : hd_F wsX0_together RX0 vwCl 0 0 18 := ⟨RX0, TX0, 3, rfl, by decide, uX0_together_X0, lX0_together_18⟩
set_option maxRecDepth 100000 in
theorem uX0_together_X5 : ∀ w ∈ u_ws RX5 TX5 10, w ∈ wsX0_together := by decide +kernel
set_option maxRecDepth 100000 in
theorem lX0_together_22 : Cond.fieldLink RX0 22 (TX5 0).1 (TX5 0).2.1 (TX5 0).2.2.1 ∈ wsX0_together := by decide +kernel
set_option maxRecDepth 100000 in
theorem fX0_together_22 : hd_F wsX0_together RX0 vwCl 5 0 22 := ⟨RX5, TX5, 10, rfl, by decide, uX0_together_X5, lX0_together_22⟩
set_option maxRecDepth 100000 in
theorem yX0_together_X5_isIn : yX5_isIn.cls ≠ "java/lang/invoke/MethodHandle" ∧ yX5_isIn.cls ≠ "java/lang/invoke/VarHandle" ∧ (parseMethodDescriptor yX5_isIn.desc).map (fun d => d.parameters.length) = some 2 := by decide +kernel
set_option maxRecDepth 100000 in
theorem lX0_together_9 : Cond.fieldLink RX0 9 (TX0 1).1 (TX0 1).2.1 (TX0 1).2.2.1 ∈ wsX0_together := by decide +kernel
set_option maxRecDepth 100000 in
theorem fX0_together_9 : hd_F wsX0_together RX0 vwCl 0 1 9 := ⟨RX0, TX0, 3, rfl, by decide, uX0_together_X0, lX0_together_9⟩
def wc_X0_together_4 : hd_xC := (hd_cI (fun x y => decide (x < y)) (hd_iL 3) (hd_iG hs_sh 5 0 (hd_rG hs_sh 0 0 (hd_rL 0))))
def wb_X0_together_4 : hd_xS := (hd_sQ (hd_sI 2 (hd_iB (fun x y => x + y) (hd_iL 2) (hd_iQ (hd_c0 (fun x => !decide (x = 0)) (hd_iN (hd_nS 2 (hd_pI (hd_pI hd_v0 (hd_iL 3)) (hd_iL 1)) wm_X5_isIn))) (hd_iA hs_sh (hd_rG hs_sh 0 1 (hd_rL 0)) (hd_iL 3)) (hd_iK (0))))) (hd_sP 3 (1)))
def wo_X0_together : hd_xS := (hd_sQ (hd_sI 2 (hd_iK (0))) (hd_sQ (hd_sQ (hd_sI 3 (hd_iK (0))) (hd_sH (wc_X0_together_4) (wb_X0_together_4))) (hd_sRI (hd_iL 2))))
def wm_X0_together : hd_M := hd_mth 4 wo_X0_together
set_option maxHeartbeats 4000000 in
set_option maxRecDepth 100000 in
theorem snd_X0_together : hd_Snd vwCl hs_sh yX0_together wsX0_together 2 wm_X0_together := hd_method (by decide) rfl rfl (by decide) (fun κ C Rk => (hd_seq (p1 := 2) (hd_sistore_n C (kk0 := 2) (p1 := 1) (hd_iconst C dX0_together_0 (by decide)) dX0_together_1 (by decide)) (hd_seq (p1 := 42) (hd_seq (p1 := 4) (hd_sistore_n C (kk0 := 3) (p1 := 3) (hd_iconst C dX0_together_2 (by decide)) dX0_together_3 (by decide)) (hd_loop C (p1 := 15) (p2 := 42) (hd_c_ltF C (p1 := 5) (p2 := 12) (tgt := 42) (hd_iload_n C (kk0 := 3) dX0_together_4) (hd_getI C (p1 := 9) fX0_together_22 (hd_getR C (p1 := 6) fX0_together_18 (hd_aload_n C (kk0 := 0) dX0_together_5) dX0_together_6) dX0_together_9) dX0_together_12 (by decide)) (hd_seq (p1 := 36) (hd_sistore_n C (kk0 := 2) (p1 := 35) (hd_iadd C (p1 := 16) (p2 := 34) (hd_iload_n C (kk0 := 2) dX0_together_15) (hd_tnI C (p1 := 24) (p2 := 30) (p3 := 33) (p4 := 34) (hd_z_neF C (p2 := 21) (tgt := 33) (hd_inI (hd_invS C (p2 := 18) snd_X5_isIn hw_X5_isIn gX0_together_X5_isIn yX0_together_X5_isIn ⟨by decide, by decide⟩ (by decide) (hd_apI (p1 := 17) (p2 := 18) (hd_apI (p1 := 16) (p2 := 17) hd_av0 (hd_iload_n C (kk0 := 3) dX0_together_16)) (hd_iload_n C (kk0 := 1) dX0_together_17)) dX0_together_18)) dX0_together_21 (by decide)) (hd_iald C (p1 := 28) (p2 := 29) (hd_getR C (p1 := 25) fX0_together_9 (hd_aload_n C (kk0 := 0) dX0_together_24) dX0_together_25) (hd_iload_n C (kk0 := 3) dX0_together_28) dX0_together_29) dX0_together_30 (by decide) (hd_iconst C dX0_together_33 (by decide))) dX0_together_34) dX0_together_35 (by decide)) (hd_sgoto C (p1 := 39) (tgt := 4) (hd_ends (es := [39]) (by decide) (hd_siinc C dX0_together_36 (by decide) (by decide))) dX0_together_39 (by decide) (by decide))) (by decide))) (hd_retI C Rk (p1 := 43) (hd_iload_n C (kk0 := 2) dX0_together_42) dX0_together_43))))
/-! X1_bestAt -/
theorem hw_X1_bestAt : wsX1_bestAt = Cond.code yX1_bestAt cX1_bestAt 4 (some .int) :: wsX1_bestAt.tail := rfl
set_option maxRecDepth 100000 in
theorem uX1_bestAt_X1 : ∀ w ∈ u_ws RX1 TX1 5, w ∈ wsX1_bestAt := by decide +kernel
set_option maxRecDepth 100000 in
theorem lX1_bestAt_15 : Cond.fieldLink RX1 15 (TX1 0).1 (TX1 0).2.1 (TX1 0).2.2.1 ∈ wsX1_bestAt := by decide +kernel
set_option maxRecDepth 100000 in
theorem fX1_bestAt_15 : hd_F wsX1_bestAt RX1 vwCl 1 0 15 := ⟨RX1, TX1, 5, rfl, by decide, uX1_bestAt_X1, lX1_bestAt_15⟩
set_option maxRecDepth 100000 in
theorem yX1_bestAt_X5_everyHall : yX5_everyHall.cls = RX5 ∧ yX5_everyHall.cls ≠ "java/lang/invoke/MethodHandle" ∧ yX5_everyHall.cls ≠ "java/lang/invoke/VarHandle" ∧ (parseMethodDescriptor yX5_everyHall.desc).map (fun d => d.parameters.length) = some 0 := by decide +kernel
set_option maxRecDepth 100000 in
theorem yX1_bestAt_X1_isBest : yX1_isBest.cls = RX1 ∧ yX1_isBest.cls ≠ "java/lang/invoke/MethodHandle" ∧ yX1_isBest.cls ≠ "java/lang/invoke/VarHandle" ∧ (parseMethodDescriptor yX1_isBest.desc).map (fun d => d.parameters.length) = some 1 := by decide +kernel
def wc_X1_bestAt_4 : hd_xC := (hd_cI (fun x y => decide (x ≤ y)) (hd_iL 3) (hd_iN (hd_nV hs_sh 5 (hd_rG hs_sh 1 0 (hd_rL 0)) 0 hd_v0 wm_X5_everyHall)))
def wb_X1_bestAt_4 : hd_xS := (hd_sQ (hd_sW (hd_c0 (fun x => !decide (x = 0)) (hd_iN (hd_nV hs_sh 1 (hd_rL 0) 1 (hd_pI hd_v0 (hd_iL 3)) wm_X1_isBest))) (hd_sQ (hd_sW (hd_cI (fun x y => decide (x = y)) (hd_iL 2) (hd_iL 1)) (hd_sRI (hd_iL 3))) (hd_sP 2 (1)))) (hd_sP 3 (1)))
def wo_X1_bestAt : hd_xS := (hd_sQ (hd_sI 2 (hd_iK (0))) (hd_sQ (hd_sQ (hd_sI 3 (hd_iK (0))) (hd_sH (wc_X1_bestAt_4) (wb_X1_bestAt_4))) (hd_sRI (hd_iK (-1)))))
def wm_X1_bestAt : hd_M := hd_mth 4 wo_X1_bestAt
set_option maxHeartbeats 4000000 in
set_option maxRecDepth 100000 in
theorem snd_X1_bestAt : hd_Snd vwCl hs_sh yX1_bestAt wsX1_bestAt 2 wm_X1_bestAt := hd_method (by decide) rfl rfl (by decide) (fun κ C Rk => (hd_seq (p1 := 2) (hd_sistore_n C (kk0 := 2) (p1 := 1) (hd_iconst C dX1_bestAt_0 (by decide)) dX1_bestAt_1 (by decide)) (hd_seq (p1 := 39) (hd_seq (p1 := 4) (hd_sistore_n C (kk0 := 3) (p1 := 3) (hd_iconst C dX1_bestAt_2 (by decide)) dX1_bestAt_3 (by decide)) (hd_loop C (p1 := 15) (p2 := 39) (hd_c_leF C (p1 := 5) (p2 := 12) (tgt := 39) (hd_iload_n C (kk0 := 3) dX1_bestAt_4) (hd_inI (hd_invV C (p1 := 9) (p2 := 9) snd_X5_everyHall hw_X5_everyHall gX1_bestAt_X5_everyHall hs_c_5 yX1_bestAt_X5_everyHall ⟨by decide, by decide⟩ (by decide) (hd_getR C (p1 := 6) fX1_bestAt_15 (hd_aload_n C (kk0 := 0) dX1_bestAt_5) dX1_bestAt_6) hd_av0 dX1_bestAt_9)) dX1_bestAt_12 (by decide)) (hd_seq (p1 := 33) (hd_if (p1 := 23) (p2 := 33) (hd_z_neF C (p2 := 20) (tgt := 33) (hd_inI (hd_invV C (p1 := 16) (p2 := 17) snd_X1_isBest hw_X1_isBest gX1_bestAt_X1_isBest hs_c_1 yX1_bestAt_X1_isBest ⟨by decide, by decide⟩ (by decide) (hd_aload_n C (kk0 := 0) dX1_bestAt_15) (hd_apI (p1 := 16) (p2 := 17) hd_av0 (hd_iload_n C (kk0 := 3) dX1_bestAt_16)) dX1_bestAt_17)) dX1_bestAt_20 (by decide)) (hd_seq (p1 := 30) (hd_if (p1 := 28) (p2 := 30) (hd_c_eqF C (p1 := 24) (p2 := 25) (tgt := 30) (hd_iload_n C (kk0 := 2) dX1_bestAt_23) (hd_iload_n C (kk0 := 1) dX1_bestAt_24) dX1_bestAt_25 (by decide)) (hd_retI C Rk (p1 := 29) (hd_iload_n C (kk0 := 3) dX1_bestAt_28) dX1_bestAt_29) (by decide)) (hd_siinc C dX1_bestAt_30 (by decide) (by decide))) (by decide)) (hd_sgoto C (p1 := 36) (tgt := 4) (hd_ends (es := [36]) (by decide) (hd_siinc C dX1_bestAt_33 (by decide) (by decide))) dX1_bestAt_36 (by decide) (by decide))) (by decide))) (hd_retI C Rk (p1 := 40) (hd_iconst C dX1_bestAt_39 (by decide)) dX1_bestAt_40))))
