/-! X7_nearestFilling -/
theorem hw_X7_nearestFilling : wsX7_nearestFilling = Cond.code yX7_nearestFilling cX7_nearestFilling 6 (some .long) :: wsX7_nearestFilling.tail := rfl
set_option maxRecDepth 100000 in
theorem uX7_nearestFilling_X7 : ∀ w ∈ u_ws RX7 TX7 10, w ∈ wsX7_nearestFilling := by decide +kernel
set_option maxRecDepth 100000 in
theorem lX7_nearestFilling_30 : Cond.fieldLink RX7 30 (TX7 7).1 (TX7 7).2.1 (TX7 7).2.2.1 ∈ wsX7_nearestFilling := by decide +kernel
set_option maxRecDepth 100000 in
theorem fX7_nearestFilling_30 : hd_F wsX7_nearestFilling RX7 vwCl 7 7 30 := ⟨RX7, TX7, 10, rfl, by decide, uX7_nearestFilling_X7, lX7_nearestFilling_30⟩
set_option maxRecDepth 100000 in
theorem yX7_nearestFilling_J7_fill_53178 : yJ7_fill_53178.cls ≠ "java/lang/invoke/MethodHandle" ∧ yJ7_fill_53178.cls ≠ "java/lang/invoke/VarHandle" ∧ (parseMethodDescriptor yJ7_fill_53178.desc).map (fun d => d.parameters.length) = some 2 := by decide +kernel
set_option maxRecDepth 100000 in
theorem lX7_nearestFilling_41 : Cond.fieldLink RX7 41 (TX7 0).1 (TX7 0).2.1 (TX7 0).2.2.1 ∈ wsX7_nearestFilling := by decide +kernel
set_option maxRecDepth 100000 in
theorem fX7_nearestFilling_41 : hd_F wsX7_nearestFilling RX7 vwCl 7 0 41 := ⟨RX7, TX7, 10, rfl, by decide, uX7_nearestFilling_X7, lX7_nearestFilling_41⟩
set_option maxRecDepth 100000 in
theorem uX7_nearestFilling_X5 : ∀ w ∈ u_ws RX5 TX5 10, w ∈ wsX7_nearestFilling := by decide +kernel
set_option maxRecDepth 100000 in
theorem lX7_nearestFilling_75 : Cond.fieldLink RX7 75 (TX5 0).1 (TX5 0).2.1 (TX5 0).2.2.1 ∈ wsX7_nearestFilling := by decide +kernel
set_option maxRecDepth 100000 in
theorem fX7_nearestFilling_75 : hd_F wsX7_nearestFilling RX7 vwCl 5 0 75 := ⟨RX5, TX5, 10, rfl, by decide, uX7_nearestFilling_X5, lX7_nearestFilling_75⟩
set_option maxRecDepth 100000 in
theorem lX7_nearestFilling_45 : Cond.fieldLink RX7 45 (TX7 1).1 (TX7 1).2.1 (TX7 1).2.2.1 ∈ wsX7_nearestFilling := by decide +kernel
set_option maxRecDepth 100000 in
theorem fX7_nearestFilling_45 : hd_F wsX7_nearestFilling RX7 vwCl 7 1 45 := ⟨RX7, TX7, 10, rfl, by decide, uX7_nearestFilling_X7, lX7_nearestFilling_45⟩
set_option maxRecDepth 100000 in
theorem yX7_nearestFilling_X6_nearHall : yX6_nearHall.cls = RX6 ∧ yX6_nearHall.cls ≠ "java/lang/invoke/MethodHandle" ∧ yX6_nearHall.cls ≠ "java/lang/invoke/VarHandle" ∧ (parseMethodDescriptor yX6_nearHall.desc).map (fun d => d.parameters.length) = some 2 := by decide +kernel
set_option maxRecDepth 100000 in
theorem lX7_nearestFilling_87 : Cond.fieldLink RX7 87 (TX5 2).1 (TX5 2).2.1 (TX5 2).2.2.1 ∈ wsX7_nearestFilling := by decide +kernel
set_option maxRecDepth 100000 in
theorem fX7_nearestFilling_87 : hd_F wsX7_nearestFilling RX7 vwCl 5 2 87 := ⟨RX5, TX5, 10, rfl, by decide, uX7_nearestFilling_X5, lX7_nearestFilling_87⟩
set_option maxRecDepth 100000 in
theorem lX7_nearestFilling_98 : Cond.fieldLink RX7 98 (TX5 6).1 (TX5 6).2.1 (TX5 6).2.2.1 ∈ wsX7_nearestFilling := by decide +kernel
set_option maxRecDepth 100000 in
theorem fX7_nearestFilling_98 : hd_F wsX7_nearestFilling RX7 vwCl 5 6 98 := ⟨RX5, TX5, 10, rfl, by decide, uX7_nearestFilling_X5, lX7_nearestFilling_98⟩
set_option maxRecDepth 100000 in
theorem wX7_nearestFilling_16 : Cond.constantLong RX7 60 (-2) ∈ wsX7_nearestFilling := by decide +kernel
set_option maxRecDepth 100000 in
theorem lX7_nearestFilling_20 : Cond.fieldLink RX7 20 (TX7 4).1 (TX7 4).2.1 (TX7 4).2.2.1 ∈ wsX7_nearestFilling := by decide +kernel
set_option maxRecDepth 100000 in
theorem fX7_nearestFilling_20 : hd_F wsX7_nearestFilling RX7 vwCl 7 4 20 := ⟨RX7, TX7, 10, rfl, by decide, uX7_nearestFilling_X7, lX7_nearestFilling_20⟩
def wc_X7_nearestFilling_13 : hd_xC := (hd_cI (fun x y => decide (x < y)) (hd_iL 4) (hd_iG hs_sh 5 0 (hd_rG hs_sh 7 0 (hd_rL 0))))
def wb_X7_nearestFilling_13 : hd_xS := (hd_sQ (hd_sQ (hd_sI 5 (hd_iN (hd_nV hs_sh 6 (hd_rG hs_sh 7 1 (hd_rL 0)) 2 (hd_pI (hd_pI hd_v0 (hd_iL 1)) (hd_iL 4)) wm_X6_nearHall))) (hd_sQ (hd_sW (hd_cO (hd_cI (fun x y => decide (x = y)) (hd_iL 5) (hd_iK (-1))) (hd_cI (fun x y => decide (y < x)) (hd_iB (fun x y => x + y) (hd_iA hs_sh (hd_rG hs_sh 7 7 (hd_rL 0)) (hd_iL 5)) (hd_iA hs_sh (hd_rG hs_sh 5 2 (hd_rG hs_sh 7 0 (hd_rL 0))) (hd_iL 4))) (hd_iA hs_sh (hd_rG hs_sh 5 6 (hd_rG hs_sh 7 0 (hd_rL 0))) (hd_iL 5)))) (hd_sRJ (hd_jK (-2)))) (hd_sQ (hd_sO (fun x y => x + y) hs_sh (hd_rG hs_sh 7 7 (hd_rL 0)) (hd_iL 5) (hd_iA hs_sh (hd_rG hs_sh 5 2 (hd_rG hs_sh 7 0 (hd_rL 0))) (hd_iL 4))) (hd_sJ 2 (hd_jB (fun x y => x + y) (hd_jL 2) (hd_jA hs_sh (hd_rG hs_sh 7 4 (hd_rL 0)) (hd_iB (fun x y => x + y) (hd_iB (fun x y => x * y) (hd_iL 5) (hd_iK (8))) (hd_iL 4)))))))) (hd_sP 4 (1)))
def wo_X7_nearestFilling : hd_xS := (hd_sQ (hd_sJ 2 (hd_jK (0))) (hd_sQ (hd_sN (hd_nS 2 (hd_pI (hd_pR hd_v0 (hd_rG hs_sh 7 7 (hd_rL 0))) (hd_iK (0))) wm_J7_fill_53178)) (hd_sQ (hd_sQ (hd_sI 4 (hd_iK (0))) (hd_sH (wc_X7_nearestFilling_13) (wb_X7_nearestFilling_13))) (hd_sRJ (hd_jL 2)))))
def wm_X7_nearestFilling : hd_M := hd_mth 6 wo_X7_nearestFilling
set_option maxHeartbeats 4000000 in
set_option maxRecDepth 100000 in
theorem snd_X7_nearestFilling : hd_Snd vwCl hs_sh yX7_nearestFilling wsX7_nearestFilling 3 wm_X7_nearestFilling := hd_method (by decide) rfl rfl (by decide) (fun κ C Rk => (hd_seq (p1 := 2) (hd_slstore_n C (kk0 := 2) (p1 := 1) (hd_lconst C dX7_nearestFilling_0 (by decide)) dX7_nearestFilling_1 (by decide)) (hd_seq (p1 := 10) (hd_scall (hd_invS C (p2 := 7) snd_J7_fill_53178 hw_J7_fill_53178 gX7_nearestFilling_J7_fill_53178 yX7_nearestFilling_J7_fill_53178 ⟨by decide, by decide⟩ (by decide) (hd_apI (p1 := 6) (p2 := 7) (hd_apR (p1 := 2) (p2 := 6) hd_av0 (hd_getR C (p1 := 3) fX7_nearestFilling_30 (hd_aload_n C (kk0 := 0) dX7_nearestFilling_2) dX7_nearestFilling_3)) (hd_iconst C dX7_nearestFilling_6 (by decide))) dX7_nearestFilling_7)) (hd_seq (p1 := 120) (hd_seq (p1 := 13) (hd_sistore C (p1 := 11) (hd_iconst C dX7_nearestFilling_10 (by decide)) dX7_nearestFilling_11 (by decide)) (hd_loop C (p1 := 25) (p2 := 120) (hd_c_ltF C (p1 := 15) (p2 := 22) (tgt := 120) (hd_iload C dX7_nearestFilling_13) (hd_getI C (p1 := 19) fX7_nearestFilling_75 (hd_getR C (p1 := 16) fX7_nearestFilling_41 (hd_aload_n C (kk0 := 0) dX7_nearestFilling_15) dX7_nearestFilling_16) dX7_nearestFilling_19) dX7_nearestFilling_22 (by decide)) (hd_seq (p1 := 114) (hd_seq (p1 := 37) (hd_sistore C (p1 := 35) (hd_inI (hd_invV C (p1 := 29) (p2 := 32) snd_X6_nearHall hw_X6_nearHall gX7_nearestFilling_X6_nearHall hs_c_6 yX7_nearestFilling_X6_nearHall ⟨by decide, by decide⟩ (by decide) (hd_getR C (p1 := 26) fX7_nearestFilling_45 (hd_aload_n C (kk0 := 0) dX7_nearestFilling_25) dX7_nearestFilling_26) (hd_apI (p1 := 30) (p2 := 32) (hd_apI (p1 := 29) (p2 := 30) hd_av0 (hd_iload_n C (kk0 := 1) dX7_nearestFilling_29)) (hd_iload C dX7_nearestFilling_30)) dX7_nearestFilling_32)) dX7_nearestFilling_35 (by decide)) (hd_seq (p1 := 78) (hd_if (p1 := 74) (p2 := 78) (hd_or (p1 := 43) (p2 := 74) (p3 := 78) (hd_c_eqT C (p1 := 39) (p2 := 40) (tgt := 74) (hd_iload C dX7_nearestFilling_37) (hd_iconst C dX7_nearestFilling_39 (by decide)) dX7_nearestFilling_40 (by decide)) (hd_c_gtF C (p1 := 61) (p2 := 71) (tgt := 78) (hd_iadd C (p1 := 50) (p2 := 60) (hd_iald C (p1 := 47) (p2 := 49) (hd_getR C (p1 := 44) fX7_nearestFilling_30 (hd_aload_n C (kk0 := 0) dX7_nearestFilling_43) dX7_nearestFilling_44) (hd_iload C dX7_nearestFilling_47) dX7_nearestFilling_49) (hd_iald C (p1 := 57) (p2 := 59) (hd_getR C (p1 := 54) fX7_nearestFilling_87 (hd_getR C (p1 := 51) fX7_nearestFilling_41 (hd_aload_n C (kk0 := 0) dX7_nearestFilling_50) dX7_nearestFilling_51) dX7_nearestFilling_54) (hd_iload C dX7_nearestFilling_57) dX7_nearestFilling_59) dX7_nearestFilling_60) (hd_iald C (p1 := 68) (p2 := 70) (hd_getR C (p1 := 65) fX7_nearestFilling_98 (hd_getR C (p1 := 62) fX7_nearestFilling_41 (hd_aload_n C (kk0 := 0) dX7_nearestFilling_61) dX7_nearestFilling_62) dX7_nearestFilling_65) (hd_iload C dX7_nearestFilling_68) dX7_nearestFilling_70) dX7_nearestFilling_71 (by decide))) (hd_retJ C Rk (p1 := 77) (hd_ldc2 C wX7_nearestFilling_16 dX7_nearestFilling_74) dX7_nearestFilling_77) (by decide)) (hd_seq (p1 := 98) (hd_sarr_iadd C (p1 := 82) (p2 := 84) (p3 := 96) (hd_getR C (p1 := 79) fX7_nearestFilling_30 (hd_aload_n C (kk0 := 0) dX7_nearestFilling_78) dX7_nearestFilling_79) (hd_iload C dX7_nearestFilling_82) dX7_nearestFilling_84 dX7_nearestFilling_85 (hd_iald C (p1 := 93) (p2 := 95) (hd_getR C (p1 := 90) fX7_nearestFilling_87 (hd_getR C (p1 := 87) fX7_nearestFilling_41 (hd_aload_n C (kk0 := 0) dX7_nearestFilling_86) dX7_nearestFilling_87) dX7_nearestFilling_90) (hd_iload C dX7_nearestFilling_93) dX7_nearestFilling_95) dX7_nearestFilling_96 dX7_nearestFilling_97) (hd_slstore_n C (kk0 := 2) (p1 := 113) (hd_ladd C (p1 := 99) (p2 := 112) (hd_lload_n C (kk0 := 2) dX7_nearestFilling_98) (hd_lald C (p1 := 103) (p2 := 111) (hd_getR C (p1 := 100) fX7_nearestFilling_20 (hd_aload_n C (kk0 := 0) dX7_nearestFilling_99) dX7_nearestFilling_100) (hd_iadd C (p1 := 108) (p2 := 110) (hd_imul C (p1 := 105) (p2 := 107) (hd_iload C dX7_nearestFilling_103) (hd_bipush C dX7_nearestFilling_105 (by decide)) dX7_nearestFilling_107) (hd_iload C dX7_nearestFilling_108) dX7_nearestFilling_110) dX7_nearestFilling_111) dX7_nearestFilling_112) dX7_nearestFilling_113 (by decide))))) (hd_sgoto C (p1 := 117) (tgt := 13) (hd_ends (es := [117]) (by decide) (hd_siinc C dX7_nearestFilling_114 (by decide) (by decide))) dX7_nearestFilling_117 (by decide) (by decide))) (by decide))) (hd_retJ C Rk (p1 := 121) (hd_lload_n C (kk0 := 2) dX7_nearestFilling_120) dX7_nearestFilling_121)))))
/-! X8_count -/
theorem hw_X8_count : wsX8_count = Cond.code yX8_count cX8_count 2 (some .int) :: wsX8_count.tail := rfl
set_option maxRecDepth 100000 in
theorem uX8_count_X8 : ∀ w ∈ u_ws RX8 TX8 9, w ∈ wsX8_count := by decide +kernel
set_option maxRecDepth 100000 in
theorem lX8_count_12 : Cond.fieldLink RX8 12 (TX8 0).1 (TX8 0).2.1 (TX8 0).2.2.1 ∈ wsX8_count := by decide +kernel
set_option maxRecDepth 100000 in
theorem fX8_count_12 : hd_F wsX8_count RX8 vwCl 8 0 12 := ⟨RX8, TX8, 9, rfl, by decide, uX8_count_X8, lX8_count_12⟩
set_option maxRecDepth 100000 in
theorem uX8_count_X5 : ∀ w ∈ u_ws RX5 TX5 10, w ∈ wsX8_count := by decide +kernel
set_option maxRecDepth 100000 in
theorem lX8_count_71 : Cond.fieldLink RX8 71 (TX5 0).1 (TX5 0).2.1 (TX5 0).2.2.1 ∈ wsX8_count := by decide +kernel
set_option maxRecDepth 100000 in
theorem fX8_count_71 : hd_F wsX8_count RX8 vwCl 5 0 71 := ⟨RX5, TX5, 10, rfl, by decide, uX8_count_X5, lX8_count_71⟩
set_option maxRecDepth 100000 in
theorem lX8_count_82 : Cond.fieldLink RX8 82 (TX5 1).1 (TX5 1).2.1 (TX5 1).2.2.1 ∈ wsX8_count := by decide +kernel
set_option maxRecDepth 100000 in
theorem fX8_count_82 : hd_F wsX8_count RX8 vwCl 5 1 82 := ⟨RX5, TX5, 10, rfl, by decide, uX8_count_X5, lX8_count_82⟩
set_option maxRecDepth 100000 in
theorem yX8_count_X5_allPeople : yX5_allPeople.cls = RX5 ∧ yX5_allPeople.cls ≠ "java/lang/invoke/MethodHandle" ∧ yX5_allPeople.cls ≠ "java/lang/invoke/VarHandle" ∧ (parseMethodDescriptor yX5_allPeople.desc).map (fun d => d.parameters.length) = some 0 := by decide +kernel
set_option maxRecDepth 100000 in
theorem yX8_count_X5_sheets : yX5_sheets.cls = RX5 ∧ yX5_sheets.cls ≠ "java/lang/invoke/MethodHandle" ∧ yX5_sheets.cls ≠ "java/lang/invoke/VarHandle" ∧ (parseMethodDescriptor yX5_sheets.desc).map (fun d => d.parameters.length) = some 0 := by decide +kernel
set_option maxRecDepth 100000 in
theorem lX8_count_167 : Cond.fieldLink RX8 167 (TX8 8).1 (TX8 8).2.1 (TX8 8).2.2.1 ∈ wsX8_count := by decide +kernel
set_option maxRecDepth 100000 in
theorem fX8_count_167 : hd_F wsX8_count RX8 vwCl 8 8 167 := ⟨RX8, TX8, 9, rfl, by decide, uX8_count_X8, lX8_count_167⟩
set_option maxRecDepth 100000 in
theorem yX8_count_J6_bitCount_0f7a4 : yJ6_bitCount_0f7a4.cls ≠ "java/lang/invoke/MethodHandle" ∧ yJ6_bitCount_0f7a4.cls ≠ "java/lang/invoke/VarHandle" ∧ (parseMethodDescriptor yJ6_bitCount_0f7a4.desc).map (fun d => d.parameters.length) = some 1 := by decide +kernel
set_option maxRecDepth 100000 in
theorem lX8_count_19 : Cond.fieldLink RX8 19 (TX8 1).1 (TX8 1).2.1 (TX8 1).2.2.1 ∈ wsX8_count := by decide +kernel
set_option maxRecDepth 100000 in
theorem fX8_count_19 : hd_F wsX8_count RX8 vwCl 8 1 19 := ⟨RX8, TX8, 9, rfl, by decide, uX8_count_X8, lX8_count_19⟩
set_option maxRecDepth 100000 in
theorem uX8_count_X4 : ∀ w ∈ u_ws RX4 TX4 2, w ∈ wsX8_count := by decide +kernel
set_option maxRecDepth 100000 in
theorem lX8_count_155 : Cond.fieldLink RX8 155 (TX4 1).1 (TX4 1).2.1 (TX4 1).2.2.1 ∈ wsX8_count := by decide +kernel
set_option maxRecDepth 100000 in
theorem fX8_count_155 : hd_F wsX8_count RX8 vwCl 4 1 155 := ⟨RX4, TX4, 2, rfl, by decide, uX8_count_X4, lX8_count_155⟩
set_option maxRecDepth 100000 in
theorem lX8_count_53 : Cond.fieldLink RX8 53 (TX8 5).1 (TX8 5).2.1 (TX8 5).2.2.1 ∈ wsX8_count := by decide +kernel
set_option maxRecDepth 100000 in
theorem fX8_count_53 : hd_F wsX8_count RX8 vwCl 8 5 53 := ⟨RX8, TX8, 9, rfl, by decide, uX8_count_X8, lX8_count_53⟩
set_option maxRecDepth 100000 in
theorem yX8_count_X5_everyTown : yX5_everyTown.cls = RX5 ∧ yX5_everyTown.cls ≠ "java/lang/invoke/MethodHandle" ∧ yX5_everyTown.cls ≠ "java/lang/invoke/VarHandle" ∧ (parseMethodDescriptor yX5_everyTown.desc).map (fun d => d.parameters.length) = some 0 := by decide +kernel
set_option maxRecDepth 100000 in
theorem yX8_count_X0_together : yX0_together.cls = RX0 ∧ yX0_together.cls ≠ "java/lang/invoke/MethodHandle" ∧ yX0_together.cls ≠ "java/lang/invoke/VarHandle" ∧ (parseMethodDescriptor yX0_together.desc).map (fun d => d.parameters.length) = some 1 := by decide +kernel
def wo_X8_count : hd_xS := (hd_sSw (hd_iL 1) [(hd_sRI (hd_iG hs_sh 5 0 (hd_rG hs_sh 8 0 (hd_rL 0)))), (hd_sRI (hd_iG hs_sh 5 1 (hd_rG hs_sh 8 0 (hd_rL 0)))), (hd_sRI (hd_iN (hd_nV hs_sh 5 (hd_rG hs_sh 8 0 (hd_rL 0)) 0 hd_v0 wm_X5_allPeople))), (hd_sRI (hd_iN (hd_nV hs_sh 5 (hd_rG hs_sh 8 0 (hd_rL 0)) 0 hd_v0 wm_X5_sheets))), (hd_sRI (hd_iN (hd_nS 1 (hd_pI hd_v0 (hd_iG hs_sh 8 8 (hd_rL 0))) wm_J6_bitCount_0f7a4))), (hd_sRI (hd_iG hs_sh 4 1 (hd_rG hs_sh 8 1 (hd_rL 0)))), (hd_sRI (hd_iN (hd_nV hs_sh 0 (hd_rG hs_sh 8 5 (hd_rL 0)) 1 (hd_pI hd_v0 (hd_iN (hd_nV hs_sh 5 (hd_rG hs_sh 8 0 (hd_rL 0)) 0 hd_v0 wm_X5_everyTown))) wm_X0_together)))] (hd_sRI (hd_iK (-3))))
def wm_X8_count : hd_M := hd_mth 2 wo_X8_count
set_option maxHeartbeats 4000000 in
set_option maxRecDepth 100000 in
theorem snd_X8_count : hd_Snd vwCl hs_sh yX8_count wsX8_count 3 wm_X8_count := hd_method (by decide) rfl rfl (by decide) (fun κ C Rk => (hd_switch2 C (p1 := 1) (tgt := 107) (hd_iload_n C (kk0 := 1) dX8_count_0) dX8_count_1 (by decide) (by decide) ⟨⟨43, 44, rfl, by decide, (hd_retI C Rk (p1 := 51) (hd_getI C (p1 := 48) fX8_count_71 (hd_getR C (p1 := 45) fX8_count_12 (hd_aload_n C (kk0 := 0) dX8_count_44) dX8_count_45) dX8_count_48) dX8_count_51)⟩, ⟨51, 52, rfl, by decide, (hd_retI C Rk (p1 := 59) (hd_getI C (p1 := 56) fX8_count_82 (hd_getR C (p1 := 53) fX8_count_12 (hd_aload_n C (kk0 := 0) dX8_count_52) dX8_count_53) dX8_count_56) dX8_count_59)⟩, ⟨59, 60, rfl, by decide, (hd_retI C Rk (p1 := 67) (hd_inI (hd_invV C (p1 := 64) (p2 := 64) snd_X5_allPeople hw_X5_allPeople gX8_count_X5_allPeople hs_c_5 yX8_count_X5_allPeople ⟨by decide, by decide⟩ (by decide) (hd_getR C (p1 := 61) fX8_count_12 (hd_aload_n C (kk0 := 0) dX8_count_60) dX8_count_61) hd_av0 dX8_count_64)) dX8_count_67)⟩, ⟨67, 68, rfl, by decide, (hd_retI C Rk (p1 := 75) (hd_inI (hd_invV C (p1 := 72) (p2 := 72) snd_X5_sheets hw_X5_sheets gX8_count_X5_sheets hs_c_5 yX8_count_X5_sheets ⟨by decide, by decide⟩ (by decide) (hd_getR C (p1 := 69) fX8_count_12 (hd_aload_n C (kk0 := 0) dX8_count_68) dX8_count_69) hd_av0 dX8_count_72)) dX8_count_75)⟩, ⟨75, 76, rfl, by decide, (hd_retI C Rk (p1 := 83) (hd_inI (hd_invS C (p2 := 80) snd_J6_bitCount_0f7a4 hw_J6_bitCount_0f7a4 gX8_count_J6_bitCount_0f7a4 yX8_count_J6_bitCount_0f7a4 ⟨by decide, by decide⟩ (by decide) (hd_apI (p1 := 76) (p2 := 80) hd_av0 (hd_getI C (p1 := 77) fX8_count_167 (hd_aload_n C (kk0 := 0) dX8_count_76) dX8_count_77)) dX8_count_80)) dX8_count_83)⟩, ⟨83, 84, rfl, by decide, (hd_retI C Rk (p1 := 91) (hd_getI C (p1 := 88) fX8_count_155 (hd_getR C (p1 := 85) fX8_count_19 (hd_aload_n C (kk0 := 0) dX8_count_84) dX8_count_85) dX8_count_88) dX8_count_91)⟩, ⟨91, 92, rfl, by decide, (hd_retI C Rk (p1 := 106) (hd_inI (hd_invV C (p1 := 96) (p2 := 103) snd_X0_together hw_X0_together gX8_count_X0_together hs_c_0 yX8_count_X0_together ⟨by decide, by decide⟩ (by decide) (hd_getR C (p1 := 93) fX8_count_53 (hd_aload_n C (kk0 := 0) dX8_count_92) dX8_count_93) (hd_apI (p1 := 96) (p2 := 103) hd_av0 (hd_inI (hd_invV C (p1 := 100) (p2 := 100) snd_X5_everyTown hw_X5_everyTown gX8_count_X5_everyTown hs_c_5 yX8_count_X5_everyTown ⟨by decide, by decide⟩ (by decide) (hd_getR C (p1 := 97) fX8_count_12 (hd_aload_n C (kk0 := 0) dX8_count_96) dX8_count_97) hd_av0 dX8_count_100))) dX8_count_103)) dX8_count_106)⟩, trivial⟩ (by decide) (hd_retI C Rk (p1 := 109) (hd_bipush C dX8_count_107 (by decide)) dX8_count_109)))
/-! X8_holds -/
theorem hw_X8_holds : wsX8_holds = Cond.code yX8_holds cX8_holds 2 (some .int) :: wsX8_holds.tail := rfl
set_option maxRecDepth 100000 in
theorem uX8_holds_X8 : ∀ w ∈ u_ws RX8 TX8 9, w ∈ wsX8_holds := by decide +kernel
set_option maxRecDepth 100000 in
theorem lX8_holds_53 : Cond.fieldLink RX8 53 (TX8 5).1 (TX8 5).2.1 (TX8 5).2.2.1 ∈ wsX8_holds := by decide +kernel
set_option maxRecDepth 100000 in
theorem fX8_holds_53 : hd_F wsX8_holds RX8 vwCl 8 5 53 := ⟨RX8, TX8, 9, rfl, by decide, uX8_holds_X8, lX8_holds_53⟩
set_option maxRecDepth 100000 in
theorem yX8_holds_X0_firstBroken : yX0_firstBroken.cls = RX0 ∧ yX0_firstBroken.cls ≠ "java/lang/invoke/MethodHandle" ∧ yX0_firstBroken.cls ≠ "java/lang/invoke/VarHandle" ∧ (parseMethodDescriptor yX0_firstBroken.desc).map (fun d => d.parameters.length) = some 0 := by decide +kernel
set_option maxRecDepth 100000 in
theorem lX8_holds_12 : Cond.fieldLink RX8 12 (TX8 0).1 (TX8 0).2.1 (TX8 0).2.2.1 ∈ wsX8_holds := by decide +kernel
set_option maxRecDepth 100000 in
theorem fX8_holds_12 : hd_F wsX8_holds RX8 vwCl 8 0 12 := ⟨RX8, TX8, 9, rfl, by decide, uX8_holds_X8, lX8_holds_12⟩
set_option maxRecDepth 100000 in
theorem yX8_holds_X5_everyTown : yX5_everyTown.cls = RX5 ∧ yX5_everyTown.cls ≠ "java/lang/invoke/MethodHandle" ∧ yX5_everyTown.cls ≠ "java/lang/invoke/VarHandle" ∧ (parseMethodDescriptor yX5_everyTown.desc).map (fun d => d.parameters.length) = some 0 := by decide +kernel
set_option maxRecDepth 100000 in
theorem yX8_holds_X0_together : yX0_together.cls = RX0 ∧ yX0_together.cls ≠ "java/lang/invoke/MethodHandle" ∧ yX0_together.cls ≠ "java/lang/invoke/VarHandle" ∧ (parseMethodDescriptor yX0_together.desc).map (fun d => d.parameters.length) = some 1 := by decide +kernel
def wo_X8_holds : hd_xS := (hd_sQ (hd_sI 1 (hd_iN (hd_nV hs_sh 0 (hd_rG hs_sh 8 5 (hd_rL 0)) 0 hd_v0 wm_X0_firstBroken))) (hd_sRI (hd_iQ (hd_cI (fun x y => decide (x = y)) (hd_iL 1) (hd_iK (-1))) (hd_iN (hd_nV hs_sh 0 (hd_rG hs_sh 8 5 (hd_rL 0)) 1 (hd_pI hd_v0 (hd_iN (hd_nV hs_sh 5 (hd_rG hs_sh 8 0 (hd_rL 0)) 0 hd_v0 wm_X5_everyTown))) wm_X0_together)) (hd_iB (fun x y => x - y) (hd_iK (-100)) (hd_iL 1)))))
def wm_X8_holds : hd_M := hd_mth 2 wo_X8_holds
set_option maxHeartbeats 4000000 in
set_option maxRecDepth 100000 in
theorem snd_X8_holds : hd_Snd vwCl hs_sh yX8_holds wsX8_holds 3 wm_X8_holds := hd_method (by decide) rfl rfl (by decide) (fun κ C Rk => (hd_seq (p1 := 8) (hd_sistore_n C (kk0 := 1) (p1 := 7) (hd_inI (hd_invV C (p1 := 4) (p2 := 4) snd_X0_firstBroken hw_X0_firstBroken gX8_holds_X0_firstBroken hs_c_0 yX8_holds_X0_firstBroken ⟨by decide, by decide⟩ (by decide) (hd_getR C (p1 := 1) fX8_holds_53 (hd_aload_n C (kk0 := 0) dX8_holds_0) dX8_holds_1) hd_av0 dX8_holds_4)) dX8_holds_7 (by decide)) (hd_retI C Rk (p1 := 34) (hd_tnI C (p1 := 13) (p2 := 27) (p3 := 30) (p4 := 34) (hd_c_eqF C (p1 := 9) (p2 := 10) (tgt := 30) (hd_iload_n C (kk0 := 1) dX8_holds_8) (hd_iconst C dX8_holds_9 (by decide)) dX8_holds_10 (by decide)) (hd_inI (hd_invV C (p1 := 17) (p2 := 24) snd_X0_together hw_X0_together gX8_holds_X0_together hs_c_0 yX8_holds_X0_together ⟨by decide, by decide⟩ (by decide) (hd_getR C (p1 := 14) fX8_holds_53 (hd_aload_n C (kk0 := 0) dX8_holds_13) dX8_holds_14) (hd_apI (p1 := 17) (p2 := 24) hd_av0 (hd_inI (hd_invV C (p1 := 21) (p2 := 21) snd_X5_everyTown hw_X5_everyTown gX8_holds_X5_everyTown hs_c_5 yX8_holds_X5_everyTown ⟨by decide, by decide⟩ (by decide) (hd_getR C (p1 := 18) fX8_holds_12 (hd_aload_n C (kk0 := 0) dX8_holds_17) dX8_holds_18) hd_av0 dX8_holds_21))) dX8_holds_24)) dX8_holds_27 (by decide) (hd_isub C (p1 := 32) (p2 := 33) (hd_bipush C dX8_holds_30 (by decide)) (hd_iload_n C (kk0 := 1) dX8_holds_32) dX8_holds_33)) dX8_holds_34)))
/-! X8_isQuestion -/
theorem hw_X8_isQuestion : wsX8_isQuestion = Cond.code yX8_isQuestion cX8_isQuestion 2 (some .boolean) :: wsX8_isQuestion.tail := rfl
set_option maxRecDepth 100000 in
theorem yX8_isQuestion_X8_isKind : yX8_isKind.cls ≠ "java/lang/invoke/MethodHandle" ∧ yX8_isKind.cls ≠ "java/lang/invoke/VarHandle" ∧ (parseMethodDescriptor yX8_isKind.desc).map (fun d => d.parameters.length) = some 1 := by decide +kernel
set_option maxRecDepth 100000 in
theorem yX8_isQuestion_X8_within : yX8_within.cls ≠ "java/lang/invoke/MethodHandle" ∧ yX8_within.cls ≠ "java/lang/invoke/VarHandle" ∧ (parseMethodDescriptor yX8_within.desc).map (fun d => d.parameters.length) = some 3 := by decide +kernel
def wo_X8_isQuestion : hd_xS := (hd_sRZ (hd_iC (hd_cA (hd_c0 (fun x => !decide (x = 0)) (hd_iN (hd_nS 1 (hd_pI hd_v0 (hd_iL 0)) wm_X8_isKind))) (hd_c0 (fun x => !decide (x = 0)) (hd_iN (hd_nS 3 (hd_pI (hd_pI (hd_pI hd_v0 (hd_iL 1)) (hd_iK (-1))) (hd_iK (7))) wm_X8_within))))))
def wm_X8_isQuestion : hd_M := hd_mth 2 wo_X8_isQuestion
set_option maxHeartbeats 4000000 in
set_option maxRecDepth 100000 in
theorem snd_X8_isQuestion : hd_Snd vwCl hs_sh yX8_isQuestion wsX8_isQuestion 3 wm_X8_isQuestion := hd_method (by decide) rfl rfl (by decide) (fun κ C Rk => (hd_retZ C Rk (p1 := 22) (hd_boC C (p1 := 17) (p3 := 21) (p4 := 22) (hd_and (p1 := 7) (p2 := 17) (p3 := 21) (hd_z_neF C (p2 := 4) (tgt := 21) (hd_inI (hd_invS C (p2 := 1) snd_X8_isKind hw_X8_isKind gX8_isQuestion_X8_isKind yX8_isQuestion_X8_isKind ⟨by decide, by decide⟩ (by decide) (hd_apI (p1 := 0) (p2 := 1) hd_av0 (hd_iload_n C (kk0 := 0) dX8_isQuestion_0)) dX8_isQuestion_1)) dX8_isQuestion_4 (by decide)) (hd_z_neF C (p2 := 14) (tgt := 21) (hd_inI (hd_invS C (p2 := 11) snd_X8_within hw_X8_within gX8_isQuestion_X8_within yX8_isQuestion_X8_within ⟨by decide, by decide⟩ (by decide) (hd_apI (p1 := 9) (p2 := 11) (hd_apI (p1 := 8) (p2 := 9) (hd_apI (p1 := 7) (p2 := 8) hd_av0 (hd_iload_n C (kk0 := 1) dX8_isQuestion_7)) (hd_iconst C dX8_isQuestion_8 (by decide))) (hd_bipush C dX8_isQuestion_9 (by decide))) dX8_isQuestion_11)) dX8_isQuestion_14 (by decide))) dX8_isQuestion_17 dX8_isQuestion_18 (by decide) dX8_isQuestion_21 rfl) dX8_isQuestion_22))
/-! X8_keepForUndo -/
theorem hw_X8_keepForUndo : wsX8_keepForUndo = Cond.code yX8_keepForUndo cX8_keepForUndo 1 none :: wsX8_keepForUndo.tail := rfl
set_option maxRecDepth 100000 in
theorem uX8_keepForUndo_X8 : ∀ w ∈ u_ws RX8 TX8 9, w ∈ wsX8_keepForUndo := by decide +kernel
set_option maxRecDepth 100000 in
theorem lX8_keepForUndo_19 : Cond.fieldLink RX8 19 (TX8 1).1 (TX8 1).2.1 (TX8 1).2.2.1 ∈ wsX8_keepForUndo := by decide +kernel
set_option maxRecDepth 100000 in
theorem fX8_keepForUndo_19 : hd_F wsX8_keepForUndo RX8 vwCl 8 1 19 := ⟨RX8, TX8, 9, rfl, by decide, uX8_keepForUndo_X8, lX8_keepForUndo_19⟩
set_option maxRecDepth 100000 in
theorem lX8_keepForUndo_12 : Cond.fieldLink RX8 12 (TX8 0).1 (TX8 0).2.1 (TX8 0).2.2.1 ∈ wsX8_keepForUndo := by decide +kernel
set_option maxRecDepth 100000 in
theorem fX8_keepForUndo_12 : hd_F wsX8_keepForUndo RX8 vwCl 8 0 12 := ⟨RX8, TX8, 9, rfl, by decide, uX8_keepForUndo_X8, lX8_keepForUndo_12⟩
set_option maxRecDepth 100000 in
theorem yX8_keepForUndo_X4_keep : yX4_keep.cls = RX4 ∧ yX4_keep.cls ≠ "java/lang/invoke/MethodHandle" ∧ yX4_keep.cls ≠ "java/lang/invoke/VarHandle" ∧ (parseMethodDescriptor yX4_keep.desc).map (fun d => d.parameters.length) = some 1 := by decide +kernel
set_option maxRecDepth 100000 in
theorem yX8_keepForUndo_X8_forgetAnswers : yX8_forgetAnswers.cls = RX8 ∧ yX8_forgetAnswers.cls ≠ "java/lang/invoke/MethodHandle" ∧ yX8_forgetAnswers.cls ≠ "java/lang/invoke/VarHandle" ∧ (parseMethodDescriptor yX8_forgetAnswers.desc).map (fun d => d.parameters.length) = some 0 := by decide +kernel
def wo_X8_keepForUndo : hd_xS := (hd_sQ (hd_sN (hd_nV hs_sh 4 (hd_rG hs_sh 8 1 (hd_rL 0)) 1 (hd_pR hd_v0 (hd_rG hs_sh 8 0 (hd_rL 0))) wm_X4_keep)) (hd_sQ (hd_sN (hd_nV hs_sh 8 (hd_rL 0) 0 hd_v0 wm_X8_forgetAnswers)) hd_sRV))
def wm_X8_keepForUndo : hd_M := hd_mth 1 wo_X8_keepForUndo
set_option maxHeartbeats 4000000 in
set_option maxRecDepth 100000 in
theorem snd_X8_keepForUndo : hd_Snd vwCl hs_sh yX8_keepForUndo wsX8_keepForUndo 3 wm_X8_keepForUndo := hd_method (by decide) rfl rfl (by decide) (fun κ C Rk => (hd_seq (p1 := 11) (hd_scall (hd_invV C (p1 := 4) (p2 := 8) snd_X4_keep hw_X4_keep gX8_keepForUndo_X4_keep hs_c_4 yX8_keepForUndo_X4_keep ⟨by decide, by decide⟩ (by decide) (hd_getR C (p1 := 1) fX8_keepForUndo_19 (hd_aload_n C (kk0 := 0) dX8_keepForUndo_0) dX8_keepForUndo_1) (hd_apR (p1 := 4) (p2 := 8) hd_av0 (hd_getR C (p1 := 5) fX8_keepForUndo_12 (hd_aload_n C (kk0 := 0) dX8_keepForUndo_4) dX8_keepForUndo_5)) dX8_keepForUndo_8)) (hd_seq (p1 := 15) (hd_scall (hd_invV C (p1 := 12) (p2 := 12) snd_X8_forgetAnswers hw_X8_forgetAnswers gX8_keepForUndo_X8_forgetAnswers hs_c_8 yX8_keepForUndo_X8_forgetAnswers ⟨by decide, by decide⟩ (by decide) (hd_aload_n C (kk0 := 0) dX8_keepForUndo_11) hd_av0 dX8_keepForUndo_12)) (hd_retV C Rk dX8_keepForUndo_15))))
/-! X8_undo -/
theorem hw_X8_undo : wsX8_undo = Cond.code yX8_undo cX8_undo 1 (some .int) :: wsX8_undo.tail := rfl
set_option maxRecDepth 100000 in
theorem uX8_undo_X8 : ∀ w ∈ u_ws RX8 TX8 9, w ∈ wsX8_undo := by decide +kernel
set_option maxRecDepth 100000 in
theorem lX8_undo_19 : Cond.fieldLink RX8 19 (TX8 1).1 (TX8 1).2.1 (TX8 1).2.2.1 ∈ wsX8_undo := by decide +kernel
set_option maxRecDepth 100000 in
theorem fX8_undo_19 : hd_F wsX8_undo RX8 vwCl 8 1 19 := ⟨RX8, TX8, 9, rfl, by decide, uX8_undo_X8, lX8_undo_19⟩
set_option maxRecDepth 100000 in
theorem uX8_undo_X4 : ∀ w ∈ u_ws RX4 TX4 2, w ∈ wsX8_undo := by decide +kernel
set_option maxRecDepth 100000 in
theorem lX8_undo_155 : Cond.fieldLink RX8 155 (TX4 1).1 (TX4 1).2.1 (TX4 1).2.2.1 ∈ wsX8_undo := by decide +kernel
set_option maxRecDepth 100000 in
theorem fX8_undo_155 : hd_F wsX8_undo RX8 vwCl 4 1 155 := ⟨RX4, TX4, 2, rfl, by decide, uX8_undo_X4, lX8_undo_155⟩
set_option maxRecDepth 100000 in
theorem lX8_undo_12 : Cond.fieldLink RX8 12 (TX8 0).1 (TX8 0).2.1 (TX8 0).2.2.1 ∈ wsX8_undo := by decide +kernel
set_option maxRecDepth 100000 in
theorem fX8_undo_12 : hd_F wsX8_undo RX8 vwCl 8 0 12 := ⟨RX8, TX8, 9, rfl, by decide, uX8_undo_X8, lX8_undo_12⟩
set_option maxRecDepth 100000 in
theorem yX8_undo_X4_giveBack : yX4_giveBack.cls = RX4 ∧ yX4_giveBack.cls ≠ "java/lang/invoke/MethodHandle" ∧ yX4_giveBack.cls ≠ "java/lang/invoke/VarHandle" ∧ (parseMethodDescriptor yX4_giveBack.desc).map (fun d => d.parameters.length) = some 1 := by decide +kernel
set_option maxRecDepth 100000 in
theorem yX8_undo_X8_forgetAnswers : yX8_forgetAnswers.cls = RX8 ∧ yX8_forgetAnswers.cls ≠ "java/lang/invoke/MethodHandle" ∧ yX8_forgetAnswers.cls ≠ "java/lang/invoke/VarHandle" ∧ (parseMethodDescriptor yX8_forgetAnswers.desc).map (fun d => d.parameters.length) = some 0 := by decide +kernel
set_option maxRecDepth 100000 in
theorem lX8_undo_53 : Cond.fieldLink RX8 53 (TX8 5).1 (TX8 5).2.1 (TX8 5).2.2.1 ∈ wsX8_undo := by decide +kernel
set_option maxRecDepth 100000 in
theorem fX8_undo_53 : hd_F wsX8_undo RX8 vwCl 8 5 53 := ⟨RX8, TX8, 9, rfl, by decide, uX8_undo_X8, lX8_undo_53⟩
set_option maxRecDepth 100000 in
theorem yX8_undo_X0_dropLost : yX0_dropLost.cls = RX0 ∧ yX0_dropLost.cls ≠ "java/lang/invoke/MethodHandle" ∧ yX0_dropLost.cls ≠ "java/lang/invoke/VarHandle" ∧ (parseMethodDescriptor yX0_dropLost.desc).map (fun d => d.parameters.length) = some 0 := by decide +kernel
set_option maxRecDepth 100000 in
theorem yX8_undo_X5_everyHall : yX5_everyHall.cls = RX5 ∧ yX5_everyHall.cls ≠ "java/lang/invoke/MethodHandle" ∧ yX5_everyHall.cls ≠ "java/lang/invoke/VarHandle" ∧ (parseMethodDescriptor yX5_everyHall.desc).map (fun d => d.parameters.length) = some 0 := by decide +kernel
set_option maxRecDepth 100000 in
theorem lX8_undo_167 : Cond.fieldLink RX8 167 (TX8 8).1 (TX8 8).2.1 (TX8 8).2.2.1 ∈ wsX8_undo := by decide +kernel
set_option maxRecDepth 100000 in
theorem fX8_undo_167 : hd_F wsX8_undo RX8 vwCl 8 8 167 := ⟨RX8, TX8, 9, rfl, by decide, uX8_undo_X8, lX8_undo_167⟩
set_option maxRecDepth 100000 in
theorem qX8_undo_167 : hd_FP wsX8_undo RX8 vwCl 8 8 167 .int := ⟨RX8, TX8, 9, tyX8, rfl, by decide, uX8_undo_X8, lX8_undo_167, tyX8_ok, nmX8, rfl, rfl⟩
def wo_X8_undo : hd_xS := (hd_sQ (hd_sW (hd_c0 (fun x => decide (x ≤ 0)) (hd_iG hs_sh 4 1 (hd_rG hs_sh 8 1 (hd_rL 0)))) (hd_sRI (hd_iK (-4)))) (hd_sQ (hd_sN (hd_nV hs_sh 4 (hd_rG hs_sh 8 1 (hd_rL 0)) 1 (hd_pR hd_v0 (hd_rG hs_sh 8 0 (hd_rL 0))) wm_X4_giveBack)) (hd_sQ (hd_sN (hd_nV hs_sh 8 (hd_rL 0) 0 hd_v0 wm_X8_forgetAnswers)) (hd_sQ (hd_sN (hd_nV hs_sh 0 (hd_rG hs_sh 8 5 (hd_rL 0)) 0 hd_v0 wm_X0_dropLost)) (hd_sQ (hd_sG (fun x y => x &&& y) hs_sh 8 8 (hd_rL 0) (hd_iN (hd_nV hs_sh 5 (hd_rG hs_sh 8 0 (hd_rL 0)) 0 hd_v0 wm_X5_everyHall))) (hd_sRI (hd_iG hs_sh 4 1 (hd_rG hs_sh 8 1 (hd_rL 0)))))))))
def wm_X8_undo : hd_M := hd_mth 1 wo_X8_undo
set_option maxHeartbeats 4000000 in
set_option maxRecDepth 100000 in
theorem snd_X8_undo : hd_Snd vwCl hs_sh yX8_undo wsX8_undo 3 wm_X8_undo := hd_method (by decide) rfl rfl (by decide) (fun κ C Rk => (hd_seq (p1 := 13) (hd_if (p1 := 10) (p2 := 13) (hd_z_leF C (p2 := 7) (tgt := 13) (hd_getI C (p1 := 4) fX8_undo_155 (hd_getR C (p1 := 1) fX8_undo_19 (hd_aload_n C (kk0 := 0) dX8_undo_0) dX8_undo_1) dX8_undo_4) dX8_undo_7 (by decide)) (hd_retI C Rk (p1 := 12) (hd_bipush C dX8_undo_10 (by decide)) dX8_undo_12) (by decide)) (hd_seq (p1 := 24) (hd_scall (hd_invV C (p1 := 17) (p2 := 21) snd_X4_giveBack hw_X4_giveBack gX8_undo_X4_giveBack hs_c_4 yX8_undo_X4_giveBack ⟨by decide, by decide⟩ (by decide) (hd_getR C (p1 := 14) fX8_undo_19 (hd_aload_n C (kk0 := 0) dX8_undo_13) dX8_undo_14) (hd_apR (p1 := 17) (p2 := 21) hd_av0 (hd_getR C (p1 := 18) fX8_undo_12 (hd_aload_n C (kk0 := 0) dX8_undo_17) dX8_undo_18)) dX8_undo_21)) (hd_seq (p1 := 28) (hd_scall (hd_invV C (p1 := 25) (p2 := 25) snd_X8_forgetAnswers hw_X8_forgetAnswers gX8_undo_X8_forgetAnswers hs_c_8 yX8_undo_X8_forgetAnswers ⟨by decide, by decide⟩ (by decide) (hd_aload_n C (kk0 := 0) dX8_undo_24) hd_av0 dX8_undo_25)) (hd_seq (p1 := 35) (hd_scall (hd_invV C (p1 := 32) (p2 := 32) snd_X0_dropLost hw_X0_dropLost gX8_undo_X0_dropLost hs_c_0 yX8_undo_X0_dropLost ⟨by decide, by decide⟩ (by decide) (hd_getR C (p1 := 29) fX8_undo_53 (hd_aload_n C (kk0 := 0) dX8_undo_28) dX8_undo_29) hd_av0 dX8_undo_32)) (hd_seq (p1 := 51) (hd_sfld_iand C (p1 := 36) (p2 := 47) fX8_undo_167 qX8_undo_167 (hd_aload_n C (kk0 := 0) dX8_undo_35) dX8_undo_36 dX8_undo_37 (hd_inI (hd_invV C (p1 := 44) (p2 := 44) snd_X5_everyHall hw_X5_everyHall gX8_undo_X5_everyHall hs_c_5 yX8_undo_X5_everyHall ⟨by decide, by decide⟩ (by decide) (hd_getR C (p1 := 41) fX8_undo_12 (hd_aload_n C (kk0 := 0) dX8_undo_40) dX8_undo_41) hd_av0 dX8_undo_44)) dX8_undo_47 dX8_undo_48) (hd_retI C Rk (p1 := 58) (hd_getI C (p1 := 55) fX8_undo_155 (hd_getR C (p1 := 52) fX8_undo_19 (hd_aload_n C (kk0 := 0) dX8_undo_51) dX8_undo_52) dX8_undo_55) dX8_undo_58)))))))
/-! X9_about -/
theorem hw_X9_about : wsX9_about = Cond.code yX9_about cX9_about 4 (some .int) :: wsX9_about.tail := rfl
set_option maxRecDepth 100000 in
theorem uX9_about_X9 : ∀ w ∈ u_ws RX9 TX9 28, w ∈ wsX9_about := by decide +kernel
set_option maxRecDepth 100000 in
theorem lX9_about_58 : Cond.fieldLink RX9 58 (TX9 0).1 (TX9 0).2.1 (TX9 0).2.2.1 ∈ wsX9_about := by decide +kernel
set_option maxRecDepth 100000 in
theorem qX9_about_58 : hd_FP wsX9_about RX9 vwCl 9 0 58 .int := ⟨RX9, TX9, 28, tyX9, rfl, by decide, uX9_about_X9, lX9_about_58, tyX9_ok, nmX9, rfl, rfl⟩
set_option maxRecDepth 100000 in
theorem yX9_about_X9_isTown : yX9_isTown.cls = RX9 ∧ yX9_isTown.cls ≠ "java/lang/invoke/MethodHandle" ∧ yX9_isTown.cls ≠ "java/lang/invoke/VarHandle" ∧ (parseMethodDescriptor yX9_isTown.desc).map (fun d => d.parameters.length) = some 1 := by decide +kernel
set_option maxRecDepth 100000 in
theorem yX9_about_X9_in : yX9_in.cls ≠ "java/lang/invoke/MethodHandle" ∧ yX9_in.cls ≠ "java/lang/invoke/VarHandle" ∧ (parseMethodDescriptor yX9_in.desc).map (fun d => d.parameters.length) = some 3 := by decide +kernel
set_option maxRecDepth 100000 in
theorem lX9_about_7 : Cond.fieldLink RX9 7 (TX9 3).1 (TX9 3).2.1 (TX9 3).2.2.1 ∈ wsX9_about := by decide +kernel
set_option maxRecDepth 100000 in
theorem fX9_about_7 : hd_F wsX9_about RX9 vwCl 9 3 7 := ⟨RX9, TX9, 28, rfl, by decide, uX9_about_X9, lX9_about_7⟩
set_option maxRecDepth 100000 in
theorem lX9_about_13 : Cond.fieldLink RX9 13 (TX9 4).1 (TX9 4).2.1 (TX9 4).2.2.1 ∈ wsX9_about := by decide +kernel
set_option maxRecDepth 100000 in
theorem fX9_about_13 : hd_F wsX9_about RX9 vwCl 9 4 13 := ⟨RX9, TX9, 28, rfl, by decide, uX9_about_X9, lX9_about_13⟩
set_option maxRecDepth 100000 in
theorem lX9_about_16 : Cond.fieldLink RX9 16 (TX9 5).1 (TX9 5).2.1 (TX9 5).2.2.1 ∈ wsX9_about := by decide +kernel
set_option maxRecDepth 100000 in
theorem fX9_about_16 : hd_F wsX9_about RX9 vwCl 9 5 16 := ⟨RX9, TX9, 28, rfl, by decide, uX9_about_X9, lX9_about_16⟩
set_option maxRecDepth 100000 in
theorem yX9_about_X9_isHall : yX9_isHall.cls = RX9 ∧ yX9_isHall.cls ≠ "java/lang/invoke/MethodHandle" ∧ yX9_isHall.cls ≠ "java/lang/invoke/VarHandle" ∧ (parseMethodDescriptor yX9_isHall.desc).map (fun d => d.parameters.length) = some 1 := by decide +kernel
set_option maxRecDepth 100000 in
theorem lX9_about_19 : Cond.fieldLink RX9 19 (TX9 6).1 (TX9 6).2.1 (TX9 6).2.2.1 ∈ wsX9_about := by decide +kernel
set_option maxRecDepth 100000 in
theorem fX9_about_19 : hd_F wsX9_about RX9 vwCl 9 6 19 := ⟨RX9, TX9, 28, rfl, by decide, uX9_about_X9, lX9_about_19⟩
set_option maxRecDepth 100000 in
theorem lX9_about_22 : Cond.fieldLink RX9 22 (TX9 7).1 (TX9 7).2.1 (TX9 7).2.2.1 ∈ wsX9_about := by decide +kernel
set_option maxRecDepth 100000 in
theorem fX9_about_22 : hd_F wsX9_about RX9 vwCl 9 7 22 := ⟨RX9, TX9, 28, rfl, by decide, uX9_about_X9, lX9_about_22⟩
set_option maxRecDepth 100000 in
theorem lX9_about_25 : Cond.fieldLink RX9 25 (TX9 8).1 (TX9 8).2.1 (TX9 8).2.2.1 ∈ wsX9_about := by decide +kernel
set_option maxRecDepth 100000 in
theorem fX9_about_25 : hd_F wsX9_about RX9 vwCl 9 8 25 := ⟨RX9, TX9, 28, rfl, by decide, uX9_about_X9, lX9_about_25⟩
set_option maxRecDepth 100000 in
theorem lX9_about_28 : Cond.fieldLink RX9 28 (TX9 9).1 (TX9 9).2.1 (TX9 9).2.2.1 ∈ wsX9_about := by decide +kernel
set_option maxRecDepth 100000 in
theorem fX9_about_28 : hd_F wsX9_about RX9 vwCl 9 9 28 := ⟨RX9, TX9, 28, rfl, by decide, uX9_about_X9, lX9_about_28⟩
def wo_X9_about : hd_xS := (hd_sQ (hd_sF hs_sh 9 0 (hd_rL 0) (hd_iK (0))) (hd_sQ (hd_sW (hd_cA (hd_cA (hd_c0 (fun x => decide (x = 0)) (hd_iL 1)) (hd_c0 (fun x => !decide (x = 0)) (hd_iN (hd_nV hs_sh 9 (hd_rL 0) 1 (hd_pI hd_v0 (hd_iL 2)) wm_X9_isTown)))) (hd_c0 (fun x => !decide (x = 0)) (hd_iN (hd_nS 3 (hd_pI (hd_pI (hd_pI hd_v0 (hd_iL 3)) (hd_iK (0))) (hd_iK (2))) wm_X9_in)))) (hd_sRI (hd_iQ (hd_c0 (fun x => decide (x = 0)) (hd_iL 3)) (hd_iA hs_sh (hd_rG hs_sh 9 3 (hd_rL 0)) (hd_iL 2)) (hd_iQ (hd_cI (fun x y => decide (x = y)) (hd_iL 3) (hd_iK (1))) (hd_iA hs_sh (hd_rG hs_sh 9 4 (hd_rL 0)) (hd_iL 2)) (hd_iB (fun x y => x + y) (hd_iA hs_sh (hd_rG hs_sh 9 5 (hd_rL 0)) (hd_iL 2)) (hd_iK (1000))))))) (hd_sQ (hd_sW (hd_cA (hd_cA (hd_cI (fun x y => decide (x = y)) (hd_iL 1) (hd_iK (1))) (hd_c0 (fun x => !decide (x = 0)) (hd_iN (hd_nV hs_sh 9 (hd_rL 0) 1 (hd_pI hd_v0 (hd_iL 2)) wm_X9_isHall)))) (hd_c0 (fun x => !decide (x = 0)) (hd_iN (hd_nS 3 (hd_pI (hd_pI (hd_pI hd_v0 (hd_iL 3)) (hd_iK (0))) (hd_iK (3))) wm_X9_in)))) (hd_sRI (hd_iQ (hd_c0 (fun x => decide (x = 0)) (hd_iL 3)) (hd_iA hs_sh (hd_rG hs_sh 9 6 (hd_rL 0)) (hd_iL 2)) (hd_iQ (hd_cI (fun x y => decide (x = y)) (hd_iL 3) (hd_iK (1))) (hd_iA hs_sh (hd_rG hs_sh 9 7 (hd_rL 0)) (hd_iL 2)) (hd_iQ (hd_cI (fun x y => decide (x = y)) (hd_iL 3) (hd_iK (2))) (hd_iA hs_sh (hd_rG hs_sh 9 8 (hd_rL 0)) (hd_iL 2)) (hd_iA hs_sh (hd_rG hs_sh 9 9 (hd_rL 0)) (hd_iL 2))))))) (hd_sRI (hd_iK (-3))))))
def wm_X9_about : hd_M := hd_mth 4 wo_X9_about
set_option maxHeartbeats 4000000 in
set_option maxRecDepth 100000 in
theorem snd_X9_about : hd_Snd vwCl hs_sh yX9_about wsX9_about 3 wm_X9_about := hd_method (by decide) rfl rfl (by decide) (fun κ C Rk => (hd_seq (p1 := 5) (hd_sputI C (p1 := 1) (p2 := 2) qX9_about_58 (hd_aload_n C (kk0 := 0) dX9_about_0) (hd_iconst C dX9_about_1 (by decide)) dX9_about_2) (hd_seq (p1 := 64) (hd_if (p1 := 26) (p2 := 64) (hd_and (p1 := 17) (p2 := 26) (p3 := 64) (hd_and (p1 := 9) (p2 := 17) (p3 := 64) (hd_z_eqF C (p2 := 6) (tgt := 64) (hd_iload_n C (kk0 := 1) dX9_about_5) dX9_about_6 (by decide)) (hd_z_neF C (p2 := 14) (tgt := 64) (hd_inI (hd_invV C (p1 := 10) (p2 := 11) snd_X9_isTown hw_X9_isTown gX9_about_X9_isTown hs_c_9 yX9_about_X9_isTown ⟨by decide, by decide⟩ (by decide) (hd_aload_n C (kk0 := 0) dX9_about_9) (hd_apI (p1 := 10) (p2 := 11) hd_av0 (hd_iload_n C (kk0 := 2) dX9_about_10)) dX9_about_11)) dX9_about_14 (by decide))) (hd_z_neF C (p2 := 23) (tgt := 64) (hd_inI (hd_invS C (p2 := 20) snd_X9_in hw_X9_in gX9_about_X9_in yX9_about_X9_in ⟨by decide, by decide⟩ (by decide) (hd_apI (p1 := 19) (p2 := 20) (hd_apI (p1 := 18) (p2 := 19) (hd_apI (p1 := 17) (p2 := 18) hd_av0 (hd_iload_n C (kk0 := 3) dX9_about_17)) (hd_iconst C dX9_about_18 (by decide))) (hd_iconst C dX9_about_19 (by decide))) dX9_about_20)) dX9_about_23 (by decide))) (hd_retI C Rk (p1 := 63) (hd_tnI C (p1 := 30) (p2 := 36) (p3 := 39) (p4 := 63) (hd_z_eqF C (p2 := 27) (tgt := 39) (hd_iload_n C (kk0 := 3) dX9_about_26) dX9_about_27 (by decide)) (hd_iald C (p1 := 34) (p2 := 35) (hd_getR C (p1 := 31) fX9_about_7 (hd_aload_n C (kk0 := 0) dX9_about_30) dX9_about_31) (hd_iload_n C (kk0 := 2) dX9_about_34) dX9_about_35) dX9_about_36 (by decide) (hd_tnI C (p1 := 44) (p2 := 50) (p3 := 53) (p4 := 63) (hd_c_eqF C (p1 := 40) (p2 := 41) (tgt := 53) (hd_iload_n C (kk0 := 3) dX9_about_39) (hd_iconst C dX9_about_40 (by decide)) dX9_about_41 (by decide)) (hd_iald C (p1 := 48) (p2 := 49) (hd_getR C (p1 := 45) fX9_about_13 (hd_aload_n C (kk0 := 0) dX9_about_44) dX9_about_45) (hd_iload_n C (kk0 := 2) dX9_about_48) dX9_about_49) dX9_about_50 (by decide) (hd_iadd C (p1 := 59) (p2 := 62) (hd_iald C (p1 := 57) (p2 := 58) (hd_getR C (p1 := 54) fX9_about_16 (hd_aload_n C (kk0 := 0) dX9_about_53) dX9_about_54) (hd_iload_n C (kk0 := 2) dX9_about_57) dX9_about_58) (hd_sipush C dX9_about_59 (by decide)) dX9_about_62))) dX9_about_63) (by decide)) (hd_seq (p1 := 134) (hd_if (p1 := 86) (p2 := 134) (hd_and (p1 := 77) (p2 := 86) (p3 := 134) (hd_and (p1 := 69) (p2 := 77) (p3 := 134) (hd_c_eqF C (p1 := 65) (p2 := 66) (tgt := 134) (hd_iload_n C (kk0 := 1) dX9_about_64) (hd_iconst C dX9_about_65 (by decide)) dX9_about_66 (by decide)) (hd_z_neF C (p2 := 74) (tgt := 134) (hd_inI (hd_invV C (p1 := 70) (p2 := 71) snd_X9_isHall hw_X9_isHall gX9_about_X9_isHall hs_c_9 yX9_about_X9_isHall ⟨by decide, by decide⟩ (by decide) (hd_aload_n C (kk0 := 0) dX9_about_69) (hd_apI (p1 := 70) (p2 := 71) hd_av0 (hd_iload_n C (kk0 := 2) dX9_about_70)) dX9_about_71)) dX9_about_74 (by decide))) (hd_z_neF C (p2 := 83) (tgt := 134) (hd_inI (hd_invS C (p2 := 80) snd_X9_in hw_X9_in gX9_about_X9_in yX9_about_X9_in ⟨by decide, by decide⟩ (by decide) (hd_apI (p1 := 79) (p2 := 80) (hd_apI (p1 := 78) (p2 := 79) (hd_apI (p1 := 77) (p2 := 78) hd_av0 (hd_iload_n C (kk0 := 3) dX9_about_77)) (hd_iconst C dX9_about_78 (by decide))) (hd_iconst C dX9_about_79 (by decide))) dX9_about_80)) dX9_about_83 (by decide))) (hd_retI C Rk (p1 := 133) (hd_tnI C (p1 := 90) (p2 := 96) (p3 := 99) (p4 := 133) (hd_z_eqF C (p2 := 87) (tgt := 99) (hd_iload_n C (kk0 := 3) dX9_about_86) dX9_about_87 (by decide)) (hd_iald C (p1 := 94) (p2 := 95) (hd_getR C (p1 := 91) fX9_about_19 (hd_aload_n C (kk0 := 0) dX9_about_90) dX9_about_91) (hd_iload_n C (kk0 := 2) dX9_about_94) dX9_about_95) dX9_about_96 (by decide) (hd_tnI C (p1 := 104) (p2 := 110) (p3 := 113) (p4 := 133) (hd_c_eqF C (p1 := 100) (p2 := 101) (tgt := 113) (hd_iload_n C (kk0 := 3) dX9_about_99) (hd_iconst C dX9_about_100 (by decide)) dX9_about_101 (by decide)) (hd_iald C (p1 := 108) (p2 := 109) (hd_getR C (p1 := 105) fX9_about_22 (hd_aload_n C (kk0 := 0) dX9_about_104) dX9_about_105) (hd_iload_n C (kk0 := 2) dX9_about_108) dX9_about_109) dX9_about_110 (by decide) (hd_tnI C (p1 := 118) (p2 := 124) (p3 := 127) (p4 := 133) (hd_c_eqF C (p1 := 114) (p2 := 115) (tgt := 127) (hd_iload_n C (kk0 := 3) dX9_about_113) (hd_iconst C dX9_about_114 (by decide)) dX9_about_115 (by decide)) (hd_iald C (p1 := 122) (p2 := 123) (hd_getR C (p1 := 119) fX9_about_25 (hd_aload_n C (kk0 := 0) dX9_about_118) dX9_about_119) (hd_iload_n C (kk0 := 2) dX9_about_122) dX9_about_123) dX9_about_124 (by decide) (hd_iald C (p1 := 131) (p2 := 132) (hd_getR C (p1 := 128) fX9_about_28 (hd_aload_n C (kk0 := 0) dX9_about_127) dX9_about_128) (hd_iload_n C (kk0 := 2) dX9_about_131) dX9_about_132)))) dX9_about_133) (by decide)) (hd_retI C Rk (p1 := 136) (hd_bipush C dX9_about_134 (by decide)) dX9_about_136)))))
/-! X9_claim -/
theorem hw_X9_claim : wsX9_claim = Cond.code yX9_claim cX9_claim 4 (some .int) :: wsX9_claim.tail := rfl
set_option maxRecDepth 100000 in
theorem uX9_claim_X9 : ∀ w ∈ u_ws RX9 TX9 28, w ∈ wsX9_claim := by decide +kernel
set_option maxRecDepth 100000 in
theorem lX9_claim_58 : Cond.fieldLink RX9 58 (TX9 0).1 (TX9 0).2.1 (TX9 0).2.2.1 ∈ wsX9_claim := by decide +kernel
set_option maxRecDepth 100000 in
theorem qX9_claim_58 : hd_FP wsX9_claim RX9 vwCl 9 0 58 .int := ⟨RX9, TX9, 28, tyX9, rfl, by decide, uX9_claim_X9, lX9_claim_58, tyX9_ok, nmX9, rfl, rfl⟩
set_option maxRecDepth 100000 in
theorem yX9_claim_X9_isTown : yX9_isTown.cls = RX9 ∧ yX9_isTown.cls ≠ "java/lang/invoke/MethodHandle" ∧ yX9_isTown.cls ≠ "java/lang/invoke/VarHandle" ∧ (parseMethodDescriptor yX9_isTown.desc).map (fun d => d.parameters.length) = some 1 := by decide +kernel
set_option maxRecDepth 100000 in
theorem wX9_claim_4 : Cond.constant RX9 106 (1000000) ∈ wsX9_claim := by decide +kernel
set_option maxRecDepth 100000 in
theorem yX9_claim_X9_in : yX9_in.cls ≠ "java/lang/invoke/MethodHandle" ∧ yX9_in.cls ≠ "java/lang/invoke/VarHandle" ∧ (parseMethodDescriptor yX9_in.desc).map (fun d => d.parameters.length) = some 3 := by decide +kernel
set_option maxRecDepth 100000 in
theorem lX9_claim_37 : Cond.fieldLink RX9 37 (TX9 15).1 (TX9 15).2.1 (TX9 15).2.2.1 ∈ wsX9_claim := by decide +kernel
set_option maxRecDepth 100000 in
theorem fX9_claim_37 : hd_F wsX9_claim RX9 vwCl 9 15 37 := ⟨RX9, TX9, 28, rfl, by decide, uX9_claim_X9, lX9_claim_37⟩
def wo_X9_claim : hd_xS := (hd_sQ (hd_sF hs_sh 9 0 (hd_rL 0) (hd_iK (0))) (hd_sQ (hd_sW (hd_cO (hd_cX (hd_c0 (fun x => !decide (x = 0)) (hd_iN (hd_nV hs_sh 9 (hd_rL 0) 1 (hd_pI hd_v0 (hd_iL 1)) wm_X9_isTown)))) (hd_cX (hd_c0 (fun x => !decide (x = 0)) (hd_iN (hd_nS 3 (hd_pI (hd_pI (hd_pI hd_v0 (hd_iL 2)) (hd_iK (0))) (hd_iK (1000000))) wm_X9_in))))) (hd_sRI (hd_iK (-3)))) (hd_sQ (hd_sI 3 (hd_iA hs_sh (hd_rG hs_sh 9 15 (hd_rL 0)) (hd_iL 1))) (hd_sQ (hd_sA hs_sh (hd_rG hs_sh 9 15 (hd_rL 0)) (hd_iL 1) (hd_iL 2)) (hd_sRI (hd_iL 3))))))
def wm_X9_claim : hd_M := hd_mth 4 wo_X9_claim
set_option maxHeartbeats 4000000 in
set_option maxRecDepth 100000 in
theorem snd_X9_claim : hd_Snd vwCl hs_sh yX9_claim wsX9_claim 3 wm_X9_claim := hd_method (by decide) rfl rfl (by decide) (fun κ C Rk => (hd_seq (p1 := 5) (hd_sputI C (p1 := 1) (p2 := 2) qX9_claim_58 (hd_aload_n C (kk0 := 0) dX9_claim_0) (hd_iconst C dX9_claim_1 (by decide)) dX9_claim_2) (hd_seq (p1 := 26) (hd_if (p1 := 23) (p2 := 26) (hd_or (p1 := 13) (p2 := 23) (p3 := 26) (hd_not (hd_z_neF C (p2 := 10) (tgt := 23) (hd_inI (hd_invV C (p1 := 6) (p2 := 7) snd_X9_isTown hw_X9_isTown gX9_claim_X9_isTown hs_c_9 yX9_claim_X9_isTown ⟨by decide, by decide⟩ (by decide) (hd_aload_n C (kk0 := 0) dX9_claim_5) (hd_apI (p1 := 6) (p2 := 7) hd_av0 (hd_iload_n C (kk0 := 1) dX9_claim_6)) dX9_claim_7)) dX9_claim_10 (by decide))) (hd_not (hd_z_neT C (p2 := 20) (tgt := 26) (hd_inI (hd_invS C (p2 := 17) snd_X9_in hw_X9_in gX9_claim_X9_in yX9_claim_X9_in ⟨by decide, by decide⟩ (by decide) (hd_apI (p1 := 15) (p2 := 17) (hd_apI (p1 := 14) (p2 := 15) (hd_apI (p1 := 13) (p2 := 14) hd_av0 (hd_iload_n C (kk0 := 2) dX9_claim_13)) (hd_iconst C dX9_claim_14 (by decide))) (hd_ldc C wX9_claim_4 dX9_claim_15)) dX9_claim_17)) dX9_claim_20 (by decide)))) (hd_retI C Rk (p1 := 25) (hd_bipush C dX9_claim_23 (by decide)) dX9_claim_25) (by decide)) (hd_seq (p1 := 33) (hd_sistore_n C (kk0 := 3) (p1 := 32) (hd_iald C (p1 := 30) (p2 := 31) (hd_getR C (p1 := 27) fX9_claim_37 (hd_aload_n C (kk0 := 0) dX9_claim_26) dX9_claim_27) (hd_iload_n C (kk0 := 1) dX9_claim_30) dX9_claim_31) dX9_claim_32 (by decide)) (hd_seq (p1 := 40) (hd_siast C (p1 := 37) (p2 := 38) (p3 := 39) (hd_getR C (p1 := 34) fX9_claim_37 (hd_aload_n C (kk0 := 0) dX9_claim_33) dX9_claim_34) (hd_iload_n C (kk0 := 1) dX9_claim_37) (hd_iload_n C (kk0 := 2) dX9_claim_38) dX9_claim_39) (hd_retI C Rk (p1 := 41) (hd_iload_n C (kk0 := 3) dX9_claim_40) dX9_claim_41))))))
/-! X9_claimed -/
theorem hw_X9_claimed : wsX9_claimed = Cond.code yX9_claimed cX9_claimed 2 (some .int) :: wsX9_claimed.tail := rfl
set_option maxRecDepth 100000 in
theorem uX9_claimed_X9 : ∀ w ∈ u_ws RX9 TX9 28, w ∈ wsX9_claimed := by decide +kernel
set_option maxRecDepth 100000 in
theorem lX9_claimed_58 : Cond.fieldLink RX9 58 (TX9 0).1 (TX9 0).2.1 (TX9 0).2.2.1 ∈ wsX9_claimed := by decide +kernel
set_option maxRecDepth 100000 in
theorem qX9_claimed_58 : hd_FP wsX9_claimed RX9 vwCl 9 0 58 .int := ⟨RX9, TX9, 28, tyX9, rfl, by decide, uX9_claimed_X9, lX9_claimed_58, tyX9_ok, nmX9, rfl, rfl⟩
set_option maxRecDepth 100000 in
theorem yX9_claimed_X9_isTown : yX9_isTown.cls = RX9 ∧ yX9_isTown.cls ≠ "java/lang/invoke/MethodHandle" ∧ yX9_isTown.cls ≠ "java/lang/invoke/VarHandle" ∧ (parseMethodDescriptor yX9_isTown.desc).map (fun d => d.parameters.length) = some 1 := by decide +kernel
set_option maxRecDepth 100000 in
theorem lX9_claimed_37 : Cond.fieldLink RX9 37 (TX9 15).1 (TX9 15).2.1 (TX9 15).2.2.1 ∈ wsX9_claimed := by decide +kernel
set_option maxRecDepth 100000 in
theorem fX9_claimed_37 : hd_F wsX9_claimed RX9 vwCl 9 15 37 := ⟨RX9, TX9, 28, rfl, by decide, uX9_claimed_X9, lX9_claimed_37⟩
def wo_X9_claimed : hd_xS := (hd_sQ (hd_sF hs_sh 9 0 (hd_rL 0) (hd_iK (0))) (hd_sRI (hd_iQ (hd_c0 (fun x => !decide (x = 0)) (hd_iN (hd_nV hs_sh 9 (hd_rL 0) 1 (hd_pI hd_v0 (hd_iL 1)) wm_X9_isTown))) (hd_iA hs_sh (hd_rG hs_sh 9 15 (hd_rL 0)) (hd_iL 1)) (hd_iK (-3)))))
def wm_X9_claimed : hd_M := hd_mth 2 wo_X9_claimed
set_option maxHeartbeats 4000000 in
set_option maxRecDepth 100000 in
theorem snd_X9_claimed : hd_Snd vwCl hs_sh yX9_claimed wsX9_claimed 3 wm_X9_claimed := hd_method (by decide) rfl rfl (by decide) (fun κ C Rk => (hd_seq (p1 := 5) (hd_sputI C (p1 := 1) (p2 := 2) qX9_claimed_58 (hd_aload_n C (kk0 := 0) dX9_claimed_0) (hd_iconst C dX9_claimed_1 (by decide)) dX9_claimed_2) (hd_retI C Rk (p1 := 24) (hd_tnI C (p1 := 13) (p2 := 19) (p3 := 22) (p4 := 24) (hd_z_neF C (p2 := 10) (tgt := 22) (hd_inI (hd_invV C (p1 := 6) (p2 := 7) snd_X9_isTown hw_X9_isTown gX9_claimed_X9_isTown hs_c_9 yX9_claimed_X9_isTown ⟨by decide, by decide⟩ (by decide) (hd_aload_n C (kk0 := 0) dX9_claimed_5) (hd_apI (p1 := 6) (p2 := 7) hd_av0 (hd_iload_n C (kk0 := 1) dX9_claimed_6)) dX9_claimed_7)) dX9_claimed_10 (by decide)) (hd_iald C (p1 := 17) (p2 := 18) (hd_getR C (p1 := 14) fX9_claimed_37 (hd_aload_n C (kk0 := 0) dX9_claimed_13) dX9_claimed_14) (hd_iload_n C (kk0 := 1) dX9_claimed_17) dX9_claimed_18) dX9_claimed_19 (by decide) (hd_bipush C dX9_claimed_22 (by decide))) dX9_claimed_24)))
/-! X9_copy -/
theorem hw_X9_copy : wsX9_copy = Cond.code yX9_copy cX9_copy 8 (some .int) :: wsX9_copy.tail := rfl
set_option maxRecDepth 100000 in
theorem uX9_copy_X9 : ∀ w ∈ u_ws RX9 TX9 28, w ∈ wsX9_copy := by decide +kernel
set_option maxRecDepth 100000 in
theorem lX9_copy_58 : Cond.fieldLink RX9 58 (TX9 0).1 (TX9 0).2.1 (TX9 0).2.2.1 ∈ wsX9_copy := by decide +kernel
set_option maxRecDepth 100000 in
theorem qX9_copy_58 : hd_FP wsX9_copy RX9 vwCl 9 0 58 .int := ⟨RX9, TX9, 28, tyX9, rfl, by decide, uX9_copy_X9, lX9_copy_58, tyX9_ok, nmX9, rfl, rfl⟩
set_option maxRecDepth 100000 in
theorem yX9_copy_X9_isHall : yX9_isHall.cls = RX9 ∧ yX9_isHall.cls ≠ "java/lang/invoke/MethodHandle" ∧ yX9_isHall.cls ≠ "java/lang/invoke/VarHandle" ∧ (parseMethodDescriptor yX9_isHall.desc).map (fun d => d.parameters.length) = some 1 := by decide +kernel
set_option maxRecDepth 100000 in
theorem lX9_copy_25 : Cond.fieldLink RX9 25 (TX9 8).1 (TX9 8).2.1 (TX9 8).2.2.1 ∈ wsX9_copy := by decide +kernel
set_option maxRecDepth 100000 in
theorem fX9_copy_25 : hd_F wsX9_copy RX9 vwCl 9 8 25 := ⟨RX9, TX9, 28, rfl, by decide, uX9_copy_X9, lX9_copy_25⟩
set_option maxRecDepth 100000 in
theorem lX9_copy_28 : Cond.fieldLink RX9 28 (TX9 9).1 (TX9 9).2.1 (TX9 9).2.2.1 ∈ wsX9_copy := by decide +kernel
set_option maxRecDepth 100000 in
theorem fX9_copy_28 : hd_F wsX9_copy RX9 vwCl 9 9 28 := ⟨RX9, TX9, 28, rfl, by decide, uX9_copy_X9, lX9_copy_28⟩
set_option maxRecDepth 100000 in
theorem yX9_copy_X9_keep : yX9_keep.cls = RX9 ∧ yX9_keep.cls ≠ "java/lang/invoke/MethodHandle" ∧ yX9_keep.cls ≠ "java/lang/invoke/VarHandle" ∧ (parseMethodDescriptor yX9_keep.desc).map (fun d => d.parameters.length) = some 0 := by decide +kernel
set_option maxRecDepth 100000 in
theorem lX9_copy_31 : Cond.fieldLink RX9 31 (TX9 10).1 (TX9 10).2.1 (TX9 10).2.2.1 ∈ wsX9_copy := by decide +kernel
set_option maxRecDepth 100000 in
theorem fX9_copy_31 : hd_F wsX9_copy RX9 vwCl 9 10 31 := ⟨RX9, TX9, 28, rfl, by decide, uX9_copy_X9, lX9_copy_31⟩
def wc_X9_copy_123 : hd_xC := (hd_cI (fun x y => decide (x < y)) (hd_iL 6) (hd_iL 5))
def wb_X9_copy_123 : hd_xS := (hd_sQ (hd_sQ (hd_sI 7 (hd_iQ (hd_cI (fun x y => decide (y < x)) (hd_iL 4) (hd_iL 2)) (hd_iB (fun x y => x - y) (hd_iB (fun x y => x - y) (hd_iL 5) (hd_iK (1))) (hd_iL 6)) (hd_iL 6))) (hd_sA hs_sh (hd_rG hs_sh 9 10 (hd_rL 0)) (hd_iB (fun x y => x + y) (hd_iB (fun x y => x + y) (hd_iB (fun x y => x * y) (hd_iK (8)) (hd_iL 3)) (hd_iL 4)) (hd_iL 7)) (hd_iA hs_sh (hd_rG hs_sh 9 10 (hd_rL 0)) (hd_iB (fun x y => x + y) (hd_iB (fun x y => x + y) (hd_iB (fun x y => x * y) (hd_iK (8)) (hd_iL 1)) (hd_iL 2)) (hd_iL 7))))) (hd_sP 6 (1)))
def wo_X9_copy : hd_xS := (hd_sQ (hd_sF hs_sh 9 0 (hd_rL 0) (hd_iK (0))) (hd_sQ (hd_sW (hd_cO (hd_cX (hd_c0 (fun x => !decide (x = 0)) (hd_iN (hd_nV hs_sh 9 (hd_rL 0) 1 (hd_pI hd_v0 (hd_iL 1)) wm_X9_isHall)))) (hd_cX (hd_c0 (fun x => !decide (x = 0)) (hd_iN (hd_nV hs_sh 9 (hd_rL 0) 1 (hd_pI hd_v0 (hd_iL 3)) wm_X9_isHall))))) (hd_sRI (hd_iK (-3)))) (hd_sQ (hd_sW (hd_cO (hd_cI (fun x y => decide (x = y)) (hd_iA hs_sh (hd_rG hs_sh 9 8 (hd_rL 0)) (hd_iL 1)) (hd_iK (-1))) (hd_cI (fun x y => decide (x = y)) (hd_iA hs_sh (hd_rG hs_sh 9 8 (hd_rL 0)) (hd_iL 3)) (hd_iK (-1)))) (hd_sRI (hd_iK (-11)))) (hd_sQ (hd_sW (hd_cI (fun x y => !decide (x = y)) (hd_iA hs_sh (hd_rG hs_sh 9 8 (hd_rL 0)) (hd_iL 1)) (hd_iA hs_sh (hd_rG hs_sh 9 8 (hd_rL 0)) (hd_iL 3))) (hd_sRI (hd_iK (-4)))) (hd_sQ (hd_sW (hd_cO (hd_cO (hd_cO (hd_cO (hd_cO (hd_c0 (fun x => decide (x < 0)) (hd_iL 5)) (hd_c0 (fun x => decide (x < 0)) (hd_iL 2))) (hd_c0 (fun x => decide (x < 0)) (hd_iL 4))) (hd_cI (fun x y => decide (y < x)) (hd_iL 5) (hd_iK (8)))) (hd_cI (fun x y => decide (y < x)) (hd_iL 2) (hd_iB (fun x y => x - y) (hd_iA hs_sh (hd_rG hs_sh 9 9 (hd_rL 0)) (hd_iL 1)) (hd_iL 5)))) (hd_cI (fun x y => decide (y < x)) (hd_iL 4) (hd_iB (fun x y => x - y) (hd_iA hs_sh (hd_rG hs_sh 9 9 (hd_rL 0)) (hd_iL 3)) (hd_iL 5)))) (hd_sRI (hd_iK (-13)))) (hd_sQ (hd_sN (hd_nV hs_sh 9 (hd_rL 0) 0 hd_v0 wm_X9_keep)) (hd_sQ (hd_sQ (hd_sI 6 (hd_iK (0))) (hd_sH (wc_X9_copy_123) (wb_X9_copy_123))) (hd_sRI (hd_iL 5)))))))))
def wm_X9_copy : hd_M := hd_mth 8 wo_X9_copy
set_option maxHeartbeats 4000000 in
set_option maxRecDepth 100000 in
theorem snd_X9_copy : hd_Snd vwCl hs_sh yX9_copy wsX9_copy 3 wm_X9_copy := hd_method (by decide) rfl rfl (by decide) (fun κ C Rk => (hd_seq (p1 := 5) (hd_sputI C (p1 := 1) (p2 := 2) qX9_copy_58 (hd_aload_n C (kk0 := 0) dX9_copy_0) (hd_iconst C dX9_copy_1 (by decide)) dX9_copy_2) (hd_seq (p1 := 24) (hd_if (p1 := 21) (p2 := 24) (hd_or (p1 := 13) (p2 := 21) (p3 := 24) (hd_not (hd_z_neF C (p2 := 10) (tgt := 21) (hd_inI (hd_invV C (p1 := 6) (p2 := 7) snd_X9_isHall hw_X9_isHall gX9_copy_X9_isHall hs_c_9 yX9_copy_X9_isHall ⟨by decide, by decide⟩ (by decide) (hd_aload_n C (kk0 := 0) dX9_copy_5) (hd_apI (p1 := 6) (p2 := 7) hd_av0 (hd_iload_n C (kk0 := 1) dX9_copy_6)) dX9_copy_7)) dX9_copy_10 (by decide))) (hd_not (hd_z_neT C (p2 := 18) (tgt := 24) (hd_inI (hd_invV C (p1 := 14) (p2 := 15) snd_X9_isHall hw_X9_isHall gX9_copy_X9_isHall hs_c_9 yX9_copy_X9_isHall ⟨by decide, by decide⟩ (by decide) (hd_aload_n C (kk0 := 0) dX9_copy_13) (hd_apI (p1 := 14) (p2 := 15) hd_av0 (hd_iload_n C (kk0 := 3) dX9_copy_14)) dX9_copy_15)) dX9_copy_18 (by decide)))) (hd_retI C Rk (p1 := 23) (hd_bipush C dX9_copy_21 (by decide)) dX9_copy_23) (by decide)) (hd_seq (p1 := 47) (hd_if (p1 := 44) (p2 := 47) (hd_or (p1 := 34) (p2 := 44) (p3 := 47) (hd_c_eqT C (p1 := 30) (p2 := 31) (tgt := 44) (hd_iald C (p1 := 28) (p2 := 29) (hd_getR C (p1 := 25) fX9_copy_25 (hd_aload_n C (kk0 := 0) dX9_copy_24) dX9_copy_25) (hd_iload_n C (kk0 := 1) dX9_copy_28) dX9_copy_29) (hd_iconst C dX9_copy_30 (by decide)) dX9_copy_31 (by decide)) (hd_c_eqF C (p1 := 40) (p2 := 41) (tgt := 47) (hd_iald C (p1 := 38) (p2 := 39) (hd_getR C (p1 := 35) fX9_copy_25 (hd_aload_n C (kk0 := 0) dX9_copy_34) dX9_copy_35) (hd_iload_n C (kk0 := 3) dX9_copy_38) dX9_copy_39) (hd_iconst C dX9_copy_40 (by decide)) dX9_copy_41 (by decide))) (hd_retI C Rk (p1 := 46) (hd_bipush C dX9_copy_44 (by decide)) dX9_copy_46) (by decide)) (hd_seq (p1 := 65) (hd_if (p1 := 62) (p2 := 65) (hd_c_neF C (p1 := 53) (p2 := 59) (tgt := 65) (hd_iald C (p1 := 51) (p2 := 52) (hd_getR C (p1 := 48) fX9_copy_25 (hd_aload_n C (kk0 := 0) dX9_copy_47) dX9_copy_48) (hd_iload_n C (kk0 := 1) dX9_copy_51) dX9_copy_52) (hd_iald C (p1 := 57) (p2 := 58) (hd_getR C (p1 := 54) fX9_copy_25 (hd_aload_n C (kk0 := 0) dX9_copy_53) dX9_copy_54) (hd_iload_n C (kk0 := 3) dX9_copy_57) dX9_copy_58) dX9_copy_59 (by decide)) (hd_retI C Rk (p1 := 64) (hd_bipush C dX9_copy_62 (by decide)) dX9_copy_64) (by decide)) (hd_seq (p1 := 116) (hd_if (p1 := 113) (p2 := 116) (hd_or (p1 := 99) (p2 := 113) (p3 := 116) (hd_or (p1 := 86) (p2 := 113) (p3 := 99) (hd_or (p1 := 79) (p2 := 113) (p3 := 86) (hd_or (p1 := 74) (p2 := 113) (p3 := 79) (hd_or (p1 := 70) (p2 := 113) (p3 := 74) (hd_z_ltT C (p2 := 67) (tgt := 113) (hd_iload C dX9_copy_65) dX9_copy_67 (by decide)) (hd_z_ltT C (p2 := 71) (tgt := 113) (hd_iload_n C (kk0 := 2) dX9_copy_70) dX9_copy_71 (by decide))) (hd_z_ltT C (p2 := 76) (tgt := 113) (hd_iload C dX9_copy_74) dX9_copy_76 (by decide))) (hd_c_gtT C (p1 := 81) (p2 := 83) (tgt := 113) (hd_iload C dX9_copy_79) (hd_bipush C dX9_copy_81 (by decide)) dX9_copy_83 (by decide))) (hd_c_gtT C (p1 := 87) (p2 := 96) (tgt := 113) (hd_iload_n C (kk0 := 2) dX9_copy_86) (hd_isub C (p1 := 93) (p2 := 95) (hd_iald C (p1 := 91) (p2 := 92) (hd_getR C (p1 := 88) fX9_copy_28 (hd_aload_n C (kk0 := 0) dX9_copy_87) dX9_copy_88) (hd_iload_n C (kk0 := 1) dX9_copy_91) dX9_copy_92) (hd_iload C dX9_copy_93) dX9_copy_95) dX9_copy_96 (by decide))) (hd_c_gtF C (p1 := 101) (p2 := 110) (tgt := 116) (hd_iload C dX9_copy_99) (hd_isub C (p1 := 107) (p2 := 109) (hd_iald C (p1 := 105) (p2 := 106) (hd_getR C (p1 := 102) fX9_copy_28 (hd_aload_n C (kk0 := 0) dX9_copy_101) dX9_copy_102) (hd_iload_n C (kk0 := 3) dX9_copy_105) dX9_copy_106) (hd_iload C dX9_copy_107) dX9_copy_109) dX9_copy_110 (by decide))) (hd_retI C Rk (p1 := 115) (hd_bipush C dX9_copy_113 (by decide)) dX9_copy_115) (by decide)) (hd_seq (p1 := 120) (hd_scall (hd_invV C (p1 := 117) (p2 := 117) snd_X9_keep hw_X9_keep gX9_copy_X9_keep hs_c_9 yX9_copy_X9_keep ⟨by decide, by decide⟩ (by decide) (hd_aload_n C (kk0 := 0) dX9_copy_116) hd_av0 dX9_copy_117)) (hd_seq (p1 := 185) (hd_seq (p1 := 123) (hd_sistore C (p1 := 121) (hd_iconst C dX9_copy_120 (by decide)) dX9_copy_121 (by decide)) (hd_loop C (p1 := 130) (p2 := 185) (hd_c_ltF C (p1 := 125) (p2 := 127) (tgt := 185) (hd_iload C dX9_copy_123) (hd_iload C dX9_copy_125) dX9_copy_127 (by decide)) (hd_seq (p1 := 179) (hd_seq (p1 := 150) (hd_sistore C (p1 := 148) (hd_tnI C (p1 := 136) (p2 := 143) (p3 := 146) (p4 := 148) (hd_c_gtF C (p1 := 132) (p2 := 133) (tgt := 146) (hd_iload C dX9_copy_130) (hd_iload_n C (kk0 := 2) dX9_copy_132) dX9_copy_133 (by decide)) (hd_isub C (p1 := 140) (p2 := 142) (hd_isub C (p1 := 138) (p2 := 139) (hd_iload C dX9_copy_136) (hd_iconst C dX9_copy_138 (by decide)) dX9_copy_139) (hd_iload C dX9_copy_140) dX9_copy_142) dX9_copy_143 (by decide) (hd_iload C dX9_copy_146)) dX9_copy_148 (by decide)) (hd_siast C (p1 := 154) (p2 := 164) (p3 := 178) (hd_getR C (p1 := 151) fX9_copy_31 (hd_aload_n C (kk0 := 0) dX9_copy_150) dX9_copy_151) (hd_iadd C (p1 := 161) (p2 := 163) (hd_iadd C (p1 := 158) (p2 := 160) (hd_imul C (p1 := 156) (p2 := 157) (hd_bipush C dX9_copy_154 (by decide)) (hd_iload_n C (kk0 := 3) dX9_copy_156) dX9_copy_157) (hd_iload C dX9_copy_158) dX9_copy_160) (hd_iload C dX9_copy_161) dX9_copy_163) (hd_iald C (p1 := 168) (p2 := 177) (hd_getR C (p1 := 165) fX9_copy_31 (hd_aload_n C (kk0 := 0) dX9_copy_164) dX9_copy_165) (hd_iadd C (p1 := 174) (p2 := 176) (hd_iadd C (p1 := 172) (p2 := 173) (hd_imul C (p1 := 170) (p2 := 171) (hd_bipush C dX9_copy_168 (by decide)) (hd_iload_n C (kk0 := 1) dX9_copy_170) dX9_copy_171) (hd_iload_n C (kk0 := 2) dX9_copy_172) dX9_copy_173) (hd_iload C dX9_copy_174) dX9_copy_176) dX9_copy_177) dX9_copy_178)) (hd_sgoto C (p1 := 182) (tgt := 123) (hd_ends (es := [182]) (by decide) (hd_siinc C dX9_copy_179 (by decide) (by decide))) dX9_copy_182 (by decide) (by decide))) (by decide))) (hd_retI C Rk (p1 := 187) (hd_iload C dX9_copy_185) dX9_copy_187)))))))))
/-! X9_count -/
theorem hw_X9_count : wsX9_count = Cond.code yX9_count cX9_count 4 (some .int) :: wsX9_count.tail := rfl
set_option maxRecDepth 100000 in
theorem uX9_count_X9 : ∀ w ∈ u_ws RX9 TX9 28, w ∈ wsX9_count := by decide +kernel
set_option maxRecDepth 100000 in
theorem lX9_count_58 : Cond.fieldLink RX9 58 (TX9 0).1 (TX9 0).2.1 (TX9 0).2.2.1 ∈ wsX9_count := by decide +kernel
set_option maxRecDepth 100000 in
theorem qX9_count_58 : hd_FP wsX9_count RX9 vwCl 9 0 58 .int := ⟨RX9, TX9, 28, tyX9, rfl, by decide, uX9_count_X9, lX9_count_58, tyX9_ok, nmX9, rfl, rfl⟩
set_option maxRecDepth 100000 in
theorem lX9_count_68 : Cond.fieldLink RX9 68 (TX9 1).1 (TX9 1).2.1 (TX9 1).2.2.1 ∈ wsX9_count := by decide +kernel
set_option maxRecDepth 100000 in
theorem fX9_count_68 : hd_F wsX9_count RX9 vwCl 9 1 68 := ⟨RX9, TX9, 28, rfl, by decide, uX9_count_X9, lX9_count_68⟩
set_option maxRecDepth 100000 in
theorem lX9_count_71 : Cond.fieldLink RX9 71 (TX9 2).1 (TX9 2).2.1 (TX9 2).2.2.1 ∈ wsX9_count := by decide +kernel
set_option maxRecDepth 100000 in
theorem fX9_count_71 : hd_F wsX9_count RX9 vwCl 9 2 71 := ⟨RX9, TX9, 28, rfl, by decide, uX9_count_X9, lX9_count_71⟩
set_option maxRecDepth 100000 in
theorem lX9_count_7 : Cond.fieldLink RX9 7 (TX9 3).1 (TX9 3).2.1 (TX9 3).2.2.1 ∈ wsX9_count := by decide +kernel
set_option maxRecDepth 100000 in
theorem fX9_count_7 : hd_F wsX9_count RX9 vwCl 9 3 7 := ⟨RX9, TX9, 28, rfl, by decide, uX9_count_X9, lX9_count_7⟩
set_option maxRecDepth 100000 in
theorem lX9_count_25 : Cond.fieldLink RX9 25 (TX9 8).1 (TX9 8).2.1 (TX9 8).2.2.1 ∈ wsX9_count := by decide +kernel
set_option maxRecDepth 100000 in
theorem fX9_count_25 : hd_F wsX9_count RX9 vwCl 9 8 25 := ⟨RX9, TX9, 28, rfl, by decide, uX9_count_X9, lX9_count_25⟩
set_option maxRecDepth 100000 in
theorem lX9_count_84 : Cond.fieldLink RX9 84 (TX9 14).1 (TX9 14).2.1 (TX9 14).2.2.1 ∈ wsX9_count := by decide +kernel
set_option maxRecDepth 100000 in
theorem fX9_count_84 : hd_F wsX9_count RX9 vwCl 9 14 84 := ⟨RX9, TX9, 28, rfl, by decide, uX9_count_X9, lX9_count_84⟩
set_option maxRecDepth 100000 in
theorem yX9_count_X9_sizeOf : yX9_sizeOf.cls ≠ "java/lang/invoke/MethodHandle" ∧ yX9_sizeOf.cls ≠ "java/lang/invoke/VarHandle" ∧ (parseMethodDescriptor yX9_sizeOf.desc).map (fun d => d.parameters.length) = some 1 := by decide +kernel
set_option maxRecDepth 100000 in
theorem lX9_count_78 : Cond.fieldLink RX9 78 (TX9 13).1 (TX9 13).2.1 (TX9 13).2.2.1 ∈ wsX9_count := by decide +kernel
set_option maxRecDepth 100000 in
theorem fX9_count_78 : hd_F wsX9_count RX9 vwCl 9 13 78 := ⟨RX9, TX9, 28, rfl, by decide, uX9_count_X9, lX9_count_78⟩
set_option maxRecDepth 100000 in
theorem yX9_count_X9_allTowns : yX9_allTowns.cls = RX9 ∧ yX9_allTowns.cls ≠ "java/lang/invoke/MethodHandle" ∧ yX9_allTowns.cls ≠ "java/lang/invoke/VarHandle" ∧ (parseMethodDescriptor yX9_allTowns.desc).map (fun d => d.parameters.length) = some 0 := by decide +kernel
set_option maxRecDepth 100000 in
theorem yX9_count_X9_together : yX9_together.cls = RX9 ∧ yX9_together.cls ≠ "java/lang/invoke/MethodHandle" ∧ yX9_together.cls ≠ "java/lang/invoke/VarHandle" ∧ (parseMethodDescriptor yX9_together.desc).map (fun d => d.parameters.length) = some 1 := by decide +kernel
def wc_X9_count_64 : hd_xC := (hd_cI (fun x y => decide (x < y)) (hd_iL 3) (hd_iG hs_sh 9 1 (hd_rL 0)))
def wb_X9_count_64 : hd_xS := (hd_sQ (hd_sI 2 (hd_iB (fun x y => x + y) (hd_iL 2) (hd_iA hs_sh (hd_rG hs_sh 9 3 (hd_rL 0)) (hd_iL 3)))) (hd_sP 3 (1)))
def wc_X9_count_91 : hd_xC := (hd_cI (fun x y => decide (x < y)) (hd_iL 3) (hd_iG hs_sh 9 2 (hd_rL 0)))
def wb_X9_count_91 : hd_xS := (hd_sQ (hd_sI 2 (hd_iB (fun x y => x + y) (hd_iL 2) (hd_iQ (hd_cI (fun x y => !decide (x = y)) (hd_iA hs_sh (hd_rG hs_sh 9 8 (hd_rL 0)) (hd_iL 3)) (hd_iK (-1))) (hd_iK (1)) (hd_iK (0))))) (hd_sP 3 (1)))
def wo_X9_count : hd_xS := (hd_sQ (hd_sF hs_sh 9 0 (hd_rL 0) (hd_iK (0))) (hd_sQ (hd_sI 2 (hd_iK (0))) (hd_sSw (hd_iL 1) [(hd_sRI (hd_iG hs_sh 9 1 (hd_rL 0))), (hd_sRI (hd_iG hs_sh 9 2 (hd_rL 0))), (hd_sQ (hd_sQ (hd_sI 3 (hd_iK (0))) (hd_sH (wc_X9_count_64) (wb_X9_count_64))) (hd_sRI (hd_iL 2))), (hd_sQ (hd_sQ (hd_sI 3 (hd_iK (0))) (hd_sH (wc_X9_count_91) (wb_X9_count_91))) (hd_sRI (hd_iL 2))), (hd_sRI (hd_iN (hd_nS 1 (hd_pI hd_v0 (hd_iG hs_sh 9 14 (hd_rL 0))) wm_X9_sizeOf))), (hd_sRI (hd_iG hs_sh 9 13 (hd_rL 0))), (hd_sRI (hd_iN (hd_nV hs_sh 9 (hd_rL 0) 1 (hd_pI hd_v0 (hd_iN (hd_nV hs_sh 9 (hd_rL 0) 0 hd_v0 wm_X9_allTowns))) wm_X9_together)))] (hd_sRI (hd_iK (-3))))))
def wm_X9_count : hd_M := hd_mth 4 wo_X9_count
set_option maxHeartbeats 4000000 in
set_option maxRecDepth 100000 in
theorem snd_X9_count : hd_Snd vwCl hs_sh yX9_count wsX9_count 3 wm_X9_count := hd_method (by decide) rfl rfl (by decide) (fun κ C Rk => (hd_seq (p1 := 5) (hd_sputI C (p1 := 1) (p2 := 2) qX9_count_58 (hd_aload_n C (kk0 := 0) dX9_count_0) (hd_iconst C dX9_count_1 (by decide)) dX9_count_2) (hd_seq (p1 := 7) (hd_sistore_n C (kk0 := 2) (p1 := 6) (hd_iconst C dX9_count_5 (by decide)) dX9_count_6 (by decide)) (hd_switch2 C (p1 := 8) (tgt := 147) (hd_iload_n C (kk0 := 1) dX9_count_7) dX9_count_8 (by decide) (by decide) ⟨⟨44, 52, rfl, by decide, (hd_retI C Rk (p1 := 56) (hd_getI C (p1 := 53) fX9_count_68 (hd_aload_n C (kk0 := 0) dX9_count_52) dX9_count_53) dX9_count_56)⟩, ⟨49, 57, rfl, by decide, (hd_retI C Rk (p1 := 61) (hd_getI C (p1 := 58) fX9_count_71 (hd_aload_n C (kk0 := 0) dX9_count_57) dX9_count_58) dX9_count_61)⟩, ⟨54, 62, rfl, by decide, (hd_seq (p1 := 87) (hd_seq (p1 := 64) (hd_sistore_n C (kk0 := 3) (p1 := 63) (hd_iconst C dX9_count_62 (by decide)) dX9_count_63 (by decide)) (hd_loop C (p1 := 72) (p2 := 87) (hd_c_ltF C (p1 := 65) (p2 := 69) (tgt := 87) (hd_iload_n C (kk0 := 3) dX9_count_64) (hd_getI C (p1 := 66) fX9_count_68 (hd_aload_n C (kk0 := 0) dX9_count_65) dX9_count_66) dX9_count_69 (by decide)) (hd_seq (p1 := 81) (hd_sistore_n C (kk0 := 2) (p1 := 80) (hd_iadd C (p1 := 73) (p2 := 79) (hd_iload_n C (kk0 := 2) dX9_count_72) (hd_iald C (p1 := 77) (p2 := 78) (hd_getR C (p1 := 74) fX9_count_7 (hd_aload_n C (kk0 := 0) dX9_count_73) dX9_count_74) (hd_iload_n C (kk0 := 3) dX9_count_77) dX9_count_78) dX9_count_79) dX9_count_80 (by decide)) (hd_sgoto C (p1 := 84) (tgt := 64) (hd_ends (es := [84]) (by decide) (hd_siinc C dX9_count_81 (by decide) (by decide))) dX9_count_84 (by decide) (by decide))) (by decide))) (hd_retI C Rk (p1 := 88) (hd_iload_n C (kk0 := 2) dX9_count_87) dX9_count_88))⟩, ⟨81, 89, rfl, by decide, (hd_seq (p1 := 123) (hd_seq (p1 := 91) (hd_sistore_n C (kk0 := 3) (p1 := 90) (hd_iconst C dX9_count_89 (by decide)) dX9_count_90 (by decide)) (hd_loop C (p1 := 99) (p2 := 123) (hd_c_ltF C (p1 := 92) (p2 := 96) (tgt := 123) (hd_iload_n C (kk0 := 3) dX9_count_91) (hd_getI C (p1 := 93) fX9_count_71 (hd_aload_n C (kk0 := 0) dX9_count_92) dX9_count_93) dX9_count_96 (by decide)) (hd_seq (p1 := 117) (hd_sistore_n C (kk0 := 2) (p1 := 116) (hd_iadd C (p1 := 100) (p2 := 115) (hd_iload_n C (kk0 := 2) dX9_count_99) (hd_tnI C (p1 := 110) (p2 := 111) (p3 := 114) (p4 := 115) (hd_c_neF C (p1 := 106) (p2 := 107) (tgt := 114) (hd_iald C (p1 := 104) (p2 := 105) (hd_getR C (p1 := 101) fX9_count_25 (hd_aload_n C (kk0 := 0) dX9_count_100) dX9_count_101) (hd_iload_n C (kk0 := 3) dX9_count_104) dX9_count_105) (hd_iconst C dX9_count_106 (by decide)) dX9_count_107 (by decide)) (hd_iconst C dX9_count_110 (by decide)) dX9_count_111 (by decide) (hd_iconst C dX9_count_114 (by decide))) dX9_count_115) dX9_count_116 (by decide)) (hd_sgoto C (p1 := 120) (tgt := 91) (hd_ends (es := [120]) (by decide) (hd_siinc C dX9_count_117 (by decide) (by decide))) dX9_count_120 (by decide) (by decide))) (by decide))) (hd_retI C Rk (p1 := 124) (hd_iload_n C (kk0 := 2) dX9_count_123) dX9_count_124))⟩, ⟨117, 125, rfl, by decide, (hd_retI C Rk (p1 := 132) (hd_inI (hd_invS C (p2 := 129) snd_X9_sizeOf hw_X9_sizeOf gX9_count_X9_sizeOf yX9_count_X9_sizeOf ⟨by decide, by decide⟩ (by decide) (hd_apI (p1 := 125) (p2 := 129) hd_av0 (hd_getI C (p1 := 126) fX9_count_84 (hd_aload_n C (kk0 := 0) dX9_count_125) dX9_count_126)) dX9_count_129)) dX9_count_132)⟩, ⟨125, 133, rfl, by decide, (hd_retI C Rk (p1 := 137) (hd_getI C (p1 := 134) fX9_count_78 (hd_aload_n C (kk0 := 0) dX9_count_133) dX9_count_134) dX9_count_137)⟩, ⟨130, 138, rfl, by decide, (hd_retI C Rk (p1 := 146) (hd_inI (hd_invV C (p1 := 139) (p2 := 143) snd_X9_together hw_X9_together gX9_count_X9_together hs_c_9 yX9_count_X9_together ⟨by decide, by decide⟩ (by decide) (hd_aload_n C (kk0 := 0) dX9_count_138) (hd_apI (p1 := 139) (p2 := 143) hd_av0 (hd_inI (hd_invV C (p1 := 140) (p2 := 140) snd_X9_allTowns hw_X9_allTowns gX9_count_X9_allTowns hs_c_9 yX9_count_X9_allTowns ⟨by decide, by decide⟩ (by decide) (hd_aload_n C (kk0 := 0) dX9_count_139) hd_av0 dX9_count_140))) dX9_count_143)) dX9_count_146)⟩, trivial⟩ (by decide) (hd_retI C Rk (p1 := 149) (hd_bipush C dX9_count_147 (by decide)) dX9_count_149)))))
/-! X9_far -/
theorem hw_X9_far : wsX9_far = Cond.code yX9_far cX9_far 3 (some .int) :: wsX9_far.tail := rfl
set_option maxRecDepth 100000 in
theorem uX9_far_X9 : ∀ w ∈ u_ws RX9 TX9 28, w ∈ wsX9_far := by decide +kernel
set_option maxRecDepth 100000 in
theorem lX9_far_58 : Cond.fieldLink RX9 58 (TX9 0).1 (TX9 0).2.1 (TX9 0).2.2.1 ∈ wsX9_far := by decide +kernel
set_option maxRecDepth 100000 in
theorem qX9_far_58 : hd_FP wsX9_far RX9 vwCl 9 0 58 .int := ⟨RX9, TX9, 28, tyX9, rfl, by decide, uX9_far_X9, lX9_far_58, tyX9_ok, nmX9, rfl, rfl⟩
set_option maxRecDepth 100000 in
theorem yX9_far_X9_isHall : yX9_isHall.cls = RX9 ∧ yX9_isHall.cls ≠ "java/lang/invoke/MethodHandle" ∧ yX9_isHall.cls ≠ "java/lang/invoke/VarHandle" ∧ (parseMethodDescriptor yX9_isHall.desc).map (fun d => d.parameters.length) = some 1 := by decide +kernel
set_option maxRecDepth 100000 in
theorem yX9_far_X9_isTown : yX9_isTown.cls = RX9 ∧ yX9_isTown.cls ≠ "java/lang/invoke/MethodHandle" ∧ yX9_isTown.cls ≠ "java/lang/invoke/VarHandle" ∧ (parseMethodDescriptor yX9_isTown.desc).map (fun d => d.parameters.length) = some 1 := by decide +kernel
set_option maxRecDepth 100000 in
theorem yX9_far_X9_wayOf : yX9_wayOf.cls = RX9 ∧ yX9_wayOf.cls ≠ "java/lang/invoke/MethodHandle" ∧ yX9_wayOf.cls ≠ "java/lang/invoke/VarHandle" ∧ (parseMethodDescriptor yX9_wayOf.desc).map (fun d => d.parameters.length) = some 2 := by decide +kernel
def wo_X9_far : hd_xS := (hd_sQ (hd_sF hs_sh 9 0 (hd_rL 0) (hd_iK (0))) (hd_sRI (hd_iQ (hd_cA (hd_c0 (fun x => !decide (x = 0)) (hd_iN (hd_nV hs_sh 9 (hd_rL 0) 1 (hd_pI hd_v0 (hd_iL 1)) wm_X9_isHall))) (hd_c0 (fun x => !decide (x = 0)) (hd_iN (hd_nV hs_sh 9 (hd_rL 0) 1 (hd_pI hd_v0 (hd_iL 2)) wm_X9_isTown)))) (hd_iN (hd_nV hs_sh 9 (hd_rL 0) 2 (hd_pI (hd_pI hd_v0 (hd_iL 1)) (hd_iL 2)) wm_X9_wayOf)) (hd_iK (-3)))))
def wm_X9_far : hd_M := hd_mth 3 wo_X9_far
set_option maxHeartbeats 4000000 in
set_option maxRecDepth 100000 in
theorem snd_X9_far : hd_Snd vwCl hs_sh yX9_far wsX9_far 3 wm_X9_far := hd_method (by decide) rfl rfl (by decide) (fun κ C Rk => (hd_seq (p1 := 5) (hd_sputI C (p1 := 1) (p2 := 2) qX9_far_58 (hd_aload_n C (kk0 := 0) dX9_far_0) (hd_iconst C dX9_far_1 (by decide)) dX9_far_2) (hd_retI C Rk (p1 := 32) (hd_tnI C (p1 := 21) (p2 := 27) (p3 := 30) (p4 := 32) (hd_and (p1 := 13) (p2 := 21) (p3 := 30) (hd_z_neF C (p2 := 10) (tgt := 30) (hd_inI (hd_invV C (p1 := 6) (p2 := 7) snd_X9_isHall hw_X9_isHall gX9_far_X9_isHall hs_c_9 yX9_far_X9_isHall ⟨by decide, by decide⟩ (by decide) (hd_aload_n C (kk0 := 0) dX9_far_5) (hd_apI (p1 := 6) (p2 := 7) hd_av0 (hd_iload_n C (kk0 := 1) dX9_far_6)) dX9_far_7)) dX9_far_10 (by decide)) (hd_z_neF C (p2 := 18) (tgt := 30) (hd_inI (hd_invV C (p1 := 14) (p2 := 15) snd_X9_isTown hw_X9_isTown gX9_far_X9_isTown hs_c_9 yX9_far_X9_isTown ⟨by decide, by decide⟩ (by decide) (hd_aload_n C (kk0 := 0) dX9_far_13) (hd_apI (p1 := 14) (p2 := 15) hd_av0 (hd_iload_n C (kk0 := 2) dX9_far_14)) dX9_far_15)) dX9_far_18 (by decide))) (hd_inI (hd_invV C (p1 := 22) (p2 := 24) snd_X9_wayOf hw_X9_wayOf gX9_far_X9_wayOf hs_c_9 yX9_far_X9_wayOf ⟨by decide, by decide⟩ (by decide) (hd_aload_n C (kk0 := 0) dX9_far_21) (hd_apI (p1 := 23) (p2 := 24) (hd_apI (p1 := 22) (p2 := 23) hd_av0 (hd_iload_n C (kk0 := 1) dX9_far_22)) (hd_iload_n C (kk0 := 2) dX9_far_23)) dX9_far_24)) dX9_far_27 (by decide) (hd_bipush C dX9_far_30 (by decide))) dX9_far_32)))
