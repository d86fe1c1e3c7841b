/-! X8_copy -/
theorem hw_X8_copy : wsX8_copy = Cond.code yX8_copy cX8_copy 6 (some .int) :: wsX8_copy.tail := rfl
set_option maxRecDepth 100000 in
theorem uX8_copy_X8 : ∀ w ∈ u_ws RX8 TX8 9, w ∈ wsX8_copy := by decide +kernel
set_option maxRecDepth 100000 in
theorem lX8_copy_12 : Cond.fieldLink RX8 12 (TX8 0).1 (TX8 0).2.1 (TX8 0).2.2.1 ∈ wsX8_copy := by decide +kernel
set_option maxRecDepth 100000 in
theorem fX8_copy_12 : hd_F wsX8_copy RX8 vwCl 8 0 12 := ⟨RX8, TX8, 9, rfl, by decide, uX8_copy_X8, lX8_copy_12⟩
set_option maxRecDepth 100000 in
theorem yX8_copy_X5_hasHall : yX5_hasHall.cls = RX5 ∧ yX5_hasHall.cls ≠ "java/lang/invoke/MethodHandle" ∧ yX5_hasHall.cls ≠ "java/lang/invoke/VarHandle" ∧ (parseMethodDescriptor yX5_hasHall.desc).map (fun d => d.parameters.length) = some 1 := by decide +kernel
set_option maxRecDepth 100000 in
theorem yX8_copy_X5_isMissing : yX5_isMissing.cls = RX5 ∧ yX5_isMissing.cls ≠ "java/lang/invoke/MethodHandle" ∧ yX5_isMissing.cls ≠ "java/lang/invoke/VarHandle" ∧ (parseMethodDescriptor yX5_isMissing.desc).map (fun d => d.parameters.length) = some 1 := by decide +kernel
set_option maxRecDepth 100000 in
theorem uX8_copy_X5 : ∀ w ∈ u_ws RX5 TX5 10, w ∈ wsX8_copy := by decide +kernel
set_option maxRecDepth 100000 in
theorem lX8_copy_130 : Cond.fieldLink RX8 130 (TX5 7).1 (TX5 7).2.1 (TX5 7).2.2.1 ∈ wsX8_copy := by decide +kernel
set_option maxRecDepth 100000 in
theorem fX8_copy_130 : hd_F wsX8_copy RX8 vwCl 5 7 130 := ⟨RX5, TX5, 10, rfl, by decide, uX8_copy_X5, lX8_copy_130⟩
set_option maxRecDepth 100000 in
theorem yX8_copy_X5_hasPlaces : yX5_hasPlaces.cls = RX5 ∧ yX5_hasPlaces.cls ≠ "java/lang/invoke/MethodHandle" ∧ yX5_hasPlaces.cls ≠ "java/lang/invoke/VarHandle" ∧ (parseMethodDescriptor yX5_hasPlaces.desc).map (fun d => d.parameters.length) = some 3 := by decide +kernel
set_option maxRecDepth 100000 in
theorem yX8_copy_X8_keepForUndo : yX8_keepForUndo.cls = RX8 ∧ yX8_keepForUndo.cls ≠ "java/lang/invoke/MethodHandle" ∧ yX8_keepForUndo.cls ≠ "java/lang/invoke/VarHandle" ∧ (parseMethodDescriptor yX8_keepForUndo.desc).map (fun d => d.parameters.length) = some 0 := by decide +kernel
set_option maxRecDepth 100000 in
theorem lX8_copy_133 : Cond.fieldLink RX8 133 (TX5 9).1 (TX5 9).2.1 (TX5 9).2.2.1 ∈ wsX8_copy := by decide +kernel
set_option maxRecDepth 100000 in
theorem fX8_copy_133 : hd_F wsX8_copy RX8 vwCl 5 9 133 := ⟨RX5, TX5, 10, rfl, by decide, uX8_copy_X5, lX8_copy_133⟩
set_option maxRecDepth 100000 in
theorem wX8_copy_12 : Cond.methodLink RX8 139 arraycopyName ∈ wsX8_copy := by decide +kernel
set_option maxRecDepth 100000 in
theorem wX8_copy_13 : Cond.native arraycopyName ∈ wsX8_copy := by decide +kernel
set_option maxRecDepth 100000 in
theorem wX8_copy_14 : Cond.static arraycopyName ∈ wsX8_copy := by decide +kernel
set_option maxRecDepth 100000 in
theorem wX8_copy_15 : Cond.initialized "java/lang/System" ∈ wsX8_copy := by decide +kernel
def wo_X8_copy : hd_xS := (hd_sQ (hd_sW (hd_cO (hd_cX (hd_c0 (fun x => !decide (x = 0)) (hd_iN (hd_nV hs_sh 5 (hd_rG hs_sh 8 0 (hd_rL 0)) 1 (hd_pI hd_v0 (hd_iL 1)) wm_X5_hasHall)))) (hd_cX (hd_c0 (fun x => !decide (x = 0)) (hd_iN (hd_nV hs_sh 5 (hd_rG hs_sh 8 0 (hd_rL 0)) 1 (hd_pI hd_v0 (hd_iL 3)) wm_X5_hasHall))))) (hd_sRI (hd_iK (-3)))) (hd_sQ (hd_sW (hd_cO (hd_c0 (fun x => !decide (x = 0)) (hd_iN (hd_nV hs_sh 5 (hd_rG hs_sh 8 0 (hd_rL 0)) 1 (hd_pI hd_v0 (hd_iL 1)) wm_X5_isMissing))) (hd_c0 (fun x => !decide (x = 0)) (hd_iN (hd_nV hs_sh 5 (hd_rG hs_sh 8 0 (hd_rL 0)) 1 (hd_pI hd_v0 (hd_iL 3)) wm_X5_isMissing)))) (hd_sRI (hd_iK (-11)))) (hd_sQ (hd_sW (hd_cI (fun x y => !decide (x = y)) (hd_iA hs_sh (hd_rG hs_sh 5 7 (hd_rG hs_sh 8 0 (hd_rL 0))) (hd_iL 1)) (hd_iA hs_sh (hd_rG hs_sh 5 7 (hd_rG hs_sh 8 0 (hd_rL 0))) (hd_iL 3))) (hd_sRI (hd_iK (-4)))) (hd_sQ (hd_sW (hd_cO (hd_cX (hd_c0 (fun x => !decide (x = 0)) (hd_iN (hd_nV hs_sh 5 (hd_rG hs_sh 8 0 (hd_rL 0)) 3 (hd_pI (hd_pI (hd_pI hd_v0 (hd_iL 1)) (hd_iL 2)) (hd_iL 5)) wm_X5_hasPlaces)))) (hd_cX (hd_c0 (fun x => !decide (x = 0)) (hd_iN (hd_nV hs_sh 5 (hd_rG hs_sh 8 0 (hd_rL 0)) 3 (hd_pI (hd_pI (hd_pI hd_v0 (hd_iL 3)) (hd_iL 4)) (hd_iL 5)) wm_X5_hasPlaces))))) (hd_sRI (hd_iK (-13)))) (hd_sQ (hd_sN (hd_nV hs_sh 8 (hd_rL 0) 0 hd_v0 wm_X8_keepForUndo)) (hd_sQ (hd_sCI hs_sh (hd_rG hs_sh 5 9 (hd_rG hs_sh 8 0 (hd_rL 0))) (hd_iB (fun x y => x + y) (hd_iB (fun x y => x * y) (hd_iL 1) (hd_iK (8))) (hd_iL 2)) (hd_rG hs_sh 5 9 (hd_rG hs_sh 8 0 (hd_rL 0))) (hd_iB (fun x y => x + y) (hd_iB (fun x y => x * y) (hd_iL 3) (hd_iK (8))) (hd_iL 4)) (hd_iL 5)) (hd_sRI (hd_iL 5))))))))
def wm_X8_copy : hd_M := hd_mth 6 wo_X8_copy
set_option maxHeartbeats 4000000 in
set_option maxRecDepth 100000 in
theorem snd_X8_copy : hd_Snd vwCl hs_sh yX8_copy wsX8_copy 4 wm_X8_copy := hd_method (by decide) rfl rfl (by decide) (fun κ C Rk => (hd_seq (p1 := 25) (hd_if (p1 := 22) (p2 := 25) (hd_or (p1 := 11) (p2 := 22) (p3 := 25) (hd_not (hd_z_neF C (p2 := 8) (tgt := 22) (hd_inI (hd_invV C (p1 := 4) (p2 := 5) snd_X5_hasHall hw_X5_hasHall gX8_copy_X5_hasHall hs_c_5 yX8_copy_X5_hasHall ⟨by decide, by decide⟩ (by decide) (hd_getR C (p1 := 1) fX8_copy_12 (hd_aload_n C (kk0 := 0) dX8_copy_0) dX8_copy_1) (hd_apI (p1 := 4) (p2 := 5) hd_av0 (hd_iload_n C (kk0 := 1) dX8_copy_4)) dX8_copy_5)) dX8_copy_8 (by decide))) (hd_not (hd_z_neT C (p2 := 19) (tgt := 25) (hd_inI (hd_invV C (p1 := 15) (p2 := 16) snd_X5_hasHall hw_X5_hasHall gX8_copy_X5_hasHall hs_c_5 yX8_copy_X5_hasHall ⟨by decide, by decide⟩ (by decide) (hd_getR C (p1 := 12) fX8_copy_12 (hd_aload_n C (kk0 := 0) dX8_copy_11) dX8_copy_12) (hd_apI (p1 := 15) (p2 := 16) hd_av0 (hd_iload_n C (kk0 := 3) dX8_copy_15)) dX8_copy_16)) dX8_copy_19 (by decide)))) (hd_retI C Rk (p1 := 24) (hd_bipush C dX8_copy_22 (by decide)) dX8_copy_24) (by decide)) (hd_seq (p1 := 50) (hd_if (p1 := 47) (p2 := 50) (hd_or (p1 := 36) (p2 := 47) (p3 := 50) (hd_z_neT C (p2 := 33) (tgt := 47) (hd_inI (hd_invV C (p1 := 29) (p2 := 30) snd_X5_isMissing hw_X5_isMissing gX8_copy_X5_isMissing hs_c_5 yX8_copy_X5_isMissing ⟨by decide, by decide⟩ (by decide) (hd_getR C (p1 := 26) fX8_copy_12 (hd_aload_n C (kk0 := 0) dX8_copy_25) dX8_copy_26) (hd_apI (p1 := 29) (p2 := 30) hd_av0 (hd_iload_n C (kk0 := 1) dX8_copy_29)) dX8_copy_30)) dX8_copy_33 (by decide)) (hd_z_neF C (p2 := 44) (tgt := 50) (hd_inI (hd_invV C (p1 := 40) (p2 := 41) snd_X5_isMissing hw_X5_isMissing gX8_copy_X5_isMissing hs_c_5 yX8_copy_X5_isMissing ⟨by decide, by decide⟩ (by decide) (hd_getR C (p1 := 37) fX8_copy_12 (hd_aload_n C (kk0 := 0) dX8_copy_36) dX8_copy_37) (hd_apI (p1 := 40) (p2 := 41) hd_av0 (hd_iload_n C (kk0 := 3) dX8_copy_40)) dX8_copy_41)) dX8_copy_44 (by decide))) (hd_retI C Rk (p1 := 49) (hd_bipush C dX8_copy_47 (by decide)) dX8_copy_49) (by decide)) (hd_seq (p1 := 74) (hd_if (p1 := 71) (p2 := 74) (hd_c_neF C (p1 := 59) (p2 := 68) (tgt := 74) (hd_iald C (p1 := 57) (p2 := 58) (hd_getR C (p1 := 54) fX8_copy_130 (hd_getR C (p1 := 51) fX8_copy_12 (hd_aload_n C (kk0 := 0) dX8_copy_50) dX8_copy_51) dX8_copy_54) (hd_iload_n C (kk0 := 1) dX8_copy_57) dX8_copy_58) (hd_iald C (p1 := 66) (p2 := 67) (hd_getR C (p1 := 63) fX8_copy_130 (hd_getR C (p1 := 60) fX8_copy_12 (hd_aload_n C (kk0 := 0) dX8_copy_59) dX8_copy_60) dX8_copy_63) (hd_iload_n C (kk0 := 3) dX8_copy_66) dX8_copy_67) dX8_copy_68 (by decide)) (hd_retI C Rk (p1 := 73) (hd_bipush C dX8_copy_71 (by decide)) dX8_copy_73) (by decide)) (hd_seq (p1 := 106) (hd_if (p1 := 103) (p2 := 106) (hd_or (p1 := 88) (p2 := 103) (p3 := 106) (hd_not (hd_z_neF C (p2 := 85) (tgt := 103) (hd_inI (hd_invV C (p1 := 78) (p2 := 82) snd_X5_hasPlaces hw_X5_hasPlaces gX8_copy_X5_hasPlaces hs_c_5 yX8_copy_X5_hasPlaces ⟨by decide, by decide⟩ (by decide) (hd_getR C (p1 := 75) fX8_copy_12 (hd_aload_n C (kk0 := 0) dX8_copy_74) dX8_copy_75) (hd_apI (p1 := 80) (p2 := 82) (hd_apI (p1 := 79) (p2 := 80) (hd_apI (p1 := 78) (p2 := 79) hd_av0 (hd_iload_n C (kk0 := 1) dX8_copy_78)) (hd_iload_n C (kk0 := 2) dX8_copy_79)) (hd_iload C dX8_copy_80)) dX8_copy_82)) dX8_copy_85 (by decide))) (hd_not (hd_z_neT C (p2 := 100) (tgt := 106) (hd_inI (hd_invV C (p1 := 92) (p2 := 97) snd_X5_hasPlaces hw_X5_hasPlaces gX8_copy_X5_hasPlaces hs_c_5 yX8_copy_X5_hasPlaces ⟨by decide, by decide⟩ (by decide) (hd_getR C (p1 := 89) fX8_copy_12 (hd_aload_n C (kk0 := 0) dX8_copy_88) dX8_copy_89) (hd_apI (p1 := 95) (p2 := 97) (hd_apI (p1 := 93) (p2 := 95) (hd_apI (p1 := 92) (p2 := 93) hd_av0 (hd_iload_n C (kk0 := 3) dX8_copy_92)) (hd_iload C dX8_copy_93)) (hd_iload C dX8_copy_95)) dX8_copy_97)) dX8_copy_100 (by decide)))) (hd_retI C Rk (p1 := 105) (hd_bipush C dX8_copy_103 (by decide)) dX8_copy_105) (by decide)) (hd_seq (p1 := 110) (hd_scall (hd_invV C (p1 := 107) (p2 := 107) snd_X8_keepForUndo hw_X8_keepForUndo gX8_copy_X8_keepForUndo hs_c_8 yX8_copy_X8_keepForUndo ⟨by decide, by decide⟩ (by decide) (hd_aload_n C (kk0 := 0) dX8_copy_106) hd_av0 dX8_copy_107)) (hd_seq (p1 := 142) (hd_scopyi C (p1 := 117) (p2 := 123) (p3 := 130) (p4 := 137) (p5 := 139) wX8_copy_12 wX8_copy_13 wX8_copy_14 wX8_copy_15 (hd_getR C (p1 := 114) fX8_copy_133 (hd_getR C (p1 := 111) fX8_copy_12 (hd_aload_n C (kk0 := 0) dX8_copy_110) dX8_copy_111) dX8_copy_114) (hd_iadd C (p1 := 121) (p2 := 122) (hd_imul C (p1 := 118) (p2 := 120) (hd_iload_n C (kk0 := 1) dX8_copy_117) (hd_bipush C dX8_copy_118 (by decide)) dX8_copy_120) (hd_iload_n C (kk0 := 2) dX8_copy_121) dX8_copy_122) (hd_getR C (p1 := 127) fX8_copy_133 (hd_getR C (p1 := 124) fX8_copy_12 (hd_aload_n C (kk0 := 0) dX8_copy_123) dX8_copy_124) dX8_copy_127) (hd_iadd C (p1 := 134) (p2 := 136) (hd_imul C (p1 := 131) (p2 := 133) (hd_iload_n C (kk0 := 3) dX8_copy_130) (hd_bipush C dX8_copy_131 (by decide)) dX8_copy_133) (hd_iload C dX8_copy_134) dX8_copy_136) (hd_iload C dX8_copy_137) dX8_copy_139) (hd_retI C Rk (p1 := 144) (hd_iload C dX8_copy_142) dX8_copy_144))))))))
/-! X8_freshCosts -/
theorem hw_X8_freshCosts : wsX8_freshCosts = Cond.code yX8_freshCosts cX8_freshCosts 1 (some (.object "HallDesk$Costs")) :: wsX8_freshCosts.tail := rfl
set_option maxRecDepth 100000 in
theorem uX8_freshCosts_X8 : ∀ w ∈ u_ws RX8 TX8 9, w ∈ wsX8_freshCosts := by decide +kernel
set_option maxRecDepth 100000 in
theorem lX8_freshCosts_28 : Cond.fieldLink RX8 28 (TX8 2).1 (TX8 2).2.1 (TX8 2).2.2.1 ∈ wsX8_freshCosts := by decide +kernel
set_option maxRecDepth 100000 in
theorem fX8_freshCosts_28 : hd_F wsX8_freshCosts RX8 vwCl 8 2 28 := ⟨RX8, TX8, 9, rfl, by decide, uX8_freshCosts_X8, lX8_freshCosts_28⟩
set_option maxRecDepth 100000 in
theorem yX8_freshCosts_X6_refresh : yX6_refresh.cls = RX6 ∧ yX6_refresh.cls ≠ "java/lang/invoke/MethodHandle" ∧ yX6_refresh.cls ≠ "java/lang/invoke/VarHandle" ∧ (parseMethodDescriptor yX6_refresh.desc).map (fun d => d.parameters.length) = some 0 := by decide +kernel
set_option maxRecDepth 100000 in
theorem lX8_freshCosts_46 : Cond.fieldLink RX8 46 (TX8 4).1 (TX8 4).2.1 (TX8 4).2.2.1 ∈ wsX8_freshCosts := by decide +kernel
set_option maxRecDepth 100000 in
theorem fX8_freshCosts_46 : hd_F wsX8_freshCosts RX8 vwCl 8 4 46 := ⟨RX8, TX8, 9, rfl, by decide, uX8_freshCosts_X8, lX8_freshCosts_46⟩
def wo_X8_freshCosts : hd_xS := (hd_sQ (hd_sN (hd_nV hs_sh 6 (hd_rG hs_sh 8 2 (hd_rL 0)) 0 hd_v0 wm_X6_refresh)) (hd_sRR (hd_rG hs_sh 8 4 (hd_rL 0))))
def wm_X8_freshCosts : hd_M := hd_mth 1 wo_X8_freshCosts
set_option maxHeartbeats 4000000 in
set_option maxRecDepth 100000 in
theorem snd_X8_freshCosts : hd_Snd vwCl hs_sh yX8_freshCosts wsX8_freshCosts 4 wm_X8_freshCosts := hd_method (by decide) rfl rfl (by decide) (fun κ C Rk => (hd_seq (p1 := 7) (hd_scall (hd_invV C (p1 := 4) (p2 := 4) snd_X6_refresh hw_X6_refresh gX8_freshCosts_X6_refresh hs_c_6 yX8_freshCosts_X6_refresh ⟨by decide, by decide⟩ (by decide) (hd_getR C (p1 := 1) fX8_freshCosts_28 (hd_aload_n C (kk0 := 0) dX8_freshCosts_0) dX8_freshCosts_1) hd_av0 dX8_freshCosts_4)) (hd_retR C Rk (p1 := 11) (hd_getR C (p1 := 8) fX8_freshCosts_46 (hd_aload_n C (kk0 := 0) dX8_freshCosts_7) dX8_freshCosts_8) dX8_freshCosts_11)))
/-! X8_hall -/
theorem hw_X8_hall : wsX8_hall = Cond.code yX8_hall cX8_hall 1 (some .int) :: wsX8_hall.tail := rfl
set_option maxRecDepth 100000 in
theorem uX8_hall_X8 : ∀ w ∈ u_ws RX8 TX8 9, w ∈ wsX8_hall := by decide +kernel
set_option maxRecDepth 100000 in
theorem lX8_hall_12 : Cond.fieldLink RX8 12 (TX8 0).1 (TX8 0).2.1 (TX8 0).2.2.1 ∈ wsX8_hall := by decide +kernel
set_option maxRecDepth 100000 in
theorem fX8_hall_12 : hd_F wsX8_hall RX8 vwCl 8 0 12 := ⟨RX8, TX8, 9, rfl, by decide, uX8_hall_X8, lX8_hall_12⟩
set_option maxRecDepth 100000 in
theorem uX8_hall_X5 : ∀ w ∈ u_ws RX5 TX5 10, w ∈ wsX8_hall := by decide +kernel
set_option maxRecDepth 100000 in
theorem lX8_hall_82 : Cond.fieldLink RX8 82 (TX5 1).1 (TX5 1).2.1 (TX5 1).2.2.1 ∈ wsX8_hall := by decide +kernel
set_option maxRecDepth 100000 in
theorem fX8_hall_82 : hd_F wsX8_hall RX8 vwCl 5 1 82 := ⟨RX5, TX5, 10, rfl, by decide, uX8_hall_X5, lX8_hall_82⟩
set_option maxRecDepth 100000 in
theorem yX8_hall_X8_keepForUndo : yX8_keepForUndo.cls = RX8 ∧ yX8_keepForUndo.cls ≠ "java/lang/invoke/MethodHandle" ∧ yX8_keepForUndo.cls ≠ "java/lang/invoke/VarHandle" ∧ (parseMethodDescriptor yX8_keepForUndo.desc).map (fun d => d.parameters.length) = some 0 := by decide +kernel
set_option maxRecDepth 100000 in
theorem yX8_hall_X5_addHall : yX5_addHall.cls = RX5 ∧ yX5_addHall.cls ≠ "java/lang/invoke/MethodHandle" ∧ yX5_addHall.cls ≠ "java/lang/invoke/VarHandle" ∧ (parseMethodDescriptor yX5_addHall.desc).map (fun d => d.parameters.length) = some 0 := by decide +kernel
def wo_X8_hall : hd_xS := (hd_sQ (hd_sW (hd_cI (fun x y => decide (y ≤ x)) (hd_iG hs_sh 5 1 (hd_rG hs_sh 8 0 (hd_rL 0))) (hd_iK (7))) (hd_sRI (hd_iK (-5)))) (hd_sQ (hd_sN (hd_nV hs_sh 8 (hd_rL 0) 0 hd_v0 wm_X8_keepForUndo)) (hd_sRI (hd_iN (hd_nV hs_sh 5 (hd_rG hs_sh 8 0 (hd_rL 0)) 0 hd_v0 wm_X5_addHall)))))
def wm_X8_hall : hd_M := hd_mth 1 wo_X8_hall
set_option maxHeartbeats 4000000 in
set_option maxRecDepth 100000 in
theorem snd_X8_hall : hd_Snd vwCl hs_sh yX8_hall wsX8_hall 4 wm_X8_hall := hd_method (by decide) rfl rfl (by decide) (fun κ C Rk => (hd_seq (p1 := 15) (hd_if (p1 := 12) (p2 := 15) (hd_c_geF C (p1 := 7) (p2 := 9) (tgt := 15) (hd_getI C (p1 := 4) fX8_hall_82 (hd_getR C (p1 := 1) fX8_hall_12 (hd_aload_n C (kk0 := 0) dX8_hall_0) dX8_hall_1) dX8_hall_4) (hd_bipush C dX8_hall_7 (by decide)) dX8_hall_9 (by decide)) (hd_retI C Rk (p1 := 14) (hd_bipush C dX8_hall_12 (by decide)) dX8_hall_14) (by decide)) (hd_seq (p1 := 19) (hd_scall (hd_invV C (p1 := 16) (p2 := 16) snd_X8_keepForUndo hw_X8_keepForUndo gX8_hall_X8_keepForUndo hs_c_8 yX8_hall_X8_keepForUndo ⟨by decide, by decide⟩ (by decide) (hd_aload_n C (kk0 := 0) dX8_hall_15) hd_av0 dX8_hall_16)) (hd_retI C Rk (p1 := 26) (hd_inI (hd_invV C (p1 := 23) (p2 := 23) snd_X5_addHall hw_X5_addHall gX8_hall_X5_addHall hs_c_5 yX8_hall_X5_addHall ⟨by decide, by decide⟩ (by decide) (hd_getR C (p1 := 20) fX8_hall_12 (hd_aload_n C (kk0 := 0) dX8_hall_19) dX8_hall_20) hd_av0 dX8_hall_23)) dX8_hall_26))))
/-! X8_lose -/
theorem hw_X8_lose : wsX8_lose = Cond.code yX8_lose cX8_lose 3 (some .int) :: wsX8_lose.tail := rfl
set_option maxRecDepth 100000 in
theorem uX8_lose_X8 : ∀ w ∈ u_ws RX8 TX8 9, w ∈ wsX8_lose := by decide +kernel
set_option maxRecDepth 100000 in
theorem lX8_lose_12 : Cond.fieldLink RX8 12 (TX8 0).1 (TX8 0).2.1 (TX8 0).2.2.1 ∈ wsX8_lose := by decide +kernel
set_option maxRecDepth 100000 in
theorem fX8_lose_12 : hd_F wsX8_lose RX8 vwCl 8 0 12 := ⟨RX8, TX8, 9, rfl, by decide, uX8_lose_X8, lX8_lose_12⟩
set_option maxRecDepth 100000 in
theorem yX8_lose_X5_hasHall : yX5_hasHall.cls = RX5 ∧ yX5_hasHall.cls ≠ "java/lang/invoke/MethodHandle" ∧ yX5_hasHall.cls ≠ "java/lang/invoke/VarHandle" ∧ (parseMethodDescriptor yX5_hasHall.desc).map (fun d => d.parameters.length) = some 1 := by decide +kernel
set_option maxRecDepth 100000 in
theorem yX8_lose_X5_isMissing : yX5_isMissing.cls = RX5 ∧ yX5_isMissing.cls ≠ "java/lang/invoke/MethodHandle" ∧ yX5_isMissing.cls ≠ "java/lang/invoke/VarHandle" ∧ (parseMethodDescriptor yX5_isMissing.desc).map (fun d => d.parameters.length) = some 1 := by decide +kernel
set_option maxRecDepth 100000 in
theorem uX8_lose_X5 : ∀ w ∈ u_ws RX5 TX5 10, w ∈ wsX8_lose := by decide +kernel
set_option maxRecDepth 100000 in
theorem lX8_lose_127 : Cond.fieldLink RX8 127 (TX5 8).1 (TX5 8).2.1 (TX5 8).2.2.1 ∈ wsX8_lose := by decide +kernel
set_option maxRecDepth 100000 in
theorem fX8_lose_127 : hd_F wsX8_lose RX8 vwCl 5 8 127 := ⟨RX5, TX5, 10, rfl, by decide, uX8_lose_X5, lX8_lose_127⟩
set_option maxRecDepth 100000 in
theorem yX8_lose_X8_keepForUndo : yX8_keepForUndo.cls = RX8 ∧ yX8_keepForUndo.cls ≠ "java/lang/invoke/MethodHandle" ∧ yX8_keepForUndo.cls ≠ "java/lang/invoke/VarHandle" ∧ (parseMethodDescriptor yX8_keepForUndo.desc).map (fun d => d.parameters.length) = some 0 := by decide +kernel
set_option maxRecDepth 100000 in
theorem yX8_lose_X5_laySheet : yX5_laySheet.cls = RX5 ∧ yX5_laySheet.cls ≠ "java/lang/invoke/MethodHandle" ∧ yX5_laySheet.cls ≠ "java/lang/invoke/VarHandle" ∧ (parseMethodDescriptor yX5_laySheet.desc).map (fun d => d.parameters.length) = some 3 := by decide +kernel
def wo_X8_lose : hd_xS := (hd_sQ (hd_sW (hd_cX (hd_c0 (fun x => !decide (x = 0)) (hd_iN (hd_nV hs_sh 5 (hd_rG hs_sh 8 0 (hd_rL 0)) 1 (hd_pI hd_v0 (hd_iL 1)) wm_X5_hasHall)))) (hd_sRI (hd_iK (-3)))) (hd_sQ (hd_sW (hd_c0 (fun x => !decide (x = 0)) (hd_iN (hd_nV hs_sh 5 (hd_rG hs_sh 8 0 (hd_rL 0)) 1 (hd_pI hd_v0 (hd_iL 1)) wm_X5_isMissing))) (hd_sRI (hd_iK (-11)))) (hd_sQ (hd_sI 2 (hd_iA hs_sh (hd_rG hs_sh 5 8 (hd_rG hs_sh 8 0 (hd_rL 0))) (hd_iL 1))) (hd_sQ (hd_sN (hd_nV hs_sh 8 (hd_rL 0) 0 hd_v0 wm_X8_keepForUndo)) (hd_sQ (hd_sN (hd_nV hs_sh 5 (hd_rG hs_sh 8 0 (hd_rL 0)) 3 (hd_pI (hd_pI (hd_pI hd_v0 (hd_iL 1)) (hd_iK (-1))) (hd_iK (0))) wm_X5_laySheet)) (hd_sRI (hd_iL 2)))))))
def wm_X8_lose : hd_M := hd_mth 3 wo_X8_lose
set_option maxHeartbeats 4000000 in
set_option maxRecDepth 100000 in
theorem snd_X8_lose : hd_Snd vwCl hs_sh yX8_lose wsX8_lose 4 wm_X8_lose := hd_method (by decide) rfl rfl (by decide) (fun κ C Rk => (hd_seq (p1 := 14) (hd_if (p1 := 11) (p2 := 14) (hd_not (hd_z_neT C (p2 := 8) (tgt := 14) (hd_inI (hd_invV C (p1 := 4) (p2 := 5) snd_X5_hasHall hw_X5_hasHall gX8_lose_X5_hasHall hs_c_5 yX8_lose_X5_hasHall ⟨by decide, by decide⟩ (by decide) (hd_getR C (p1 := 1) fX8_lose_12 (hd_aload_n C (kk0 := 0) dX8_lose_0) dX8_lose_1) (hd_apI (p1 := 4) (p2 := 5) hd_av0 (hd_iload_n C (kk0 := 1) dX8_lose_4)) dX8_lose_5)) dX8_lose_8 (by decide))) (hd_retI C Rk (p1 := 13) (hd_bipush C dX8_lose_11 (by decide)) dX8_lose_13) (by decide)) (hd_seq (p1 := 28) (hd_if (p1 := 25) (p2 := 28) (hd_z_neF C (p2 := 22) (tgt := 28) (hd_inI (hd_invV C (p1 := 18) (p2 := 19) snd_X5_isMissing hw_X5_isMissing gX8_lose_X5_isMissing hs_c_5 yX8_lose_X5_isMissing ⟨by decide, by decide⟩ (by decide) (hd_getR C (p1 := 15) fX8_lose_12 (hd_aload_n C (kk0 := 0) dX8_lose_14) dX8_lose_15) (hd_apI (p1 := 18) (p2 := 19) hd_av0 (hd_iload_n C (kk0 := 1) dX8_lose_18)) dX8_lose_19)) dX8_lose_22 (by decide)) (hd_retI C Rk (p1 := 27) (hd_bipush C dX8_lose_25 (by decide)) dX8_lose_27) (by decide)) (hd_seq (p1 := 38) (hd_sistore_n C (kk0 := 2) (p1 := 37) (hd_iald C (p1 := 35) (p2 := 36) (hd_getR C (p1 := 32) fX8_lose_127 (hd_getR C (p1 := 29) fX8_lose_12 (hd_aload_n C (kk0 := 0) dX8_lose_28) dX8_lose_29) dX8_lose_32) (hd_iload_n C (kk0 := 1) dX8_lose_35) dX8_lose_36) dX8_lose_37 (by decide)) (hd_seq (p1 := 42) (hd_scall (hd_invV C (p1 := 39) (p2 := 39) snd_X8_keepForUndo hw_X8_keepForUndo gX8_lose_X8_keepForUndo hs_c_8 yX8_lose_X8_keepForUndo ⟨by decide, by decide⟩ (by decide) (hd_aload_n C (kk0 := 0) dX8_lose_38) hd_av0 dX8_lose_39)) (hd_seq (p1 := 52) (hd_scall (hd_invV C (p1 := 46) (p2 := 49) snd_X5_laySheet hw_X5_laySheet gX8_lose_X5_laySheet hs_c_5 yX8_lose_X5_laySheet ⟨by decide, by decide⟩ (by decide) (hd_getR C (p1 := 43) fX8_lose_12 (hd_aload_n C (kk0 := 0) dX8_lose_42) dX8_lose_43) (hd_apI (p1 := 48) (p2 := 49) (hd_apI (p1 := 47) (p2 := 48) (hd_apI (p1 := 46) (p2 := 47) hd_av0 (hd_iload_n C (kk0 := 1) dX8_lose_46)) (hd_iconst C dX8_lose_47 (by decide))) (hd_iconst C dX8_lose_48 (by decide))) dX8_lose_49)) (hd_retI C Rk (p1 := 53) (hd_iload_n C (kk0 := 2) dX8_lose_52) dX8_lose_53)))))))
/-! X8_sheet -/
theorem hw_X8_sheet : wsX8_sheet = Cond.code yX8_sheet cX8_sheet 4 (some .int) :: wsX8_sheet.tail := rfl
set_option maxRecDepth 100000 in
theorem uX8_sheet_X8 : ∀ w ∈ u_ws RX8 TX8 9, w ∈ wsX8_sheet := by decide +kernel
set_option maxRecDepth 100000 in
theorem lX8_sheet_12 : Cond.fieldLink RX8 12 (TX8 0).1 (TX8 0).2.1 (TX8 0).2.2.1 ∈ wsX8_sheet := by decide +kernel
set_option maxRecDepth 100000 in
theorem fX8_sheet_12 : hd_F wsX8_sheet RX8 vwCl 8 0 12 := ⟨RX8, TX8, 9, rfl, by decide, uX8_sheet_X8, lX8_sheet_12⟩
set_option maxRecDepth 100000 in
theorem yX8_sheet_X5_hasHall : yX5_hasHall.cls = RX5 ∧ yX5_hasHall.cls ≠ "java/lang/invoke/MethodHandle" ∧ yX5_hasHall.cls ≠ "java/lang/invoke/VarHandle" ∧ (parseMethodDescriptor yX5_hasHall.desc).map (fun d => d.parameters.length) = some 1 := by decide +kernel
set_option maxRecDepth 100000 in
theorem yX8_sheet_X8_within : yX8_within.cls ≠ "java/lang/invoke/MethodHandle" ∧ yX8_within.cls ≠ "java/lang/invoke/VarHandle" ∧ (parseMethodDescriptor yX8_within.desc).map (fun d => d.parameters.length) = some 3 := by decide +kernel
set_option maxRecDepth 100000 in
theorem yX8_sheet_X8_keepForUndo : yX8_keepForUndo.cls = RX8 ∧ yX8_keepForUndo.cls ≠ "java/lang/invoke/MethodHandle" ∧ yX8_keepForUndo.cls ≠ "java/lang/invoke/VarHandle" ∧ (parseMethodDescriptor yX8_keepForUndo.desc).map (fun d => d.parameters.length) = some 0 := by decide +kernel
set_option maxRecDepth 100000 in
theorem yX8_sheet_X5_laySheet : yX5_laySheet.cls = RX5 ∧ yX5_laySheet.cls ≠ "java/lang/invoke/MethodHandle" ∧ yX5_laySheet.cls ≠ "java/lang/invoke/VarHandle" ∧ (parseMethodDescriptor yX5_laySheet.desc).map (fun d => d.parameters.length) = some 3 := by decide +kernel
def wo_X8_sheet : hd_xS := (hd_sQ (hd_sW (hd_cO (hd_cO (hd_cX (hd_c0 (fun x => !decide (x = 0)) (hd_iN (hd_nV hs_sh 5 (hd_rG hs_sh 8 0 (hd_rL 0)) 1 (hd_pI hd_v0 (hd_iL 1)) wm_X5_hasHall)))) (hd_cX (hd_c0 (fun x => !decide (x = 0)) (hd_iN (hd_nS 3 (hd_pI (hd_pI (hd_pI hd_v0 (hd_iL 2)) (hd_iK (0))) (hd_iK (2))) wm_X8_within))))) (hd_cI (fun x y => decide (y < x)) (hd_iL 3) (hd_iK (8)))) (hd_sRI (hd_iK (-3)))) (hd_sQ (hd_sW (hd_c0 (fun x => decide (x < 0)) (hd_iL 3)) (hd_sRI (hd_iK (-14)))) (hd_sQ (hd_sN (hd_nV hs_sh 8 (hd_rL 0) 0 hd_v0 wm_X8_keepForUndo)) (hd_sQ (hd_sN (hd_nV hs_sh 5 (hd_rG hs_sh 8 0 (hd_rL 0)) 3 (hd_pI (hd_pI (hd_pI hd_v0 (hd_iL 1)) (hd_iL 2)) (hd_iL 3)) wm_X5_laySheet)) (hd_sRI (hd_iL 3))))))
def wm_X8_sheet : hd_M := hd_mth 4 wo_X8_sheet
set_option maxHeartbeats 4000000 in
set_option maxRecDepth 100000 in
theorem snd_X8_sheet : hd_Snd vwCl hs_sh yX8_sheet wsX8_sheet 4 wm_X8_sheet := hd_method (by decide) rfl rfl (by decide) (fun κ C Rk => (hd_seq (p1 := 29) (hd_if (p1 := 26) (p2 := 29) (hd_or (p1 := 20) (p2 := 26) (p3 := 29) (hd_or (p1 := 11) (p2 := 26) (p3 := 20) (hd_not (hd_z_neF C (p2 := 8) (tgt := 26) (hd_inI (hd_invV C (p1 := 4) (p2 := 5) snd_X5_hasHall hw_X5_hasHall gX8_sheet_X5_hasHall hs_c_5 yX8_sheet_X5_hasHall ⟨by decide, by decide⟩ (by decide) (hd_getR C (p1 := 1) fX8_sheet_12 (hd_aload_n C (kk0 := 0) dX8_sheet_0) dX8_sheet_1) (hd_apI (p1 := 4) (p2 := 5) hd_av0 (hd_iload_n C (kk0 := 1) dX8_sheet_4)) dX8_sheet_5)) dX8_sheet_8 (by decide))) (hd_not (hd_z_neF C (p2 := 17) (tgt := 26) (hd_inI (hd_invS C (p2 := 14) snd_X8_within hw_X8_within gX8_sheet_X8_within yX8_sheet_X8_within ⟨by decide, by decide⟩ (by decide) (hd_apI (p1 := 13) (p2 := 14) (hd_apI (p1 := 12) (p2 := 13) (hd_apI (p1 := 11) (p2 := 12) hd_av0 (hd_iload_n C (kk0 := 2) dX8_sheet_11)) (hd_iconst C dX8_sheet_12 (by decide))) (hd_iconst C dX8_sheet_13 (by decide))) dX8_sheet_14)) dX8_sheet_17 (by decide)))) (hd_c_gtF C (p1 := 21) (p2 := 23) (tgt := 29) (hd_iload_n C (kk0 := 3) dX8_sheet_20) (hd_bipush C dX8_sheet_21 (by decide)) dX8_sheet_23 (by decide))) (hd_retI C Rk (p1 := 28) (hd_bipush C dX8_sheet_26 (by decide)) dX8_sheet_28) (by decide)) (hd_seq (p1 := 36) (hd_if (p1 := 33) (p2 := 36) (hd_z_ltF C (p2 := 30) (tgt := 36) (hd_iload_n C (kk0 := 3) dX8_sheet_29) dX8_sheet_30 (by decide)) (hd_retI C Rk (p1 := 35) (hd_bipush C dX8_sheet_33 (by decide)) dX8_sheet_35) (by decide)) (hd_seq (p1 := 40) (hd_scall (hd_invV C (p1 := 37) (p2 := 37) snd_X8_keepForUndo hw_X8_keepForUndo gX8_sheet_X8_keepForUndo hs_c_8 yX8_sheet_X8_keepForUndo ⟨by decide, by decide⟩ (by decide) (hd_aload_n C (kk0 := 0) dX8_sheet_36) hd_av0 dX8_sheet_37)) (hd_seq (p1 := 50) (hd_scall (hd_invV C (p1 := 44) (p2 := 47) snd_X5_laySheet hw_X5_laySheet gX8_sheet_X5_laySheet hs_c_5 yX8_sheet_X5_laySheet ⟨by decide, by decide⟩ (by decide) (hd_getR C (p1 := 41) fX8_sheet_12 (hd_aload_n C (kk0 := 0) dX8_sheet_40) dX8_sheet_41) (hd_apI (p1 := 46) (p2 := 47) (hd_apI (p1 := 45) (p2 := 46) (hd_apI (p1 := 44) (p2 := 45) hd_av0 (hd_iload_n C (kk0 := 1) dX8_sheet_44)) (hd_iload_n C (kk0 := 2) dX8_sheet_45)) (hd_iload_n C (kk0 := 3) dX8_sheet_46)) dX8_sheet_47)) (hd_retI C Rk (p1 := 51) (hd_iload_n C (kk0 := 3) dX8_sheet_50) dX8_sheet_51))))))
/-! X8_town -/
theorem hw_X8_town : wsX8_town = Cond.code yX8_town cX8_town 1 (some .int) :: wsX8_town.tail := rfl
set_option maxRecDepth 100000 in
theorem uX8_town_X8 : ∀ w ∈ u_ws RX8 TX8 9, w ∈ wsX8_town := by decide +kernel
set_option maxRecDepth 100000 in
theorem lX8_town_12 : Cond.fieldLink RX8 12 (TX8 0).1 (TX8 0).2.1 (TX8 0).2.2.1 ∈ wsX8_town := by decide +kernel
set_option maxRecDepth 100000 in
theorem fX8_town_12 : hd_F wsX8_town RX8 vwCl 8 0 12 := ⟨RX8, TX8, 9, rfl, by decide, uX8_town_X8, lX8_town_12⟩
set_option maxRecDepth 100000 in
theorem uX8_town_X5 : ∀ w ∈ u_ws RX5 TX5 10, w ∈ wsX8_town := by decide +kernel
set_option maxRecDepth 100000 in
theorem lX8_town_71 : Cond.fieldLink RX8 71 (TX5 0).1 (TX5 0).2.1 (TX5 0).2.2.1 ∈ wsX8_town := by decide +kernel
set_option maxRecDepth 100000 in
theorem fX8_town_71 : hd_F wsX8_town RX8 vwCl 5 0 71 := ⟨RX5, TX5, 10, rfl, by decide, uX8_town_X5, lX8_town_71⟩
set_option maxRecDepth 100000 in
theorem yX8_town_X8_keepForUndo : yX8_keepForUndo.cls = RX8 ∧ yX8_keepForUndo.cls ≠ "java/lang/invoke/MethodHandle" ∧ yX8_keepForUndo.cls ≠ "java/lang/invoke/VarHandle" ∧ (parseMethodDescriptor yX8_keepForUndo.desc).map (fun d => d.parameters.length) = some 0 := by decide +kernel
set_option maxRecDepth 100000 in
theorem yX8_town_X5_addTown : yX5_addTown.cls = RX5 ∧ yX5_addTown.cls ≠ "java/lang/invoke/MethodHandle" ∧ yX5_addTown.cls ≠ "java/lang/invoke/VarHandle" ∧ (parseMethodDescriptor yX5_addTown.desc).map (fun d => d.parameters.length) = some 0 := by decide +kernel
def wo_X8_town : hd_xS := (hd_sQ (hd_sW (hd_cI (fun x y => decide (y ≤ x)) (hd_iG hs_sh 5 0 (hd_rG hs_sh 8 0 (hd_rL 0))) (hd_iK (8))) (hd_sRI (hd_iK (-5)))) (hd_sQ (hd_sN (hd_nV hs_sh 8 (hd_rL 0) 0 hd_v0 wm_X8_keepForUndo)) (hd_sRI (hd_iN (hd_nV hs_sh 5 (hd_rG hs_sh 8 0 (hd_rL 0)) 0 hd_v0 wm_X5_addTown)))))
def wm_X8_town : hd_M := hd_mth 1 wo_X8_town
set_option maxHeartbeats 4000000 in
set_option maxRecDepth 100000 in
theorem snd_X8_town : hd_Snd vwCl hs_sh yX8_town wsX8_town 4 wm_X8_town := hd_method (by decide) rfl rfl (by decide) (fun κ C Rk => (hd_seq (p1 := 15) (hd_if (p1 := 12) (p2 := 15) (hd_c_geF C (p1 := 7) (p2 := 9) (tgt := 15) (hd_getI C (p1 := 4) fX8_town_71 (hd_getR C (p1 := 1) fX8_town_12 (hd_aload_n C (kk0 := 0) dX8_town_0) dX8_town_1) dX8_town_4) (hd_bipush C dX8_town_7 (by decide)) dX8_town_9 (by decide)) (hd_retI C Rk (p1 := 14) (hd_bipush C dX8_town_12 (by decide)) dX8_town_14) (by decide)) (hd_seq (p1 := 19) (hd_scall (hd_invV C (p1 := 16) (p2 := 16) snd_X8_keepForUndo hw_X8_keepForUndo gX8_town_X8_keepForUndo hs_c_8 yX8_town_X8_keepForUndo ⟨by decide, by decide⟩ (by decide) (hd_aload_n C (kk0 := 0) dX8_town_15) hd_av0 dX8_town_16)) (hd_retI C Rk (p1 := 26) (hd_inI (hd_invV C (p1 := 23) (p2 := 23) snd_X5_addTown hw_X5_addTown gX8_town_X5_addTown hs_c_5 yX8_town_X5_addTown ⟨by decide, by decide⟩ (by decide) (hd_getR C (p1 := 20) fX8_town_12 (hd_aload_n C (kk0 := 0) dX8_town_19) dX8_town_20) hd_av0 dX8_town_23)) dX8_town_26))))
/-! X9_findHeaps -/
theorem hw_X9_findHeaps : wsX9_findHeaps = Cond.code yX9_findHeaps cX9_findHeaps 4 none :: wsX9_findHeaps.tail := rfl
set_option maxRecDepth 100000 in
theorem yX9_findHeaps_X9_allTowns : yX9_allTowns.cls = RX9 ∧ yX9_allTowns.cls ≠ "java/lang/invoke/MethodHandle" ∧ yX9_allTowns.cls ≠ "java/lang/invoke/VarHandle" ∧ (parseMethodDescriptor yX9_allTowns.desc).map (fun d => d.parameters.length) = some 0 := by decide +kernel
set_option maxRecDepth 100000 in
theorem uX9_findHeaps_X9 : ∀ w ∈ u_ws RX9 TX9 28, w ∈ wsX9_findHeaps := by decide +kernel
set_option maxRecDepth 100000 in
theorem lX9_findHeaps_52 : Cond.fieldLink RX9 52 (TX9 24).1 (TX9 24).2.1 (TX9 24).2.2.1 ∈ wsX9_findHeaps := by decide +kernel
set_option maxRecDepth 100000 in
theorem fX9_findHeaps_52 : hd_F wsX9_findHeaps RX9 vwCl 9 24 52 := ⟨RX9, TX9, 28, rfl, by decide, uX9_findHeaps_X9, lX9_findHeaps_52⟩
set_option maxRecDepth 100000 in
theorem wX9_findHeaps_4 : Cond.constant RX9 121 (2000000000) ∈ wsX9_findHeaps := by decide +kernel
set_option maxRecDepth 100000 in
theorem yX9_findHeaps_X9_allHalls : yX9_allHalls.cls = RX9 ∧ yX9_allHalls.cls ≠ "java/lang/invoke/MethodHandle" ∧ yX9_allHalls.cls ≠ "java/lang/invoke/VarHandle" ∧ (parseMethodDescriptor yX9_allHalls.desc).map (fun d => d.parameters.length) = some 0 := by decide +kernel
set_option maxRecDepth 100000 in
theorem yX9_findHeaps_X9_sumOf : yX9_sumOf.cls = RX9 ∧ yX9_sumOf.cls ≠ "java/lang/invoke/MethodHandle" ∧ yX9_sumOf.cls ≠ "java/lang/invoke/VarHandle" ∧ (parseMethodDescriptor yX9_sumOf.desc).map (fun d => d.parameters.length) = some 2 := by decide +kernel
set_option maxRecDepth 100000 in
theorem yX9_findHeaps_X9_pricesOf : yX9_pricesOf.cls = RX9 ∧ yX9_pricesOf.cls ≠ "java/lang/invoke/MethodHandle" ∧ yX9_pricesOf.cls ≠ "java/lang/invoke/VarHandle" ∧ (parseMethodDescriptor yX9_pricesOf.desc).map (fun d => d.parameters.length) = some 1 := by decide +kernel
def wc_X9_findHeaps_28 : hd_xC := (hd_cA (hd_cI (fun x y => decide (x ≤ y)) (hd_iL 2) (hd_iN (hd_nV hs_sh 9 (hd_rL 0) 0 hd_v0 wm_X9_allHalls))) (hd_c0 (fun x => decide (0 < x)) (hd_iL 1)))
def wb_X9_findHeaps_28 : hd_xS := (hd_sQ (hd_sQ (hd_sI 3 (hd_iB (fun x y => x + y) (hd_iN (hd_nV hs_sh 9 (hd_rL 0) 2 (hd_pI (hd_pI hd_v0 (hd_iL 2)) (hd_iL 1)) wm_X9_sumOf)) (hd_iN (hd_nV hs_sh 9 (hd_rL 0) 1 (hd_pI hd_v0 (hd_iL 2)) wm_X9_pricesOf)))) (hd_sA hs_sh (hd_rG hs_sh 9 24 (hd_rL 0)) (hd_iL 1) (hd_iQ (hd_cI (fun x y => decide (x < y)) (hd_iL 3) (hd_iA hs_sh (hd_rG hs_sh 9 24 (hd_rL 0)) (hd_iL 1))) (hd_iL 3) (hd_iA hs_sh (hd_rG hs_sh 9 24 (hd_rL 0)) (hd_iL 1))))) (hd_sP 2 (1)))
def wc_X9_findHeaps_2 : hd_xC := (hd_cI (fun x y => decide (x ≤ y)) (hd_iL 1) (hd_iN (hd_nV hs_sh 9 (hd_rL 0) 0 hd_v0 wm_X9_allTowns)))
def wb_X9_findHeaps_2 : hd_xS := (hd_sQ (hd_sQ (hd_sA hs_sh (hd_rG hs_sh 9 24 (hd_rL 0)) (hd_iL 1) (hd_iQ (hd_c0 (fun x => decide (x = 0)) (hd_iL 1)) (hd_iK (0)) (hd_iK (2000000000)))) (hd_sQ (hd_sI 2 (hd_iK (1))) (hd_sH (wc_X9_findHeaps_28) (wb_X9_findHeaps_28)))) (hd_sP 1 (1)))
def wo_X9_findHeaps : hd_xS := (hd_sQ (hd_sQ (hd_sI 1 (hd_iK (0))) (hd_sH (wc_X9_findHeaps_2) (wb_X9_findHeaps_2))) hd_sRV)
def wm_X9_findHeaps : hd_M := hd_mth 4 wo_X9_findHeaps
set_option maxHeartbeats 4000000 in
set_option maxRecDepth 100000 in
theorem snd_X9_findHeaps : hd_Snd vwCl hs_sh yX9_findHeaps wsX9_findHeaps 4 wm_X9_findHeaps := hd_method (by decide) rfl rfl (by decide) (fun κ C Rk => (hd_seq (p1 := 91) (hd_seq (p1 := 2) (hd_sistore_n C (kk0 := 1) (p1 := 1) (hd_iconst C dX9_findHeaps_0 (by decide)) dX9_findHeaps_1 (by decide)) (hd_loop C (p1 := 10) (p2 := 91) (hd_c_leF C (p1 := 3) (p2 := 7) (tgt := 91) (hd_iload_n C (kk0 := 1) dX9_findHeaps_2) (hd_inI (hd_invV C (p1 := 4) (p2 := 4) snd_X9_allTowns hw_X9_allTowns gX9_findHeaps_X9_allTowns hs_c_9 yX9_findHeaps_X9_allTowns ⟨by decide, by decide⟩ (by decide) (hd_aload_n C (kk0 := 0) dX9_findHeaps_3) hd_av0 dX9_findHeaps_4)) dX9_findHeaps_7 (by decide)) (hd_seq (p1 := 85) (hd_seq (p1 := 26) (hd_siast C (p1 := 14) (p2 := 15) (p3 := 25) (hd_getR C (p1 := 11) fX9_findHeaps_52 (hd_aload_n C (kk0 := 0) dX9_findHeaps_10) dX9_findHeaps_11) (hd_iload_n C (kk0 := 1) dX9_findHeaps_14) (hd_tnI C (p1 := 19) (p2 := 20) (p3 := 23) (p4 := 25) (hd_z_eqF C (p2 := 16) (tgt := 23) (hd_iload_n C (kk0 := 1) dX9_findHeaps_15) dX9_findHeaps_16 (by decide)) (hd_iconst C dX9_findHeaps_19 (by decide)) dX9_findHeaps_20 (by decide) (hd_ldc C wX9_findHeaps_4 dX9_findHeaps_23)) dX9_findHeaps_25) (hd_seq (p1 := 28) (hd_sistore_n C (kk0 := 2) (p1 := 27) (hd_iconst C dX9_findHeaps_26 (by decide)) dX9_findHeaps_27 (by decide)) (hd_loop C (p1 := 40) (p2 := 85) (hd_and (p1 := 36) (p2 := 40) (p3 := 85) (hd_c_leF C (p1 := 29) (p2 := 33) (tgt := 85) (hd_iload_n C (kk0 := 2) dX9_findHeaps_28) (hd_inI (hd_invV C (p1 := 30) (p2 := 30) snd_X9_allHalls hw_X9_allHalls gX9_findHeaps_X9_allHalls hs_c_9 yX9_findHeaps_X9_allHalls ⟨by decide, by decide⟩ (by decide) (hd_aload_n C (kk0 := 0) dX9_findHeaps_29) hd_av0 dX9_findHeaps_30)) dX9_findHeaps_33 (by decide)) (hd_z_gtF C (p2 := 37) (tgt := 85) (hd_iload_n C (kk0 := 1) dX9_findHeaps_36) dX9_findHeaps_37 (by decide))) (hd_seq (p1 := 79) (hd_seq (p1 := 53) (hd_sistore_n C (kk0 := 3) (p1 := 52) (hd_iadd C (p1 := 46) (p2 := 51) (hd_inI (hd_invV C (p1 := 41) (p2 := 43) snd_X9_sumOf hw_X9_sumOf gX9_findHeaps_X9_sumOf hs_c_9 yX9_findHeaps_X9_sumOf ⟨by decide, by decide⟩ (by decide) (hd_aload_n C (kk0 := 0) dX9_findHeaps_40) (hd_apI (p1 := 42) (p2 := 43) (hd_apI (p1 := 41) (p2 := 42) hd_av0 (hd_iload_n C (kk0 := 2) dX9_findHeaps_41)) (hd_iload_n C (kk0 := 1) dX9_findHeaps_42)) dX9_findHeaps_43)) (hd_inI (hd_invV C (p1 := 47) (p2 := 48) snd_X9_pricesOf hw_X9_pricesOf gX9_findHeaps_X9_pricesOf hs_c_9 yX9_findHeaps_X9_pricesOf ⟨by decide, by decide⟩ (by decide) (hd_aload_n C (kk0 := 0) dX9_findHeaps_46) (hd_apI (p1 := 47) (p2 := 48) hd_av0 (hd_iload_n C (kk0 := 2) dX9_findHeaps_47)) dX9_findHeaps_48)) dX9_findHeaps_51) dX9_findHeaps_52 (by decide)) (hd_siast C (p1 := 57) (p2 := 58) (p3 := 78) (hd_getR C (p1 := 54) fX9_findHeaps_52 (hd_aload_n C (kk0 := 0) dX9_findHeaps_53) dX9_findHeaps_54) (hd_iload_n C (kk0 := 1) dX9_findHeaps_57) (hd_tnI C (p1 := 68) (p2 := 69) (p3 := 72) (p4 := 78) (hd_c_ltF C (p1 := 59) (p2 := 65) (tgt := 72) (hd_iload_n C (kk0 := 3) dX9_findHeaps_58) (hd_iald C (p1 := 63) (p2 := 64) (hd_getR C (p1 := 60) fX9_findHeaps_52 (hd_aload_n C (kk0 := 0) dX9_findHeaps_59) dX9_findHeaps_60) (hd_iload_n C (kk0 := 1) dX9_findHeaps_63) dX9_findHeaps_64) dX9_findHeaps_65 (by decide)) (hd_iload_n C (kk0 := 3) dX9_findHeaps_68) dX9_findHeaps_69 (by decide) (hd_iald C (p1 := 76) (p2 := 77) (hd_getR C (p1 := 73) fX9_findHeaps_52 (hd_aload_n C (kk0 := 0) dX9_findHeaps_72) dX9_findHeaps_73) (hd_iload_n C (kk0 := 1) dX9_findHeaps_76) dX9_findHeaps_77)) dX9_findHeaps_78)) (hd_sgoto C (p1 := 82) (tgt := 28) (hd_ends (es := [82]) (by decide) (hd_siinc C dX9_findHeaps_79 (by decide) (by decide))) dX9_findHeaps_82 (by decide) (by decide))) (by decide)))) (hd_sgoto C (p1 := 88) (tgt := 2) (hd_ends (es := [88]) (by decide) (hd_siinc C dX9_findHeaps_85 (by decide) (by decide))) dX9_findHeaps_88 (by decide) (by decide))) (by decide))) (hd_retV C Rk dX9_findHeaps_91)))
/-! X9_line -/
theorem hw_X9_line : wsX9_line = Cond.code yX9_line cX9_line 3 (some .int) :: wsX9_line.tail := rfl
set_option maxRecDepth 100000 in
theorem uX9_line_X9 : ∀ w ∈ u_ws RX9 TX9 28, w ∈ wsX9_line := by decide +kernel
set_option maxRecDepth 100000 in
theorem lX9_line_58 : Cond.fieldLink RX9 58 (TX9 0).1 (TX9 0).2.1 (TX9 0).2.2.1 ∈ wsX9_line := by decide +kernel
set_option maxRecDepth 100000 in
theorem qX9_line_58 : hd_FP wsX9_line RX9 vwCl 9 0 58 .int := ⟨RX9, TX9, 28, tyX9, rfl, by decide, uX9_line_X9, lX9_line_58, tyX9_ok, nmX9, rfl, rfl⟩
set_option maxRecDepth 100000 in
theorem yX9_line_X9_isLine : yX9_isLine.cls ≠ "java/lang/invoke/MethodHandle" ∧ yX9_isLine.cls ≠ "java/lang/invoke/VarHandle" ∧ (parseMethodDescriptor yX9_isLine.desc).map (fun d => d.parameters.length) = some 2 := by decide +kernel
set_option maxRecDepth 100000 in
theorem lX9_line_68 : Cond.fieldLink RX9 68 (TX9 1).1 (TX9 1).2.1 (TX9 1).2.2.1 ∈ wsX9_line := by decide +kernel
set_option maxRecDepth 100000 in
theorem fX9_line_68 : hd_F wsX9_line RX9 vwCl 9 1 68 := ⟨RX9, TX9, 28, rfl, by decide, uX9_line_X9, lX9_line_68⟩
set_option maxRecDepth 100000 in
theorem yX9_line_X9_findLine : yX9_findLine.cls = RX9 ∧ yX9_findLine.cls ≠ "java/lang/invoke/MethodHandle" ∧ yX9_findLine.cls ≠ "java/lang/invoke/VarHandle" ∧ (parseMethodDescriptor yX9_findLine.desc).map (fun d => d.parameters.length) = some 2 := by decide +kernel
def wo_X9_line : hd_xS := (hd_sQ (hd_sF hs_sh 9 0 (hd_rL 0) (hd_iK (0))) (hd_sQ (hd_sW (hd_cX (hd_c0 (fun x => !decide (x = 0)) (hd_iN (hd_nS 2 (hd_pI (hd_pI hd_v0 (hd_iL 1)) (hd_iL 2)) wm_X9_isLine)))) (hd_sRI (hd_iK (-3)))) (hd_sRI (hd_iQ (hd_c0 (fun x => decide (x = 0)) (hd_iG hs_sh 9 1 (hd_rL 0))) (hd_iK (-1)) (hd_iN (hd_nV hs_sh 9 (hd_rL 0) 2 (hd_pI (hd_pI hd_v0 (hd_iL 1)) (hd_iL 2)) wm_X9_findLine))))))
def wm_X9_line : hd_M := hd_mth 3 wo_X9_line
set_option maxHeartbeats 4000000 in
set_option maxRecDepth 100000 in
theorem snd_X9_line : hd_Snd vwCl hs_sh yX9_line wsX9_line 4 wm_X9_line := hd_method (by decide) rfl rfl (by decide) (fun κ C Rk => (hd_seq (p1 := 5) (hd_sputI C (p1 := 1) (p2 := 2) qX9_line_58 (hd_aload_n C (kk0 := 0) dX9_line_0) (hd_iconst C dX9_line_1 (by decide)) dX9_line_2) (hd_seq (p1 := 16) (hd_if (p1 := 13) (p2 := 16) (hd_not (hd_z_neT C (p2 := 10) (tgt := 16) (hd_inI (hd_invS C (p2 := 7) snd_X9_isLine hw_X9_isLine gX9_line_X9_isLine yX9_line_X9_isLine ⟨by decide, by decide⟩ (by decide) (hd_apI (p1 := 6) (p2 := 7) (hd_apI (p1 := 5) (p2 := 6) hd_av0 (hd_iload_n C (kk0 := 1) dX9_line_5)) (hd_iload_n C (kk0 := 2) dX9_line_6)) dX9_line_7)) dX9_line_10 (by decide))) (hd_retI C Rk (p1 := 15) (hd_bipush C dX9_line_13 (by decide)) dX9_line_15) (by decide)) (hd_retI C Rk (p1 := 33) (hd_tnI C (p1 := 23) (p2 := 24) (p3 := 27) (p4 := 33) (hd_z_eqF C (p2 := 20) (tgt := 27) (hd_getI C (p1 := 17) fX9_line_68 (hd_aload_n C (kk0 := 0) dX9_line_16) dX9_line_17) dX9_line_20 (by decide)) (hd_iconst C dX9_line_23 (by decide)) dX9_line_24 (by decide) (hd_inI (hd_invV C (p1 := 28) (p2 := 30) snd_X9_findLine hw_X9_findLine gX9_line_X9_findLine hs_c_9 yX9_line_X9_findLine ⟨by decide, by decide⟩ (by decide) (hd_aload_n C (kk0 := 0) dX9_line_27) (hd_apI (p1 := 29) (p2 := 30) (hd_apI (p1 := 28) (p2 := 29) hd_av0 (hd_iload_n C (kk0 := 1) dX9_line_28)) (hd_iload_n C (kk0 := 2) dX9_line_29)) dX9_line_30))) dX9_line_33))))
/-! X9_lineAt -/
theorem hw_X9_lineAt : wsX9_lineAt = Cond.code yX9_lineAt cX9_lineAt 7 (some .int) :: wsX9_lineAt.tail := rfl
set_option maxRecDepth 100000 in
theorem uX9_lineAt_X9 : ∀ w ∈ u_ws RX9 TX9 28, w ∈ wsX9_lineAt := by decide +kernel
set_option maxRecDepth 100000 in
theorem lX9_lineAt_58 : Cond.fieldLink RX9 58 (TX9 0).1 (TX9 0).2.1 (TX9 0).2.2.1 ∈ wsX9_lineAt := by decide +kernel
set_option maxRecDepth 100000 in
theorem qX9_lineAt_58 : hd_FP wsX9_lineAt RX9 vwCl 9 0 58 .int := ⟨RX9, TX9, 28, tyX9, rfl, by decide, uX9_lineAt_X9, lX9_lineAt_58, tyX9_ok, nmX9, rfl, rfl⟩
set_option maxRecDepth 100000 in
theorem yX9_lineAt_X9_isLine : yX9_isLine.cls ≠ "java/lang/invoke/MethodHandle" ∧ yX9_isLine.cls ≠ "java/lang/invoke/VarHandle" ∧ (parseMethodDescriptor yX9_isLine.desc).map (fun d => d.parameters.length) = some 2 := by decide +kernel
set_option maxRecDepth 100000 in
theorem lX9_lineAt_68 : Cond.fieldLink RX9 68 (TX9 1).1 (TX9 1).2.1 (TX9 1).2.2.1 ∈ wsX9_lineAt := by decide +kernel
set_option maxRecDepth 100000 in
theorem fX9_lineAt_68 : hd_F wsX9_lineAt RX9 vwCl 9 1 68 := ⟨RX9, TX9, 28, rfl, by decide, uX9_lineAt_X9, lX9_lineAt_68⟩
set_option maxRecDepth 100000 in
theorem yX9_lineAt_X9_findLine : yX9_findLine.cls = RX9 ∧ yX9_findLine.cls ≠ "java/lang/invoke/MethodHandle" ∧ yX9_findLine.cls ≠ "java/lang/invoke/VarHandle" ∧ (parseMethodDescriptor yX9_findLine.desc).map (fun d => d.parameters.length) = some 2 := by decide +kernel
set_option maxRecDepth 100000 in
theorem lX9_lineAt_189 : Cond.fieldLink RX9 189 (TX9 25).1 (TX9 25).2.1 (TX9 25).2.2.1 ∈ wsX9_lineAt := by decide +kernel
set_option maxRecDepth 100000 in
theorem fX9_lineAt_189 : hd_F wsX9_lineAt RX9 vwCl 9 25 189 := ⟨RX9, TX9, 28, rfl, by decide, uX9_lineAt_X9, lX9_lineAt_189⟩
set_option maxRecDepth 100000 in
theorem lX9_lineAt_195 : Cond.fieldLink RX9 195 (TX9 27).1 (TX9 27).2.1 (TX9 27).2.2.1 ∈ wsX9_lineAt := by decide +kernel
set_option maxRecDepth 100000 in
theorem fX9_lineAt_195 : hd_F wsX9_lineAt RX9 vwCl 9 27 195 := ⟨RX9, TX9, 28, rfl, by decide, uX9_lineAt_X9, lX9_lineAt_195⟩
set_option maxRecDepth 100000 in
theorem yX9_lineAt_X9_has : yX9_has.cls ≠ "java/lang/invoke/MethodHandle" ∧ yX9_has.cls ≠ "java/lang/invoke/VarHandle" ∧ (parseMethodDescriptor yX9_has.desc).map (fun d => d.parameters.length) = some 2 := by decide +kernel
set_option maxRecDepth 100000 in
theorem lX9_lineAt_55 : Cond.fieldLink RX9 55 (TX9 26).1 (TX9 26).2.1 (TX9 26).2.2.1 ∈ wsX9_lineAt := by decide +kernel
set_option maxRecDepth 100000 in
theorem fX9_lineAt_55 : hd_F wsX9_lineAt RX9 vwCl 9 26 55 := ⟨RX9, TX9, 28, rfl, by decide, uX9_lineAt_X9, lX9_lineAt_55⟩
def wc_X9_lineAt_43 : hd_xC := (hd_cI (fun x y => decide (x < y)) (hd_iL 6) (hd_iG hs_sh 9 25 (hd_rL 0)))
def wb_X9_lineAt_43 : hd_xS := (hd_sQ (hd_sW (hd_c0 (fun x => !decide (x = 0)) (hd_iN (hd_nS 2 (hd_pI (hd_pI hd_v0 (hd_iG hs_sh 9 27 (hd_rL 0))) (hd_iL 6)) wm_X9_has))) (hd_sQ (hd_sW (hd_c0 (fun x => decide (x = 0)) (hd_iL 5)) (hd_sRI (hd_iB (fun x y => x + y) (hd_iA hs_sh (hd_rG hs_sh 9 26 (hd_rL 0)) (hd_iL 6)) (hd_iK (1000))))) (hd_sP 5 (-1)))) (hd_sP 6 (1)))
def wo_X9_lineAt : hd_xS := (hd_sQ (hd_sF hs_sh 9 0 (hd_rL 0) (hd_iK (0))) (hd_sQ (hd_sW (hd_cO (hd_cX (hd_c0 (fun x => !decide (x = 0)) (hd_iN (hd_nS 2 (hd_pI (hd_pI hd_v0 (hd_iL 1)) (hd_iL 2)) wm_X9_isLine)))) (hd_c0 (fun x => decide (x < 0)) (hd_iL 3))) (hd_sRI (hd_iK (-3)))) (hd_sQ (hd_sW (hd_c0 (fun x => decide (x = 0)) (hd_iG hs_sh 9 1 (hd_rL 0))) (hd_sRI (hd_iK (-1)))) (hd_sQ (hd_sI 4 (hd_iN (hd_nV hs_sh 9 (hd_rL 0) 2 (hd_pI (hd_pI hd_v0 (hd_iL 1)) (hd_iL 2)) wm_X9_findLine))) (hd_sQ (hd_sI 5 (hd_iL 3)) (hd_sQ (hd_sQ (hd_sI 6 (hd_iK (0))) (hd_sH (wc_X9_lineAt_43) (wb_X9_lineAt_43))) (hd_sRI (hd_iK (-1)))))))))
def wm_X9_lineAt : hd_M := hd_mth 7 wo_X9_lineAt
set_option maxHeartbeats 4000000 in
set_option maxRecDepth 100000 in
theorem snd_X9_lineAt : hd_Snd vwCl hs_sh yX9_lineAt wsX9_lineAt 4 wm_X9_lineAt := hd_method (by decide) rfl rfl (by decide) (fun κ C Rk => (hd_seq (p1 := 5) (hd_sputI C (p1 := 1) (p2 := 2) qX9_lineAt_58 (hd_aload_n C (kk0 := 0) dX9_lineAt_0) (hd_iconst C dX9_lineAt_1 (by decide)) dX9_lineAt_2) (hd_seq (p1 := 20) (hd_if (p1 := 17) (p2 := 20) (hd_or (p1 := 13) (p2 := 17) (p3 := 20) (hd_not (hd_z_neF C (p2 := 10) (tgt := 17) (hd_inI (hd_invS C (p2 := 7) snd_X9_isLine hw_X9_isLine gX9_lineAt_X9_isLine yX9_lineAt_X9_isLine ⟨by decide, by decide⟩ (by decide) (hd_apI (p1 := 6) (p2 := 7) (hd_apI (p1 := 5) (p2 := 6) hd_av0 (hd_iload_n C (kk0 := 1) dX9_lineAt_5)) (hd_iload_n C (kk0 := 2) dX9_lineAt_6)) dX9_lineAt_7)) dX9_lineAt_10 (by decide))) (hd_z_ltF C (p2 := 14) (tgt := 20) (hd_iload_n C (kk0 := 3) dX9_lineAt_13) dX9_lineAt_14 (by decide))) (hd_retI C Rk (p1 := 19) (hd_bipush C dX9_lineAt_17 (by decide)) dX9_lineAt_19) (by decide)) (hd_seq (p1 := 29) (hd_if (p1 := 27) (p2 := 29) (hd_z_eqF C (p2 := 24) (tgt := 29) (hd_getI C (p1 := 21) fX9_lineAt_68 (hd_aload_n C (kk0 := 0) dX9_lineAt_20) dX9_lineAt_21) dX9_lineAt_24 (by decide)) (hd_retI C Rk (p1 := 28) (hd_iconst C dX9_lineAt_27 (by decide)) dX9_lineAt_28) (by decide)) (hd_seq (p1 := 37) (hd_sistore C (p1 := 35) (hd_inI (hd_invV C (p1 := 30) (p2 := 32) snd_X9_findLine hw_X9_findLine gX9_lineAt_X9_findLine hs_c_9 yX9_lineAt_X9_findLine ⟨by decide, by decide⟩ (by decide) (hd_aload_n C (kk0 := 0) dX9_lineAt_29) (hd_apI (p1 := 31) (p2 := 32) (hd_apI (p1 := 30) (p2 := 31) hd_av0 (hd_iload_n C (kk0 := 1) dX9_lineAt_30)) (hd_iload_n C (kk0 := 2) dX9_lineAt_31)) dX9_lineAt_32)) dX9_lineAt_35 (by decide)) (hd_seq (p1 := 40) (hd_sistore C (p1 := 38) (hd_iload_n C (kk0 := 3) dX9_lineAt_37) dX9_lineAt_38 (by decide)) (hd_seq (p1 := 90) (hd_seq (p1 := 43) (hd_sistore C (p1 := 41) (hd_iconst C dX9_lineAt_40 (by decide)) dX9_lineAt_41 (by decide)) (hd_loop C (p1 := 52) (p2 := 90) (hd_c_ltF C (p1 := 45) (p2 := 49) (tgt := 90) (hd_iload C dX9_lineAt_43) (hd_getI C (p1 := 46) fX9_lineAt_189 (hd_aload_n C (kk0 := 0) dX9_lineAt_45) dX9_lineAt_46) dX9_lineAt_49 (by decide)) (hd_seq (p1 := 84) (hd_if (p1 := 64) (p2 := 84) (hd_z_neF C (p2 := 61) (tgt := 84) (hd_inI (hd_invS C (p2 := 58) snd_X9_has hw_X9_has gX9_lineAt_X9_has yX9_lineAt_X9_has ⟨by decide, by decide⟩ (by decide) (hd_apI (p1 := 56) (p2 := 58) (hd_apI (p1 := 52) (p2 := 56) hd_av0 (hd_getI C (p1 := 53) fX9_lineAt_195 (hd_aload_n C (kk0 := 0) dX9_lineAt_52) dX9_lineAt_53)) (hd_iload C dX9_lineAt_56)) dX9_lineAt_58)) dX9_lineAt_61 (by decide)) (hd_seq (p1 := 81) (hd_if (p1 := 69) (p2 := 81) (hd_z_eqF C (p2 := 66) (tgt := 81) (hd_iload C dX9_lineAt_64) dX9_lineAt_66 (by decide)) (hd_retI C Rk (p1 := 80) (hd_iadd C (p1 := 76) (p2 := 79) (hd_iald C (p1 := 73) (p2 := 75) (hd_getR C (p1 := 70) fX9_lineAt_55 (hd_aload_n C (kk0 := 0) dX9_lineAt_69) dX9_lineAt_70) (hd_iload C dX9_lineAt_73) dX9_lineAt_75) (hd_sipush C dX9_lineAt_76 (by decide)) dX9_lineAt_79) dX9_lineAt_80) (by decide)) (hd_siinc C dX9_lineAt_81 (by decide) (by decide))) (by decide)) (hd_sgoto C (p1 := 87) (tgt := 43) (hd_ends (es := [87]) (by decide) (hd_siinc C dX9_lineAt_84 (by decide) (by decide))) dX9_lineAt_87 (by decide) (by decide))) (by decide))) (hd_retI C Rk (p1 := 91) (hd_iconst C dX9_lineAt_90 (by decide)) dX9_lineAt_91))))))))
/-! X9_worstClosed -/
theorem hw_X9_worstClosed : wsX9_worstClosed = Cond.code yX9_worstClosed cX9_worstClosed 6 (some .int) :: wsX9_worstClosed.tail := rfl
set_option maxRecDepth 100000 in
theorem uX9_worstClosed_X9 : ∀ w ∈ u_ws RX9 TX9 28, w ∈ wsX9_worstClosed := by decide +kernel
set_option maxRecDepth 100000 in
theorem lX9_worstClosed_71 : Cond.fieldLink RX9 71 (TX9 2).1 (TX9 2).2.1 (TX9 2).2.2.1 ∈ wsX9_worstClosed := by decide +kernel
set_option maxRecDepth 100000 in
theorem fX9_worstClosed_71 : hd_F wsX9_worstClosed RX9 vwCl 9 2 71 := ⟨RX9, TX9, 28, rfl, by decide, uX9_worstClosed_X9, lX9_worstClosed_71⟩
set_option maxRecDepth 100000 in
theorem yX9_worstClosed_X9_has : yX9_has.cls ≠ "java/lang/invoke/MethodHandle" ∧ yX9_has.cls ≠ "java/lang/invoke/VarHandle" ∧ (parseMethodDescriptor yX9_has.desc).map (fun d => d.parameters.length) = some 2 := by decide +kernel
set_option maxRecDepth 100000 in
theorem yX9_worstClosed_X9_allTowns : yX9_allTowns.cls = RX9 ∧ yX9_allTowns.cls ≠ "java/lang/invoke/MethodHandle" ∧ yX9_allTowns.cls ≠ "java/lang/invoke/VarHandle" ∧ (parseMethodDescriptor yX9_allTowns.desc).map (fun d => d.parameters.length) = some 0 := by decide +kernel
set_option maxRecDepth 100000 in
theorem yX9_worstClosed_X9_sumOf : yX9_sumOf.cls = RX9 ∧ yX9_sumOf.cls ≠ "java/lang/invoke/MethodHandle" ∧ yX9_sumOf.cls ≠ "java/lang/invoke/VarHandle" ∧ (parseMethodDescriptor yX9_sumOf.desc).map (fun d => d.parameters.length) = some 2 := by decide +kernel
def wc_X9_worstClosed_7 : hd_xC := (hd_cI (fun x y => decide (x < y)) (hd_iL 4) (hd_iG hs_sh 9 2 (hd_rL 0)))
def wb_X9_worstClosed_7 : hd_xS := (hd_sQ (hd_sW (hd_c0 (fun x => !decide (x = 0)) (hd_iN (hd_nS 2 (hd_pI (hd_pI hd_v0 (hd_iL 1)) (hd_iL 4)) wm_X9_has))) (hd_sQ (hd_sI 5 (hd_iN (hd_nV hs_sh 9 (hd_rL 0) 2 (hd_pI (hd_pI hd_v0 (hd_iB (fun x y => x &&& y) (hd_iL 1) (hd_iB (fun x y => x ^^^ y) (hd_iB (fun x y => x <<< (y &&& 31)) (hd_iK (1)) (hd_iL 4)) (hd_iK (-1))))) (hd_iN (hd_nV hs_sh 9 (hd_rL 0) 0 hd_v0 wm_X9_allTowns))) wm_X9_sumOf))) (hd_sQ (hd_sI 2 (hd_iQ (hd_cI (fun x y => decide (y < x)) (hd_iL 5) (hd_iL 3)) (hd_iL 4) (hd_iL 2))) (hd_sI 3 (hd_iQ (hd_cI (fun x y => decide (y < x)) (hd_iL 5) (hd_iL 3)) (hd_iL 5) (hd_iL 3)))))) (hd_sP 4 (1)))
def wo_X9_worstClosed : hd_xS := (hd_sQ (hd_sI 2 (hd_iK (-1))) (hd_sQ (hd_sI 3 (hd_iK (-1))) (hd_sQ (hd_sQ (hd_sI 4 (hd_iK (0))) (hd_sH (wc_X9_worstClosed_7) (wb_X9_worstClosed_7))) (hd_sRI (hd_iL 2)))))
def wm_X9_worstClosed : hd_M := hd_mth 6 wo_X9_worstClosed
set_option maxHeartbeats 4000000 in
set_option maxRecDepth 100000 in
theorem snd_X9_worstClosed : hd_Snd vwCl hs_sh yX9_worstClosed wsX9_worstClosed 4 wm_X9_worstClosed := hd_method (by decide) rfl rfl (by decide) (fun κ C Rk => (hd_seq (p1 := 2) (hd_sistore_n C (kk0 := 2) (p1 := 1) (hd_iconst C dX9_worstClosed_0 (by decide)) dX9_worstClosed_1 (by decide)) (hd_seq (p1 := 4) (hd_sistore_n C (kk0 := 3) (p1 := 3) (hd_iconst C dX9_worstClosed_2 (by decide)) dX9_worstClosed_3 (by decide)) (hd_seq (p1 := 75) (hd_seq (p1 := 7) (hd_sistore C (p1 := 5) (hd_iconst C dX9_worstClosed_4 (by decide)) dX9_worstClosed_5 (by decide)) (hd_loop C (p1 := 16) (p2 := 75) (hd_c_ltF C (p1 := 9) (p2 := 13) (tgt := 75) (hd_iload C dX9_worstClosed_7) (hd_getI C (p1 := 10) fX9_worstClosed_71 (hd_aload_n C (kk0 := 0) dX9_worstClosed_9) dX9_worstClosed_10) dX9_worstClosed_13 (by decide)) (hd_seq (p1 := 69) (hd_if (p1 := 25) (p2 := 69) (hd_z_neF C (p2 := 22) (tgt := 69) (hd_inI (hd_invS C (p2 := 19) snd_X9_has hw_X9_has gX9_worstClosed_X9_has yX9_worstClosed_X9_has ⟨by decide, by decide⟩ (by decide) (hd_apI (p1 := 17) (p2 := 19) (hd_apI (p1 := 16) (p2 := 17) hd_av0 (hd_iload_n C (kk0 := 1) dX9_worstClosed_16)) (hd_iload C dX9_worstClosed_17)) dX9_worstClosed_19)) dX9_worstClosed_22 (by decide)) (hd_seq (p1 := 43) (hd_sistore C (p1 := 41) (hd_inI (hd_invV C (p1 := 26) (p2 := 38) snd_X9_sumOf hw_X9_sumOf gX9_worstClosed_X9_sumOf hs_c_9 yX9_worstClosed_X9_sumOf ⟨by decide, by decide⟩ (by decide) (hd_aload_n C (kk0 := 0) dX9_worstClosed_25) (hd_apI (p1 := 34) (p2 := 38) (hd_apI (p1 := 26) (p2 := 34) hd_av0 (hd_iand C (p1 := 27) (p2 := 33) (hd_iload_n C (kk0 := 1) dX9_worstClosed_26) (hd_ixor C (p1 := 31) (p2 := 32) (hd_ishl C (p1 := 28) (p2 := 30) (hd_iconst C dX9_worstClosed_27 (by decide)) (hd_iload C dX9_worstClosed_28) dX9_worstClosed_30) (hd_iconst C dX9_worstClosed_31 (by decide)) dX9_worstClosed_32) dX9_worstClosed_33)) (hd_inI (hd_invV C (p1 := 35) (p2 := 35) snd_X9_allTowns hw_X9_allTowns gX9_worstClosed_X9_allTowns hs_c_9 yX9_worstClosed_X9_allTowns ⟨by decide, by decide⟩ (by decide) (hd_aload_n C (kk0 := 0) dX9_worstClosed_34) hd_av0 dX9_worstClosed_35))) dX9_worstClosed_38)) dX9_worstClosed_41 (by decide)) (hd_seq (p1 := 56) (hd_sistore_n C (kk0 := 2) (p1 := 55) (hd_tnI C (p1 := 49) (p2 := 51) (p3 := 54) (p4 := 55) (hd_c_gtF C (p1 := 45) (p2 := 46) (tgt := 54) (hd_iload C dX9_worstClosed_43) (hd_iload_n C (kk0 := 3) dX9_worstClosed_45) dX9_worstClosed_46 (by decide)) (hd_iload C dX9_worstClosed_49) dX9_worstClosed_51 (by decide) (hd_iload_n C (kk0 := 2) dX9_worstClosed_54)) dX9_worstClosed_55 (by decide)) (hd_sistore_n C (kk0 := 3) (p1 := 68) (hd_tnI C (p1 := 62) (p2 := 64) (p3 := 67) (p4 := 68) (hd_c_gtF C (p1 := 58) (p2 := 59) (tgt := 67) (hd_iload C dX9_worstClosed_56) (hd_iload_n C (kk0 := 3) dX9_worstClosed_58) dX9_worstClosed_59 (by decide)) (hd_iload C dX9_worstClosed_62) dX9_worstClosed_64 (by decide) (hd_iload_n C (kk0 := 3) dX9_worstClosed_67)) dX9_worstClosed_68 (by decide)))) (by decide)) (hd_sgoto C (p1 := 72) (tgt := 7) (hd_ends (es := [72]) (by decide) (hd_siinc C dX9_worstClosed_69 (by decide) (by decide))) dX9_worstClosed_72 (by decide) (by decide))) (by decide))) (hd_retI C Rk (p1 := 76) (hd_iload_n C (kk0 := 2) dX9_worstClosed_75) dX9_worstClosed_76)))))
/-! X9_worstRival -/
theorem hw_X9_worstRival : wsX9_worstRival = Cond.code yX9_worstRival cX9_worstRival 4 (some .int) :: wsX9_worstRival.tail := rfl
set_option maxRecDepth 100000 in
theorem uX9_worstRival_X9 : ∀ w ∈ u_ws RX9 TX9 28, w ∈ wsX9_worstRival := by decide +kernel
set_option maxRecDepth 100000 in
theorem lX9_worstRival_71 : Cond.fieldLink RX9 71 (TX9 2).1 (TX9 2).2.1 (TX9 2).2.2.1 ∈ wsX9_worstRival := by decide +kernel
set_option maxRecDepth 100000 in
theorem fX9_worstRival_71 : hd_F wsX9_worstRival RX9 vwCl 9 2 71 := ⟨RX9, TX9, 28, rfl, by decide, uX9_worstRival_X9, lX9_worstRival_71⟩
set_option maxRecDepth 100000 in
theorem yX9_worstRival_X9_has : yX9_has.cls ≠ "java/lang/invoke/MethodHandle" ∧ yX9_has.cls ≠ "java/lang/invoke/VarHandle" ∧ (parseMethodDescriptor yX9_has.desc).map (fun d => d.parameters.length) = some 2 := by decide +kernel
set_option maxRecDepth 100000 in
theorem yX9_worstRival_X9_taken : yX9_taken.cls = RX9 ∧ yX9_taken.cls ≠ "java/lang/invoke/MethodHandle" ∧ yX9_taken.cls ≠ "java/lang/invoke/VarHandle" ∧ (parseMethodDescriptor yX9_taken.desc).map (fun d => d.parameters.length) = some 2 := by decide +kernel
def wc_X9_worstRival_4 : hd_xC := (hd_cI (fun x y => decide (x < y)) (hd_iL 3) (hd_iG hs_sh 9 2 (hd_rL 0)))
def wb_X9_worstRival_4 : hd_xS := (hd_sQ (hd_sW (hd_cA (hd_cX (hd_c0 (fun x => !decide (x = 0)) (hd_iN (hd_nS 2 (hd_pI (hd_pI hd_v0 (hd_iL 1)) (hd_iL 3)) wm_X9_has)))) (hd_cO (hd_cI (fun x y => decide (x = y)) (hd_iL 2) (hd_iK (-1))) (hd_cI (fun x y => decide (y < x)) (hd_iN (hd_nV hs_sh 9 (hd_rL 0) 2 (hd_pI (hd_pI hd_v0 (hd_iL 1)) (hd_iL 3)) wm_X9_taken)) (hd_iN (hd_nV hs_sh 9 (hd_rL 0) 2 (hd_pI (hd_pI hd_v0 (hd_iL 1)) (hd_iL 2)) wm_X9_taken))))) (hd_sI 2 (hd_iL 3))) (hd_sP 3 (1)))
def wo_X9_worstRival : hd_xS := (hd_sQ (hd_sI 2 (hd_iK (-1))) (hd_sQ (hd_sQ (hd_sI 3 (hd_iK (0))) (hd_sH (wc_X9_worstRival_4) (wb_X9_worstRival_4))) (hd_sRI (hd_iL 2))))
def wm_X9_worstRival : hd_M := hd_mth 4 wo_X9_worstRival
set_option maxHeartbeats 4000000 in
set_option maxRecDepth 100000 in
theorem snd_X9_worstRival : hd_Snd vwCl hs_sh yX9_worstRival wsX9_worstRival 4 wm_X9_worstRival := hd_method (by decide) rfl rfl (by decide) (fun κ C Rk => (hd_seq (p1 := 2) (hd_sistore_n C (kk0 := 2) (p1 := 1) (hd_iconst C dX9_worstRival_0 (by decide)) dX9_worstRival_1 (by decide)) (hd_seq (p1 := 48) (hd_seq (p1 := 4) (hd_sistore_n C (kk0 := 3) (p1 := 3) (hd_iconst C dX9_worstRival_2 (by decide)) dX9_worstRival_3 (by decide)) (hd_loop C (p1 := 12) (p2 := 48) (hd_c_ltF C (p1 := 5) (p2 := 9) (tgt := 48) (hd_iload_n C (kk0 := 3) dX9_worstRival_4) (hd_getI C (p1 := 6) fX9_worstRival_71 (hd_aload_n C (kk0 := 0) dX9_worstRival_5) dX9_worstRival_6) dX9_worstRival_9 (by decide)) (hd_seq (p1 := 42) (hd_if (p1 := 40) (p2 := 42) (hd_and (p1 := 20) (p2 := 40) (p3 := 42) (hd_not (hd_z_neT C (p2 := 17) (tgt := 42) (hd_inI (hd_invS C (p2 := 14) snd_X9_has hw_X9_has gX9_worstRival_X9_has yX9_worstRival_X9_has ⟨by decide, by decide⟩ (by decide) (hd_apI (p1 := 13) (p2 := 14) (hd_apI (p1 := 12) (p2 := 13) hd_av0 (hd_iload_n C (kk0 := 1) dX9_worstRival_12)) (hd_iload_n C (kk0 := 3) dX9_worstRival_13)) dX9_worstRival_14)) dX9_worstRival_17 (by decide))) (hd_or (p1 := 25) (p2 := 40) (p3 := 42) (hd_c_eqT C (p1 := 21) (p2 := 22) (tgt := 40) (hd_iload_n C (kk0 := 2) dX9_worstRival_20) (hd_iconst C dX9_worstRival_21 (by decide)) dX9_worstRival_22 (by decide)) (hd_c_gtF C (p1 := 31) (p2 := 37) (tgt := 42) (hd_inI (hd_invV C (p1 := 26) (p2 := 28) snd_X9_taken hw_X9_taken gX9_worstRival_X9_taken hs_c_9 yX9_worstRival_X9_taken ⟨by decide, by decide⟩ (by decide) (hd_aload_n C (kk0 := 0) dX9_worstRival_25) (hd_apI (p1 := 27) (p2 := 28) (hd_apI (p1 := 26) (p2 := 27) hd_av0 (hd_iload_n C (kk0 := 1) dX9_worstRival_26)) (hd_iload_n C (kk0 := 3) dX9_worstRival_27)) dX9_worstRival_28)) (hd_inI (hd_invV C (p1 := 32) (p2 := 34) snd_X9_taken hw_X9_taken gX9_worstRival_X9_taken hs_c_9 yX9_worstRival_X9_taken ⟨by decide, by decide⟩ (by decide) (hd_aload_n C (kk0 := 0) dX9_worstRival_31) (hd_apI (p1 := 33) (p2 := 34) (hd_apI (p1 := 32) (p2 := 33) hd_av0 (hd_iload_n C (kk0 := 1) dX9_worstRival_32)) (hd_iload_n C (kk0 := 2) dX9_worstRival_33)) dX9_worstRival_34)) dX9_worstRival_37 (by decide)))) (hd_sistore_n C (kk0 := 2) (p1 := 41) (hd_iload_n C (kk0 := 3) dX9_worstRival_40) dX9_worstRival_41 (by decide)) (by decide)) (hd_sgoto C (p1 := 45) (tgt := 4) (hd_ends (es := [45]) (by decide) (hd_siinc C dX9_worstRival_42 (by decide) (by decide))) dX9_worstRival_45 (by decide) (by decide))) (by decide))) (hd_retI C Rk (p1 := 49) (hd_iload_n C (kk0 := 2) dX9_worstRival_48) dX9_worstRival_49))))
/-! X0_raiseSome -/
theorem hw_X0_raiseSome : wsX0_raiseSome = Cond.code yX0_raiseSome cX0_raiseSome 5 (some .int) :: wsX0_raiseSome.tail := rfl
set_option maxRecDepth 100000 in
theorem yX0_raiseSome_X0_alikeRounds : yX0_alikeRounds.cls = RX0 ∧ yX0_alikeRounds.cls ≠ "java/lang/invoke/MethodHandle" ∧ yX0_alikeRounds.cls ≠ "java/lang/invoke/VarHandle" ∧ (parseMethodDescriptor yX0_alikeRounds.desc).map (fun d => d.parameters.length) = some 2 := by decide +kernel
set_option maxRecDepth 100000 in
theorem uX0_raiseSome_X0 : ∀ w ∈ u_ws RX0 TX0 3, w ∈ wsX0_raiseSome := by decide +kernel
set_option maxRecDepth 100000 in
theorem lX0_raiseSome_18 : Cond.fieldLink RX0 18 (TX0 0).1 (TX0 0).2.1 (TX0 0).2.2.1 ∈ wsX0_raiseSome := by decide +kernel
set_option maxRecDepth 100000 in
theorem fX0_raiseSome_18 : hd_F wsX0_raiseSome RX0 vwCl 0 0 18 := ⟨RX0, TX0, 3, rfl, by decide, uX0_raiseSome_X0, lX0_raiseSome_18⟩
set_option maxRecDepth 100000 in
theorem uX0_raiseSome_X5 : ∀ w ∈ u_ws RX5 TX5 10, w ∈ wsX0_raiseSome := by decide +kernel
set_option maxRecDepth 100000 in
theorem lX0_raiseSome_22 : Cond.fieldLink RX0 22 (TX5 0).1 (TX5 0).2.1 (TX5 0).2.2.1 ∈ wsX0_raiseSome := by decide +kernel
set_option maxRecDepth 100000 in
theorem fX0_raiseSome_22 : hd_F wsX0_raiseSome RX0 vwCl 5 0 22 := ⟨RX5, TX5, 10, rfl, by decide, uX0_raiseSome_X5, lX0_raiseSome_22⟩
set_option maxRecDepth 100000 in
theorem yX0_raiseSome_X5_isIn : yX5_isIn.cls ≠ "java/lang/invoke/MethodHandle" ∧ yX5_isIn.cls ≠ "java/lang/invoke/VarHandle" ∧ (parseMethodDescriptor yX5_isIn.desc).map (fun d => d.parameters.length) = some 2 := by decide +kernel
set_option maxRecDepth 100000 in
theorem yX0_raiseSome_X0_isStopped : yX0_isStopped.cls = RX0 ∧ yX0_isStopped.cls ≠ "java/lang/invoke/MethodHandle" ∧ yX0_isStopped.cls ≠ "java/lang/invoke/VarHandle" ∧ (parseMethodDescriptor yX0_isStopped.desc).map (fun d => d.parameters.length) = some 1 := by decide +kernel
set_option maxRecDepth 100000 in
theorem wX0_raiseSome_9 : Cond.methodLink RX0 39 Lib.Math.max.name ∈ wsX0_raiseSome := by decide +kernel
set_option maxRecDepth 100000 in
theorem wX0_raiseSome_10 : Cond.static Lib.Math.max.name ∈ wsX0_raiseSome := by decide +kernel
set_option maxRecDepth 100000 in
theorem wX0_raiseSome_11 : Cond.initialized "java/lang/Math" ∈ wsX0_raiseSome := by decide +kernel
set_option maxRecDepth 100000 in
theorem wX0_raiseSome_12 : Cond.code Lib.Math.max.name Lib.Math.max.code 2 (some .int) ∈ wsX0_raiseSome := by decide +kernel
set_option maxRecDepth 100000 in
theorem yX0_raiseSome_X0_raiseBy : yX0_raiseBy.cls = RX0 ∧ yX0_raiseBy.cls ≠ "java/lang/invoke/MethodHandle" ∧ yX0_raiseBy.cls ≠ "java/lang/invoke/VarHandle" ∧ (parseMethodDescriptor yX0_raiseBy.desc).map (fun d => d.parameters.length) = some 2 := by decide +kernel
def wc_X0_raiseSome_10 : hd_xC := (hd_cI (fun x y => decide (x < y)) (hd_iL 4) (hd_iG hs_sh 5 0 (hd_rG hs_sh 0 0 (hd_rL 0))))
def wb_X0_raiseSome_10 : hd_xS := (hd_sQ (hd_sW (hd_cA (hd_c0 (fun x => !decide (x = 0)) (hd_iN (hd_nS 2 (hd_pI (hd_pI hd_v0 (hd_iL 4)) (hd_iL 1)) wm_X5_isIn))) (hd_cO (hd_c0 (fun x => decide (0 < x)) (hd_iL 3)) (hd_cX (hd_c0 (fun x => !decide (x = 0)) (hd_iN (hd_nV hs_sh 0 (hd_rL 0) 1 (hd_pI hd_v0 (hd_iL 4)) wm_X0_isStopped)))))) (hd_sN (hd_nV hs_sh 0 (hd_rL 0) 2 (hd_pI (hd_pI hd_v0 (hd_iL 4)) (hd_iB (fun x y => if x < y then y else x) (hd_iK (1)) (hd_iL 3))) wm_X0_raiseBy))) (hd_sP 4 (1)))
def wo_X0_raiseSome : hd_xS := (hd_sQ (hd_sI 3 (hd_iN (hd_nV hs_sh 0 (hd_rL 0) 2 (hd_pI (hd_pI hd_v0 (hd_iL 1)) (hd_iL 2)) wm_X0_alikeRounds))) (hd_sQ (hd_sQ (hd_sI 4 (hd_iK (0))) (hd_sH (wc_X0_raiseSome_10) (wb_X0_raiseSome_10))) (hd_sRI (hd_iB (fun x y => if x < y then y else x) (hd_iK (1)) (hd_iL 3)))))
def wm_X0_raiseSome : hd_M := hd_mth 5 wo_X0_raiseSome
set_option maxHeartbeats 4000000 in
set_option maxRecDepth 100000 in
theorem snd_X0_raiseSome : hd_Snd vwCl hs_sh yX0_raiseSome wsX0_raiseSome 5 wm_X0_raiseSome := hd_method (by decide) rfl rfl (by decide) (fun κ C Rk => (hd_seq (p1 := 7) (hd_sistore_n C (kk0 := 3) (p1 := 6) (hd_inI (hd_invV C (p1 := 1) (p2 := 3) snd_X0_alikeRounds hw_X0_alikeRounds gX0_raiseSome_X0_alikeRounds hs_c_0 yX0_raiseSome_X0_alikeRounds ⟨by decide, by decide⟩ (by decide) (hd_aload_n C (kk0 := 0) dX0_raiseSome_0) (hd_apI (p1 := 2) (p2 := 3) (hd_apI (p1 := 1) (p2 := 2) hd_av0 (hd_iload_n C (kk0 := 1) dX0_raiseSome_1)) (hd_iload_n C (kk0 := 2) dX0_raiseSome_2)) dX0_raiseSome_3)) dX0_raiseSome_6 (by decide)) (hd_seq (p1 := 61) (hd_seq (p1 := 10) (hd_sistore C (p1 := 8) (hd_iconst C dX0_raiseSome_7 (by decide)) dX0_raiseSome_8 (by decide)) (hd_loop C (p1 := 22) (p2 := 61) (hd_c_ltF C (p1 := 12) (p2 := 19) (tgt := 61) (hd_iload C dX0_raiseSome_10) (hd_getI C (p1 := 16) fX0_raiseSome_22 (hd_getR C (p1 := 13) fX0_raiseSome_18 (hd_aload_n C (kk0 := 0) dX0_raiseSome_12) dX0_raiseSome_13) dX0_raiseSome_16) dX0_raiseSome_19 (by decide)) (hd_seq (p1 := 55) (hd_if (p1 := 44) (p2 := 55) (hd_and (p1 := 31) (p2 := 44) (p3 := 55) (hd_z_neF C (p2 := 28) (tgt := 55) (hd_inI (hd_invS C (p2 := 25) snd_X5_isIn hw_X5_isIn gX0_raiseSome_X5_isIn yX0_raiseSome_X5_isIn ⟨by decide, by decide⟩ (by decide) (hd_apI (p1 := 24) (p2 := 25) (hd_apI (p1 := 22) (p2 := 24) hd_av0 (hd_iload C dX0_raiseSome_22)) (hd_iload_n C (kk0 := 1) dX0_raiseSome_24)) dX0_raiseSome_25)) dX0_raiseSome_28 (by decide)) (hd_or (p1 := 35) (p2 := 44) (p3 := 55) (hd_z_gtT C (p2 := 32) (tgt := 44) (hd_iload_n C (kk0 := 3) dX0_raiseSome_31) dX0_raiseSome_32 (by decide)) (hd_not (hd_z_neT C (p2 := 41) (tgt := 55) (hd_inI (hd_invV C (p1 := 36) (p2 := 38) snd_X0_isStopped hw_X0_isStopped gX0_raiseSome_X0_isStopped hs_c_0 yX0_raiseSome_X0_isStopped ⟨by decide, by decide⟩ (by decide) (hd_aload_n C (kk0 := 0) dX0_raiseSome_35) (hd_apI (p1 := 36) (p2 := 38) hd_av0 (hd_iload C dX0_raiseSome_36)) dX0_raiseSome_38)) dX0_raiseSome_41 (by decide))))) (hd_scall (hd_invV C (p1 := 45) (p2 := 52) snd_X0_raiseBy hw_X0_raiseBy gX0_raiseSome_X0_raiseBy hs_c_0 yX0_raiseSome_X0_raiseBy ⟨by decide, by decide⟩ (by decide) (hd_aload_n C (kk0 := 0) dX0_raiseSome_44) (hd_apI (p1 := 47) (p2 := 52) (hd_apI (p1 := 45) (p2 := 47) hd_av0 (hd_iload C dX0_raiseSome_45)) (hd_mmax C (p1 := 48) (p2 := 49) wX0_raiseSome_9 wX0_raiseSome_10 wX0_raiseSome_11 wX0_raiseSome_12 (by decide) (hd_iconst C dX0_raiseSome_47 (by decide)) (hd_iload_n C (kk0 := 3) dX0_raiseSome_48) dX0_raiseSome_49)) dX0_raiseSome_52)) (by decide)) (hd_sgoto C (p1 := 58) (tgt := 10) (hd_ends (es := [58]) (by decide) (hd_siinc C dX0_raiseSome_55 (by decide) (by decide))) dX0_raiseSome_58 (by decide) (by decide))) (by decide))) (hd_retI C Rk (p1 := 66) (hd_mmax C (p1 := 62) (p2 := 63) wX0_raiseSome_9 wX0_raiseSome_10 wX0_raiseSome_11 wX0_raiseSome_12 (by decide) (hd_iconst C dX0_raiseSome_61 (by decide)) (hd_iload_n C (kk0 := 3) dX0_raiseSome_62) dX0_raiseSome_63) dX0_raiseSome_66))))
/-! X1_costOf -/
theorem hw_X1_costOf : wsX1_costOf = Cond.code yX1_costOf cX1_costOf 3 (some .int) :: wsX1_costOf.tail := rfl
set_option maxRecDepth 100000 in
theorem uX1_costOf_X1 : ∀ w ∈ u_ws RX1 TX1 5, w ∈ wsX1_costOf := by decide +kernel
set_option maxRecDepth 100000 in
theorem lX1_costOf_19 : Cond.fieldLink RX1 19 (TX1 1).1 (TX1 1).2.1 (TX1 1).2.2.1 ∈ wsX1_costOf := by decide +kernel
set_option maxRecDepth 100000 in
theorem fX1_costOf_19 : hd_F wsX1_costOf RX1 vwCl 1 1 19 := ⟨RX1, TX1, 5, rfl, by decide, uX1_costOf_X1, lX1_costOf_19⟩
set_option maxRecDepth 100000 in
theorem uX1_costOf_X6 : ∀ w ∈ u_ws RX6 TX6 5, w ∈ wsX1_costOf := by decide +kernel
set_option maxRecDepth 100000 in
theorem lX1_costOf_27 : Cond.fieldLink RX1 27 (TX6 2).1 (TX6 2).2.1 (TX6 2).2.2.1 ∈ wsX1_costOf := by decide +kernel
set_option maxRecDepth 100000 in
theorem fX1_costOf_27 : hd_F wsX1_costOf RX1 vwCl 6 2 27 := ⟨RX6, TX6, 5, rfl, by decide, uX1_costOf_X6, lX1_costOf_27⟩
set_option maxRecDepth 100000 in
theorem yX1_costOf_X1_mostOf : yX1_mostOf.cls = RX1 ∧ yX1_mostOf.cls ≠ "java/lang/invoke/MethodHandle" ∧ yX1_mostOf.cls ≠ "java/lang/invoke/VarHandle" ∧ (parseMethodDescriptor yX1_mostOf.desc).map (fun d => d.parameters.length) = some 1 := by decide +kernel
set_option maxRecDepth 100000 in
theorem yX1_costOf_X1_withPrices : yX1_withPrices.cls = RX1 ∧ yX1_withPrices.cls ≠ "java/lang/invoke/MethodHandle" ∧ yX1_withPrices.cls ≠ "java/lang/invoke/VarHandle" ∧ (parseMethodDescriptor yX1_withPrices.desc).map (fun d => d.parameters.length) = some 2 := by decide +kernel
set_option maxRecDepth 100000 in
theorem lX1_costOf_23 : Cond.fieldLink RX1 23 (TX1 2).1 (TX1 2).2.1 (TX1 2).2.2.1 ∈ wsX1_costOf := by decide +kernel
set_option maxRecDepth 100000 in
theorem fX1_costOf_23 : hd_F wsX1_costOf RX1 vwCl 1 2 23 := ⟨RX1, TX1, 5, rfl, by decide, uX1_costOf_X1, lX1_costOf_23⟩
set_option maxRecDepth 100000 in
theorem yX1_costOf_X7_fillingOf : yX7_fillingOf.cls = RX7 ∧ yX7_fillingOf.cls ≠ "java/lang/invoke/MethodHandle" ∧ yX7_fillingOf.cls ≠ "java/lang/invoke/VarHandle" ∧ (parseMethodDescriptor yX7_fillingOf.desc).map (fun d => d.parameters.length) = some 1 := by decide +kernel
set_option maxRecDepth 100000 in
theorem yX1_costOf_X7_tripsOf : yX7_tripsOf.cls ≠ "java/lang/invoke/MethodHandle" ∧ yX7_tripsOf.cls ≠ "java/lang/invoke/VarHandle" ∧ (parseMethodDescriptor yX7_tripsOf.desc).map (fun d => d.parameters.length) = some 1 := by decide +kernel
set_option maxRecDepth 100000 in
theorem yX1_costOf_X1_finedOf : yX1_finedOf.cls = RX1 ∧ yX1_finedOf.cls ≠ "java/lang/invoke/MethodHandle" ∧ yX1_finedOf.cls ≠ "java/lang/invoke/VarHandle" ∧ (parseMethodDescriptor yX1_finedOf.desc).map (fun d => d.parameters.length) = some 1 := by decide +kernel
set_option maxRecDepth 100000 in
theorem yX1_costOf_X1_closedOf : yX1_closedOf.cls = RX1 ∧ yX1_closedOf.cls ≠ "java/lang/invoke/MethodHandle" ∧ yX1_closedOf.cls ≠ "java/lang/invoke/VarHandle" ∧ (parseMethodDescriptor yX1_closedOf.desc).map (fun d => d.parameters.length) = some 1 := by decide +kernel
set_option maxRecDepth 100000 in
theorem yX1_costOf_X1_rivalOf : yX1_rivalOf.cls = RX1 ∧ yX1_rivalOf.cls ≠ "java/lang/invoke/MethodHandle" ∧ yX1_rivalOf.cls ≠ "java/lang/invoke/VarHandle" ∧ (parseMethodDescriptor yX1_rivalOf.desc).map (fun d => d.parameters.length) = some 1 := by decide +kernel
def wo_X1_costOf : hd_xS := (hd_sSw (hd_iL 1) [(hd_sRI (hd_iA hs_sh (hd_rG hs_sh 6 2 (hd_rG hs_sh 1 1 (hd_rL 0))) (hd_iL 2))), (hd_sRI (hd_iN (hd_nV hs_sh 1 (hd_rL 0) 1 (hd_pI hd_v0 (hd_iL 2)) wm_X1_mostOf))), (hd_sRI (hd_iN (hd_nV hs_sh 1 (hd_rL 0) 2 (hd_pI (hd_pI hd_v0 (hd_iA hs_sh (hd_rG hs_sh 6 2 (hd_rG hs_sh 1 1 (hd_rL 0))) (hd_iL 2))) (hd_iL 2)) wm_X1_withPrices))), (hd_sRI (hd_iN (hd_nV hs_sh 1 (hd_rL 0) 2 (hd_pI (hd_pI hd_v0 (hd_iN (hd_nS 1 (hd_pJ hd_v0 (hd_jN (hd_nV hs_sh 7 (hd_rG hs_sh 1 2 (hd_rL 0)) 1 (hd_pI hd_v0 (hd_iL 2)) wm_X7_fillingOf))) wm_X7_tripsOf))) (hd_iL 2)) wm_X1_withPrices))), (hd_sRI (hd_iN (hd_nV hs_sh 1 (hd_rL 0) 1 (hd_pI hd_v0 (hd_iL 2)) wm_X1_finedOf))), (hd_sRI (hd_iN (hd_nV hs_sh 1 (hd_rL 0) 1 (hd_pI hd_v0 (hd_iL 2)) wm_X1_closedOf)))] (hd_sRI (hd_iN (hd_nV hs_sh 1 (hd_rL 0) 1 (hd_pI hd_v0 (hd_iL 2)) wm_X1_rivalOf))))
def wm_X1_costOf : hd_M := hd_mth 3 wo_X1_costOf
set_option maxHeartbeats 4000000 in
set_option maxRecDepth 100000 in
theorem snd_X1_costOf : hd_Snd vwCl hs_sh yX1_costOf wsX1_costOf 5 wm_X1_costOf := hd_method (by decide) rfl rfl (by decide) (fun κ C Rk => (hd_switch C (p1 := 1) (tgt := 100) (hd_iload_n C (kk0 := 1) dX1_costOf_0) dX1_costOf_1 (by decide) (by decide) (by
      intro k s h
      match k, h with
      | 0, h => exact ⟨_, 40, rfl, by decide, by cases h; exact (hd_retI C Rk (p1 := 49) (hd_iald C (p1 := 47) (p2 := 48) (hd_getR C (p1 := 44) fX1_costOf_27 (hd_getR C (p1 := 41) fX1_costOf_19 (hd_aload_n C (kk0 := 0) dX1_costOf_40) dX1_costOf_41) dX1_costOf_44) (hd_iload_n C (kk0 := 2) dX1_costOf_47) dX1_costOf_48) dX1_costOf_49)⟩
      | 1, h => exact ⟨_, 50, rfl, by decide, by cases h; exact (hd_retI C Rk (p1 := 55) (hd_inI (hd_invV C (p1 := 51) (p2 := 52) snd_X1_mostOf hw_X1_mostOf gX1_costOf_X1_mostOf hs_c_1 yX1_costOf_X1_mostOf ⟨by decide, by decide⟩ (by decide) (hd_aload_n C (kk0 := 0) dX1_costOf_50) (hd_apI (p1 := 51) (p2 := 52) hd_av0 (hd_iload_n C (kk0 := 2) dX1_costOf_51)) dX1_costOf_52)) dX1_costOf_55)⟩
      | 2, h => exact ⟨_, 56, rfl, by decide, by cases h; exact (hd_retI C Rk (p1 := 70) (hd_inI (hd_invV C (p1 := 57) (p2 := 67) snd_X1_withPrices hw_X1_withPrices gX1_costOf_X1_withPrices hs_c_1 yX1_costOf_X1_withPrices ⟨by decide, by decide⟩ (by decide) (hd_aload_n C (kk0 := 0) dX1_costOf_56) (hd_apI (p1 := 66) (p2 := 67) (hd_apI (p1 := 57) (p2 := 66) hd_av0 (hd_iald C (p1 := 64) (p2 := 65) (hd_getR C (p1 := 61) fX1_costOf_27 (hd_getR C (p1 := 58) fX1_costOf_19 (hd_aload_n C (kk0 := 0) dX1_costOf_57) dX1_costOf_58) dX1_costOf_61) (hd_iload_n C (kk0 := 2) dX1_costOf_64) dX1_costOf_65)) (hd_iload_n C (kk0 := 2) dX1_costOf_66)) dX1_costOf_67)) dX1_costOf_70)⟩
      | 3, h => exact ⟨_, 71, rfl, by decide, by cases h; exact (hd_retI C Rk (p1 := 87) (hd_inI (hd_invV C (p1 := 72) (p2 := 84) snd_X1_withPrices hw_X1_withPrices gX1_costOf_X1_withPrices hs_c_1 yX1_costOf_X1_withPrices ⟨by decide, by decide⟩ (by decide) (hd_aload_n C (kk0 := 0) dX1_costOf_71) (hd_apI (p1 := 83) (p2 := 84) (hd_apI (p1 := 72) (p2 := 83) hd_av0 (hd_inI (hd_invS C (p2 := 80) snd_X7_tripsOf hw_X7_tripsOf gX1_costOf_X7_tripsOf yX1_costOf_X7_tripsOf ⟨by decide, by decide⟩ (by decide) (hd_apJ (p1 := 72) (p2 := 80) hd_av0 (hd_inJ (hd_invV C (p1 := 76) (p2 := 77) snd_X7_fillingOf hw_X7_fillingOf gX1_costOf_X7_fillingOf hs_c_7 yX1_costOf_X7_fillingOf ⟨by decide, by decide⟩ (by decide) (hd_getR C (p1 := 73) fX1_costOf_23 (hd_aload_n C (kk0 := 0) dX1_costOf_72) dX1_costOf_73) (hd_apI (p1 := 76) (p2 := 77) hd_av0 (hd_iload_n C (kk0 := 2) dX1_costOf_76)) dX1_costOf_77))) dX1_costOf_80))) (hd_iload_n C (kk0 := 2) dX1_costOf_83)) dX1_costOf_84)) dX1_costOf_87)⟩
      | 4, h => exact ⟨_, 88, rfl, by decide, by cases h; exact (hd_retI C Rk (p1 := 93) (hd_inI (hd_invV C (p1 := 89) (p2 := 90) snd_X1_finedOf hw_X1_finedOf gX1_costOf_X1_finedOf hs_c_1 yX1_costOf_X1_finedOf ⟨by decide, by decide⟩ (by decide) (hd_aload_n C (kk0 := 0) dX1_costOf_88) (hd_apI (p1 := 89) (p2 := 90) hd_av0 (hd_iload_n C (kk0 := 2) dX1_costOf_89)) dX1_costOf_90)) dX1_costOf_93)⟩
      | 5, h => exact ⟨_, 94, rfl, by decide, by cases h; exact (hd_retI C Rk (p1 := 99) (hd_inI (hd_invV C (p1 := 95) (p2 := 96) snd_X1_closedOf hw_X1_closedOf gX1_costOf_X1_closedOf hs_c_1 yX1_costOf_X1_closedOf ⟨by decide, by decide⟩ (by decide) (hd_aload_n C (kk0 := 0) dX1_costOf_94) (hd_apI (p1 := 95) (p2 := 96) hd_av0 (hd_iload_n C (kk0 := 2) dX1_costOf_95)) dX1_costOf_96)) dX1_costOf_99)⟩
      | k + 6, h => simp at h) (by decide) (hd_retI C Rk (p1 := 105) (hd_inI (hd_invV C (p1 := 101) (p2 := 102) snd_X1_rivalOf hw_X1_rivalOf gX1_costOf_X1_rivalOf hs_c_1 yX1_costOf_X1_rivalOf ⟨by decide, by decide⟩ (by decide) (hd_aload_n C (kk0 := 0) dX1_costOf_100) (hd_apI (p1 := 101) (p2 := 102) hd_av0 (hd_iload_n C (kk0 := 2) dX1_costOf_101)) dX1_costOf_102)) dX1_costOf_105)))
/-! X1_hallFor -/
theorem hw_X1_hallFor : wsX1_hallFor = Cond.code yX1_hallFor cX1_hallFor 5 (some .int) :: wsX1_hallFor.tail := rfl
set_option maxRecDepth 100000 in
theorem uX1_hallFor_X1 : ∀ w ∈ u_ws RX1 TX1 5, w ∈ wsX1_hallFor := by decide +kernel
set_option maxRecDepth 100000 in
theorem lX1_hallFor_23 : Cond.fieldLink RX1 23 (TX1 2).1 (TX1 2).2.1 (TX1 2).2.2.1 ∈ wsX1_hallFor := by decide +kernel
set_option maxRecDepth 100000 in
theorem fX1_hallFor_23 : hd_F wsX1_hallFor RX1 vwCl 1 2 23 := ⟨RX1, TX1, 5, rfl, by decide, uX1_hallFor_X1, lX1_hallFor_23⟩
set_option maxRecDepth 100000 in
theorem yX1_hallFor_X7_fillingOf : yX7_fillingOf.cls = RX7 ∧ yX7_fillingOf.cls ≠ "java/lang/invoke/MethodHandle" ∧ yX7_fillingOf.cls ≠ "java/lang/invoke/VarHandle" ∧ (parseMethodDescriptor yX7_fillingOf.desc).map (fun d => d.parameters.length) = some 1 := by decide +kernel
set_option maxRecDepth 100000 in
theorem yX1_hallFor_X7_hallIn : yX7_hallIn.cls ≠ "java/lang/invoke/MethodHandle" ∧ yX7_hallIn.cls ≠ "java/lang/invoke/VarHandle" ∧ (parseMethodDescriptor yX7_hallIn.desc).map (fun d => d.parameters.length) = some 2 := by decide +kernel
set_option maxRecDepth 100000 in
theorem lX1_hallFor_19 : Cond.fieldLink RX1 19 (TX1 1).1 (TX1 1).2.1 (TX1 1).2.2.1 ∈ wsX1_hallFor := by decide +kernel
set_option maxRecDepth 100000 in
theorem fX1_hallFor_19 : hd_F wsX1_hallFor RX1 vwCl 1 1 19 := ⟨RX1, TX1, 5, rfl, by decide, uX1_hallFor_X1, lX1_hallFor_19⟩
set_option maxRecDepth 100000 in
theorem yX1_hallFor_X6_nearHall : yX6_nearHall.cls = RX6 ∧ yX6_nearHall.cls ≠ "java/lang/invoke/MethodHandle" ∧ yX6_nearHall.cls ≠ "java/lang/invoke/VarHandle" ∧ (parseMethodDescriptor yX6_nearHall.desc).map (fun d => d.parameters.length) = some 2 := by decide +kernel
set_option maxRecDepth 100000 in
theorem lX1_hallFor_15 : Cond.fieldLink RX1 15 (TX1 0).1 (TX1 0).2.1 (TX1 0).2.2.1 ∈ wsX1_hallFor := by decide +kernel
set_option maxRecDepth 100000 in
theorem fX1_hallFor_15 : hd_F wsX1_hallFor RX1 vwCl 1 0 15 := ⟨RX1, TX1, 5, rfl, by decide, uX1_hallFor_X1, lX1_hallFor_15⟩
set_option maxRecDepth 100000 in
theorem uX1_hallFor_X5 : ∀ w ∈ u_ws RX5 TX5 10, w ∈ wsX1_hallFor := by decide +kernel
set_option maxRecDepth 100000 in
theorem lX1_hallFor_76 : Cond.fieldLink RX1 76 (TX5 3).1 (TX5 3).2.1 (TX5 3).2.2.1 ∈ wsX1_hallFor := by decide +kernel
set_option maxRecDepth 100000 in
theorem fX1_hallFor_76 : hd_F wsX1_hallFor RX1 vwCl 5 3 76 := ⟨RX5, TX5, 10, rfl, by decide, uX1_hallFor_X5, lX1_hallFor_76⟩
set_option maxRecDepth 100000 in
theorem yX1_hallFor_X5_tripOf : yX5_tripOf.cls = RX5 ∧ yX5_tripOf.cls ≠ "java/lang/invoke/MethodHandle" ∧ yX5_tripOf.cls ≠ "java/lang/invoke/VarHandle" ∧ (parseMethodDescriptor yX5_tripOf.desc).map (fun d => d.parameters.length) = some 2 := by decide +kernel
def wo_X1_hallFor : hd_xS := (hd_sQ (hd_sW (hd_cI (fun x y => decide (x = y)) (hd_iL 1) (hd_iK (3))) (hd_sRI (hd_iN (hd_nS 2 (hd_pI (hd_pJ hd_v0 (hd_jN (hd_nV hs_sh 7 (hd_rG hs_sh 1 2 (hd_rL 0)) 1 (hd_pI hd_v0 (hd_iL 2)) wm_X7_fillingOf))) (hd_iL 3)) wm_X7_hallIn)))) (hd_sQ (hd_sI 4 (hd_iN (hd_nV hs_sh 6 (hd_rG hs_sh 1 1 (hd_rL 0)) 2 (hd_pI (hd_pI hd_v0 (hd_iL 2)) (hd_iL 3)) wm_X6_nearHall))) (hd_sQ (hd_sW (hd_cA (hd_cA (hd_cI (fun x y => decide (x = y)) (hd_iL 1) (hd_iK (4))) (hd_cI (fun x y => !decide (x = y)) (hd_iL 4) (hd_iK (-1)))) (hd_cI (fun x y => decide (x < y)) (hd_iA hs_sh (hd_rG hs_sh 5 3 (hd_rG hs_sh 1 0 (hd_rL 0))) (hd_iL 3)) (hd_iN (hd_nV hs_sh 5 (hd_rG hs_sh 1 0 (hd_rL 0)) 2 (hd_pI (hd_pI hd_v0 (hd_iL 4)) (hd_iL 3)) wm_X5_tripOf)))) (hd_sRI (hd_iK (-1)))) (hd_sRI (hd_iL 4)))))
def wm_X1_hallFor : hd_M := hd_mth 5 wo_X1_hallFor
set_option maxHeartbeats 4000000 in
set_option maxRecDepth 100000 in
theorem snd_X1_hallFor : hd_Snd vwCl hs_sh yX1_hallFor wsX1_hallFor 5 wm_X1_hallFor := hd_method (by decide) rfl rfl (by decide) (fun κ C Rk => (hd_seq (p1 := 18) (hd_if (p1 := 5) (p2 := 18) (hd_c_eqF C (p1 := 1) (p2 := 2) (tgt := 18) (hd_iload_n C (kk0 := 1) dX1_hallFor_0) (hd_iconst C dX1_hallFor_1 (by decide)) dX1_hallFor_2 (by decide)) (hd_retI C Rk (p1 := 17) (hd_inI (hd_invS C (p2 := 14) snd_X7_hallIn hw_X7_hallIn gX1_hallFor_X7_hallIn yX1_hallFor_X7_hallIn ⟨by decide, by decide⟩ (by decide) (hd_apI (p1 := 13) (p2 := 14) (hd_apJ (p1 := 5) (p2 := 13) hd_av0 (hd_inJ (hd_invV C (p1 := 9) (p2 := 10) snd_X7_fillingOf hw_X7_fillingOf gX1_hallFor_X7_fillingOf hs_c_7 yX1_hallFor_X7_fillingOf ⟨by decide, by decide⟩ (by decide) (hd_getR C (p1 := 6) fX1_hallFor_23 (hd_aload_n C (kk0 := 0) dX1_hallFor_5) dX1_hallFor_6) (hd_apI (p1 := 9) (p2 := 10) hd_av0 (hd_iload_n C (kk0 := 2) dX1_hallFor_9)) dX1_hallFor_10))) (hd_iload_n C (kk0 := 3) dX1_hallFor_13)) dX1_hallFor_14)) dX1_hallFor_17) (by decide)) (hd_seq (p1 := 29) (hd_sistore C (p1 := 27) (hd_inI (hd_invV C (p1 := 22) (p2 := 24) snd_X6_nearHall hw_X6_nearHall gX1_hallFor_X6_nearHall hs_c_6 yX1_hallFor_X6_nearHall ⟨by decide, by decide⟩ (by decide) (hd_getR C (p1 := 19) fX1_hallFor_19 (hd_aload_n C (kk0 := 0) dX1_hallFor_18) dX1_hallFor_19) (hd_apI (p1 := 23) (p2 := 24) (hd_apI (p1 := 22) (p2 := 23) hd_av0 (hd_iload_n C (kk0 := 2) dX1_hallFor_22)) (hd_iload_n C (kk0 := 3) dX1_hallFor_23)) dX1_hallFor_24)) dX1_hallFor_27 (by decide)) (hd_seq (p1 := 64) (hd_if (p1 := 62) (p2 := 64) (hd_and (p1 := 40) (p2 := 62) (p3 := 64) (hd_and (p1 := 34) (p2 := 40) (p3 := 64) (hd_c_eqF C (p1 := 30) (p2 := 31) (tgt := 64) (hd_iload_n C (kk0 := 1) dX1_hallFor_29) (hd_iconst C dX1_hallFor_30 (by decide)) dX1_hallFor_31 (by decide)) (hd_c_neF C (p1 := 36) (p2 := 37) (tgt := 64) (hd_iload C dX1_hallFor_34) (hd_iconst C dX1_hallFor_36 (by decide)) dX1_hallFor_37 (by decide))) (hd_c_ltF C (p1 := 49) (p2 := 59) (tgt := 64) (hd_iald C (p1 := 47) (p2 := 48) (hd_getR C (p1 := 44) fX1_hallFor_76 (hd_getR C (p1 := 41) fX1_hallFor_15 (hd_aload_n C (kk0 := 0) dX1_hallFor_40) dX1_hallFor_41) dX1_hallFor_44) (hd_iload_n C (kk0 := 3) dX1_hallFor_47) dX1_hallFor_48) (hd_inI (hd_invV C (p1 := 53) (p2 := 56) snd_X5_tripOf hw_X5_tripOf gX1_hallFor_X5_tripOf hs_c_5 yX1_hallFor_X5_tripOf ⟨by decide, by decide⟩ (by decide) (hd_getR C (p1 := 50) fX1_hallFor_15 (hd_aload_n C (kk0 := 0) dX1_hallFor_49) dX1_hallFor_50) (hd_apI (p1 := 55) (p2 := 56) (hd_apI (p1 := 53) (p2 := 55) hd_av0 (hd_iload C dX1_hallFor_53)) (hd_iload_n C (kk0 := 3) dX1_hallFor_55)) dX1_hallFor_56)) dX1_hallFor_59 (by decide))) (hd_retI C Rk (p1 := 63) (hd_iconst C dX1_hallFor_62 (by decide)) dX1_hallFor_63) (by decide)) (hd_retI C Rk (p1 := 66) (hd_iload C dX1_hallFor_64) dX1_hallFor_66)))))
