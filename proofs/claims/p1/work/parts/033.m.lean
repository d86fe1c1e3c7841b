/-! X8_better -/
theorem hw_X8_better : wsX8_better = Cond.code yX8_better cX8_better 5 (some .int) :: wsX8_better.tail := rfl
set_option maxRecDepth 100000 in
theorem yX8_better_X8_isKind : yX8_isKind.cls ≠ "java/lang/invoke/MethodHandle" ∧ yX8_isKind.cls ≠ "java/lang/invoke/VarHandle" ∧ (parseMethodDescriptor yX8_isKind.desc).map (fun d => d.parameters.length) = some 1 := by decide +kernel
set_option maxRecDepth 100000 in
theorem yX8_better_X8_within : yX8_within.cls ≠ "java/lang/invoke/MethodHandle" ∧ yX8_within.cls ≠ "java/lang/invoke/VarHandle" ∧ (parseMethodDescriptor yX8_within.desc).map (fun d => d.parameters.length) = some 3 := by decide +kernel
set_option maxRecDepth 100000 in
theorem yX8_better_X8_freshCosts : yX8_freshCosts.cls = RX8 ∧ yX8_freshCosts.cls ≠ "java/lang/invoke/MethodHandle" ∧ yX8_freshCosts.cls ≠ "java/lang/invoke/VarHandle" ∧ (parseMethodDescriptor yX8_freshCosts.desc).map (fun d => d.parameters.length) = some 0 := by decide +kernel
set_option maxRecDepth 100000 in
theorem yX8_better_X1_seekBest : yX1_seekBest.cls = RX1 ∧ yX1_seekBest.cls ≠ "java/lang/invoke/MethodHandle" ∧ yX1_seekBest.cls ≠ "java/lang/invoke/VarHandle" ∧ (parseMethodDescriptor yX1_seekBest.desc).map (fun d => d.parameters.length) = some 2 := by decide +kernel
set_option maxRecDepth 100000 in
theorem uX8_better_X8 : ∀ w ∈ u_ws RX8 TX8 9, w ∈ wsX8_better := by decide +kernel
set_option maxRecDepth 100000 in
theorem lX8_better_46 : Cond.fieldLink RX8 46 (TX8 4).1 (TX8 4).2.1 (TX8 4).2.2.1 ∈ wsX8_better := by decide +kernel
set_option maxRecDepth 100000 in
theorem fX8_better_46 : hd_F wsX8_better RX8 vwCl 8 4 46 := ⟨RX8, TX8, 9, rfl, by decide, uX8_better_X8, lX8_better_46⟩
set_option maxRecDepth 100000 in
theorem lX8_better_167 : Cond.fieldLink RX8 167 (TX8 8).1 (TX8 8).2.1 (TX8 8).2.2.1 ∈ wsX8_better := by decide +kernel
set_option maxRecDepth 100000 in
theorem fX8_better_167 : hd_F wsX8_better RX8 vwCl 8 8 167 := ⟨RX8, TX8, 9, rfl, by decide, uX8_better_X8, lX8_better_167⟩
set_option maxRecDepth 100000 in
theorem yX8_better_X1_cheapestBeside : yX1_cheapestBeside.cls = RX1 ∧ yX1_cheapestBeside.cls ≠ "java/lang/invoke/MethodHandle" ∧ yX1_cheapestBeside.cls ≠ "java/lang/invoke/VarHandle" ∧ (parseMethodDescriptor yX1_cheapestBeside.desc).map (fun d => d.parameters.length) = some 1 := by decide +kernel
set_option maxRecDepth 100000 in
theorem qX8_better_167 : hd_FP wsX8_better RX8 vwCl 8 8 167 .int := ⟨RX8, TX8, 9, tyX8, rfl, by decide, uX8_better_X8, lX8_better_167, tyX8_ok, nmX8, rfl, rfl⟩
def wc_X8_better_31 : hd_xC := (hd_cI (fun x y => decide (x < y)) (hd_iL 3) (hd_iL 2))
def wb_X8_better_31 : hd_xS := (hd_sQ (hd_sQ (hd_sI 4 (hd_iN (hd_nV hs_sh 1 (hd_rG hs_sh 8 4 (hd_rL 0)) 1 (hd_pI hd_v0 (hd_iG hs_sh 8 8 (hd_rL 0))) wm_X1_cheapestBeside))) (hd_sQ (hd_sW (hd_cI (fun x y => decide (x = y)) (hd_iL 4) (hd_iG hs_sh 8 8 (hd_rL 0))) (hd_sRI (hd_iL 3))) (hd_sF hs_sh 8 8 (hd_rL 0) (hd_iL 4)))) (hd_sP 3 (1)))
def wo_X8_better : hd_xS := (hd_sQ (hd_sW (hd_cO (hd_cX (hd_c0 (fun x => !decide (x = 0)) (hd_iN (hd_nS 1 (hd_pI hd_v0 (hd_iL 1)) wm_X8_isKind)))) (hd_cX (hd_c0 (fun x => !decide (x = 0)) (hd_iN (hd_nS 3 (hd_pI (hd_pI (hd_pI hd_v0 (hd_iL 2)) (hd_iK (1))) (hd_iK (60))) wm_X8_within))))) (hd_sRI (hd_iK (-3)))) (hd_sQ (hd_sN (hd_nV hs_sh 1 (hd_rN (hd_nV hs_sh 8 (hd_rL 0) 0 hd_v0 wm_X8_freshCosts)) 2 (hd_pI (hd_pI hd_v0 (hd_iL 1)) (hd_iK (-1))) wm_X1_seekBest)) (hd_sQ (hd_sQ (hd_sI 3 (hd_iK (0))) (hd_sH (wc_X8_better_31) (wb_X8_better_31))) (hd_sRI (hd_iL 2)))))
def wm_X8_better : hd_M := hd_mth 5 wo_X8_better
set_option maxHeartbeats 4000000 in
set_option maxRecDepth 100000 in
theorem snd_X8_better : hd_Snd vwCl hs_sh yX8_better wsX8_better 7 wm_X8_better := hd_method (by decide) rfl rfl (by decide) (fun κ C Rk => (hd_seq (p1 := 20) (hd_if (p1 := 17) (p2 := 20) (hd_or (p1 := 7) (p2 := 17) (p3 := 20) (hd_not (hd_z_neF C (p2 := 4) (tgt := 17) (hd_inI (hd_invS C (p2 := 1) snd_X8_isKind hw_X8_isKind gX8_better_X8_isKind yX8_better_X8_isKind ⟨by decide, by decide⟩ (by decide) (hd_apI (p1 := 0) (p2 := 1) hd_av0 (hd_iload_n C (kk0 := 1) dX8_better_0)) dX8_better_1)) dX8_better_4 (by decide))) (hd_not (hd_z_neT C (p2 := 14) (tgt := 20) (hd_inI (hd_invS C (p2 := 11) snd_X8_within hw_X8_within gX8_better_X8_within yX8_better_X8_within ⟨by decide, by decide⟩ (by decide) (hd_apI (p1 := 9) (p2 := 11) (hd_apI (p1 := 8) (p2 := 9) (hd_apI (p1 := 7) (p2 := 8) hd_av0 (hd_iload_n C (kk0 := 2) dX8_better_7)) (hd_iconst C dX8_better_8 (by decide))) (hd_bipush C dX8_better_9 (by decide))) dX8_better_11)) dX8_better_14 (by decide)))) (hd_retI C Rk (p1 := 19) (hd_bipush C dX8_better_17 (by decide)) dX8_better_19) (by decide)) (hd_seq (p1 := 29) (hd_scall (hd_invV C (p1 := 24) (p2 := 26) snd_X1_seekBest hw_X1_seekBest gX8_better_X1_seekBest hs_c_1 yX8_better_X1_seekBest ⟨by decide, by decide⟩ (by decide) (hd_inR (hd_invV C (p1 := 21) (p2 := 21) snd_X8_freshCosts hw_X8_freshCosts gX8_better_X8_freshCosts hs_c_8 yX8_better_X8_freshCosts ⟨by decide, by decide⟩ (by decide) (hd_aload_n C (kk0 := 0) dX8_better_20) hd_av0 dX8_better_21)) (hd_apI (p1 := 25) (p2 := 26) (hd_apI (p1 := 24) (p2 := 25) hd_av0 (hd_iload_n C (kk0 := 1) dX8_better_24)) (hd_iconst C dX8_better_25 (by decide))) dX8_better_26)) (hd_seq (p1 := 72) (hd_seq (p1 := 31) (hd_sistore_n C (kk0 := 3) (p1 := 30) (hd_iconst C dX8_better_29 (by decide)) dX8_better_30 (by decide)) (hd_loop C (p1 := 36) (p2 := 72) (hd_c_ltF C (p1 := 32) (p2 := 33) (tgt := 72) (hd_iload_n C (kk0 := 3) dX8_better_31) (hd_iload_n C (kk0 := 2) dX8_better_32) dX8_better_33 (by decide)) (hd_seq (p1 := 66) (hd_seq (p1 := 49) (hd_sistore C (p1 := 47) (hd_inI (hd_invV C (p1 := 40) (p2 := 44) snd_X1_cheapestBeside hw_X1_cheapestBeside gX8_better_X1_cheapestBeside hs_c_1 yX8_better_X1_cheapestBeside ⟨by decide, by decide⟩ (by decide) (hd_getR C (p1 := 37) fX8_better_46 (hd_aload_n C (kk0 := 0) dX8_better_36) dX8_better_37) (hd_apI (p1 := 40) (p2 := 44) hd_av0 (hd_getI C (p1 := 41) fX8_better_167 (hd_aload_n C (kk0 := 0) dX8_better_40) dX8_better_41)) dX8_better_44)) dX8_better_47 (by decide)) (hd_seq (p1 := 60) (hd_if (p1 := 58) (p2 := 60) (hd_c_eqF C (p1 := 51) (p2 := 55) (tgt := 60) (hd_iload C dX8_better_49) (hd_getI C (p1 := 52) fX8_better_167 (hd_aload_n C (kk0 := 0) dX8_better_51) dX8_better_52) dX8_better_55 (by decide)) (hd_retI C Rk (p1 := 59) (hd_iload_n C (kk0 := 3) dX8_better_58) dX8_better_59) (by decide)) (hd_sputI C (p1 := 61) (p2 := 63) qX8_better_167 (hd_aload_n C (kk0 := 0) dX8_better_60) (hd_iload C dX8_better_61) dX8_better_63))) (hd_sgoto C (p1 := 69) (tgt := 31) (hd_ends (es := [69]) (by decide) (hd_siinc C dX8_better_66 (by decide) (by decide))) dX8_better_69 (by decide) (by decide))) (by decide))) (hd_retI C Rk (p1 := 73) (hd_iload_n C (kk0 := 2) dX8_better_72) dX8_better_73)))))
/-! X8_least -/
theorem hw_X8_least : wsX8_least = Cond.code yX8_least cX8_least 3 (some .int) :: wsX8_least.tail := rfl
set_option maxRecDepth 100000 in
theorem yX8_least_X8_isQuestion : yX8_isQuestion.cls ≠ "java/lang/invoke/MethodHandle" ∧ yX8_isQuestion.cls ≠ "java/lang/invoke/VarHandle" ∧ (parseMethodDescriptor yX8_isQuestion.desc).map (fun d => d.parameters.length) = some 2 := by decide +kernel
set_option maxRecDepth 100000 in
theorem yX8_least_X8_freshCosts : yX8_freshCosts.cls = RX8 ∧ yX8_freshCosts.cls ≠ "java/lang/invoke/MethodHandle" ∧ yX8_freshCosts.cls ≠ "java/lang/invoke/VarHandle" ∧ (parseMethodDescriptor yX8_freshCosts.desc).map (fun d => d.parameters.length) = some 0 := by decide +kernel
set_option maxRecDepth 100000 in
theorem yX8_least_X1_seekBest : yX1_seekBest.cls = RX1 ∧ yX1_seekBest.cls ≠ "java/lang/invoke/MethodHandle" ∧ yX1_seekBest.cls ≠ "java/lang/invoke/VarHandle" ∧ (parseMethodDescriptor yX1_seekBest.desc).map (fun d => d.parameters.length) = some 2 := by decide +kernel
set_option maxRecDepth 100000 in
theorem uX8_least_X8 : ∀ w ∈ u_ws RX8 TX8 9, w ∈ wsX8_least := by decide +kernel
set_option maxRecDepth 100000 in
theorem lX8_least_46 : Cond.fieldLink RX8 46 (TX8 4).1 (TX8 4).2.1 (TX8 4).2.2.1 ∈ wsX8_least := by decide +kernel
set_option maxRecDepth 100000 in
theorem fX8_least_46 : hd_F wsX8_least RX8 vwCl 8 4 46 := ⟨RX8, TX8, 9, rfl, by decide, uX8_least_X8, lX8_least_46⟩
set_option maxRecDepth 100000 in
theorem uX8_least_X1 : ∀ w ∈ u_ws RX1 TX1 5, w ∈ wsX8_least := by decide +kernel
set_option maxRecDepth 100000 in
theorem lX8_least_207 : Cond.fieldLink RX8 207 (TX1 4).1 (TX1 4).2.1 (TX1 4).2.2.1 ∈ wsX8_least := by decide +kernel
set_option maxRecDepth 100000 in
theorem fX8_least_207 : hd_F wsX8_least RX8 vwCl 1 4 207 := ⟨RX1, TX1, 5, rfl, by decide, uX8_least_X1, lX8_least_207⟩
def wo_X8_least : hd_xS := (hd_sQ (hd_sW (hd_cX (hd_c0 (fun x => !decide (x = 0)) (hd_iN (hd_nS 2 (hd_pI (hd_pI hd_v0 (hd_iL 1)) (hd_iL 2)) wm_X8_isQuestion)))) (hd_sRI (hd_iK (-3)))) (hd_sQ (hd_sN (hd_nV hs_sh 1 (hd_rN (hd_nV hs_sh 8 (hd_rL 0) 0 hd_v0 wm_X8_freshCosts)) 2 (hd_pI (hd_pI hd_v0 (hd_iL 1)) (hd_iL 2)) wm_X1_seekBest)) (hd_sRI (hd_iG hs_sh 1 4 (hd_rG hs_sh 8 4 (hd_rL 0))))))
def wm_X8_least : hd_M := hd_mth 3 wo_X8_least
set_option maxHeartbeats 4000000 in
set_option maxRecDepth 100000 in
theorem snd_X8_least : hd_Snd vwCl hs_sh yX8_least wsX8_least 7 wm_X8_least := hd_method (by decide) rfl rfl (by decide) (fun κ C Rk => (hd_seq (p1 := 11) (hd_if (p1 := 8) (p2 := 11) (hd_not (hd_z_neT C (p2 := 5) (tgt := 11) (hd_inI (hd_invS C (p2 := 2) snd_X8_isQuestion hw_X8_isQuestion gX8_least_X8_isQuestion yX8_least_X8_isQuestion ⟨by decide, by decide⟩ (by decide) (hd_apI (p1 := 1) (p2 := 2) (hd_apI (p1 := 0) (p2 := 1) hd_av0 (hd_iload_n C (kk0 := 1) dX8_least_0)) (hd_iload_n C (kk0 := 2) dX8_least_1)) dX8_least_2)) dX8_least_5 (by decide))) (hd_retI C Rk (p1 := 10) (hd_bipush C dX8_least_8 (by decide)) dX8_least_10) (by decide)) (hd_seq (p1 := 20) (hd_scall (hd_invV C (p1 := 15) (p2 := 17) snd_X1_seekBest hw_X1_seekBest gX8_least_X1_seekBest hs_c_1 yX8_least_X1_seekBest ⟨by decide, by decide⟩ (by decide) (hd_inR (hd_invV C (p1 := 12) (p2 := 12) snd_X8_freshCosts hw_X8_freshCosts gX8_least_X8_freshCosts hs_c_8 yX8_least_X8_freshCosts ⟨by decide, by decide⟩ (by decide) (hd_aload_n C (kk0 := 0) dX8_least_11) hd_av0 dX8_least_12)) (hd_apI (p1 := 16) (p2 := 17) (hd_apI (p1 := 15) (p2 := 16) hd_av0 (hd_iload_n C (kk0 := 1) dX8_least_15)) (hd_iload_n C (kk0 := 2) dX8_least_16)) dX8_least_17)) (hd_retI C Rk (p1 := 27) (hd_getI C (p1 := 24) fX8_least_207 (hd_getR C (p1 := 21) fX8_least_46 (hd_aload_n C (kk0 := 0) dX8_least_20) dX8_least_21) dX8_least_24) dX8_least_27))))
/-! X8_many -/
theorem hw_X8_many : wsX8_many = Cond.code yX8_many cX8_many 3 (some .int) :: wsX8_many.tail := rfl
set_option maxRecDepth 100000 in
theorem yX8_many_X8_isQuestion : yX8_isQuestion.cls ≠ "java/lang/invoke/MethodHandle" ∧ yX8_isQuestion.cls ≠ "java/lang/invoke/VarHandle" ∧ (parseMethodDescriptor yX8_isQuestion.desc).map (fun d => d.parameters.length) = some 2 := by decide +kernel
set_option maxRecDepth 100000 in
theorem yX8_many_X8_freshCosts : yX8_freshCosts.cls = RX8 ∧ yX8_freshCosts.cls ≠ "java/lang/invoke/MethodHandle" ∧ yX8_freshCosts.cls ≠ "java/lang/invoke/VarHandle" ∧ (parseMethodDescriptor yX8_freshCosts.desc).map (fun d => d.parameters.length) = some 0 := by decide +kernel
set_option maxRecDepth 100000 in
theorem yX8_many_X1_seekBest : yX1_seekBest.cls = RX1 ∧ yX1_seekBest.cls ≠ "java/lang/invoke/MethodHandle" ∧ yX1_seekBest.cls ≠ "java/lang/invoke/VarHandle" ∧ (parseMethodDescriptor yX1_seekBest.desc).map (fun d => d.parameters.length) = some 2 := by decide +kernel
set_option maxRecDepth 100000 in
theorem uX8_many_X8 : ∀ w ∈ u_ws RX8 TX8 9, w ∈ wsX8_many := by decide +kernel
set_option maxRecDepth 100000 in
theorem lX8_many_46 : Cond.fieldLink RX8 46 (TX8 4).1 (TX8 4).2.1 (TX8 4).2.2.1 ∈ wsX8_many := by decide +kernel
set_option maxRecDepth 100000 in
theorem fX8_many_46 : hd_F wsX8_many RX8 vwCl 8 4 46 := ⟨RX8, TX8, 9, rfl, by decide, uX8_many_X8, lX8_many_46⟩
set_option maxRecDepth 100000 in
theorem lX8_many_12 : Cond.fieldLink RX8 12 (TX8 0).1 (TX8 0).2.1 (TX8 0).2.2.1 ∈ wsX8_many := by decide +kernel
set_option maxRecDepth 100000 in
theorem fX8_many_12 : hd_F wsX8_many RX8 vwCl 8 0 12 := ⟨RX8, TX8, 9, rfl, by decide, uX8_many_X8, lX8_many_12⟩
set_option maxRecDepth 100000 in
theorem yX8_many_X5_everyHall : yX5_everyHall.cls = RX5 ∧ yX5_everyHall.cls ≠ "java/lang/invoke/MethodHandle" ∧ yX5_everyHall.cls ≠ "java/lang/invoke/VarHandle" ∧ (parseMethodDescriptor yX5_everyHall.desc).map (fun d => d.parameters.length) = some 0 := by decide +kernel
set_option maxRecDepth 100000 in
theorem yX8_many_X1_bestUpTo : yX1_bestUpTo.cls = RX1 ∧ yX1_bestUpTo.cls ≠ "java/lang/invoke/MethodHandle" ∧ yX1_bestUpTo.cls ≠ "java/lang/invoke/VarHandle" ∧ (parseMethodDescriptor yX1_bestUpTo.desc).map (fun d => d.parameters.length) = some 1 := by decide +kernel
def wo_X8_many : hd_xS := (hd_sQ (hd_sW (hd_cX (hd_c0 (fun x => !decide (x = 0)) (hd_iN (hd_nS 2 (hd_pI (hd_pI hd_v0 (hd_iL 1)) (hd_iL 2)) wm_X8_isQuestion)))) (hd_sRI (hd_iK (-3)))) (hd_sQ (hd_sN (hd_nV hs_sh 1 (hd_rN (hd_nV hs_sh 8 (hd_rL 0) 0 hd_v0 wm_X8_freshCosts)) 2 (hd_pI (hd_pI hd_v0 (hd_iL 1)) (hd_iL 2)) wm_X1_seekBest)) (hd_sRI (hd_iN (hd_nV hs_sh 1 (hd_rG hs_sh 8 4 (hd_rL 0)) 1 (hd_pI hd_v0 (hd_iN (hd_nV hs_sh 5 (hd_rG hs_sh 8 0 (hd_rL 0)) 0 hd_v0 wm_X5_everyHall))) wm_X1_bestUpTo)))))
def wm_X8_many : hd_M := hd_mth 3 wo_X8_many
set_option maxHeartbeats 4000000 in
set_option maxRecDepth 100000 in
theorem snd_X8_many : hd_Snd vwCl hs_sh yX8_many wsX8_many 7 wm_X8_many := hd_method (by decide) rfl rfl (by decide) (fun κ C Rk => (hd_seq (p1 := 11) (hd_if (p1 := 8) (p2 := 11) (hd_not (hd_z_neT C (p2 := 5) (tgt := 11) (hd_inI (hd_invS C (p2 := 2) snd_X8_isQuestion hw_X8_isQuestion gX8_many_X8_isQuestion yX8_many_X8_isQuestion ⟨by decide, by decide⟩ (by decide) (hd_apI (p1 := 1) (p2 := 2) (hd_apI (p1 := 0) (p2 := 1) hd_av0 (hd_iload_n C (kk0 := 1) dX8_many_0)) (hd_iload_n C (kk0 := 2) dX8_many_1)) dX8_many_2)) dX8_many_5 (by decide))) (hd_retI C Rk (p1 := 10) (hd_bipush C dX8_many_8 (by decide)) dX8_many_10) (by decide)) (hd_seq (p1 := 20) (hd_scall (hd_invV C (p1 := 15) (p2 := 17) snd_X1_seekBest hw_X1_seekBest gX8_many_X1_seekBest hs_c_1 yX8_many_X1_seekBest ⟨by decide, by decide⟩ (by decide) (hd_inR (hd_invV C (p1 := 12) (p2 := 12) snd_X8_freshCosts hw_X8_freshCosts gX8_many_X8_freshCosts hs_c_8 yX8_many_X8_freshCosts ⟨by decide, by decide⟩ (by decide) (hd_aload_n C (kk0 := 0) dX8_many_11) hd_av0 dX8_many_12)) (hd_apI (p1 := 16) (p2 := 17) (hd_apI (p1 := 15) (p2 := 16) hd_av0 (hd_iload_n C (kk0 := 1) dX8_many_15)) (hd_iload_n C (kk0 := 2) dX8_many_16)) dX8_many_17)) (hd_retI C Rk (p1 := 34) (hd_inI (hd_invV C (p1 := 24) (p2 := 31) snd_X1_bestUpTo hw_X1_bestUpTo gX8_many_X1_bestUpTo hs_c_1 yX8_many_X1_bestUpTo ⟨by decide, by decide⟩ (by decide) (hd_getR C (p1 := 21) fX8_many_46 (hd_aload_n C (kk0 := 0) dX8_many_20) dX8_many_21) (hd_apI (p1 := 24) (p2 := 31) hd_av0 (hd_inI (hd_invV C (p1 := 28) (p2 := 28) snd_X5_everyHall hw_X5_everyHall gX8_many_X5_everyHall hs_c_5 yX8_many_X5_everyHall ⟨by decide, by decide⟩ (by decide) (hd_getR C (p1 := 25) fX8_many_12 (hd_aload_n C (kk0 := 0) dX8_many_24) dX8_many_25) hd_av0 dX8_many_28))) dX8_many_31)) dX8_many_34))))
/-! X8_number -/
theorem hw_X8_number : wsX8_number = Cond.code yX8_number cX8_number 3 (some .int) :: wsX8_number.tail := rfl
set_option maxRecDepth 100000 in
theorem yX8_number_X8_isQuestion : yX8_isQuestion.cls ≠ "java/lang/invoke/MethodHandle" ∧ yX8_isQuestion.cls ≠ "java/lang/invoke/VarHandle" ∧ (parseMethodDescriptor yX8_isQuestion.desc).map (fun d => d.parameters.length) = some 2 := by decide +kernel
set_option maxRecDepth 100000 in
theorem yX8_number_X8_freshCosts : yX8_freshCosts.cls = RX8 ∧ yX8_freshCosts.cls ≠ "java/lang/invoke/MethodHandle" ∧ yX8_freshCosts.cls ≠ "java/lang/invoke/VarHandle" ∧ (parseMethodDescriptor yX8_freshCosts.desc).map (fun d => d.parameters.length) = some 0 := by decide +kernel
set_option maxRecDepth 100000 in
theorem yX8_number_X1_seekBest : yX1_seekBest.cls = RX1 ∧ yX1_seekBest.cls ≠ "java/lang/invoke/MethodHandle" ∧ yX1_seekBest.cls ≠ "java/lang/invoke/VarHandle" ∧ (parseMethodDescriptor yX1_seekBest.desc).map (fun d => d.parameters.length) = some 2 := by decide +kernel
set_option maxRecDepth 100000 in
theorem uX8_number_X8 : ∀ w ∈ u_ws RX8 TX8 9, w ∈ wsX8_number := by decide +kernel
set_option maxRecDepth 100000 in
theorem lX8_number_46 : Cond.fieldLink RX8 46 (TX8 4).1 (TX8 4).2.1 (TX8 4).2.2.1 ∈ wsX8_number := by decide +kernel
set_option maxRecDepth 100000 in
theorem fX8_number_46 : hd_F wsX8_number RX8 vwCl 8 4 46 := ⟨RX8, TX8, 9, rfl, by decide, uX8_number_X8, lX8_number_46⟩
set_option maxRecDepth 100000 in
theorem lX8_number_167 : Cond.fieldLink RX8 167 (TX8 8).1 (TX8 8).2.1 (TX8 8).2.2.1 ∈ wsX8_number := by decide +kernel
set_option maxRecDepth 100000 in
theorem fX8_number_167 : hd_F wsX8_number RX8 vwCl 8 8 167 := ⟨RX8, TX8, 9, rfl, by decide, uX8_number_X8, lX8_number_167⟩
set_option maxRecDepth 100000 in
theorem yX8_number_X1_isBest : yX1_isBest.cls = RX1 ∧ yX1_isBest.cls ≠ "java/lang/invoke/MethodHandle" ∧ yX1_isBest.cls ≠ "java/lang/invoke/VarHandle" ∧ (parseMethodDescriptor yX1_isBest.desc).map (fun d => d.parameters.length) = some 1 := by decide +kernel
set_option maxRecDepth 100000 in
theorem yX8_number_X1_bestUpTo : yX1_bestUpTo.cls = RX1 ∧ yX1_bestUpTo.cls ≠ "java/lang/invoke/MethodHandle" ∧ yX1_bestUpTo.cls ≠ "java/lang/invoke/VarHandle" ∧ (parseMethodDescriptor yX1_bestUpTo.desc).map (fun d => d.parameters.length) = some 1 := by decide +kernel
def wo_X8_number : hd_xS := (hd_sQ (hd_sW (hd_cX (hd_c0 (fun x => !decide (x = 0)) (hd_iN (hd_nS 2 (hd_pI (hd_pI hd_v0 (hd_iL 1)) (hd_iL 2)) wm_X8_isQuestion)))) (hd_sRI (hd_iK (-3)))) (hd_sQ (hd_sN (hd_nV hs_sh 1 (hd_rN (hd_nV hs_sh 8 (hd_rL 0) 0 hd_v0 wm_X8_freshCosts)) 2 (hd_pI (hd_pI hd_v0 (hd_iL 1)) (hd_iL 2)) wm_X1_seekBest)) (hd_sRI (hd_iQ (hd_c0 (fun x => !decide (x = 0)) (hd_iN (hd_nV hs_sh 1 (hd_rG hs_sh 8 4 (hd_rL 0)) 1 (hd_pI hd_v0 (hd_iG hs_sh 8 8 (hd_rL 0))) wm_X1_isBest))) (hd_iB (fun x y => x - y) (hd_iN (hd_nV hs_sh 1 (hd_rG hs_sh 8 4 (hd_rL 0)) 1 (hd_pI hd_v0 (hd_iG hs_sh 8 8 (hd_rL 0))) wm_X1_bestUpTo)) (hd_iK (1))) (hd_iK (-1))))))
def wm_X8_number : hd_M := hd_mth 3 wo_X8_number
set_option maxHeartbeats 4000000 in
set_option maxRecDepth 100000 in
theorem snd_X8_number : hd_Snd vwCl hs_sh yX8_number wsX8_number 7 wm_X8_number := hd_method (by decide) rfl rfl (by decide) (fun κ C Rk => (hd_seq (p1 := 11) (hd_if (p1 := 8) (p2 := 11) (hd_not (hd_z_neT C (p2 := 5) (tgt := 11) (hd_inI (hd_invS C (p2 := 2) snd_X8_isQuestion hw_X8_isQuestion gX8_number_X8_isQuestion yX8_number_X8_isQuestion ⟨by decide, by decide⟩ (by decide) (hd_apI (p1 := 1) (p2 := 2) (hd_apI (p1 := 0) (p2 := 1) hd_av0 (hd_iload_n C (kk0 := 1) dX8_number_0)) (hd_iload_n C (kk0 := 2) dX8_number_1)) dX8_number_2)) dX8_number_5 (by decide))) (hd_retI C Rk (p1 := 10) (hd_bipush C dX8_number_8 (by decide)) dX8_number_10) (by decide)) (hd_seq (p1 := 20) (hd_scall (hd_invV C (p1 := 15) (p2 := 17) snd_X1_seekBest hw_X1_seekBest gX8_number_X1_seekBest hs_c_1 yX8_number_X1_seekBest ⟨by decide, by decide⟩ (by decide) (hd_inR (hd_invV C (p1 := 12) (p2 := 12) snd_X8_freshCosts hw_X8_freshCosts gX8_number_X8_freshCosts hs_c_8 yX8_number_X8_freshCosts ⟨by decide, by decide⟩ (by decide) (hd_aload_n C (kk0 := 0) dX8_number_11) hd_av0 dX8_number_12)) (hd_apI (p1 := 16) (p2 := 17) (hd_apI (p1 := 15) (p2 := 16) hd_av0 (hd_iload_n C (kk0 := 1) dX8_number_15)) (hd_iload_n C (kk0 := 2) dX8_number_16)) dX8_number_17)) (hd_retI C Rk (p1 := 51) (hd_tnI C (p1 := 34) (p2 := 47) (p3 := 50) (p4 := 51) (hd_z_neF C (p2 := 31) (tgt := 50) (hd_inI (hd_invV C (p1 := 24) (p2 := 28) snd_X1_isBest hw_X1_isBest gX8_number_X1_isBest hs_c_1 yX8_number_X1_isBest ⟨by decide, by decide⟩ (by decide) (hd_getR C (p1 := 21) fX8_number_46 (hd_aload_n C (kk0 := 0) dX8_number_20) dX8_number_21) (hd_apI (p1 := 24) (p2 := 28) hd_av0 (hd_getI C (p1 := 25) fX8_number_167 (hd_aload_n C (kk0 := 0) dX8_number_24) dX8_number_25)) dX8_number_28)) dX8_number_31 (by decide)) (hd_isub C (p1 := 45) (p2 := 46) (hd_inI (hd_invV C (p1 := 38) (p2 := 42) snd_X1_bestUpTo hw_X1_bestUpTo gX8_number_X1_bestUpTo hs_c_1 yX8_number_X1_bestUpTo ⟨by decide, by decide⟩ (by decide) (hd_getR C (p1 := 35) fX8_number_46 (hd_aload_n C (kk0 := 0) dX8_number_34) dX8_number_35) (hd_apI (p1 := 38) (p2 := 42) hd_av0 (hd_getI C (p1 := 39) fX8_number_167 (hd_aload_n C (kk0 := 0) dX8_number_38) dX8_number_39)) dX8_number_42)) (hd_iconst C dX8_number_45 (by decide)) dX8_number_46) dX8_number_47 (by decide) (hd_iconst C dX8_number_50 (by decide))) dX8_number_51))))
/-! X8_raise -/
theorem hw_X8_raise : wsX8_raise = Cond.code yX8_raise cX8_raise 1 (some .int) :: wsX8_raise.tail := rfl
set_option maxRecDepth 100000 in
theorem uX8_raise_X8 : ∀ w ∈ u_ws RX8 TX8 9, w ∈ wsX8_raise := by decide +kernel
set_option maxRecDepth 100000 in
theorem lX8_raise_12 : Cond.fieldLink RX8 12 (TX8 0).1 (TX8 0).2.1 (TX8 0).2.2.1 ∈ wsX8_raise := by decide +kernel
set_option maxRecDepth 100000 in
theorem fX8_raise_12 : hd_F wsX8_raise RX8 vwCl 8 0 12 := ⟨RX8, TX8, 9, rfl, by decide, uX8_raise_X8, lX8_raise_12⟩
set_option maxRecDepth 100000 in
theorem uX8_raise_X5 : ∀ w ∈ u_ws RX5 TX5 10, w ∈ wsX8_raise := by decide +kernel
set_option maxRecDepth 100000 in
theorem lX8_raise_82 : Cond.fieldLink RX8 82 (TX5 1).1 (TX5 1).2.1 (TX5 1).2.2.1 ∈ wsX8_raise := by decide +kernel
set_option maxRecDepth 100000 in
theorem fX8_raise_82 : hd_F wsX8_raise RX8 vwCl 5 1 82 := ⟨RX5, TX5, 10, rfl, by decide, uX8_raise_X5, lX8_raise_82⟩
set_option maxRecDepth 100000 in
theorem lX8_raise_53 : Cond.fieldLink RX8 53 (TX8 5).1 (TX8 5).2.1 (TX8 5).2.2.1 ∈ wsX8_raise := by decide +kernel
set_option maxRecDepth 100000 in
theorem fX8_raise_53 : hd_F wsX8_raise RX8 vwCl 8 5 53 := ⟨RX8, TX8, 9, rfl, by decide, uX8_raise_X8, lX8_raise_53⟩
set_option maxRecDepth 100000 in
theorem yX8_raise_X0_raiseAll : yX0_raiseAll.cls = RX0 ∧ yX0_raiseAll.cls ≠ "java/lang/invoke/MethodHandle" ∧ yX0_raiseAll.cls ≠ "java/lang/invoke/VarHandle" ∧ (parseMethodDescriptor yX0_raiseAll.desc).map (fun d => d.parameters.length) = some 0 := by decide +kernel
set_option maxRecDepth 100000 in
theorem yX8_raise_X5_everyTown : yX5_everyTown.cls = RX5 ∧ yX5_everyTown.cls ≠ "java/lang/invoke/MethodHandle" ∧ yX5_everyTown.cls ≠ "java/lang/invoke/VarHandle" ∧ (parseMethodDescriptor yX5_everyTown.desc).map (fun d => d.parameters.length) = some 0 := by decide +kernel
set_option maxRecDepth 100000 in
theorem yX8_raise_X0_together : yX0_together.cls = RX0 ∧ yX0_together.cls ≠ "java/lang/invoke/MethodHandle" ∧ yX0_together.cls ≠ "java/lang/invoke/VarHandle" ∧ (parseMethodDescriptor yX0_together.desc).map (fun d => d.parameters.length) = some 1 := by decide +kernel
def wo_X8_raise : hd_xS := (hd_sQ (hd_sW (hd_c0 (fun x => decide (x = 0)) (hd_iG hs_sh 5 1 (hd_rG hs_sh 8 0 (hd_rL 0)))) (hd_sRI (hd_iK (-4)))) (hd_sQ (hd_sN (hd_nV hs_sh 0 (hd_rG hs_sh 8 5 (hd_rL 0)) 0 hd_v0 wm_X0_raiseAll)) (hd_sRI (hd_iN (hd_nV hs_sh 0 (hd_rG hs_sh 8 5 (hd_rL 0)) 1 (hd_pI hd_v0 (hd_iN (hd_nV hs_sh 5 (hd_rG hs_sh 8 0 (hd_rL 0)) 0 hd_v0 wm_X5_everyTown))) wm_X0_together)))))
def wm_X8_raise : hd_M := hd_mth 1 wo_X8_raise
set_option maxHeartbeats 4000000 in
set_option maxRecDepth 100000 in
theorem snd_X8_raise : hd_Snd vwCl hs_sh yX8_raise wsX8_raise 7 wm_X8_raise := hd_method (by decide) rfl rfl (by decide) (fun κ C Rk => (hd_seq (p1 := 13) (hd_if (p1 := 10) (p2 := 13) (hd_z_eqF C (p2 := 7) (tgt := 13) (hd_getI C (p1 := 4) fX8_raise_82 (hd_getR C (p1 := 1) fX8_raise_12 (hd_aload_n C (kk0 := 0) dX8_raise_0) dX8_raise_1) dX8_raise_4) dX8_raise_7 (by decide)) (hd_retI C Rk (p1 := 12) (hd_bipush C dX8_raise_10 (by decide)) dX8_raise_12) (by decide)) (hd_seq (p1 := 20) (hd_scall (hd_invV C (p1 := 17) (p2 := 17) snd_X0_raiseAll hw_X0_raiseAll gX8_raise_X0_raiseAll hs_c_0 yX8_raise_X0_raiseAll ⟨by decide, by decide⟩ (by decide) (hd_getR C (p1 := 14) fX8_raise_53 (hd_aload_n C (kk0 := 0) dX8_raise_13) dX8_raise_14) hd_av0 dX8_raise_17)) (hd_retI C Rk (p1 := 34) (hd_inI (hd_invV C (p1 := 24) (p2 := 31) snd_X0_together hw_X0_together gX8_raise_X0_together hs_c_0 yX8_raise_X0_together ⟨by decide, by decide⟩ (by decide) (hd_getR C (p1 := 21) fX8_raise_53 (hd_aload_n C (kk0 := 0) dX8_raise_20) dX8_raise_21) (hd_apI (p1 := 24) (p2 := 31) hd_av0 (hd_inI (hd_invV C (p1 := 28) (p2 := 28) snd_X5_everyTown hw_X5_everyTown gX8_raise_X5_everyTown hs_c_5 yX8_raise_X5_everyTown ⟨by decide, by decide⟩ (by decide) (hd_getR C (p1 := 25) fX8_raise_12 (hd_aload_n C (kk0 := 0) dX8_raise_24) dX8_raise_25) hd_av0 dX8_raise_28))) dX8_raise_31)) dX8_raise_34))))
/-! X9_best -/
theorem hw_X9_best : wsX9_best = Cond.code yX9_best cX9_best 4 (some .int) :: wsX9_best.tail := rfl
set_option maxRecDepth 100000 in
theorem uX9_best_X9 : ∀ w ∈ u_ws RX9 TX9 28, w ∈ wsX9_best := by decide +kernel
set_option maxRecDepth 100000 in
theorem lX9_best_58 : Cond.fieldLink RX9 58 (TX9 0).1 (TX9 0).2.1 (TX9 0).2.2.1 ∈ wsX9_best := by decide +kernel
set_option maxRecDepth 100000 in
theorem qX9_best_58 : hd_FP wsX9_best RX9 vwCl 9 0 58 .int := ⟨RX9, TX9, 28, tyX9, rfl, by decide, uX9_best_X9, lX9_best_58, tyX9_ok, nmX9, rfl, rfl⟩
set_option maxRecDepth 100000 in
theorem yX9_best_X9_isAsked : yX9_isAsked.cls ≠ "java/lang/invoke/MethodHandle" ∧ yX9_isAsked.cls ≠ "java/lang/invoke/VarHandle" ∧ (parseMethodDescriptor yX9_isAsked.desc).map (fun d => d.parameters.length) = some 2 := by decide +kernel
set_option maxRecDepth 100000 in
theorem yX9_best_X9_search : yX9_search.cls = RX9 ∧ yX9_search.cls ≠ "java/lang/invoke/MethodHandle" ∧ yX9_search.cls ≠ "java/lang/invoke/VarHandle" ∧ (parseMethodDescriptor yX9_search.desc).map (fun d => d.parameters.length) = some 3 := by decide +kernel
set_option maxRecDepth 100000 in
theorem lX9_best_159 : Cond.fieldLink RX9 159 (TX9 23).1 (TX9 23).2.1 (TX9 23).2.2.1 ∈ wsX9_best := by decide +kernel
set_option maxRecDepth 100000 in
theorem fX9_best_159 : hd_F wsX9_best RX9 vwCl 9 23 159 := ⟨RX9, TX9, 28, rfl, by decide, uX9_best_X9, lX9_best_159⟩
set_option maxRecDepth 100000 in
theorem lX9_best_84 : Cond.fieldLink RX9 84 (TX9 14).1 (TX9 14).2.1 (TX9 14).2.2.1 ∈ wsX9_best := by decide +kernel
set_option maxRecDepth 100000 in
theorem qX9_best_84 : hd_FP wsX9_best RX9 vwCl 9 14 84 .int := ⟨RX9, TX9, 28, tyX9, rfl, by decide, uX9_best_X9, lX9_best_84, tyX9_ok, nmX9, rfl, rfl⟩
def wo_X9_best : hd_xS := (hd_sQ (hd_sF hs_sh 9 0 (hd_rL 0) (hd_iK (0))) (hd_sQ (hd_sW (hd_cO (hd_cX (hd_c0 (fun x => !decide (x = 0)) (hd_iN (hd_nS 2 (hd_pI (hd_pI hd_v0 (hd_iL 1)) (hd_iL 2)) wm_X9_isAsked)))) (hd_c0 (fun x => decide (x < 0)) (hd_iL 3))) (hd_sRI (hd_iK (-3)))) (hd_sQ (hd_sN (hd_nV hs_sh 9 (hd_rL 0) 3 (hd_pI (hd_pI (hd_pI hd_v0 (hd_iL 1)) (hd_iL 2)) (hd_iL 3)) wm_X9_search)) (hd_sQ (hd_sW (hd_cI (fun x y => decide (x = y)) (hd_iG hs_sh 9 23 (hd_rL 0)) (hd_iK (-1))) (hd_sRI (hd_iK (-1)))) (hd_sQ (hd_sF hs_sh 9 14 (hd_rL 0) (hd_iG hs_sh 9 23 (hd_rL 0))) (hd_sRI (hd_iG hs_sh 9 23 (hd_rL 0))))))))
def wm_X9_best : hd_M := hd_mth 4 wo_X9_best
set_option maxHeartbeats 4000000 in
set_option maxRecDepth 100000 in
theorem snd_X9_best : hd_Snd vwCl hs_sh yX9_best wsX9_best 7 wm_X9_best := hd_method (by decide) rfl rfl (by decide) (fun κ C Rk => (hd_seq (p1 := 5) (hd_sputI C (p1 := 1) (p2 := 2) qX9_best_58 (hd_aload_n C (kk0 := 0) dX9_best_0) (hd_iconst C dX9_best_1 (by decide)) dX9_best_2) (hd_seq (p1 := 20) (hd_if (p1 := 17) (p2 := 20) (hd_or (p1 := 13) (p2 := 17) (p3 := 20) (hd_not (hd_z_neF C (p2 := 10) (tgt := 17) (hd_inI (hd_invS C (p2 := 7) snd_X9_isAsked hw_X9_isAsked gX9_best_X9_isAsked yX9_best_X9_isAsked ⟨by decide, by decide⟩ (by decide) (hd_apI (p1 := 6) (p2 := 7) (hd_apI (p1 := 5) (p2 := 6) hd_av0 (hd_iload_n C (kk0 := 1) dX9_best_5)) (hd_iload_n C (kk0 := 2) dX9_best_6)) dX9_best_7)) dX9_best_10 (by decide))) (hd_z_ltF C (p2 := 14) (tgt := 20) (hd_iload_n C (kk0 := 3) dX9_best_13) dX9_best_14 (by decide))) (hd_retI C Rk (p1 := 19) (hd_bipush C dX9_best_17 (by decide)) dX9_best_19) (by decide)) (hd_seq (p1 := 27) (hd_scall (hd_invV C (p1 := 21) (p2 := 24) snd_X9_search hw_X9_search gX9_best_X9_search hs_c_9 yX9_best_X9_search ⟨by decide, by decide⟩ (by decide) (hd_aload_n C (kk0 := 0) dX9_best_20) (hd_apI (p1 := 23) (p2 := 24) (hd_apI (p1 := 22) (p2 := 23) (hd_apI (p1 := 21) (p2 := 22) hd_av0 (hd_iload_n C (kk0 := 1) dX9_best_21)) (hd_iload_n C (kk0 := 2) dX9_best_22)) (hd_iload_n C (kk0 := 3) dX9_best_23)) dX9_best_24)) (hd_seq (p1 := 37) (hd_if (p1 := 35) (p2 := 37) (hd_c_eqF C (p1 := 31) (p2 := 32) (tgt := 37) (hd_getI C (p1 := 28) fX9_best_159 (hd_aload_n C (kk0 := 0) dX9_best_27) dX9_best_28) (hd_iconst C dX9_best_31 (by decide)) dX9_best_32 (by decide)) (hd_retI C Rk (p1 := 36) (hd_iconst C dX9_best_35 (by decide)) dX9_best_36) (by decide)) (hd_seq (p1 := 45) (hd_sputI C (p1 := 38) (p2 := 42) qX9_best_84 (hd_aload_n C (kk0 := 0) dX9_best_37) (hd_getI C (p1 := 39) fX9_best_159 (hd_aload_n C (kk0 := 0) dX9_best_38) dX9_best_39) dX9_best_42) (hd_retI C Rk (p1 := 49) (hd_getI C (p1 := 46) fX9_best_159 (hd_aload_n C (kk0 := 0) dX9_best_45) dX9_best_46) dX9_best_49)))))))
/-! X9_least -/
theorem hw_X9_least : wsX9_least = Cond.code yX9_least cX9_least 3 (some .int) :: wsX9_least.tail := rfl
set_option maxRecDepth 100000 in
theorem uX9_least_X9 : ∀ w ∈ u_ws RX9 TX9 28, w ∈ wsX9_least := by decide +kernel
set_option maxRecDepth 100000 in
theorem lX9_least_58 : Cond.fieldLink RX9 58 (TX9 0).1 (TX9 0).2.1 (TX9 0).2.2.1 ∈ wsX9_least := by decide +kernel
set_option maxRecDepth 100000 in
theorem qX9_least_58 : hd_FP wsX9_least RX9 vwCl 9 0 58 .int := ⟨RX9, TX9, 28, tyX9, rfl, by decide, uX9_least_X9, lX9_least_58, tyX9_ok, nmX9, rfl, rfl⟩
set_option maxRecDepth 100000 in
theorem yX9_least_X9_isAsked : yX9_isAsked.cls ≠ "java/lang/invoke/MethodHandle" ∧ yX9_isAsked.cls ≠ "java/lang/invoke/VarHandle" ∧ (parseMethodDescriptor yX9_isAsked.desc).map (fun d => d.parameters.length) = some 2 := by decide +kernel
set_option maxRecDepth 100000 in
theorem yX9_least_X9_search : yX9_search.cls = RX9 ∧ yX9_search.cls ≠ "java/lang/invoke/MethodHandle" ∧ yX9_search.cls ≠ "java/lang/invoke/VarHandle" ∧ (parseMethodDescriptor yX9_search.desc).map (fun d => d.parameters.length) = some 3 := by decide +kernel
set_option maxRecDepth 100000 in
theorem lX9_least_153 : Cond.fieldLink RX9 153 (TX9 21).1 (TX9 21).2.1 (TX9 21).2.2.1 ∈ wsX9_least := by decide +kernel
set_option maxRecDepth 100000 in
theorem fX9_least_153 : hd_F wsX9_least RX9 vwCl 9 21 153 := ⟨RX9, TX9, 28, rfl, by decide, uX9_least_X9, lX9_least_153⟩
set_option maxRecDepth 100000 in
theorem wX9_least_7 : Cond.constant RX9 121 (2000000000) ∈ wsX9_least := by decide +kernel
def wo_X9_least : hd_xS := (hd_sQ (hd_sF hs_sh 9 0 (hd_rL 0) (hd_iK (0))) (hd_sQ (hd_sW (hd_cX (hd_c0 (fun x => !decide (x = 0)) (hd_iN (hd_nS 2 (hd_pI (hd_pI hd_v0 (hd_iL 1)) (hd_iL 2)) wm_X9_isAsked)))) (hd_sRI (hd_iK (-3)))) (hd_sQ (hd_sN (hd_nV hs_sh 9 (hd_rL 0) 3 (hd_pI (hd_pI (hd_pI hd_v0 (hd_iL 1)) (hd_iL 2)) (hd_iK (-1))) wm_X9_search)) (hd_sRI (hd_iQ (hd_cI (fun x y => decide (x = y)) (hd_iG hs_sh 9 21 (hd_rL 0)) (hd_iK (2000000000))) (hd_iK (-1)) (hd_iG hs_sh 9 21 (hd_rL 0)))))))
def wm_X9_least : hd_M := hd_mth 3 wo_X9_least
set_option maxHeartbeats 4000000 in
set_option maxRecDepth 100000 in
theorem snd_X9_least : hd_Snd vwCl hs_sh yX9_least wsX9_least 7 wm_X9_least := hd_method (by decide) rfl rfl (by decide) (fun κ C Rk => (hd_seq (p1 := 5) (hd_sputI C (p1 := 1) (p2 := 2) qX9_least_58 (hd_aload_n C (kk0 := 0) dX9_least_0) (hd_iconst C dX9_least_1 (by decide)) dX9_least_2) (hd_seq (p1 := 16) (hd_if (p1 := 13) (p2 := 16) (hd_not (hd_z_neT C (p2 := 10) (tgt := 16) (hd_inI (hd_invS C (p2 := 7) snd_X9_isAsked hw_X9_isAsked gX9_least_X9_isAsked yX9_least_X9_isAsked ⟨by decide, by decide⟩ (by decide) (hd_apI (p1 := 6) (p2 := 7) (hd_apI (p1 := 5) (p2 := 6) hd_av0 (hd_iload_n C (kk0 := 1) dX9_least_5)) (hd_iload_n C (kk0 := 2) dX9_least_6)) dX9_least_7)) dX9_least_10 (by decide))) (hd_retI C Rk (p1 := 15) (hd_bipush C dX9_least_13 (by decide)) dX9_least_15) (by decide)) (hd_seq (p1 := 23) (hd_scall (hd_invV C (p1 := 17) (p2 := 20) snd_X9_search hw_X9_search gX9_least_X9_search hs_c_9 yX9_least_X9_search ⟨by decide, by decide⟩ (by decide) (hd_aload_n C (kk0 := 0) dX9_least_16) (hd_apI (p1 := 19) (p2 := 20) (hd_apI (p1 := 18) (p2 := 19) (hd_apI (p1 := 17) (p2 := 18) hd_av0 (hd_iload_n C (kk0 := 1) dX9_least_17)) (hd_iload_n C (kk0 := 2) dX9_least_18)) (hd_iconst C dX9_least_19 (by decide))) dX9_least_20)) (hd_retI C Rk (p1 := 40) (hd_tnI C (p1 := 32) (p2 := 33) (p3 := 36) (p4 := 40) (hd_c_eqF C (p1 := 27) (p2 := 29) (tgt := 36) (hd_getI C (p1 := 24) fX9_least_153 (hd_aload_n C (kk0 := 0) dX9_least_23) dX9_least_24) (hd_ldc C wX9_least_7 dX9_least_27) dX9_least_29 (by decide)) (hd_iconst C dX9_least_32 (by decide)) dX9_least_33 (by decide) (hd_getI C (p1 := 37) fX9_least_153 (hd_aload_n C (kk0 := 0) dX9_least_36) dX9_least_37)) dX9_least_40)))))
/-! X9_many -/
theorem hw_X9_many : wsX9_many = Cond.code yX9_many cX9_many 3 (some .int) :: wsX9_many.tail := rfl
set_option maxRecDepth 100000 in
theorem uX9_many_X9 : ∀ w ∈ u_ws RX9 TX9 28, w ∈ wsX9_many := by decide +kernel
set_option maxRecDepth 100000 in
theorem lX9_many_58 : Cond.fieldLink RX9 58 (TX9 0).1 (TX9 0).2.1 (TX9 0).2.2.1 ∈ wsX9_many := by decide +kernel
set_option maxRecDepth 100000 in
theorem qX9_many_58 : hd_FP wsX9_many RX9 vwCl 9 0 58 .int := ⟨RX9, TX9, 28, tyX9, rfl, by decide, uX9_many_X9, lX9_many_58, tyX9_ok, nmX9, rfl, rfl⟩
set_option maxRecDepth 100000 in
theorem yX9_many_X9_isAsked : yX9_isAsked.cls ≠ "java/lang/invoke/MethodHandle" ∧ yX9_isAsked.cls ≠ "java/lang/invoke/VarHandle" ∧ (parseMethodDescriptor yX9_isAsked.desc).map (fun d => d.parameters.length) = some 2 := by decide +kernel
set_option maxRecDepth 100000 in
theorem yX9_many_X9_search : yX9_search.cls = RX9 ∧ yX9_search.cls ≠ "java/lang/invoke/MethodHandle" ∧ yX9_search.cls ≠ "java/lang/invoke/VarHandle" ∧ (parseMethodDescriptor yX9_search.desc).map (fun d => d.parameters.length) = some 3 := by decide +kernel
set_option maxRecDepth 100000 in
theorem lX9_many_156 : Cond.fieldLink RX9 156 (TX9 22).1 (TX9 22).2.1 (TX9 22).2.2.1 ∈ wsX9_many := by decide +kernel
set_option maxRecDepth 100000 in
theorem fX9_many_156 : hd_F wsX9_many RX9 vwCl 9 22 156 := ⟨RX9, TX9, 28, rfl, by decide, uX9_many_X9, lX9_many_156⟩
def wo_X9_many : hd_xS := (hd_sQ (hd_sF hs_sh 9 0 (hd_rL 0) (hd_iK (0))) (hd_sQ (hd_sW (hd_cX (hd_c0 (fun x => !decide (x = 0)) (hd_iN (hd_nS 2 (hd_pI (hd_pI hd_v0 (hd_iL 1)) (hd_iL 2)) wm_X9_isAsked)))) (hd_sRI (hd_iK (-3)))) (hd_sQ (hd_sN (hd_nV hs_sh 9 (hd_rL 0) 3 (hd_pI (hd_pI (hd_pI hd_v0 (hd_iL 1)) (hd_iL 2)) (hd_iK (-1))) wm_X9_search)) (hd_sRI (hd_iG hs_sh 9 22 (hd_rL 0))))))
def wm_X9_many : hd_M := hd_mth 3 wo_X9_many
set_option maxHeartbeats 4000000 in
set_option maxRecDepth 100000 in
theorem snd_X9_many : hd_Snd vwCl hs_sh yX9_many wsX9_many 7 wm_X9_many := hd_method (by decide) rfl rfl (by decide) (fun κ C Rk => (hd_seq (p1 := 5) (hd_sputI C (p1 := 1) (p2 := 2) qX9_many_58 (hd_aload_n C (kk0 := 0) dX9_many_0) (hd_iconst C dX9_many_1 (by decide)) dX9_many_2) (hd_seq (p1 := 16) (hd_if (p1 := 13) (p2 := 16) (hd_not (hd_z_neT C (p2 := 10) (tgt := 16) (hd_inI (hd_invS C (p2 := 7) snd_X9_isAsked hw_X9_isAsked gX9_many_X9_isAsked yX9_many_X9_isAsked ⟨by decide, by decide⟩ (by decide) (hd_apI (p1 := 6) (p2 := 7) (hd_apI (p1 := 5) (p2 := 6) hd_av0 (hd_iload_n C (kk0 := 1) dX9_many_5)) (hd_iload_n C (kk0 := 2) dX9_many_6)) dX9_many_7)) dX9_many_10 (by decide))) (hd_retI C Rk (p1 := 15) (hd_bipush C dX9_many_13 (by decide)) dX9_many_15) (by decide)) (hd_seq (p1 := 23) (hd_scall (hd_invV C (p1 := 17) (p2 := 20) snd_X9_search hw_X9_search gX9_many_X9_search hs_c_9 yX9_many_X9_search ⟨by decide, by decide⟩ (by decide) (hd_aload_n C (kk0 := 0) dX9_many_16) (hd_apI (p1 := 19) (p2 := 20) (hd_apI (p1 := 18) (p2 := 19) (hd_apI (p1 := 17) (p2 := 18) hd_av0 (hd_iload_n C (kk0 := 1) dX9_many_17)) (hd_iload_n C (kk0 := 2) dX9_many_18)) (hd_iconst C dX9_many_19 (by decide))) dX9_many_20)) (hd_retI C Rk (p1 := 27) (hd_getI C (p1 := 24) fX9_many_156 (hd_aload_n C (kk0 := 0) dX9_many_23) dX9_many_24) dX9_many_27)))))
/-! X9_number -/
theorem hw_X9_number : wsX9_number = Cond.code yX9_number cX9_number 5 (some .int) :: wsX9_number.tail := rfl
set_option maxRecDepth 100000 in
theorem uX9_number_X9 : ∀ w ∈ u_ws RX9 TX9 28, w ∈ wsX9_number := by decide +kernel
set_option maxRecDepth 100000 in
theorem lX9_number_58 : Cond.fieldLink RX9 58 (TX9 0).1 (TX9 0).2.1 (TX9 0).2.2.1 ∈ wsX9_number := by decide +kernel
set_option maxRecDepth 100000 in
theorem qX9_number_58 : hd_FP wsX9_number RX9 vwCl 9 0 58 .int := ⟨RX9, TX9, 28, tyX9, rfl, by decide, uX9_number_X9, lX9_number_58, tyX9_ok, nmX9, rfl, rfl⟩
set_option maxRecDepth 100000 in
theorem yX9_number_X9_isAsked : yX9_isAsked.cls ≠ "java/lang/invoke/MethodHandle" ∧ yX9_isAsked.cls ≠ "java/lang/invoke/VarHandle" ∧ (parseMethodDescriptor yX9_isAsked.desc).map (fun d => d.parameters.length) = some 2 := by decide +kernel
set_option maxRecDepth 100000 in
theorem yX9_number_X9_search : yX9_search.cls = RX9 ∧ yX9_search.cls ≠ "java/lang/invoke/MethodHandle" ∧ yX9_search.cls ≠ "java/lang/invoke/VarHandle" ∧ (parseMethodDescriptor yX9_search.desc).map (fun d => d.parameters.length) = some 3 := by decide +kernel
set_option maxRecDepth 100000 in
theorem lX9_number_84 : Cond.fieldLink RX9 84 (TX9 14).1 (TX9 14).2.1 (TX9 14).2.2.1 ∈ wsX9_number := by decide +kernel
set_option maxRecDepth 100000 in
theorem fX9_number_84 : hd_F wsX9_number RX9 vwCl 9 14 84 := ⟨RX9, TX9, 28, rfl, by decide, uX9_number_X9, lX9_number_84⟩
set_option maxRecDepth 100000 in
theorem yX9_number_X9_sizeOf : yX9_sizeOf.cls ≠ "java/lang/invoke/MethodHandle" ∧ yX9_sizeOf.cls ≠ "java/lang/invoke/VarHandle" ∧ (parseMethodDescriptor yX9_sizeOf.desc).map (fun d => d.parameters.length) = some 1 := by decide +kernel
set_option maxRecDepth 100000 in
theorem lX9_number_153 : Cond.fieldLink RX9 153 (TX9 21).1 (TX9 21).2.1 (TX9 21).2.2.1 ∈ wsX9_number := by decide +kernel
set_option maxRecDepth 100000 in
theorem fX9_number_153 : hd_F wsX9_number RX9 vwCl 9 21 153 := ⟨RX9, TX9, 28, rfl, by decide, uX9_number_X9, lX9_number_153⟩
set_option maxRecDepth 100000 in
theorem wX9_number_10 : Cond.constant RX9 121 (2000000000) ∈ wsX9_number := by decide +kernel
set_option maxRecDepth 100000 in
theorem yX9_number_X9_costOf : yX9_costOf.cls = RX9 ∧ yX9_costOf.cls ≠ "java/lang/invoke/MethodHandle" ∧ yX9_costOf.cls ≠ "java/lang/invoke/VarHandle" ∧ (parseMethodDescriptor yX9_costOf.desc).map (fun d => d.parameters.length) = some 2 := by decide +kernel
def wc_X9_number_71 : hd_xC := (hd_cI (fun x y => decide (x < y)) (hd_iL 4) (hd_iG hs_sh 9 14 (hd_rL 0)))
def wb_X9_number_71 : hd_xS := (hd_sQ (hd_sI 3 (hd_iB (fun x y => x + y) (hd_iL 3) (hd_iQ (hd_cA (hd_cO (hd_cI (fun x y => decide (x = y)) (hd_iL 2) (hd_iK (-1))) (hd_cI (fun x y => decide (x = y)) (hd_iN (hd_nS 1 (hd_pI hd_v0 (hd_iL 4)) wm_X9_sizeOf)) (hd_iL 2))) (hd_cI (fun x y => decide (x = y)) (hd_iN (hd_nV hs_sh 9 (hd_rL 0) 2 (hd_pI (hd_pI hd_v0 (hd_iL 1)) (hd_iL 4)) wm_X9_costOf)) (hd_iG hs_sh 9 21 (hd_rL 0)))) (hd_iK (1)) (hd_iK (0))))) (hd_sP 4 (1)))
def wo_X9_number : hd_xS := (hd_sQ (hd_sF hs_sh 9 0 (hd_rL 0) (hd_iK (0))) (hd_sQ (hd_sW (hd_cX (hd_c0 (fun x => !decide (x = 0)) (hd_iN (hd_nS 2 (hd_pI (hd_pI hd_v0 (hd_iL 1)) (hd_iL 2)) wm_X9_isAsked)))) (hd_sRI (hd_iK (-3)))) (hd_sQ (hd_sN (hd_nV hs_sh 9 (hd_rL 0) 3 (hd_pI (hd_pI (hd_pI hd_v0 (hd_iL 1)) (hd_iL 2)) (hd_iK (-1))) wm_X9_search)) (hd_sQ (hd_sW (hd_cO (hd_cO (hd_cA (hd_cI (fun x y => !decide (x = y)) (hd_iL 2) (hd_iK (-1))) (hd_cI (fun x y => !decide (x = y)) (hd_iN (hd_nS 1 (hd_pI hd_v0 (hd_iG hs_sh 9 14 (hd_rL 0))) wm_X9_sizeOf)) (hd_iL 2))) (hd_cI (fun x y => decide (x = y)) (hd_iG hs_sh 9 21 (hd_rL 0)) (hd_iK (2000000000)))) (hd_cI (fun x y => !decide (x = y)) (hd_iN (hd_nV hs_sh 9 (hd_rL 0) 2 (hd_pI (hd_pI hd_v0 (hd_iL 1)) (hd_iG hs_sh 9 14 (hd_rL 0))) wm_X9_costOf)) (hd_iG hs_sh 9 21 (hd_rL 0)))) (hd_sRI (hd_iK (-1)))) (hd_sQ (hd_sI 3 (hd_iK (0))) (hd_sQ (hd_sQ (hd_sI 4 (hd_iK (0))) (hd_sH (wc_X9_number_71) (wb_X9_number_71))) (hd_sRI (hd_iL 3))))))))
def wm_X9_number : hd_M := hd_mth 5 wo_X9_number
set_option maxHeartbeats 4000000 in
set_option maxRecDepth 100000 in
theorem snd_X9_number : hd_Snd vwCl hs_sh yX9_number wsX9_number 7 wm_X9_number := hd_method (by decide) rfl rfl (by decide) (fun κ C Rk => (hd_seq (p1 := 5) (hd_sputI C (p1 := 1) (p2 := 2) qX9_number_58 (hd_aload_n C (kk0 := 0) dX9_number_0) (hd_iconst C dX9_number_1 (by decide)) dX9_number_2) (hd_seq (p1 := 16) (hd_if (p1 := 13) (p2 := 16) (hd_not (hd_z_neT C (p2 := 10) (tgt := 16) (hd_inI (hd_invS C (p2 := 7) snd_X9_isAsked hw_X9_isAsked gX9_number_X9_isAsked yX9_number_X9_isAsked ⟨by decide, by decide⟩ (by decide) (hd_apI (p1 := 6) (p2 := 7) (hd_apI (p1 := 5) (p2 := 6) hd_av0 (hd_iload_n C (kk0 := 1) dX9_number_5)) (hd_iload_n C (kk0 := 2) dX9_number_6)) dX9_number_7)) dX9_number_10 (by decide))) (hd_retI C Rk (p1 := 15) (hd_bipush C dX9_number_13 (by decide)) dX9_number_15) (by decide)) (hd_seq (p1 := 23) (hd_scall (hd_invV C (p1 := 17) (p2 := 20) snd_X9_search hw_X9_search gX9_number_X9_search hs_c_9 yX9_number_X9_search ⟨by decide, by decide⟩ (by decide) (hd_aload_n C (kk0 := 0) dX9_number_16) (hd_apI (p1 := 19) (p2 := 20) (hd_apI (p1 := 18) (p2 := 19) (hd_apI (p1 := 17) (p2 := 18) hd_av0 (hd_iload_n C (kk0 := 1) dX9_number_17)) (hd_iload_n C (kk0 := 2) dX9_number_18)) (hd_iconst C dX9_number_19 (by decide))) dX9_number_20)) (hd_seq (p1 := 66) (hd_if (p1 := 64) (p2 := 66) (hd_or (p1 := 48) (p2 := 64) (p3 := 66) (hd_or (p1 := 39) (p2 := 64) (p3 := 48) (hd_and (p1 := 28) (p2 := 64) (p3 := 39) (hd_c_neF C (p1 := 24) (p2 := 25) (tgt := 39) (hd_iload_n C (kk0 := 2) dX9_number_23) (hd_iconst C dX9_number_24 (by decide)) dX9_number_25 (by decide)) (hd_c_neT C (p1 := 35) (p2 := 36) (tgt := 64) (hd_inI (hd_invS C (p2 := 32) snd_X9_sizeOf hw_X9_sizeOf gX9_number_X9_sizeOf yX9_number_X9_sizeOf ⟨by decide, by decide⟩ (by decide) (hd_apI (p1 := 28) (p2 := 32) hd_av0 (hd_getI C (p1 := 29) fX9_number_84 (hd_aload_n C (kk0 := 0) dX9_number_28) dX9_number_29)) dX9_number_32)) (hd_iload_n C (kk0 := 2) dX9_number_35) dX9_number_36 (by decide))) (hd_c_eqT C (p1 := 43) (p2 := 45) (tgt := 64) (hd_getI C (p1 := 40) fX9_number_153 (hd_aload_n C (kk0 := 0) dX9_number_39) dX9_number_40) (hd_ldc C wX9_number_10 dX9_number_43) dX9_number_45 (by decide))) (hd_c_neF C (p1 := 57) (p2 := 61) (tgt := 66) (hd_inI (hd_invV C (p1 := 49) (p2 := 54) snd_X9_costOf hw_X9_costOf gX9_number_X9_costOf hs_c_9 yX9_number_X9_costOf ⟨by decide, by decide⟩ (by decide) (hd_aload_n C (kk0 := 0) dX9_number_48) (hd_apI (p1 := 50) (p2 := 54) (hd_apI (p1 := 49) (p2 := 50) hd_av0 (hd_iload_n C (kk0 := 1) dX9_number_49)) (hd_getI C (p1 := 51) fX9_number_84 (hd_aload_n C (kk0 := 0) dX9_number_50) dX9_number_51)) dX9_number_54)) (hd_getI C (p1 := 58) fX9_number_153 (hd_aload_n C (kk0 := 0) dX9_number_57) dX9_number_58) dX9_number_61 (by decide))) (hd_retI C Rk (p1 := 65) (hd_iconst C dX9_number_64 (by decide)) dX9_number_65) (by decide)) (hd_seq (p1 := 68) (hd_sistore_n C (kk0 := 3) (p1 := 67) (hd_iconst C dX9_number_66 (by decide)) dX9_number_67 (by decide)) (hd_seq (p1 := 122) (hd_seq (p1 := 71) (hd_sistore C (p1 := 69) (hd_iconst C dX9_number_68 (by decide)) dX9_number_69 (by decide)) (hd_loop C (p1 := 80) (p2 := 122) (hd_c_ltF C (p1 := 73) (p2 := 77) (tgt := 122) (hd_iload C dX9_number_71) (hd_getI C (p1 := 74) fX9_number_84 (hd_aload_n C (kk0 := 0) dX9_number_73) dX9_number_74) dX9_number_77 (by decide)) (hd_seq (p1 := 116) (hd_sistore_n C (kk0 := 3) (p1 := 115) (hd_iadd C (p1 := 81) (p2 := 114) (hd_iload_n C (kk0 := 3) dX9_number_80) (hd_tnI C (p1 := 109) (p2 := 110) (p3 := 113) (p4 := 114) (hd_and (p1 := 95) (p2 := 109) (p3 := 113) (hd_or (p1 := 86) (p2 := 95) (p3 := 113) (hd_c_eqT C (p1 := 82) (p2 := 83) (tgt := 95) (hd_iload_n C (kk0 := 2) dX9_number_81) (hd_iconst C dX9_number_82 (by decide)) dX9_number_83 (by decide)) (hd_c_eqF C (p1 := 91) (p2 := 92) (tgt := 113) (hd_inI (hd_invS C (p2 := 88) snd_X9_sizeOf hw_X9_sizeOf gX9_number_X9_sizeOf yX9_number_X9_sizeOf ⟨by decide, by decide⟩ (by decide) (hd_apI (p1 := 86) (p2 := 88) hd_av0 (hd_iload C dX9_number_86)) dX9_number_88)) (hd_iload_n C (kk0 := 2) dX9_number_91) dX9_number_92 (by decide))) (hd_c_eqF C (p1 := 102) (p2 := 106) (tgt := 113) (hd_inI (hd_invV C (p1 := 96) (p2 := 99) snd_X9_costOf hw_X9_costOf gX9_number_X9_costOf hs_c_9 yX9_number_X9_costOf ⟨by decide, by decide⟩ (by decide) (hd_aload_n C (kk0 := 0) dX9_number_95) (hd_apI (p1 := 97) (p2 := 99) (hd_apI (p1 := 96) (p2 := 97) hd_av0 (hd_iload_n C (kk0 := 1) dX9_number_96)) (hd_iload C dX9_number_97)) dX9_number_99)) (hd_getI C (p1 := 103) fX9_number_153 (hd_aload_n C (kk0 := 0) dX9_number_102) dX9_number_103) dX9_number_106 (by decide))) (hd_iconst C dX9_number_109 (by decide)) dX9_number_110 (by decide) (hd_iconst C dX9_number_113 (by decide))) dX9_number_114) dX9_number_115 (by decide)) (hd_sgoto C (p1 := 119) (tgt := 71) (hd_ends (es := [119]) (by decide) (hd_siinc C dX9_number_116 (by decide) (by decide))) dX9_number_119 (by decide) (by decide))) (by decide))) (hd_retI C Rk (p1 := 123) (hd_iload_n C (kk0 := 3) dX9_number_122) dX9_number_123))))))))
/-! X9_goes -/
theorem hw_X9_goes : wsX9_goes = Cond.code yX9_goes cX9_goes 5 (some .int) :: wsX9_goes.tail := rfl
set_option maxRecDepth 100000 in
theorem uX9_goes_X9 : ∀ w ∈ u_ws RX9 TX9 28, w ∈ wsX9_goes := by decide +kernel
set_option maxRecDepth 100000 in
theorem lX9_goes_58 : Cond.fieldLink RX9 58 (TX9 0).1 (TX9 0).2.1 (TX9 0).2.2.1 ∈ wsX9_goes := by decide +kernel
set_option maxRecDepth 100000 in
theorem qX9_goes_58 : hd_FP wsX9_goes RX9 vwCl 9 0 58 .int := ⟨RX9, TX9, 28, tyX9, rfl, by decide, uX9_goes_X9, lX9_goes_58, tyX9_ok, nmX9, rfl, rfl⟩
set_option maxRecDepth 100000 in
theorem yX9_goes_X9_in : yX9_in.cls ≠ "java/lang/invoke/MethodHandle" ∧ yX9_in.cls ≠ "java/lang/invoke/VarHandle" ∧ (parseMethodDescriptor yX9_in.desc).map (fun d => d.parameters.length) = some 3 := by decide +kernel
set_option maxRecDepth 100000 in
theorem yX9_goes_X9_isTown : yX9_isTown.cls = RX9 ∧ yX9_isTown.cls ≠ "java/lang/invoke/MethodHandle" ∧ yX9_isTown.cls ≠ "java/lang/invoke/VarHandle" ∧ (parseMethodDescriptor yX9_isTown.desc).map (fun d => d.parameters.length) = some 1 := by decide +kernel
set_option maxRecDepth 100000 in
theorem lX9_goes_84 : Cond.fieldLink RX9 84 (TX9 14).1 (TX9 14).2.1 (TX9 14).2.2.1 ∈ wsX9_goes := by decide +kernel
set_option maxRecDepth 100000 in
theorem fX9_goes_84 : hd_F wsX9_goes RX9 vwCl 9 14 84 := ⟨RX9, TX9, 28, rfl, by decide, uX9_goes_X9, lX9_goes_84⟩
set_option maxRecDepth 100000 in
theorem yX9_goes_X9_costOf : yX9_costOf.cls = RX9 ∧ yX9_costOf.cls ≠ "java/lang/invoke/MethodHandle" ∧ yX9_costOf.cls ≠ "java/lang/invoke/VarHandle" ∧ (parseMethodDescriptor yX9_costOf.desc).map (fun d => d.parameters.length) = some 2 := by decide +kernel
set_option maxRecDepth 100000 in
theorem wX9_goes_8 : Cond.constant RX9 121 (2000000000) ∈ wsX9_goes := by decide +kernel
set_option maxRecDepth 100000 in
theorem yX9_goes_X9_nearest : yX9_nearest.cls = RX9 ∧ yX9_nearest.cls ≠ "java/lang/invoke/MethodHandle" ∧ yX9_nearest.cls ≠ "java/lang/invoke/VarHandle" ∧ (parseMethodDescriptor yX9_nearest.desc).map (fun d => d.parameters.length) = some 2 := by decide +kernel
set_option maxRecDepth 100000 in
theorem lX9_goes_13 : Cond.fieldLink RX9 13 (TX9 4).1 (TX9 4).2.1 (TX9 4).2.2.1 ∈ wsX9_goes := by decide +kernel
set_option maxRecDepth 100000 in
theorem fX9_goes_13 : hd_F wsX9_goes RX9 vwCl 9 4 13 := ⟨RX9, TX9, 28, rfl, by decide, uX9_goes_X9, lX9_goes_13⟩
set_option maxRecDepth 100000 in
theorem lX9_goes_7 : Cond.fieldLink RX9 7 (TX9 3).1 (TX9 3).2.1 (TX9 3).2.2.1 ∈ wsX9_goes := by decide +kernel
set_option maxRecDepth 100000 in
theorem fX9_goes_7 : hd_F wsX9_goes RX9 vwCl 9 3 7 := ⟨RX9, TX9, 28, rfl, by decide, uX9_goes_X9, lX9_goes_7⟩
set_option maxRecDepth 100000 in
theorem yX9_goes_X9_wayOf : yX9_wayOf.cls = RX9 ∧ yX9_wayOf.cls ≠ "java/lang/invoke/MethodHandle" ∧ yX9_wayOf.cls ≠ "java/lang/invoke/VarHandle" ∧ (parseMethodDescriptor yX9_wayOf.desc).map (fun d => d.parameters.length) = some 2 := by decide +kernel
set_option maxRecDepth 100000 in
theorem yX9_goes_X9_roomedOf : yX9_roomedOf.cls = RX9 ∧ yX9_roomedOf.cls ≠ "java/lang/invoke/MethodHandle" ∧ yX9_roomedOf.cls ≠ "java/lang/invoke/VarHandle" ∧ (parseMethodDescriptor yX9_roomedOf.desc).map (fun d => d.parameters.length) = some 1 := by decide +kernel
set_option maxRecDepth 100000 in
theorem yX9_goes_X9_goFrom : yX9_goFrom.cls = RX9 ∧ yX9_goFrom.cls ≠ "java/lang/invoke/MethodHandle" ∧ yX9_goFrom.cls ≠ "java/lang/invoke/VarHandle" ∧ (parseMethodDescriptor yX9_goFrom.desc).map (fun d => d.parameters.length) = some 2 := by decide +kernel
set_option maxRecDepth 100000 in
theorem lX9_goes_46 : Cond.fieldLink RX9 46 (TX9 19).1 (TX9 19).2.1 (TX9 19).2.2.1 ∈ wsX9_goes := by decide +kernel
set_option maxRecDepth 100000 in
theorem fX9_goes_46 : hd_F wsX9_goes RX9 vwCl 9 19 46 := ⟨RX9, TX9, 28, rfl, by decide, uX9_goes_X9, lX9_goes_46⟩
def wo_X9_goes : hd_xS := (hd_sQ (hd_sF hs_sh 9 0 (hd_rL 0) (hd_iK (0))) (hd_sQ (hd_sW (hd_cO (hd_cX (hd_c0 (fun x => !decide (x = 0)) (hd_iN (hd_nS 3 (hd_pI (hd_pI (hd_pI hd_v0 (hd_iL 1)) (hd_iK (0))) (hd_iK (4))) wm_X9_in)))) (hd_cX (hd_c0 (fun x => !decide (x = 0)) (hd_iN (hd_nV hs_sh 9 (hd_rL 0) 1 (hd_pI hd_v0 (hd_iL 2)) wm_X9_isTown))))) (hd_sRI (hd_iK (-3)))) (hd_sQ (hd_sW (hd_cI (fun x y => decide (x = y)) (hd_iN (hd_nV hs_sh 9 (hd_rL 0) 2 (hd_pI (hd_pI hd_v0 (hd_iL 1)) (hd_iG hs_sh 9 14 (hd_rL 0))) wm_X9_costOf)) (hd_iK (2000000000))) (hd_sRI (hd_iK (-1)))) (hd_sQ (hd_sI 3 (hd_iN (hd_nV hs_sh 9 (hd_rL 0) 2 (hd_pI (hd_pI hd_v0 (hd_iG hs_sh 9 14 (hd_rL 0))) (hd_iL 2)) wm_X9_nearest))) (hd_sQ (hd_sW (hd_cI (fun x y => decide (x = y)) (hd_iL 1) (hd_iK (4))) (hd_sRI (hd_iQ (hd_cO (hd_cI (fun x y => decide (x = y)) (hd_iL 3) (hd_iK (-1))) (hd_cI (fun x y => decide (x < y)) (hd_iA hs_sh (hd_rG hs_sh 9 4 (hd_rL 0)) (hd_iL 2)) (hd_iB (fun x y => x * y) (hd_iA hs_sh (hd_rG hs_sh 9 3 (hd_rL 0)) (hd_iL 2)) (hd_iN (hd_nV hs_sh 9 (hd_rL 0) 2 (hd_pI (hd_pI hd_v0 (hd_iL 3)) (hd_iL 2)) wm_X9_wayOf))))) (hd_iK (-1)) (hd_iL 3)))) (hd_sQ (hd_sW (hd_cI (fun x y => decide (x < y)) (hd_iL 1) (hd_iK (3))) (hd_sRI (hd_iL 3))) (hd_sQ (hd_sI 4 (hd_iN (hd_nV hs_sh 9 (hd_rL 0) 2 (hd_pI (hd_pI hd_v0 (hd_iK (0))) (hd_iN (hd_nV hs_sh 9 (hd_rL 0) 1 (hd_pI hd_v0 (hd_iG hs_sh 9 14 (hd_rL 0))) wm_X9_roomedOf))) (wm_X9_goFrom 9)))) (hd_sRI (hd_iA hs_sh (hd_rG hs_sh 9 19 (hd_rL 0)) (hd_iL 2))))))))))
def wm_X9_goes : hd_M := hd_mth 5 wo_X9_goes
set_option maxHeartbeats 4000000 in
set_option maxRecDepth 100000 in
theorem snd_X9_goes : hd_Snd vwCl hs_sh yX9_goes wsX9_goes 13 wm_X9_goes := hd_method (by decide) rfl rfl (by decide) (fun κ C Rk => (hd_seq (p1 := 5) (hd_sputI C (p1 := 1) (p2 := 2) qX9_goes_58 (hd_aload_n C (kk0 := 0) dX9_goes_0) (hd_iconst C dX9_goes_1 (by decide)) dX9_goes_2) (hd_seq (p1 := 25) (hd_if (p1 := 22) (p2 := 25) (hd_or (p1 := 14) (p2 := 22) (p3 := 25) (hd_not (hd_z_neF C (p2 := 11) (tgt := 22) (hd_inI (hd_invS C (p2 := 8) snd_X9_in hw_X9_in gX9_goes_X9_in yX9_goes_X9_in ⟨by decide, by decide⟩ (by decide) (hd_apI (p1 := 7) (p2 := 8) (hd_apI (p1 := 6) (p2 := 7) (hd_apI (p1 := 5) (p2 := 6) hd_av0 (hd_iload_n C (kk0 := 1) dX9_goes_5)) (hd_iconst C dX9_goes_6 (by decide))) (hd_iconst C dX9_goes_7 (by decide))) dX9_goes_8)) dX9_goes_11 (by decide))) (hd_not (hd_z_neT C (p2 := 19) (tgt := 25) (hd_inI (hd_invV C (p1 := 15) (p2 := 16) snd_X9_isTown hw_X9_isTown gX9_goes_X9_isTown hs_c_9 yX9_goes_X9_isTown ⟨by decide, by decide⟩ (by decide) (hd_aload_n C (kk0 := 0) dX9_goes_14) (hd_apI (p1 := 15) (p2 := 16) hd_av0 (hd_iload_n C (kk0 := 2) dX9_goes_15)) dX9_goes_16)) dX9_goes_19 (by decide)))) (hd_retI C Rk (p1 := 24) (hd_bipush C dX9_goes_22 (by decide)) dX9_goes_24) (by decide)) (hd_seq (p1 := 41) (hd_if (p1 := 39) (p2 := 41) (hd_c_eqF C (p1 := 34) (p2 := 36) (tgt := 41) (hd_inI (hd_invV C (p1 := 26) (p2 := 31) snd_X9_costOf hw_X9_costOf gX9_goes_X9_costOf hs_c_9 yX9_goes_X9_costOf ⟨by decide, by decide⟩ (by decide) (hd_aload_n C (kk0 := 0) dX9_goes_25) (hd_apI (p1 := 27) (p2 := 31) (hd_apI (p1 := 26) (p2 := 27) hd_av0 (hd_iload_n C (kk0 := 1) dX9_goes_26)) (hd_getI C (p1 := 28) fX9_goes_84 (hd_aload_n C (kk0 := 0) dX9_goes_27) dX9_goes_28)) dX9_goes_31)) (hd_ldc C wX9_goes_8 dX9_goes_34) dX9_goes_36 (by decide)) (hd_retI C Rk (p1 := 40) (hd_iconst C dX9_goes_39 (by decide)) dX9_goes_40) (by decide)) (hd_seq (p1 := 51) (hd_sistore_n C (kk0 := 3) (p1 := 50) (hd_inI (hd_invV C (p1 := 42) (p2 := 47) snd_X9_nearest hw_X9_nearest gX9_goes_X9_nearest hs_c_9 yX9_goes_X9_nearest ⟨by decide, by decide⟩ (by decide) (hd_aload_n C (kk0 := 0) dX9_goes_41) (hd_apI (p1 := 46) (p2 := 47) (hd_apI (p1 := 42) (p2 := 46) hd_av0 (hd_getI C (p1 := 43) fX9_goes_84 (hd_aload_n C (kk0 := 0) dX9_goes_42) dX9_goes_43)) (hd_iload_n C (kk0 := 2) dX9_goes_46)) dX9_goes_47)) dX9_goes_50 (by decide)) (hd_seq (p1 := 89) (hd_if (p1 := 56) (p2 := 89) (hd_c_eqF C (p1 := 52) (p2 := 53) (tgt := 89) (hd_iload_n C (kk0 := 1) dX9_goes_51) (hd_iconst C dX9_goes_52 (by decide)) dX9_goes_53 (by decide)) (hd_retI C Rk (p1 := 88) (hd_tnI C (p1 := 83) (p2 := 84) (p3 := 87) (p4 := 88) (hd_or (p1 := 61) (p2 := 83) (p3 := 87) (hd_c_eqT C (p1 := 57) (p2 := 58) (tgt := 83) (hd_iload_n C (kk0 := 3) dX9_goes_56) (hd_iconst C dX9_goes_57 (by decide)) dX9_goes_58 (by decide)) (hd_c_ltF C (p1 := 67) (p2 := 80) (tgt := 87) (hd_iald C (p1 := 65) (p2 := 66) (hd_getR C (p1 := 62) fX9_goes_13 (hd_aload_n C (kk0 := 0) dX9_goes_61) dX9_goes_62) (hd_iload_n C (kk0 := 2) dX9_goes_65) dX9_goes_66) (hd_imul C (p1 := 73) (p2 := 79) (hd_iald C (p1 := 71) (p2 := 72) (hd_getR C (p1 := 68) fX9_goes_7 (hd_aload_n C (kk0 := 0) dX9_goes_67) dX9_goes_68) (hd_iload_n C (kk0 := 2) dX9_goes_71) dX9_goes_72) (hd_inI (hd_invV C (p1 := 74) (p2 := 76) snd_X9_wayOf hw_X9_wayOf gX9_goes_X9_wayOf hs_c_9 yX9_goes_X9_wayOf ⟨by decide, by decide⟩ (by decide) (hd_aload_n C (kk0 := 0) dX9_goes_73) (hd_apI (p1 := 75) (p2 := 76) (hd_apI (p1 := 74) (p2 := 75) hd_av0 (hd_iload_n C (kk0 := 3) dX9_goes_74)) (hd_iload_n C (kk0 := 2) dX9_goes_75)) dX9_goes_76)) dX9_goes_79) dX9_goes_80 (by decide))) (hd_iconst C dX9_goes_83 (by decide)) dX9_goes_84 (by decide) (hd_iload_n C (kk0 := 3) dX9_goes_87)) dX9_goes_88) (by decide)) (hd_seq (p1 := 96) (hd_if (p1 := 94) (p2 := 96) (hd_c_ltF C (p1 := 90) (p2 := 91) (tgt := 96) (hd_iload_n C (kk0 := 1) dX9_goes_89) (hd_iconst C dX9_goes_90 (by decide)) dX9_goes_91 (by decide)) (hd_retI C Rk (p1 := 95) (hd_iload_n C (kk0 := 3) dX9_goes_94) dX9_goes_95) (by decide)) (hd_seq (p1 := 111) (hd_sistore C (p1 := 109) (hd_inI (hd_invV C (p1 := 97) (p2 := 106) (snd_X9_goFrom 9) hw_X9_goFrom gX9_goes_X9_goFrom hs_c_9 yX9_goes_X9_goFrom ⟨by decide, by decide⟩ (by decide) (hd_aload_n C (kk0 := 0) dX9_goes_96) (hd_apI (p1 := 98) (p2 := 106) (hd_apI (p1 := 97) (p2 := 98) hd_av0 (hd_iconst C dX9_goes_97 (by decide))) (hd_inI (hd_invV C (p1 := 99) (p2 := 103) snd_X9_roomedOf hw_X9_roomedOf gX9_goes_X9_roomedOf hs_c_9 yX9_goes_X9_roomedOf ⟨by decide, by decide⟩ (by decide) (hd_aload_n C (kk0 := 0) dX9_goes_98) (hd_apI (p1 := 99) (p2 := 103) hd_av0 (hd_getI C (p1 := 100) fX9_goes_84 (hd_aload_n C (kk0 := 0) dX9_goes_99) dX9_goes_100)) dX9_goes_103))) dX9_goes_106)) dX9_goes_109 (by decide)) (hd_retI C Rk (p1 := 117) (hd_iald C (p1 := 115) (p2 := 116) (hd_getR C (p1 := 112) fX9_goes_46 (hd_aload_n C (kk0 := 0) dX9_goes_111) dX9_goes_112) (hd_iload_n C (kk0 := 2) dX9_goes_115) dX9_goes_116) dX9_goes_117)))))))))
