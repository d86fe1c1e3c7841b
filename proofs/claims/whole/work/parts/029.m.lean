/-! X8_goes -/
set_option maxRecDepth 100000 in
theorem yX8_goes_X8_within : yX8_within.cls ≠ "java/lang/invoke/MethodHandle" ∧ yX8_within.cls ≠ "java/lang/invoke/VarHandle" ∧ (parseMethodDescriptor yX8_within.desc).map (fun d => d.parameters.length) = some 3 := by decide +kernel
set_option maxRecDepth 100000 in
theorem uX8_goes_X8 : ∀ w ∈ u_ws RX8 TX8 9, w ∈ wsX8_goes := by decide +kernel
set_option maxRecDepth 100000 in
theorem lX8_goes_12 : Cond.fieldLink RX8 12 (TX8 0).1 (TX8 0).2.1 (TX8 0).2.2.1 ∈ wsX8_goes := by decide +kernel
set_option maxRecDepth 100000 in
theorem fX8_goes_12 : hd_F wsX8_goes RX8 vwCl 8 0 12 := ⟨RX8, TX8, 9, rfl, by decide, uX8_goes_X8, lX8_goes_12⟩
set_option maxRecDepth 100000 in
theorem yX8_goes_X5_hasTown : yX5_hasTown.cls = RX5 ∧ yX5_hasTown.cls ≠ "java/lang/invoke/MethodHandle" ∧ yX5_hasTown.cls ≠ "java/lang/invoke/VarHandle" ∧ (parseMethodDescriptor yX5_hasTown.desc).map (fun d => d.parameters.length) = some 1 := by decide +kernel
set_option maxRecDepth 100000 in
theorem yX8_goes_X8_freshCosts : yX8_freshCosts.cls = RX8 ∧ yX8_freshCosts.cls ≠ "java/lang/invoke/MethodHandle" ∧ yX8_freshCosts.cls ≠ "java/lang/invoke/VarHandle" ∧ (parseMethodDescriptor yX8_freshCosts.desc).map (fun d => d.parameters.length) = some 0 := by decide +kernel
set_option maxRecDepth 100000 in
theorem lX8_goes_167 : Cond.fieldLink RX8 167 (TX8 8).1 (TX8 8).2.1 (TX8 8).2.2.1 ∈ wsX8_goes := by decide +kernel
set_option maxRecDepth 100000 in
theorem fX8_goes_167 : hd_F wsX8_goes RX8 vwCl 8 8 167 := ⟨RX8, TX8, 9, rfl, by decide, uX8_goes_X8, lX8_goes_167⟩
set_option maxRecDepth 100000 in
theorem yX8_goes_X1_hallFor : yX1_hallFor.cls = RX1 ∧ yX1_hallFor.cls ≠ "java/lang/invoke/MethodHandle" ∧ yX1_hallFor.cls ≠ "java/lang/invoke/VarHandle" ∧ (parseMethodDescriptor yX1_hallFor.desc).map (fun d => d.parameters.length) = some 3 := by decide +kernel
def wo_X8_goes : hd_xS := (hd_sQ (hd_sW (hd_cO (hd_cX (hd_c0 (fun x => !decide (x = 0)) (hd_iN (hd_nS 3 (hd_pI (hd_pI (hd_pI hd_v0 (hd_iL 1)) (hd_iK (0))) (hd_iK (4))) wm_X8_within)))) (hd_cX (hd_c0 (fun x => !decide (x = 0)) (hd_iN (hd_nV hs_sh 5 (hd_rG hs_sh 8 0 (hd_rL 0)) 1 (hd_pI hd_v0 (hd_iL 2)) wm_X5_hasTown))))) (hd_sRI (hd_iK (-3)))) (hd_sRI (hd_iN (hd_nV hs_sh 1 (hd_rN (hd_nV hs_sh 8 (hd_rL 0) 0 hd_v0 wm_X8_freshCosts)) 3 (hd_pI (hd_pI (hd_pI hd_v0 (hd_iL 1)) (hd_iG hs_sh 8 8 (hd_rL 0))) (hd_iL 2)) wm_X1_hallFor))))
def wm_X8_goes : hd_M := hd_mth 3 wo_X8_goes
set_option maxHeartbeats 4000000 in
set_option maxRecDepth 100000 in
theorem snd_X8_goes : hd_Snd vwCl hs_sh yX8_goes wsX8_goes 6 wm_X8_goes := hd_method (by decide) rfl rfl (by decide) (fun κ C Rk => (hd_seq (p1 := 23) (hd_if (p1 := 20) (p2 := 23) (hd_or (p1 := 9) (p2 := 20) (p3 := 23) (hd_not (hd_z_neF C (p2 := 6) (tgt := 20) (hd_inI (hd_invS C (p2 := 3) snd_X8_within rfl gX8_goes_X8_within yX8_goes_X8_within ⟨by decide, by decide⟩ (by decide) (hd_apI (p1 := 2) (p2 := 3) (hd_apI (p1 := 1) (p2 := 2) (hd_apI (p1 := 0) (p2 := 1) hd_av0 (hd_iload_n C dX8_goes_0)) (hd_iconst C dX8_goes_1 (by decide))) (hd_iconst C dX8_goes_2 (by decide))) dX8_goes_3)) dX8_goes_6 (by decide))) (hd_not (hd_z_neT C (p2 := 17) (tgt := 23) (hd_inI (hd_invV C (p1 := 13) (p2 := 14) snd_X5_hasTown rfl gX8_goes_X5_hasTown rfl yX8_goes_X5_hasTown ⟨by decide, by decide⟩ (by decide) (hd_getR C (p1 := 10) fX8_goes_12 (hd_aload_n C dX8_goes_9) dX8_goes_10) (hd_apI (p1 := 13) (p2 := 14) hd_av0 (hd_iload_n C dX8_goes_13)) dX8_goes_14)) dX8_goes_17 (by decide)))) (hd_retI C Rk (p1 := 22) (hd_bipush C dX8_goes_20 (by decide)) dX8_goes_22) (by decide)) (hd_retI C Rk (p1 := 36) (hd_inI (hd_invV C (p1 := 27) (p2 := 33) snd_X1_hallFor rfl gX8_goes_X1_hallFor rfl yX8_goes_X1_hallFor ⟨by decide, by decide⟩ (by decide) (hd_inR (hd_invV C (p1 := 24) (p2 := 24) snd_X8_freshCosts rfl gX8_goes_X8_freshCosts rfl yX8_goes_X8_freshCosts ⟨by decide, by decide⟩ (by decide) (hd_aload_n C dX8_goes_23) hd_av0 dX8_goes_24)) (hd_apI (p1 := 32) (p2 := 33) (hd_apI (p1 := 28) (p2 := 32) (hd_apI (p1 := 27) (p2 := 28) hd_av0 (hd_iload_n C dX8_goes_27)) (hd_getI C (p1 := 29) fX8_goes_167 (hd_aload_n C dX8_goes_28) dX8_goes_29)) (hd_iload_n C dX8_goes_32)) dX8_goes_33)) dX8_goes_36)))
/-! X8_line -/
set_option maxRecDepth 100000 in
theorem yX8_line_X8_isLineQuestion : yX8_isLineQuestion.cls ≠ "java/lang/invoke/MethodHandle" ∧ yX8_isLineQuestion.cls ≠ "java/lang/invoke/VarHandle" ∧ (parseMethodDescriptor yX8_isLineQuestion.desc).map (fun d => d.parameters.length) = some 2 := by decide +kernel
set_option maxRecDepth 100000 in
theorem uX8_line_X8 : ∀ w ∈ u_ws RX8 TX8 9, w ∈ wsX8_line := by decide +kernel
set_option maxRecDepth 100000 in
theorem lX8_line_67 : Cond.fieldLink RX8 67 (TX8 7).1 (TX8 7).2.1 (TX8 7).2.2.1 ∈ wsX8_line := by decide +kernel
set_option maxRecDepth 100000 in
theorem fX8_line_67 : hd_F wsX8_line RX8 vwCl 8 7 67 := ⟨RX8, TX8, 9, rfl, by decide, uX8_line_X8, lX8_line_67⟩
set_option maxRecDepth 100000 in
theorem yX8_line_X3_choose : yX3_choose.cls = RX3 ∧ yX3_choose.cls ≠ "java/lang/invoke/MethodHandle" ∧ yX3_choose.cls ≠ "java/lang/invoke/VarHandle" ∧ (parseMethodDescriptor yX3_choose.desc).map (fun d => d.parameters.length) = some 2 := by decide +kernel
set_option maxRecDepth 100000 in
theorem uX8_line_X3 : ∀ w ∈ u_ws RX3 TX3 5, w ∈ wsX8_line := by decide +kernel
set_option maxRecDepth 100000 in
theorem lX8_line_265 : Cond.fieldLink RX8 265 (TX3 4).1 (TX3 4).2.1 (TX3 4).2.2.1 ∈ wsX8_line := by decide +kernel
set_option maxRecDepth 100000 in
theorem fX8_line_265 : hd_F wsX8_line RX8 vwCl 3 4 265 := ⟨RX3, TX3, 5, rfl, by decide, uX8_line_X3, lX8_line_265⟩
def wo_X8_line : hd_xS := (hd_sQ (hd_sW (hd_cX (hd_c0 (fun x => !decide (x = 0)) (hd_iN (hd_nS 2 (hd_pI (hd_pI hd_v0 (hd_iL 1)) (hd_iL 2)) wm_X8_isLineQuestion)))) (hd_sRI (hd_iK (-3)))) (hd_sQ (hd_sN (hd_nV hs_sh 3 (hd_rG hs_sh 8 7 (hd_rL 0)) 2 (hd_pI (hd_pI hd_v0 (hd_iL 1)) (hd_iL 2)) wm_X3_choose)) (hd_sRI (hd_iG hs_sh 3 4 (hd_rG hs_sh 8 7 (hd_rL 0))))))
def wm_X8_line : hd_M := hd_mth 3 wo_X8_line
set_option maxHeartbeats 4000000 in
set_option maxRecDepth 100000 in
theorem snd_X8_line : hd_Snd vwCl hs_sh yX8_line wsX8_line 6 wm_X8_line := hd_method (by decide) rfl rfl (by decide) (fun κ C Rk => (hd_seq (p1 := 11) (hd_if (p1 := 8) (p2 := 11) (hd_not (hd_z_neT C (p2 := 5) (tgt := 11) (hd_inI (hd_invS C (p2 := 2) snd_X8_isLineQuestion rfl gX8_line_X8_isLineQuestion yX8_line_X8_isLineQuestion ⟨by decide, by decide⟩ (by decide) (hd_apI (p1 := 1) (p2 := 2) (hd_apI (p1 := 0) (p2 := 1) hd_av0 (hd_iload_n C dX8_line_0)) (hd_iload_n C dX8_line_1)) dX8_line_2)) dX8_line_5 (by decide))) (hd_retI C Rk (p1 := 10) (hd_bipush C dX8_line_8 (by decide)) dX8_line_10) (by decide)) (hd_seq (p1 := 20) (hd_scall (hd_invV C (p1 := 15) (p2 := 17) snd_X3_choose rfl gX8_line_X3_choose rfl yX8_line_X3_choose ⟨by decide, by decide⟩ (by decide) (hd_getR C (p1 := 12) fX8_line_67 (hd_aload_n C dX8_line_11) dX8_line_12) (hd_apI (p1 := 16) (p2 := 17) (hd_apI (p1 := 15) (p2 := 16) hd_av0 (hd_iload_n C dX8_line_15)) (hd_iload_n C dX8_line_16)) dX8_line_17)) (hd_retI C Rk (p1 := 27) (hd_getI C (p1 := 24) fX8_line_265 (hd_getR C (p1 := 21) fX8_line_67 (hd_aload_n C dX8_line_20) dX8_line_21) dX8_line_24) dX8_line_27))))
/-! X8_lineAt -/
set_option maxRecDepth 100000 in
theorem yX8_lineAt_X8_isLineQuestion : yX8_isLineQuestion.cls ≠ "java/lang/invoke/MethodHandle" ∧ yX8_isLineQuestion.cls ≠ "java/lang/invoke/VarHandle" ∧ (parseMethodDescriptor yX8_isLineQuestion.desc).map (fun d => d.parameters.length) = some 2 := by decide +kernel
set_option maxRecDepth 100000 in
theorem uX8_lineAt_X8 : ∀ w ∈ u_ws RX8 TX8 9, w ∈ wsX8_lineAt := by decide +kernel
set_option maxRecDepth 100000 in
theorem lX8_lineAt_67 : Cond.fieldLink RX8 67 (TX8 7).1 (TX8 7).2.1 (TX8 7).2.2.1 ∈ wsX8_lineAt := by decide +kernel
set_option maxRecDepth 100000 in
theorem fX8_lineAt_67 : hd_F wsX8_lineAt RX8 vwCl 8 7 67 := ⟨RX8, TX8, 9, rfl, by decide, uX8_lineAt_X8, lX8_lineAt_67⟩
set_option maxRecDepth 100000 in
theorem yX8_lineAt_X3_choose : yX3_choose.cls = RX3 ∧ yX3_choose.cls ≠ "java/lang/invoke/MethodHandle" ∧ yX3_choose.cls ≠ "java/lang/invoke/VarHandle" ∧ (parseMethodDescriptor yX3_choose.desc).map (fun d => d.parameters.length) = some 2 := by decide +kernel
set_option maxRecDepth 100000 in
theorem yX8_lineAt_X3_chosenAt : yX3_chosenAt.cls = RX3 ∧ yX3_chosenAt.cls ≠ "java/lang/invoke/MethodHandle" ∧ yX3_chosenAt.cls ≠ "java/lang/invoke/VarHandle" ∧ (parseMethodDescriptor yX3_chosenAt.desc).map (fun d => d.parameters.length) = some 1 := by decide +kernel
def wo_X8_lineAt : hd_xS := (hd_sQ (hd_sW (hd_cO (hd_cX (hd_c0 (fun x => !decide (x = 0)) (hd_iN (hd_nS 2 (hd_pI (hd_pI hd_v0 (hd_iL 1)) (hd_iL 2)) wm_X8_isLineQuestion)))) (hd_c0 (fun x => decide (x < 0)) (hd_iL 3))) (hd_sRI (hd_iK (-3)))) (hd_sQ (hd_sN (hd_nV hs_sh 3 (hd_rG hs_sh 8 7 (hd_rL 0)) 2 (hd_pI (hd_pI hd_v0 (hd_iL 1)) (hd_iL 2)) wm_X3_choose)) (hd_sRI (hd_iN (hd_nV hs_sh 3 (hd_rG hs_sh 8 7 (hd_rL 0)) 1 (hd_pI hd_v0 (hd_iL 3)) wm_X3_chosenAt)))))
def wm_X8_lineAt : hd_M := hd_mth 4 wo_X8_lineAt
set_option maxHeartbeats 4000000 in
set_option maxRecDepth 100000 in
theorem snd_X8_lineAt : hd_Snd vwCl hs_sh yX8_lineAt wsX8_lineAt 6 wm_X8_lineAt := hd_method (by decide) rfl rfl (by decide) (fun κ C Rk => (hd_seq (p1 := 15) (hd_if (p1 := 12) (p2 := 15) (hd_or (p1 := 8) (p2 := 12) (p3 := 15) (hd_not (hd_z_neF C (p2 := 5) (tgt := 12) (hd_inI (hd_invS C (p2 := 2) snd_X8_isLineQuestion rfl gX8_lineAt_X8_isLineQuestion yX8_lineAt_X8_isLineQuestion ⟨by decide, by decide⟩ (by decide) (hd_apI (p1 := 1) (p2 := 2) (hd_apI (p1 := 0) (p2 := 1) hd_av0 (hd_iload_n C dX8_lineAt_0)) (hd_iload_n C dX8_lineAt_1)) dX8_lineAt_2)) dX8_lineAt_5 (by decide))) (hd_z_ltF C (p2 := 9) (tgt := 15) (hd_iload_n C dX8_lineAt_8) dX8_lineAt_9 (by decide))) (hd_retI C Rk (p1 := 14) (hd_bipush C dX8_lineAt_12 (by decide)) dX8_lineAt_14) (by decide)) (hd_seq (p1 := 24) (hd_scall (hd_invV C (p1 := 19) (p2 := 21) snd_X3_choose rfl gX8_lineAt_X3_choose rfl yX8_lineAt_X3_choose ⟨by decide, by decide⟩ (by decide) (hd_getR C (p1 := 16) fX8_lineAt_67 (hd_aload_n C dX8_lineAt_15) dX8_lineAt_16) (hd_apI (p1 := 20) (p2 := 21) (hd_apI (p1 := 19) (p2 := 20) hd_av0 (hd_iload_n C dX8_lineAt_19)) (hd_iload_n C dX8_lineAt_20)) dX8_lineAt_21)) (hd_retI C Rk (p1 := 32) (hd_inI (hd_invV C (p1 := 28) (p2 := 29) snd_X3_chosenAt rfl gX8_lineAt_X3_chosenAt rfl yX8_lineAt_X3_chosenAt ⟨by decide, by decide⟩ (by decide) (hd_getR C (p1 := 25) fX8_lineAt_67 (hd_aload_n C dX8_lineAt_24) dX8_lineAt_25) (hd_apI (p1 := 28) (p2 := 29) hd_av0 (hd_iload_n C dX8_lineAt_28)) dX8_lineAt_29)) dX8_lineAt_32))))
/-! X9_better -/
set_option maxRecDepth 100000 in
theorem uX9_better_X9 : ∀ w ∈ u_ws RX9 TX9 28, w ∈ wsX9_better := by decide +kernel
set_option maxRecDepth 100000 in
theorem lX9_better_58 : Cond.fieldLink RX9 58 (TX9 0).1 (TX9 0).2.1 (TX9 0).2.2.1 ∈ wsX9_better := by decide +kernel
set_option maxRecDepth 100000 in
theorem qX9_better_58 : hd_FP wsX9_better RX9 vwCl 9 0 58 .int := ⟨RX9, TX9, 28, tyX9, rfl, by decide, uX9_better_X9, lX9_better_58, tyX9_ok, nmX9, rfl, rfl⟩
set_option maxRecDepth 100000 in
theorem yX9_better_X9_isKind : yX9_isKind.cls ≠ "java/lang/invoke/MethodHandle" ∧ yX9_isKind.cls ≠ "java/lang/invoke/VarHandle" ∧ (parseMethodDescriptor yX9_isKind.desc).map (fun d => d.parameters.length) = some 1 := by decide +kernel
set_option maxRecDepth 100000 in
theorem yX9_better_X9_in : yX9_in.cls ≠ "java/lang/invoke/MethodHandle" ∧ yX9_in.cls ≠ "java/lang/invoke/VarHandle" ∧ (parseMethodDescriptor yX9_in.desc).map (fun d => d.parameters.length) = some 3 := by decide +kernel
set_option maxRecDepth 100000 in
theorem lX9_better_84 : Cond.fieldLink RX9 84 (TX9 14).1 (TX9 14).2.1 (TX9 14).2.2.1 ∈ wsX9_better := by decide +kernel
set_option maxRecDepth 100000 in
theorem fX9_better_84 : hd_F wsX9_better RX9 vwCl 9 14 84 := ⟨RX9, TX9, 28, rfl, by decide, uX9_better_X9, lX9_better_84⟩
set_option maxRecDepth 100000 in
theorem yX9_better_X9_costOf : yX9_costOf.cls = RX9 ∧ yX9_costOf.cls ≠ "java/lang/invoke/MethodHandle" ∧ yX9_costOf.cls ≠ "java/lang/invoke/VarHandle" ∧ (parseMethodDescriptor yX9_costOf.desc).map (fun d => d.parameters.length) = some 2 := by decide +kernel
set_option maxRecDepth 100000 in
theorem yX9_better_X9_allHalls : yX9_allHalls.cls = RX9 ∧ yX9_allHalls.cls ≠ "java/lang/invoke/MethodHandle" ∧ yX9_allHalls.cls ≠ "java/lang/invoke/VarHandle" ∧ (parseMethodDescriptor yX9_allHalls.desc).map (fun d => d.parameters.length) = some 0 := by decide +kernel
set_option maxRecDepth 100000 in
theorem yX9_better_X9_areNear : yX9_areNear.cls ≠ "java/lang/invoke/MethodHandle" ∧ yX9_areNear.cls ≠ "java/lang/invoke/VarHandle" ∧ (parseMethodDescriptor yX9_areNear.desc).map (fun d => d.parameters.length) = some 2 := by decide +kernel
set_option maxRecDepth 100000 in
theorem qX9_better_84 : hd_FP wsX9_better RX9 vwCl 9 14 84 .int := ⟨RX9, TX9, 28, tyX9, rfl, by decide, uX9_better_X9, lX9_better_84, tyX9_ok, nmX9, rfl, rfl⟩
def wc_X9_better_57 : hd_xC := (hd_cI (fun x y => decide (x ≤ y)) (hd_iL 7) (hd_iN (hd_nV hs_sh 9 (hd_rL 0) 0 hd_v0 wm_X9_allHalls)))
def wb_X9_better_57 : hd_xS := (hd_sQ (hd_sW (hd_c0 (fun x => !decide (x = 0)) (hd_iN (hd_nS 2 (hd_pI (hd_pI hd_v0 (hd_iL 7)) (hd_iG hs_sh 9 14 (hd_rL 0))) wm_X9_areNear))) (hd_sQ (hd_sI 8 (hd_iN (hd_nV hs_sh 9 (hd_rL 0) 2 (hd_pI (hd_pI hd_v0 (hd_iL 1)) (hd_iL 7)) wm_X9_costOf))) (hd_sQ (hd_sI 6 (hd_iQ (hd_cI (fun x y => decide (x < y)) (hd_iL 8) (hd_iL 5)) (hd_iL 7) (hd_iL 6))) (hd_sI 5 (hd_iQ (hd_cI (fun x y => decide (x < y)) (hd_iL 8) (hd_iL 5)) (hd_iL 8) (hd_iL 5)))))) (hd_sP 7 (1)))
def wc_X9_better_30 : hd_xC := (hd_cA (hd_c0 (fun x => !decide (x = 0)) (hd_iL 4)) (hd_cI (fun x y => decide (x < y)) (hd_iL 3) (hd_iL 2)))
def wb_X9_better_30 : hd_xS := (hd_sQ (hd_sI 5 (hd_iN (hd_nV hs_sh 9 (hd_rL 0) 2 (hd_pI (hd_pI hd_v0 (hd_iL 1)) (hd_iG hs_sh 9 14 (hd_rL 0))) wm_X9_costOf))) (hd_sQ (hd_sI 6 (hd_iK (-1))) (hd_sQ (hd_sQ (hd_sI 7 (hd_iK (0))) (hd_sH (wc_X9_better_57) (wb_X9_better_57))) (hd_sQ (hd_sI 4 (hd_iC (hd_cI (fun x y => !decide (x = y)) (hd_iL 6) (hd_iK (-1))))) (hd_sQ (hd_sF hs_sh 9 14 (hd_rL 0) (hd_iQ (hd_c0 (fun x => !decide (x = 0)) (hd_iL 4)) (hd_iL 6) (hd_iG hs_sh 9 14 (hd_rL 0)))) (hd_sI 3 (hd_iB (fun x y => x + y) (hd_iL 3) (hd_iQ (hd_c0 (fun x => !decide (x = 0)) (hd_iL 4)) (hd_iK (1)) (hd_iK (0))))))))))
def wo_X9_better : hd_xS := (hd_sQ (hd_sF hs_sh 9 0 (hd_rL 0) (hd_iK (0))) (hd_sQ (hd_sW (hd_cO (hd_cX (hd_c0 (fun x => !decide (x = 0)) (hd_iN (hd_nS 1 (hd_pI hd_v0 (hd_iL 1)) wm_X9_isKind)))) (hd_cX (hd_c0 (fun x => !decide (x = 0)) (hd_iN (hd_nS 3 (hd_pI (hd_pI (hd_pI hd_v0 (hd_iL 2)) (hd_iK (1))) (hd_iK (60))) wm_X9_in))))) (hd_sRI (hd_iK (-3)))) (hd_sQ (hd_sI 3 (hd_iK (0))) (hd_sQ (hd_sI 4 (hd_iK (1))) (hd_sQ (hd_sH (wc_X9_better_30) (wb_X9_better_30)) (hd_sRI (hd_iL 3)))))))
def wm_X9_better : hd_M := hd_mth 9 wo_X9_better
set_option maxHeartbeats 4000000 in
set_option maxRecDepth 100000 in
theorem snd_X9_better : hd_Snd vwCl hs_sh yX9_better wsX9_better 6 wm_X9_better := hd_method (by decide) rfl rfl (by decide) (fun κ C Rk => (hd_seq (p1 := 5) (hd_sputI C (p1 := 1) (p2 := 2) qX9_better_58 (hd_aload_n C dX9_better_0) (hd_iconst C dX9_better_1 (by decide)) dX9_better_2) (hd_seq (p1 := 25) (hd_if (p1 := 22) (p2 := 25) (hd_or (p1 := 12) (p2 := 22) (p3 := 25) (hd_not (hd_z_neF C (p2 := 9) (tgt := 22) (hd_inI (hd_invS C (p2 := 6) snd_X9_isKind rfl gX9_better_X9_isKind yX9_better_X9_isKind ⟨by decide, by decide⟩ (by decide) (hd_apI (p1 := 5) (p2 := 6) hd_av0 (hd_iload_n C dX9_better_5)) dX9_better_6)) dX9_better_9 (by decide))) (hd_not (hd_z_neT C (p2 := 19) (tgt := 25) (hd_inI (hd_invS C (p2 := 16) snd_X9_in rfl gX9_better_X9_in yX9_better_X9_in ⟨by decide, by decide⟩ (by decide) (hd_apI (p1 := 14) (p2 := 16) (hd_apI (p1 := 13) (p2 := 14) (hd_apI (p1 := 12) (p2 := 13) hd_av0 (hd_iload_n C dX9_better_12)) (hd_iconst C dX9_better_13 (by decide))) (hd_bipush C dX9_better_14 (by decide))) dX9_better_16)) dX9_better_19 (by decide)))) (hd_retI C Rk (p1 := 24) (hd_bipush C dX9_better_22 (by decide)) dX9_better_24) (by decide)) (hd_seq (p1 := 27) (hd_sistore_n C (p1 := 26) (hd_iconst C dX9_better_25 (by decide)) dX9_better_26 (by decide)) (hd_seq (p1 := 30) (hd_sistore C (p1 := 28) (hd_iconst C dX9_better_27 (by decide)) dX9_better_28 (by decide)) (hd_seq (p1 := 172) (hd_loop C (p1 := 40) (p2 := 172) (hd_and (p1 := 35) (p2 := 40) (p3 := 172) (hd_z_neF C (p2 := 32) (tgt := 172) (hd_iload C dX9_better_30) dX9_better_32 (by decide)) (hd_c_ltF C (p1 := 36) (p2 := 37) (tgt := 172) (hd_iload_n C dX9_better_35) (hd_iload_n C dX9_better_36) dX9_better_37 (by decide))) (hd_sgoto C (p1 := 169) (tgt := 30) (hd_seq (p1 := 51) (hd_sistore C (p1 := 49) (hd_inI (hd_invV C (p1 := 41) (p2 := 46) snd_X9_costOf rfl gX9_better_X9_costOf rfl yX9_better_X9_costOf ⟨by decide, by decide⟩ (by decide) (hd_aload_n C dX9_better_40) (hd_apI (p1 := 42) (p2 := 46) (hd_apI (p1 := 41) (p2 := 42) hd_av0 (hd_iload_n C dX9_better_41)) (hd_getI C (p1 := 43) fX9_better_84 (hd_aload_n C dX9_better_42) dX9_better_43)) dX9_better_46)) dX9_better_49 (by decide)) (hd_seq (p1 := 54) (hd_sistore C (p1 := 52) (hd_iconst C dX9_better_51 (by decide)) dX9_better_52 (by decide)) (hd_seq (p1 := 125) (hd_seq (p1 := 57) (hd_sistore C (p1 := 55) (hd_iconst C dX9_better_54 (by decide)) dX9_better_55 (by decide)) (hd_loop C (p1 := 66) (p2 := 125) (hd_c_leF C (p1 := 59) (p2 := 63) (tgt := 125) (hd_iload C dX9_better_57) (hd_inI (hd_invV C (p1 := 60) (p2 := 60) snd_X9_allHalls rfl gX9_better_X9_allHalls rfl yX9_better_X9_allHalls ⟨by decide, by decide⟩ (by decide) (hd_aload_n C dX9_better_59) hd_av0 dX9_better_60)) dX9_better_63 (by decide)) (hd_seq (p1 := 119) (hd_if (p1 := 78) (p2 := 119) (hd_z_neF C (p2 := 75) (tgt := 119) (hd_inI (hd_invS C (p2 := 72) snd_X9_areNear rfl gX9_better_X9_areNear yX9_better_X9_areNear ⟨by decide, by decide⟩ (by decide) (hd_apI (p1 := 68) (p2 := 72) (hd_apI (p1 := 66) (p2 := 68) hd_av0 (hd_iload C dX9_better_66)) (hd_getI C (p1 := 69) fX9_better_84 (hd_aload_n C dX9_better_68) dX9_better_69)) dX9_better_72)) dX9_better_75 (by decide)) (hd_seq (p1 := 87) (hd_sistore C (p1 := 85) (hd_inI (hd_invV C (p1 := 79) (p2 := 82) snd_X9_costOf rfl gX9_better_X9_costOf rfl yX9_better_X9_costOf ⟨by decide, by decide⟩ (by decide) (hd_aload_n C dX9_better_78) (hd_apI (p1 := 80) (p2 := 82) (hd_apI (p1 := 79) (p2 := 80) hd_av0 (hd_iload_n C dX9_better_79)) (hd_iload C dX9_better_80)) dX9_better_82)) dX9_better_85 (by decide)) (hd_seq (p1 := 103) (hd_sistore C (p1 := 101) (hd_tnI C (p1 := 94) (p2 := 96) (p3 := 99) (p4 := 101) (hd_c_ltF C (p1 := 89) (p2 := 91) (tgt := 99) (hd_iload C dX9_better_87) (hd_iload C dX9_better_89) dX9_better_91 (by decide)) (hd_iload C dX9_better_94) dX9_better_96 (by decide) (hd_iload C dX9_better_99)) dX9_better_101 (by decide)) (hd_sistore C (p1 := 117) (hd_tnI C (p1 := 110) (p2 := 112) (p3 := 115) (p4 := 117) (hd_c_ltF C (p1 := 105) (p2 := 107) (tgt := 115) (hd_iload C dX9_better_103) (hd_iload C dX9_better_105) dX9_better_107 (by decide)) (hd_iload C dX9_better_110) dX9_better_112 (by decide) (hd_iload C dX9_better_115)) dX9_better_117 (by decide)))) (by decide)) (hd_sgoto C (p1 := 122) (tgt := 57) (hd_ends (es := [122]) (by decide) (hd_siinc C dX9_better_119 (by decide) (by decide))) dX9_better_122 (by decide) (by decide))) (by decide))) (hd_seq (p1 := 138) (hd_sistore C (p1 := 136) (hd_boC C (p1 := 131) (p3 := 135) (p4 := 136) (hd_c_neF C (p1 := 127) (p2 := 128) (tgt := 135) (hd_iload C dX9_better_125) (hd_iconst C dX9_better_127 (by decide)) dX9_better_128 (by decide)) dX9_better_131 dX9_better_132 (by decide) dX9_better_135 rfl) dX9_better_136 (by decide)) (hd_seq (p1 := 156) (hd_sputI C (p1 := 139) (p2 := 153) qX9_better_84 (hd_aload_n C dX9_better_138) (hd_tnI C (p1 := 144) (p2 := 146) (p3 := 149) (p4 := 153) (hd_z_neF C (p2 := 141) (tgt := 149) (hd_iload C dX9_better_139) dX9_better_141 (by decide)) (hd_iload C dX9_better_144) dX9_better_146 (by decide) (hd_getI C (p1 := 150) fX9_better_84 (hd_aload_n C dX9_better_149) dX9_better_150)) dX9_better_153) (hd_ends (es := [169]) (by decide) (hd_sistore_n C (p1 := 168) (hd_iadd C (p1 := 157) (p2 := 167) (hd_iload_n C dX9_better_156) (hd_tnI C (p1 := 162) (p2 := 163) (p3 := 166) (p4 := 167) (hd_z_neF C (p2 := 159) (tgt := 166) (hd_iload C dX9_better_157) dX9_better_159 (by decide)) (hd_iconst C dX9_better_162 (by decide)) dX9_better_163 (by decide) (hd_iconst C dX9_better_166 (by decide))) dX9_better_167) dX9_better_168 (by decide)))))))) dX9_better_169 (by decide) (by decide)) (by decide)) (hd_retI C Rk (p1 := 173) (hd_iload_n C dX9_better_172) dX9_better_173)))))))
/-! X9_cost -/
set_option maxRecDepth 100000 in
theorem uX9_cost_X9 : ∀ w ∈ u_ws RX9 TX9 28, w ∈ wsX9_cost := by decide +kernel
set_option maxRecDepth 100000 in
theorem lX9_cost_58 : Cond.fieldLink RX9 58 (TX9 0).1 (TX9 0).2.1 (TX9 0).2.2.1 ∈ wsX9_cost := by decide +kernel
set_option maxRecDepth 100000 in
theorem qX9_cost_58 : hd_FP wsX9_cost RX9 vwCl 9 0 58 .int := ⟨RX9, TX9, 28, tyX9, rfl, by decide, uX9_cost_X9, lX9_cost_58, tyX9_ok, nmX9, rfl, rfl⟩
set_option maxRecDepth 100000 in
theorem yX9_cost_X9_isKind : yX9_isKind.cls ≠ "java/lang/invoke/MethodHandle" ∧ yX9_isKind.cls ≠ "java/lang/invoke/VarHandle" ∧ (parseMethodDescriptor yX9_isKind.desc).map (fun d => d.parameters.length) = some 1 := by decide +kernel
set_option maxRecDepth 100000 in
theorem lX9_cost_84 : Cond.fieldLink RX9 84 (TX9 14).1 (TX9 14).2.1 (TX9 14).2.2.1 ∈ wsX9_cost := by decide +kernel
set_option maxRecDepth 100000 in
theorem fX9_cost_84 : hd_F wsX9_cost RX9 vwCl 9 14 84 := ⟨RX9, TX9, 28, rfl, by decide, uX9_cost_X9, lX9_cost_84⟩
set_option maxRecDepth 100000 in
theorem yX9_cost_X9_costOf : yX9_costOf.cls = RX9 ∧ yX9_costOf.cls ≠ "java/lang/invoke/MethodHandle" ∧ yX9_costOf.cls ≠ "java/lang/invoke/VarHandle" ∧ (parseMethodDescriptor yX9_costOf.desc).map (fun d => d.parameters.length) = some 2 := by decide +kernel
set_option maxRecDepth 100000 in
theorem wX9_cost_7 : Cond.constant RX9 121 (2000000000) ∈ wsX9_cost := by decide +kernel
def wo_X9_cost : hd_xS := (hd_sQ (hd_sF hs_sh 9 0 (hd_rL 0) (hd_iK (0))) (hd_sQ (hd_sW (hd_cX (hd_c0 (fun x => !decide (x = 0)) (hd_iN (hd_nS 1 (hd_pI hd_v0 (hd_iL 1)) wm_X9_isKind)))) (hd_sRI (hd_iK (-3)))) (hd_sQ (hd_sI 2 (hd_iN (hd_nV hs_sh 9 (hd_rL 0) 2 (hd_pI (hd_pI hd_v0 (hd_iL 1)) (hd_iG hs_sh 9 14 (hd_rL 0))) wm_X9_costOf))) (hd_sRI (hd_iQ (hd_cI (fun x y => decide (x = y)) (hd_iL 2) (hd_iK (2000000000))) (hd_iK (-1)) (hd_iL 2))))))
def wm_X9_cost : hd_M := hd_mth 3 wo_X9_cost
set_option maxHeartbeats 4000000 in
set_option maxRecDepth 100000 in
theorem snd_X9_cost : hd_Snd vwCl hs_sh yX9_cost wsX9_cost 6 wm_X9_cost := hd_method (by decide) rfl rfl (by decide) (fun κ C Rk => (hd_seq (p1 := 5) (hd_sputI C (p1 := 1) (p2 := 2) qX9_cost_58 (hd_aload_n C dX9_cost_0) (hd_iconst C dX9_cost_1 (by decide)) dX9_cost_2) (hd_seq (p1 := 15) (hd_if (p1 := 12) (p2 := 15) (hd_not (hd_z_neT C (p2 := 9) (tgt := 15) (hd_inI (hd_invS C (p2 := 6) snd_X9_isKind rfl gX9_cost_X9_isKind yX9_cost_X9_isKind ⟨by decide, by decide⟩ (by decide) (hd_apI (p1 := 5) (p2 := 6) hd_av0 (hd_iload_n C dX9_cost_5)) dX9_cost_6)) dX9_cost_9 (by decide))) (hd_retI C Rk (p1 := 14) (hd_bipush C dX9_cost_12 (by decide)) dX9_cost_14) (by decide)) (hd_seq (p1 := 25) (hd_sistore_n C (p1 := 24) (hd_inI (hd_invV C (p1 := 16) (p2 := 21) snd_X9_costOf rfl gX9_cost_X9_costOf rfl yX9_cost_X9_costOf ⟨by decide, by decide⟩ (by decide) (hd_aload_n C dX9_cost_15) (hd_apI (p1 := 17) (p2 := 21) (hd_apI (p1 := 16) (p2 := 17) hd_av0 (hd_iload_n C dX9_cost_16)) (hd_getI C (p1 := 18) fX9_cost_84 (hd_aload_n C dX9_cost_17) dX9_cost_18)) dX9_cost_21)) dX9_cost_24 (by decide)) (hd_retI C Rk (p1 := 36) (hd_tnI C (p1 := 31) (p2 := 32) (p3 := 35) (p4 := 36) (hd_c_eqF C (p1 := 26) (p2 := 28) (tgt := 35) (hd_iload_n C dX9_cost_25) (hd_ldc C wX9_cost_7 dX9_cost_26) dX9_cost_28 (by decide)) (hd_iconst C dX9_cost_31 (by decide)) dX9_cost_32 (by decide) (hd_iload_n C dX9_cost_35)) dX9_cost_36)))))
/-! X9_search -/
set_option maxRecDepth 100000 in
theorem wX9_search_0 : Cond.constant RX9 121 (2000000000) ∈ wsX9_search := by decide +kernel
set_option maxRecDepth 100000 in
theorem uX9_search_X9 : ∀ w ∈ u_ws RX9 TX9 28, w ∈ wsX9_search := by decide +kernel
set_option maxRecDepth 100000 in
theorem lX9_search_153 : Cond.fieldLink RX9 153 (TX9 21).1 (TX9 21).2.1 (TX9 21).2.2.1 ∈ wsX9_search := by decide +kernel
set_option maxRecDepth 100000 in
theorem qX9_search_153 : hd_FP wsX9_search RX9 vwCl 9 21 153 .int := ⟨RX9, TX9, 28, tyX9, rfl, by decide, uX9_search_X9, lX9_search_153, tyX9_ok, nmX9, rfl, rfl⟩
set_option maxRecDepth 100000 in
theorem lX9_search_156 : Cond.fieldLink RX9 156 (TX9 22).1 (TX9 22).2.1 (TX9 22).2.2.1 ∈ wsX9_search := by decide +kernel
set_option maxRecDepth 100000 in
theorem qX9_search_156 : hd_FP wsX9_search RX9 vwCl 9 22 156 .int := ⟨RX9, TX9, 28, tyX9, rfl, by decide, uX9_search_X9, lX9_search_156, tyX9_ok, nmX9, rfl, rfl⟩
set_option maxRecDepth 100000 in
theorem lX9_search_159 : Cond.fieldLink RX9 159 (TX9 23).1 (TX9 23).2.1 (TX9 23).2.2.1 ∈ wsX9_search := by decide +kernel
set_option maxRecDepth 100000 in
theorem qX9_search_159 : hd_FP wsX9_search RX9 vwCl 9 23 159 .int := ⟨RX9, TX9, 28, tyX9, rfl, by decide, uX9_search_X9, lX9_search_159, tyX9_ok, nmX9, rfl, rfl⟩
set_option maxRecDepth 100000 in
theorem yX9_search_X9_allHalls : yX9_allHalls.cls = RX9 ∧ yX9_allHalls.cls ≠ "java/lang/invoke/MethodHandle" ∧ yX9_allHalls.cls ≠ "java/lang/invoke/VarHandle" ∧ (parseMethodDescriptor yX9_allHalls.desc).map (fun d => d.parameters.length) = some 0 := by decide +kernel
set_option maxRecDepth 100000 in
theorem yX9_search_X9_sizeOf : yX9_sizeOf.cls ≠ "java/lang/invoke/MethodHandle" ∧ yX9_sizeOf.cls ≠ "java/lang/invoke/VarHandle" ∧ (parseMethodDescriptor yX9_sizeOf.desc).map (fun d => d.parameters.length) = some 1 := by decide +kernel
set_option maxRecDepth 100000 in
theorem yX9_search_X9_costOf : yX9_costOf.cls = RX9 ∧ yX9_costOf.cls ≠ "java/lang/invoke/MethodHandle" ∧ yX9_costOf.cls ≠ "java/lang/invoke/VarHandle" ∧ (parseMethodDescriptor yX9_costOf.desc).map (fun d => d.parameters.length) = some 2 := by decide +kernel
set_option maxRecDepth 100000 in
theorem fX9_search_153 : hd_F wsX9_search RX9 vwCl 9 21 153 := ⟨RX9, TX9, 28, rfl, by decide, uX9_search_X9, lX9_search_153⟩
set_option maxRecDepth 100000 in
theorem fX9_search_156 : hd_F wsX9_search RX9 vwCl 9 22 156 := ⟨RX9, TX9, 28, rfl, by decide, uX9_search_X9, lX9_search_156⟩
set_option maxRecDepth 100000 in
theorem fX9_search_159 : hd_F wsX9_search RX9 vwCl 9 23 159 := ⟨RX9, TX9, 28, rfl, by decide, uX9_search_X9, lX9_search_159⟩
def wc_X9_search_19 : hd_xC := (hd_cI (fun x y => decide (x ≤ y)) (hd_iL 4) (hd_iN (hd_nV hs_sh 9 (hd_rL 0) 0 hd_v0 wm_X9_allHalls)))
def wb_X9_search_19 : hd_xS := (hd_sQ (hd_sW (hd_cO (hd_cI (fun x y => decide (x = y)) (hd_iL 2) (hd_iK (-1))) (hd_cI (fun x y => decide (x = y)) (hd_iN (hd_nS 1 (hd_pI hd_v0 (hd_iL 4)) wm_X9_sizeOf)) (hd_iL 2))) (hd_sQ (hd_sI 5 (hd_iN (hd_nV hs_sh 9 (hd_rL 0) 2 (hd_pI (hd_pI hd_v0 (hd_iL 1)) (hd_iL 4)) wm_X9_costOf))) (hd_sQ (hd_sW (hd_cI (fun x y => decide (x < y)) (hd_iL 5) (hd_iG hs_sh 9 21 (hd_rL 0))) (hd_sQ (hd_sF hs_sh 9 21 (hd_rL 0) (hd_iL 5)) (hd_sQ (hd_sF hs_sh 9 22 (hd_rL 0) (hd_iK (0))) (hd_sF hs_sh 9 23 (hd_rL 0) (hd_iK (-1)))))) (hd_sW (hd_cA (hd_cI (fun x y => decide (x = y)) (hd_iL 5) (hd_iG hs_sh 9 21 (hd_rL 0))) (hd_cI (fun x y => decide (x < y)) (hd_iL 5) (hd_iK (2000000000)))) (hd_sQ (hd_sF hs_sh 9 23 (hd_rL 0) (hd_iQ (hd_cI (fun x y => decide (x = y)) (hd_iG hs_sh 9 22 (hd_rL 0)) (hd_iL 3)) (hd_iL 4) (hd_iG hs_sh 9 23 (hd_rL 0)))) (hd_sG (fun x y => x + y) hs_sh 9 22 (hd_rL 0) (hd_iK (1)))))))) (hd_sP 4 (1)))
def wo_X9_search : hd_xS := (hd_sQ (hd_sF hs_sh 9 21 (hd_rL 0) (hd_iK (2000000000))) (hd_sQ (hd_sF hs_sh 9 22 (hd_rL 0) (hd_iK (0))) (hd_sQ (hd_sF hs_sh 9 23 (hd_rL 0) (hd_iK (-1))) (hd_sQ (hd_sQ (hd_sI 4 (hd_iK (0))) (hd_sH (wc_X9_search_19) (wb_X9_search_19))) hd_sRV))))
def wm_X9_search : hd_M := hd_mth 6 wo_X9_search
set_option maxHeartbeats 4000000 in
set_option maxRecDepth 100000 in
theorem snd_X9_search : hd_Snd vwCl hs_sh yX9_search wsX9_search 6 wm_X9_search := hd_method (by decide) rfl rfl (by decide) (fun κ C Rk => (hd_seq (p1 := 6) (hd_sputI C (p1 := 1) (p2 := 3) qX9_search_153 (hd_aload_n C dX9_search_0) (hd_ldc C wX9_search_0 dX9_search_1) dX9_search_3) (hd_seq (p1 := 11) (hd_sputI C (p1 := 7) (p2 := 8) qX9_search_156 (hd_aload_n C dX9_search_6) (hd_iconst C dX9_search_7 (by decide)) dX9_search_8) (hd_seq (p1 := 16) (hd_sputI C (p1 := 12) (p2 := 13) qX9_search_159 (hd_aload_n C dX9_search_11) (hd_iconst C dX9_search_12 (by decide)) dX9_search_13) (hd_seq (p1 := 129) (hd_seq (p1 := 19) (hd_sistore C (p1 := 17) (hd_iconst C dX9_search_16 (by decide)) dX9_search_17 (by decide)) (hd_loop C (p1 := 28) (p2 := 129) (hd_c_leF C (p1 := 21) (p2 := 25) (tgt := 129) (hd_iload C dX9_search_19) (hd_inI (hd_invV C (p1 := 22) (p2 := 22) snd_X9_allHalls rfl gX9_search_X9_allHalls rfl yX9_search_X9_allHalls ⟨by decide, by decide⟩ (by decide) (hd_aload_n C dX9_search_21) hd_av0 dX9_search_22)) dX9_search_25 (by decide)) (hd_seq (p1 := 123) (hd_if (p1 := 42) (p2 := 123) (hd_or (p1 := 33) (p2 := 42) (p3 := 123) (hd_c_eqT C (p1 := 29) (p2 := 30) (tgt := 42) (hd_iload_n C dX9_search_28) (hd_iconst C dX9_search_29 (by decide)) dX9_search_30 (by decide)) (hd_c_eqF C (p1 := 38) (p2 := 39) (tgt := 123) (hd_inI (hd_invS C (p2 := 35) snd_X9_sizeOf rfl gX9_search_X9_sizeOf yX9_search_X9_sizeOf ⟨by decide, by decide⟩ (by decide) (hd_apI (p1 := 33) (p2 := 35) hd_av0 (hd_iload C dX9_search_33)) dX9_search_35)) (hd_iload_n C dX9_search_38) dX9_search_39 (by decide))) (hd_seq (p1 := 51) (hd_sistore C (p1 := 49) (hd_inI (hd_invV C (p1 := 43) (p2 := 46) snd_X9_costOf rfl gX9_search_X9_costOf rfl yX9_search_X9_costOf ⟨by decide, by decide⟩ (by decide) (hd_aload_n C dX9_search_42) (hd_apI (p1 := 44) (p2 := 46) (hd_apI (p1 := 43) (p2 := 44) hd_av0 (hd_iload_n C dX9_search_43)) (hd_iload C dX9_search_44)) dX9_search_46)) dX9_search_49 (by decide)) (hd_seq (p1 := 76) (hd_if (p1 := 60) (p2 := 76) (hd_c_ltF C (p1 := 53) (p2 := 57) (tgt := 76) (hd_iload C dX9_search_51) (hd_getI C (p1 := 54) fX9_search_153 (hd_aload_n C dX9_search_53) dX9_search_54) dX9_search_57 (by decide)) (hd_seq (p1 := 66) (hd_sputI C (p1 := 61) (p2 := 63) qX9_search_153 (hd_aload_n C dX9_search_60) (hd_iload C dX9_search_61) dX9_search_63) (hd_seq (p1 := 71) (hd_sputI C (p1 := 67) (p2 := 68) qX9_search_156 (hd_aload_n C dX9_search_66) (hd_iconst C dX9_search_67 (by decide)) dX9_search_68) (hd_sputI C (p1 := 72) (p2 := 73) qX9_search_159 (hd_aload_n C dX9_search_71) (hd_iconst C dX9_search_72 (by decide)) dX9_search_73))) (by decide)) (hd_if (p1 := 92) (p2 := 123) (hd_and (p1 := 85) (p2 := 92) (p3 := 123) (hd_c_eqF C (p1 := 78) (p2 := 82) (tgt := 123) (hd_iload C dX9_search_76) (hd_getI C (p1 := 79) fX9_search_153 (hd_aload_n C dX9_search_78) dX9_search_79) dX9_search_82 (by decide)) (hd_c_ltF C (p1 := 87) (p2 := 89) (tgt := 123) (hd_iload C dX9_search_85) (hd_ldc C wX9_search_0 dX9_search_87) dX9_search_89 (by decide))) (hd_seq (p1 := 113) (hd_sputI C (p1 := 93) (p2 := 110) qX9_search_159 (hd_aload_n C dX9_search_92) (hd_tnI C (p1 := 101) (p2 := 103) (p3 := 106) (p4 := 110) (hd_c_eqF C (p1 := 97) (p2 := 98) (tgt := 106) (hd_getI C (p1 := 94) fX9_search_156 (hd_aload_n C dX9_search_93) dX9_search_94) (hd_iload_n C dX9_search_97) dX9_search_98 (by decide)) (hd_iload C dX9_search_101) dX9_search_103 (by decide) (hd_getI C (p1 := 107) fX9_search_159 (hd_aload_n C dX9_search_106) dX9_search_107)) dX9_search_110) (hd_sfld_iadd C (p1 := 114) (p2 := 119) fX9_search_156 qX9_search_156 (hd_aload_n C dX9_search_113) dX9_search_114 dX9_search_115 (hd_iconst C dX9_search_118 (by decide)) dX9_search_119 dX9_search_120)) (by decide)))) (by decide)) (hd_sgoto C (p1 := 126) (tgt := 19) (hd_ends (es := [126]) (by decide) (hd_siinc C dX9_search_123 (by decide) (by decide))) dX9_search_126 (by decide) (by decide))) (by decide))) (hd_retV C Rk dX9_search_129))))))
/-! X9_worst -/
set_option maxRecDepth 100000 in
theorem uX9_worst_X9 : ∀ w ∈ u_ws RX9 TX9 28, w ∈ wsX9_worst := by decide +kernel
set_option maxRecDepth 100000 in
theorem lX9_worst_58 : Cond.fieldLink RX9 58 (TX9 0).1 (TX9 0).2.1 (TX9 0).2.2.1 ∈ wsX9_worst := by decide +kernel
set_option maxRecDepth 100000 in
theorem qX9_worst_58 : hd_FP wsX9_worst RX9 vwCl 9 0 58 .int := ⟨RX9, TX9, 28, tyX9, rfl, by decide, uX9_worst_X9, lX9_worst_58, tyX9_ok, nmX9, rfl, rfl⟩
set_option maxRecDepth 100000 in
theorem lX9_worst_84 : Cond.fieldLink RX9 84 (TX9 14).1 (TX9 14).2.1 (TX9 14).2.2.1 ∈ wsX9_worst := by decide +kernel
set_option maxRecDepth 100000 in
theorem fX9_worst_84 : hd_F wsX9_worst RX9 vwCl 9 14 84 := ⟨RX9, TX9, 28, rfl, by decide, uX9_worst_X9, lX9_worst_84⟩
set_option maxRecDepth 100000 in
theorem yX9_worst_X9_costOf : yX9_costOf.cls = RX9 ∧ yX9_costOf.cls ≠ "java/lang/invoke/MethodHandle" ∧ yX9_costOf.cls ≠ "java/lang/invoke/VarHandle" ∧ (parseMethodDescriptor yX9_costOf.desc).map (fun d => d.parameters.length) = some 2 := by decide +kernel
set_option maxRecDepth 100000 in
theorem wX9_worst_6 : Cond.constant RX9 121 (2000000000) ∈ wsX9_worst := by decide +kernel
set_option maxRecDepth 100000 in
theorem yX9_worst_X9_worstClosed : yX9_worstClosed.cls = RX9 ∧ yX9_worstClosed.cls ≠ "java/lang/invoke/MethodHandle" ∧ yX9_worstClosed.cls ≠ "java/lang/invoke/VarHandle" ∧ (parseMethodDescriptor yX9_worstClosed.desc).map (fun d => d.parameters.length) = some 1 := by decide +kernel
set_option maxRecDepth 100000 in
theorem yX9_worst_X9_worstRival : yX9_worstRival.cls = RX9 ∧ yX9_worstRival.cls ≠ "java/lang/invoke/MethodHandle" ∧ yX9_worstRival.cls ≠ "java/lang/invoke/VarHandle" ∧ (parseMethodDescriptor yX9_worstRival.desc).map (fun d => d.parameters.length) = some 1 := by decide +kernel
def wo_X9_worst : hd_xS := (hd_sQ (hd_sF hs_sh 9 0 (hd_rL 0) (hd_iK (0))) (hd_sQ (hd_sW (hd_cA (hd_cI (fun x y => !decide (x = y)) (hd_iL 1) (hd_iK (5))) (hd_cI (fun x y => !decide (x = y)) (hd_iL 1) (hd_iK (6)))) (hd_sRI (hd_iK (-3)))) (hd_sQ (hd_sW (hd_cI (fun x y => decide (x = y)) (hd_iN (hd_nV hs_sh 9 (hd_rL 0) 2 (hd_pI (hd_pI hd_v0 (hd_iL 1)) (hd_iG hs_sh 9 14 (hd_rL 0))) wm_X9_costOf)) (hd_iK (2000000000))) (hd_sRI (hd_iK (-1)))) (hd_sRI (hd_iQ (hd_cI (fun x y => decide (x = y)) (hd_iL 1) (hd_iK (5))) (hd_iN (hd_nV hs_sh 9 (hd_rL 0) 1 (hd_pI hd_v0 (hd_iG hs_sh 9 14 (hd_rL 0))) wm_X9_worstClosed)) (hd_iN (hd_nV hs_sh 9 (hd_rL 0) 1 (hd_pI hd_v0 (hd_iG hs_sh 9 14 (hd_rL 0))) wm_X9_worstRival)))))))
def wm_X9_worst : hd_M := hd_mth 2 wo_X9_worst
set_option maxHeartbeats 4000000 in
set_option maxRecDepth 100000 in
theorem snd_X9_worst : hd_Snd vwCl hs_sh yX9_worst wsX9_worst 6 wm_X9_worst := hd_method (by decide) rfl rfl (by decide) (fun κ C Rk => (hd_seq (p1 := 5) (hd_sputI C (p1 := 1) (p2 := 2) qX9_worst_58 (hd_aload_n C dX9_worst_0) (hd_iconst C dX9_worst_1 (by decide)) dX9_worst_2) (hd_seq (p1 := 19) (hd_if (p1 := 16) (p2 := 19) (hd_and (p1 := 10) (p2 := 16) (p3 := 19) (hd_c_neF C (p1 := 6) (p2 := 7) (tgt := 19) (hd_iload_n C dX9_worst_5) (hd_iconst C dX9_worst_6 (by decide)) dX9_worst_7 (by decide)) (hd_c_neF C (p1 := 11) (p2 := 13) (tgt := 19) (hd_iload_n C dX9_worst_10) (hd_bipush C dX9_worst_11 (by decide)) dX9_worst_13 (by decide))) (hd_retI C Rk (p1 := 18) (hd_bipush C dX9_worst_16 (by decide)) dX9_worst_18) (by decide)) (hd_seq (p1 := 35) (hd_if (p1 := 33) (p2 := 35) (hd_c_eqF C (p1 := 28) (p2 := 30) (tgt := 35) (hd_inI (hd_invV C (p1 := 20) (p2 := 25) snd_X9_costOf rfl gX9_worst_X9_costOf rfl yX9_worst_X9_costOf ⟨by decide, by decide⟩ (by decide) (hd_aload_n C dX9_worst_19) (hd_apI (p1 := 21) (p2 := 25) (hd_apI (p1 := 20) (p2 := 21) hd_av0 (hd_iload_n C dX9_worst_20)) (hd_getI C (p1 := 22) fX9_worst_84 (hd_aload_n C dX9_worst_21) dX9_worst_22)) dX9_worst_25)) (hd_ldc C wX9_worst_6 dX9_worst_28) dX9_worst_30 (by decide)) (hd_retI C Rk (p1 := 34) (hd_iconst C dX9_worst_33 (by decide)) dX9_worst_34) (by decide)) (hd_retI C Rk (p1 := 59) (hd_tnI C (p1 := 40) (p2 := 48) (p3 := 51) (p4 := 59) (hd_c_eqF C (p1 := 36) (p2 := 37) (tgt := 51) (hd_iload_n C dX9_worst_35) (hd_iconst C dX9_worst_36 (by decide)) dX9_worst_37 (by decide)) (hd_inI (hd_invV C (p1 := 41) (p2 := 45) snd_X9_worstClosed rfl gX9_worst_X9_worstClosed rfl yX9_worst_X9_worstClosed ⟨by decide, by decide⟩ (by decide) (hd_aload_n C dX9_worst_40) (hd_apI (p1 := 41) (p2 := 45) hd_av0 (hd_getI C (p1 := 42) fX9_worst_84 (hd_aload_n C dX9_worst_41) dX9_worst_42)) dX9_worst_45)) dX9_worst_48 (by decide) (hd_inI (hd_invV C (p1 := 52) (p2 := 56) snd_X9_worstRival rfl gX9_worst_X9_worstRival rfl yX9_worst_X9_worstRival ⟨by decide, by decide⟩ (by decide) (hd_aload_n C dX9_worst_51) (hd_apI (p1 := 52) (p2 := 56) hd_av0 (hd_getI C (p1 := 53) fX9_worst_84 (hd_aload_n C dX9_worst_52) dX9_worst_53)) dX9_worst_56))) dX9_worst_59)))))
/-! X8_best -/
set_option maxRecDepth 100000 in
theorem yX8_best_X8_isQuestion : yX8_isQuestion.cls ≠ "java/lang/invoke/MethodHandle" ∧ yX8_isQuestion.cls ≠ "java/lang/invoke/VarHandle" ∧ (parseMethodDescriptor yX8_isQuestion.desc).map (fun d => d.parameters.length) = some 2 := by decide +kernel
set_option maxRecDepth 100000 in
theorem yX8_best_X8_freshCosts : yX8_freshCosts.cls = RX8 ∧ yX8_freshCosts.cls ≠ "java/lang/invoke/MethodHandle" ∧ yX8_freshCosts.cls ≠ "java/lang/invoke/VarHandle" ∧ (parseMethodDescriptor yX8_freshCosts.desc).map (fun d => d.parameters.length) = some 0 := by decide +kernel
set_option maxRecDepth 100000 in
theorem yX8_best_X1_seekBest : yX1_seekBest.cls = RX1 ∧ yX1_seekBest.cls ≠ "java/lang/invoke/MethodHandle" ∧ yX1_seekBest.cls ≠ "java/lang/invoke/VarHandle" ∧ (parseMethodDescriptor yX1_seekBest.desc).map (fun d => d.parameters.length) = some 2 := by decide +kernel
set_option maxRecDepth 100000 in
theorem uX8_best_X8 : ∀ w ∈ u_ws RX8 TX8 9, w ∈ wsX8_best := by decide +kernel
set_option maxRecDepth 100000 in
theorem lX8_best_46 : Cond.fieldLink RX8 46 (TX8 4).1 (TX8 4).2.1 (TX8 4).2.2.1 ∈ wsX8_best := by decide +kernel
set_option maxRecDepth 100000 in
theorem fX8_best_46 : hd_F wsX8_best RX8 vwCl 8 4 46 := ⟨RX8, TX8, 9, rfl, by decide, uX8_best_X8, lX8_best_46⟩
set_option maxRecDepth 100000 in
theorem yX8_best_X1_bestAt : yX1_bestAt.cls = RX1 ∧ yX1_bestAt.cls ≠ "java/lang/invoke/MethodHandle" ∧ yX1_bestAt.cls ≠ "java/lang/invoke/VarHandle" ∧ (parseMethodDescriptor yX1_bestAt.desc).map (fun d => d.parameters.length) = some 1 := by decide +kernel
set_option maxRecDepth 100000 in
theorem lX8_best_167 : Cond.fieldLink RX8 167 (TX8 8).1 (TX8 8).2.1 (TX8 8).2.2.1 ∈ wsX8_best := by decide +kernel
set_option maxRecDepth 100000 in
theorem qX8_best_167 : hd_FP wsX8_best RX8 vwCl 8 8 167 .int := ⟨RX8, TX8, 9, tyX8, rfl, by decide, uX8_best_X8, lX8_best_167, tyX8_ok, nmX8, rfl, rfl⟩
def wo_X8_best : hd_xS := (hd_sQ (hd_sW (hd_cO (hd_cX (hd_c0 (fun x => !decide (x = 0)) (hd_iN (hd_nS 2 (hd_pI (hd_pI hd_v0 (hd_iL 1)) (hd_iL 2)) wm_X8_isQuestion)))) (hd_c0 (fun x => decide (x < 0)) (hd_iL 3))) (hd_sRI (hd_iK (-3)))) (hd_sQ (hd_sN (hd_nV hs_sh 1 (hd_rN (hd_nV hs_sh 8 (hd_rL 0) 0 hd_v0 wm_X8_freshCosts)) 2 (hd_pI (hd_pI hd_v0 (hd_iL 1)) (hd_iL 2)) wm_X1_seekBest)) (hd_sQ (hd_sI 4 (hd_iN (hd_nV hs_sh 1 (hd_rG hs_sh 8 4 (hd_rL 0)) 1 (hd_pI hd_v0 (hd_iL 3)) wm_X1_bestAt))) (hd_sQ (hd_sW (hd_cI (fun x y => !decide (x = y)) (hd_iL 4) (hd_iK (-1))) (hd_sF hs_sh 8 8 (hd_rL 0) (hd_iL 4))) (hd_sRI (hd_iL 4))))))
def wm_X8_best : hd_M := hd_mth 5 wo_X8_best
set_option maxHeartbeats 4000000 in
set_option maxRecDepth 100000 in
theorem snd_X8_best : hd_Snd vwCl hs_sh yX8_best wsX8_best 7 wm_X8_best := hd_method (by decide) rfl rfl (by decide) (fun κ C Rk => (hd_seq (p1 := 15) (hd_if (p1 := 12) (p2 := 15) (hd_or (p1 := 8) (p2 := 12) (p3 := 15) (hd_not (hd_z_neF C (p2 := 5) (tgt := 12) (hd_inI (hd_invS C (p2 := 2) snd_X8_isQuestion rfl gX8_best_X8_isQuestion yX8_best_X8_isQuestion ⟨by decide, by decide⟩ (by decide) (hd_apI (p1 := 1) (p2 := 2) (hd_apI (p1 := 0) (p2 := 1) hd_av0 (hd_iload_n C dX8_best_0)) (hd_iload_n C dX8_best_1)) dX8_best_2)) dX8_best_5 (by decide))) (hd_z_ltF C (p2 := 9) (tgt := 15) (hd_iload_n C dX8_best_8) dX8_best_9 (by decide))) (hd_retI C Rk (p1 := 14) (hd_bipush C dX8_best_12 (by decide)) dX8_best_14) (by decide)) (hd_seq (p1 := 24) (hd_scall (hd_invV C (p1 := 19) (p2 := 21) snd_X1_seekBest rfl gX8_best_X1_seekBest rfl yX8_best_X1_seekBest ⟨by decide, by decide⟩ (by decide) (hd_inR (hd_invV C (p1 := 16) (p2 := 16) snd_X8_freshCosts rfl gX8_best_X8_freshCosts rfl yX8_best_X8_freshCosts ⟨by decide, by decide⟩ (by decide) (hd_aload_n C dX8_best_15) hd_av0 dX8_best_16)) (hd_apI (p1 := 20) (p2 := 21) (hd_apI (p1 := 19) (p2 := 20) hd_av0 (hd_iload_n C dX8_best_19)) (hd_iload_n C dX8_best_20)) dX8_best_21)) (hd_seq (p1 := 34) (hd_sistore C (p1 := 32) (hd_inI (hd_invV C (p1 := 28) (p2 := 29) snd_X1_bestAt rfl gX8_best_X1_bestAt rfl yX8_best_X1_bestAt ⟨by decide, by decide⟩ (by decide) (hd_getR C (p1 := 25) fX8_best_46 (hd_aload_n C dX8_best_24) dX8_best_25) (hd_apI (p1 := 28) (p2 := 29) hd_av0 (hd_iload_n C dX8_best_28)) dX8_best_29)) dX8_best_32 (by decide)) (hd_seq (p1 := 46) (hd_if (p1 := 40) (p2 := 46) (hd_c_neF C (p1 := 36) (p2 := 37) (tgt := 46) (hd_iload C dX8_best_34) (hd_iconst C dX8_best_36 (by decide)) dX8_best_37 (by decide)) (hd_sputI C (p1 := 41) (p2 := 43) qX8_best_167 (hd_aload_n C dX8_best_40) (hd_iload C dX8_best_41) dX8_best_43) (by decide)) (hd_retI C Rk (p1 := 48) (hd_iload C dX8_best_46) dX8_best_48))))))
/-! X8_better -/
set_option maxRecDepth 100000 in
theorem yX8_better_X8_isKind : yX8_isKind.cls ≠ "java/lang/invoke/MethodHandle" ∧ yX8_isKind.cls ≠ "java/lang/invoke/VarHandle" ∧ (parseMethodDescriptor yX8_isKind.desc).map (fun d => d.parameters.length) = some 1 := by decide +kernel
set_option maxRecDepth 100000 in
theorem yX8_better_X8_within : yX8_within.cls ≠ "java/lang/invoke/MethodHandle" ∧ yX8_within.cls ≠ "java/lang/invoke/VarHandle" ∧ (parseMethodDescriptor yX8_within.desc).map (fun d => d.parameters.length) = some 3 := by decide +kernel
set_option maxRecDepth 100000 in
theorem yX8_better_X8_freshCosts : yX8_freshCosts.cls = RX8 ∧ yX8_freshCosts.cls ≠ "java/lang/invoke/MethodHandle" ∧ yX8_freshCosts.cls ≠ "java/lang/invoke/VarHandle" ∧ (parseMethodDescriptor yX8_freshCosts.desc).map (fun d => d.parameters.length) = some 0 := by decide +kernel
set_option maxRecDepth 100000 in
theorem yX8_better_X1_seekBest : yX1_seekBest.cls = RX1 ∧ yX1_seekBest.cls ≠ "java/lang/invoke/MethodHandle" ∧ yX1_seekBest.cls ≠ "java/lang/invoke/VarHandle" ∧ (parseMethodDescriptor yX1_seekBest.desc).map (fun d => d.parameters.length) = some 2 := by decide +kernel
set_option maxRecDepth 100000 in
theorem uX8_better_X8 : ∀ w ∈ u_ws RX8 TX8 9, w ∈ wsX8_better := by decide +kernel
set_option maxRecDepth 100000 in
theorem lX8_better_46 : Cond.fieldLink RX8 46 (TX8 4).1 (TX8 4).2.1 (TX8 4).2.2.1 ∈ wsX8_better := by decide +kernel
set_option maxRecDepth 100000 in
theorem fX8_better_46 : hd_F wsX8_better RX8 vwCl 8 4 46 := ⟨RX8, TX8, 9, rfl, by decide, uX8_better_X8, lX8_better_46⟩
set_option maxRecDepth 100000 in
theorem lX8_better_167 : Cond.fieldLink RX8 167 (TX8 8).1 (TX8 8).2.1 (TX8 8).2.2.1 ∈ wsX8_better := by decide +kernel
set_option maxRecDepth 100000 in
theorem fX8_better_167 : hd_F wsX8_better RX8 vwCl 8 8 167 := ⟨RX8, TX8, 9, rfl, by decide, uX8_better_X8, lX8_better_167⟩
set_option maxRecDepth 100000 in
theorem yX8_better_X1_cheapestBeside : yX1_cheapestBeside.cls = RX1 ∧ yX1_cheapestBeside.cls ≠ "java/lang/invoke/MethodHandle" ∧ yX1_cheapestBeside.cls ≠ "java/lang/invoke/VarHandle" ∧ (parseMethodDescriptor yX1_cheapestBeside.desc).map (fun d => d.parameters.length) = some 1 := by decide +kernel
set_option maxRecDepth 100000 in
theorem qX8_better_167 : hd_FP wsX8_better RX8 vwCl 8 8 167 .int := ⟨RX8, TX8, 9, tyX8, rfl, by decide, uX8_better_X8, lX8_better_167, tyX8_ok, nmX8, rfl, rfl⟩
def wc_X8_better_31 : hd_xC := (hd_cI (fun x y => decide (x < y)) (hd_iL 3) (hd_iL 2))
def wb_X8_better_31 : hd_xS := (hd_sQ (hd_sQ (hd_sI 4 (hd_iN (hd_nV hs_sh 1 (hd_rG hs_sh 8 4 (hd_rL 0)) 1 (hd_pI hd_v0 (hd_iG hs_sh 8 8 (hd_rL 0))) wm_X1_cheapestBeside))) (hd_sQ (hd_sW (hd_cI (fun x y => decide (x = y)) (hd_iL 4) (hd_iG hs_sh 8 8 (hd_rL 0))) (hd_sRI (hd_iL 3))) (hd_sF hs_sh 8 8 (hd_rL 0) (hd_iL 4)))) (hd_sP 3 (1)))
def wo_X8_better : hd_xS := (hd_sQ (hd_sW (hd_cO (hd_cX (hd_c0 (fun x => !decide (x = 0)) (hd_iN (hd_nS 1 (hd_pI hd_v0 (hd_iL 1)) wm_X8_isKind)))) (hd_cX (hd_c0 (fun x => !decide (x = 0)) (hd_iN (hd_nS 3 (hd_pI (hd_pI (hd_pI hd_v0 (hd_iL 2)) (hd_iK (1))) (hd_iK (60))) wm_X8_within))))) (hd_sRI (hd_iK (-3)))) (hd_sQ (hd_sN (hd_nV hs_sh 1 (hd_rN (hd_nV hs_sh 8 (hd_rL 0) 0 hd_v0 wm_X8_freshCosts)) 2 (hd_pI (hd_pI hd_v0 (hd_iL 1)) (hd_iK (-1))) wm_X1_seekBest)) (hd_sQ (hd_sQ (hd_sI 3 (hd_iK (0))) (hd_sH (wc_X8_better_31) (wb_X8_better_31))) (hd_sRI (hd_iL 2)))))
def wm_X8_better : hd_M := hd_mth 5 wo_X8_better
set_option maxHeartbeats 4000000 in
set_option maxRecDepth 100000 in
theorem snd_X8_better : hd_Snd vwCl hs_sh yX8_better wsX8_better 7 wm_X8_better := hd_method (by decide) rfl rfl (by decide) (fun κ C Rk => (hd_seq (p1 := 20) (hd_if (p1 := 17) (p2 := 20) (hd_or (p1 := 7) (p2 := 17) (p3 := 20) (hd_not (hd_z_neF C (p2 := 4) (tgt := 17) (hd_inI (hd_invS C (p2 := 1) snd_X8_isKind rfl gX8_better_X8_isKind yX8_better_X8_isKind ⟨by decide, by decide⟩ (by decide) (hd_apI (p1 := 0) (p2 := 1) hd_av0 (hd_iload_n C dX8_better_0)) dX8_better_1)) dX8_better_4 (by decide))) (hd_not (hd_z_neT C (p2 := 14) (tgt := 20) (hd_inI (hd_invS C (p2 := 11) snd_X8_within rfl gX8_better_X8_within yX8_better_X8_within ⟨by decide, by decide⟩ (by decide) (hd_apI (p1 := 9) (p2 := 11) (hd_apI (p1 := 8) (p2 := 9) (hd_apI (p1 := 7) (p2 := 8) hd_av0 (hd_iload_n C dX8_better_7)) (hd_iconst C dX8_better_8 (by decide))) (hd_bipush C dX8_better_9 (by decide))) dX8_better_11)) dX8_better_14 (by decide)))) (hd_retI C Rk (p1 := 19) (hd_bipush C dX8_better_17 (by decide)) dX8_better_19) (by decide)) (hd_seq (p1 := 29) (hd_scall (hd_invV C (p1 := 24) (p2 := 26) snd_X1_seekBest rfl gX8_better_X1_seekBest rfl yX8_better_X1_seekBest ⟨by decide, by decide⟩ (by decide) (hd_inR (hd_invV C (p1 := 21) (p2 := 21) snd_X8_freshCosts rfl gX8_better_X8_freshCosts rfl yX8_better_X8_freshCosts ⟨by decide, by decide⟩ (by decide) (hd_aload_n C dX8_better_20) hd_av0 dX8_better_21)) (hd_apI (p1 := 25) (p2 := 26) (hd_apI (p1 := 24) (p2 := 25) hd_av0 (hd_iload_n C dX8_better_24)) (hd_iconst C dX8_better_25 (by decide))) dX8_better_26)) (hd_seq (p1 := 72) (hd_seq (p1 := 31) (hd_sistore_n C (p1 := 30) (hd_iconst C dX8_better_29 (by decide)) dX8_better_30 (by decide)) (hd_loop C (p1 := 36) (p2 := 72) (hd_c_ltF C (p1 := 32) (p2 := 33) (tgt := 72) (hd_iload_n C dX8_better_31) (hd_iload_n C dX8_better_32) dX8_better_33 (by decide)) (hd_seq (p1 := 66) (hd_seq (p1 := 49) (hd_sistore C (p1 := 47) (hd_inI (hd_invV C (p1 := 40) (p2 := 44) snd_X1_cheapestBeside rfl gX8_better_X1_cheapestBeside rfl yX8_better_X1_cheapestBeside ⟨by decide, by decide⟩ (by decide) (hd_getR C (p1 := 37) fX8_better_46 (hd_aload_n C dX8_better_36) dX8_better_37) (hd_apI (p1 := 40) (p2 := 44) hd_av0 (hd_getI C (p1 := 41) fX8_better_167 (hd_aload_n C dX8_better_40) dX8_better_41)) dX8_better_44)) dX8_better_47 (by decide)) (hd_seq (p1 := 60) (hd_if (p1 := 58) (p2 := 60) (hd_c_eqF C (p1 := 51) (p2 := 55) (tgt := 60) (hd_iload C dX8_better_49) (hd_getI C (p1 := 52) fX8_better_167 (hd_aload_n C dX8_better_51) dX8_better_52) dX8_better_55 (by decide)) (hd_retI C Rk (p1 := 59) (hd_iload_n C dX8_better_58) dX8_better_59) (by decide)) (hd_sputI C (p1 := 61) (p2 := 63) qX8_better_167 (hd_aload_n C dX8_better_60) (hd_iload C dX8_better_61) dX8_better_63))) (hd_sgoto C (p1 := 69) (tgt := 31) (hd_ends (es := [69]) (by decide) (hd_siinc C dX8_better_66 (by decide) (by decide))) dX8_better_69 (by decide) (by decide))) (by decide))) (hd_retI C Rk (p1 := 73) (hd_iload_n C dX8_better_72) dX8_better_73)))))
/-! X8_least -/
set_option maxRecDepth 100000 in
theorem yX8_least_X8_isQuestion : yX8_isQuestion.cls ≠ "java/lang/invoke/MethodHandle" ∧ yX8_isQuestion.cls ≠ "java/lang/invoke/VarHandle" ∧ (parseMethodDescriptor yX8_isQuestion.desc).map (fun d => d.parameters.length) = some 2 := by decide +kernel
set_option maxRecDepth 100000 in
theorem yX8_least_X8_freshCosts : yX8_freshCosts.cls = RX8 ∧ yX8_freshCosts.cls ≠ "java/lang/invoke/MethodHandle" ∧ yX8_freshCosts.cls ≠ "java/lang/invoke/VarHandle" ∧ (parseMethodDescriptor yX8_freshCosts.desc).map (fun d => d.parameters.length) = some 0 := by decide +kernel
set_option maxRecDepth 100000 in
theorem yX8_least_X1_seekBest : yX1_seekBest.cls = RX1 ∧ yX1_seekBest.cls ≠ "java/lang/invoke/MethodHandle" ∧ yX1_seekBest.cls ≠ "java/lang/invoke/VarHandle" ∧ (parseMethodDescriptor yX1_seekBest.desc).map (fun d => d.parameters.length) = some 2 := by decide +kernel
set_option maxRecDepth 100000 in
theorem uX8_least_X8 : ∀ w ∈ u_ws RX8 TX8 9, w ∈ wsX8_least := by decide +kernel
set_option maxRecDepth 100000 in
theorem lX8_least_46 : Cond.fieldLink RX8 46 (TX8 4).1 (TX8 4).2.1 (TX8 4).2.2.1 ∈ wsX8_least := by decide +kernel
set_option maxRecDepth 100000 in
theorem fX8_least_46 : hd_F wsX8_least RX8 vwCl 8 4 46 := ⟨RX8, TX8, 9, rfl, by decide, uX8_least_X8, lX8_least_46⟩
set_option maxRecDepth 100000 in
theorem uX8_least_X1 : ∀ w ∈ u_ws RX1 TX1 5, w ∈ wsX8_least := by decide +kernel
set_option maxRecDepth 100000 in
theorem lX8_least_207 : Cond.fieldLink RX8 207 (TX1 4).1 (TX1 4).2.1 (TX1 4).2.2.1 ∈ wsX8_least := by decide +kernel
set_option maxRecDepth 100000 in
theorem fX8_least_207 : hd_F wsX8_least RX8 vwCl 1 4 207 := ⟨RX1, TX1, 5, rfl, by decide, uX8_least_X1, lX8_least_207⟩
def wo_X8_least : hd_xS := (hd_sQ (hd_sW (hd_cX (hd_c0 (fun x => !decide (x = 0)) (hd_iN (hd_nS 2 (hd_pI (hd_pI hd_v0 (hd_iL 1)) (hd_iL 2)) wm_X8_isQuestion)))) (hd_sRI (hd_iK (-3)))) (hd_sQ (hd_sN (hd_nV hs_sh 1 (hd_rN (hd_nV hs_sh 8 (hd_rL 0) 0 hd_v0 wm_X8_freshCosts)) 2 (hd_pI (hd_pI hd_v0 (hd_iL 1)) (hd_iL 2)) wm_X1_seekBest)) (hd_sRI (hd_iG hs_sh 1 4 (hd_rG hs_sh 8 4 (hd_rL 0))))))
def wm_X8_least : hd_M := hd_mth 3 wo_X8_least
set_option maxHeartbeats 4000000 in
set_option maxRecDepth 100000 in
theorem snd_X8_least : hd_Snd vwCl hs_sh yX8_least wsX8_least 7 wm_X8_least := hd_method (by decide) rfl rfl (by decide) (fun κ C Rk => (hd_seq (p1 := 11) (hd_if (p1 := 8) (p2 := 11) (hd_not (hd_z_neT C (p2 := 5) (tgt := 11) (hd_inI (hd_invS C (p2 := 2) snd_X8_isQuestion rfl gX8_least_X8_isQuestion yX8_least_X8_isQuestion ⟨by decide, by decide⟩ (by decide) (hd_apI (p1 := 1) (p2 := 2) (hd_apI (p1 := 0) (p2 := 1) hd_av0 (hd_iload_n C dX8_least_0)) (hd_iload_n C dX8_least_1)) dX8_least_2)) dX8_least_5 (by decide))) (hd_retI C Rk (p1 := 10) (hd_bipush C dX8_least_8 (by decide)) dX8_least_10) (by decide)) (hd_seq (p1 := 20) (hd_scall (hd_invV C (p1 := 15) (p2 := 17) snd_X1_seekBest rfl gX8_least_X1_seekBest rfl yX8_least_X1_seekBest ⟨by decide, by decide⟩ (by decide) (hd_inR (hd_invV C (p1 := 12) (p2 := 12) snd_X8_freshCosts rfl gX8_least_X8_freshCosts rfl yX8_least_X8_freshCosts ⟨by decide, by decide⟩ (by decide) (hd_aload_n C dX8_least_11) hd_av0 dX8_least_12)) (hd_apI (p1 := 16) (p2 := 17) (hd_apI (p1 := 15) (p2 := 16) hd_av0 (hd_iload_n C dX8_least_15)) (hd_iload_n C dX8_least_16)) dX8_least_17)) (hd_retI C Rk (p1 := 27) (hd_getI C (p1 := 24) fX8_least_207 (hd_getR C (p1 := 21) fX8_least_46 (hd_aload_n C dX8_least_20) dX8_least_21) dX8_least_24) dX8_least_27))))
/-! X8_many -/
set_option maxRecDepth 100000 in
theorem yX8_many_X8_isQuestion : yX8_isQuestion.cls ≠ "java/lang/invoke/MethodHandle" ∧ yX8_isQuestion.cls ≠ "java/lang/invoke/VarHandle" ∧ (parseMethodDescriptor yX8_isQuestion.desc).map (fun d => d.parameters.length) = some 2 := by decide +kernel
set_option maxRecDepth 100000 in
theorem yX8_many_X8_freshCosts : yX8_freshCosts.cls = RX8 ∧ yX8_freshCosts.cls ≠ "java/lang/invoke/MethodHandle" ∧ yX8_freshCosts.cls ≠ "java/lang/invoke/VarHandle" ∧ (parseMethodDescriptor yX8_freshCosts.desc).map (fun d => d.parameters.length) = some 0 := by decide +kernel
set_option maxRecDepth 100000 in
theorem yX8_many_X1_seekBest : yX1_seekBest.cls = RX1 ∧ yX1_seekBest.cls ≠ "java/lang/invoke/MethodHandle" ∧ yX1_seekBest.cls ≠ "java/lang/invoke/VarHandle" ∧ (parseMethodDescriptor yX1_seekBest.desc).map (fun d => d.parameters.length) = some 2 := by decide +kernel
set_option maxRecDepth 100000 in
theorem uX8_many_X8 : ∀ w ∈ u_ws RX8 TX8 9, w ∈ wsX8_many := by decide +kernel
set_option maxRecDepth 100000 in
theorem lX8_many_46 : Cond.fieldLink RX8 46 (TX8 4).1 (TX8 4).2.1 (TX8 4).2.2.1 ∈ wsX8_many := by decide +kernel
set_option maxRecDepth 100000 in
theorem fX8_many_46 : hd_F wsX8_many RX8 vwCl 8 4 46 := ⟨RX8, TX8, 9, rfl, by decide, uX8_many_X8, lX8_many_46⟩
set_option maxRecDepth 100000 in
theorem lX8_many_12 : Cond.fieldLink RX8 12 (TX8 0).1 (TX8 0).2.1 (TX8 0).2.2.1 ∈ wsX8_many := by decide +kernel
set_option maxRecDepth 100000 in
theorem fX8_many_12 : hd_F wsX8_many RX8 vwCl 8 0 12 := ⟨RX8, TX8, 9, rfl, by decide, uX8_many_X8, lX8_many_12⟩
set_option maxRecDepth 100000 in
theorem yX8_many_X5_everyHall : yX5_everyHall.cls = RX5 ∧ yX5_everyHall.cls ≠ "java/lang/invoke/MethodHandle" ∧ yX5_everyHall.cls ≠ "java/lang/invoke/VarHandle" ∧ (parseMethodDescriptor yX5_everyHall.desc).map (fun d => d.parameters.length) = some 0 := by decide +kernel
set_option maxRecDepth 100000 in
theorem yX8_many_X1_bestUpTo : yX1_bestUpTo.cls = RX1 ∧ yX1_bestUpTo.cls ≠ "java/lang/invoke/MethodHandle" ∧ yX1_bestUpTo.cls ≠ "java/lang/invoke/VarHandle" ∧ (parseMethodDescriptor yX1_bestUpTo.desc).map (fun d => d.parameters.length) = some 1 := by decide +kernel
def wo_X8_many : hd_xS := (hd_sQ (hd_sW (hd_cX (hd_c0 (fun x => !decide (x = 0)) (hd_iN (hd_nS 2 (hd_pI (hd_pI hd_v0 (hd_iL 1)) (hd_iL 2)) wm_X8_isQuestion)))) (hd_sRI (hd_iK (-3)))) (hd_sQ (hd_sN (hd_nV hs_sh 1 (hd_rN (hd_nV hs_sh 8 (hd_rL 0) 0 hd_v0 wm_X8_freshCosts)) 2 (hd_pI (hd_pI hd_v0 (hd_iL 1)) (hd_iL 2)) wm_X1_seekBest)) (hd_sRI (hd_iN (hd_nV hs_sh 1 (hd_rG hs_sh 8 4 (hd_rL 0)) 1 (hd_pI hd_v0 (hd_iN (hd_nV hs_sh 5 (hd_rG hs_sh 8 0 (hd_rL 0)) 0 hd_v0 wm_X5_everyHall))) wm_X1_bestUpTo)))))
def wm_X8_many : hd_M := hd_mth 3 wo_X8_many
set_option maxHeartbeats 4000000 in
set_option maxRecDepth 100000 in
theorem snd_X8_many : hd_Snd vwCl hs_sh yX8_many wsX8_many 7 wm_X8_many := hd_method (by decide) rfl rfl (by decide) (fun κ C Rk => (hd_seq (p1 := 11) (hd_if (p1 := 8) (p2 := 11) (hd_not (hd_z_neT C (p2 := 5) (tgt := 11) (hd_inI (hd_invS C (p2 := 2) snd_X8_isQuestion rfl gX8_many_X8_isQuestion yX8_many_X8_isQuestion ⟨by decide, by decide⟩ (by decide) (hd_apI (p1 := 1) (p2 := 2) (hd_apI (p1 := 0) (p2 := 1) hd_av0 (hd_iload_n C dX8_many_0)) (hd_iload_n C dX8_many_1)) dX8_many_2)) dX8_many_5 (by decide))) (hd_retI C Rk (p1 := 10) (hd_bipush C dX8_many_8 (by decide)) dX8_many_10) (by decide)) (hd_seq (p1 := 20) (hd_scall (hd_invV C (p1 := 15) (p2 := 17) snd_X1_seekBest rfl gX8_many_X1_seekBest rfl yX8_many_X1_seekBest ⟨by decide, by decide⟩ (by decide) (hd_inR (hd_invV C (p1 := 12) (p2 := 12) snd_X8_freshCosts rfl gX8_many_X8_freshCosts rfl yX8_many_X8_freshCosts ⟨by decide, by decide⟩ (by decide) (hd_aload_n C dX8_many_11) hd_av0 dX8_many_12)) (hd_apI (p1 := 16) (p2 := 17) (hd_apI (p1 := 15) (p2 := 16) hd_av0 (hd_iload_n C dX8_many_15)) (hd_iload_n C dX8_many_16)) dX8_many_17)) (hd_retI C Rk (p1 := 34) (hd_inI (hd_invV C (p1 := 24) (p2 := 31) snd_X1_bestUpTo rfl gX8_many_X1_bestUpTo rfl yX8_many_X1_bestUpTo ⟨by decide, by decide⟩ (by decide) (hd_getR C (p1 := 21) fX8_many_46 (hd_aload_n C dX8_many_20) dX8_many_21) (hd_apI (p1 := 24) (p2 := 31) hd_av0 (hd_inI (hd_invV C (p1 := 28) (p2 := 28) snd_X5_everyHall rfl gX8_many_X5_everyHall rfl yX8_many_X5_everyHall ⟨by decide, by decide⟩ (by decide) (hd_getR C (p1 := 25) fX8_many_12 (hd_aload_n C dX8_many_24) dX8_many_25) hd_av0 dX8_many_28))) dX8_many_31)) dX8_many_34))))
/-! X8_number -/
set_option maxRecDepth 100000 in
theorem yX8_number_X8_isQuestion : yX8_isQuestion.cls ≠ "java/lang/invoke/MethodHandle" ∧ yX8_isQuestion.cls ≠ "java/lang/invoke/VarHandle" ∧ (parseMethodDescriptor yX8_isQuestion.desc).map (fun d => d.parameters.length) = some 2 := by decide +kernel
set_option maxRecDepth 100000 in
theorem yX8_number_X8_freshCosts : yX8_freshCosts.cls = RX8 ∧ yX8_freshCosts.cls ≠ "java/lang/invoke/MethodHandle" ∧ yX8_freshCosts.cls ≠ "java/lang/invoke/VarHandle" ∧ (parseMethodDescriptor yX8_freshCosts.desc).map (fun d => d.parameters.length) = some 0 := by decide +kernel
set_option maxRecDepth 100000 in
theorem yX8_number_X1_seekBest : yX1_seekBest.cls = RX1 ∧ yX1_seekBest.cls ≠ "java/lang/invoke/MethodHandle" ∧ yX1_seekBest.cls ≠ "java/lang/invoke/VarHandle" ∧ (parseMethodDescriptor yX1_seekBest.desc).map (fun d => d.parameters.length) = some 2 := by decide +kernel
set_option maxRecDepth 100000 in
theorem uX8_number_X8 : ∀ w ∈ u_ws RX8 TX8 9, w ∈ wsX8_number := by decide +kernel
set_option maxRecDepth 100000 in
theorem lX8_number_46 : Cond.fieldLink RX8 46 (TX8 4).1 (TX8 4).2.1 (TX8 4).2.2.1 ∈ wsX8_number := by decide +kernel
set_option maxRecDepth 100000 in
theorem fX8_number_46 : hd_F wsX8_number RX8 vwCl 8 4 46 := ⟨RX8, TX8, 9, rfl, by decide, uX8_number_X8, lX8_number_46⟩
set_option maxRecDepth 100000 in
theorem lX8_number_167 : Cond.fieldLink RX8 167 (TX8 8).1 (TX8 8).2.1 (TX8 8).2.2.1 ∈ wsX8_number := by decide +kernel
set_option maxRecDepth 100000 in
theorem fX8_number_167 : hd_F wsX8_number RX8 vwCl 8 8 167 := ⟨RX8, TX8, 9, rfl, by decide, uX8_number_X8, lX8_number_167⟩
set_option maxRecDepth 100000 in
theorem yX8_number_X1_isBest : yX1_isBest.cls = RX1 ∧ yX1_isBest.cls ≠ "java/lang/invoke/MethodHandle" ∧ yX1_isBest.cls ≠ "java/lang/invoke/VarHandle" ∧ (parseMethodDescriptor yX1_isBest.desc).map (fun d => d.parameters.length) = some 1 := by decide +kernel
set_option maxRecDepth 100000 in
theorem yX8_number_X1_bestUpTo : yX1_bestUpTo.cls = RX1 ∧ yX1_bestUpTo.cls ≠ "java/lang/invoke/MethodHandle" ∧ yX1_bestUpTo.cls ≠ "java/lang/invoke/VarHandle" ∧ (parseMethodDescriptor yX1_bestUpTo.desc).map (fun d => d.parameters.length) = some 1 := by decide +kernel
def wo_X8_number : hd_xS := (hd_sQ (hd_sW (hd_cX (hd_c0 (fun x => !decide (x = 0)) (hd_iN (hd_nS 2 (hd_pI (hd_pI hd_v0 (hd_iL 1)) (hd_iL 2)) wm_X8_isQuestion)))) (hd_sRI (hd_iK (-3)))) (hd_sQ (hd_sN (hd_nV hs_sh 1 (hd_rN (hd_nV hs_sh 8 (hd_rL 0) 0 hd_v0 wm_X8_freshCosts)) 2 (hd_pI (hd_pI hd_v0 (hd_iL 1)) (hd_iL 2)) wm_X1_seekBest)) (hd_sRI (hd_iQ (hd_c0 (fun x => !decide (x = 0)) (hd_iN (hd_nV hs_sh 1 (hd_rG hs_sh 8 4 (hd_rL 0)) 1 (hd_pI hd_v0 (hd_iG hs_sh 8 8 (hd_rL 0))) wm_X1_isBest))) (hd_iB (fun x y => x - y) (hd_iN (hd_nV hs_sh 1 (hd_rG hs_sh 8 4 (hd_rL 0)) 1 (hd_pI hd_v0 (hd_iG hs_sh 8 8 (hd_rL 0))) wm_X1_bestUpTo)) (hd_iK (1))) (hd_iK (-1))))))
def wm_X8_number : hd_M := hd_mth 3 wo_X8_number
set_option maxHeartbeats 4000000 in
set_option maxRecDepth 100000 in
theorem snd_X8_number : hd_Snd vwCl hs_sh yX8_number wsX8_number 7 wm_X8_number := hd_method (by decide) rfl rfl (by decide) (fun κ C Rk => (hd_seq (p1 := 11) (hd_if (p1 := 8) (p2 := 11) (hd_not (hd_z_neT C (p2 := 5) (tgt := 11) (hd_inI (hd_invS C (p2 := 2) snd_X8_isQuestion rfl gX8_number_X8_isQuestion yX8_number_X8_isQuestion ⟨by decide, by decide⟩ (by decide) (hd_apI (p1 := 1) (p2 := 2) (hd_apI (p1 := 0) (p2 := 1) hd_av0 (hd_iload_n C dX8_number_0)) (hd_iload_n C dX8_number_1)) dX8_number_2)) dX8_number_5 (by decide))) (hd_retI C Rk (p1 := 10) (hd_bipush C dX8_number_8 (by decide)) dX8_number_10) (by decide)) (hd_seq (p1 := 20) (hd_scall (hd_invV C (p1 := 15) (p2 := 17) snd_X1_seekBest rfl gX8_number_X1_seekBest rfl yX8_number_X1_seekBest ⟨by decide, by decide⟩ (by decide) (hd_inR (hd_invV C (p1 := 12) (p2 := 12) snd_X8_freshCosts rfl gX8_number_X8_freshCosts rfl yX8_number_X8_freshCosts ⟨by decide, by decide⟩ (by decide) (hd_aload_n C dX8_number_11) hd_av0 dX8_number_12)) (hd_apI (p1 := 16) (p2 := 17) (hd_apI (p1 := 15) (p2 := 16) hd_av0 (hd_iload_n C dX8_number_15)) (hd_iload_n C dX8_number_16)) dX8_number_17)) (hd_retI C Rk (p1 := 51) (hd_tnI C (p1 := 34) (p2 := 47) (p3 := 50) (p4 := 51) (hd_z_neF C (p2 := 31) (tgt := 50) (hd_inI (hd_invV C (p1 := 24) (p2 := 28) snd_X1_isBest rfl gX8_number_X1_isBest rfl yX8_number_X1_isBest ⟨by decide, by decide⟩ (by decide) (hd_getR C (p1 := 21) fX8_number_46 (hd_aload_n C dX8_number_20) dX8_number_21) (hd_apI (p1 := 24) (p2 := 28) hd_av0 (hd_getI C (p1 := 25) fX8_number_167 (hd_aload_n C dX8_number_24) dX8_number_25)) dX8_number_28)) dX8_number_31 (by decide)) (hd_isub C (p1 := 45) (p2 := 46) (hd_inI (hd_invV C (p1 := 38) (p2 := 42) snd_X1_bestUpTo rfl gX8_number_X1_bestUpTo rfl yX8_number_X1_bestUpTo ⟨by decide, by decide⟩ (by decide) (hd_getR C (p1 := 35) fX8_number_46 (hd_aload_n C dX8_number_34) dX8_number_35) (hd_apI (p1 := 38) (p2 := 42) hd_av0 (hd_getI C (p1 := 39) fX8_number_167 (hd_aload_n C dX8_number_38) dX8_number_39)) dX8_number_42)) (hd_iconst C dX8_number_45 (by decide)) dX8_number_46) dX8_number_47 (by decide) (hd_iconst C dX8_number_50 (by decide))) dX8_number_51))))
/-! X8_raise -/
set_option maxRecDepth 100000 in
theorem uX8_raise_X8 : ∀ w ∈ u_ws RX8 TX8 9, w ∈ wsX8_raise := by decide +kernel
set_option maxRecDepth 100000 in
theorem lX8_raise_12 : Cond.fieldLink RX8 12 (TX8 0).1 (TX8 0).2.1 (TX8 0).2.2.1 ∈ wsX8_raise := by decide +kernel
set_option maxRecDepth 100000 in
theorem fX8_raise_12 : hd_F wsX8_raise RX8 vwCl 8 0 12 := ⟨RX8, TX8, 9, rfl, by decide, uX8_raise_X8, lX8_raise_12⟩
set_option maxRecDepth 100000 in
theorem uX8_raise_X5 : ∀ w ∈ u_ws RX5 TX5 10, w ∈ wsX8_raise := by decide +kernel
set_option maxRecDepth 100000 in
theorem lX8_raise_82 : Cond.fieldLink RX8 82 (TX5 1).1 (TX5 1).2.1 (TX5 1).2.2.1 ∈ wsX8_raise := by decide +kernel
set_option maxRecDepth 100000 in
theorem fX8_raise_82 : hd_F wsX8_raise RX8 vwCl 5 1 82 := ⟨RX5, TX5, 10, rfl, by decide, uX8_raise_X5, lX8_raise_82⟩
set_option maxRecDepth 100000 in
theorem lX8_raise_53 : Cond.fieldLink RX8 53 (TX8 5).1 (TX8 5).2.1 (TX8 5).2.2.1 ∈ wsX8_raise := by decide +kernel
set_option maxRecDepth 100000 in
theorem fX8_raise_53 : hd_F wsX8_raise RX8 vwCl 8 5 53 := ⟨RX8, TX8, 9, rfl, by decide, uX8_raise_X8, lX8_raise_53⟩
set_option maxRecDepth 100000 in
theorem yX8_raise_X0_raiseAll : yX0_raiseAll.cls = RX0 ∧ yX0_raiseAll.cls ≠ "java/lang/invoke/MethodHandle" ∧ yX0_raiseAll.cls ≠ "java/lang/invoke/VarHandle" ∧ (parseMethodDescriptor yX0_raiseAll.desc).map (fun d => d.parameters.length) = some 0 := by decide +kernel
set_option maxRecDepth 100000 in
theorem yX8_raise_X5_everyTown : yX5_everyTown.cls = RX5 ∧ yX5_everyTown.cls ≠ "java/lang/invoke/MethodHandle" ∧ yX5_everyTown.cls ≠ "java/lang/invoke/VarHandle" ∧ (parseMethodDescriptor yX5_everyTown.desc).map (fun d => d.parameters.length) = some 0 := by decide +kernel
set_option maxRecDepth 100000 in
theorem yX8_raise_X0_together : yX0_together.cls = RX0 ∧ yX0_together.cls ≠ "java/lang/invoke/MethodHandle" ∧ yX0_together.cls ≠ "java/lang/invoke/VarHandle" ∧ (parseMethodDescriptor yX0_together.desc).map (fun d => d.parameters.length) = some 1 := by decide +kernel
def wo_X8_raise : hd_xS := (hd_sQ (hd_sW (hd_c0 (fun x => decide (x = 0)) (hd_iG hs_sh 5 1 (hd_rG hs_sh 8 0 (hd_rL 0)))) (hd_sRI (hd_iK (-4)))) (hd_sQ (hd_sN (hd_nV hs_sh 0 (hd_rG hs_sh 8 5 (hd_rL 0)) 0 hd_v0 wm_X0_raiseAll)) (hd_sRI (hd_iN (hd_nV hs_sh 0 (hd_rG hs_sh 8 5 (hd_rL 0)) 1 (hd_pI hd_v0 (hd_iN (hd_nV hs_sh 5 (hd_rG hs_sh 8 0 (hd_rL 0)) 0 hd_v0 wm_X5_everyTown))) wm_X0_together)))))
def wm_X8_raise : hd_M := hd_mth 1 wo_X8_raise
set_option maxHeartbeats 4000000 in
set_option maxRecDepth 100000 in
theorem snd_X8_raise : hd_Snd vwCl hs_sh yX8_raise wsX8_raise 7 wm_X8_raise := hd_method (by decide) rfl rfl (by decide) (fun κ C Rk => (hd_seq (p1 := 13) (hd_if (p1 := 10) (p2 := 13) (hd_z_eqF C (p2 := 7) (tgt := 13) (hd_getI C (p1 := 4) fX8_raise_82 (hd_getR C (p1 := 1) fX8_raise_12 (hd_aload_n C dX8_raise_0) dX8_raise_1) dX8_raise_4) dX8_raise_7 (by decide)) (hd_retI C Rk (p1 := 12) (hd_bipush C dX8_raise_10 (by decide)) dX8_raise_12) (by decide)) (hd_seq (p1 := 20) (hd_scall (hd_invV C (p1 := 17) (p2 := 17) snd_X0_raiseAll rfl gX8_raise_X0_raiseAll rfl yX8_raise_X0_raiseAll ⟨by decide, by decide⟩ (by decide) (hd_getR C (p1 := 14) fX8_raise_53 (hd_aload_n C dX8_raise_13) dX8_raise_14) hd_av0 dX8_raise_17)) (hd_retI C Rk (p1 := 34) (hd_inI (hd_invV C (p1 := 24) (p2 := 31) snd_X0_together rfl gX8_raise_X0_together rfl yX8_raise_X0_together ⟨by decide, by decide⟩ (by decide) (hd_getR C (p1 := 21) fX8_raise_53 (hd_aload_n C dX8_raise_20) dX8_raise_21) (hd_apI (p1 := 24) (p2 := 31) hd_av0 (hd_inI (hd_invV C (p1 := 28) (p2 := 28) snd_X5_everyTown rfl gX8_raise_X5_everyTown rfl yX8_raise_X5_everyTown ⟨by decide, by decide⟩ (by decide) (hd_getR C (p1 := 25) fX8_raise_12 (hd_aload_n C dX8_raise_24) dX8_raise_25) hd_av0 dX8_raise_28))) dX8_raise_31)) dX8_raise_34))))
/-! X9_best -/
set_option maxRecDepth 100000 in
theorem uX9_best_X9 : ∀ w ∈ u_ws RX9 TX9 28, w ∈ wsX9_best := by decide +kernel
set_option maxRecDepth 100000 in
theorem lX9_best_58 : Cond.fieldLink RX9 58 (TX9 0).1 (TX9 0).2.1 (TX9 0).2.2.1 ∈ wsX9_best := by decide +kernel
set_option maxRecDepth 100000 in
theorem qX9_best_58 : hd_FP wsX9_best RX9 vwCl 9 0 58 .int := ⟨RX9, TX9, 28, tyX9, rfl, by decide, uX9_best_X9, lX9_best_58, tyX9_ok, nmX9, rfl, rfl⟩
set_option maxRecDepth 100000 in
theorem yX9_best_X9_isAsked : yX9_isAsked.cls ≠ "java/lang/invoke/MethodHandle" ∧ yX9_isAsked.cls ≠ "java/lang/invoke/VarHandle" ∧ (parseMethodDescriptor yX9_isAsked.desc).map (fun d => d.parameters.length) = some 2 := by decide +kernel
set_option maxRecDepth 100000 in
theorem yX9_best_X9_search : yX9_search.cls = RX9 ∧ yX9_search.cls ≠ "java/lang/invoke/MethodHandle" ∧ yX9_search.cls ≠ "java/lang/invoke/VarHandle" ∧ (parseMethodDescriptor yX9_search.desc).map (fun d => d.parameters.length) = some 3 := by decide +kernel
set_option maxRecDepth 100000 in
theorem lX9_best_159 : Cond.fieldLink RX9 159 (TX9 23).1 (TX9 23).2.1 (TX9 23).2.2.1 ∈ wsX9_best := by decide +kernel
set_option maxRecDepth 100000 in
theorem fX9_best_159 : hd_F wsX9_best RX9 vwCl 9 23 159 := ⟨RX9, TX9, 28, rfl, by decide, uX9_best_X9, lX9_best_159⟩
set_option maxRecDepth 100000 in
theorem lX9_best_84 : Cond.fieldLink RX9 84 (TX9 14).1 (TX9 14).2.1 (TX9 14).2.2.1 ∈ wsX9_best := by decide +kernel
set_option maxRecDepth 100000 in
theorem qX9_best_84 : hd_FP wsX9_best RX9 vwCl 9 14 84 .int := ⟨RX9, TX9, 28, tyX9, rfl, by decide, uX9_best_X9, lX9_best_84, tyX9_ok, nmX9, rfl, rfl⟩
def wo_X9_best : hd_xS := (hd_sQ (hd_sF hs_sh 9 0 (hd_rL 0) (hd_iK (0))) (hd_sQ (hd_sW (hd_cO (hd_cX (hd_c0 (fun x => !decide (x = 0)) (hd_iN (hd_nS 2 (hd_pI (hd_pI hd_v0 (hd_iL 1)) (hd_iL 2)) wm_X9_isAsked)))) (hd_c0 (fun x => decide (x < 0)) (hd_iL 3))) (hd_sRI (hd_iK (-3)))) (hd_sQ (hd_sN (hd_nV hs_sh 9 (hd_rL 0) 3 (hd_pI (hd_pI (hd_pI hd_v0 (hd_iL 1)) (hd_iL 2)) (hd_iL 3)) wm_X9_search)) (hd_sQ (hd_sW (hd_cI (fun x y => decide (x = y)) (hd_iG hs_sh 9 23 (hd_rL 0)) (hd_iK (-1))) (hd_sRI (hd_iK (-1)))) (hd_sQ (hd_sF hs_sh 9 14 (hd_rL 0) (hd_iG hs_sh 9 23 (hd_rL 0))) (hd_sRI (hd_iG hs_sh 9 23 (hd_rL 0))))))))
def wm_X9_best : hd_M := hd_mth 4 wo_X9_best
set_option maxHeartbeats 4000000 in
set_option maxRecDepth 100000 in
theorem snd_X9_best : hd_Snd vwCl hs_sh yX9_best wsX9_best 7 wm_X9_best := hd_method (by decide) rfl rfl (by decide) (fun κ C Rk => (hd_seq (p1 := 5) (hd_sputI C (p1 := 1) (p2 := 2) qX9_best_58 (hd_aload_n C dX9_best_0) (hd_iconst C dX9_best_1 (by decide)) dX9_best_2) (hd_seq (p1 := 20) (hd_if (p1 := 17) (p2 := 20) (hd_or (p1 := 13) (p2 := 17) (p3 := 20) (hd_not (hd_z_neF C (p2 := 10) (tgt := 17) (hd_inI (hd_invS C (p2 := 7) snd_X9_isAsked rfl gX9_best_X9_isAsked yX9_best_X9_isAsked ⟨by decide, by decide⟩ (by decide) (hd_apI (p1 := 6) (p2 := 7) (hd_apI (p1 := 5) (p2 := 6) hd_av0 (hd_iload_n C dX9_best_5)) (hd_iload_n C dX9_best_6)) dX9_best_7)) dX9_best_10 (by decide))) (hd_z_ltF C (p2 := 14) (tgt := 20) (hd_iload_n C dX9_best_13) dX9_best_14 (by decide))) (hd_retI C Rk (p1 := 19) (hd_bipush C dX9_best_17 (by decide)) dX9_best_19) (by decide)) (hd_seq (p1 := 27) (hd_scall (hd_invV C (p1 := 21) (p2 := 24) snd_X9_search rfl gX9_best_X9_search rfl yX9_best_X9_search ⟨by decide, by decide⟩ (by decide) (hd_aload_n C dX9_best_20) (hd_apI (p1 := 23) (p2 := 24) (hd_apI (p1 := 22) (p2 := 23) (hd_apI (p1 := 21) (p2 := 22) hd_av0 (hd_iload_n C dX9_best_21)) (hd_iload_n C dX9_best_22)) (hd_iload_n C dX9_best_23)) dX9_best_24)) (hd_seq (p1 := 37) (hd_if (p1 := 35) (p2 := 37) (hd_c_eqF C (p1 := 31) (p2 := 32) (tgt := 37) (hd_getI C (p1 := 28) fX9_best_159 (hd_aload_n C dX9_best_27) dX9_best_28) (hd_iconst C dX9_best_31 (by decide)) dX9_best_32 (by decide)) (hd_retI C Rk (p1 := 36) (hd_iconst C dX9_best_35 (by decide)) dX9_best_36) (by decide)) (hd_seq (p1 := 45) (hd_sputI C (p1 := 38) (p2 := 42) qX9_best_84 (hd_aload_n C dX9_best_37) (hd_getI C (p1 := 39) fX9_best_159 (hd_aload_n C dX9_best_38) dX9_best_39) dX9_best_42) (hd_retI C Rk (p1 := 49) (hd_getI C (p1 := 46) fX9_best_159 (hd_aload_n C dX9_best_45) dX9_best_46) dX9_best_49)))))))
/-! X9_least -/
set_option maxRecDepth 100000 in
theorem uX9_least_X9 : ∀ w ∈ u_ws RX9 TX9 28, w ∈ wsX9_least := by decide +kernel
set_option maxRecDepth 100000 in
theorem lX9_least_58 : Cond.fieldLink RX9 58 (TX9 0).1 (TX9 0).2.1 (TX9 0).2.2.1 ∈ wsX9_least := by decide +kernel
set_option maxRecDepth 100000 in
theorem qX9_least_58 : hd_FP wsX9_least RX9 vwCl 9 0 58 .int := ⟨RX9, TX9, 28, tyX9, rfl, by decide, uX9_least_X9, lX9_least_58, tyX9_ok, nmX9, rfl, rfl⟩
set_option maxRecDepth 100000 in
theorem yX9_least_X9_isAsked : yX9_isAsked.cls ≠ "java/lang/invoke/MethodHandle" ∧ yX9_isAsked.cls ≠ "java/lang/invoke/VarHandle" ∧ (parseMethodDescriptor yX9_isAsked.desc).map (fun d => d.parameters.length) = some 2 := by decide +kernel
set_option maxRecDepth 100000 in
theorem yX9_least_X9_search : yX9_search.cls = RX9 ∧ yX9_search.cls ≠ "java/lang/invoke/MethodHandle" ∧ yX9_search.cls ≠ "java/lang/invoke/VarHandle" ∧ (parseMethodDescriptor yX9_search.desc).map (fun d => d.parameters.length) = some 3 := by decide +kernel
set_option maxRecDepth 100000 in
theorem lX9_least_153 : Cond.fieldLink RX9 153 (TX9 21).1 (TX9 21).2.1 (TX9 21).2.2.1 ∈ wsX9_least := by decide +kernel
set_option maxRecDepth 100000 in
theorem fX9_least_153 : hd_F wsX9_least RX9 vwCl 9 21 153 := ⟨RX9, TX9, 28, rfl, by decide, uX9_least_X9, lX9_least_153⟩
set_option maxRecDepth 100000 in
theorem wX9_least_7 : Cond.constant RX9 121 (2000000000) ∈ wsX9_least := by decide +kernel
def wo_X9_least : hd_xS := (hd_sQ (hd_sF hs_sh 9 0 (hd_rL 0) (hd_iK (0))) (hd_sQ (hd_sW (hd_cX (hd_c0 (fun x => !decide (x = 0)) (hd_iN (hd_nS 2 (hd_pI (hd_pI hd_v0 (hd_iL 1)) (hd_iL 2)) wm_X9_isAsked)))) (hd_sRI (hd_iK (-3)))) (hd_sQ (hd_sN (hd_nV hs_sh 9 (hd_rL 0) 3 (hd_pI (hd_pI (hd_pI hd_v0 (hd_iL 1)) (hd_iL 2)) (hd_iK (-1))) wm_X9_search)) (hd_sRI (hd_iQ (hd_cI (fun x y => decide (x = y)) (hd_iG hs_sh 9 21 (hd_rL 0)) (hd_iK (2000000000))) (hd_iK (-1)) (hd_iG hs_sh 9 21 (hd_rL 0)))))))
def wm_X9_least : hd_M := hd_mth 3 wo_X9_least
set_option maxHeartbeats 4000000 in
set_option maxRecDepth 100000 in
theorem snd_X9_least : hd_Snd vwCl hs_sh yX9_least wsX9_least 7 wm_X9_least := hd_method (by decide) rfl rfl (by decide) (fun κ C Rk => (hd_seq (p1 := 5) (hd_sputI C (p1 := 1) (p2 := 2) qX9_least_58 (hd_aload_n C dX9_least_0) (hd_iconst C dX9_least_1 (by decide)) dX9_least_2) (hd_seq (p1 := 16) (hd_if (p1 := 13) (p2 := 16) (hd_not (hd_z_neT C (p2 := 10) (tgt := 16) (hd_inI (hd_invS C (p2 := 7) snd_X9_isAsked rfl gX9_least_X9_isAsked yX9_least_X9_isAsked ⟨by decide, by decide⟩ (by decide) (hd_apI (p1 := 6) (p2 := 7) (hd_apI (p1 := 5) (p2 := 6) hd_av0 (hd_iload_n C dX9_least_5)) (hd_iload_n C dX9_least_6)) dX9_least_7)) dX9_least_10 (by decide))) (hd_retI C Rk (p1 := 15) (hd_bipush C dX9_least_13 (by decide)) dX9_least_15) (by decide)) (hd_seq (p1 := 23) (hd_scall (hd_invV C (p1 := 17) (p2 := 20) snd_X9_search rfl gX9_least_X9_search rfl yX9_least_X9_search ⟨by decide, by decide⟩ (by decide) (hd_aload_n C dX9_least_16) (hd_apI (p1 := 19) (p2 := 20) (hd_apI (p1 := 18) (p2 := 19) (hd_apI (p1 := 17) (p2 := 18) hd_av0 (hd_iload_n C dX9_least_17)) (hd_iload_n C dX9_least_18)) (hd_iconst C dX9_least_19 (by decide))) dX9_least_20)) (hd_retI C Rk (p1 := 40) (hd_tnI C (p1 := 32) (p2 := 33) (p3 := 36) (p4 := 40) (hd_c_eqF C (p1 := 27) (p2 := 29) (tgt := 36) (hd_getI C (p1 := 24) fX9_least_153 (hd_aload_n C dX9_least_23) dX9_least_24) (hd_ldc C wX9_least_7 dX9_least_27) dX9_least_29 (by decide)) (hd_iconst C dX9_least_32 (by decide)) dX9_least_33 (by decide) (hd_getI C (p1 := 37) fX9_least_153 (hd_aload_n C dX9_least_36) dX9_least_37)) dX9_least_40)))))
/-! X9_many -/
set_option maxRecDepth 100000 in
theorem uX9_many_X9 : ∀ w ∈ u_ws RX9 TX9 28, w ∈ wsX9_many := by decide +kernel
set_option maxRecDepth 100000 in
theorem lX9_many_58 : Cond.fieldLink RX9 58 (TX9 0).1 (TX9 0).2.1 (TX9 0).2.2.1 ∈ wsX9_many := by decide +kernel
set_option maxRecDepth 100000 in
theorem qX9_many_58 : hd_FP wsX9_many RX9 vwCl 9 0 58 .int := ⟨RX9, TX9, 28, tyX9, rfl, by decide, uX9_many_X9, lX9_many_58, tyX9_ok, nmX9, rfl, rfl⟩
set_option maxRecDepth 100000 in
theorem yX9_many_X9_isAsked : yX9_isAsked.cls ≠ "java/lang/invoke/MethodHandle" ∧ yX9_isAsked.cls ≠ "java/lang/invoke/VarHandle" ∧ (parseMethodDescriptor yX9_isAsked.desc).map (fun d => d.parameters.length) = some 2 := by decide +kernel
set_option maxRecDepth 100000 in
theorem yX9_many_X9_search : yX9_search.cls = RX9 ∧ yX9_search.cls ≠ "java/lang/invoke/MethodHandle" ∧ yX9_search.cls ≠ "java/lang/invoke/VarHandle" ∧ (parseMethodDescriptor yX9_search.desc).map (fun d => d.parameters.length) = some 3 := by decide +kernel
set_option maxRecDepth 100000 in
theorem lX9_many_156 : Cond.fieldLink RX9 156 (TX9 22).1 (TX9 22).2.1 (TX9 22).2.2.1 ∈ wsX9_many := by decide +kernel
set_option maxRecDepth 100000 in
theorem fX9_many_156 : hd_F wsX9_many RX9 vwCl 9 22 156 := ⟨RX9, TX9, 28, rfl, by decide, uX9_many_X9, lX9_many_156⟩
def wo_X9_many : hd_xS := (hd_sQ (hd_sF hs_sh 9 0 (hd_rL 0) (hd_iK (0))) (hd_sQ (hd_sW (hd_cX (hd_c0 (fun x => !decide (x = 0)) (hd_iN (hd_nS 2 (hd_pI (hd_pI hd_v0 (hd_iL 1)) (hd_iL 2)) wm_X9_isAsked)))) (hd_sRI (hd_iK (-3)))) (hd_sQ (hd_sN (hd_nV hs_sh 9 (hd_rL 0) 3 (hd_pI (hd_pI (hd_pI hd_v0 (hd_iL 1)) (hd_iL 2)) (hd_iK (-1))) wm_X9_search)) (hd_sRI (hd_iG hs_sh 9 22 (hd_rL 0))))))
def wm_X9_many : hd_M := hd_mth 3 wo_X9_many
set_option maxHeartbeats 4000000 in
set_option maxRecDepth 100000 in
theorem snd_X9_many : hd_Snd vwCl hs_sh yX9_many wsX9_many 7 wm_X9_many := hd_method (by decide) rfl rfl (by decide) (fun κ C Rk => (hd_seq (p1 := 5) (hd_sputI C (p1 := 1) (p2 := 2) qX9_many_58 (hd_aload_n C dX9_many_0) (hd_iconst C dX9_many_1 (by decide)) dX9_many_2) (hd_seq (p1 := 16) (hd_if (p1 := 13) (p2 := 16) (hd_not (hd_z_neT C (p2 := 10) (tgt := 16) (hd_inI (hd_invS C (p2 := 7) snd_X9_isAsked rfl gX9_many_X9_isAsked yX9_many_X9_isAsked ⟨by decide, by decide⟩ (by decide) (hd_apI (p1 := 6) (p2 := 7) (hd_apI (p1 := 5) (p2 := 6) hd_av0 (hd_iload_n C dX9_many_5)) (hd_iload_n C dX9_many_6)) dX9_many_7)) dX9_many_10 (by decide))) (hd_retI C Rk (p1 := 15) (hd_bipush C dX9_many_13 (by decide)) dX9_many_15) (by decide)) (hd_seq (p1 := 23) (hd_scall (hd_invV C (p1 := 17) (p2 := 20) snd_X9_search rfl gX9_many_X9_search rfl yX9_many_X9_search ⟨by decide, by decide⟩ (by decide) (hd_aload_n C dX9_many_16) (hd_apI (p1 := 19) (p2 := 20) (hd_apI (p1 := 18) (p2 := 19) (hd_apI (p1 := 17) (p2 := 18) hd_av0 (hd_iload_n C dX9_many_17)) (hd_iload_n C dX9_many_18)) (hd_iconst C dX9_many_19 (by decide))) dX9_many_20)) (hd_retI C Rk (p1 := 27) (hd_getI C (p1 := 24) fX9_many_156 (hd_aload_n C dX9_many_23) dX9_many_24) dX9_many_27)))))
/-! X9_number -/
set_option maxRecDepth 100000 in
theorem uX9_number_X9 : ∀ w ∈ u_ws RX9 TX9 28, w ∈ wsX9_number := by decide +kernel
set_option maxRecDepth 100000 in
theorem lX9_number_58 : Cond.fieldLink RX9 58 (TX9 0).1 (TX9 0).2.1 (TX9 0).2.2.1 ∈ wsX9_number := by decide +kernel
set_option maxRecDepth 100000 in
theorem qX9_number_58 : hd_FP wsX9_number RX9 vwCl 9 0 58 .int := ⟨RX9, TX9, 28, tyX9, rfl, by decide, uX9_number_X9, lX9_number_58, tyX9_ok, nmX9, rfl, rfl⟩
set_option maxRecDepth 100000 in
theorem yX9_number_X9_isAsked : yX9_isAsked.cls ≠ "java/lang/invoke/MethodHandle" ∧ yX9_isAsked.cls ≠ "java/lang/invoke/VarHandle" ∧ (parseMethodDescriptor yX9_isAsked.desc).map (fun d => d.parameters.length) = some 2 := by decide +kernel
set_option maxRecDepth 100000 in
theorem yX9_number_X9_search : yX9_search.cls = RX9 ∧ yX9_search.cls ≠ "java/lang/invoke/MethodHandle" ∧ yX9_search.cls ≠ "java/lang/invoke/VarHandle" ∧ (parseMethodDescriptor yX9_search.desc).map (fun d => d.parameters.length) = some 3 := by decide +kernel
set_option maxRecDepth 100000 in
theorem lX9_number_84 : Cond.fieldLink RX9 84 (TX9 14).1 (TX9 14).2.1 (TX9 14).2.2.1 ∈ wsX9_number := by decide +kernel
set_option maxRecDepth 100000 in
theorem fX9_number_84 : hd_F wsX9_number RX9 vwCl 9 14 84 := ⟨RX9, TX9, 28, rfl, by decide, uX9_number_X9, lX9_number_84⟩
set_option maxRecDepth 100000 in
theorem yX9_number_X9_sizeOf : yX9_sizeOf.cls ≠ "java/lang/invoke/MethodHandle" ∧ yX9_sizeOf.cls ≠ "java/lang/invoke/VarHandle" ∧ (parseMethodDescriptor yX9_sizeOf.desc).map (fun d => d.parameters.length) = some 1 := by decide +kernel
set_option maxRecDepth 100000 in
theorem lX9_number_153 : Cond.fieldLink RX9 153 (TX9 21).1 (TX9 21).2.1 (TX9 21).2.2.1 ∈ wsX9_number := by decide +kernel
set_option maxRecDepth 100000 in
theorem fX9_number_153 : hd_F wsX9_number RX9 vwCl 9 21 153 := ⟨RX9, TX9, 28, rfl, by decide, uX9_number_X9, lX9_number_153⟩
set_option maxRecDepth 100000 in
theorem wX9_number_10 : Cond.constant RX9 121 (2000000000) ∈ wsX9_number := by decide +kernel
set_option maxRecDepth 100000 in
theorem yX9_number_X9_costOf : yX9_costOf.cls = RX9 ∧ yX9_costOf.cls ≠ "java/lang/invoke/MethodHandle" ∧ yX9_costOf.cls ≠ "java/lang/invoke/VarHandle" ∧ (parseMethodDescriptor yX9_costOf.desc).map (fun d => d.parameters.length) = some 2 := by decide +kernel
def wc_X9_number_71 : hd_xC := (hd_cI (fun x y => decide (x < y)) (hd_iL 4) (hd_iG hs_sh 9 14 (hd_rL 0)))
def wb_X9_number_71 : hd_xS := (hd_sQ (hd_sI 3 (hd_iB (fun x y => x + y) (hd_iL 3) (hd_iQ (hd_cA (hd_cO (hd_cI (fun x y => decide (x = y)) (hd_iL 2) (hd_iK (-1))) (hd_cI (fun x y => decide (x = y)) (hd_iN (hd_nS 1 (hd_pI hd_v0 (hd_iL 4)) wm_X9_sizeOf)) (hd_iL 2))) (hd_cI (fun x y => decide (x = y)) (hd_iN (hd_nV hs_sh 9 (hd_rL 0) 2 (hd_pI (hd_pI hd_v0 (hd_iL 1)) (hd_iL 4)) wm_X9_costOf)) (hd_iG hs_sh 9 21 (hd_rL 0)))) (hd_iK (1)) (hd_iK (0))))) (hd_sP 4 (1)))
def wo_X9_number : hd_xS := (hd_sQ (hd_sF hs_sh 9 0 (hd_rL 0) (hd_iK (0))) (hd_sQ (hd_sW (hd_cX (hd_c0 (fun x => !decide (x = 0)) (hd_iN (hd_nS 2 (hd_pI (hd_pI hd_v0 (hd_iL 1)) (hd_iL 2)) wm_X9_isAsked)))) (hd_sRI (hd_iK (-3)))) (hd_sQ (hd_sN (hd_nV hs_sh 9 (hd_rL 0) 3 (hd_pI (hd_pI (hd_pI hd_v0 (hd_iL 1)) (hd_iL 2)) (hd_iK (-1))) wm_X9_search)) (hd_sQ (hd_sW (hd_cO (hd_cO (hd_cA (hd_cI (fun x y => !decide (x = y)) (hd_iL 2) (hd_iK (-1))) (hd_cI (fun x y => !decide (x = y)) (hd_iN (hd_nS 1 (hd_pI hd_v0 (hd_iG hs_sh 9 14 (hd_rL 0))) wm_X9_sizeOf)) (hd_iL 2))) (hd_cI (fun x y => decide (x = y)) (hd_iG hs_sh 9 21 (hd_rL 0)) (hd_iK (2000000000)))) (hd_cI (fun x y => !decide (x = y)) (hd_iN (hd_nV hs_sh 9 (hd_rL 0) 2 (hd_pI (hd_pI hd_v0 (hd_iL 1)) (hd_iG hs_sh 9 14 (hd_rL 0))) wm_X9_costOf)) (hd_iG hs_sh 9 21 (hd_rL 0)))) (hd_sRI (hd_iK (-1)))) (hd_sQ (hd_sI 3 (hd_iK (0))) (hd_sQ (hd_sQ (hd_sI 4 (hd_iK (0))) (hd_sH (wc_X9_number_71) (wb_X9_number_71))) (hd_sRI (hd_iL 3))))))))
def wm_X9_number : hd_M := hd_mth 5 wo_X9_number
set_option maxHeartbeats 4000000 in
set_option maxRecDepth 100000 in
theorem snd_X9_number : hd_Snd vwCl hs_sh yX9_number wsX9_number 7 wm_X9_number := hd_method (by decide) rfl rfl (by decide) (fun κ C Rk => (hd_seq (p1 := 5) (hd_sputI C (p1 := 1) (p2 := 2) qX9_number_58 (hd_aload_n C dX9_number_0) (hd_iconst C dX9_number_1 (by decide)) dX9_number_2) (hd_seq (p1 := 16) (hd_if (p1 := 13) (p2 := 16) (hd_not (hd_z_neT C (p2 := 10) (tgt := 16) (hd_inI (hd_invS C (p2 := 7) snd_X9_isAsked rfl gX9_number_X9_isAsked yX9_number_X9_isAsked ⟨by decide, by decide⟩ (by decide) (hd_apI (p1 := 6) (p2 := 7) (hd_apI (p1 := 5) (p2 := 6) hd_av0 (hd_iload_n C dX9_number_5)) (hd_iload_n C dX9_number_6)) dX9_number_7)) dX9_number_10 (by decide))) (hd_retI C Rk (p1 := 15) (hd_bipush C dX9_number_13 (by decide)) dX9_number_15) (by decide)) (hd_seq (p1 := 23) (hd_scall (hd_invV C (p1 := 17) (p2 := 20) snd_X9_search rfl gX9_number_X9_search rfl yX9_number_X9_search ⟨by decide, by decide⟩ (by decide) (hd_aload_n C dX9_number_16) (hd_apI (p1 := 19) (p2 := 20) (hd_apI (p1 := 18) (p2 := 19) (hd_apI (p1 := 17) (p2 := 18) hd_av0 (hd_iload_n C dX9_number_17)) (hd_iload_n C dX9_number_18)) (hd_iconst C dX9_number_19 (by decide))) dX9_number_20)) (hd_seq (p1 := 66) (hd_if (p1 := 64) (p2 := 66) (hd_or (p1 := 48) (p2 := 64) (p3 := 66) (hd_or (p1 := 39) (p2 := 64) (p3 := 48) (hd_and (p1 := 28) (p2 := 64) (p3 := 39) (hd_c_neF C (p1 := 24) (p2 := 25) (tgt := 39) (hd_iload_n C dX9_number_23) (hd_iconst C dX9_number_24 (by decide)) dX9_number_25 (by decide)) (hd_c_neT C (p1 := 35) (p2 := 36) (tgt := 64) (hd_inI (hd_invS C (p2 := 32) snd_X9_sizeOf rfl gX9_number_X9_sizeOf yX9_number_X9_sizeOf ⟨by decide, by decide⟩ (by decide) (hd_apI (p1 := 28) (p2 := 32) hd_av0 (hd_getI C (p1 := 29) fX9_number_84 (hd_aload_n C dX9_number_28) dX9_number_29)) dX9_number_32)) (hd_iload_n C dX9_number_35) dX9_number_36 (by decide))) (hd_c_eqT C (p1 := 43) (p2 := 45) (tgt := 64) (hd_getI C (p1 := 40) fX9_number_153 (hd_aload_n C dX9_number_39) dX9_number_40) (hd_ldc C wX9_number_10 dX9_number_43) dX9_number_45 (by decide))) (hd_c_neF C (p1 := 57) (p2 := 61) (tgt := 66) (hd_inI (hd_invV C (p1 := 49) (p2 := 54) snd_X9_costOf rfl gX9_number_X9_costOf rfl yX9_number_X9_costOf ⟨by decide, by decide⟩ (by decide) (hd_aload_n C dX9_number_48) (hd_apI (p1 := 50) (p2 := 54) (hd_apI (p1 := 49) (p2 := 50) hd_av0 (hd_iload_n C dX9_number_49)) (hd_getI C (p1 := 51) fX9_number_84 (hd_aload_n C dX9_number_50) dX9_number_51)) dX9_number_54)) (hd_getI C (p1 := 58) fX9_number_153 (hd_aload_n C dX9_number_57) dX9_number_58) dX9_number_61 (by decide))) (hd_retI C Rk (p1 := 65) (hd_iconst C dX9_number_64 (by decide)) dX9_number_65) (by decide)) (hd_seq (p1 := 68) (hd_sistore_n C (p1 := 67) (hd_iconst C dX9_number_66 (by decide)) dX9_number_67 (by decide)) (hd_seq (p1 := 122) (hd_seq (p1 := 71) (hd_sistore C (p1 := 69) (hd_iconst C dX9_number_68 (by decide)) dX9_number_69 (by decide)) (hd_loop C (p1 := 80) (p2 := 122) (hd_c_ltF C (p1 := 73) (p2 := 77) (tgt := 122) (hd_iload C dX9_number_71) (hd_getI C (p1 := 74) fX9_number_84 (hd_aload_n C dX9_number_73) dX9_number_74) dX9_number_77 (by decide)) (hd_seq (p1 := 116) (hd_sistore_n C (p1 := 115) (hd_iadd C (p1 := 81) (p2 := 114) (hd_iload_n C dX9_number_80) (hd_tnI C (p1 := 109) (p2 := 110) (p3 := 113) (p4 := 114) (hd_and (p1 := 95) (p2 := 109) (p3 := 113) (hd_or (p1 := 86) (p2 := 95) (p3 := 113) (hd_c_eqT C (p1 := 82) (p2 := 83) (tgt := 95) (hd_iload_n C dX9_number_81) (hd_iconst C dX9_number_82 (by decide)) dX9_number_83 (by decide)) (hd_c_eqF C (p1 := 91) (p2 := 92) (tgt := 113) (hd_inI (hd_invS C (p2 := 88) snd_X9_sizeOf rfl gX9_number_X9_sizeOf yX9_number_X9_sizeOf ⟨by decide, by decide⟩ (by decide) (hd_apI (p1 := 86) (p2 := 88) hd_av0 (hd_iload C dX9_number_86)) dX9_number_88)) (hd_iload_n C dX9_number_91) dX9_number_92 (by decide))) (hd_c_eqF C (p1 := 102) (p2 := 106) (tgt := 113) (hd_inI (hd_invV C (p1 := 96) (p2 := 99) snd_X9_costOf rfl gX9_number_X9_costOf rfl yX9_number_X9_costOf ⟨by decide, by decide⟩ (by decide) (hd_aload_n C dX9_number_95) (hd_apI (p1 := 97) (p2 := 99) (hd_apI (p1 := 96) (p2 := 97) hd_av0 (hd_iload_n C dX9_number_96)) (hd_iload C dX9_number_97)) dX9_number_99)) (hd_getI C (p1 := 103) fX9_number_153 (hd_aload_n C dX9_number_102) dX9_number_103) dX9_number_106 (by decide))) (hd_iconst C dX9_number_109 (by decide)) dX9_number_110 (by decide) (hd_iconst C dX9_number_113 (by decide))) dX9_number_114) dX9_number_115 (by decide)) (hd_sgoto C (p1 := 119) (tgt := 71) (hd_ends (es := [119]) (by decide) (hd_siinc C dX9_number_116 (by decide) (by decide))) dX9_number_119 (by decide) (by decide))) (by decide))) (hd_retI C Rk (p1 := 123) (hd_iload_n C dX9_number_122) dX9_number_123))))))))
/-! X9_goes -/
set_option maxRecDepth 100000 in
theorem uX9_goes_X9 : ∀ w ∈ u_ws RX9 TX9 28, w ∈ wsX9_goes := by decide +kernel
set_option maxRecDepth 100000 in
theorem lX9_goes_58 : Cond.fieldLink RX9 58 (TX9 0).1 (TX9 0).2.1 (TX9 0).2.2.1 ∈ wsX9_goes := by decide +kernel
set_option maxRecDepth 100000 in
theorem qX9_goes_58 : hd_FP wsX9_goes RX9 vwCl 9 0 58 .int := ⟨RX9, TX9, 28, tyX9, rfl, by decide, uX9_goes_X9, lX9_goes_58, tyX9_ok, nmX9, rfl, rfl⟩
set_option maxRecDepth 100000 in
theorem yX9_goes_X9_in : yX9_in.cls ≠ "java/lang/invoke/MethodHandle" ∧ yX9_in.cls ≠ "java/lang/invoke/VarHandle" ∧ (parseMethodDescriptor yX9_in.desc).map (fun d => d.parameters.length) = some 3 := by decide +kernel
set_option maxRecDepth 100000 in
theorem yX9_goes_X9_isTown : yX9_isTown.cls = RX9 ∧ yX9_isTown.cls ≠ "java/lang/invoke/MethodHandle" ∧ yX9_isTown.cls ≠ "java/lang/invoke/VarHandle" ∧ (parseMethodDescriptor yX9_isTown.desc).map (fun d => d.parameters.length) = some 1 := by decide +kernel
set_option maxRecDepth 100000 in
theorem lX9_goes_84 : Cond.fieldLink RX9 84 (TX9 14).1 (TX9 14).2.1 (TX9 14).2.2.1 ∈ wsX9_goes := by decide +kernel
set_option maxRecDepth 100000 in
theorem fX9_goes_84 : hd_F wsX9_goes RX9 vwCl 9 14 84 := ⟨RX9, TX9, 28, rfl, by decide, uX9_goes_X9, lX9_goes_84⟩
set_option maxRecDepth 100000 in
theorem yX9_goes_X9_costOf : yX9_costOf.cls = RX9 ∧ yX9_costOf.cls ≠ "java/lang/invoke/MethodHandle" ∧ yX9_costOf.cls ≠ "java/lang/invoke/VarHandle" ∧ (parseMethodDescriptor yX9_costOf.desc).map (fun d => d.parameters.length) = some 2 := by decide +kernel
set_option maxRecDepth 100000 in
theorem wX9_goes_8 : Cond.constant RX9 121 (2000000000) ∈ wsX9_goes := by decide +kernel
set_option maxRecDepth 100000 in
theorem yX9_goes_X9_nearest : yX9_nearest.cls = RX9 ∧ yX9_nearest.cls ≠ "java/lang/invoke/MethodHandle" ∧ yX9_nearest.cls ≠ "java/lang/invoke/VarHandle" ∧ (parseMethodDescriptor yX9_nearest.desc).map (fun d => d.parameters.length) = some 2 := by decide +kernel
set_option maxRecDepth 100000 in
theorem lX9_goes_13 : Cond.fieldLink RX9 13 (TX9 4).1 (TX9 4).2.1 (TX9 4).2.2.1 ∈ wsX9_goes := by decide +kernel
set_option maxRecDepth 100000 in
theorem fX9_goes_13 : hd_F wsX9_goes RX9 vwCl 9 4 13 := ⟨RX9, TX9, 28, rfl, by decide, uX9_goes_X9, lX9_goes_13⟩
set_option maxRecDepth 100000 in
theorem lX9_goes_7 : Cond.fieldLink RX9 7 (TX9 3).1 (TX9 3).2.1 (TX9 3).2.2.1 ∈ wsX9_goes := by decide +kernel
set_option maxRecDepth 100000 in
theorem fX9_goes_7 : hd_F wsX9_goes RX9 vwCl 9 3 7 := ⟨RX9, TX9, 28, rfl, by decide, uX9_goes_X9, lX9_goes_7⟩
set_option maxRecDepth 100000 in
theorem yX9_goes_X9_wayOf : yX9_wayOf.cls = RX9 ∧ yX9_wayOf.cls ≠ "java/lang/invoke/MethodHandle" ∧ yX9_wayOf.cls ≠ "java/lang/invoke/VarHandle" ∧ (parseMethodDescriptor yX9_wayOf.desc).map (fun d => d.parameters.length) = some 2 := by decide +kernel
set_option maxRecDepth 100000 in
theorem yX9_goes_X9_roomedOf : yX9_roomedOf.cls = RX9 ∧ yX9_roomedOf.cls ≠ "java/lang/invoke/MethodHandle" ∧ yX9_roomedOf.cls ≠ "java/lang/invoke/VarHandle" ∧ (parseMethodDescriptor yX9_roomedOf.desc).map (fun d => d.parameters.length) = some 1 := by decide +kernel
set_option maxRecDepth 100000 in
theorem yX9_goes_X9_goFrom : yX9_goFrom.cls = RX9 ∧ yX9_goFrom.cls ≠ "java/lang/invoke/MethodHandle" ∧ yX9_goFrom.cls ≠ "java/lang/invoke/VarHandle" ∧ (parseMethodDescriptor yX9_goFrom.desc).map (fun d => d.parameters.length) = some 2 := by decide +kernel
set_option maxRecDepth 100000 in
theorem lX9_goes_46 : Cond.fieldLink RX9 46 (TX9 19).1 (TX9 19).2.1 (TX9 19).2.2.1 ∈ wsX9_goes := by decide +kernel
set_option maxRecDepth 100000 in
theorem fX9_goes_46 : hd_F wsX9_goes RX9 vwCl 9 19 46 := ⟨RX9, TX9, 28, rfl, by decide, uX9_goes_X9, lX9_goes_46⟩
def wo_X9_goes : hd_xS := (hd_sQ (hd_sF hs_sh 9 0 (hd_rL 0) (hd_iK (0))) (hd_sQ (hd_sW (hd_cO (hd_cX (hd_c0 (fun x => !decide (x = 0)) (hd_iN (hd_nS 3 (hd_pI (hd_pI (hd_pI hd_v0 (hd_iL 1)) (hd_iK (0))) (hd_iK (4))) wm_X9_in)))) (hd_cX (hd_c0 (fun x => !decide (x = 0)) (hd_iN (hd_nV hs_sh 9 (hd_rL 0) 1 (hd_pI hd_v0 (hd_iL 2)) wm_X9_isTown))))) (hd_sRI (hd_iK (-3)))) (hd_sQ (hd_sW (hd_cI (fun x y => decide (x = y)) (hd_iN (hd_nV hs_sh 9 (hd_rL 0) 2 (hd_pI (hd_pI hd_v0 (hd_iL 1)) (hd_iG hs_sh 9 14 (hd_rL 0))) wm_X9_costOf)) (hd_iK (2000000000))) (hd_sRI (hd_iK (-1)))) (hd_sQ (hd_sI 3 (hd_iN (hd_nV hs_sh 9 (hd_rL 0) 2 (hd_pI (hd_pI hd_v0 (hd_iG hs_sh 9 14 (hd_rL 0))) (hd_iL 2)) wm_X9_nearest))) (hd_sQ (hd_sW (hd_cI (fun x y => decide (x = y)) (hd_iL 1) (hd_iK (4))) (hd_sRI (hd_iQ (hd_cO (hd_cI (fun x y => decide (x = y)) (hd_iL 3) (hd_iK (-1))) (hd_cI (fun x y => decide (x < y)) (hd_iA hs_sh (hd_rG hs_sh 9 4 (hd_rL 0)) (hd_iL 2)) (hd_iB (fun x y => x * y) (hd_iA hs_sh (hd_rG hs_sh 9 3 (hd_rL 0)) (hd_iL 2)) (hd_iN (hd_nV hs_sh 9 (hd_rL 0) 2 (hd_pI (hd_pI hd_v0 (hd_iL 3)) (hd_iL 2)) wm_X9_wayOf))))) (hd_iK (-1)) (hd_iL 3)))) (hd_sQ (hd_sW (hd_cI (fun x y => decide (x < y)) (hd_iL 1) (hd_iK (3))) (hd_sRI (hd_iL 3))) (hd_sQ (hd_sI 4 (hd_iN (hd_nV hs_sh 9 (hd_rL 0) 2 (hd_pI (hd_pI hd_v0 (hd_iK (0))) (hd_iN (hd_nV hs_sh 9 (hd_rL 0) 1 (hd_pI hd_v0 (hd_iG hs_sh 9 14 (hd_rL 0))) wm_X9_roomedOf))) (wm_X9_goFrom 9)))) (hd_sRI (hd_iA hs_sh (hd_rG hs_sh 9 19 (hd_rL 0)) (hd_iL 2))))))))))
def wm_X9_goes : hd_M := hd_mth 5 wo_X9_goes
set_option maxHeartbeats 4000000 in
set_option maxRecDepth 100000 in
theorem snd_X9_goes : hd_Snd vwCl hs_sh yX9_goes wsX9_goes 13 wm_X9_goes := hd_method (by decide) rfl rfl (by decide) (fun κ C Rk => (hd_seq (p1 := 5) (hd_sputI C (p1 := 1) (p2 := 2) qX9_goes_58 (hd_aload_n C dX9_goes_0) (hd_iconst C dX9_goes_1 (by decide)) dX9_goes_2) (hd_seq (p1 := 25) (hd_if (p1 := 22) (p2 := 25) (hd_or (p1 := 14) (p2 := 22) (p3 := 25) (hd_not (hd_z_neF C (p2 := 11) (tgt := 22) (hd_inI (hd_invS C (p2 := 8) snd_X9_in rfl gX9_goes_X9_in yX9_goes_X9_in ⟨by decide, by decide⟩ (by decide) (hd_apI (p1 := 7) (p2 := 8) (hd_apI (p1 := 6) (p2 := 7) (hd_apI (p1 := 5) (p2 := 6) hd_av0 (hd_iload_n C dX9_goes_5)) (hd_iconst C dX9_goes_6 (by decide))) (hd_iconst C dX9_goes_7 (by decide))) dX9_goes_8)) dX9_goes_11 (by decide))) (hd_not (hd_z_neT C (p2 := 19) (tgt := 25) (hd_inI (hd_invV C (p1 := 15) (p2 := 16) snd_X9_isTown rfl gX9_goes_X9_isTown rfl yX9_goes_X9_isTown ⟨by decide, by decide⟩ (by decide) (hd_aload_n C dX9_goes_14) (hd_apI (p1 := 15) (p2 := 16) hd_av0 (hd_iload_n C dX9_goes_15)) dX9_goes_16)) dX9_goes_19 (by decide)))) (hd_retI C Rk (p1 := 24) (hd_bipush C dX9_goes_22 (by decide)) dX9_goes_24) (by decide)) (hd_seq (p1 := 41) (hd_if (p1 := 39) (p2 := 41) (hd_c_eqF C (p1 := 34) (p2 := 36) (tgt := 41) (hd_inI (hd_invV C (p1 := 26) (p2 := 31) snd_X9_costOf rfl gX9_goes_X9_costOf rfl yX9_goes_X9_costOf ⟨by decide, by decide⟩ (by decide) (hd_aload_n C dX9_goes_25) (hd_apI (p1 := 27) (p2 := 31) (hd_apI (p1 := 26) (p2 := 27) hd_av0 (hd_iload_n C dX9_goes_26)) (hd_getI C (p1 := 28) fX9_goes_84 (hd_aload_n C dX9_goes_27) dX9_goes_28)) dX9_goes_31)) (hd_ldc C wX9_goes_8 dX9_goes_34) dX9_goes_36 (by decide)) (hd_retI C Rk (p1 := 40) (hd_iconst C dX9_goes_39 (by decide)) dX9_goes_40) (by decide)) (hd_seq (p1 := 51) (hd_sistore_n C (p1 := 50) (hd_inI (hd_invV C (p1 := 42) (p2 := 47) snd_X9_nearest rfl gX9_goes_X9_nearest rfl yX9_goes_X9_nearest ⟨by decide, by decide⟩ (by decide) (hd_aload_n C dX9_goes_41) (hd_apI (p1 := 46) (p2 := 47) (hd_apI (p1 := 42) (p2 := 46) hd_av0 (hd_getI C (p1 := 43) fX9_goes_84 (hd_aload_n C dX9_goes_42) dX9_goes_43)) (hd_iload_n C dX9_goes_46)) dX9_goes_47)) dX9_goes_50 (by decide)) (hd_seq (p1 := 89) (hd_if (p1 := 56) (p2 := 89) (hd_c_eqF C (p1 := 52) (p2 := 53) (tgt := 89) (hd_iload_n C dX9_goes_51) (hd_iconst C dX9_goes_52 (by decide)) dX9_goes_53 (by decide)) (hd_retI C Rk (p1 := 88) (hd_tnI C (p1 := 83) (p2 := 84) (p3 := 87) (p4 := 88) (hd_or (p1 := 61) (p2 := 83) (p3 := 87) (hd_c_eqT C (p1 := 57) (p2 := 58) (tgt := 83) (hd_iload_n C dX9_goes_56) (hd_iconst C dX9_goes_57 (by decide)) dX9_goes_58 (by decide)) (hd_c_ltF C (p1 := 67) (p2 := 80) (tgt := 87) (hd_iald C (p1 := 65) (p2 := 66) (hd_getR C (p1 := 62) fX9_goes_13 (hd_aload_n C dX9_goes_61) dX9_goes_62) (hd_iload_n C dX9_goes_65) dX9_goes_66) (hd_imul C (p1 := 73) (p2 := 79) (hd_iald C (p1 := 71) (p2 := 72) (hd_getR C (p1 := 68) fX9_goes_7 (hd_aload_n C dX9_goes_67) dX9_goes_68) (hd_iload_n C dX9_goes_71) dX9_goes_72) (hd_inI (hd_invV C (p1 := 74) (p2 := 76) snd_X9_wayOf rfl gX9_goes_X9_wayOf rfl yX9_goes_X9_wayOf ⟨by decide, by decide⟩ (by decide) (hd_aload_n C dX9_goes_73) (hd_apI (p1 := 75) (p2 := 76) (hd_apI (p1 := 74) (p2 := 75) hd_av0 (hd_iload_n C dX9_goes_74)) (hd_iload_n C dX9_goes_75)) dX9_goes_76)) dX9_goes_79) dX9_goes_80 (by decide))) (hd_iconst C dX9_goes_83 (by decide)) dX9_goes_84 (by decide) (hd_iload_n C dX9_goes_87)) dX9_goes_88) (by decide)) (hd_seq (p1 := 96) (hd_if (p1 := 94) (p2 := 96) (hd_c_ltF C (p1 := 90) (p2 := 91) (tgt := 96) (hd_iload_n C dX9_goes_89) (hd_iconst C dX9_goes_90 (by decide)) dX9_goes_91 (by decide)) (hd_retI C Rk (p1 := 95) (hd_iload_n C dX9_goes_94) dX9_goes_95) (by decide)) (hd_seq (p1 := 111) (hd_sistore C (p1 := 109) (hd_inI (hd_invV C (p1 := 97) (p2 := 106) (snd_X9_goFrom 9) rfl gX9_goes_X9_goFrom rfl yX9_goes_X9_goFrom ⟨by decide, by decide⟩ (by decide) (hd_aload_n C dX9_goes_96) (hd_apI (p1 := 98) (p2 := 106) (hd_apI (p1 := 97) (p2 := 98) hd_av0 (hd_iconst C dX9_goes_97 (by decide))) (hd_inI (hd_invV C (p1 := 99) (p2 := 103) snd_X9_roomedOf rfl gX9_goes_X9_roomedOf rfl yX9_goes_X9_roomedOf ⟨by decide, by decide⟩ (by decide) (hd_aload_n C dX9_goes_98) (hd_apI (p1 := 99) (p2 := 103) hd_av0 (hd_getI C (p1 := 100) fX9_goes_84 (hd_aload_n C dX9_goes_99) dX9_goes_100)) dX9_goes_103))) dX9_goes_106)) dX9_goes_109 (by decide)) (hd_retI C Rk (p1 := 117) (hd_iald C (p1 := 115) (p2 := 116) (hd_getR C (p1 := 112) fX9_goes_46 (hd_aload_n C dX9_goes_111) dX9_goes_112) (hd_iload_n C dX9_goes_115) dX9_goes_116) dX9_goes_117)))))))))
