/-! X9_nearest -/
set_option maxRecDepth 100000 in
theorem uX9_nearest_X9 : ∀ w ∈ u_ws RX9 TX9 28, w ∈ wsX9_nearest := by decide +kernel
set_option maxRecDepth 100000 in
theorem lX9_nearest_71 : Cond.fieldLink RX9 71 (TX9 2).1 (TX9 2).2.1 (TX9 2).2.2.1 ∈ wsX9_nearest := by decide +kernel
set_option maxRecDepth 100000 in
theorem fX9_nearest_71 : hd_F wsX9_nearest RX9 vwCl 9 2 71 := ⟨RX9, TX9, 28, rfl, by decide, uX9_nearest_X9, lX9_nearest_71⟩
set_option maxRecDepth 100000 in
theorem yX9_nearest_X9_has : yX9_has.cls ≠ "java/lang/invoke/MethodHandle" ∧ yX9_has.cls ≠ "java/lang/invoke/VarHandle" ∧ (parseMethodDescriptor yX9_has.desc).map (fun d => d.parameters.length) = some 2 := by decide +kernel
set_option maxRecDepth 100000 in
theorem yX9_nearest_X9_wayOf : yX9_wayOf.cls = RX9 ∧ yX9_wayOf.cls ≠ "java/lang/invoke/MethodHandle" ∧ yX9_wayOf.cls ≠ "java/lang/invoke/VarHandle" ∧ (parseMethodDescriptor yX9_wayOf.desc).map (fun d => d.parameters.length) = some 2 := by decide +kernel
def wc_X9_nearest_5 : hd_xC := (hd_cI (fun x y => decide (x < y)) (hd_iL 4) (hd_iG hs_sh 9 2 (hd_rL 0)))
def wb_X9_nearest_5 : hd_xS := (hd_sQ (hd_sW (hd_cA (hd_c0 (fun x => !decide (x = 0)) (hd_iN (hd_nS 2 (hd_pI (hd_pI hd_v0 (hd_iL 1)) (hd_iL 4)) wm_X9_has))) (hd_cO (hd_cI (fun x y => decide (x = y)) (hd_iL 3) (hd_iK (-1))) (hd_cI (fun x y => decide (x < y)) (hd_iN (hd_nV hs_sh 9 (hd_rL 0) 2 (hd_pI (hd_pI hd_v0 (hd_iL 4)) (hd_iL 2)) wm_X9_wayOf)) (hd_iN (hd_nV hs_sh 9 (hd_rL 0) 2 (hd_pI (hd_pI hd_v0 (hd_iL 3)) (hd_iL 2)) wm_X9_wayOf))))) (hd_sI 3 (hd_iL 4))) (hd_sP 4 (1)))
def wo_X9_nearest : hd_xS := (hd_sQ (hd_sI 3 (hd_iK (-1))) (hd_sQ (hd_sQ (hd_sI 4 (hd_iK (0))) (hd_sH (wc_X9_nearest_5) (wb_X9_nearest_5))) (hd_sRI (hd_iL 3))))
def wm_X9_nearest : hd_M := hd_mth 5 wo_X9_nearest
set_option maxHeartbeats 4000000 in
set_option maxRecDepth 100000 in
theorem snd_X9_nearest : hd_Snd vwCl hs_sh yX9_nearest wsX9_nearest 2 wm_X9_nearest := hd_method (by decide) rfl rfl (by decide) (fun κ C Rk => (hd_seq (p1 := 2) (hd_sistore_n C (p1 := 1) (hd_iconst C dX9_nearest_0 (by decide)) dX9_nearest_1 (by decide)) (hd_seq (p1 := 53) (hd_seq (p1 := 5) (hd_sistore C (p1 := 3) (hd_iconst C dX9_nearest_2 (by decide)) dX9_nearest_3 (by decide)) (hd_loop C (p1 := 14) (p2 := 53) (hd_c_ltF C (p1 := 7) (p2 := 11) (tgt := 53) (hd_iload C dX9_nearest_5) (hd_getI C (p1 := 8) fX9_nearest_71 (hd_aload_n C dX9_nearest_7) dX9_nearest_8) dX9_nearest_11 (by decide)) (hd_seq (p1 := 47) (hd_if (p1 := 44) (p2 := 47) (hd_and (p1 := 23) (p2 := 44) (p3 := 47) (hd_z_neF C (p2 := 20) (tgt := 47) (hd_inI (hd_invS C (p2 := 17) snd_X9_has rfl gX9_nearest_X9_has yX9_nearest_X9_has ⟨by decide, by decide⟩ (by decide) (hd_apI (p1 := 15) (p2 := 17) (hd_apI (p1 := 14) (p2 := 15) hd_av0 (hd_iload_n C dX9_nearest_14)) (hd_iload C dX9_nearest_15)) dX9_nearest_17)) dX9_nearest_20 (by decide)) (hd_or (p1 := 28) (p2 := 44) (p3 := 47) (hd_c_eqT C (p1 := 24) (p2 := 25) (tgt := 44) (hd_iload_n C dX9_nearest_23) (hd_iconst C dX9_nearest_24 (by decide)) dX9_nearest_25 (by decide)) (hd_c_ltF C (p1 := 35) (p2 := 41) (tgt := 47) (hd_inI (hd_invV C (p1 := 29) (p2 := 32) snd_X9_wayOf rfl gX9_nearest_X9_wayOf rfl yX9_nearest_X9_wayOf ⟨by decide, by decide⟩ (by decide) (hd_aload_n C dX9_nearest_28) (hd_apI (p1 := 31) (p2 := 32) (hd_apI (p1 := 29) (p2 := 31) hd_av0 (hd_iload C dX9_nearest_29)) (hd_iload_n C dX9_nearest_31)) dX9_nearest_32)) (hd_inI (hd_invV C (p1 := 36) (p2 := 38) snd_X9_wayOf rfl gX9_nearest_X9_wayOf rfl yX9_nearest_X9_wayOf ⟨by decide, by decide⟩ (by decide) (hd_aload_n C dX9_nearest_35) (hd_apI (p1 := 37) (p2 := 38) (hd_apI (p1 := 36) (p2 := 37) hd_av0 (hd_iload_n C dX9_nearest_36)) (hd_iload_n C dX9_nearest_37)) dX9_nearest_38)) dX9_nearest_41 (by decide)))) (hd_sistore_n C (p1 := 46) (hd_iload C dX9_nearest_44) dX9_nearest_46 (by decide)) (by decide)) (hd_sgoto C (p1 := 50) (tgt := 5) (hd_ends (es := [50]) (by decide) (hd_siinc C dX9_nearest_47 (by decide) (by decide))) dX9_nearest_50 (by decide) (by decide))) (by decide))) (hd_retI C Rk (p1 := 54) (hd_iload_n C dX9_nearest_53) dX9_nearest_54))))
/-! X9_notHeld -/
set_option maxRecDepth 100000 in
theorem uX9_notHeld_X9 : ∀ w ∈ u_ws RX9 TX9 28, w ∈ wsX9_notHeld := by decide +kernel
set_option maxRecDepth 100000 in
theorem lX9_notHeld_71 : Cond.fieldLink RX9 71 (TX9 2).1 (TX9 2).2.1 (TX9 2).2.2.1 ∈ wsX9_notHeld := by decide +kernel
set_option maxRecDepth 100000 in
theorem fX9_notHeld_71 : hd_F wsX9_notHeld RX9 vwCl 9 2 71 := ⟨RX9, TX9, 28, rfl, by decide, uX9_notHeld_X9, lX9_notHeld_71⟩
set_option maxRecDepth 100000 in
theorem lX9_notHeld_68 : Cond.fieldLink RX9 68 (TX9 1).1 (TX9 1).2.1 (TX9 1).2.2.1 ∈ wsX9_notHeld := by decide +kernel
set_option maxRecDepth 100000 in
theorem fX9_notHeld_68 : hd_F wsX9_notHeld RX9 vwCl 9 1 68 := ⟨RX9, TX9, 28, rfl, by decide, uX9_notHeld_X9, lX9_notHeld_68⟩
set_option maxRecDepth 100000 in
theorem lX9_notHeld_37 : Cond.fieldLink RX9 37 (TX9 15).1 (TX9 15).2.1 (TX9 15).2.2.1 ∈ wsX9_notHeld := by decide +kernel
set_option maxRecDepth 100000 in
theorem fX9_notHeld_37 : hd_F wsX9_notHeld RX9 vwCl 9 15 37 := ⟨RX9, TX9, 28, rfl, by decide, uX9_notHeld_X9, lX9_notHeld_37⟩
set_option maxRecDepth 100000 in
theorem lX9_notHeld_7 : Cond.fieldLink RX9 7 (TX9 3).1 (TX9 3).2.1 (TX9 3).2.2.1 ∈ wsX9_notHeld := by decide +kernel
set_option maxRecDepth 100000 in
theorem fX9_notHeld_7 : hd_F wsX9_notHeld RX9 vwCl 9 3 7 := ⟨RX9, TX9, 28, rfl, by decide, uX9_notHeld_X9, lX9_notHeld_7⟩
set_option maxRecDepth 100000 in
theorem yX9_notHeld_X9_wayOf : yX9_wayOf.cls = RX9 ∧ yX9_wayOf.cls ≠ "java/lang/invoke/MethodHandle" ∧ yX9_wayOf.cls ≠ "java/lang/invoke/VarHandle" ∧ (parseMethodDescriptor yX9_wayOf.desc).map (fun d => d.parameters.length) = some 2 := by decide +kernel
set_option maxRecDepth 100000 in
theorem lX9_notHeld_19 : Cond.fieldLink RX9 19 (TX9 6).1 (TX9 6).2.1 (TX9 6).2.2.1 ∈ wsX9_notHeld := by decide +kernel
set_option maxRecDepth 100000 in
theorem fX9_notHeld_19 : hd_F wsX9_notHeld RX9 vwCl 9 6 19 := ⟨RX9, TX9, 28, rfl, by decide, uX9_notHeld_X9, lX9_notHeld_19⟩
def wc_X9_notHeld_14 : hd_xC := (hd_cI (fun x y => decide (x < y)) (hd_iL 3) (hd_iG hs_sh 9 1 (hd_rL 0)))
def wb_X9_notHeld_14 : hd_xS := (hd_sQ (hd_sQ (hd_sI 4 (hd_iB (fun x y => x - y) (hd_iA hs_sh (hd_rG hs_sh 9 15 (hd_rL 0)) (hd_iL 3)) (hd_iB (fun x y => x * y) (hd_iA hs_sh (hd_rG hs_sh 9 3 (hd_rL 0)) (hd_iL 3)) (hd_iN (hd_nV hs_sh 9 (hd_rL 0) 2 (hd_pI (hd_pI hd_v0 (hd_iL 1)) (hd_iL 3)) wm_X9_wayOf))))) (hd_sI 2 (hd_iB (fun x y => x + y) (hd_iL 2) (hd_iQ (hd_c0 (fun x => decide (0 < x)) (hd_iL 4)) (hd_iL 4) (hd_iK (0)))))) (hd_sP 3 (1)))
def wc_X9_notHeld_2 : hd_xC := (hd_cI (fun x y => decide (x < y)) (hd_iL 1) (hd_iG hs_sh 9 2 (hd_rL 0)))
def wb_X9_notHeld_2 : hd_xS := (hd_sQ (hd_sQ (hd_sI 2 (hd_iK (0))) (hd_sQ (hd_sQ (hd_sI 3 (hd_iK (0))) (hd_sH (wc_X9_notHeld_14) (wb_X9_notHeld_14))) (hd_sW (hd_cI (fun x y => decide (y < x)) (hd_iL 2) (hd_iA hs_sh (hd_rG hs_sh 9 6 (hd_rL 0)) (hd_iL 1))) (hd_sRI (hd_iL 1))))) (hd_sP 1 (1)))
def wo_X9_notHeld : hd_xS := (hd_sQ (hd_sQ (hd_sI 1 (hd_iK (0))) (hd_sH (wc_X9_notHeld_2) (wb_X9_notHeld_2))) (hd_sRI (hd_iK (-1))))
def wm_X9_notHeld : hd_M := hd_mth 5 wo_X9_notHeld
set_option maxHeartbeats 4000000 in
set_option maxRecDepth 100000 in
theorem snd_X9_notHeld : hd_Snd vwCl hs_sh yX9_notHeld wsX9_notHeld 2 wm_X9_notHeld := hd_method (by decide) rfl rfl (by decide) (fun κ C Rk => (hd_seq (p1 := 82) (hd_seq (p1 := 2) (hd_sistore_n C (p1 := 1) (hd_iconst C dX9_notHeld_0 (by decide)) dX9_notHeld_1 (by decide)) (hd_loop C (p1 := 10) (p2 := 82) (hd_c_ltF C (p1 := 3) (p2 := 7) (tgt := 82) (hd_iload_n C dX9_notHeld_2) (hd_getI C (p1 := 4) fX9_notHeld_71 (hd_aload_n C dX9_notHeld_3) dX9_notHeld_4) dX9_notHeld_7 (by decide)) (hd_seq (p1 := 76) (hd_seq (p1 := 12) (hd_sistore_n C (p1 := 11) (hd_iconst C dX9_notHeld_10 (by decide)) dX9_notHeld_11 (by decide)) (hd_seq (p1 := 64) (hd_seq (p1 := 14) (hd_sistore_n C (p1 := 13) (hd_iconst C dX9_notHeld_12 (by decide)) dX9_notHeld_13 (by decide)) (hd_loop C (p1 := 22) (p2 := 64) (hd_c_ltF C (p1 := 15) (p2 := 19) (tgt := 64) (hd_iload_n C dX9_notHeld_14) (hd_getI C (p1 := 16) fX9_notHeld_68 (hd_aload_n C dX9_notHeld_15) dX9_notHeld_16) dX9_notHeld_19 (by decide)) (hd_seq (p1 := 58) (hd_seq (p1 := 44) (hd_sistore C (p1 := 42) (hd_isub C (p1 := 28) (p2 := 41) (hd_iald C (p1 := 26) (p2 := 27) (hd_getR C (p1 := 23) fX9_notHeld_37 (hd_aload_n C dX9_notHeld_22) dX9_notHeld_23) (hd_iload_n C dX9_notHeld_26) dX9_notHeld_27) (hd_imul C (p1 := 34) (p2 := 40) (hd_iald C (p1 := 32) (p2 := 33) (hd_getR C (p1 := 29) fX9_notHeld_7 (hd_aload_n C dX9_notHeld_28) dX9_notHeld_29) (hd_iload_n C dX9_notHeld_32) dX9_notHeld_33) (hd_inI (hd_invV C (p1 := 35) (p2 := 37) snd_X9_wayOf rfl gX9_notHeld_X9_wayOf rfl yX9_notHeld_X9_wayOf ⟨by decide, by decide⟩ (by decide) (hd_aload_n C dX9_notHeld_34) (hd_apI (p1 := 36) (p2 := 37) (hd_apI (p1 := 35) (p2 := 36) hd_av0 (hd_iload_n C dX9_notHeld_35)) (hd_iload_n C dX9_notHeld_36)) dX9_notHeld_37)) dX9_notHeld_40) dX9_notHeld_41) dX9_notHeld_42 (by decide)) (hd_sistore_n C (p1 := 57) (hd_iadd C (p1 := 45) (p2 := 56) (hd_iload_n C dX9_notHeld_44) (hd_tnI C (p1 := 50) (p2 := 52) (p3 := 55) (p4 := 56) (hd_z_gtF C (p2 := 47) (tgt := 55) (hd_iload C dX9_notHeld_45) dX9_notHeld_47 (by decide)) (hd_iload C dX9_notHeld_50) dX9_notHeld_52 (by decide) (hd_iconst C dX9_notHeld_55 (by decide))) dX9_notHeld_56) dX9_notHeld_57 (by decide))) (hd_sgoto C (p1 := 61) (tgt := 14) (hd_ends (es := [61]) (by decide) (hd_siinc C dX9_notHeld_58 (by decide) (by decide))) dX9_notHeld_61 (by decide) (by decide))) (by decide))) (hd_if (p1 := 74) (p2 := 76) (hd_c_gtF C (p1 := 65) (p2 := 71) (tgt := 76) (hd_iload_n C dX9_notHeld_64) (hd_iald C (p1 := 69) (p2 := 70) (hd_getR C (p1 := 66) fX9_notHeld_19 (hd_aload_n C dX9_notHeld_65) dX9_notHeld_66) (hd_iload_n C dX9_notHeld_69) dX9_notHeld_70) dX9_notHeld_71 (by decide)) (hd_retI C Rk (p1 := 75) (hd_iload_n C dX9_notHeld_74) dX9_notHeld_75) (by decide)))) (hd_sgoto C (p1 := 79) (tgt := 2) (hd_ends (es := [79]) (by decide) (hd_siinc C dX9_notHeld_76 (by decide) (by decide))) dX9_notHeld_79 (by decide) (by decide))) (by decide))) (hd_retI C Rk (p1 := 83) (hd_iconst C dX9_notHeld_82 (by decide)) dX9_notHeld_83)))
/-! X9_open -/
set_option maxRecDepth 100000 in
theorem uX9_open_X9 : ∀ w ∈ u_ws RX9 TX9 28, w ∈ wsX9_open := by decide +kernel
set_option maxRecDepth 100000 in
theorem lX9_open_58 : Cond.fieldLink RX9 58 (TX9 0).1 (TX9 0).2.1 (TX9 0).2.2.1 ∈ wsX9_open := by decide +kernel
set_option maxRecDepth 100000 in
theorem qX9_open_58 : hd_FP wsX9_open RX9 vwCl 9 0 58 .int := ⟨RX9, TX9, 28, tyX9, rfl, by decide, uX9_open_X9, lX9_open_58, tyX9_ok, nmX9, rfl, rfl⟩
set_option maxRecDepth 100000 in
theorem yX9_open_X9_allHalls : yX9_allHalls.cls = RX9 ∧ yX9_allHalls.cls ≠ "java/lang/invoke/MethodHandle" ∧ yX9_allHalls.cls ≠ "java/lang/invoke/VarHandle" ∧ (parseMethodDescriptor yX9_allHalls.desc).map (fun d => d.parameters.length) = some 0 := by decide +kernel
set_option maxRecDepth 100000 in
theorem yX9_open_X9_in : yX9_in.cls ≠ "java/lang/invoke/MethodHandle" ∧ yX9_in.cls ≠ "java/lang/invoke/VarHandle" ∧ (parseMethodDescriptor yX9_in.desc).map (fun d => d.parameters.length) = some 3 := by decide +kernel
set_option maxRecDepth 100000 in
theorem lX9_open_84 : Cond.fieldLink RX9 84 (TX9 14).1 (TX9 14).2.1 (TX9 14).2.2.1 ∈ wsX9_open := by decide +kernel
set_option maxRecDepth 100000 in
theorem qX9_open_84 : hd_FP wsX9_open RX9 vwCl 9 14 84 .int := ⟨RX9, TX9, 28, tyX9, rfl, by decide, uX9_open_X9, lX9_open_84, tyX9_ok, nmX9, rfl, rfl⟩
set_option maxRecDepth 100000 in
theorem yX9_open_X9_sizeOf : yX9_sizeOf.cls ≠ "java/lang/invoke/MethodHandle" ∧ yX9_sizeOf.cls ≠ "java/lang/invoke/VarHandle" ∧ (parseMethodDescriptor yX9_sizeOf.desc).map (fun d => d.parameters.length) = some 1 := by decide +kernel
def wo_X9_open : hd_xS := (hd_sQ (hd_sF hs_sh 9 0 (hd_rL 0) (hd_iK (0))) (hd_sQ (hd_sW (hd_cX (hd_c0 (fun x => !decide (x = 0)) (hd_iN (hd_nS 3 (hd_pI (hd_pI (hd_pI hd_v0 (hd_iL 1)) (hd_iK (0))) (hd_iN (hd_nV hs_sh 9 (hd_rL 0) 0 hd_v0 wm_X9_allHalls))) wm_X9_in)))) (hd_sRI (hd_iK (-3)))) (hd_sQ (hd_sF hs_sh 9 14 (hd_rL 0) (hd_iL 1)) (hd_sRI (hd_iN (hd_nS 1 (hd_pI hd_v0 (hd_iL 1)) wm_X9_sizeOf))))))
def wm_X9_open : hd_M := hd_mth 2 wo_X9_open
set_option maxHeartbeats 4000000 in
set_option maxRecDepth 100000 in
theorem snd_X9_open : hd_Snd vwCl hs_sh yX9_open wsX9_open 2 wm_X9_open := hd_method (by decide) rfl rfl (by decide) (fun κ C Rk => (hd_seq (p1 := 5) (hd_sputI C (p1 := 1) (p2 := 2) qX9_open_58 (hd_aload_n C dX9_open_0) (hd_iconst C dX9_open_1 (by decide)) dX9_open_2) (hd_seq (p1 := 20) (hd_if (p1 := 17) (p2 := 20) (hd_not (hd_z_neT C (p2 := 14) (tgt := 20) (hd_inI (hd_invS C (p2 := 11) snd_X9_in rfl gX9_open_X9_in yX9_open_X9_in ⟨by decide, by decide⟩ (by decide) (hd_apI (p1 := 7) (p2 := 11) (hd_apI (p1 := 6) (p2 := 7) (hd_apI (p1 := 5) (p2 := 6) hd_av0 (hd_iload_n C dX9_open_5)) (hd_iconst C dX9_open_6 (by decide))) (hd_inI (hd_invV C (p1 := 8) (p2 := 8) snd_X9_allHalls rfl gX9_open_X9_allHalls rfl yX9_open_X9_allHalls ⟨by decide, by decide⟩ (by decide) (hd_aload_n C dX9_open_7) hd_av0 dX9_open_8))) dX9_open_11)) dX9_open_14 (by decide))) (hd_retI C Rk (p1 := 19) (hd_bipush C dX9_open_17 (by decide)) dX9_open_19) (by decide)) (hd_seq (p1 := 25) (hd_sputI C (p1 := 21) (p2 := 22) qX9_open_84 (hd_aload_n C dX9_open_20) (hd_iload_n C dX9_open_21) dX9_open_22) (hd_retI C Rk (p1 := 29) (hd_inI (hd_invS C (p2 := 26) snd_X9_sizeOf rfl gX9_open_X9_sizeOf yX9_open_X9_sizeOf ⟨by decide, by decide⟩ (by decide) (hd_apI (p1 := 25) (p2 := 26) hd_av0 (hd_iload_n C dX9_open_25)) dX9_open_26)) dX9_open_29)))))
/-! X9_pricesOf -/
set_option maxRecDepth 100000 in
theorem uX9_pricesOf_X9 : ∀ w ∈ u_ws RX9 TX9 28, w ∈ wsX9_pricesOf := by decide +kernel
set_option maxRecDepth 100000 in
theorem lX9_pricesOf_71 : Cond.fieldLink RX9 71 (TX9 2).1 (TX9 2).2.1 (TX9 2).2.2.1 ∈ wsX9_pricesOf := by decide +kernel
set_option maxRecDepth 100000 in
theorem fX9_pricesOf_71 : hd_F wsX9_pricesOf RX9 vwCl 9 2 71 := ⟨RX9, TX9, 28, rfl, by decide, uX9_pricesOf_X9, lX9_pricesOf_71⟩
set_option maxRecDepth 100000 in
theorem yX9_pricesOf_X9_has : yX9_has.cls ≠ "java/lang/invoke/MethodHandle" ∧ yX9_has.cls ≠ "java/lang/invoke/VarHandle" ∧ (parseMethodDescriptor yX9_has.desc).map (fun d => d.parameters.length) = some 2 := by decide +kernel
set_option maxRecDepth 100000 in
theorem lX9_pricesOf_19 : Cond.fieldLink RX9 19 (TX9 6).1 (TX9 6).2.1 (TX9 6).2.2.1 ∈ wsX9_pricesOf := by decide +kernel
set_option maxRecDepth 100000 in
theorem fX9_pricesOf_19 : hd_F wsX9_pricesOf RX9 vwCl 9 6 19 := ⟨RX9, TX9, 28, rfl, by decide, uX9_pricesOf_X9, lX9_pricesOf_19⟩
def wc_X9_pricesOf_4 : hd_xC := (hd_cI (fun x y => decide (x < y)) (hd_iL 3) (hd_iG hs_sh 9 2 (hd_rL 0)))
def wb_X9_pricesOf_4 : hd_xS := (hd_sQ (hd_sI 2 (hd_iB (fun x y => x + y) (hd_iL 2) (hd_iQ (hd_c0 (fun x => !decide (x = 0)) (hd_iN (hd_nS 2 (hd_pI (hd_pI hd_v0 (hd_iL 1)) (hd_iL 3)) wm_X9_has))) (hd_iA hs_sh (hd_rG hs_sh 9 6 (hd_rL 0)) (hd_iL 3)) (hd_iK (0))))) (hd_sP 3 (1)))
def wo_X9_pricesOf : hd_xS := (hd_sQ (hd_sI 2 (hd_iK (0))) (hd_sQ (hd_sQ (hd_sI 3 (hd_iK (0))) (hd_sH (wc_X9_pricesOf_4) (wb_X9_pricesOf_4))) (hd_sRI (hd_iL 2))))
def wm_X9_pricesOf : hd_M := hd_mth 4 wo_X9_pricesOf
set_option maxHeartbeats 4000000 in
set_option maxRecDepth 100000 in
theorem snd_X9_pricesOf : hd_Snd vwCl hs_sh yX9_pricesOf wsX9_pricesOf 2 wm_X9_pricesOf := hd_method (by decide) rfl rfl (by decide) (fun κ C Rk => (hd_seq (p1 := 2) (hd_sistore_n C (p1 := 1) (hd_iconst C dX9_pricesOf_0 (by decide)) dX9_pricesOf_1 (by decide)) (hd_seq (p1 := 39) (hd_seq (p1 := 4) (hd_sistore_n C (p1 := 3) (hd_iconst C dX9_pricesOf_2 (by decide)) dX9_pricesOf_3 (by decide)) (hd_loop C (p1 := 12) (p2 := 39) (hd_c_ltF C (p1 := 5) (p2 := 9) (tgt := 39) (hd_iload_n C dX9_pricesOf_4) (hd_getI C (p1 := 6) fX9_pricesOf_71 (hd_aload_n C dX9_pricesOf_5) dX9_pricesOf_6) dX9_pricesOf_9 (by decide)) (hd_seq (p1 := 33) (hd_sistore_n C (p1 := 32) (hd_iadd C (p1 := 13) (p2 := 31) (hd_iload_n C dX9_pricesOf_12) (hd_tnI C (p1 := 21) (p2 := 27) (p3 := 30) (p4 := 31) (hd_z_neF C (p2 := 18) (tgt := 30) (hd_inI (hd_invS C (p2 := 15) snd_X9_has rfl gX9_pricesOf_X9_has yX9_pricesOf_X9_has ⟨by decide, by decide⟩ (by decide) (hd_apI (p1 := 14) (p2 := 15) (hd_apI (p1 := 13) (p2 := 14) hd_av0 (hd_iload_n C dX9_pricesOf_13)) (hd_iload_n C dX9_pricesOf_14)) dX9_pricesOf_15)) dX9_pricesOf_18 (by decide)) (hd_iald C (p1 := 25) (p2 := 26) (hd_getR C (p1 := 22) fX9_pricesOf_19 (hd_aload_n C dX9_pricesOf_21) dX9_pricesOf_22) (hd_iload_n C dX9_pricesOf_25) dX9_pricesOf_26) dX9_pricesOf_27 (by decide) (hd_iconst C dX9_pricesOf_30 (by decide))) dX9_pricesOf_31) dX9_pricesOf_32 (by decide)) (hd_sgoto C (p1 := 36) (tgt := 4) (hd_ends (es := [36]) (by decide) (hd_siinc C dX9_pricesOf_33 (by decide) (by decide))) dX9_pricesOf_36 (by decide) (by decide))) (by decide))) (hd_retI C Rk (p1 := 40) (hd_iload_n C dX9_pricesOf_39) dX9_pricesOf_40))))
/-! X9_roomedOf -/
set_option maxRecDepth 100000 in
theorem yX9_roomedOf_X9_allTowns : yX9_allTowns.cls = RX9 ∧ yX9_allTowns.cls ≠ "java/lang/invoke/MethodHandle" ∧ yX9_allTowns.cls ≠ "java/lang/invoke/VarHandle" ∧ (parseMethodDescriptor yX9_allTowns.desc).map (fun d => d.parameters.length) = some 0 := by decide +kernel
set_option maxRecDepth 100000 in
theorem uX9_roomedOf_X9 : ∀ w ∈ u_ws RX9 TX9 28, w ∈ wsX9_roomedOf := by decide +kernel
set_option maxRecDepth 100000 in
theorem lX9_roomedOf_40 : Cond.fieldLink RX9 40 (TX9 17).1 (TX9 17).2.1 (TX9 17).2.2.1 ∈ wsX9_roomedOf := by decide +kernel
set_option maxRecDepth 100000 in
theorem fX9_roomedOf_40 : hd_F wsX9_roomedOf RX9 vwCl 9 17 40 := ⟨RX9, TX9, 28, rfl, by decide, uX9_roomedOf_X9, lX9_roomedOf_40⟩
set_option maxRecDepth 100000 in
theorem wX9_roomedOf_4 : Cond.constant RX9 121 (2000000000) ∈ wsX9_roomedOf := by decide +kernel
set_option maxRecDepth 100000 in
theorem lX9_roomedOf_71 : Cond.fieldLink RX9 71 (TX9 2).1 (TX9 2).2.1 (TX9 2).2.2.1 ∈ wsX9_roomedOf := by decide +kernel
set_option maxRecDepth 100000 in
theorem fX9_roomedOf_71 : hd_F wsX9_roomedOf RX9 vwCl 9 2 71 := ⟨RX9, TX9, 28, rfl, by decide, uX9_roomedOf_X9, lX9_roomedOf_71⟩
set_option maxRecDepth 100000 in
theorem yX9_roomedOf_X9_has : yX9_has.cls ≠ "java/lang/invoke/MethodHandle" ∧ yX9_has.cls ≠ "java/lang/invoke/VarHandle" ∧ (parseMethodDescriptor yX9_has.desc).map (fun d => d.parameters.length) = some 2 := by decide +kernel
set_option maxRecDepth 100000 in
theorem lX9_roomedOf_68 : Cond.fieldLink RX9 68 (TX9 1).1 (TX9 1).2.1 (TX9 1).2.2.1 ∈ wsX9_roomedOf := by decide +kernel
set_option maxRecDepth 100000 in
theorem fX9_roomedOf_68 : hd_F wsX9_roomedOf RX9 vwCl 9 1 68 := ⟨RX9, TX9, 28, rfl, by decide, uX9_roomedOf_X9, lX9_roomedOf_68⟩
set_option maxRecDepth 100000 in
theorem lX9_roomedOf_7 : Cond.fieldLink RX9 7 (TX9 3).1 (TX9 3).2.1 (TX9 3).2.2.1 ∈ wsX9_roomedOf := by decide +kernel
set_option maxRecDepth 100000 in
theorem fX9_roomedOf_7 : hd_F wsX9_roomedOf RX9 vwCl 9 3 7 := ⟨RX9, TX9, 28, rfl, by decide, uX9_roomedOf_X9, lX9_roomedOf_7⟩
set_option maxRecDepth 100000 in
theorem yX9_roomedOf_X9_wayOf : yX9_wayOf.cls = RX9 ∧ yX9_wayOf.cls ≠ "java/lang/invoke/MethodHandle" ∧ yX9_wayOf.cls ≠ "java/lang/invoke/VarHandle" ∧ (parseMethodDescriptor yX9_wayOf.desc).map (fun d => d.parameters.length) = some 2 := by decide +kernel
set_option maxRecDepth 100000 in
theorem lX9_roomedOf_43 : Cond.fieldLink RX9 43 (TX9 18).1 (TX9 18).2.1 (TX9 18).2.2.1 ∈ wsX9_roomedOf := by decide +kernel
set_option maxRecDepth 100000 in
theorem fX9_roomedOf_43 : hd_F wsX9_roomedOf RX9 vwCl 9 18 43 := ⟨RX9, TX9, 28, rfl, by decide, uX9_roomedOf_X9, lX9_roomedOf_43⟩
set_option maxRecDepth 100000 in
theorem lX9_roomedOf_22 : Cond.fieldLink RX9 22 (TX9 7).1 (TX9 7).2.1 (TX9 7).2.2.1 ∈ wsX9_roomedOf := by decide +kernel
set_option maxRecDepth 100000 in
theorem fX9_roomedOf_22 : hd_F wsX9_roomedOf RX9 vwCl 9 7 22 := ⟨RX9, TX9, 28, rfl, by decide, uX9_roomedOf_X9, lX9_roomedOf_22⟩
def wc_X9_roomedOf_7 : hd_xC := (hd_cI (fun x y => decide (x ≤ y)) (hd_iL 3) (hd_iL 2))
def wb_X9_roomedOf_7 : hd_xS := (hd_sQ (hd_sA hs_sh (hd_rG hs_sh 9 17 (hd_rL 0)) (hd_iL 3) (hd_iQ (hd_c0 (fun x => decide (x = 0)) (hd_iL 3)) (hd_iK (0)) (hd_iK (2000000000)))) (hd_sP 3 (1)))
def wc_X9_roomedOf_70 : hd_xC := (hd_cI (fun x y => decide (x < y)) (hd_iL 7) (hd_iG hs_sh 9 1 (hd_rL 0)))
def wb_X9_roomedOf_70 : hd_xS := (hd_sQ (hd_sQ (hd_sI 5 (hd_iB (fun x y => x + y) (hd_iL 5) (hd_iQ (hd_c0 (fun x => !decide (x = 0)) (hd_iN (hd_nS 2 (hd_pI (hd_pI hd_v0 (hd_iL 4)) (hd_iL 7)) wm_X9_has))) (hd_iA hs_sh (hd_rG hs_sh 9 3 (hd_rL 0)) (hd_iL 7)) (hd_iK (0))))) (hd_sI 6 (hd_iB (fun x y => x + y) (hd_iL 6) (hd_iQ (hd_c0 (fun x => !decide (x = 0)) (hd_iN (hd_nS 2 (hd_pI (hd_pI hd_v0 (hd_iL 4)) (hd_iL 7)) wm_X9_has))) (hd_iB (fun x y => x * y) (hd_iA hs_sh (hd_rG hs_sh 9 3 (hd_rL 0)) (hd_iL 7)) (hd_iN (hd_nV hs_sh 9 (hd_rL 0) 2 (hd_pI (hd_pI hd_v0 (hd_iL 3)) (hd_iL 7)) wm_X9_wayOf))) (hd_iK (0)))))) (hd_sP 7 (1)))
def wc_X9_roomedOf_55 : hd_xC := (hd_cI (fun x y => decide (x ≤ y)) (hd_iL 4) (hd_iL 2))
def wb_X9_roomedOf_55 : hd_xS := (hd_sQ (hd_sQ (hd_sI 5 (hd_iK (0))) (hd_sQ (hd_sI 6 (hd_iK (0))) (hd_sQ (hd_sQ (hd_sI 7 (hd_iK (0))) (hd_sH (wc_X9_roomedOf_70) (wb_X9_roomedOf_70))) (hd_sA hs_sh (hd_rG hs_sh 9 18 (hd_rL 0)) (hd_iL 4) (hd_iQ (hd_cI (fun x y => decide (x ≤ y)) (hd_iL 5) (hd_iA hs_sh (hd_rG hs_sh 9 7 (hd_rL 0)) (hd_iL 3))) (hd_iL 6) (hd_iK (2000000000))))))) (hd_sP 4 (1)))
def wc_X9_roomedOf_188 : hd_xC := (hd_c0 (fun x => decide (0 < x)) (hd_iL 5))
def wb_X9_roomedOf_188 : hd_xS := (hd_sQ (hd_sW (hd_cA (hd_cI (fun x y => decide (x < y)) (hd_iA hs_sh (hd_rG hs_sh 9 18 (hd_rL 0)) (hd_iL 5)) (hd_iK (2000000000))) (hd_cI (fun x y => decide (x < y)) (hd_iA hs_sh (hd_rG hs_sh 9 17 (hd_rL 0)) (hd_iB (fun x y => x &&& y) (hd_iL 4) (hd_iB (fun x y => x ^^^ y) (hd_iL 5) (hd_iK (-1))))) (hd_iK (2000000000)))) (hd_sQ (hd_sI 6 (hd_iB (fun x y => x + y) (hd_iA hs_sh (hd_rG hs_sh 9 18 (hd_rL 0)) (hd_iL 5)) (hd_iA hs_sh (hd_rG hs_sh 9 17 (hd_rL 0)) (hd_iB (fun x y => x &&& y) (hd_iL 4) (hd_iB (fun x y => x ^^^ y) (hd_iL 5) (hd_iK (-1))))))) (hd_sA hs_sh (hd_rG hs_sh 9 17 (hd_rL 0)) (hd_iL 4) (hd_iQ (hd_cI (fun x y => decide (x < y)) (hd_iL 6) (hd_iA hs_sh (hd_rG hs_sh 9 17 (hd_rL 0)) (hd_iL 4))) (hd_iL 6) (hd_iA hs_sh (hd_rG hs_sh 9 17 (hd_rL 0)) (hd_iL 4)))))) (hd_sI 5 (hd_iB (fun x y => x &&& y) (hd_iB (fun x y => x - y) (hd_iL 5) (hd_iK (1))) (hd_iL 4))))
def wc_X9_roomedOf_179 : hd_xC := (hd_c0 (fun x => decide (0 < x)) (hd_iL 4))
def wb_X9_roomedOf_179 : hd_xS := (hd_sQ (hd_sQ (hd_sI 5 (hd_iL 4)) (hd_sH (wc_X9_roomedOf_188) (wb_X9_roomedOf_188))) (hd_sP 4 (-1)))
def wc_X9_roomedOf_36 : hd_xC := (hd_cI (fun x y => decide (x < y)) (hd_iL 3) (hd_iG hs_sh 9 2 (hd_rL 0)))
def wb_X9_roomedOf_36 : hd_xS := (hd_sQ (hd_sW (hd_c0 (fun x => !decide (x = 0)) (hd_iN (hd_nS 2 (hd_pI (hd_pI hd_v0 (hd_iL 1)) (hd_iL 3)) wm_X9_has))) (hd_sQ (hd_sQ (hd_sI 4 (hd_iK (0))) (hd_sH (wc_X9_roomedOf_55) (wb_X9_roomedOf_55))) (hd_sQ (hd_sI 4 (hd_iL 2)) (hd_sH (wc_X9_roomedOf_179) (wb_X9_roomedOf_179))))) (hd_sP 3 (1)))
def wo_X9_roomedOf : hd_xS := (hd_sQ (hd_sI 2 (hd_iN (hd_nV hs_sh 9 (hd_rL 0) 0 hd_v0 wm_X9_allTowns))) (hd_sQ (hd_sQ (hd_sI 3 (hd_iK (0))) (hd_sH (wc_X9_roomedOf_7) (wb_X9_roomedOf_7))) (hd_sQ (hd_sQ (hd_sI 3 (hd_iK (0))) (hd_sH (wc_X9_roomedOf_36) (wb_X9_roomedOf_36))) (hd_sRI (hd_iA hs_sh (hd_rG hs_sh 9 17 (hd_rL 0)) (hd_iL 2))))))
def wm_X9_roomedOf : hd_M := hd_mth 8 wo_X9_roomedOf
set_option maxHeartbeats 4000000 in
set_option maxRecDepth 100000 in
theorem snd_X9_roomedOf : hd_Snd vwCl hs_sh yX9_roomedOf wsX9_roomedOf 2 wm_X9_roomedOf := hd_method (by decide) rfl rfl (by decide) (fun κ C Rk => (hd_seq (p1 := 5) (hd_sistore_n C (p1 := 4) (hd_inI (hd_invV C (p1 := 1) (p2 := 1) snd_X9_allTowns rfl gX9_roomedOf_X9_allTowns rfl yX9_roomedOf_X9_allTowns ⟨by decide, by decide⟩ (by decide) (hd_aload_n C dX9_roomedOf_0) hd_av0 dX9_roomedOf_1)) dX9_roomedOf_4 (by decide)) (hd_seq (p1 := 34) (hd_seq (p1 := 7) (hd_sistore_n C (p1 := 6) (hd_iconst C dX9_roomedOf_5 (by decide)) dX9_roomedOf_6 (by decide)) (hd_loop C (p1 := 12) (p2 := 34) (hd_c_leF C (p1 := 8) (p2 := 9) (tgt := 34) (hd_iload_n C dX9_roomedOf_7) (hd_iload_n C dX9_roomedOf_8) dX9_roomedOf_9 (by decide)) (hd_seq (p1 := 28) (hd_siast C (p1 := 16) (p2 := 17) (p3 := 27) (hd_getR C (p1 := 13) fX9_roomedOf_40 (hd_aload_n C dX9_roomedOf_12) dX9_roomedOf_13) (hd_iload_n C dX9_roomedOf_16) (hd_tnI C (p1 := 21) (p2 := 22) (p3 := 25) (p4 := 27) (hd_z_eqF C (p2 := 18) (tgt := 25) (hd_iload_n C dX9_roomedOf_17) dX9_roomedOf_18 (by decide)) (hd_iconst C dX9_roomedOf_21 (by decide)) dX9_roomedOf_22 (by decide) (hd_ldc C wX9_roomedOf_4 dX9_roomedOf_25)) dX9_roomedOf_27) (hd_sgoto C (p1 := 31) (tgt := 7) (hd_ends (es := [31]) (by decide) (hd_siinc C dX9_roomedOf_28 (by decide) (by decide))) dX9_roomedOf_31 (by decide) (by decide))) (by decide))) (hd_seq (p1 := 299) (hd_seq (p1 := 36) (hd_sistore_n C (p1 := 35) (hd_iconst C dX9_roomedOf_34 (by decide)) dX9_roomedOf_35 (by decide)) (hd_loop C (p1 := 44) (p2 := 299) (hd_c_ltF C (p1 := 37) (p2 := 41) (tgt := 299) (hd_iload_n C dX9_roomedOf_36) (hd_getI C (p1 := 38) fX9_roomedOf_71 (hd_aload_n C dX9_roomedOf_37) dX9_roomedOf_38) dX9_roomedOf_41 (by decide)) (hd_seq (p1 := 293) (hd_if (p1 := 52) (p2 := 293) (hd_z_neF C (p2 := 49) (tgt := 293) (hd_inI (hd_invS C (p2 := 46) snd_X9_has rfl gX9_roomedOf_X9_has yX9_roomedOf_X9_has ⟨by decide, by decide⟩ (by decide) (hd_apI (p1 := 45) (p2 := 46) (hd_apI (p1 := 44) (p2 := 45) hd_av0 (hd_iload_n C dX9_roomedOf_44)) (hd_iload_n C dX9_roomedOf_45)) dX9_roomedOf_46)) dX9_roomedOf_49 (by decide)) (hd_seq (p1 := 176) (hd_seq (p1 := 55) (hd_sistore C (p1 := 53) (hd_iconst C dX9_roomedOf_52 (by decide)) dX9_roomedOf_53 (by decide)) (hd_loop C (p1 := 61) (p2 := 176) (hd_c_leF C (p1 := 57) (p2 := 58) (tgt := 176) (hd_iload C dX9_roomedOf_55) (hd_iload_n C dX9_roomedOf_57) dX9_roomedOf_58 (by decide)) (hd_seq (p1 := 170) (hd_seq (p1 := 64) (hd_sistore C (p1 := 62) (hd_iconst C dX9_roomedOf_61 (by decide)) dX9_roomedOf_62 (by decide)) (hd_seq (p1 := 67) (hd_sistore C (p1 := 65) (hd_iconst C dX9_roomedOf_64 (by decide)) dX9_roomedOf_65 (by decide)) (hd_seq (p1 := 145) (hd_seq (p1 := 70) (hd_sistore C (p1 := 68) (hd_iconst C dX9_roomedOf_67 (by decide)) dX9_roomedOf_68 (by decide)) (hd_loop C (p1 := 79) (p2 := 145) (hd_c_ltF C (p1 := 72) (p2 := 76) (tgt := 145) (hd_iload C dX9_roomedOf_70) (hd_getI C (p1 := 73) fX9_roomedOf_68 (hd_aload_n C dX9_roomedOf_72) dX9_roomedOf_73) dX9_roomedOf_76 (by decide)) (hd_seq (p1 := 139) (hd_seq (p1 := 105) (hd_sistore C (p1 := 103) (hd_iadd C (p1 := 81) (p2 := 102) (hd_iload C dX9_roomedOf_79) (hd_tnI C (p1 := 91) (p2 := 98) (p3 := 101) (p4 := 102) (hd_z_neF C (p2 := 88) (tgt := 101) (hd_inI (hd_invS C (p2 := 85) snd_X9_has rfl gX9_roomedOf_X9_has yX9_roomedOf_X9_has ⟨by decide, by decide⟩ (by decide) (hd_apI (p1 := 83) (p2 := 85) (hd_apI (p1 := 81) (p2 := 83) hd_av0 (hd_iload C dX9_roomedOf_81)) (hd_iload C dX9_roomedOf_83)) dX9_roomedOf_85)) dX9_roomedOf_88 (by decide)) (hd_iald C (p1 := 95) (p2 := 97) (hd_getR C (p1 := 92) fX9_roomedOf_7 (hd_aload_n C dX9_roomedOf_91) dX9_roomedOf_92) (hd_iload C dX9_roomedOf_95) dX9_roomedOf_97) dX9_roomedOf_98 (by decide) (hd_iconst C dX9_roomedOf_101 (by decide))) dX9_roomedOf_102) dX9_roomedOf_103 (by decide)) (hd_sistore C (p1 := 137) (hd_iadd C (p1 := 107) (p2 := 136) (hd_iload C dX9_roomedOf_105) (hd_tnI C (p1 := 117) (p2 := 132) (p3 := 135) (p4 := 136) (hd_z_neF C (p2 := 114) (tgt := 135) (hd_inI (hd_invS C (p2 := 111) snd_X9_has rfl gX9_roomedOf_X9_has yX9_roomedOf_X9_has ⟨by decide, by decide⟩ (by decide) (hd_apI (p1 := 109) (p2 := 111) (hd_apI (p1 := 107) (p2 := 109) hd_av0 (hd_iload C dX9_roomedOf_107)) (hd_iload C dX9_roomedOf_109)) dX9_roomedOf_111)) dX9_roomedOf_114 (by decide)) (hd_imul C (p1 := 124) (p2 := 131) (hd_iald C (p1 := 121) (p2 := 123) (hd_getR C (p1 := 118) fX9_roomedOf_7 (hd_aload_n C dX9_roomedOf_117) dX9_roomedOf_118) (hd_iload C dX9_roomedOf_121) dX9_roomedOf_123) (hd_inI (hd_invV C (p1 := 125) (p2 := 128) snd_X9_wayOf rfl gX9_roomedOf_X9_wayOf rfl yX9_roomedOf_X9_wayOf ⟨by decide, by decide⟩ (by decide) (hd_aload_n C dX9_roomedOf_124) (hd_apI (p1 := 126) (p2 := 128) (hd_apI (p1 := 125) (p2 := 126) hd_av0 (hd_iload_n C dX9_roomedOf_125)) (hd_iload C dX9_roomedOf_126)) dX9_roomedOf_128)) dX9_roomedOf_131) dX9_roomedOf_132 (by decide) (hd_iconst C dX9_roomedOf_135 (by decide))) dX9_roomedOf_136) dX9_roomedOf_137 (by decide))) (hd_sgoto C (p1 := 142) (tgt := 70) (hd_ends (es := [142]) (by decide) (hd_siinc C dX9_roomedOf_139 (by decide) (by decide))) dX9_roomedOf_142 (by decide) (by decide))) (by decide))) (hd_siast C (p1 := 149) (p2 := 151) (p3 := 169) (hd_getR C (p1 := 146) fX9_roomedOf_43 (hd_aload_n C dX9_roomedOf_145) dX9_roomedOf_146) (hd_iload C dX9_roomedOf_149) (hd_tnI C (p1 := 162) (p2 := 164) (p3 := 167) (p4 := 169) (hd_c_leF C (p1 := 153) (p2 := 159) (tgt := 167) (hd_iload C dX9_roomedOf_151) (hd_iald C (p1 := 157) (p2 := 158) (hd_getR C (p1 := 154) fX9_roomedOf_22 (hd_aload_n C dX9_roomedOf_153) dX9_roomedOf_154) (hd_iload_n C dX9_roomedOf_157) dX9_roomedOf_158) dX9_roomedOf_159 (by decide)) (hd_iload C dX9_roomedOf_162) dX9_roomedOf_164 (by decide) (hd_ldc C wX9_roomedOf_4 dX9_roomedOf_167)) dX9_roomedOf_169)))) (hd_sgoto C (p1 := 173) (tgt := 55) (hd_ends (es := [173]) (by decide) (hd_siinc C dX9_roomedOf_170 (by decide) (by decide))) dX9_roomedOf_173 (by decide) (by decide))) (by decide))) (hd_seq (p1 := 179) (hd_sistore C (p1 := 177) (hd_iload_n C dX9_roomedOf_176) dX9_roomedOf_177 (by decide)) (hd_loop C (p1 := 184) (p2 := 293) (hd_z_gtF C (p2 := 181) (tgt := 293) (hd_iload C dX9_roomedOf_179) dX9_roomedOf_181 (by decide)) (hd_seq (p1 := 287) (hd_seq (p1 := 188) (hd_sistore C (p1 := 186) (hd_iload C dX9_roomedOf_184) dX9_roomedOf_186 (by decide)) (hd_loop C (p1 := 193) (p2 := 287) (hd_z_gtF C (p2 := 190) (tgt := 287) (hd_iload C dX9_roomedOf_188) dX9_roomedOf_190 (by decide)) (hd_seq (p1 := 275) (hd_if (p1 := 222) (p2 := 275) (hd_and (p1 := 205) (p2 := 222) (p3 := 275) (hd_c_ltF C (p1 := 200) (p2 := 202) (tgt := 275) (hd_iald C (p1 := 197) (p2 := 199) (hd_getR C (p1 := 194) fX9_roomedOf_43 (hd_aload_n C dX9_roomedOf_193) dX9_roomedOf_194) (hd_iload C dX9_roomedOf_197) dX9_roomedOf_199) (hd_ldc C wX9_roomedOf_4 dX9_roomedOf_200) dX9_roomedOf_202 (by decide)) (hd_c_ltF C (p1 := 217) (p2 := 219) (tgt := 275) (hd_iald C (p1 := 209) (p2 := 216) (hd_getR C (p1 := 206) fX9_roomedOf_40 (hd_aload_n C dX9_roomedOf_205) dX9_roomedOf_206) (hd_iand C (p1 := 211) (p2 := 215) (hd_iload C dX9_roomedOf_209) (hd_ixor C (p1 := 213) (p2 := 214) (hd_iload C dX9_roomedOf_211) (hd_iconst C dX9_roomedOf_213 (by decide)) dX9_roomedOf_214) dX9_roomedOf_215) dX9_roomedOf_216) (hd_ldc C wX9_roomedOf_4 dX9_roomedOf_217) dX9_roomedOf_219 (by decide))) (hd_seq (p1 := 244) (hd_sistore C (p1 := 242) (hd_iadd C (p1 := 229) (p2 := 241) (hd_iald C (p1 := 226) (p2 := 228) (hd_getR C (p1 := 223) fX9_roomedOf_43 (hd_aload_n C dX9_roomedOf_222) dX9_roomedOf_223) (hd_iload C dX9_roomedOf_226) dX9_roomedOf_228) (hd_iald C (p1 := 233) (p2 := 240) (hd_getR C (p1 := 230) fX9_roomedOf_40 (hd_aload_n C dX9_roomedOf_229) dX9_roomedOf_230) (hd_iand C (p1 := 235) (p2 := 239) (hd_iload C dX9_roomedOf_233) (hd_ixor C (p1 := 237) (p2 := 238) (hd_iload C dX9_roomedOf_235) (hd_iconst C dX9_roomedOf_237 (by decide)) dX9_roomedOf_238) dX9_roomedOf_239) dX9_roomedOf_240) dX9_roomedOf_241) dX9_roomedOf_242 (by decide)) (hd_siast C (p1 := 248) (p2 := 250) (p3 := 274) (hd_getR C (p1 := 245) fX9_roomedOf_40 (hd_aload_n C dX9_roomedOf_244) dX9_roomedOf_245) (hd_iload C dX9_roomedOf_248) (hd_tnI C (p1 := 262) (p2 := 264) (p3 := 267) (p4 := 274) (hd_c_ltF C (p1 := 252) (p2 := 259) (tgt := 267) (hd_iload C dX9_roomedOf_250) (hd_iald C (p1 := 256) (p2 := 258) (hd_getR C (p1 := 253) fX9_roomedOf_40 (hd_aload_n C dX9_roomedOf_252) dX9_roomedOf_253) (hd_iload C dX9_roomedOf_256) dX9_roomedOf_258) dX9_roomedOf_259 (by decide)) (hd_iload C dX9_roomedOf_262) dX9_roomedOf_264 (by decide) (hd_iald C (p1 := 271) (p2 := 273) (hd_getR C (p1 := 268) fX9_roomedOf_40 (hd_aload_n C dX9_roomedOf_267) dX9_roomedOf_268) (hd_iload C dX9_roomedOf_271) dX9_roomedOf_273)) dX9_roomedOf_274)) (by decide)) (hd_sgoto C (p1 := 284) (tgt := 188) (hd_ends (es := [284]) (by decide) (hd_sistore C (p1 := 282) (hd_iand C (p1 := 279) (p2 := 281) (hd_isub C (p1 := 277) (p2 := 278) (hd_iload C dX9_roomedOf_275) (hd_iconst C dX9_roomedOf_277 (by decide)) dX9_roomedOf_278) (hd_iload C dX9_roomedOf_279) dX9_roomedOf_281) dX9_roomedOf_282 (by decide))) dX9_roomedOf_284 (by decide) (by decide))) (by decide))) (hd_sgoto C (p1 := 290) (tgt := 179) (hd_ends (es := [290]) (by decide) (hd_siinc C dX9_roomedOf_287 (by decide) (by decide))) dX9_roomedOf_290 (by decide) (by decide))) (by decide)))) (by decide)) (hd_sgoto C (p1 := 296) (tgt := 36) (hd_ends (es := [296]) (by decide) (hd_siinc C dX9_roomedOf_293 (by decide) (by decide))) dX9_roomedOf_296 (by decide) (by decide))) (by decide))) (hd_retI C Rk (p1 := 305) (hd_iald C (p1 := 303) (p2 := 304) (hd_getR C (p1 := 300) fX9_roomedOf_40 (hd_aload_n C dX9_roomedOf_299) dX9_roomedOf_300) (hd_iload_n C dX9_roomedOf_303) dX9_roomedOf_304) dX9_roomedOf_305)))))
/-! X9_together -/
set_option maxRecDepth 100000 in
theorem uX9_together_X9 : ∀ w ∈ u_ws RX9 TX9 28, w ∈ wsX9_together := by decide +kernel
set_option maxRecDepth 100000 in
theorem lX9_together_68 : Cond.fieldLink RX9 68 (TX9 1).1 (TX9 1).2.1 (TX9 1).2.2.1 ∈ wsX9_together := by decide +kernel
set_option maxRecDepth 100000 in
theorem fX9_together_68 : hd_F wsX9_together RX9 vwCl 9 1 68 := ⟨RX9, TX9, 28, rfl, by decide, uX9_together_X9, lX9_together_68⟩
set_option maxRecDepth 100000 in
theorem yX9_together_X9_has : yX9_has.cls ≠ "java/lang/invoke/MethodHandle" ∧ yX9_has.cls ≠ "java/lang/invoke/VarHandle" ∧ (parseMethodDescriptor yX9_has.desc).map (fun d => d.parameters.length) = some 2 := by decide +kernel
set_option maxRecDepth 100000 in
theorem lX9_together_37 : Cond.fieldLink RX9 37 (TX9 15).1 (TX9 15).2.1 (TX9 15).2.2.1 ∈ wsX9_together := by decide +kernel
set_option maxRecDepth 100000 in
theorem fX9_together_37 : hd_F wsX9_together RX9 vwCl 9 15 37 := ⟨RX9, TX9, 28, rfl, by decide, uX9_together_X9, lX9_together_37⟩
def wc_X9_together_4 : hd_xC := (hd_cI (fun x y => decide (x < y)) (hd_iL 3) (hd_iG hs_sh 9 1 (hd_rL 0)))
def wb_X9_together_4 : hd_xS := (hd_sQ (hd_sI 2 (hd_iB (fun x y => x + y) (hd_iL 2) (hd_iQ (hd_c0 (fun x => !decide (x = 0)) (hd_iN (hd_nS 2 (hd_pI (hd_pI hd_v0 (hd_iL 1)) (hd_iL 3)) wm_X9_has))) (hd_iA hs_sh (hd_rG hs_sh 9 15 (hd_rL 0)) (hd_iL 3)) (hd_iK (0))))) (hd_sP 3 (1)))
def wo_X9_together : hd_xS := (hd_sQ (hd_sI 2 (hd_iK (0))) (hd_sQ (hd_sQ (hd_sI 3 (hd_iK (0))) (hd_sH (wc_X9_together_4) (wb_X9_together_4))) (hd_sRI (hd_iL 2))))
def wm_X9_together : hd_M := hd_mth 4 wo_X9_together
set_option maxHeartbeats 4000000 in
set_option maxRecDepth 100000 in
theorem snd_X9_together : hd_Snd vwCl hs_sh yX9_together wsX9_together 2 wm_X9_together := hd_method (by decide) rfl rfl (by decide) (fun κ C Rk => (hd_seq (p1 := 2) (hd_sistore_n C (p1 := 1) (hd_iconst C dX9_together_0 (by decide)) dX9_together_1 (by decide)) (hd_seq (p1 := 39) (hd_seq (p1 := 4) (hd_sistore_n C (p1 := 3) (hd_iconst C dX9_together_2 (by decide)) dX9_together_3 (by decide)) (hd_loop C (p1 := 12) (p2 := 39) (hd_c_ltF C (p1 := 5) (p2 := 9) (tgt := 39) (hd_iload_n C dX9_together_4) (hd_getI C (p1 := 6) fX9_together_68 (hd_aload_n C dX9_together_5) dX9_together_6) dX9_together_9 (by decide)) (hd_seq (p1 := 33) (hd_sistore_n C (p1 := 32) (hd_iadd C (p1 := 13) (p2 := 31) (hd_iload_n C dX9_together_12) (hd_tnI C (p1 := 21) (p2 := 27) (p3 := 30) (p4 := 31) (hd_z_neF C (p2 := 18) (tgt := 30) (hd_inI (hd_invS C (p2 := 15) snd_X9_has rfl gX9_together_X9_has yX9_together_X9_has ⟨by decide, by decide⟩ (by decide) (hd_apI (p1 := 14) (p2 := 15) (hd_apI (p1 := 13) (p2 := 14) hd_av0 (hd_iload_n C dX9_together_13)) (hd_iload_n C dX9_together_14)) dX9_together_15)) dX9_together_18 (by decide)) (hd_iald C (p1 := 25) (p2 := 26) (hd_getR C (p1 := 22) fX9_together_37 (hd_aload_n C dX9_together_21) dX9_together_22) (hd_iload_n C dX9_together_25) dX9_together_26) dX9_together_27 (by decide) (hd_iconst C dX9_together_30 (by decide))) dX9_together_31) dX9_together_32 (by decide)) (hd_sgoto C (p1 := 36) (tgt := 4) (hd_ends (es := [36]) (by decide) (hd_siinc C dX9_together_33 (by decide) (by decide))) dX9_together_36 (by decide) (by decide))) (by decide))) (hd_retI C Rk (p1 := 40) (hd_iload_n C dX9_together_39) dX9_together_40))))
/-! X9_undo -/
set_option maxRecDepth 100000 in
theorem uX9_undo_X9 : ∀ w ∈ u_ws RX9 TX9 28, w ∈ wsX9_undo := by decide +kernel
set_option maxRecDepth 100000 in
theorem lX9_undo_58 : Cond.fieldLink RX9 58 (TX9 0).1 (TX9 0).2.1 (TX9 0).2.2.1 ∈ wsX9_undo := by decide +kernel
set_option maxRecDepth 100000 in
theorem qX9_undo_58 : hd_FP wsX9_undo RX9 vwCl 9 0 58 .int := ⟨RX9, TX9, 28, tyX9, rfl, by decide, uX9_undo_X9, lX9_undo_58, tyX9_ok, nmX9, rfl, rfl⟩
set_option maxRecDepth 100000 in
theorem lX9_undo_78 : Cond.fieldLink RX9 78 (TX9 13).1 (TX9 13).2.1 (TX9 13).2.2.1 ∈ wsX9_undo := by decide +kernel
set_option maxRecDepth 100000 in
theorem fX9_undo_78 : hd_F wsX9_undo RX9 vwCl 9 13 78 := ⟨RX9, TX9, 28, rfl, by decide, uX9_undo_X9, lX9_undo_78⟩
set_option maxRecDepth 100000 in
theorem lX9_undo_65 : Cond.fieldLink RX9 65 (TX9 12).1 (TX9 12).2.1 (TX9 12).2.2.1 ∈ wsX9_undo := by decide +kernel
set_option maxRecDepth 100000 in
theorem fX9_undo_65 : hd_F wsX9_undo RX9 vwCl 9 12 65 := ⟨RX9, TX9, 28, rfl, by decide, uX9_undo_X9, lX9_undo_65⟩
set_option maxRecDepth 100000 in
theorem qX9_undo_65 : hd_FP wsX9_undo RX9 vwCl 9 12 65 .int := ⟨RX9, TX9, 28, tyX9, rfl, by decide, uX9_undo_X9, lX9_undo_65, tyX9_ok, nmX9, rfl, rfl⟩
set_option maxRecDepth 100000 in
theorem qX9_undo_78 : hd_FP wsX9_undo RX9 vwCl 9 13 78 .int := ⟨RX9, TX9, 28, tyX9, rfl, by decide, uX9_undo_X9, lX9_undo_78, tyX9_ok, nmX9, rfl, rfl⟩
set_option maxRecDepth 100000 in
theorem lX9_undo_62 : Cond.fieldLink RX9 62 (TX9 16).1 (TX9 16).2.1 (TX9 16).2.2.1 ∈ wsX9_undo := by decide +kernel
set_option maxRecDepth 100000 in
theorem qX9_undo_62 : hd_FP wsX9_undo RX9 vwCl 9 16 62 .int := ⟨RX9, TX9, 28, tyX9, rfl, by decide, uX9_undo_X9, lX9_undo_62, tyX9_ok, nmX9, rfl, rfl⟩
set_option maxRecDepth 100000 in
theorem lX9_undo_34 : Cond.fieldLink RX9 34 (TX9 11).1 (TX9 11).2.1 (TX9 11).2.2.1 ∈ wsX9_undo := by decide +kernel
set_option maxRecDepth 100000 in
theorem fX9_undo_34 : hd_F wsX9_undo RX9 vwCl 9 11 34 := ⟨RX9, TX9, 28, rfl, by decide, uX9_undo_X9, lX9_undo_34⟩
set_option maxRecDepth 100000 in
theorem fX9_undo_62 : hd_F wsX9_undo RX9 vwCl 9 16 62 := ⟨RX9, TX9, 28, rfl, by decide, uX9_undo_X9, lX9_undo_62⟩
set_option maxRecDepth 100000 in
theorem lX9_undo_68 : Cond.fieldLink RX9 68 (TX9 1).1 (TX9 1).2.1 (TX9 1).2.2.1 ∈ wsX9_undo := by decide +kernel
set_option maxRecDepth 100000 in
theorem qX9_undo_68 : hd_FP wsX9_undo RX9 vwCl 9 1 68 .int := ⟨RX9, TX9, 28, tyX9, rfl, by decide, uX9_undo_X9, lX9_undo_68, tyX9_ok, nmX9, rfl, rfl⟩
set_option maxRecDepth 100000 in
theorem lX9_undo_71 : Cond.fieldLink RX9 71 (TX9 2).1 (TX9 2).2.1 (TX9 2).2.2.1 ∈ wsX9_undo := by decide +kernel
set_option maxRecDepth 100000 in
theorem qX9_undo_71 : hd_FP wsX9_undo RX9 vwCl 9 2 71 .int := ⟨RX9, TX9, 28, tyX9, rfl, by decide, uX9_undo_X9, lX9_undo_71, tyX9_ok, nmX9, rfl, rfl⟩
set_option maxRecDepth 100000 in
theorem lX9_undo_7 : Cond.fieldLink RX9 7 (TX9 3).1 (TX9 3).2.1 (TX9 3).2.2.1 ∈ wsX9_undo := by decide +kernel
set_option maxRecDepth 100000 in
theorem fX9_undo_7 : hd_F wsX9_undo RX9 vwCl 9 3 7 := ⟨RX9, TX9, 28, rfl, by decide, uX9_undo_X9, lX9_undo_7⟩
set_option maxRecDepth 100000 in
theorem yX9_undo_X9_read : yX9_read.cls = RX9 ∧ yX9_read.cls ≠ "java/lang/invoke/MethodHandle" ∧ yX9_read.cls ≠ "java/lang/invoke/VarHandle" ∧ (parseMethodDescriptor yX9_read.desc).map (fun d => d.parameters.length) = some 2 := by decide +kernel
set_option maxRecDepth 100000 in
theorem lX9_undo_13 : Cond.fieldLink RX9 13 (TX9 4).1 (TX9 4).2.1 (TX9 4).2.2.1 ∈ wsX9_undo := by decide +kernel
set_option maxRecDepth 100000 in
theorem fX9_undo_13 : hd_F wsX9_undo RX9 vwCl 9 4 13 := ⟨RX9, TX9, 28, rfl, by decide, uX9_undo_X9, lX9_undo_13⟩
set_option maxRecDepth 100000 in
theorem lX9_undo_16 : Cond.fieldLink RX9 16 (TX9 5).1 (TX9 5).2.1 (TX9 5).2.2.1 ∈ wsX9_undo := by decide +kernel
set_option maxRecDepth 100000 in
theorem fX9_undo_16 : hd_F wsX9_undo RX9 vwCl 9 5 16 := ⟨RX9, TX9, 28, rfl, by decide, uX9_undo_X9, lX9_undo_16⟩
set_option maxRecDepth 100000 in
theorem lX9_undo_19 : Cond.fieldLink RX9 19 (TX9 6).1 (TX9 6).2.1 (TX9 6).2.2.1 ∈ wsX9_undo := by decide +kernel
set_option maxRecDepth 100000 in
theorem fX9_undo_19 : hd_F wsX9_undo RX9 vwCl 9 6 19 := ⟨RX9, TX9, 28, rfl, by decide, uX9_undo_X9, lX9_undo_19⟩
set_option maxRecDepth 100000 in
theorem lX9_undo_22 : Cond.fieldLink RX9 22 (TX9 7).1 (TX9 7).2.1 (TX9 7).2.2.1 ∈ wsX9_undo := by decide +kernel
set_option maxRecDepth 100000 in
theorem fX9_undo_22 : hd_F wsX9_undo RX9 vwCl 9 7 22 := ⟨RX9, TX9, 28, rfl, by decide, uX9_undo_X9, lX9_undo_22⟩
set_option maxRecDepth 100000 in
theorem lX9_undo_25 : Cond.fieldLink RX9 25 (TX9 8).1 (TX9 8).2.1 (TX9 8).2.2.1 ∈ wsX9_undo := by decide +kernel
set_option maxRecDepth 100000 in
theorem fX9_undo_25 : hd_F wsX9_undo RX9 vwCl 9 8 25 := ⟨RX9, TX9, 28, rfl, by decide, uX9_undo_X9, lX9_undo_25⟩
set_option maxRecDepth 100000 in
theorem lX9_undo_28 : Cond.fieldLink RX9 28 (TX9 9).1 (TX9 9).2.1 (TX9 9).2.2.1 ∈ wsX9_undo := by decide +kernel
set_option maxRecDepth 100000 in
theorem fX9_undo_28 : hd_F wsX9_undo RX9 vwCl 9 9 28 := ⟨RX9, TX9, 28, rfl, by decide, uX9_undo_X9, lX9_undo_28⟩
set_option maxRecDepth 100000 in
theorem lX9_undo_31 : Cond.fieldLink RX9 31 (TX9 10).1 (TX9 10).2.1 (TX9 10).2.2.1 ∈ wsX9_undo := by decide +kernel
set_option maxRecDepth 100000 in
theorem fX9_undo_31 : hd_F wsX9_undo RX9 vwCl 9 10 31 := ⟨RX9, TX9, 28, rfl, by decide, uX9_undo_X9, lX9_undo_31⟩
set_option maxRecDepth 100000 in
theorem yX9_undo_X9_allHalls : yX9_allHalls.cls = RX9 ∧ yX9_allHalls.cls ≠ "java/lang/invoke/MethodHandle" ∧ yX9_allHalls.cls ≠ "java/lang/invoke/VarHandle" ∧ (parseMethodDescriptor yX9_allHalls.desc).map (fun d => d.parameters.length) = some 0 := by decide +kernel
set_option maxRecDepth 100000 in
theorem lX9_undo_84 : Cond.fieldLink RX9 84 (TX9 14).1 (TX9 14).2.1 (TX9 14).2.2.1 ∈ wsX9_undo := by decide +kernel
set_option maxRecDepth 100000 in
theorem fX9_undo_84 : hd_F wsX9_undo RX9 vwCl 9 14 84 := ⟨RX9, TX9, 28, rfl, by decide, uX9_undo_X9, lX9_undo_84⟩
set_option maxRecDepth 100000 in
theorem qX9_undo_84 : hd_FP wsX9_undo RX9 vwCl 9 14 84 .int := ⟨RX9, TX9, 28, tyX9, rfl, by decide, uX9_undo_X9, lX9_undo_84, tyX9_ok, nmX9, rfl, rfl⟩
set_option maxRecDepth 100000 in
theorem fX9_undo_68 : hd_F wsX9_undo RX9 vwCl 9 1 68 := ⟨RX9, TX9, 28, rfl, by decide, uX9_undo_X9, lX9_undo_68⟩
set_option maxRecDepth 100000 in
theorem lX9_undo_37 : Cond.fieldLink RX9 37 (TX9 15).1 (TX9 15).2.1 (TX9 15).2.2.1 ∈ wsX9_undo := by decide +kernel
set_option maxRecDepth 100000 in
theorem fX9_undo_37 : hd_F wsX9_undo RX9 vwCl 9 15 37 := ⟨RX9, TX9, 28, rfl, by decide, uX9_undo_X9, lX9_undo_37⟩
def wc_X9_undo_188 : hd_xC := (hd_cI (fun x y => decide (x < y)) (hd_iL 1) (hd_iK (8)))
def wb_X9_undo_188 : hd_xS := (hd_sQ (hd_sA hs_sh (hd_rG hs_sh 9 15 (hd_rL 0)) (hd_iL 1) (hd_iK (0))) (hd_sP 1 (1)))
def wo_X9_undo : hd_xS := (hd_sQ (hd_sF hs_sh 9 0 (hd_rL 0) (hd_iK (0))) (hd_sQ (hd_sW (hd_c0 (fun x => decide (x = 0)) (hd_iG hs_sh 9 13 (hd_rL 0))) (hd_sRI (hd_iK (-4)))) (hd_sQ (hd_sF hs_sh 9 12 (hd_rL 0) (hd_iD (fun x y => x - x / y * y) (hd_iB (fun x y => x - y) (hd_iB (fun x y => x + y) (hd_iG hs_sh 9 12 (hd_rL 0)) (hd_iK (8))) (hd_iK (1))) (hd_iK (8)))) (hd_sQ (hd_sG (fun x y => x - y) hs_sh 9 13 (hd_rL 0) (hd_iK (1))) (hd_sQ (hd_sF hs_sh 9 16 (hd_rL 0) (hd_iB (fun x y => x * y) (hd_iK (110)) (hd_iG hs_sh 9 12 (hd_rL 0)))) (hd_sQ (hd_sF hs_sh 9 1 (hd_rL 0) (hd_iA hs_sh (hd_rG hs_sh 9 11 (hd_rL 0)) (hd_iG hs_sh 9 16 (hd_rL 0)))) (hd_sQ (hd_sF hs_sh 9 2 (hd_rL 0) (hd_iA hs_sh (hd_rG hs_sh 9 11 (hd_rL 0)) (hd_iB (fun x y => x + y) (hd_iG hs_sh 9 16 (hd_rL 0)) (hd_iK (1))))) (hd_sQ (hd_sG (fun x y => x + y) hs_sh 9 16 (hd_rL 0) (hd_iK (2))) (hd_sQ (hd_sN (hd_nV hs_sh 9 (hd_rL 0) 2 (hd_pI (hd_pR hd_v0 (hd_rG hs_sh 9 3 (hd_rL 0))) (hd_iK (8))) wm_X9_read)) (hd_sQ (hd_sN (hd_nV hs_sh 9 (hd_rL 0) 2 (hd_pI (hd_pR hd_v0 (hd_rG hs_sh 9 4 (hd_rL 0))) (hd_iK (8))) wm_X9_read)) (hd_sQ (hd_sN (hd_nV hs_sh 9 (hd_rL 0) 2 (hd_pI (hd_pR hd_v0 (hd_rG hs_sh 9 5 (hd_rL 0))) (hd_iK (8))) wm_X9_read)) (hd_sQ (hd_sN (hd_nV hs_sh 9 (hd_rL 0) 2 (hd_pI (hd_pR hd_v0 (hd_rG hs_sh 9 6 (hd_rL 0))) (hd_iK (7))) wm_X9_read)) (hd_sQ (hd_sN (hd_nV hs_sh 9 (hd_rL 0) 2 (hd_pI (hd_pR hd_v0 (hd_rG hs_sh 9 7 (hd_rL 0))) (hd_iK (7))) wm_X9_read)) (hd_sQ (hd_sN (hd_nV hs_sh 9 (hd_rL 0) 2 (hd_pI (hd_pR hd_v0 (hd_rG hs_sh 9 8 (hd_rL 0))) (hd_iK (7))) wm_X9_read)) (hd_sQ (hd_sN (hd_nV hs_sh 9 (hd_rL 0) 2 (hd_pI (hd_pR hd_v0 (hd_rG hs_sh 9 9 (hd_rL 0))) (hd_iK (7))) wm_X9_read)) (hd_sQ (hd_sN (hd_nV hs_sh 9 (hd_rL 0) 2 (hd_pI (hd_pR hd_v0 (hd_rG hs_sh 9 10 (hd_rL 0))) (hd_iK (56))) wm_X9_read)) (hd_sQ (hd_sG (fun x y => x &&& y) hs_sh 9 14 (hd_rL 0) (hd_iN (hd_nV hs_sh 9 (hd_rL 0) 0 hd_v0 wm_X9_allHalls))) (hd_sQ (hd_sQ (hd_sI 1 (hd_iG hs_sh 9 1 (hd_rL 0))) (hd_sH (wc_X9_undo_188) (wb_X9_undo_188))) (hd_sRI (hd_iG hs_sh 9 13 (hd_rL 0)))))))))))))))))))))
def wm_X9_undo : hd_M := hd_mth 2 wo_X9_undo
set_option maxHeartbeats 4000000 in
set_option maxRecDepth 100000 in
theorem snd_X9_undo : hd_Snd vwCl hs_sh yX9_undo wsX9_undo 2 wm_X9_undo := hd_method (by decide) rfl rfl (by decide) (fun κ C Rk => (hd_seq (p1 := 5) (hd_sputI C (p1 := 1) (p2 := 2) qX9_undo_58 (hd_aload_n C dX9_undo_0) (hd_iconst C dX9_undo_1 (by decide)) dX9_undo_2) (hd_seq (p1 := 15) (hd_if (p1 := 12) (p2 := 15) (hd_z_eqF C (p2 := 9) (tgt := 15) (hd_getI C (p1 := 6) fX9_undo_78 (hd_aload_n C dX9_undo_5) dX9_undo_6) dX9_undo_9 (by decide)) (hd_retI C Rk (p1 := 14) (hd_bipush C dX9_undo_12 (by decide)) dX9_undo_14) (by decide)) (hd_seq (p1 := 31) (hd_sputI C (p1 := 16) (p2 := 28) qX9_undo_65 (hd_aload_n C dX9_undo_15) (hd_irem C (p1 := 25) (p2 := 27) (hd_isub C (p1 := 23) (p2 := 24) (hd_iadd C (p1 := 20) (p2 := 22) (hd_getI C (p1 := 17) fX9_undo_65 (hd_aload_n C dX9_undo_16) dX9_undo_17) (hd_bipush C dX9_undo_20 (by decide)) dX9_undo_22) (hd_iconst C dX9_undo_23 (by decide)) dX9_undo_24) (hd_bipush C dX9_undo_25 (by decide)) dX9_undo_27) dX9_undo_28) (hd_seq (p1 := 41) (hd_sfld_isub C (p1 := 32) (p2 := 37) fX9_undo_78 qX9_undo_78 (hd_aload_n C dX9_undo_31) dX9_undo_32 dX9_undo_33 (hd_iconst C dX9_undo_36 (by decide)) dX9_undo_37 dX9_undo_38) (hd_seq (p1 := 52) (hd_sputI C (p1 := 42) (p2 := 49) qX9_undo_62 (hd_aload_n C dX9_undo_41) (hd_imul C (p1 := 44) (p2 := 48) (hd_bipush C dX9_undo_42 (by decide)) (hd_getI C (p1 := 45) fX9_undo_65 (hd_aload_n C dX9_undo_44) dX9_undo_45) dX9_undo_48) dX9_undo_49) (hd_seq (p1 := 65) (hd_sputI C (p1 := 53) (p2 := 62) qX9_undo_68 (hd_aload_n C dX9_undo_52) (hd_iald C (p1 := 57) (p2 := 61) (hd_getR C (p1 := 54) fX9_undo_34 (hd_aload_n C dX9_undo_53) dX9_undo_54) (hd_getI C (p1 := 58) fX9_undo_62 (hd_aload_n C dX9_undo_57) dX9_undo_58) dX9_undo_61) dX9_undo_62) (hd_seq (p1 := 80) (hd_sputI C (p1 := 66) (p2 := 77) qX9_undo_71 (hd_aload_n C dX9_undo_65) (hd_iald C (p1 := 70) (p2 := 76) (hd_getR C (p1 := 67) fX9_undo_34 (hd_aload_n C dX9_undo_66) dX9_undo_67) (hd_iadd C (p1 := 74) (p2 := 75) (hd_getI C (p1 := 71) fX9_undo_62 (hd_aload_n C dX9_undo_70) dX9_undo_71) (hd_iconst C dX9_undo_74 (by decide)) dX9_undo_75) dX9_undo_76) dX9_undo_77) (hd_seq (p1 := 90) (hd_sfld_iadd C (p1 := 81) (p2 := 86) fX9_undo_62 qX9_undo_62 (hd_aload_n C dX9_undo_80) dX9_undo_81 dX9_undo_82 (hd_iconst C dX9_undo_85 (by decide)) dX9_undo_86 dX9_undo_87) (hd_seq (p1 := 100) (hd_scall (hd_invV C (p1 := 91) (p2 := 97) snd_X9_read rfl gX9_undo_X9_read rfl yX9_undo_X9_read ⟨by decide, by decide⟩ (by decide) (hd_aload_n C dX9_undo_90) (hd_apI (p1 := 95) (p2 := 97) (hd_apR (p1 := 91) (p2 := 95) hd_av0 (hd_getR C (p1 := 92) fX9_undo_7 (hd_aload_n C dX9_undo_91) dX9_undo_92)) (hd_bipush C dX9_undo_95 (by decide))) dX9_undo_97)) (hd_seq (p1 := 110) (hd_scall (hd_invV C (p1 := 101) (p2 := 107) snd_X9_read rfl gX9_undo_X9_read rfl yX9_undo_X9_read ⟨by decide, by decide⟩ (by decide) (hd_aload_n C dX9_undo_100) (hd_apI (p1 := 105) (p2 := 107) (hd_apR (p1 := 101) (p2 := 105) hd_av0 (hd_getR C (p1 := 102) fX9_undo_13 (hd_aload_n C dX9_undo_101) dX9_undo_102)) (hd_bipush C dX9_undo_105 (by decide))) dX9_undo_107)) (hd_seq (p1 := 120) (hd_scall (hd_invV C (p1 := 111) (p2 := 117) snd_X9_read rfl gX9_undo_X9_read rfl yX9_undo_X9_read ⟨by decide, by decide⟩ (by decide) (hd_aload_n C dX9_undo_110) (hd_apI (p1 := 115) (p2 := 117) (hd_apR (p1 := 111) (p2 := 115) hd_av0 (hd_getR C (p1 := 112) fX9_undo_16 (hd_aload_n C dX9_undo_111) dX9_undo_112)) (hd_bipush C dX9_undo_115 (by decide))) dX9_undo_117)) (hd_seq (p1 := 130) (hd_scall (hd_invV C (p1 := 121) (p2 := 127) snd_X9_read rfl gX9_undo_X9_read rfl yX9_undo_X9_read ⟨by decide, by decide⟩ (by decide) (hd_aload_n C dX9_undo_120) (hd_apI (p1 := 125) (p2 := 127) (hd_apR (p1 := 121) (p2 := 125) hd_av0 (hd_getR C (p1 := 122) fX9_undo_19 (hd_aload_n C dX9_undo_121) dX9_undo_122)) (hd_bipush C dX9_undo_125 (by decide))) dX9_undo_127)) (hd_seq (p1 := 140) (hd_scall (hd_invV C (p1 := 131) (p2 := 137) snd_X9_read rfl gX9_undo_X9_read rfl yX9_undo_X9_read ⟨by decide, by decide⟩ (by decide) (hd_aload_n C dX9_undo_130) (hd_apI (p1 := 135) (p2 := 137) (hd_apR (p1 := 131) (p2 := 135) hd_av0 (hd_getR C (p1 := 132) fX9_undo_22 (hd_aload_n C dX9_undo_131) dX9_undo_132)) (hd_bipush C dX9_undo_135 (by decide))) dX9_undo_137)) (hd_seq (p1 := 150) (hd_scall (hd_invV C (p1 := 141) (p2 := 147) snd_X9_read rfl gX9_undo_X9_read rfl yX9_undo_X9_read ⟨by decide, by decide⟩ (by decide) (hd_aload_n C dX9_undo_140) (hd_apI (p1 := 145) (p2 := 147) (hd_apR (p1 := 141) (p2 := 145) hd_av0 (hd_getR C (p1 := 142) fX9_undo_25 (hd_aload_n C dX9_undo_141) dX9_undo_142)) (hd_bipush C dX9_undo_145 (by decide))) dX9_undo_147)) (hd_seq (p1 := 160) (hd_scall (hd_invV C (p1 := 151) (p2 := 157) snd_X9_read rfl gX9_undo_X9_read rfl yX9_undo_X9_read ⟨by decide, by decide⟩ (by decide) (hd_aload_n C dX9_undo_150) (hd_apI (p1 := 155) (p2 := 157) (hd_apR (p1 := 151) (p2 := 155) hd_av0 (hd_getR C (p1 := 152) fX9_undo_28 (hd_aload_n C dX9_undo_151) dX9_undo_152)) (hd_bipush C dX9_undo_155 (by decide))) dX9_undo_157)) (hd_seq (p1 := 170) (hd_scall (hd_invV C (p1 := 161) (p2 := 167) snd_X9_read rfl gX9_undo_X9_read rfl yX9_undo_X9_read ⟨by decide, by decide⟩ (by decide) (hd_aload_n C dX9_undo_160) (hd_apI (p1 := 165) (p2 := 167) (hd_apR (p1 := 161) (p2 := 165) hd_av0 (hd_getR C (p1 := 162) fX9_undo_31 (hd_aload_n C dX9_undo_161) dX9_undo_162)) (hd_bipush C dX9_undo_165 (by decide))) dX9_undo_167)) (hd_seq (p1 := 183) (hd_sfld_iand C (p1 := 171) (p2 := 179) fX9_undo_84 qX9_undo_84 (hd_aload_n C dX9_undo_170) dX9_undo_171 dX9_undo_172 (hd_inI (hd_invV C (p1 := 176) (p2 := 176) snd_X9_allHalls rfl gX9_undo_X9_allHalls rfl yX9_undo_X9_allHalls ⟨by decide, by decide⟩ (by decide) (hd_aload_n C dX9_undo_175) hd_av0 dX9_undo_176)) dX9_undo_179 dX9_undo_180) (hd_seq (p1 := 207) (hd_seq (p1 := 188) (hd_sistore_n C (p1 := 187) (hd_getI C (p1 := 184) fX9_undo_68 (hd_aload_n C dX9_undo_183) dX9_undo_184) dX9_undo_187 (by decide)) (hd_loop C (p1 := 194) (p2 := 207) (hd_c_ltF C (p1 := 189) (p2 := 191) (tgt := 207) (hd_iload_n C dX9_undo_188) (hd_bipush C dX9_undo_189 (by decide)) dX9_undo_191 (by decide)) (hd_seq (p1 := 201) (hd_siast C (p1 := 198) (p2 := 199) (p3 := 200) (hd_getR C (p1 := 195) fX9_undo_37 (hd_aload_n C dX9_undo_194) dX9_undo_195) (hd_iload_n C dX9_undo_198) (hd_iconst C dX9_undo_199 (by decide)) dX9_undo_200) (hd_sgoto C (p1 := 204) (tgt := 188) (hd_ends (es := [204]) (by decide) (hd_siinc C dX9_undo_201 (by decide) (by decide))) dX9_undo_204 (by decide) (by decide))) (by decide))) (hd_retI C Rk (p1 := 211) (hd_getI C (p1 := 208) fX9_undo_78 (hd_aload_n C dX9_undo_207) dX9_undo_208) dX9_undo_211))))))))))))))))))))
/-! X0_isStopped -/
set_option maxRecDepth 100000 in
theorem uX0_isStopped_X0 : ∀ w ∈ u_ws RX0 TX0 3, w ∈ wsX0_isStopped := by decide +kernel
set_option maxRecDepth 100000 in
theorem lX0_isStopped_18 : Cond.fieldLink RX0 18 (TX0 0).1 (TX0 0).2.1 (TX0 0).2.2.1 ∈ wsX0_isStopped := by decide +kernel
set_option maxRecDepth 100000 in
theorem fX0_isStopped_18 : hd_F wsX0_isStopped RX0 vwCl 0 0 18 := ⟨RX0, TX0, 3, rfl, by decide, uX0_isStopped_X0, lX0_isStopped_18⟩
set_option maxRecDepth 100000 in
theorem uX0_isStopped_X5 : ∀ w ∈ u_ws RX5 TX5 10, w ∈ wsX0_isStopped := by decide +kernel
set_option maxRecDepth 100000 in
theorem lX0_isStopped_32 : Cond.fieldLink RX0 32 (TX5 1).1 (TX5 1).2.1 (TX5 1).2.2.1 ∈ wsX0_isStopped := by decide +kernel
set_option maxRecDepth 100000 in
theorem fX0_isStopped_32 : hd_F wsX0_isStopped RX0 vwCl 5 1 32 := ⟨RX5, TX5, 10, rfl, by decide, uX0_isStopped_X5, lX0_isStopped_32⟩
set_option maxRecDepth 100000 in
theorem lX0_isStopped_15 : Cond.fieldLink RX0 15 (TX0 2).1 (TX0 2).2.1 (TX0 2).2.2.1 ∈ wsX0_isStopped := by decide +kernel
set_option maxRecDepth 100000 in
theorem fX0_isStopped_15 : hd_F wsX0_isStopped RX0 vwCl 0 2 15 := ⟨RX0, TX0, 3, rfl, by decide, uX0_isStopped_X0, lX0_isStopped_15⟩
set_option maxRecDepth 100000 in
theorem yX0_isStopped_X0_pays : yX0_pays.cls = RX0 ∧ yX0_pays.cls ≠ "java/lang/invoke/MethodHandle" ∧ yX0_pays.cls ≠ "java/lang/invoke/VarHandle" ∧ (parseMethodDescriptor yX0_pays.desc).map (fun d => d.parameters.length) = some 2 := by decide +kernel
def wc_X0_isStopped_2 : hd_xC := (hd_cI (fun x y => decide (x < y)) (hd_iL 2) (hd_iG hs_sh 5 1 (hd_rG hs_sh 0 0 (hd_rL 0))))
def wb_X0_isStopped_2 : hd_xS := (hd_sQ (hd_sW (hd_cA (hd_c0 (fun x => decide (x = 0)) (hd_iA hs_sh (hd_rG hs_sh 0 2 (hd_rL 0)) (hd_iL 2))) (hd_c0 (fun x => !decide (x = 0)) (hd_iN (hd_nV hs_sh 0 (hd_rL 0) 2 (hd_pI (hd_pI hd_v0 (hd_iL 1)) (hd_iL 2)) wm_X0_pays)))) (hd_sRZ (hd_iK (1)))) (hd_sP 2 (1)))
def wo_X0_isStopped : hd_xS := (hd_sQ (hd_sQ (hd_sI 2 (hd_iK (0))) (hd_sH (wc_X0_isStopped_2) (wb_X0_isStopped_2))) (hd_sRZ (hd_iK (0))))
def wm_X0_isStopped : hd_M := hd_mth 3 wo_X0_isStopped
set_option maxHeartbeats 4000000 in
set_option maxRecDepth 100000 in
theorem snd_X0_isStopped : hd_Snd vwCl hs_sh yX0_isStopped wsX0_isStopped 3 wm_X0_isStopped := hd_method (by decide) rfl rfl (by decide) (fun κ C Rk => (hd_seq (p1 := 39) (hd_seq (p1 := 2) (hd_sistore_n C (p1 := 1) (hd_iconst C dX0_isStopped_0 (by decide)) dX0_isStopped_1 (by decide)) (hd_loop C (p1 := 13) (p2 := 39) (hd_c_ltF C (p1 := 3) (p2 := 10) (tgt := 39) (hd_iload_n C dX0_isStopped_2) (hd_getI C (p1 := 7) fX0_isStopped_32 (hd_getR C (p1 := 4) fX0_isStopped_18 (hd_aload_n C dX0_isStopped_3) dX0_isStopped_4) dX0_isStopped_7) dX0_isStopped_10 (by decide)) (hd_seq (p1 := 33) (hd_if (p1 := 31) (p2 := 33) (hd_and (p1 := 22) (p2 := 31) (p3 := 33) (hd_z_eqF C (p2 := 19) (tgt := 33) (hd_iald C (p1 := 17) (p2 := 18) (hd_getR C (p1 := 14) fX0_isStopped_15 (hd_aload_n C dX0_isStopped_13) dX0_isStopped_14) (hd_iload_n C dX0_isStopped_17) dX0_isStopped_18) dX0_isStopped_19 (by decide)) (hd_z_neF C (p2 := 28) (tgt := 33) (hd_inI (hd_invV C (p1 := 23) (p2 := 25) snd_X0_pays rfl gX0_isStopped_X0_pays rfl yX0_isStopped_X0_pays ⟨by decide, by decide⟩ (by decide) (hd_aload_n C dX0_isStopped_22) (hd_apI (p1 := 24) (p2 := 25) (hd_apI (p1 := 23) (p2 := 24) hd_av0 (hd_iload_n C dX0_isStopped_23)) (hd_iload_n C dX0_isStopped_24)) dX0_isStopped_25)) dX0_isStopped_28 (by decide))) (hd_retZ C Rk (p1 := 32) (hd_iconst C dX0_isStopped_31 (by decide)) dX0_isStopped_32) (by decide)) (hd_sgoto C (p1 := 36) (tgt := 2) (hd_ends (es := [36]) (by decide) (hd_siinc C dX0_isStopped_33 (by decide) (by decide))) dX0_isStopped_36 (by decide) (by decide))) (by decide))) (hd_retZ C Rk (p1 := 40) (hd_iconst C dX0_isStopped_39 (by decide)) dX0_isStopped_40)))
/-! X0_payersOf -/
set_option maxRecDepth 100000 in
theorem uX0_payersOf_X0 : ∀ w ∈ u_ws RX0 TX0 3, w ∈ wsX0_payersOf := by decide +kernel
set_option maxRecDepth 100000 in
theorem lX0_payersOf_18 : Cond.fieldLink RX0 18 (TX0 0).1 (TX0 0).2.1 (TX0 0).2.2.1 ∈ wsX0_payersOf := by decide +kernel
set_option maxRecDepth 100000 in
theorem fX0_payersOf_18 : hd_F wsX0_payersOf RX0 vwCl 0 0 18 := ⟨RX0, TX0, 3, rfl, by decide, uX0_payersOf_X0, lX0_payersOf_18⟩
set_option maxRecDepth 100000 in
theorem uX0_payersOf_X5 : ∀ w ∈ u_ws RX5 TX5 10, w ∈ wsX0_payersOf := by decide +kernel
set_option maxRecDepth 100000 in
theorem lX0_payersOf_22 : Cond.fieldLink RX0 22 (TX5 0).1 (TX5 0).2.1 (TX5 0).2.2.1 ∈ wsX0_payersOf := by decide +kernel
set_option maxRecDepth 100000 in
theorem fX0_payersOf_22 : hd_F wsX0_payersOf RX0 vwCl 5 0 22 := ⟨RX5, TX5, 10, rfl, by decide, uX0_payersOf_X5, lX0_payersOf_22⟩
set_option maxRecDepth 100000 in
theorem yX0_payersOf_X5_isIn : yX5_isIn.cls ≠ "java/lang/invoke/MethodHandle" ∧ yX5_isIn.cls ≠ "java/lang/invoke/VarHandle" ∧ (parseMethodDescriptor yX5_isIn.desc).map (fun d => d.parameters.length) = some 2 := by decide +kernel
set_option maxRecDepth 100000 in
theorem yX0_payersOf_X0_pays : yX0_pays.cls = RX0 ∧ yX0_pays.cls ≠ "java/lang/invoke/MethodHandle" ∧ yX0_pays.cls ≠ "java/lang/invoke/VarHandle" ∧ (parseMethodDescriptor yX0_pays.desc).map (fun d => d.parameters.length) = some 2 := by decide +kernel
def wc_X0_payersOf_5 : hd_xC := (hd_cI (fun x y => decide (x < y)) (hd_iL 4) (hd_iG hs_sh 5 0 (hd_rG hs_sh 0 0 (hd_rL 0))))
def wb_X0_payersOf_5 : hd_xS := (hd_sQ (hd_sI 3 (hd_iB (fun x y => x + y) (hd_iL 3) (hd_iQ (hd_cA (hd_c0 (fun x => !decide (x = 0)) (hd_iN (hd_nS 2 (hd_pI (hd_pI hd_v0 (hd_iL 4)) (hd_iL 2)) wm_X5_isIn))) (hd_c0 (fun x => !decide (x = 0)) (hd_iN (hd_nV hs_sh 0 (hd_rL 0) 2 (hd_pI (hd_pI hd_v0 (hd_iL 4)) (hd_iL 1)) wm_X0_pays)))) (hd_iK (1)) (hd_iK (0))))) (hd_sP 4 (1)))
def wo_X0_payersOf : hd_xS := (hd_sQ (hd_sI 3 (hd_iK (0))) (hd_sQ (hd_sQ (hd_sI 4 (hd_iK (0))) (hd_sH (wc_X0_payersOf_5) (wb_X0_payersOf_5))) (hd_sRI (hd_iL 3))))
def wm_X0_payersOf : hd_M := hd_mth 5 wo_X0_payersOf
set_option maxHeartbeats 4000000 in
set_option maxRecDepth 100000 in
theorem snd_X0_payersOf : hd_Snd vwCl hs_sh yX0_payersOf wsX0_payersOf 3 wm_X0_payersOf := hd_method (by decide) rfl rfl (by decide) (fun κ C Rk => (hd_seq (p1 := 2) (hd_sistore_n C (p1 := 1) (hd_iconst C dX0_payersOf_0 (by decide)) dX0_payersOf_1 (by decide)) (hd_seq (p1 := 50) (hd_seq (p1 := 5) (hd_sistore C (p1 := 3) (hd_iconst C dX0_payersOf_2 (by decide)) dX0_payersOf_3 (by decide)) (hd_loop C (p1 := 17) (p2 := 50) (hd_c_ltF C (p1 := 7) (p2 := 14) (tgt := 50) (hd_iload C dX0_payersOf_5) (hd_getI C (p1 := 11) fX0_payersOf_22 (hd_getR C (p1 := 8) fX0_payersOf_18 (hd_aload_n C dX0_payersOf_7) dX0_payersOf_8) dX0_payersOf_11) dX0_payersOf_14 (by decide)) (hd_seq (p1 := 44) (hd_sistore_n C (p1 := 43) (hd_iadd C (p1 := 18) (p2 := 42) (hd_iload_n C dX0_payersOf_17) (hd_tnI C (p1 := 37) (p2 := 38) (p3 := 41) (p4 := 42) (hd_and (p1 := 27) (p2 := 37) (p3 := 41) (hd_z_neF C (p2 := 24) (tgt := 41) (hd_inI (hd_invS C (p2 := 21) snd_X5_isIn rfl gX0_payersOf_X5_isIn yX0_payersOf_X5_isIn ⟨by decide, by decide⟩ (by decide) (hd_apI (p1 := 20) (p2 := 21) (hd_apI (p1 := 18) (p2 := 20) hd_av0 (hd_iload C dX0_payersOf_18)) (hd_iload_n C dX0_payersOf_20)) dX0_payersOf_21)) dX0_payersOf_24 (by decide)) (hd_z_neF C (p2 := 34) (tgt := 41) (hd_inI (hd_invV C (p1 := 28) (p2 := 31) snd_X0_pays rfl gX0_payersOf_X0_pays rfl yX0_payersOf_X0_pays ⟨by decide, by decide⟩ (by decide) (hd_aload_n C dX0_payersOf_27) (hd_apI (p1 := 30) (p2 := 31) (hd_apI (p1 := 28) (p2 := 30) hd_av0 (hd_iload C dX0_payersOf_28)) (hd_iload_n C dX0_payersOf_30)) dX0_payersOf_31)) dX0_payersOf_34 (by decide))) (hd_iconst C dX0_payersOf_37 (by decide)) dX0_payersOf_38 (by decide) (hd_iconst C dX0_payersOf_41 (by decide))) dX0_payersOf_42) dX0_payersOf_43 (by decide)) (hd_sgoto C (p1 := 47) (tgt := 5) (hd_ends (es := [47]) (by decide) (hd_siinc C dX0_payersOf_44 (by decide) (by decide))) dX0_payersOf_47 (by decide) (by decide))) (by decide))) (hd_retI C Rk (p1 := 51) (hd_iload_n C dX0_payersOf_50) dX0_payersOf_51))))
/-! X0_raiseBy -/
set_option maxRecDepth 100000 in
theorem uX0_raiseBy_X0 : ∀ w ∈ u_ws RX0 TX0 3, w ∈ wsX0_raiseBy := by decide +kernel
set_option maxRecDepth 100000 in
theorem lX0_raiseBy_18 : Cond.fieldLink RX0 18 (TX0 0).1 (TX0 0).2.1 (TX0 0).2.2.1 ∈ wsX0_raiseBy := by decide +kernel
set_option maxRecDepth 100000 in
theorem fX0_raiseBy_18 : hd_F wsX0_raiseBy RX0 vwCl 0 0 18 := ⟨RX0, TX0, 3, rfl, by decide, uX0_raiseBy_X0, lX0_raiseBy_18⟩
set_option maxRecDepth 100000 in
theorem uX0_raiseBy_X5 : ∀ w ∈ u_ws RX5 TX5 10, w ∈ wsX0_raiseBy := by decide +kernel
set_option maxRecDepth 100000 in
theorem lX0_raiseBy_32 : Cond.fieldLink RX0 32 (TX5 1).1 (TX5 1).2.1 (TX5 1).2.2.1 ∈ wsX0_raiseBy := by decide +kernel
set_option maxRecDepth 100000 in
theorem fX0_raiseBy_32 : hd_F wsX0_raiseBy RX0 vwCl 5 1 32 := ⟨RX5, TX5, 10, rfl, by decide, uX0_raiseBy_X5, lX0_raiseBy_32⟩
set_option maxRecDepth 100000 in
theorem lX0_raiseBy_15 : Cond.fieldLink RX0 15 (TX0 2).1 (TX0 2).2.1 (TX0 2).2.2.1 ∈ wsX0_raiseBy := by decide +kernel
set_option maxRecDepth 100000 in
theorem fX0_raiseBy_15 : hd_F wsX0_raiseBy RX0 vwCl 0 2 15 := ⟨RX0, TX0, 3, rfl, by decide, uX0_raiseBy_X0, lX0_raiseBy_15⟩
set_option maxRecDepth 100000 in
theorem yX0_raiseBy_X0_pays : yX0_pays.cls = RX0 ∧ yX0_pays.cls ≠ "java/lang/invoke/MethodHandle" ∧ yX0_pays.cls ≠ "java/lang/invoke/VarHandle" ∧ (parseMethodDescriptor yX0_pays.desc).map (fun d => d.parameters.length) = some 2 := by decide +kernel
set_option maxRecDepth 100000 in
theorem lX0_raiseBy_9 : Cond.fieldLink RX0 9 (TX0 1).1 (TX0 1).2.1 (TX0 1).2.2.1 ∈ wsX0_raiseBy := by decide +kernel
set_option maxRecDepth 100000 in
theorem fX0_raiseBy_9 : hd_F wsX0_raiseBy RX0 vwCl 0 1 9 := ⟨RX0, TX0, 3, rfl, by decide, uX0_raiseBy_X0, lX0_raiseBy_9⟩
def wc_X0_raiseBy_2 : hd_xC := (hd_cI (fun x y => decide (x < y)) (hd_iL 3) (hd_iG hs_sh 5 1 (hd_rG hs_sh 0 0 (hd_rL 0))))
def wb_X0_raiseBy_2 : hd_xS := (hd_sQ (hd_sO (fun x y => x - y) hs_sh (hd_rG hs_sh 0 2 (hd_rL 0)) (hd_iL 3) (hd_iQ (hd_c0 (fun x => !decide (x = 0)) (hd_iN (hd_nV hs_sh 0 (hd_rL 0) 2 (hd_pI (hd_pI hd_v0 (hd_iL 1)) (hd_iL 3)) wm_X0_pays))) (hd_iL 2) (hd_iK (0)))) (hd_sP 3 (1)))
def wo_X0_raiseBy : hd_xS := (hd_sQ (hd_sQ (hd_sI 3 (hd_iK (0))) (hd_sH (wc_X0_raiseBy_2) (wb_X0_raiseBy_2))) (hd_sQ (hd_sO (fun x y => x + y) hs_sh (hd_rG hs_sh 0 1 (hd_rL 0)) (hd_iL 1) (hd_iL 2)) hd_sRV))
def wm_X0_raiseBy : hd_M := hd_mth 4 wo_X0_raiseBy
set_option maxHeartbeats 4000000 in
set_option maxRecDepth 100000 in
theorem snd_X0_raiseBy : hd_Snd vwCl hs_sh yX0_raiseBy wsX0_raiseBy 3 wm_X0_raiseBy := hd_method (by decide) rfl rfl (by decide) (fun κ C Rk => (hd_seq (p1 := 42) (hd_seq (p1 := 2) (hd_sistore_n C (p1 := 1) (hd_iconst C dX0_raiseBy_0 (by decide)) dX0_raiseBy_1 (by decide)) (hd_loop C (p1 := 13) (p2 := 42) (hd_c_ltF C (p1 := 3) (p2 := 10) (tgt := 42) (hd_iload_n C dX0_raiseBy_2) (hd_getI C (p1 := 7) fX0_raiseBy_32 (hd_getR C (p1 := 4) fX0_raiseBy_18 (hd_aload_n C dX0_raiseBy_3) dX0_raiseBy_4) dX0_raiseBy_7) dX0_raiseBy_10 (by decide)) (hd_seq (p1 := 36) (hd_sarr_isub C (p1 := 17) (p2 := 18) (p3 := 34) (hd_getR C (p1 := 14) fX0_raiseBy_15 (hd_aload_n C dX0_raiseBy_13) dX0_raiseBy_14) (hd_iload_n C dX0_raiseBy_17) dX0_raiseBy_18 dX0_raiseBy_19 (hd_tnI C (p1 := 29) (p2 := 30) (p3 := 33) (p4 := 34) (hd_z_neF C (p2 := 26) (tgt := 33) (hd_inI (hd_invV C (p1 := 21) (p2 := 23) snd_X0_pays rfl gX0_raiseBy_X0_pays rfl yX0_raiseBy_X0_pays ⟨by decide, by decide⟩ (by decide) (hd_aload_n C dX0_raiseBy_20) (hd_apI (p1 := 22) (p2 := 23) (hd_apI (p1 := 21) (p2 := 22) hd_av0 (hd_iload_n C dX0_raiseBy_21)) (hd_iload_n C dX0_raiseBy_22)) dX0_raiseBy_23)) dX0_raiseBy_26 (by decide)) (hd_iload_n C dX0_raiseBy_29) dX0_raiseBy_30 (by decide) (hd_iconst C dX0_raiseBy_33 (by decide))) dX0_raiseBy_34 dX0_raiseBy_35) (hd_sgoto C (p1 := 39) (tgt := 2) (hd_ends (es := [39]) (by decide) (hd_siinc C dX0_raiseBy_36 (by decide) (by decide))) dX0_raiseBy_39 (by decide) (by decide))) (by decide))) (hd_seq (p1 := 52) (hd_sarr_iadd C (p1 := 46) (p2 := 47) (p3 := 50) (hd_getR C (p1 := 43) fX0_raiseBy_9 (hd_aload_n C dX0_raiseBy_42) dX0_raiseBy_43) (hd_iload_n C dX0_raiseBy_46) dX0_raiseBy_47 dX0_raiseBy_48 (hd_iload_n C dX0_raiseBy_49) dX0_raiseBy_50 dX0_raiseBy_51) (hd_retV C Rk dX0_raiseBy_52))))
/-! X0_roundsTillPaying -/
set_option maxRecDepth 100000 in
theorem uX0_roundsTillPaying_X0 : ∀ w ∈ u_ws RX0 TX0 3, w ∈ wsX0_roundsTillPaying := by decide +kernel
set_option maxRecDepth 100000 in
theorem lX0_roundsTillPaying_18 : Cond.fieldLink RX0 18 (TX0 0).1 (TX0 0).2.1 (TX0 0).2.2.1 ∈ wsX0_roundsTillPaying := by decide +kernel
set_option maxRecDepth 100000 in
theorem fX0_roundsTillPaying_18 : hd_F wsX0_roundsTillPaying RX0 vwCl 0 0 18 := ⟨RX0, TX0, 3, rfl, by decide, uX0_roundsTillPaying_X0, lX0_roundsTillPaying_18⟩
set_option maxRecDepth 100000 in
theorem uX0_roundsTillPaying_X5 : ∀ w ∈ u_ws RX5 TX5 10, w ∈ wsX0_roundsTillPaying := by decide +kernel
set_option maxRecDepth 100000 in
theorem lX0_roundsTillPaying_32 : Cond.fieldLink RX0 32 (TX5 1).1 (TX5 1).2.1 (TX5 1).2.2.1 ∈ wsX0_roundsTillPaying := by decide +kernel
set_option maxRecDepth 100000 in
theorem fX0_roundsTillPaying_32 : hd_F wsX0_roundsTillPaying RX0 vwCl 5 1 32 := ⟨RX5, TX5, 10, rfl, by decide, uX0_roundsTillPaying_X5, lX0_roundsTillPaying_32⟩
set_option maxRecDepth 100000 in
theorem yX0_roundsTillPaying_X0_pays : yX0_pays.cls = RX0 ∧ yX0_pays.cls ≠ "java/lang/invoke/MethodHandle" ∧ yX0_pays.cls ≠ "java/lang/invoke/VarHandle" ∧ (parseMethodDescriptor yX0_pays.desc).map (fun d => d.parameters.length) = some 2 := by decide +kernel
set_option maxRecDepth 100000 in
theorem yX0_roundsTillPaying_X5_tripOf : yX5_tripOf.cls = RX5 ∧ yX5_tripOf.cls ≠ "java/lang/invoke/MethodHandle" ∧ yX5_tripOf.cls ≠ "java/lang/invoke/VarHandle" ∧ (parseMethodDescriptor yX5_tripOf.desc).map (fun d => d.parameters.length) = some 2 := by decide +kernel
set_option maxRecDepth 100000 in
theorem lX0_roundsTillPaying_9 : Cond.fieldLink RX0 9 (TX0 1).1 (TX0 1).2.1 (TX0 1).2.2.1 ∈ wsX0_roundsTillPaying := by decide +kernel
set_option maxRecDepth 100000 in
theorem fX0_roundsTillPaying_9 : hd_F wsX0_roundsTillPaying RX0 vwCl 0 1 9 := ⟨RX0, TX0, 3, rfl, by decide, uX0_roundsTillPaying_X0, lX0_roundsTillPaying_9⟩
set_option maxRecDepth 100000 in
theorem wX0_roundsTillPaying_10 : Cond.methodLink RX0 83 Lib.Math.min.name ∈ wsX0_roundsTillPaying := by decide +kernel
set_option maxRecDepth 100000 in
theorem wX0_roundsTillPaying_11 : Cond.static Lib.Math.min.name ∈ wsX0_roundsTillPaying := by decide +kernel
set_option maxRecDepth 100000 in
theorem wX0_roundsTillPaying_12 : Cond.initialized "java/lang/Math" ∈ wsX0_roundsTillPaying := by decide +kernel
set_option maxRecDepth 100000 in
theorem wX0_roundsTillPaying_13 : Cond.code Lib.Math.min.name Lib.Math.min.code 2 (some .int) ∈ wsX0_roundsTillPaying := by decide +kernel
def wc_X0_roundsTillPaying_5 : hd_xC := (hd_cI (fun x y => decide (x < y)) (hd_iL 4) (hd_iG hs_sh 5 1 (hd_rG hs_sh 0 0 (hd_rL 0))))
def wb_X0_roundsTillPaying_5 : hd_xS := (hd_sQ (hd_sW (hd_cX (hd_c0 (fun x => !decide (x = 0)) (hd_iN (hd_nV hs_sh 0 (hd_rL 0) 2 (hd_pI (hd_pI hd_v0 (hd_iL 1)) (hd_iL 4)) wm_X0_pays)))) (hd_sI 3 (hd_iB (fun x y => if y < x then y else x) (hd_iL 3) (hd_iB (fun x y => x - y) (hd_iN (hd_nV hs_sh 5 (hd_rG hs_sh 0 0 (hd_rL 0)) 2 (hd_pI (hd_pI hd_v0 (hd_iL 4)) (hd_iL 1)) wm_X5_tripOf)) (hd_iA hs_sh (hd_rG hs_sh 0 1 (hd_rL 0)) (hd_iL 1)))))) (hd_sP 4 (1)))
def wo_X0_roundsTillPaying : hd_xS := (hd_sQ (hd_sI 3 (hd_iL 2)) (hd_sQ (hd_sQ (hd_sI 4 (hd_iK (0))) (hd_sH (wc_X0_roundsTillPaying_5) (wb_X0_roundsTillPaying_5))) (hd_sRI (hd_iL 3))))
def wm_X0_roundsTillPaying : hd_M := hd_mth 5 wo_X0_roundsTillPaying
set_option maxHeartbeats 4000000 in
set_option maxRecDepth 100000 in
theorem snd_X0_roundsTillPaying : hd_Snd vwCl hs_sh yX0_roundsTillPaying wsX0_roundsTillPaying 3 wm_X0_roundsTillPaying := hd_method (by decide) rfl rfl (by decide) (fun κ C Rk => (hd_seq (p1 := 2) (hd_sistore_n C (p1 := 1) (hd_iload_n C dX0_roundsTillPaying_0) dX0_roundsTillPaying_1 (by decide)) (hd_seq (p1 := 55) (hd_seq (p1 := 5) (hd_sistore C (p1 := 3) (hd_iconst C dX0_roundsTillPaying_2 (by decide)) dX0_roundsTillPaying_3 (by decide)) (hd_loop C (p1 := 17) (p2 := 55) (hd_c_ltF C (p1 := 7) (p2 := 14) (tgt := 55) (hd_iload C dX0_roundsTillPaying_5) (hd_getI C (p1 := 11) fX0_roundsTillPaying_32 (hd_getR C (p1 := 8) fX0_roundsTillPaying_18 (hd_aload_n C dX0_roundsTillPaying_7) dX0_roundsTillPaying_8) dX0_roundsTillPaying_11) dX0_roundsTillPaying_14 (by decide)) (hd_seq (p1 := 49) (hd_if (p1 := 27) (p2 := 49) (hd_not (hd_z_neT C (p2 := 24) (tgt := 49) (hd_inI (hd_invV C (p1 := 18) (p2 := 21) snd_X0_pays rfl gX0_roundsTillPaying_X0_pays rfl yX0_roundsTillPaying_X0_pays ⟨by decide, by decide⟩ (by decide) (hd_aload_n C dX0_roundsTillPaying_17) (hd_apI (p1 := 19) (p2 := 21) (hd_apI (p1 := 18) (p2 := 19) hd_av0 (hd_iload_n C dX0_roundsTillPaying_18)) (hd_iload C dX0_roundsTillPaying_19)) dX0_roundsTillPaying_21)) dX0_roundsTillPaying_24 (by decide))) (hd_sistore_n C (p1 := 48) (hd_mmin C (p1 := 28) (p2 := 45) wX0_roundsTillPaying_10 wX0_roundsTillPaying_11 wX0_roundsTillPaying_12 wX0_roundsTillPaying_13 (by decide) (hd_iload_n C dX0_roundsTillPaying_27) (hd_isub C (p1 := 38) (p2 := 44) (hd_inI (hd_invV C (p1 := 32) (p2 := 35) snd_X5_tripOf rfl gX0_roundsTillPaying_X5_tripOf rfl yX0_roundsTillPaying_X5_tripOf ⟨by decide, by decide⟩ (by decide) (hd_getR C (p1 := 29) fX0_roundsTillPaying_18 (hd_aload_n C dX0_roundsTillPaying_28) dX0_roundsTillPaying_29) (hd_apI (p1 := 34) (p2 := 35) (hd_apI (p1 := 32) (p2 := 34) hd_av0 (hd_iload C dX0_roundsTillPaying_32)) (hd_iload_n C dX0_roundsTillPaying_34)) dX0_roundsTillPaying_35)) (hd_iald C (p1 := 42) (p2 := 43) (hd_getR C (p1 := 39) fX0_roundsTillPaying_9 (hd_aload_n C dX0_roundsTillPaying_38) dX0_roundsTillPaying_39) (hd_iload_n C dX0_roundsTillPaying_42) dX0_roundsTillPaying_43) dX0_roundsTillPaying_44) dX0_roundsTillPaying_45) dX0_roundsTillPaying_48 (by decide)) (by decide)) (hd_sgoto C (p1 := 52) (tgt := 5) (hd_ends (es := [52]) (by decide) (hd_siinc C dX0_roundsTillPaying_49 (by decide) (by decide))) dX0_roundsTillPaying_52 (by decide) (by decide))) (by decide))) (hd_retI C Rk (p1 := 56) (hd_iload_n C dX0_roundsTillPaying_55) dX0_roundsTillPaying_56))))
/-! X1_cheapestBeside -/
set_option maxRecDepth 100000 in
theorem uX1_cheapestBeside_X1 : ∀ w ∈ u_ws RX1 TX1 5, w ∈ wsX1_cheapestBeside := by decide +kernel
set_option maxRecDepth 100000 in
theorem lX1_cheapestBeside_15 : Cond.fieldLink RX1 15 (TX1 0).1 (TX1 0).2.1 (TX1 0).2.2.1 ∈ wsX1_cheapestBeside := by decide +kernel
set_option maxRecDepth 100000 in
theorem fX1_cheapestBeside_15 : hd_F wsX1_cheapestBeside RX1 vwCl 1 0 15 := ⟨RX1, TX1, 5, rfl, by decide, uX1_cheapestBeside_X1, lX1_cheapestBeside_15⟩
set_option maxRecDepth 100000 in
theorem yX1_cheapestBeside_X5_everyHall : yX5_everyHall.cls = RX5 ∧ yX5_everyHall.cls ≠ "java/lang/invoke/MethodHandle" ∧ yX5_everyHall.cls ≠ "java/lang/invoke/VarHandle" ∧ (parseMethodDescriptor yX5_everyHall.desc).map (fun d => d.parameters.length) = some 0 := by decide +kernel
set_option maxRecDepth 100000 in
theorem yX1_cheapestBeside_X1_isBeside : yX1_isBeside.cls ≠ "java/lang/invoke/MethodHandle" ∧ yX1_isBeside.cls ≠ "java/lang/invoke/VarHandle" ∧ (parseMethodDescriptor yX1_isBeside.desc).map (fun d => d.parameters.length) = some 2 := by decide +kernel
set_option maxRecDepth 100000 in
theorem lX1_cheapestBeside_9 : Cond.fieldLink RX1 9 (TX1 3).1 (TX1 3).2.1 (TX1 3).2.2.1 ∈ wsX1_cheapestBeside := by decide +kernel
set_option maxRecDepth 100000 in
theorem fX1_cheapestBeside_9 : hd_F wsX1_cheapestBeside RX1 vwCl 1 3 9 := ⟨RX1, TX1, 5, rfl, by decide, uX1_cheapestBeside_X1, lX1_cheapestBeside_9⟩
set_option maxRecDepth 100000 in
theorem yX1_cheapestBeside_X1_isLess : yX1_isLess.cls ≠ "java/lang/invoke/MethodHandle" ∧ yX1_isLess.cls ≠ "java/lang/invoke/VarHandle" ∧ (parseMethodDescriptor yX1_isLess.desc).map (fun d => d.parameters.length) = some 2 := by decide +kernel
def wc_X1_cheapestBeside_4 : hd_xC := (hd_cI (fun x y => decide (x ≤ y)) (hd_iL 3) (hd_iN (hd_nV hs_sh 5 (hd_rG hs_sh 1 0 (hd_rL 0)) 0 hd_v0 wm_X5_everyHall)))
def wb_X1_cheapestBeside_4 : hd_xS := (hd_sQ (hd_sW (hd_cA (hd_c0 (fun x => !decide (x = 0)) (hd_iN (hd_nS 2 (hd_pI (hd_pI hd_v0 (hd_iL 1)) (hd_iL 3)) wm_X1_isBeside))) (hd_c0 (fun x => !decide (x = 0)) (hd_iN (hd_nS 2 (hd_pI (hd_pI hd_v0 (hd_iA hs_sh (hd_rG hs_sh 1 3 (hd_rL 0)) (hd_iL 3))) (hd_iA hs_sh (hd_rG hs_sh 1 3 (hd_rL 0)) (hd_iL 2))) wm_X1_isLess)))) (hd_sI 2 (hd_iL 3))) (hd_sP 3 (1)))
def wo_X1_cheapestBeside : hd_xS := (hd_sQ (hd_sI 2 (hd_iL 1)) (hd_sQ (hd_sQ (hd_sI 3 (hd_iK (0))) (hd_sH (wc_X1_cheapestBeside_4) (wb_X1_cheapestBeside_4))) (hd_sRI (hd_iL 2))))
def wm_X1_cheapestBeside : hd_M := hd_mth 4 wo_X1_cheapestBeside
set_option maxHeartbeats 4000000 in
set_option maxRecDepth 100000 in
theorem snd_X1_cheapestBeside : hd_Snd vwCl hs_sh yX1_cheapestBeside wsX1_cheapestBeside 3 wm_X1_cheapestBeside := hd_method (by decide) rfl rfl (by decide) (fun κ C Rk => (hd_seq (p1 := 2) (hd_sistore_n C (p1 := 1) (hd_iload_n C dX1_cheapestBeside_0) dX1_cheapestBeside_1 (by decide)) (hd_seq (p1 := 49) (hd_seq (p1 := 4) (hd_sistore_n C (p1 := 3) (hd_iconst C dX1_cheapestBeside_2 (by decide)) dX1_cheapestBeside_3 (by decide)) (hd_loop C (p1 := 15) (p2 := 49) (hd_c_leF C (p1 := 5) (p2 := 12) (tgt := 49) (hd_iload_n C dX1_cheapestBeside_4) (hd_inI (hd_invV C (p1 := 9) (p2 := 9) snd_X5_everyHall rfl gX1_cheapestBeside_X5_everyHall rfl yX1_cheapestBeside_X5_everyHall ⟨by decide, by decide⟩ (by decide) (hd_getR C (p1 := 6) fX1_cheapestBeside_15 (hd_aload_n C dX1_cheapestBeside_5) dX1_cheapestBeside_6) hd_av0 dX1_cheapestBeside_9)) dX1_cheapestBeside_12 (by decide)) (hd_seq (p1 := 43) (hd_if (p1 := 41) (p2 := 43) (hd_and (p1 := 23) (p2 := 41) (p3 := 43) (hd_z_neF C (p2 := 20) (tgt := 43) (hd_inI (hd_invS C (p2 := 17) snd_X1_isBeside rfl gX1_cheapestBeside_X1_isBeside yX1_cheapestBeside_X1_isBeside ⟨by decide, by decide⟩ (by decide) (hd_apI (p1 := 16) (p2 := 17) (hd_apI (p1 := 15) (p2 := 16) hd_av0 (hd_iload_n C dX1_cheapestBeside_15)) (hd_iload_n C dX1_cheapestBeside_16)) dX1_cheapestBeside_17)) dX1_cheapestBeside_20 (by decide)) (hd_z_neF C (p2 := 38) (tgt := 43) (hd_inI (hd_invS C (p2 := 35) snd_X1_isLess rfl gX1_cheapestBeside_X1_isLess yX1_cheapestBeside_X1_isLess ⟨by decide, by decide⟩ (by decide) (hd_apI (p1 := 29) (p2 := 35) (hd_apI (p1 := 23) (p2 := 29) hd_av0 (hd_iald C (p1 := 27) (p2 := 28) (hd_getR C (p1 := 24) fX1_cheapestBeside_9 (hd_aload_n C dX1_cheapestBeside_23) dX1_cheapestBeside_24) (hd_iload_n C dX1_cheapestBeside_27) dX1_cheapestBeside_28)) (hd_iald C (p1 := 33) (p2 := 34) (hd_getR C (p1 := 30) fX1_cheapestBeside_9 (hd_aload_n C dX1_cheapestBeside_29) dX1_cheapestBeside_30) (hd_iload_n C dX1_cheapestBeside_33) dX1_cheapestBeside_34)) dX1_cheapestBeside_35)) dX1_cheapestBeside_38 (by decide))) (hd_sistore_n C (p1 := 42) (hd_iload_n C dX1_cheapestBeside_41) dX1_cheapestBeside_42 (by decide)) (by decide)) (hd_sgoto C (p1 := 46) (tgt := 4) (hd_ends (es := [46]) (by decide) (hd_siinc C dX1_cheapestBeside_43 (by decide) (by decide))) dX1_cheapestBeside_46 (by decide) (by decide))) (by decide))) (hd_retI C Rk (p1 := 50) (hd_iload_n C dX1_cheapestBeside_49) dX1_cheapestBeside_50))))
/-! X1_closedOf -/
set_option maxRecDepth 100000 in
theorem yX1_closedOf_X1_worstToClose : yX1_worstToClose.cls = RX1 ∧ yX1_worstToClose.cls ≠ "java/lang/invoke/MethodHandle" ∧ yX1_worstToClose.cls ≠ "java/lang/invoke/VarHandle" ∧ (parseMethodDescriptor yX1_worstToClose.desc).map (fun d => d.parameters.length) = some 1 := by decide +kernel
set_option maxRecDepth 100000 in
theorem uX1_closedOf_X1 : ∀ w ∈ u_ws RX1 TX1 5, w ∈ wsX1_closedOf := by decide +kernel
set_option maxRecDepth 100000 in
theorem lX1_closedOf_19 : Cond.fieldLink RX1 19 (TX1 1).1 (TX1 1).2.1 (TX1 1).2.2.1 ∈ wsX1_closedOf := by decide +kernel
set_option maxRecDepth 100000 in
theorem fX1_closedOf_19 : hd_F wsX1_closedOf RX1 vwCl 1 1 19 := ⟨RX1, TX1, 5, rfl, by decide, uX1_closedOf_X1, lX1_closedOf_19⟩
set_option maxRecDepth 100000 in
theorem uX1_closedOf_X6 : ∀ w ∈ u_ws RX6 TX6 5, w ∈ wsX1_closedOf := by decide +kernel
set_option maxRecDepth 100000 in
theorem lX1_closedOf_27 : Cond.fieldLink RX1 27 (TX6 2).1 (TX6 2).2.1 (TX6 2).2.2.1 ∈ wsX1_closedOf := by decide +kernel
set_option maxRecDepth 100000 in
theorem fX1_closedOf_27 : hd_F wsX1_closedOf RX1 vwCl 6 2 27 := ⟨RX6, TX6, 5, rfl, by decide, uX1_closedOf_X6, lX1_closedOf_27⟩
def wo_X1_closedOf : hd_xS := (hd_sQ (hd_sI 2 (hd_iN (hd_nV hs_sh 1 (hd_rL 0) 1 (hd_pI hd_v0 (hd_iL 1)) wm_X1_worstToClose))) (hd_sRI (hd_iQ (hd_cI (fun x y => decide (x = y)) (hd_iL 2) (hd_iK (-1))) (hd_iK (-1)) (hd_iA hs_sh (hd_rG hs_sh 6 2 (hd_rG hs_sh 1 1 (hd_rL 0))) (hd_iB (fun x y => x &&& y) (hd_iL 1) (hd_iB (fun x y => x ^^^ y) (hd_iB (fun x y => x <<< (y &&& 31)) (hd_iK (1)) (hd_iL 2)) (hd_iK (-1))))))))
def wm_X1_closedOf : hd_M := hd_mth 3 wo_X1_closedOf
set_option maxHeartbeats 4000000 in
set_option maxRecDepth 100000 in
theorem snd_X1_closedOf : hd_Snd vwCl hs_sh yX1_closedOf wsX1_closedOf 3 wm_X1_closedOf := hd_method (by decide) rfl rfl (by decide) (fun κ C Rk => (hd_seq (p1 := 6) (hd_sistore_n C (p1 := 5) (hd_inI (hd_invV C (p1 := 1) (p2 := 2) snd_X1_worstToClose rfl gX1_closedOf_X1_worstToClose rfl yX1_closedOf_X1_worstToClose ⟨by decide, by decide⟩ (by decide) (hd_aload_n C dX1_closedOf_0) (hd_apI (p1 := 1) (p2 := 2) hd_av0 (hd_iload_n C dX1_closedOf_1)) dX1_closedOf_2)) dX1_closedOf_5 (by decide)) (hd_retI C Rk (p1 := 30) (hd_tnI C (p1 := 11) (p2 := 12) (p3 := 15) (p4 := 30) (hd_c_eqF C (p1 := 7) (p2 := 8) (tgt := 15) (hd_iload_n C dX1_closedOf_6) (hd_iconst C dX1_closedOf_7 (by decide)) dX1_closedOf_8 (by decide)) (hd_iconst C dX1_closedOf_11 (by decide)) dX1_closedOf_12 (by decide) (hd_iald C (p1 := 22) (p2 := 29) (hd_getR C (p1 := 19) fX1_closedOf_27 (hd_getR C (p1 := 16) fX1_closedOf_19 (hd_aload_n C dX1_closedOf_15) dX1_closedOf_16) dX1_closedOf_19) (hd_iand C (p1 := 23) (p2 := 28) (hd_iload_n C dX1_closedOf_22) (hd_ixor C (p1 := 26) (p2 := 27) (hd_ishl C (p1 := 24) (p2 := 25) (hd_iconst C dX1_closedOf_23 (by decide)) (hd_iload_n C dX1_closedOf_24) dX1_closedOf_25) (hd_iconst C dX1_closedOf_26 (by decide)) dX1_closedOf_27) dX1_closedOf_28) dX1_closedOf_29)) dX1_closedOf_30)))
/-! X1_worstRival -/
set_option maxRecDepth 100000 in
theorem uX1_worstRival_X1 : ∀ w ∈ u_ws RX1 TX1 5, w ∈ wsX1_worstRival := by decide +kernel
set_option maxRecDepth 100000 in
theorem lX1_worstRival_15 : Cond.fieldLink RX1 15 (TX1 0).1 (TX1 0).2.1 (TX1 0).2.2.1 ∈ wsX1_worstRival := by decide +kernel
set_option maxRecDepth 100000 in
theorem fX1_worstRival_15 : hd_F wsX1_worstRival RX1 vwCl 1 0 15 := ⟨RX1, TX1, 5, rfl, by decide, uX1_worstRival_X1, lX1_worstRival_15⟩
set_option maxRecDepth 100000 in
theorem uX1_worstRival_X5 : ∀ w ∈ u_ws RX5 TX5 10, w ∈ wsX1_worstRival := by decide +kernel
set_option maxRecDepth 100000 in
theorem lX1_worstRival_93 : Cond.fieldLink RX1 93 (TX5 1).1 (TX5 1).2.1 (TX5 1).2.2.1 ∈ wsX1_worstRival := by decide +kernel
set_option maxRecDepth 100000 in
theorem fX1_worstRival_93 : hd_F wsX1_worstRival RX1 vwCl 5 1 93 := ⟨RX5, TX5, 10, rfl, by decide, uX1_worstRival_X5, lX1_worstRival_93⟩
set_option maxRecDepth 100000 in
theorem yX1_worstRival_X5_isIn : yX5_isIn.cls ≠ "java/lang/invoke/MethodHandle" ∧ yX5_isIn.cls ≠ "java/lang/invoke/VarHandle" ∧ (parseMethodDescriptor yX5_isIn.desc).map (fun d => d.parameters.length) = some 2 := by decide +kernel
set_option maxRecDepth 100000 in
theorem yX1_worstRival_X1_takenBy : yX1_takenBy.cls = RX1 ∧ yX1_takenBy.cls ≠ "java/lang/invoke/MethodHandle" ∧ yX1_takenBy.cls ≠ "java/lang/invoke/VarHandle" ∧ (parseMethodDescriptor yX1_takenBy.desc).map (fun d => d.parameters.length) = some 2 := by decide +kernel
def wc_X1_worstRival_13 : hd_xC := (hd_cI (fun x y => decide (x < y)) (hd_iL 4) (hd_iG hs_sh 5 1 (hd_rG hs_sh 1 0 (hd_rL 0))))
def wb_X1_worstRival_13 : hd_xS := (hd_sQ (hd_sQ (hd_sI 5 (hd_iQ (hd_c0 (fun x => !decide (x = 0)) (hd_iN (hd_nS 2 (hd_pI (hd_pI hd_v0 (hd_iL 4)) (hd_iL 1)) wm_X5_isIn))) (hd_iK (-1)) (hd_iN (hd_nV hs_sh 1 (hd_rL 0) 2 (hd_pI (hd_pI hd_v0 (hd_iL 4)) (hd_iL 1)) wm_X1_takenBy)))) (hd_sW (hd_cI (fun x y => decide (y < x)) (hd_iL 5) (hd_iL 3)) (hd_sQ (hd_sI 2 (hd_iL 4)) (hd_sI 3 (hd_iL 5))))) (hd_sP 4 (1)))
def wo_X1_worstRival : hd_xS := (hd_sQ (hd_sW (hd_c0 (fun x => decide (x = 0)) (hd_iL 1)) (hd_sRI (hd_iK (-1)))) (hd_sQ (hd_sI 2 (hd_iK (-1))) (hd_sQ (hd_sI 3 (hd_iK (-1))) (hd_sQ (hd_sQ (hd_sI 4 (hd_iK (0))) (hd_sH (wc_X1_worstRival_13) (wb_X1_worstRival_13))) (hd_sRI (hd_iL 2))))))
def wm_X1_worstRival : hd_M := hd_mth 6 wo_X1_worstRival
set_option maxHeartbeats 4000000 in
set_option maxRecDepth 100000 in
theorem snd_X1_worstRival : hd_Snd vwCl hs_sh yX1_worstRival wsX1_worstRival 3 wm_X1_worstRival := hd_method (by decide) rfl rfl (by decide) (fun κ C Rk => (hd_seq (p1 := 6) (hd_if (p1 := 4) (p2 := 6) (hd_z_eqF C (p2 := 1) (tgt := 6) (hd_iload_n C dX1_worstRival_0) dX1_worstRival_1 (by decide)) (hd_retI C Rk (p1 := 5) (hd_iconst C dX1_worstRival_4 (by decide)) dX1_worstRival_5) (by decide)) (hd_seq (p1 := 8) (hd_sistore_n C (p1 := 7) (hd_iconst C dX1_worstRival_6 (by decide)) dX1_worstRival_7 (by decide)) (hd_seq (p1 := 10) (hd_sistore_n C (p1 := 9) (hd_iconst C dX1_worstRival_8 (by decide)) dX1_worstRival_9 (by decide)) (hd_seq (p1 := 65) (hd_seq (p1 := 13) (hd_sistore C (p1 := 11) (hd_iconst C dX1_worstRival_10 (by decide)) dX1_worstRival_11 (by decide)) (hd_loop C (p1 := 25) (p2 := 65) (hd_c_ltF C (p1 := 15) (p2 := 22) (tgt := 65) (hd_iload C dX1_worstRival_13) (hd_getI C (p1 := 19) fX1_worstRival_93 (hd_getR C (p1 := 16) fX1_worstRival_15 (hd_aload_n C dX1_worstRival_15) dX1_worstRival_16) dX1_worstRival_19) dX1_worstRival_22 (by decide)) (hd_seq (p1 := 59) (hd_seq (p1 := 47) (hd_sistore C (p1 := 45) (hd_tnI C (p1 := 34) (p2 := 35) (p3 := 38) (p4 := 45) (hd_z_neF C (p2 := 31) (tgt := 38) (hd_inI (hd_invS C (p2 := 28) snd_X5_isIn rfl gX1_worstRival_X5_isIn yX1_worstRival_X5_isIn ⟨by decide, by decide⟩ (by decide) (hd_apI (p1 := 27) (p2 := 28) (hd_apI (p1 := 25) (p2 := 27) hd_av0 (hd_iload C dX1_worstRival_25)) (hd_iload_n C dX1_worstRival_27)) dX1_worstRival_28)) dX1_worstRival_31 (by decide)) (hd_iconst C dX1_worstRival_34 (by decide)) dX1_worstRival_35 (by decide) (hd_inI (hd_invV C (p1 := 39) (p2 := 42) snd_X1_takenBy rfl gX1_worstRival_X1_takenBy rfl yX1_worstRival_X1_takenBy ⟨by decide, by decide⟩ (by decide) (hd_aload_n C dX1_worstRival_38) (hd_apI (p1 := 41) (p2 := 42) (hd_apI (p1 := 39) (p2 := 41) hd_av0 (hd_iload C dX1_worstRival_39)) (hd_iload_n C dX1_worstRival_41)) dX1_worstRival_42))) dX1_worstRival_45 (by decide)) (hd_if (p1 := 53) (p2 := 59) (hd_c_gtF C (p1 := 49) (p2 := 50) (tgt := 59) (hd_iload C dX1_worstRival_47) (hd_iload_n C dX1_worstRival_49) dX1_worstRival_50 (by decide)) (hd_seq (p1 := 56) (hd_sistore_n C (p1 := 55) (hd_iload C dX1_worstRival_53) dX1_worstRival_55 (by decide)) (hd_sistore_n C (p1 := 58) (hd_iload C dX1_worstRival_56) dX1_worstRival_58 (by decide))) (by decide))) (hd_sgoto C (p1 := 62) (tgt := 13) (hd_ends (es := [62]) (by decide) (hd_siinc C dX1_worstRival_59 (by decide) (by decide))) dX1_worstRival_62 (by decide) (by decide))) (by decide))) (hd_retI C Rk (p1 := 66) (hd_iload_n C dX1_worstRival_65) dX1_worstRival_66))))))
/-! X3_chosenAt -/
set_option maxRecDepth 100000 in
theorem uX3_chosenAt_X3 : ∀ w ∈ u_ws RX3 TX3 5, w ∈ wsX3_chosenAt := by decide +kernel
set_option maxRecDepth 100000 in
theorem lX3_chosenAt_22 : Cond.fieldLink RX3 22 (TX3 2).1 (TX3 2).2.1 (TX3 2).2.2.1 ∈ wsX3_chosenAt := by decide +kernel
set_option maxRecDepth 100000 in
theorem fX3_chosenAt_22 : hd_F wsX3_chosenAt RX3 vwCl 3 2 22 := ⟨RX3, TX3, 5, rfl, by decide, uX3_chosenAt_X3, lX3_chosenAt_22⟩
set_option maxRecDepth 100000 in
theorem lX3_chosenAt_32 : Cond.fieldLink RX3 32 (TX3 3).1 (TX3 3).2.1 (TX3 3).2.2.1 ∈ wsX3_chosenAt := by decide +kernel
set_option maxRecDepth 100000 in
theorem fX3_chosenAt_32 : hd_F wsX3_chosenAt RX3 vwCl 3 3 32 := ⟨RX3, TX3, 5, rfl, by decide, uX3_chosenAt_X3, lX3_chosenAt_32⟩
set_option maxRecDepth 100000 in
theorem yX3_chosenAt_X3_isChosen : yX3_isChosen.cls = RX3 ∧ yX3_isChosen.cls ≠ "java/lang/invoke/MethodHandle" ∧ yX3_isChosen.cls ≠ "java/lang/invoke/VarHandle" ∧ (parseMethodDescriptor yX3_isChosen.desc).map (fun d => d.parameters.length) = some 2 := by decide +kernel
set_option maxRecDepth 100000 in
theorem lX3_chosenAt_9 : Cond.fieldLink RX3 9 (TX3 1).1 (TX3 1).2.1 (TX3 1).2.2.1 ∈ wsX3_chosenAt := by decide +kernel
set_option maxRecDepth 100000 in
theorem fX3_chosenAt_9 : hd_F wsX3_chosenAt RX3 vwCl 3 1 9 := ⟨RX3, TX3, 5, rfl, by decide, uX3_chosenAt_X3, lX3_chosenAt_9⟩
def wc_X3_chosenAt_4 : hd_xC := (hd_cI (fun x y => decide (x < y)) (hd_iL 3) (hd_iG hs_sh 3 2 (hd_rL 0)))
def wb_X3_chosenAt_4 : hd_xS := (hd_sQ (hd_sW (hd_c0 (fun x => !decide (x = 0)) (hd_iN (hd_nV hs_sh 3 (hd_rL 0) 2 (hd_pI (hd_pI hd_v0 (hd_iG hs_sh 3 3 (hd_rL 0))) (hd_iL 3)) wm_X3_isChosen))) (hd_sQ (hd_sW (hd_cI (fun x y => decide (x = y)) (hd_iL 2) (hd_iL 1)) (hd_sRI (hd_iB (fun x y => x + y) (hd_iA hs_sh (hd_rG hs_sh 3 1 (hd_rL 0)) (hd_iL 3)) (hd_iK (1000))))) (hd_sP 2 (1)))) (hd_sP 3 (1)))
def wo_X3_chosenAt : hd_xS := (hd_sQ (hd_sI 2 (hd_iK (0))) (hd_sQ (hd_sQ (hd_sI 3 (hd_iK (0))) (hd_sH (wc_X3_chosenAt_4) (wb_X3_chosenAt_4))) (hd_sRI (hd_iK (-1)))))
def wm_X3_chosenAt : hd_M := hd_mth 4 wo_X3_chosenAt
set_option maxHeartbeats 4000000 in
set_option maxRecDepth 100000 in
theorem snd_X3_chosenAt : hd_Snd vwCl hs_sh yX3_chosenAt wsX3_chosenAt 3 wm_X3_chosenAt := hd_method (by decide) rfl rfl (by decide) (fun κ C Rk => (hd_seq (p1 := 2) (hd_sistore_n C (p1 := 1) (hd_iconst C dX3_chosenAt_0 (by decide)) dX3_chosenAt_1 (by decide)) (hd_seq (p1 := 49) (hd_seq (p1 := 4) (hd_sistore_n C (p1 := 3) (hd_iconst C dX3_chosenAt_2 (by decide)) dX3_chosenAt_3 (by decide)) (hd_loop C (p1 := 12) (p2 := 49) (hd_c_ltF C (p1 := 5) (p2 := 9) (tgt := 49) (hd_iload_n C dX3_chosenAt_4) (hd_getI C (p1 := 6) fX3_chosenAt_22 (hd_aload_n C dX3_chosenAt_5) dX3_chosenAt_6) dX3_chosenAt_9 (by decide)) (hd_seq (p1 := 43) (hd_if (p1 := 24) (p2 := 43) (hd_z_neF C (p2 := 21) (tgt := 43) (hd_inI (hd_invV C (p1 := 13) (p2 := 18) snd_X3_isChosen rfl gX3_chosenAt_X3_isChosen rfl yX3_chosenAt_X3_isChosen ⟨by decide, by decide⟩ (by decide) (hd_aload_n C dX3_chosenAt_12) (hd_apI (p1 := 17) (p2 := 18) (hd_apI (p1 := 13) (p2 := 17) hd_av0 (hd_getI C (p1 := 14) fX3_chosenAt_32 (hd_aload_n C dX3_chosenAt_13) dX3_chosenAt_14)) (hd_iload_n C dX3_chosenAt_17)) dX3_chosenAt_18)) dX3_chosenAt_21 (by decide)) (hd_seq (p1 := 40) (hd_if (p1 := 29) (p2 := 40) (hd_c_eqF C (p1 := 25) (p2 := 26) (tgt := 40) (hd_iload_n C dX3_chosenAt_24) (hd_iload_n C dX3_chosenAt_25) dX3_chosenAt_26 (by decide)) (hd_retI C Rk (p1 := 39) (hd_iadd C (p1 := 35) (p2 := 38) (hd_iald C (p1 := 33) (p2 := 34) (hd_getR C (p1 := 30) fX3_chosenAt_9 (hd_aload_n C dX3_chosenAt_29) dX3_chosenAt_30) (hd_iload_n C dX3_chosenAt_33) dX3_chosenAt_34) (hd_sipush C dX3_chosenAt_35 (by decide)) dX3_chosenAt_38) dX3_chosenAt_39) (by decide)) (hd_siinc C dX3_chosenAt_40 (by decide) (by decide))) (by decide)) (hd_sgoto C (p1 := 46) (tgt := 4) (hd_ends (es := [46]) (by decide) (hd_siinc C dX3_chosenAt_43 (by decide) (by decide))) dX3_chosenAt_46 (by decide) (by decide))) (by decide))) (hd_retI C Rk (p1 := 50) (hd_iconst C dX3_chosenAt_49 (by decide)) dX3_chosenAt_50))))
/-! X3_nearestOn -/
set_option maxRecDepth 100000 in
theorem uX3_nearestOn_X3 : ∀ w ∈ u_ws RX3 TX3 5, w ∈ wsX3_nearestOn := by decide +kernel
set_option maxRecDepth 100000 in
theorem lX3_nearestOn_22 : Cond.fieldLink RX3 22 (TX3 2).1 (TX3 2).2.1 (TX3 2).2.2.1 ∈ wsX3_nearestOn := by decide +kernel
set_option maxRecDepth 100000 in
theorem fX3_nearestOn_22 : hd_F wsX3_nearestOn RX3 vwCl 3 2 22 := ⟨RX3, TX3, 5, rfl, by decide, uX3_nearestOn_X3, lX3_nearestOn_22⟩
set_option maxRecDepth 100000 in
theorem yX3_nearestOn_X3_isChosen : yX3_isChosen.cls = RX3 ∧ yX3_isChosen.cls ≠ "java/lang/invoke/MethodHandle" ∧ yX3_isChosen.cls ≠ "java/lang/invoke/VarHandle" ∧ (parseMethodDescriptor yX3_isChosen.desc).map (fun d => d.parameters.length) = some 2 := by decide +kernel
set_option maxRecDepth 100000 in
theorem lX3_nearestOn_9 : Cond.fieldLink RX3 9 (TX3 1).1 (TX3 1).2.1 (TX3 1).2.2.1 ∈ wsX3_nearestOn := by decide +kernel
set_option maxRecDepth 100000 in
theorem fX3_nearestOn_9 : hd_F wsX3_nearestOn RX3 vwCl 3 1 9 := ⟨RX3, TX3, 5, rfl, by decide, uX3_nearestOn_X3, lX3_nearestOn_9⟩
set_option maxRecDepth 100000 in
theorem wX3_nearestOn_6 : Cond.methodLink RX3 67 Lib.Math.abs.name ∈ wsX3_nearestOn := by decide +kernel
set_option maxRecDepth 100000 in
theorem wX3_nearestOn_7 : Cond.static Lib.Math.abs.name ∈ wsX3_nearestOn := by decide +kernel
set_option maxRecDepth 100000 in
theorem wX3_nearestOn_8 : Cond.initialized "java/lang/Math" ∈ wsX3_nearestOn := by decide +kernel
set_option maxRecDepth 100000 in
theorem wX3_nearestOn_9 : Cond.code Lib.Math.abs.name Lib.Math.abs.code 1 (some .int) ∈ wsX3_nearestOn := by decide +kernel
set_option maxRecDepth 100000 in
theorem wX3_nearestOn_10 : Cond.methodLink RX3 26 Lib.Math.min.name ∈ wsX3_nearestOn := by decide +kernel
set_option maxRecDepth 100000 in
theorem wX3_nearestOn_11 : Cond.static Lib.Math.min.name ∈ wsX3_nearestOn := by decide +kernel
set_option maxRecDepth 100000 in
theorem wX3_nearestOn_12 : Cond.code Lib.Math.min.name Lib.Math.min.code 2 (some .int) ∈ wsX3_nearestOn := by decide +kernel
def wc_X3_nearestOn_7 : hd_xC := (hd_cI (fun x y => decide (x < y)) (hd_iL 4) (hd_iG hs_sh 3 2 (hd_rL 0)))
def wb_X3_nearestOn_7 : hd_xS := (hd_sQ (hd_sW (hd_c0 (fun x => !decide (x = 0)) (hd_iN (hd_nV hs_sh 3 (hd_rL 0) 2 (hd_pI (hd_pI hd_v0 (hd_iL 1)) (hd_iL 4)) wm_X3_isChosen))) (hd_sI 3 (hd_iB (fun x y => if y < x then y else x) (hd_iL 3) (hd_iU (fun x => if 0 ≤ x then x else 0 - x) (hd_iB (fun x y => x - y) (hd_iA hs_sh (hd_rG hs_sh 3 1 (hd_rL 0)) (hd_iL 4)) (hd_iL 2)))))) (hd_sP 4 (1)))
def wo_X3_nearestOn : hd_xS := (hd_sQ (hd_sI 3 (hd_iK (2000))) (hd_sQ (hd_sQ (hd_sI 4 (hd_iK (0))) (hd_sH (wc_X3_nearestOn_7) (wb_X3_nearestOn_7))) (hd_sRI (hd_iL 3))))
def wm_X3_nearestOn : hd_M := hd_mth 5 wo_X3_nearestOn
set_option maxHeartbeats 4000000 in
set_option maxRecDepth 100000 in
theorem snd_X3_nearestOn : hd_Snd vwCl hs_sh yX3_nearestOn wsX3_nearestOn 3 wm_X3_nearestOn := hd_method (by decide) rfl rfl (by decide) (fun κ C Rk => (hd_seq (p1 := 4) (hd_sistore_n C (p1 := 3) (hd_sipush C dX3_nearestOn_0 (by decide)) dX3_nearestOn_3 (by decide)) (hd_seq (p1 := 49) (hd_seq (p1 := 7) (hd_sistore C (p1 := 5) (hd_iconst C dX3_nearestOn_4 (by decide)) dX3_nearestOn_5 (by decide)) (hd_loop C (p1 := 16) (p2 := 49) (hd_c_ltF C (p1 := 9) (p2 := 13) (tgt := 49) (hd_iload C dX3_nearestOn_7) (hd_getI C (p1 := 10) fX3_nearestOn_22 (hd_aload_n C dX3_nearestOn_9) dX3_nearestOn_10) dX3_nearestOn_13 (by decide)) (hd_seq (p1 := 43) (hd_if (p1 := 26) (p2 := 43) (hd_z_neF C (p2 := 23) (tgt := 43) (hd_inI (hd_invV C (p1 := 17) (p2 := 20) snd_X3_isChosen rfl gX3_nearestOn_X3_isChosen rfl yX3_nearestOn_X3_isChosen ⟨by decide, by decide⟩ (by decide) (hd_aload_n C dX3_nearestOn_16) (hd_apI (p1 := 18) (p2 := 20) (hd_apI (p1 := 17) (p2 := 18) hd_av0 (hd_iload_n C dX3_nearestOn_17)) (hd_iload C dX3_nearestOn_18)) dX3_nearestOn_20)) dX3_nearestOn_23 (by decide)) (hd_sistore_n C (p1 := 42) (hd_mmin C (p1 := 27) (p2 := 39) wX3_nearestOn_10 wX3_nearestOn_11 wX3_nearestOn_8 wX3_nearestOn_12 (by decide) (hd_iload_n C dX3_nearestOn_26) (hd_mabs C (p1 := 36) wX3_nearestOn_6 wX3_nearestOn_7 wX3_nearestOn_8 wX3_nearestOn_9 (by decide) (hd_isub C (p1 := 34) (p2 := 35) (hd_iald C (p1 := 31) (p2 := 33) (hd_getR C (p1 := 28) fX3_nearestOn_9 (hd_aload_n C dX3_nearestOn_27) dX3_nearestOn_28) (hd_iload C dX3_nearestOn_31) dX3_nearestOn_33) (hd_iload_n C dX3_nearestOn_34) dX3_nearestOn_35) dX3_nearestOn_36) dX3_nearestOn_39) dX3_nearestOn_42 (by decide)) (by decide)) (hd_sgoto C (p1 := 46) (tgt := 7) (hd_ends (es := [46]) (by decide) (hd_siinc C dX3_nearestOn_43 (by decide) (by decide))) dX3_nearestOn_46 (by decide) (by decide))) (by decide))) (hd_retI C Rk (p1 := 50) (hd_iload_n C dX3_nearestOn_49) dX3_nearestOn_50))))
