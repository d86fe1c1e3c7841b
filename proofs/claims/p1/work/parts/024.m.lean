/-! X7_startAnew -/
theorem hw_X7_startAnew : wsX7_startAnew = Cond.code yX7_startAnew cX7_startAnew 5 none :: wsX7_startAnew.tail := rfl
set_option maxRecDepth 100000 in
theorem uX7_startAnew_X7 : ∀ w ∈ u_ws RX7 TX7 10, w ∈ wsX7_startAnew := by decide +kernel
set_option maxRecDepth 100000 in
theorem lX7_startAnew_37 : Cond.fieldLink RX7 37 (TX7 9).1 (TX7 9).2.1 (TX7 9).2.2.1 ∈ wsX7_startAnew := by decide +kernel
set_option maxRecDepth 100000 in
theorem qX7_startAnew_37 : hd_FP wsX7_startAnew RX7 vwCl 7 9 37 .boolean := ⟨RX7, TX7, 10, tyX7, rfl, by decide, uX7_startAnew_X7, lX7_startAnew_37, tyX7_ok, nmX7, rfl, rfl⟩
set_option maxRecDepth 100000 in
theorem lX7_startAnew_33 : Cond.fieldLink RX7 33 (TX7 8).1 (TX7 8).2.1 (TX7 8).2.2.1 ∈ wsX7_startAnew := by decide +kernel
set_option maxRecDepth 100000 in
theorem qX7_startAnew_33 : hd_FP wsX7_startAnew RX7 vwCl 7 8 33 .int := ⟨RX7, TX7, 10, tyX7, rfl, by decide, uX7_startAnew_X7, lX7_startAnew_33, tyX7_ok, nmX7, rfl, rfl⟩
set_option maxRecDepth 100000 in
theorem lX7_startAnew_11 : Cond.fieldLink RX7 11 (TX7 2).1 (TX7 2).2.1 (TX7 2).2.2.1 ∈ wsX7_startAnew := by decide +kernel
set_option maxRecDepth 100000 in
theorem fX7_startAnew_11 : hd_F wsX7_startAnew RX7 vwCl 7 2 11 := ⟨RX7, TX7, 10, rfl, by decide, uX7_startAnew_X7, lX7_startAnew_11⟩
set_option maxRecDepth 100000 in
theorem wX7_startAnew_7 : Cond.constantLong RX7 60 (-2) ∈ wsX7_startAnew := by decide +kernel
set_option maxRecDepth 100000 in
theorem yX7_startAnew_J7_fill_d0a16 : yJ7_fill_d0a16.cls ≠ "java/lang/invoke/MethodHandle" ∧ yJ7_fill_d0a16.cls ≠ "java/lang/invoke/VarHandle" ∧ (parseMethodDescriptor yJ7_fill_d0a16.desc).map (fun d => d.parameters.length) = some 2 := by decide +kernel
set_option maxRecDepth 100000 in
theorem lX7_startAnew_41 : Cond.fieldLink RX7 41 (TX7 0).1 (TX7 0).2.1 (TX7 0).2.2.1 ∈ wsX7_startAnew := by decide +kernel
set_option maxRecDepth 100000 in
theorem fX7_startAnew_41 : hd_F wsX7_startAnew RX7 vwCl 7 0 41 := ⟨RX7, TX7, 10, rfl, by decide, uX7_startAnew_X7, lX7_startAnew_41⟩
set_option maxRecDepth 100000 in
theorem uX7_startAnew_X5 : ∀ w ∈ u_ws RX5 TX5 10, w ∈ wsX7_startAnew := by decide +kernel
set_option maxRecDepth 100000 in
theorem lX7_startAnew_75 : Cond.fieldLink RX7 75 (TX5 0).1 (TX5 0).2.1 (TX5 0).2.2.1 ∈ wsX7_startAnew := by decide +kernel
set_option maxRecDepth 100000 in
theorem fX7_startAnew_75 : hd_F wsX7_startAnew RX7 vwCl 5 0 75 := ⟨RX5, TX5, 10, rfl, by decide, uX7_startAnew_X5, lX7_startAnew_75⟩
set_option maxRecDepth 100000 in
theorem wX7_startAnew_14 : Cond.constantLong RX7 49 (1152921504606846976) ∈ wsX7_startAnew := by decide +kernel
set_option maxRecDepth 100000 in
theorem lX7_startAnew_17 : Cond.fieldLink RX7 17 (TX7 3).1 (TX7 3).2.1 (TX7 3).2.2.1 ∈ wsX7_startAnew := by decide +kernel
set_option maxRecDepth 100000 in
theorem fX7_startAnew_17 : hd_F wsX7_startAnew RX7 vwCl 7 3 17 := ⟨RX7, TX7, 10, rfl, by decide, uX7_startAnew_X7, lX7_startAnew_17⟩
set_option maxRecDepth 100000 in
theorem lX7_startAnew_80 : Cond.fieldLink RX7 80 (TX5 1).1 (TX5 1).2.1 (TX5 1).2.2.1 ∈ wsX7_startAnew := by decide +kernel
set_option maxRecDepth 100000 in
theorem fX7_startAnew_80 : hd_F wsX7_startAnew RX7 vwCl 5 1 80 := ⟨RX5, TX5, 10, rfl, by decide, uX7_startAnew_X5, lX7_startAnew_80⟩
set_option maxRecDepth 100000 in
theorem yX7_startAnew_X5_tripOf : yX5_tripOf.cls = RX5 ∧ yX5_tripOf.cls ≠ "java/lang/invoke/MethodHandle" ∧ yX5_tripOf.cls ≠ "java/lang/invoke/VarHandle" ∧ (parseMethodDescriptor yX5_tripOf.desc).map (fun d => d.parameters.length) = some 2 := by decide +kernel
set_option maxRecDepth 100000 in
theorem lX7_startAnew_20 : Cond.fieldLink RX7 20 (TX7 4).1 (TX7 4).2.1 (TX7 4).2.2.1 ∈ wsX7_startAnew := by decide +kernel
set_option maxRecDepth 100000 in
theorem fX7_startAnew_20 : hd_F wsX7_startAnew RX7 vwCl 7 4 20 := ⟨RX7, TX7, 10, rfl, by decide, uX7_startAnew_X7, lX7_startAnew_20⟩
set_option maxRecDepth 100000 in
theorem yX7_startAnew_X7_shiftOf : yX7_shiftOf.cls ≠ "java/lang/invoke/MethodHandle" ∧ yX7_shiftOf.cls ≠ "java/lang/invoke/VarHandle" ∧ (parseMethodDescriptor yX7_shiftOf.desc).map (fun d => d.parameters.length) = some 1 := by decide +kernel
set_option maxRecDepth 100000 in
theorem lX7_startAnew_26 : Cond.fieldLink RX7 26 (TX7 6).1 (TX7 6).2.1 (TX7 6).2.2.1 ∈ wsX7_startAnew := by decide +kernel
set_option maxRecDepth 100000 in
theorem fX7_startAnew_26 : hd_F wsX7_startAnew RX7 vwCl 7 6 26 := ⟨RX7, TX7, 10, rfl, by decide, uX7_startAnew_X7, lX7_startAnew_26⟩
set_option maxRecDepth 100000 in
theorem lX7_startAnew_87 : Cond.fieldLink RX7 87 (TX5 2).1 (TX5 2).2.1 (TX5 2).2.2.1 ∈ wsX7_startAnew := by decide +kernel
set_option maxRecDepth 100000 in
theorem fX7_startAnew_87 : hd_F wsX7_startAnew RX7 vwCl 5 2 87 := ⟨RX5, TX5, 10, rfl, by decide, uX7_startAnew_X5, lX7_startAnew_87⟩
def wc_X7_startAnew_91 : hd_xC := (hd_cI (fun x y => decide (x < y)) (hd_iL 2) (hd_iG hs_sh 5 1 (hd_rG hs_sh 7 0 (hd_rL 0))))
def wb_X7_startAnew_91 : hd_xS := (hd_sQ (hd_sQ (hd_sJ 3 (hd_jH (fun x y => x <<< (y.toInt64 &&& 63)) (hd_jI (hd_iN (hd_nV hs_sh 5 (hd_rG hs_sh 7 0 (hd_rL 0)) 2 (hd_pI (hd_pI hd_v0 (hd_iL 2)) (hd_iL 1)) wm_X5_tripOf))) (hd_iK (24)))) (hd_sL hs_sh (hd_rG hs_sh 7 4 (hd_rL 0)) (hd_iB (fun x y => x + y) (hd_iB (fun x y => x * y) (hd_iL 2) (hd_iK (8))) (hd_iL 1)) (hd_jB (fun x y => x + y) (hd_jL 3) (hd_jH (fun x y => x <<< (y.toInt64 &&& 63)) (hd_jI (hd_iL 2)) (hd_iN (hd_nS 1 (hd_pI hd_v0 (hd_iL 1)) wm_X7_shiftOf)))))) (hd_sP 2 (1)))
def wc_X7_startAnew_144 : hd_xC := (hd_cI (fun x y => decide (x < y)) (hd_iL 2) (hd_iB (fun x y => x <<< (y &&& 31)) (hd_iK (1)) (hd_iL 1)))
def wb_X7_startAnew_144 : hd_xS := (hd_sQ (hd_sA hs_sh (hd_rG hs_sh 7 6 (hd_rL 0)) (hd_iB (fun x y => x ||| y) (hd_iL 2) (hd_iB (fun x y => x <<< (y &&& 31)) (hd_iK (1)) (hd_iL 1))) (hd_iB (fun x y => x + y) (hd_iA hs_sh (hd_rG hs_sh 7 6 (hd_rL 0)) (hd_iL 2)) (hd_iA hs_sh (hd_rG hs_sh 5 2 (hd_rG hs_sh 7 0 (hd_rL 0))) (hd_iL 1)))) (hd_sP 2 (1)))
def wc_X7_startAnew_78 : hd_xC := (hd_cI (fun x y => decide (x < y)) (hd_iL 1) (hd_iG hs_sh 5 0 (hd_rG hs_sh 7 0 (hd_rL 0))))
def wb_X7_startAnew_78 : hd_xS := (hd_sQ (hd_sQ (hd_sQ (hd_sI 2 (hd_iK (0))) (hd_sH (wc_X7_startAnew_91) (wb_X7_startAnew_91))) (hd_sQ (hd_sI 2 (hd_iK (0))) (hd_sH (wc_X7_startAnew_144) (wb_X7_startAnew_144)))) (hd_sP 1 (1)))
def wo_X7_startAnew : hd_xS := (hd_sQ (hd_sZ hs_sh 7 9 (hd_rL 0) (hd_iK (0))) (hd_sQ (hd_sF hs_sh 7 8 (hd_rL 0) (hd_iK (-1))) (hd_sQ (hd_sN (hd_nS 2 (hd_pJ (hd_pR hd_v0 (hd_rG hs_sh 7 2 (hd_rL 0))) (hd_jK (-2))) wm_J7_fill_d0a16)) (hd_sQ (hd_sL hs_sh (hd_rG hs_sh 7 2 (hd_rL 0)) (hd_iK (0)) (hd_jQ (hd_c0 (fun x => decide (x = 0)) (hd_iG hs_sh 5 0 (hd_rG hs_sh 7 0 (hd_rL 0)))) (hd_jK (0)) (hd_jK (1152921504606846976)))) (hd_sQ (hd_sN (hd_nS 2 (hd_pJ (hd_pR hd_v0 (hd_rA hs_sh 3 (hd_rG hs_sh 7 3 (hd_rL 0)) (hd_iG hs_sh 5 1 (hd_rG hs_sh 7 0 (hd_rL 0))))) (hd_jK (1152921504606846976))) wm_J7_fill_d0a16)) (hd_sQ (hd_sL hs_sh (hd_rA hs_sh 3 (hd_rG hs_sh 7 3 (hd_rL 0)) (hd_iG hs_sh 5 1 (hd_rG hs_sh 7 0 (hd_rL 0)))) (hd_iK (0)) (hd_jK (0))) (hd_sQ (hd_sQ (hd_sI 1 (hd_iK (0))) (hd_sH (wc_X7_startAnew_78) (wb_X7_startAnew_78))) hd_sRV)))))))
def wm_X7_startAnew : hd_M := hd_mth 5 wo_X7_startAnew
set_option maxHeartbeats 4000000 in
set_option maxRecDepth 100000 in
theorem snd_X7_startAnew : hd_Snd vwCl hs_sh yX7_startAnew wsX7_startAnew 2 wm_X7_startAnew := hd_method (by decide) rfl rfl (by decide) (fun κ C Rk => (hd_seq (p1 := 5) (hd_sputZ C (p1 := 1) (p2 := 2) qX7_startAnew_37 (hd_aload_n C (kk0 := 0) dX7_startAnew_0) (hd_iconst C dX7_startAnew_1 (by decide)) dX7_startAnew_2) (hd_seq (p1 := 10) (hd_sputI C (p1 := 6) (p2 := 7) qX7_startAnew_33 (hd_aload_n C (kk0 := 0) dX7_startAnew_5) (hd_iconst C dX7_startAnew_6 (by decide)) dX7_startAnew_7) (hd_seq (p1 := 20) (hd_scall (hd_invS C (p2 := 17) snd_J7_fill_d0a16 hw_J7_fill_d0a16 gX7_startAnew_J7_fill_d0a16 yX7_startAnew_J7_fill_d0a16 ⟨by decide, by decide⟩ (by decide) (hd_apJ (p1 := 14) (p2 := 17) (hd_apR (p1 := 10) (p2 := 14) hd_av0 (hd_getR C (p1 := 11) fX7_startAnew_11 (hd_aload_n C (kk0 := 0) dX7_startAnew_10) dX7_startAnew_11)) (hd_ldc2 C wX7_startAnew_7 dX7_startAnew_14)) dX7_startAnew_17)) (hd_seq (p1 := 43) (hd_slast C (p1 := 24) (p2 := 25) (p3 := 42) (hd_getR C (p1 := 21) fX7_startAnew_11 (hd_aload_n C (kk0 := 0) dX7_startAnew_20) dX7_startAnew_21) (hd_iconst C dX7_startAnew_24 (by decide)) (hd_tnJ C (p1 := 35) (p2 := 36) (p3 := 39) (p4 := 42) (hd_z_eqF C (p2 := 32) (tgt := 39) (hd_getI C (p1 := 29) fX7_startAnew_75 (hd_getR C (p1 := 26) fX7_startAnew_41 (hd_aload_n C (kk0 := 0) dX7_startAnew_25) dX7_startAnew_26) dX7_startAnew_29) dX7_startAnew_32 (by decide)) (hd_lconst C dX7_startAnew_35 (by decide)) dX7_startAnew_36 (by decide) (hd_ldc2 C wX7_startAnew_14 dX7_startAnew_39)) dX7_startAnew_42) (hd_seq (p1 := 61) (hd_scall (hd_invS C (p2 := 58) snd_J7_fill_d0a16 hw_J7_fill_d0a16 gX7_startAnew_J7_fill_d0a16 yX7_startAnew_J7_fill_d0a16 ⟨by decide, by decide⟩ (by decide) (hd_apJ (p1 := 55) (p2 := 58) (hd_apR (p1 := 43) (p2 := 55) hd_av0 (hd_aald3 C (p1 := 47) (p2 := 54) (hd_getR C (p1 := 44) fX7_startAnew_17 (hd_aload_n C (kk0 := 0) dX7_startAnew_43) dX7_startAnew_44) (hd_getI C (p1 := 51) fX7_startAnew_80 (hd_getR C (p1 := 48) fX7_startAnew_41 (hd_aload_n C (kk0 := 0) dX7_startAnew_47) dX7_startAnew_48) dX7_startAnew_51) dX7_startAnew_54)) (hd_ldc2 C wX7_startAnew_14 dX7_startAnew_55)) dX7_startAnew_58)) (hd_seq (p1 := 76) (hd_slast C (p1 := 73) (p2 := 74) (p3 := 75) (hd_aald3 C (p1 := 65) (p2 := 72) (hd_getR C (p1 := 62) fX7_startAnew_17 (hd_aload_n C (kk0 := 0) dX7_startAnew_61) dX7_startAnew_62) (hd_getI C (p1 := 69) fX7_startAnew_80 (hd_getR C (p1 := 66) fX7_startAnew_41 (hd_aload_n C (kk0 := 0) dX7_startAnew_65) dX7_startAnew_66) dX7_startAnew_69) dX7_startAnew_72) (hd_iconst C dX7_startAnew_73 (by decide)) (hd_lconst C dX7_startAnew_74 (by decide)) dX7_startAnew_75) (hd_seq (p1 := 189) (hd_seq (p1 := 78) (hd_sistore_n C (kk0 := 1) (p1 := 77) (hd_iconst C dX7_startAnew_76 (by decide)) dX7_startAnew_77 (by decide)) (hd_loop C (p1 := 89) (p2 := 189) (hd_c_ltF C (p1 := 79) (p2 := 86) (tgt := 189) (hd_iload_n C (kk0 := 1) dX7_startAnew_78) (hd_getI C (p1 := 83) fX7_startAnew_75 (hd_getR C (p1 := 80) fX7_startAnew_41 (hd_aload_n C (kk0 := 0) dX7_startAnew_79) dX7_startAnew_80) dX7_startAnew_83) dX7_startAnew_86 (by decide)) (hd_seq (p1 := 183) (hd_seq (p1 := 142) (hd_seq (p1 := 91) (hd_sistore_n C (kk0 := 2) (p1 := 90) (hd_iconst C dX7_startAnew_89 (by decide)) dX7_startAnew_90 (by decide)) (hd_loop C (p1 := 102) (p2 := 142) (hd_c_ltF C (p1 := 92) (p2 := 99) (tgt := 142) (hd_iload_n C (kk0 := 2) dX7_startAnew_91) (hd_getI C (p1 := 96) fX7_startAnew_80 (hd_getR C (p1 := 93) fX7_startAnew_41 (hd_aload_n C (kk0 := 0) dX7_startAnew_92) dX7_startAnew_93) dX7_startAnew_96) dX7_startAnew_99 (by decide)) (hd_seq (p1 := 136) (hd_seq (p1 := 116) (hd_slstore_n C (kk0 := 3) (p1 := 115) (hd_lshl C (p1 := 112) (p2 := 114) (hd_i2l C (p1 := 111) (hd_inI (hd_invV C (p1 := 106) (p2 := 108) snd_X5_tripOf hw_X5_tripOf gX7_startAnew_X5_tripOf hs_c_5 yX7_startAnew_X5_tripOf ⟨by decide, by decide⟩ (by decide) (hd_getR C (p1 := 103) fX7_startAnew_41 (hd_aload_n C (kk0 := 0) dX7_startAnew_102) dX7_startAnew_103) (hd_apI (p1 := 107) (p2 := 108) (hd_apI (p1 := 106) (p2 := 107) hd_av0 (hd_iload_n C (kk0 := 2) dX7_startAnew_106)) (hd_iload_n C (kk0 := 1) dX7_startAnew_107)) dX7_startAnew_108)) dX7_startAnew_111) (hd_bipush C dX7_startAnew_112 (by decide)) dX7_startAnew_114) dX7_startAnew_115 (by decide)) (hd_slast C (p1 := 120) (p2 := 126) (p3 := 135) (hd_getR C (p1 := 117) fX7_startAnew_20 (hd_aload_n C (kk0 := 0) dX7_startAnew_116) dX7_startAnew_117) (hd_iadd C (p1 := 124) (p2 := 125) (hd_imul C (p1 := 121) (p2 := 123) (hd_iload_n C (kk0 := 2) dX7_startAnew_120) (hd_bipush C dX7_startAnew_121 (by decide)) dX7_startAnew_123) (hd_iload_n C (kk0 := 1) dX7_startAnew_124) dX7_startAnew_125) (hd_ladd C (p1 := 127) (p2 := 134) (hd_lload_n C (kk0 := 3) dX7_startAnew_126) (hd_lshl C (p1 := 129) (p2 := 133) (hd_i2l C (p1 := 128) (hd_iload_n C (kk0 := 2) dX7_startAnew_127) dX7_startAnew_128) (hd_inI (hd_invS C (p2 := 130) snd_X7_shiftOf hw_X7_shiftOf gX7_startAnew_X7_shiftOf yX7_startAnew_X7_shiftOf ⟨by decide, by decide⟩ (by decide) (hd_apI (p1 := 129) (p2 := 130) hd_av0 (hd_iload_n C (kk0 := 1) dX7_startAnew_129)) dX7_startAnew_130)) dX7_startAnew_133) dX7_startAnew_134) dX7_startAnew_135)) (hd_sgoto C (p1 := 139) (tgt := 91) (hd_ends (es := [139]) (by decide) (hd_siinc C dX7_startAnew_136 (by decide) (by decide))) dX7_startAnew_139 (by decide) (by decide))) (by decide))) (hd_seq (p1 := 144) (hd_sistore_n C (kk0 := 2) (p1 := 143) (hd_iconst C dX7_startAnew_142 (by decide)) dX7_startAnew_143 (by decide)) (hd_loop C (p1 := 151) (p2 := 183) (hd_c_ltF C (p1 := 145) (p2 := 148) (tgt := 183) (hd_iload_n C (kk0 := 2) dX7_startAnew_144) (hd_ishl C (p1 := 146) (p2 := 147) (hd_iconst C dX7_startAnew_145 (by decide)) (hd_iload_n C (kk0 := 1) dX7_startAnew_146) dX7_startAnew_147) dX7_startAnew_148 (by decide)) (hd_seq (p1 := 177) (hd_siast C (p1 := 155) (p2 := 160) (p3 := 176) (hd_getR C (p1 := 152) fX7_startAnew_26 (hd_aload_n C (kk0 := 0) dX7_startAnew_151) dX7_startAnew_152) (hd_ior C (p1 := 156) (p2 := 159) (hd_iload_n C (kk0 := 2) dX7_startAnew_155) (hd_ishl C (p1 := 157) (p2 := 158) (hd_iconst C dX7_startAnew_156 (by decide)) (hd_iload_n C (kk0 := 1) dX7_startAnew_157) dX7_startAnew_158) dX7_startAnew_159) (hd_iadd C (p1 := 166) (p2 := 175) (hd_iald C (p1 := 164) (p2 := 165) (hd_getR C (p1 := 161) fX7_startAnew_26 (hd_aload_n C (kk0 := 0) dX7_startAnew_160) dX7_startAnew_161) (hd_iload_n C (kk0 := 2) dX7_startAnew_164) dX7_startAnew_165) (hd_iald C (p1 := 173) (p2 := 174) (hd_getR C (p1 := 170) fX7_startAnew_87 (hd_getR C (p1 := 167) fX7_startAnew_41 (hd_aload_n C (kk0 := 0) dX7_startAnew_166) dX7_startAnew_167) dX7_startAnew_170) (hd_iload_n C (kk0 := 1) dX7_startAnew_173) dX7_startAnew_174) dX7_startAnew_175) dX7_startAnew_176) (hd_sgoto C (p1 := 180) (tgt := 144) (hd_ends (es := [180]) (by decide) (hd_siinc C dX7_startAnew_177 (by decide) (by decide))) dX7_startAnew_180 (by decide) (by decide))) (by decide)))) (hd_sgoto C (p1 := 186) (tgt := 78) (hd_ends (es := [186]) (by decide) (hd_siinc C dX7_startAnew_183 (by decide) (by decide))) dX7_startAnew_186 (by decide) (by decide))) (by decide))) (hd_retV C Rk dX7_startAnew_189)))))))))
/-! X8_about -/
theorem hw_X8_about : wsX8_about = Cond.code yX8_about cX8_about 4 (some .int) :: wsX8_about.tail := rfl
set_option maxRecDepth 100000 in
theorem uX8_about_X8 : ∀ w ∈ u_ws RX8 TX8 9, w ∈ wsX8_about := by decide +kernel
set_option maxRecDepth 100000 in
theorem lX8_about_12 : Cond.fieldLink RX8 12 (TX8 0).1 (TX8 0).2.1 (TX8 0).2.2.1 ∈ wsX8_about := by decide +kernel
set_option maxRecDepth 100000 in
theorem fX8_about_12 : hd_F wsX8_about RX8 vwCl 8 0 12 := ⟨RX8, TX8, 9, rfl, by decide, uX8_about_X8, lX8_about_12⟩
set_option maxRecDepth 100000 in
theorem yX8_about_X5_hasTown : yX5_hasTown.cls = RX5 ∧ yX5_hasTown.cls ≠ "java/lang/invoke/MethodHandle" ∧ yX5_hasTown.cls ≠ "java/lang/invoke/VarHandle" ∧ (parseMethodDescriptor yX5_hasTown.desc).map (fun d => d.parameters.length) = some 1 := by decide +kernel
set_option maxRecDepth 100000 in
theorem yX8_about_X8_aboutTown : yX8_aboutTown.cls = RX8 ∧ yX8_aboutTown.cls ≠ "java/lang/invoke/MethodHandle" ∧ yX8_aboutTown.cls ≠ "java/lang/invoke/VarHandle" ∧ (parseMethodDescriptor yX8_aboutTown.desc).map (fun d => d.parameters.length) = some 2 := by decide +kernel
set_option maxRecDepth 100000 in
theorem yX8_about_X5_hasHall : yX5_hasHall.cls = RX5 ∧ yX5_hasHall.cls ≠ "java/lang/invoke/MethodHandle" ∧ yX5_hasHall.cls ≠ "java/lang/invoke/VarHandle" ∧ (parseMethodDescriptor yX5_hasHall.desc).map (fun d => d.parameters.length) = some 1 := by decide +kernel
set_option maxRecDepth 100000 in
theorem yX8_about_X8_aboutHall : yX8_aboutHall.cls = RX8 ∧ yX8_aboutHall.cls ≠ "java/lang/invoke/MethodHandle" ∧ yX8_aboutHall.cls ≠ "java/lang/invoke/VarHandle" ∧ (parseMethodDescriptor yX8_aboutHall.desc).map (fun d => d.parameters.length) = some 2 := by decide +kernel
def wo_X8_about : hd_xS := (hd_sQ (hd_sW (hd_cA (hd_c0 (fun x => decide (x = 0)) (hd_iL 1)) (hd_c0 (fun x => !decide (x = 0)) (hd_iN (hd_nV hs_sh 5 (hd_rG hs_sh 8 0 (hd_rL 0)) 1 (hd_pI hd_v0 (hd_iL 2)) wm_X5_hasTown)))) (hd_sRI (hd_iN (hd_nV hs_sh 8 (hd_rL 0) 2 (hd_pI (hd_pI hd_v0 (hd_iL 2)) (hd_iL 3)) wm_X8_aboutTown)))) (hd_sQ (hd_sW (hd_cA (hd_cI (fun x y => decide (x = y)) (hd_iL 1) (hd_iK (1))) (hd_c0 (fun x => !decide (x = 0)) (hd_iN (hd_nV hs_sh 5 (hd_rG hs_sh 8 0 (hd_rL 0)) 1 (hd_pI hd_v0 (hd_iL 2)) wm_X5_hasHall)))) (hd_sRI (hd_iN (hd_nV hs_sh 8 (hd_rL 0) 2 (hd_pI (hd_pI hd_v0 (hd_iL 2)) (hd_iL 3)) wm_X8_aboutHall)))) (hd_sRI (hd_iK (-3)))))
def wm_X8_about : hd_M := hd_mth 4 wo_X8_about
set_option maxHeartbeats 4000000 in
set_option maxRecDepth 100000 in
theorem snd_X8_about : hd_Snd vwCl hs_sh yX8_about wsX8_about 2 wm_X8_about := hd_method (by decide) rfl rfl (by decide) (fun κ C Rk => (hd_seq (p1 := 22) (hd_if (p1 := 15) (p2 := 22) (hd_and (p1 := 4) (p2 := 15) (p3 := 22) (hd_z_eqF C (p2 := 1) (tgt := 22) (hd_iload_n C (kk0 := 1) dX8_about_0) dX8_about_1 (by decide)) (hd_z_neF C (p2 := 12) (tgt := 22) (hd_inI (hd_invV C (p1 := 8) (p2 := 9) snd_X5_hasTown hw_X5_hasTown gX8_about_X5_hasTown hs_c_5 yX8_about_X5_hasTown ⟨by decide, by decide⟩ (by decide) (hd_getR C (p1 := 5) fX8_about_12 (hd_aload_n C (kk0 := 0) dX8_about_4) dX8_about_5) (hd_apI (p1 := 8) (p2 := 9) hd_av0 (hd_iload_n C (kk0 := 2) dX8_about_8)) dX8_about_9)) dX8_about_12 (by decide))) (hd_retI C Rk (p1 := 21) (hd_inI (hd_invV C (p1 := 16) (p2 := 18) snd_X8_aboutTown hw_X8_aboutTown gX8_about_X8_aboutTown hs_c_8 yX8_about_X8_aboutTown ⟨by decide, by decide⟩ (by decide) (hd_aload_n C (kk0 := 0) dX8_about_15) (hd_apI (p1 := 17) (p2 := 18) (hd_apI (p1 := 16) (p2 := 17) hd_av0 (hd_iload_n C (kk0 := 2) dX8_about_16)) (hd_iload_n C (kk0 := 3) dX8_about_17)) dX8_about_18)) dX8_about_21) (by decide)) (hd_seq (p1 := 45) (hd_if (p1 := 38) (p2 := 45) (hd_and (p1 := 27) (p2 := 38) (p3 := 45) (hd_c_eqF C (p1 := 23) (p2 := 24) (tgt := 45) (hd_iload_n C (kk0 := 1) dX8_about_22) (hd_iconst C dX8_about_23 (by decide)) dX8_about_24 (by decide)) (hd_z_neF C (p2 := 35) (tgt := 45) (hd_inI (hd_invV C (p1 := 31) (p2 := 32) snd_X5_hasHall hw_X5_hasHall gX8_about_X5_hasHall hs_c_5 yX8_about_X5_hasHall ⟨by decide, by decide⟩ (by decide) (hd_getR C (p1 := 28) fX8_about_12 (hd_aload_n C (kk0 := 0) dX8_about_27) dX8_about_28) (hd_apI (p1 := 31) (p2 := 32) hd_av0 (hd_iload_n C (kk0 := 2) dX8_about_31)) dX8_about_32)) dX8_about_35 (by decide))) (hd_retI C Rk (p1 := 44) (hd_inI (hd_invV C (p1 := 39) (p2 := 41) snd_X8_aboutHall hw_X8_aboutHall gX8_about_X8_aboutHall hs_c_8 yX8_about_X8_aboutHall ⟨by decide, by decide⟩ (by decide) (hd_aload_n C (kk0 := 0) dX8_about_38) (hd_apI (p1 := 40) (p2 := 41) (hd_apI (p1 := 39) (p2 := 40) hd_av0 (hd_iload_n C (kk0 := 2) dX8_about_39)) (hd_iload_n C (kk0 := 3) dX8_about_40)) dX8_about_41)) dX8_about_44) (by decide)) (hd_retI C Rk (p1 := 47) (hd_bipush C dX8_about_45 (by decide)) dX8_about_47))))
/-! X8_claim -/
theorem hw_X8_claim : wsX8_claim = Cond.code yX8_claim cX8_claim 4 (some .int) :: wsX8_claim.tail := rfl
set_option maxRecDepth 100000 in
theorem uX8_claim_X8 : ∀ w ∈ u_ws RX8 TX8 9, w ∈ wsX8_claim := by decide +kernel
set_option maxRecDepth 100000 in
theorem lX8_claim_12 : Cond.fieldLink RX8 12 (TX8 0).1 (TX8 0).2.1 (TX8 0).2.2.1 ∈ wsX8_claim := by decide +kernel
set_option maxRecDepth 100000 in
theorem fX8_claim_12 : hd_F wsX8_claim RX8 vwCl 8 0 12 := ⟨RX8, TX8, 9, rfl, by decide, uX8_claim_X8, lX8_claim_12⟩
set_option maxRecDepth 100000 in
theorem yX8_claim_X5_hasTown : yX5_hasTown.cls = RX5 ∧ yX5_hasTown.cls ≠ "java/lang/invoke/MethodHandle" ∧ yX5_hasTown.cls ≠ "java/lang/invoke/VarHandle" ∧ (parseMethodDescriptor yX5_hasTown.desc).map (fun d => d.parameters.length) = some 1 := by decide +kernel
set_option maxRecDepth 100000 in
theorem wX8_claim_4 : Cond.constant RX8 222 (1000000) ∈ wsX8_claim := by decide +kernel
set_option maxRecDepth 100000 in
theorem yX8_claim_X8_within : yX8_within.cls ≠ "java/lang/invoke/MethodHandle" ∧ yX8_within.cls ≠ "java/lang/invoke/VarHandle" ∧ (parseMethodDescriptor yX8_within.desc).map (fun d => d.parameters.length) = some 3 := by decide +kernel
set_option maxRecDepth 100000 in
theorem lX8_claim_53 : Cond.fieldLink RX8 53 (TX8 5).1 (TX8 5).2.1 (TX8 5).2.2.1 ∈ wsX8_claim := by decide +kernel
set_option maxRecDepth 100000 in
theorem fX8_claim_53 : hd_F wsX8_claim RX8 vwCl 8 5 53 := ⟨RX8, TX8, 9, rfl, by decide, uX8_claim_X8, lX8_claim_53⟩
set_option maxRecDepth 100000 in
theorem uX8_claim_X0 : ∀ w ∈ u_ws RX0 TX0 3, w ∈ wsX8_claim := by decide +kernel
set_option maxRecDepth 100000 in
theorem lX8_claim_223 : Cond.fieldLink RX8 223 (TX0 1).1 (TX0 1).2.1 (TX0 1).2.2.1 ∈ wsX8_claim := by decide +kernel
set_option maxRecDepth 100000 in
theorem fX8_claim_223 : hd_F wsX8_claim RX8 vwCl 0 1 223 := ⟨RX0, TX0, 3, rfl, by decide, uX8_claim_X0, lX8_claim_223⟩
def wo_X8_claim : hd_xS := (hd_sQ (hd_sW (hd_cO (hd_cX (hd_c0 (fun x => !decide (x = 0)) (hd_iN (hd_nV hs_sh 5 (hd_rG hs_sh 8 0 (hd_rL 0)) 1 (hd_pI hd_v0 (hd_iL 1)) wm_X5_hasTown)))) (hd_cX (hd_c0 (fun x => !decide (x = 0)) (hd_iN (hd_nS 3 (hd_pI (hd_pI (hd_pI hd_v0 (hd_iL 2)) (hd_iK (0))) (hd_iK (1000000))) wm_X8_within))))) (hd_sRI (hd_iK (-3)))) (hd_sQ (hd_sI 3 (hd_iA hs_sh (hd_rG hs_sh 0 1 (hd_rG hs_sh 8 5 (hd_rL 0))) (hd_iL 1))) (hd_sQ (hd_sA hs_sh (hd_rG hs_sh 0 1 (hd_rG hs_sh 8 5 (hd_rL 0))) (hd_iL 1) (hd_iL 2)) (hd_sRI (hd_iL 3)))))
def wm_X8_claim : hd_M := hd_mth 4 wo_X8_claim
set_option maxHeartbeats 4000000 in
set_option maxRecDepth 100000 in
theorem snd_X8_claim : hd_Snd vwCl hs_sh yX8_claim wsX8_claim 2 wm_X8_claim := hd_method (by decide) rfl rfl (by decide) (fun κ C Rk => (hd_seq (p1 := 24) (hd_if (p1 := 21) (p2 := 24) (hd_or (p1 := 11) (p2 := 21) (p3 := 24) (hd_not (hd_z_neF C (p2 := 8) (tgt := 21) (hd_inI (hd_invV C (p1 := 4) (p2 := 5) snd_X5_hasTown hw_X5_hasTown gX8_claim_X5_hasTown hs_c_5 yX8_claim_X5_hasTown ⟨by decide, by decide⟩ (by decide) (hd_getR C (p1 := 1) fX8_claim_12 (hd_aload_n C (kk0 := 0) dX8_claim_0) dX8_claim_1) (hd_apI (p1 := 4) (p2 := 5) hd_av0 (hd_iload_n C (kk0 := 1) dX8_claim_4)) dX8_claim_5)) dX8_claim_8 (by decide))) (hd_not (hd_z_neT C (p2 := 18) (tgt := 24) (hd_inI (hd_invS C (p2 := 15) snd_X8_within hw_X8_within gX8_claim_X8_within yX8_claim_X8_within ⟨by decide, by decide⟩ (by decide) (hd_apI (p1 := 13) (p2 := 15) (hd_apI (p1 := 12) (p2 := 13) (hd_apI (p1 := 11) (p2 := 12) hd_av0 (hd_iload_n C (kk0 := 2) dX8_claim_11)) (hd_iconst C dX8_claim_12 (by decide))) (hd_ldc C wX8_claim_4 dX8_claim_13)) dX8_claim_15)) dX8_claim_18 (by decide)))) (hd_retI C Rk (p1 := 23) (hd_bipush C dX8_claim_21 (by decide)) dX8_claim_23) (by decide)) (hd_seq (p1 := 34) (hd_sistore_n C (kk0 := 3) (p1 := 33) (hd_iald C (p1 := 31) (p2 := 32) (hd_getR C (p1 := 28) fX8_claim_223 (hd_getR C (p1 := 25) fX8_claim_53 (hd_aload_n C (kk0 := 0) dX8_claim_24) dX8_claim_25) dX8_claim_28) (hd_iload_n C (kk0 := 1) dX8_claim_31) dX8_claim_32) dX8_claim_33 (by decide)) (hd_seq (p1 := 44) (hd_siast C (p1 := 41) (p2 := 42) (p3 := 43) (hd_getR C (p1 := 38) fX8_claim_223 (hd_getR C (p1 := 35) fX8_claim_53 (hd_aload_n C (kk0 := 0) dX8_claim_34) dX8_claim_35) dX8_claim_38) (hd_iload_n C (kk0 := 1) dX8_claim_41) (hd_iload_n C (kk0 := 2) dX8_claim_42) dX8_claim_43) (hd_retI C Rk (p1 := 45) (hd_iload_n C (kk0 := 3) dX8_claim_44) dX8_claim_45)))))
/-! X8_claimed -/
theorem hw_X8_claimed : wsX8_claimed = Cond.code yX8_claimed cX8_claimed 2 (some .int) :: wsX8_claimed.tail := rfl
set_option maxRecDepth 100000 in
theorem uX8_claimed_X8 : ∀ w ∈ u_ws RX8 TX8 9, w ∈ wsX8_claimed := by decide +kernel
set_option maxRecDepth 100000 in
theorem lX8_claimed_12 : Cond.fieldLink RX8 12 (TX8 0).1 (TX8 0).2.1 (TX8 0).2.2.1 ∈ wsX8_claimed := by decide +kernel
set_option maxRecDepth 100000 in
theorem fX8_claimed_12 : hd_F wsX8_claimed RX8 vwCl 8 0 12 := ⟨RX8, TX8, 9, rfl, by decide, uX8_claimed_X8, lX8_claimed_12⟩
set_option maxRecDepth 100000 in
theorem yX8_claimed_X5_hasTown : yX5_hasTown.cls = RX5 ∧ yX5_hasTown.cls ≠ "java/lang/invoke/MethodHandle" ∧ yX5_hasTown.cls ≠ "java/lang/invoke/VarHandle" ∧ (parseMethodDescriptor yX5_hasTown.desc).map (fun d => d.parameters.length) = some 1 := by decide +kernel
set_option maxRecDepth 100000 in
theorem lX8_claimed_53 : Cond.fieldLink RX8 53 (TX8 5).1 (TX8 5).2.1 (TX8 5).2.2.1 ∈ wsX8_claimed := by decide +kernel
set_option maxRecDepth 100000 in
theorem fX8_claimed_53 : hd_F wsX8_claimed RX8 vwCl 8 5 53 := ⟨RX8, TX8, 9, rfl, by decide, uX8_claimed_X8, lX8_claimed_53⟩
set_option maxRecDepth 100000 in
theorem uX8_claimed_X0 : ∀ w ∈ u_ws RX0 TX0 3, w ∈ wsX8_claimed := by decide +kernel
set_option maxRecDepth 100000 in
theorem lX8_claimed_223 : Cond.fieldLink RX8 223 (TX0 1).1 (TX0 1).2.1 (TX0 1).2.2.1 ∈ wsX8_claimed := by decide +kernel
set_option maxRecDepth 100000 in
theorem fX8_claimed_223 : hd_F wsX8_claimed RX8 vwCl 0 1 223 := ⟨RX0, TX0, 3, rfl, by decide, uX8_claimed_X0, lX8_claimed_223⟩
def wo_X8_claimed : hd_xS := (hd_sRI (hd_iQ (hd_c0 (fun x => !decide (x = 0)) (hd_iN (hd_nV hs_sh 5 (hd_rG hs_sh 8 0 (hd_rL 0)) 1 (hd_pI hd_v0 (hd_iL 1)) wm_X5_hasTown))) (hd_iA hs_sh (hd_rG hs_sh 0 1 (hd_rG hs_sh 8 5 (hd_rL 0))) (hd_iL 1)) (hd_iK (-3))))
def wm_X8_claimed : hd_M := hd_mth 2 wo_X8_claimed
set_option maxHeartbeats 4000000 in
set_option maxRecDepth 100000 in
theorem snd_X8_claimed : hd_Snd vwCl hs_sh yX8_claimed wsX8_claimed 2 wm_X8_claimed := hd_method (by decide) rfl rfl (by decide) (fun κ C Rk => (hd_retI C Rk (p1 := 25) (hd_tnI C (p1 := 11) (p2 := 20) (p3 := 23) (p4 := 25) (hd_z_neF C (p2 := 8) (tgt := 23) (hd_inI (hd_invV C (p1 := 4) (p2 := 5) snd_X5_hasTown hw_X5_hasTown gX8_claimed_X5_hasTown hs_c_5 yX8_claimed_X5_hasTown ⟨by decide, by decide⟩ (by decide) (hd_getR C (p1 := 1) fX8_claimed_12 (hd_aload_n C (kk0 := 0) dX8_claimed_0) dX8_claimed_1) (hd_apI (p1 := 4) (p2 := 5) hd_av0 (hd_iload_n C (kk0 := 1) dX8_claimed_4)) dX8_claimed_5)) dX8_claimed_8 (by decide)) (hd_iald C (p1 := 18) (p2 := 19) (hd_getR C (p1 := 15) fX8_claimed_223 (hd_getR C (p1 := 12) fX8_claimed_53 (hd_aload_n C (kk0 := 0) dX8_claimed_11) dX8_claimed_12) dX8_claimed_15) (hd_iload_n C (kk0 := 1) dX8_claimed_18) dX8_claimed_19) dX8_claimed_20 (by decide) (hd_bipush C dX8_claimed_23 (by decide))) dX8_claimed_25))
/-! X8_far -/
theorem hw_X8_far : wsX8_far = Cond.code yX8_far cX8_far 3 (some .int) :: wsX8_far.tail := rfl
set_option maxRecDepth 100000 in
theorem uX8_far_X8 : ∀ w ∈ u_ws RX8 TX8 9, w ∈ wsX8_far := by decide +kernel
set_option maxRecDepth 100000 in
theorem lX8_far_12 : Cond.fieldLink RX8 12 (TX8 0).1 (TX8 0).2.1 (TX8 0).2.2.1 ∈ wsX8_far := by decide +kernel
set_option maxRecDepth 100000 in
theorem fX8_far_12 : hd_F wsX8_far RX8 vwCl 8 0 12 := ⟨RX8, TX8, 9, rfl, by decide, uX8_far_X8, lX8_far_12⟩
set_option maxRecDepth 100000 in
theorem yX8_far_X5_hasHall : yX5_hasHall.cls = RX5 ∧ yX5_hasHall.cls ≠ "java/lang/invoke/MethodHandle" ∧ yX5_hasHall.cls ≠ "java/lang/invoke/VarHandle" ∧ (parseMethodDescriptor yX5_hasHall.desc).map (fun d => d.parameters.length) = some 1 := by decide +kernel
set_option maxRecDepth 100000 in
theorem yX8_far_X5_hasTown : yX5_hasTown.cls = RX5 ∧ yX5_hasTown.cls ≠ "java/lang/invoke/MethodHandle" ∧ yX5_hasTown.cls ≠ "java/lang/invoke/VarHandle" ∧ (parseMethodDescriptor yX5_hasTown.desc).map (fun d => d.parameters.length) = some 1 := by decide +kernel
set_option maxRecDepth 100000 in
theorem yX8_far_X5_wayOf : yX5_wayOf.cls = RX5 ∧ yX5_wayOf.cls ≠ "java/lang/invoke/MethodHandle" ∧ yX5_wayOf.cls ≠ "java/lang/invoke/VarHandle" ∧ (parseMethodDescriptor yX5_wayOf.desc).map (fun d => d.parameters.length) = some 2 := by decide +kernel
def wo_X8_far : hd_xS := (hd_sQ (hd_sW (hd_cO (hd_cX (hd_c0 (fun x => !decide (x = 0)) (hd_iN (hd_nV hs_sh 5 (hd_rG hs_sh 8 0 (hd_rL 0)) 1 (hd_pI hd_v0 (hd_iL 1)) wm_X5_hasHall)))) (hd_cX (hd_c0 (fun x => !decide (x = 0)) (hd_iN (hd_nV hs_sh 5 (hd_rG hs_sh 8 0 (hd_rL 0)) 1 (hd_pI hd_v0 (hd_iL 2)) wm_X5_hasTown))))) (hd_sRI (hd_iK (-3)))) (hd_sRI (hd_iN (hd_nV hs_sh 5 (hd_rG hs_sh 8 0 (hd_rL 0)) 2 (hd_pI (hd_pI hd_v0 (hd_iL 1)) (hd_iL 2)) wm_X5_wayOf))))
def wm_X8_far : hd_M := hd_mth 3 wo_X8_far
set_option maxHeartbeats 4000000 in
set_option maxRecDepth 100000 in
theorem snd_X8_far : hd_Snd vwCl hs_sh yX8_far wsX8_far 2 wm_X8_far := hd_method (by decide) rfl rfl (by decide) (fun κ C Rk => (hd_seq (p1 := 25) (hd_if (p1 := 22) (p2 := 25) (hd_or (p1 := 11) (p2 := 22) (p3 := 25) (hd_not (hd_z_neF C (p2 := 8) (tgt := 22) (hd_inI (hd_invV C (p1 := 4) (p2 := 5) snd_X5_hasHall hw_X5_hasHall gX8_far_X5_hasHall hs_c_5 yX8_far_X5_hasHall ⟨by decide, by decide⟩ (by decide) (hd_getR C (p1 := 1) fX8_far_12 (hd_aload_n C (kk0 := 0) dX8_far_0) dX8_far_1) (hd_apI (p1 := 4) (p2 := 5) hd_av0 (hd_iload_n C (kk0 := 1) dX8_far_4)) dX8_far_5)) dX8_far_8 (by decide))) (hd_not (hd_z_neT C (p2 := 19) (tgt := 25) (hd_inI (hd_invV C (p1 := 15) (p2 := 16) snd_X5_hasTown hw_X5_hasTown gX8_far_X5_hasTown hs_c_5 yX8_far_X5_hasTown ⟨by decide, by decide⟩ (by decide) (hd_getR C (p1 := 12) fX8_far_12 (hd_aload_n C (kk0 := 0) dX8_far_11) dX8_far_12) (hd_apI (p1 := 15) (p2 := 16) hd_av0 (hd_iload_n C (kk0 := 2) dX8_far_15)) dX8_far_16)) dX8_far_19 (by decide)))) (hd_retI C Rk (p1 := 24) (hd_bipush C dX8_far_22 (by decide)) dX8_far_24) (by decide)) (hd_retI C Rk (p1 := 34) (hd_inI (hd_invV C (p1 := 29) (p2 := 31) snd_X5_wayOf hw_X5_wayOf gX8_far_X5_wayOf hs_c_5 yX8_far_X5_wayOf ⟨by decide, by decide⟩ (by decide) (hd_getR C (p1 := 26) fX8_far_12 (hd_aload_n C (kk0 := 0) dX8_far_25) dX8_far_26) (hd_apI (p1 := 30) (p2 := 31) (hd_apI (p1 := 29) (p2 := 30) hd_av0 (hd_iload_n C (kk0 := 1) dX8_far_29)) (hd_iload_n C (kk0 := 2) dX8_far_30)) dX8_far_31)) dX8_far_34)))
/-! X8_forgetAnswers -/
theorem hw_X8_forgetAnswers : wsX8_forgetAnswers = Cond.code yX8_forgetAnswers cX8_forgetAnswers 1 none :: wsX8_forgetAnswers.tail := rfl
set_option maxRecDepth 100000 in
theorem uX8_forgetAnswers_X8 : ∀ w ∈ u_ws RX8 TX8 9, w ∈ wsX8_forgetAnswers := by decide +kernel
set_option maxRecDepth 100000 in
theorem lX8_forgetAnswers_28 : Cond.fieldLink RX8 28 (TX8 2).1 (TX8 2).2.1 (TX8 2).2.2.1 ∈ wsX8_forgetAnswers := by decide +kernel
set_option maxRecDepth 100000 in
theorem fX8_forgetAnswers_28 : hd_F wsX8_forgetAnswers RX8 vwCl 8 2 28 := ⟨RX8, TX8, 9, rfl, by decide, uX8_forgetAnswers_X8, lX8_forgetAnswers_28⟩
set_option maxRecDepth 100000 in
theorem yX8_forgetAnswers_X6_forget : yX6_forget.cls = RX6 ∧ yX6_forget.cls ≠ "java/lang/invoke/MethodHandle" ∧ yX6_forget.cls ≠ "java/lang/invoke/VarHandle" ∧ (parseMethodDescriptor yX6_forget.desc).map (fun d => d.parameters.length) = some 0 := by decide +kernel
set_option maxRecDepth 100000 in
theorem lX8_forgetAnswers_37 : Cond.fieldLink RX8 37 (TX8 3).1 (TX8 3).2.1 (TX8 3).2.2.1 ∈ wsX8_forgetAnswers := by decide +kernel
set_option maxRecDepth 100000 in
theorem fX8_forgetAnswers_37 : hd_F wsX8_forgetAnswers RX8 vwCl 8 3 37 := ⟨RX8, TX8, 9, rfl, by decide, uX8_forgetAnswers_X8, lX8_forgetAnswers_37⟩
set_option maxRecDepth 100000 in
theorem yX8_forgetAnswers_X7_forget : yX7_forget.cls = RX7 ∧ yX7_forget.cls ≠ "java/lang/invoke/MethodHandle" ∧ yX7_forget.cls ≠ "java/lang/invoke/VarHandle" ∧ (parseMethodDescriptor yX7_forget.desc).map (fun d => d.parameters.length) = some 0 := by decide +kernel
set_option maxRecDepth 100000 in
theorem lX8_forgetAnswers_60 : Cond.fieldLink RX8 60 (TX8 6).1 (TX8 6).2.1 (TX8 6).2.2.1 ∈ wsX8_forgetAnswers := by decide +kernel
set_option maxRecDepth 100000 in
theorem fX8_forgetAnswers_60 : hd_F wsX8_forgetAnswers RX8 vwCl 8 6 60 := ⟨RX8, TX8, 9, rfl, by decide, uX8_forgetAnswers_X8, lX8_forgetAnswers_60⟩
set_option maxRecDepth 100000 in
theorem yX8_forgetAnswers_X2_forget : yX2_forget.cls = RX2 ∧ yX2_forget.cls ≠ "java/lang/invoke/MethodHandle" ∧ yX2_forget.cls ≠ "java/lang/invoke/VarHandle" ∧ (parseMethodDescriptor yX2_forget.desc).map (fun d => d.parameters.length) = some 0 := by decide +kernel
def wo_X8_forgetAnswers : hd_xS := (hd_sQ (hd_sN (hd_nV hs_sh 6 (hd_rG hs_sh 8 2 (hd_rL 0)) 0 hd_v0 wm_X6_forget)) (hd_sQ (hd_sN (hd_nV hs_sh 7 (hd_rG hs_sh 8 3 (hd_rL 0)) 0 hd_v0 wm_X7_forget)) (hd_sQ (hd_sN (hd_nV hs_sh 2 (hd_rG hs_sh 8 6 (hd_rL 0)) 0 hd_v0 wm_X2_forget)) hd_sRV)))
def wm_X8_forgetAnswers : hd_M := hd_mth 1 wo_X8_forgetAnswers
set_option maxHeartbeats 4000000 in
set_option maxRecDepth 100000 in
theorem snd_X8_forgetAnswers : hd_Snd vwCl hs_sh yX8_forgetAnswers wsX8_forgetAnswers 2 wm_X8_forgetAnswers := hd_method (by decide) rfl rfl (by decide) (fun κ C Rk => (hd_seq (p1 := 7) (hd_scall (hd_invV C (p1 := 4) (p2 := 4) snd_X6_forget hw_X6_forget gX8_forgetAnswers_X6_forget hs_c_6 yX8_forgetAnswers_X6_forget ⟨by decide, by decide⟩ (by decide) (hd_getR C (p1 := 1) fX8_forgetAnswers_28 (hd_aload_n C (kk0 := 0) dX8_forgetAnswers_0) dX8_forgetAnswers_1) hd_av0 dX8_forgetAnswers_4)) (hd_seq (p1 := 14) (hd_scall (hd_invV C (p1 := 11) (p2 := 11) snd_X7_forget hw_X7_forget gX8_forgetAnswers_X7_forget hs_c_7 yX8_forgetAnswers_X7_forget ⟨by decide, by decide⟩ (by decide) (hd_getR C (p1 := 8) fX8_forgetAnswers_37 (hd_aload_n C (kk0 := 0) dX8_forgetAnswers_7) dX8_forgetAnswers_8) hd_av0 dX8_forgetAnswers_11)) (hd_seq (p1 := 21) (hd_scall (hd_invV C (p1 := 18) (p2 := 18) snd_X2_forget hw_X2_forget gX8_forgetAnswers_X2_forget hs_c_2 yX8_forgetAnswers_X2_forget ⟨by decide, by decide⟩ (by decide) (hd_getR C (p1 := 15) fX8_forgetAnswers_60 (hd_aload_n C (kk0 := 0) dX8_forgetAnswers_14) dX8_forgetAnswers_15) hd_av0 dX8_forgetAnswers_18)) (hd_retV C Rk dX8_forgetAnswers_21)))))
/-! X8_isKind -/
theorem hw_X8_isKind : wsX8_isKind = Cond.code yX8_isKind cX8_isKind 1 (some .boolean) :: wsX8_isKind.tail := rfl
set_option maxRecDepth 100000 in
theorem yX8_isKind_X8_within : yX8_within.cls ≠ "java/lang/invoke/MethodHandle" ∧ yX8_within.cls ≠ "java/lang/invoke/VarHandle" ∧ (parseMethodDescriptor yX8_within.desc).map (fun d => d.parameters.length) = some 3 := by decide +kernel
def wo_X8_isKind : hd_xS := (hd_sRZ (hd_iN (hd_nS 3 (hd_pI (hd_pI (hd_pI hd_v0 (hd_iL 0)) (hd_iK (0))) (hd_iK (6))) wm_X8_within)))
def wm_X8_isKind : hd_M := hd_mth 1 wo_X8_isKind
set_option maxHeartbeats 4000000 in
set_option maxRecDepth 100000 in
theorem snd_X8_isKind : hd_Snd vwCl hs_sh yX8_isKind wsX8_isKind 2 wm_X8_isKind := hd_method (by decide) rfl rfl (by decide) (fun κ C Rk => (hd_retZ C Rk (p1 := 7) (hd_inI (hd_invS C (p2 := 4) snd_X8_within hw_X8_within gX8_isKind_X8_within yX8_isKind_X8_within ⟨by decide, by decide⟩ (by decide) (hd_apI (p1 := 2) (p2 := 4) (hd_apI (p1 := 1) (p2 := 2) (hd_apI (p1 := 0) (p2 := 1) hd_av0 (hd_iload_n C (kk0 := 0) dX8_isKind_0)) (hd_iconst C dX8_isKind_1 (by decide))) (hd_bipush C dX8_isKind_2 (by decide))) dX8_isKind_4)) dX8_isKind_7))
/-! X8_isLineQuestion -/
theorem hw_X8_isLineQuestion : wsX8_isLineQuestion = Cond.code yX8_isLineQuestion cX8_isLineQuestion 2 (some .boolean) :: wsX8_isLineQuestion.tail := rfl
set_option maxRecDepth 100000 in
theorem yX8_isLineQuestion_X8_within : yX8_within.cls ≠ "java/lang/invoke/MethodHandle" ∧ yX8_within.cls ≠ "java/lang/invoke/VarHandle" ∧ (parseMethodDescriptor yX8_within.desc).map (fun d => d.parameters.length) = some 3 := by decide +kernel
def wo_X8_isLineQuestion : hd_xS := (hd_sRZ (hd_iC (hd_cA (hd_c0 (fun x => !decide (x = 0)) (hd_iN (hd_nS 3 (hd_pI (hd_pI (hd_pI hd_v0 (hd_iL 0)) (hd_iK (0))) (hd_iK (1))) wm_X8_within))) (hd_c0 (fun x => !decide (x = 0)) (hd_iN (hd_nS 3 (hd_pI (hd_pI (hd_pI hd_v0 (hd_iL 1)) (hd_iK (1))) (hd_iK (8))) wm_X8_within))))))
def wm_X8_isLineQuestion : hd_M := hd_mth 2 wo_X8_isLineQuestion
set_option maxHeartbeats 4000000 in
set_option maxRecDepth 100000 in
theorem snd_X8_isLineQuestion : hd_Snd vwCl hs_sh yX8_isLineQuestion wsX8_isLineQuestion 2 wm_X8_isLineQuestion := hd_method (by decide) rfl rfl (by decide) (fun κ C Rk => (hd_retZ C Rk (p1 := 24) (hd_boC C (p1 := 19) (p3 := 23) (p4 := 24) (hd_and (p1 := 9) (p2 := 19) (p3 := 23) (hd_z_neF C (p2 := 6) (tgt := 23) (hd_inI (hd_invS C (p2 := 3) snd_X8_within hw_X8_within gX8_isLineQuestion_X8_within yX8_isLineQuestion_X8_within ⟨by decide, by decide⟩ (by decide) (hd_apI (p1 := 2) (p2 := 3) (hd_apI (p1 := 1) (p2 := 2) (hd_apI (p1 := 0) (p2 := 1) hd_av0 (hd_iload_n C (kk0 := 0) dX8_isLineQuestion_0)) (hd_iconst C dX8_isLineQuestion_1 (by decide))) (hd_iconst C dX8_isLineQuestion_2 (by decide))) dX8_isLineQuestion_3)) dX8_isLineQuestion_6 (by decide)) (hd_z_neF C (p2 := 16) (tgt := 23) (hd_inI (hd_invS C (p2 := 13) snd_X8_within hw_X8_within gX8_isLineQuestion_X8_within yX8_isLineQuestion_X8_within ⟨by decide, by decide⟩ (by decide) (hd_apI (p1 := 11) (p2 := 13) (hd_apI (p1 := 10) (p2 := 11) (hd_apI (p1 := 9) (p2 := 10) hd_av0 (hd_iload_n C (kk0 := 1) dX8_isLineQuestion_9)) (hd_iconst C dX8_isLineQuestion_10 (by decide))) (hd_bipush C dX8_isLineQuestion_11 (by decide))) dX8_isLineQuestion_13)) dX8_isLineQuestion_16 (by decide))) dX8_isLineQuestion_19 dX8_isLineQuestion_20 (by decide) dX8_isLineQuestion_23 rfl) dX8_isLineQuestion_24))
/-! X8_open -/
theorem hw_X8_open : wsX8_open = Cond.code yX8_open cX8_open 2 (some .int) :: wsX8_open.tail := rfl
set_option maxRecDepth 100000 in
theorem uX8_open_X8 : ∀ w ∈ u_ws RX8 TX8 9, w ∈ wsX8_open := by decide +kernel
set_option maxRecDepth 100000 in
theorem lX8_open_12 : Cond.fieldLink RX8 12 (TX8 0).1 (TX8 0).2.1 (TX8 0).2.2.1 ∈ wsX8_open := by decide +kernel
set_option maxRecDepth 100000 in
theorem fX8_open_12 : hd_F wsX8_open RX8 vwCl 8 0 12 := ⟨RX8, TX8, 9, rfl, by decide, uX8_open_X8, lX8_open_12⟩
set_option maxRecDepth 100000 in
theorem yX8_open_X5_everyHall : yX5_everyHall.cls = RX5 ∧ yX5_everyHall.cls ≠ "java/lang/invoke/MethodHandle" ∧ yX5_everyHall.cls ≠ "java/lang/invoke/VarHandle" ∧ (parseMethodDescriptor yX5_everyHall.desc).map (fun d => d.parameters.length) = some 0 := by decide +kernel
set_option maxRecDepth 100000 in
theorem yX8_open_X8_within : yX8_within.cls ≠ "java/lang/invoke/MethodHandle" ∧ yX8_within.cls ≠ "java/lang/invoke/VarHandle" ∧ (parseMethodDescriptor yX8_within.desc).map (fun d => d.parameters.length) = some 3 := by decide +kernel
set_option maxRecDepth 100000 in
theorem lX8_open_167 : Cond.fieldLink RX8 167 (TX8 8).1 (TX8 8).2.1 (TX8 8).2.2.1 ∈ wsX8_open := by decide +kernel
set_option maxRecDepth 100000 in
theorem qX8_open_167 : hd_FP wsX8_open RX8 vwCl 8 8 167 .int := ⟨RX8, TX8, 9, tyX8, rfl, by decide, uX8_open_X8, lX8_open_167, tyX8_ok, nmX8, rfl, rfl⟩
set_option maxRecDepth 100000 in
theorem yX8_open_J6_bitCount_0f7a4 : yJ6_bitCount_0f7a4.cls ≠ "java/lang/invoke/MethodHandle" ∧ yJ6_bitCount_0f7a4.cls ≠ "java/lang/invoke/VarHandle" ∧ (parseMethodDescriptor yJ6_bitCount_0f7a4.desc).map (fun d => d.parameters.length) = some 1 := by decide +kernel
def wo_X8_open : hd_xS := (hd_sQ (hd_sW (hd_cX (hd_c0 (fun x => !decide (x = 0)) (hd_iN (hd_nS 3 (hd_pI (hd_pI (hd_pI hd_v0 (hd_iL 1)) (hd_iK (0))) (hd_iN (hd_nV hs_sh 5 (hd_rG hs_sh 8 0 (hd_rL 0)) 0 hd_v0 wm_X5_everyHall))) wm_X8_within)))) (hd_sRI (hd_iK (-3)))) (hd_sQ (hd_sF hs_sh 8 8 (hd_rL 0) (hd_iL 1)) (hd_sRI (hd_iN (hd_nS 1 (hd_pI hd_v0 (hd_iL 1)) wm_J6_bitCount_0f7a4)))))
def wm_X8_open : hd_M := hd_mth 2 wo_X8_open
set_option maxHeartbeats 4000000 in
set_option maxRecDepth 100000 in
theorem snd_X8_open : hd_Snd vwCl hs_sh yX8_open wsX8_open 2 wm_X8_open := hd_method (by decide) rfl rfl (by decide) (fun κ C Rk => (hd_seq (p1 := 18) (hd_if (p1 := 15) (p2 := 18) (hd_not (hd_z_neT C (p2 := 12) (tgt := 18) (hd_inI (hd_invS C (p2 := 9) snd_X8_within hw_X8_within gX8_open_X8_within yX8_open_X8_within ⟨by decide, by decide⟩ (by decide) (hd_apI (p1 := 2) (p2 := 9) (hd_apI (p1 := 1) (p2 := 2) (hd_apI (p1 := 0) (p2 := 1) hd_av0 (hd_iload_n C (kk0 := 1) dX8_open_0)) (hd_iconst C dX8_open_1 (by decide))) (hd_inI (hd_invV C (p1 := 6) (p2 := 6) snd_X5_everyHall hw_X5_everyHall gX8_open_X5_everyHall hs_c_5 yX8_open_X5_everyHall ⟨by decide, by decide⟩ (by decide) (hd_getR C (p1 := 3) fX8_open_12 (hd_aload_n C (kk0 := 0) dX8_open_2) dX8_open_3) hd_av0 dX8_open_6))) dX8_open_9)) dX8_open_12 (by decide))) (hd_retI C Rk (p1 := 17) (hd_bipush C dX8_open_15 (by decide)) dX8_open_17) (by decide)) (hd_seq (p1 := 23) (hd_sputI C (p1 := 19) (p2 := 20) qX8_open_167 (hd_aload_n C (kk0 := 0) dX8_open_18) (hd_iload_n C (kk0 := 1) dX8_open_19) dX8_open_20) (hd_retI C Rk (p1 := 27) (hd_inI (hd_invS C (p2 := 24) snd_J6_bitCount_0f7a4 hw_J6_bitCount_0f7a4 gX8_open_J6_bitCount_0f7a4 yX8_open_J6_bitCount_0f7a4 ⟨by decide, by decide⟩ (by decide) (hd_apI (p1 := 23) (p2 := 24) hd_av0 (hd_iload_n C (kk0 := 1) dX8_open_23)) dX8_open_24)) dX8_open_27))))
/-! X9_areNear -/
theorem hw_X9_areNear : wsX9_areNear = Cond.code yX9_areNear cX9_areNear 4 (some .boolean) :: wsX9_areNear.tail := rfl
set_option maxRecDepth 100000 in
theorem yX9_areNear_X9_sizeOf : yX9_sizeOf.cls ≠ "java/lang/invoke/MethodHandle" ∧ yX9_sizeOf.cls ≠ "java/lang/invoke/VarHandle" ∧ (parseMethodDescriptor yX9_sizeOf.desc).map (fun d => d.parameters.length) = some 1 := by decide +kernel
def wo_X9_areNear : hd_xS := (hd_sQ (hd_sI 2 (hd_iN (hd_nS 1 (hd_pI hd_v0 (hd_iB (fun x y => x &&& y) (hd_iL 0) (hd_iB (fun x y => x ^^^ y) (hd_iL 1) (hd_iK (-1))))) wm_X9_sizeOf))) (hd_sQ (hd_sI 3 (hd_iN (hd_nS 1 (hd_pI hd_v0 (hd_iB (fun x y => x &&& y) (hd_iL 1) (hd_iB (fun x y => x ^^^ y) (hd_iL 0) (hd_iK (-1))))) wm_X9_sizeOf))) (hd_sRZ (hd_iC (hd_cA (hd_cA (hd_cI (fun x y => decide (x ≤ y)) (hd_iL 2) (hd_iK (1))) (hd_cI (fun x y => decide (x ≤ y)) (hd_iL 3) (hd_iK (1)))) (hd_c0 (fun x => decide (0 < x)) (hd_iB (fun x y => x + y) (hd_iL 2) (hd_iL 3))))))))
def wm_X9_areNear : hd_M := hd_mth 4 wo_X9_areNear
set_option maxHeartbeats 4000000 in
set_option maxRecDepth 100000 in
theorem snd_X9_areNear : hd_Snd vwCl hs_sh yX9_areNear wsX9_areNear 2 wm_X9_areNear := hd_method (by decide) rfl rfl (by decide) (fun κ C Rk => (hd_seq (p1 := 9) (hd_sistore_n C (kk0 := 2) (p1 := 8) (hd_inI (hd_invS C (p2 := 5) snd_X9_sizeOf hw_X9_sizeOf gX9_areNear_X9_sizeOf yX9_areNear_X9_sizeOf ⟨by decide, by decide⟩ (by decide) (hd_apI (p1 := 0) (p2 := 5) hd_av0 (hd_iand C (p1 := 1) (p2 := 4) (hd_iload_n C (kk0 := 0) dX9_areNear_0) (hd_ixor C (p1 := 2) (p2 := 3) (hd_iload_n C (kk0 := 1) dX9_areNear_1) (hd_iconst C dX9_areNear_2 (by decide)) dX9_areNear_3) dX9_areNear_4)) dX9_areNear_5)) dX9_areNear_8 (by decide)) (hd_seq (p1 := 18) (hd_sistore_n C (kk0 := 3) (p1 := 17) (hd_inI (hd_invS C (p2 := 14) snd_X9_sizeOf hw_X9_sizeOf gX9_areNear_X9_sizeOf yX9_areNear_X9_sizeOf ⟨by decide, by decide⟩ (by decide) (hd_apI (p1 := 9) (p2 := 14) hd_av0 (hd_iand C (p1 := 10) (p2 := 13) (hd_iload_n C (kk0 := 1) dX9_areNear_9) (hd_ixor C (p1 := 11) (p2 := 12) (hd_iload_n C (kk0 := 0) dX9_areNear_10) (hd_iconst C dX9_areNear_11 (by decide)) dX9_areNear_12) dX9_areNear_13)) dX9_areNear_14)) dX9_areNear_17 (by decide)) (hd_retZ C Rk (p1 := 39) (hd_boC C (p1 := 34) (p3 := 38) (p4 := 39) (hd_and (p1 := 28) (p2 := 34) (p3 := 38) (hd_and (p1 := 23) (p2 := 28) (p3 := 38) (hd_c_leF C (p1 := 19) (p2 := 20) (tgt := 38) (hd_iload_n C (kk0 := 2) dX9_areNear_18) (hd_iconst C dX9_areNear_19 (by decide)) dX9_areNear_20 (by decide)) (hd_c_leF C (p1 := 24) (p2 := 25) (tgt := 38) (hd_iload_n C (kk0 := 3) dX9_areNear_23) (hd_iconst C dX9_areNear_24 (by decide)) dX9_areNear_25 (by decide))) (hd_z_gtF C (p2 := 31) (tgt := 38) (hd_iadd C (p1 := 29) (p2 := 30) (hd_iload_n C (kk0 := 2) dX9_areNear_28) (hd_iload_n C (kk0 := 3) dX9_areNear_29) dX9_areNear_30) dX9_areNear_31 (by decide))) dX9_areNear_34 dX9_areNear_35 (by decide) dX9_areNear_38 rfl) dX9_areNear_39))))
/-! X9_isHall -/
theorem hw_X9_isHall : wsX9_isHall = Cond.code yX9_isHall cX9_isHall 2 (some .boolean) :: wsX9_isHall.tail := rfl
set_option maxRecDepth 100000 in
theorem uX9_isHall_X9 : ∀ w ∈ u_ws RX9 TX9 28, w ∈ wsX9_isHall := by decide +kernel
set_option maxRecDepth 100000 in
theorem lX9_isHall_71 : Cond.fieldLink RX9 71 (TX9 2).1 (TX9 2).2.1 (TX9 2).2.2.1 ∈ wsX9_isHall := by decide +kernel
set_option maxRecDepth 100000 in
theorem fX9_isHall_71 : hd_F wsX9_isHall RX9 vwCl 9 2 71 := ⟨RX9, TX9, 28, rfl, by decide, uX9_isHall_X9, lX9_isHall_71⟩
set_option maxRecDepth 100000 in
theorem yX9_isHall_X9_in : yX9_in.cls ≠ "java/lang/invoke/MethodHandle" ∧ yX9_in.cls ≠ "java/lang/invoke/VarHandle" ∧ (parseMethodDescriptor yX9_in.desc).map (fun d => d.parameters.length) = some 3 := by decide +kernel
def wo_X9_isHall : hd_xS := (hd_sRZ (hd_iN (hd_nS 3 (hd_pI (hd_pI (hd_pI hd_v0 (hd_iL 1)) (hd_iK (0))) (hd_iB (fun x y => x - y) (hd_iG hs_sh 9 2 (hd_rL 0)) (hd_iK (1)))) wm_X9_in)))
def wm_X9_isHall : hd_M := hd_mth 2 wo_X9_isHall
set_option maxHeartbeats 4000000 in
set_option maxRecDepth 100000 in
theorem snd_X9_isHall : hd_Snd vwCl hs_sh yX9_isHall wsX9_isHall 2 wm_X9_isHall := hd_method (by decide) rfl rfl (by decide) (fun κ C Rk => (hd_retZ C Rk (p1 := 11) (hd_inI (hd_invS C (p2 := 8) snd_X9_in hw_X9_in gX9_isHall_X9_in yX9_isHall_X9_in ⟨by decide, by decide⟩ (by decide) (hd_apI (p1 := 2) (p2 := 8) (hd_apI (p1 := 1) (p2 := 2) (hd_apI (p1 := 0) (p2 := 1) hd_av0 (hd_iload_n C (kk0 := 1) dX9_isHall_0)) (hd_iconst C dX9_isHall_1 (by decide))) (hd_isub C (p1 := 6) (p2 := 7) (hd_getI C (p1 := 3) fX9_isHall_71 (hd_aload_n C (kk0 := 0) dX9_isHall_2) dX9_isHall_3) (hd_iconst C dX9_isHall_6 (by decide)) dX9_isHall_7)) dX9_isHall_8)) dX9_isHall_11))
/-! X9_isKind -/
theorem hw_X9_isKind : wsX9_isKind = Cond.code yX9_isKind cX9_isKind 1 (some .boolean) :: wsX9_isKind.tail := rfl
set_option maxRecDepth 100000 in
theorem yX9_isKind_X9_in : yX9_in.cls ≠ "java/lang/invoke/MethodHandle" ∧ yX9_in.cls ≠ "java/lang/invoke/VarHandle" ∧ (parseMethodDescriptor yX9_in.desc).map (fun d => d.parameters.length) = some 3 := by decide +kernel
def wo_X9_isKind : hd_xS := (hd_sRZ (hd_iN (hd_nS 3 (hd_pI (hd_pI (hd_pI hd_v0 (hd_iL 0)) (hd_iK (0))) (hd_iK (6))) wm_X9_in)))
def wm_X9_isKind : hd_M := hd_mth 1 wo_X9_isKind
set_option maxHeartbeats 4000000 in
set_option maxRecDepth 100000 in
theorem snd_X9_isKind : hd_Snd vwCl hs_sh yX9_isKind wsX9_isKind 2 wm_X9_isKind := hd_method (by decide) rfl rfl (by decide) (fun κ C Rk => (hd_retZ C Rk (p1 := 7) (hd_inI (hd_invS C (p2 := 4) snd_X9_in hw_X9_in gX9_isKind_X9_in yX9_isKind_X9_in ⟨by decide, by decide⟩ (by decide) (hd_apI (p1 := 2) (p2 := 4) (hd_apI (p1 := 1) (p2 := 2) (hd_apI (p1 := 0) (p2 := 1) hd_av0 (hd_iload_n C (kk0 := 0) dX9_isKind_0)) (hd_iconst C dX9_isKind_1 (by decide))) (hd_bipush C dX9_isKind_2 (by decide))) dX9_isKind_4)) dX9_isKind_7))
/-! X9_isLine -/
theorem hw_X9_isLine : wsX9_isLine = Cond.code yX9_isLine cX9_isLine 2 (some .boolean) :: wsX9_isLine.tail := rfl
set_option maxRecDepth 100000 in
theorem yX9_isLine_X9_in : yX9_in.cls ≠ "java/lang/invoke/MethodHandle" ∧ yX9_in.cls ≠ "java/lang/invoke/VarHandle" ∧ (parseMethodDescriptor yX9_in.desc).map (fun d => d.parameters.length) = some 3 := by decide +kernel
def wo_X9_isLine : hd_xS := (hd_sRZ (hd_iC (hd_cA (hd_c0 (fun x => !decide (x = 0)) (hd_iN (hd_nS 3 (hd_pI (hd_pI (hd_pI hd_v0 (hd_iL 0)) (hd_iK (0))) (hd_iK (1))) wm_X9_in))) (hd_c0 (fun x => !decide (x = 0)) (hd_iN (hd_nS 3 (hd_pI (hd_pI (hd_pI hd_v0 (hd_iL 1)) (hd_iK (1))) (hd_iK (8))) wm_X9_in))))))
def wm_X9_isLine : hd_M := hd_mth 2 wo_X9_isLine
set_option maxHeartbeats 4000000 in
set_option maxRecDepth 100000 in
theorem snd_X9_isLine : hd_Snd vwCl hs_sh yX9_isLine wsX9_isLine 2 wm_X9_isLine := hd_method (by decide) rfl rfl (by decide) (fun κ C Rk => (hd_retZ C Rk (p1 := 24) (hd_boC C (p1 := 19) (p3 := 23) (p4 := 24) (hd_and (p1 := 9) (p2 := 19) (p3 := 23) (hd_z_neF C (p2 := 6) (tgt := 23) (hd_inI (hd_invS C (p2 := 3) snd_X9_in hw_X9_in gX9_isLine_X9_in yX9_isLine_X9_in ⟨by decide, by decide⟩ (by decide) (hd_apI (p1 := 2) (p2 := 3) (hd_apI (p1 := 1) (p2 := 2) (hd_apI (p1 := 0) (p2 := 1) hd_av0 (hd_iload_n C (kk0 := 0) dX9_isLine_0)) (hd_iconst C dX9_isLine_1 (by decide))) (hd_iconst C dX9_isLine_2 (by decide))) dX9_isLine_3)) dX9_isLine_6 (by decide)) (hd_z_neF C (p2 := 16) (tgt := 23) (hd_inI (hd_invS C (p2 := 13) snd_X9_in hw_X9_in gX9_isLine_X9_in yX9_isLine_X9_in ⟨by decide, by decide⟩ (by decide) (hd_apI (p1 := 11) (p2 := 13) (hd_apI (p1 := 10) (p2 := 11) (hd_apI (p1 := 9) (p2 := 10) hd_av0 (hd_iload_n C (kk0 := 1) dX9_isLine_9)) (hd_iconst C dX9_isLine_10 (by decide))) (hd_bipush C dX9_isLine_11 (by decide))) dX9_isLine_13)) dX9_isLine_16 (by decide))) dX9_isLine_19 dX9_isLine_20 (by decide) dX9_isLine_23 rfl) dX9_isLine_24))
/-! X9_isTown -/
theorem hw_X9_isTown : wsX9_isTown = Cond.code yX9_isTown cX9_isTown 2 (some .boolean) :: wsX9_isTown.tail := rfl
set_option maxRecDepth 100000 in
theorem uX9_isTown_X9 : ∀ w ∈ u_ws RX9 TX9 28, w ∈ wsX9_isTown := by decide +kernel
set_option maxRecDepth 100000 in
theorem lX9_isTown_68 : Cond.fieldLink RX9 68 (TX9 1).1 (TX9 1).2.1 (TX9 1).2.2.1 ∈ wsX9_isTown := by decide +kernel
set_option maxRecDepth 100000 in
theorem fX9_isTown_68 : hd_F wsX9_isTown RX9 vwCl 9 1 68 := ⟨RX9, TX9, 28, rfl, by decide, uX9_isTown_X9, lX9_isTown_68⟩
set_option maxRecDepth 100000 in
theorem yX9_isTown_X9_in : yX9_in.cls ≠ "java/lang/invoke/MethodHandle" ∧ yX9_in.cls ≠ "java/lang/invoke/VarHandle" ∧ (parseMethodDescriptor yX9_in.desc).map (fun d => d.parameters.length) = some 3 := by decide +kernel
def wo_X9_isTown : hd_xS := (hd_sRZ (hd_iN (hd_nS 3 (hd_pI (hd_pI (hd_pI hd_v0 (hd_iL 1)) (hd_iK (0))) (hd_iB (fun x y => x - y) (hd_iG hs_sh 9 1 (hd_rL 0)) (hd_iK (1)))) wm_X9_in)))
def wm_X9_isTown : hd_M := hd_mth 2 wo_X9_isTown
set_option maxHeartbeats 4000000 in
set_option maxRecDepth 100000 in
theorem snd_X9_isTown : hd_Snd vwCl hs_sh yX9_isTown wsX9_isTown 2 wm_X9_isTown := hd_method (by decide) rfl rfl (by decide) (fun κ C Rk => (hd_retZ C Rk (p1 := 11) (hd_inI (hd_invS C (p2 := 8) snd_X9_in hw_X9_in gX9_isTown_X9_in yX9_isTown_X9_in ⟨by decide, by decide⟩ (by decide) (hd_apI (p1 := 2) (p2 := 8) (hd_apI (p1 := 1) (p2 := 2) (hd_apI (p1 := 0) (p2 := 1) hd_av0 (hd_iload_n C (kk0 := 1) dX9_isTown_0)) (hd_iconst C dX9_isTown_1 (by decide))) (hd_isub C (p1 := 6) (p2 := 7) (hd_getI C (p1 := 3) fX9_isTown_68 (hd_aload_n C (kk0 := 0) dX9_isTown_2) dX9_isTown_3) (hd_iconst C dX9_isTown_6 (by decide)) dX9_isTown_7)) dX9_isTown_8)) dX9_isTown_11))
/-! X9_keep -/
theorem hw_X9_keep : wsX9_keep = Cond.code yX9_keep cX9_keep 1 none :: wsX9_keep.tail := rfl
set_option maxRecDepth 100000 in
theorem uX9_keep_X9 : ∀ w ∈ u_ws RX9 TX9 28, w ∈ wsX9_keep := by decide +kernel
set_option maxRecDepth 100000 in
theorem lX9_keep_65 : Cond.fieldLink RX9 65 (TX9 12).1 (TX9 12).2.1 (TX9 12).2.2.1 ∈ wsX9_keep := by decide +kernel
set_option maxRecDepth 100000 in
theorem fX9_keep_65 : hd_F wsX9_keep RX9 vwCl 9 12 65 := ⟨RX9, TX9, 28, rfl, by decide, uX9_keep_X9, lX9_keep_65⟩
set_option maxRecDepth 100000 in
theorem lX9_keep_62 : Cond.fieldLink RX9 62 (TX9 16).1 (TX9 16).2.1 (TX9 16).2.2.1 ∈ wsX9_keep := by decide +kernel
set_option maxRecDepth 100000 in
theorem qX9_keep_62 : hd_FP wsX9_keep RX9 vwCl 9 16 62 .int := ⟨RX9, TX9, 28, tyX9, rfl, by decide, uX9_keep_X9, lX9_keep_62, tyX9_ok, nmX9, rfl, rfl⟩
set_option maxRecDepth 100000 in
theorem lX9_keep_34 : Cond.fieldLink RX9 34 (TX9 11).1 (TX9 11).2.1 (TX9 11).2.2.1 ∈ wsX9_keep := by decide +kernel
set_option maxRecDepth 100000 in
theorem fX9_keep_34 : hd_F wsX9_keep RX9 vwCl 9 11 34 := ⟨RX9, TX9, 28, rfl, by decide, uX9_keep_X9, lX9_keep_34⟩
set_option maxRecDepth 100000 in
theorem fX9_keep_62 : hd_F wsX9_keep RX9 vwCl 9 16 62 := ⟨RX9, TX9, 28, rfl, by decide, uX9_keep_X9, lX9_keep_62⟩
set_option maxRecDepth 100000 in
theorem lX9_keep_68 : Cond.fieldLink RX9 68 (TX9 1).1 (TX9 1).2.1 (TX9 1).2.2.1 ∈ wsX9_keep := by decide +kernel
set_option maxRecDepth 100000 in
theorem fX9_keep_68 : hd_F wsX9_keep RX9 vwCl 9 1 68 := ⟨RX9, TX9, 28, rfl, by decide, uX9_keep_X9, lX9_keep_68⟩
set_option maxRecDepth 100000 in
theorem lX9_keep_71 : Cond.fieldLink RX9 71 (TX9 2).1 (TX9 2).2.1 (TX9 2).2.2.1 ∈ wsX9_keep := by decide +kernel
set_option maxRecDepth 100000 in
theorem fX9_keep_71 : hd_F wsX9_keep RX9 vwCl 9 2 71 := ⟨RX9, TX9, 28, rfl, by decide, uX9_keep_X9, lX9_keep_71⟩
set_option maxRecDepth 100000 in
theorem lX9_keep_7 : Cond.fieldLink RX9 7 (TX9 3).1 (TX9 3).2.1 (TX9 3).2.2.1 ∈ wsX9_keep := by decide +kernel
set_option maxRecDepth 100000 in
theorem fX9_keep_7 : hd_F wsX9_keep RX9 vwCl 9 3 7 := ⟨RX9, TX9, 28, rfl, by decide, uX9_keep_X9, lX9_keep_7⟩
set_option maxRecDepth 100000 in
theorem yX9_keep_X9_write : yX9_write.cls = RX9 ∧ yX9_write.cls ≠ "java/lang/invoke/MethodHandle" ∧ yX9_write.cls ≠ "java/lang/invoke/VarHandle" ∧ (parseMethodDescriptor yX9_write.desc).map (fun d => d.parameters.length) = some 2 := by decide +kernel
set_option maxRecDepth 100000 in
theorem lX9_keep_13 : Cond.fieldLink RX9 13 (TX9 4).1 (TX9 4).2.1 (TX9 4).2.2.1 ∈ wsX9_keep := by decide +kernel
set_option maxRecDepth 100000 in
theorem fX9_keep_13 : hd_F wsX9_keep RX9 vwCl 9 4 13 := ⟨RX9, TX9, 28, rfl, by decide, uX9_keep_X9, lX9_keep_13⟩
set_option maxRecDepth 100000 in
theorem lX9_keep_16 : Cond.fieldLink RX9 16 (TX9 5).1 (TX9 5).2.1 (TX9 5).2.2.1 ∈ wsX9_keep := by decide +kernel
set_option maxRecDepth 100000 in
theorem fX9_keep_16 : hd_F wsX9_keep RX9 vwCl 9 5 16 := ⟨RX9, TX9, 28, rfl, by decide, uX9_keep_X9, lX9_keep_16⟩
set_option maxRecDepth 100000 in
theorem lX9_keep_19 : Cond.fieldLink RX9 19 (TX9 6).1 (TX9 6).2.1 (TX9 6).2.2.1 ∈ wsX9_keep := by decide +kernel
set_option maxRecDepth 100000 in
theorem fX9_keep_19 : hd_F wsX9_keep RX9 vwCl 9 6 19 := ⟨RX9, TX9, 28, rfl, by decide, uX9_keep_X9, lX9_keep_19⟩
set_option maxRecDepth 100000 in
theorem lX9_keep_22 : Cond.fieldLink RX9 22 (TX9 7).1 (TX9 7).2.1 (TX9 7).2.2.1 ∈ wsX9_keep := by decide +kernel
set_option maxRecDepth 100000 in
theorem fX9_keep_22 : hd_F wsX9_keep RX9 vwCl 9 7 22 := ⟨RX9, TX9, 28, rfl, by decide, uX9_keep_X9, lX9_keep_22⟩
set_option maxRecDepth 100000 in
theorem lX9_keep_25 : Cond.fieldLink RX9 25 (TX9 8).1 (TX9 8).2.1 (TX9 8).2.2.1 ∈ wsX9_keep := by decide +kernel
set_option maxRecDepth 100000 in
theorem fX9_keep_25 : hd_F wsX9_keep RX9 vwCl 9 8 25 := ⟨RX9, TX9, 28, rfl, by decide, uX9_keep_X9, lX9_keep_25⟩
set_option maxRecDepth 100000 in
theorem lX9_keep_28 : Cond.fieldLink RX9 28 (TX9 9).1 (TX9 9).2.1 (TX9 9).2.2.1 ∈ wsX9_keep := by decide +kernel
set_option maxRecDepth 100000 in
theorem fX9_keep_28 : hd_F wsX9_keep RX9 vwCl 9 9 28 := ⟨RX9, TX9, 28, rfl, by decide, uX9_keep_X9, lX9_keep_28⟩
set_option maxRecDepth 100000 in
theorem lX9_keep_31 : Cond.fieldLink RX9 31 (TX9 10).1 (TX9 10).2.1 (TX9 10).2.2.1 ∈ wsX9_keep := by decide +kernel
set_option maxRecDepth 100000 in
theorem fX9_keep_31 : hd_F wsX9_keep RX9 vwCl 9 10 31 := ⟨RX9, TX9, 28, rfl, by decide, uX9_keep_X9, lX9_keep_31⟩
set_option maxRecDepth 100000 in
theorem qX9_keep_65 : hd_FP wsX9_keep RX9 vwCl 9 12 65 .int := ⟨RX9, TX9, 28, tyX9, rfl, by decide, uX9_keep_X9, lX9_keep_65, tyX9_ok, nmX9, rfl, rfl⟩
set_option maxRecDepth 100000 in
theorem lX9_keep_78 : Cond.fieldLink RX9 78 (TX9 13).1 (TX9 13).2.1 (TX9 13).2.2.1 ∈ wsX9_keep := by decide +kernel
set_option maxRecDepth 100000 in
theorem fX9_keep_78 : hd_F wsX9_keep RX9 vwCl 9 13 78 := ⟨RX9, TX9, 28, rfl, by decide, uX9_keep_X9, lX9_keep_78⟩
set_option maxRecDepth 100000 in
theorem qX9_keep_78 : hd_FP wsX9_keep RX9 vwCl 9 13 78 .int := ⟨RX9, TX9, 28, tyX9, rfl, by decide, uX9_keep_X9, lX9_keep_78, tyX9_ok, nmX9, rfl, rfl⟩
def wo_X9_keep : hd_xS := (hd_sQ (hd_sF hs_sh 9 16 (hd_rL 0) (hd_iB (fun x y => x * y) (hd_iK (110)) (hd_iG hs_sh 9 12 (hd_rL 0)))) (hd_sQ (hd_sA hs_sh (hd_rG hs_sh 9 11 (hd_rL 0)) (hd_iG hs_sh 9 16 (hd_rL 0)) (hd_iG hs_sh 9 1 (hd_rL 0))) (hd_sQ (hd_sA hs_sh (hd_rG hs_sh 9 11 (hd_rL 0)) (hd_iB (fun x y => x + y) (hd_iG hs_sh 9 16 (hd_rL 0)) (hd_iK (1))) (hd_iG hs_sh 9 2 (hd_rL 0))) (hd_sQ (hd_sG (fun x y => x + y) hs_sh 9 16 (hd_rL 0) (hd_iK (2))) (hd_sQ (hd_sN (hd_nV hs_sh 9 (hd_rL 0) 2 (hd_pI (hd_pR hd_v0 (hd_rG hs_sh 9 3 (hd_rL 0))) (hd_iK (8))) wm_X9_write)) (hd_sQ (hd_sN (hd_nV hs_sh 9 (hd_rL 0) 2 (hd_pI (hd_pR hd_v0 (hd_rG hs_sh 9 4 (hd_rL 0))) (hd_iK (8))) wm_X9_write)) (hd_sQ (hd_sN (hd_nV hs_sh 9 (hd_rL 0) 2 (hd_pI (hd_pR hd_v0 (hd_rG hs_sh 9 5 (hd_rL 0))) (hd_iK (8))) wm_X9_write)) (hd_sQ (hd_sN (hd_nV hs_sh 9 (hd_rL 0) 2 (hd_pI (hd_pR hd_v0 (hd_rG hs_sh 9 6 (hd_rL 0))) (hd_iK (7))) wm_X9_write)) (hd_sQ (hd_sN (hd_nV hs_sh 9 (hd_rL 0) 2 (hd_pI (hd_pR hd_v0 (hd_rG hs_sh 9 7 (hd_rL 0))) (hd_iK (7))) wm_X9_write)) (hd_sQ (hd_sN (hd_nV hs_sh 9 (hd_rL 0) 2 (hd_pI (hd_pR hd_v0 (hd_rG hs_sh 9 8 (hd_rL 0))) (hd_iK (7))) wm_X9_write)) (hd_sQ (hd_sN (hd_nV hs_sh 9 (hd_rL 0) 2 (hd_pI (hd_pR hd_v0 (hd_rG hs_sh 9 9 (hd_rL 0))) (hd_iK (7))) wm_X9_write)) (hd_sQ (hd_sN (hd_nV hs_sh 9 (hd_rL 0) 2 (hd_pI (hd_pR hd_v0 (hd_rG hs_sh 9 10 (hd_rL 0))) (hd_iK (56))) wm_X9_write)) (hd_sQ (hd_sF hs_sh 9 12 (hd_rL 0) (hd_iD (fun x y => x - x / y * y) (hd_iB (fun x y => x + y) (hd_iG hs_sh 9 12 (hd_rL 0)) (hd_iK (1))) (hd_iK (8)))) (hd_sQ (hd_sF hs_sh 9 13 (hd_rL 0) (hd_iQ (hd_cI (fun x y => decide (x < y)) (hd_iG hs_sh 9 13 (hd_rL 0)) (hd_iK (8))) (hd_iB (fun x y => x + y) (hd_iG hs_sh 9 13 (hd_rL 0)) (hd_iK (1))) (hd_iK (8)))) hd_sRV))))))))))))))
def wm_X9_keep : hd_M := hd_mth 1 wo_X9_keep
set_option maxHeartbeats 4000000 in
set_option maxRecDepth 100000 in
theorem snd_X9_keep : hd_Snd vwCl hs_sh yX9_keep wsX9_keep 2 wm_X9_keep := hd_method (by decide) rfl rfl (by decide) (fun κ C Rk => (hd_seq (p1 := 11) (hd_sputI C (p1 := 1) (p2 := 8) qX9_keep_62 (hd_aload_n C (kk0 := 0) dX9_keep_0) (hd_imul C (p1 := 3) (p2 := 7) (hd_bipush C dX9_keep_1 (by decide)) (hd_getI C (p1 := 4) fX9_keep_65 (hd_aload_n C (kk0 := 0) dX9_keep_3) dX9_keep_4) dX9_keep_7) dX9_keep_8) (hd_seq (p1 := 24) (hd_siast C (p1 := 15) (p2 := 19) (p3 := 23) (hd_getR C (p1 := 12) fX9_keep_34 (hd_aload_n C (kk0 := 0) dX9_keep_11) dX9_keep_12) (hd_getI C (p1 := 16) fX9_keep_62 (hd_aload_n C (kk0 := 0) dX9_keep_15) dX9_keep_16) (hd_getI C (p1 := 20) fX9_keep_68 (hd_aload_n C (kk0 := 0) dX9_keep_19) dX9_keep_20) dX9_keep_23) (hd_seq (p1 := 39) (hd_siast C (p1 := 28) (p2 := 34) (p3 := 38) (hd_getR C (p1 := 25) fX9_keep_34 (hd_aload_n C (kk0 := 0) dX9_keep_24) dX9_keep_25) (hd_iadd C (p1 := 32) (p2 := 33) (hd_getI C (p1 := 29) fX9_keep_62 (hd_aload_n C (kk0 := 0) dX9_keep_28) dX9_keep_29) (hd_iconst C dX9_keep_32 (by decide)) dX9_keep_33) (hd_getI C (p1 := 35) fX9_keep_71 (hd_aload_n C (kk0 := 0) dX9_keep_34) dX9_keep_35) dX9_keep_38) (hd_seq (p1 := 49) (hd_sfld_iadd C (p1 := 40) (p2 := 45) fX9_keep_62 qX9_keep_62 (hd_aload_n C (kk0 := 0) dX9_keep_39) dX9_keep_40 dX9_keep_41 (hd_iconst C dX9_keep_44 (by decide)) dX9_keep_45 dX9_keep_46) (hd_seq (p1 := 59) (hd_scall (hd_invV C (p1 := 50) (p2 := 56) snd_X9_write hw_X9_write gX9_keep_X9_write hs_c_9 yX9_keep_X9_write ⟨by decide, by decide⟩ (by decide) (hd_aload_n C (kk0 := 0) dX9_keep_49) (hd_apI (p1 := 54) (p2 := 56) (hd_apR (p1 := 50) (p2 := 54) hd_av0 (hd_getR C (p1 := 51) fX9_keep_7 (hd_aload_n C (kk0 := 0) dX9_keep_50) dX9_keep_51)) (hd_bipush C dX9_keep_54 (by decide))) dX9_keep_56)) (hd_seq (p1 := 69) (hd_scall (hd_invV C (p1 := 60) (p2 := 66) snd_X9_write hw_X9_write gX9_keep_X9_write hs_c_9 yX9_keep_X9_write ⟨by decide, by decide⟩ (by decide) (hd_aload_n C (kk0 := 0) dX9_keep_59) (hd_apI (p1 := 64) (p2 := 66) (hd_apR (p1 := 60) (p2 := 64) hd_av0 (hd_getR C (p1 := 61) fX9_keep_13 (hd_aload_n C (kk0 := 0) dX9_keep_60) dX9_keep_61)) (hd_bipush C dX9_keep_64 (by decide))) dX9_keep_66)) (hd_seq (p1 := 79) (hd_scall (hd_invV C (p1 := 70) (p2 := 76) snd_X9_write hw_X9_write gX9_keep_X9_write hs_c_9 yX9_keep_X9_write ⟨by decide, by decide⟩ (by decide) (hd_aload_n C (kk0 := 0) dX9_keep_69) (hd_apI (p1 := 74) (p2 := 76) (hd_apR (p1 := 70) (p2 := 74) hd_av0 (hd_getR C (p1 := 71) fX9_keep_16 (hd_aload_n C (kk0 := 0) dX9_keep_70) dX9_keep_71)) (hd_bipush C dX9_keep_74 (by decide))) dX9_keep_76)) (hd_seq (p1 := 89) (hd_scall (hd_invV C (p1 := 80) (p2 := 86) snd_X9_write hw_X9_write gX9_keep_X9_write hs_c_9 yX9_keep_X9_write ⟨by decide, by decide⟩ (by decide) (hd_aload_n C (kk0 := 0) dX9_keep_79) (hd_apI (p1 := 84) (p2 := 86) (hd_apR (p1 := 80) (p2 := 84) hd_av0 (hd_getR C (p1 := 81) fX9_keep_19 (hd_aload_n C (kk0 := 0) dX9_keep_80) dX9_keep_81)) (hd_bipush C dX9_keep_84 (by decide))) dX9_keep_86)) (hd_seq (p1 := 99) (hd_scall (hd_invV C (p1 := 90) (p2 := 96) snd_X9_write hw_X9_write gX9_keep_X9_write hs_c_9 yX9_keep_X9_write ⟨by decide, by decide⟩ (by decide) (hd_aload_n C (kk0 := 0) dX9_keep_89) (hd_apI (p1 := 94) (p2 := 96) (hd_apR (p1 := 90) (p2 := 94) hd_av0 (hd_getR C (p1 := 91) fX9_keep_22 (hd_aload_n C (kk0 := 0) dX9_keep_90) dX9_keep_91)) (hd_bipush C dX9_keep_94 (by decide))) dX9_keep_96)) (hd_seq (p1 := 109) (hd_scall (hd_invV C (p1 := 100) (p2 := 106) snd_X9_write hw_X9_write gX9_keep_X9_write hs_c_9 yX9_keep_X9_write ⟨by decide, by decide⟩ (by decide) (hd_aload_n C (kk0 := 0) dX9_keep_99) (hd_apI (p1 := 104) (p2 := 106) (hd_apR (p1 := 100) (p2 := 104) hd_av0 (hd_getR C (p1 := 101) fX9_keep_25 (hd_aload_n C (kk0 := 0) dX9_keep_100) dX9_keep_101)) (hd_bipush C dX9_keep_104 (by decide))) dX9_keep_106)) (hd_seq (p1 := 119) (hd_scall (hd_invV C (p1 := 110) (p2 := 116) snd_X9_write hw_X9_write gX9_keep_X9_write hs_c_9 yX9_keep_X9_write ⟨by decide, by decide⟩ (by decide) (hd_aload_n C (kk0 := 0) dX9_keep_109) (hd_apI (p1 := 114) (p2 := 116) (hd_apR (p1 := 110) (p2 := 114) hd_av0 (hd_getR C (p1 := 111) fX9_keep_28 (hd_aload_n C (kk0 := 0) dX9_keep_110) dX9_keep_111)) (hd_bipush C dX9_keep_114 (by decide))) dX9_keep_116)) (hd_seq (p1 := 129) (hd_scall (hd_invV C (p1 := 120) (p2 := 126) snd_X9_write hw_X9_write gX9_keep_X9_write hs_c_9 yX9_keep_X9_write ⟨by decide, by decide⟩ (by decide) (hd_aload_n C (kk0 := 0) dX9_keep_119) (hd_apI (p1 := 124) (p2 := 126) (hd_apR (p1 := 120) (p2 := 124) hd_av0 (hd_getR C (p1 := 121) fX9_keep_31 (hd_aload_n C (kk0 := 0) dX9_keep_120) dX9_keep_121)) (hd_bipush C dX9_keep_124 (by decide))) dX9_keep_126)) (hd_seq (p1 := 142) (hd_sputI C (p1 := 130) (p2 := 139) qX9_keep_65 (hd_aload_n C (kk0 := 0) dX9_keep_129) (hd_irem C (p1 := 136) (p2 := 138) (hd_iadd C (p1 := 134) (p2 := 135) (hd_getI C (p1 := 131) fX9_keep_65 (hd_aload_n C (kk0 := 0) dX9_keep_130) dX9_keep_131) (hd_iconst C dX9_keep_134 (by decide)) dX9_keep_135) (hd_bipush C dX9_keep_136 (by decide)) dX9_keep_138) dX9_keep_139) (hd_seq (p1 := 166) (hd_sputI C (p1 := 143) (p2 := 163) qX9_keep_78 (hd_aload_n C (kk0 := 0) dX9_keep_142) (hd_tnI C (p1 := 152) (p2 := 158) (p3 := 161) (p4 := 163) (hd_c_ltF C (p1 := 147) (p2 := 149) (tgt := 161) (hd_getI C (p1 := 144) fX9_keep_78 (hd_aload_n C (kk0 := 0) dX9_keep_143) dX9_keep_144) (hd_bipush C dX9_keep_147 (by decide)) dX9_keep_149 (by decide)) (hd_iadd C (p1 := 156) (p2 := 157) (hd_getI C (p1 := 153) fX9_keep_78 (hd_aload_n C (kk0 := 0) dX9_keep_152) dX9_keep_153) (hd_iconst C dX9_keep_156 (by decide)) dX9_keep_157) dX9_keep_158 (by decide) (hd_bipush C dX9_keep_161 (by decide))) dX9_keep_163) (hd_retV C Rk dX9_keep_166))))))))))))))))
