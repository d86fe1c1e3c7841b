/-! X9_sheet -/
theorem hw_X9_sheet : wsX9_sheet = Cond.code yX9_sheet cX9_sheet 5 (some .int) :: wsX9_sheet.tail := rfl
set_option maxRecDepth 100000 in
theorem uX9_sheet_X9 : ∀ w ∈ u_ws RX9 TX9 28, w ∈ wsX9_sheet := by decide +kernel
set_option maxRecDepth 100000 in
theorem lX9_sheet_58 : Cond.fieldLink RX9 58 (TX9 0).1 (TX9 0).2.1 (TX9 0).2.2.1 ∈ wsX9_sheet := by decide +kernel
set_option maxRecDepth 100000 in
theorem qX9_sheet_58 : hd_FP wsX9_sheet RX9 vwCl 9 0 58 .int := ⟨RX9, TX9, 28, tyX9, rfl, by decide, uX9_sheet_X9, lX9_sheet_58, tyX9_ok, nmX9, rfl, rfl⟩
set_option maxRecDepth 100000 in
theorem yX9_sheet_X9_isHall : yX9_isHall.cls = RX9 ∧ yX9_isHall.cls ≠ "java/lang/invoke/MethodHandle" ∧ yX9_isHall.cls ≠ "java/lang/invoke/VarHandle" ∧ (parseMethodDescriptor yX9_isHall.desc).map (fun d => d.parameters.length) = some 1 := by decide +kernel
set_option maxRecDepth 100000 in
theorem yX9_sheet_X9_in : yX9_in.cls ≠ "java/lang/invoke/MethodHandle" ∧ yX9_in.cls ≠ "java/lang/invoke/VarHandle" ∧ (parseMethodDescriptor yX9_in.desc).map (fun d => d.parameters.length) = some 3 := by decide +kernel
set_option maxRecDepth 100000 in
theorem yX9_sheet_X9_keep : yX9_keep.cls = RX9 ∧ yX9_keep.cls ≠ "java/lang/invoke/MethodHandle" ∧ yX9_keep.cls ≠ "java/lang/invoke/VarHandle" ∧ (parseMethodDescriptor yX9_keep.desc).map (fun d => d.parameters.length) = some 0 := by decide +kernel
set_option maxRecDepth 100000 in
theorem lX9_sheet_25 : Cond.fieldLink RX9 25 (TX9 8).1 (TX9 8).2.1 (TX9 8).2.2.1 ∈ wsX9_sheet := by decide +kernel
set_option maxRecDepth 100000 in
theorem fX9_sheet_25 : hd_F wsX9_sheet RX9 vwCl 9 8 25 := ⟨RX9, TX9, 28, rfl, by decide, uX9_sheet_X9, lX9_sheet_25⟩
set_option maxRecDepth 100000 in
theorem lX9_sheet_28 : Cond.fieldLink RX9 28 (TX9 9).1 (TX9 9).2.1 (TX9 9).2.2.1 ∈ wsX9_sheet := by decide +kernel
set_option maxRecDepth 100000 in
theorem fX9_sheet_28 : hd_F wsX9_sheet RX9 vwCl 9 9 28 := ⟨RX9, TX9, 28, rfl, by decide, uX9_sheet_X9, lX9_sheet_28⟩
set_option maxRecDepth 100000 in
theorem lX9_sheet_31 : Cond.fieldLink RX9 31 (TX9 10).1 (TX9 10).2.1 (TX9 10).2.2.1 ∈ wsX9_sheet := by decide +kernel
set_option maxRecDepth 100000 in
theorem fX9_sheet_31 : hd_F wsX9_sheet RX9 vwCl 9 10 31 := ⟨RX9, TX9, 28, rfl, by decide, uX9_sheet_X9, lX9_sheet_31⟩
def wc_X9_sheet_59 : hd_xC := (hd_cI (fun x y => decide (x < y)) (hd_iL 4) (hd_iK (8)))
def wb_X9_sheet_59 : hd_xS := (hd_sQ (hd_sA hs_sh (hd_rG hs_sh 9 10 (hd_rL 0)) (hd_iB (fun x y => x + y) (hd_iB (fun x y => x * y) (hd_iK (8)) (hd_iL 1)) (hd_iL 4)) (hd_iK (0))) (hd_sP 4 (1)))
def wo_X9_sheet : hd_xS := (hd_sQ (hd_sF hs_sh 9 0 (hd_rL 0) (hd_iK (0))) (hd_sQ (hd_sW (hd_cO (hd_cO (hd_cX (hd_c0 (fun x => !decide (x = 0)) (hd_iN (hd_nV hs_sh 9 (hd_rL 0) 1 (hd_pI hd_v0 (hd_iL 1)) wm_X9_isHall)))) (hd_cX (hd_c0 (fun x => !decide (x = 0)) (hd_iN (hd_nS 3 (hd_pI (hd_pI (hd_pI hd_v0 (hd_iL 2)) (hd_iK (0))) (hd_iK (2))) wm_X9_in))))) (hd_cI (fun x y => decide (y < x)) (hd_iL 3) (hd_iK (8)))) (hd_sRI (hd_iK (-3)))) (hd_sQ (hd_sW (hd_c0 (fun x => decide (x < 0)) (hd_iL 3)) (hd_sRI (hd_iK (-14)))) (hd_sQ (hd_sN (hd_nV hs_sh 9 (hd_rL 0) 0 hd_v0 wm_X9_keep)) (hd_sQ (hd_sA hs_sh (hd_rG hs_sh 9 8 (hd_rL 0)) (hd_iL 1) (hd_iL 2)) (hd_sQ (hd_sA hs_sh (hd_rG hs_sh 9 9 (hd_rL 0)) (hd_iL 1) (hd_iL 3)) (hd_sQ (hd_sQ (hd_sI 4 (hd_iK (0))) (hd_sH (wc_X9_sheet_59) (wb_X9_sheet_59))) (hd_sRI (hd_iL 3)))))))))
def wm_X9_sheet : hd_M := hd_mth 5 wo_X9_sheet
set_option maxHeartbeats 4000000 in
set_option maxRecDepth 100000 in
theorem snd_X9_sheet : hd_Snd vwCl hs_sh yX9_sheet wsX9_sheet 3 wm_X9_sheet := hd_method (by decide) rfl rfl (by decide) (fun κ C Rk => (hd_seq (p1 := 5) (hd_sputI C (p1 := 1) (p2 := 2) qX9_sheet_58 (hd_aload_n C (kk0 := 0) dX9_sheet_0) (hd_iconst C dX9_sheet_1 (by decide)) dX9_sheet_2) (hd_seq (p1 := 31) (hd_if (p1 := 28) (p2 := 31) (hd_or (p1 := 22) (p2 := 28) (p3 := 31) (hd_or (p1 := 13) (p2 := 28) (p3 := 22) (hd_not (hd_z_neF C (p2 := 10) (tgt := 28) (hd_inI (hd_invV C (p1 := 6) (p2 := 7) snd_X9_isHall hw_X9_isHall gX9_sheet_X9_isHall hs_c_9 yX9_sheet_X9_isHall ⟨by decide, by decide⟩ (by decide) (hd_aload_n C (kk0 := 0) dX9_sheet_5) (hd_apI (p1 := 6) (p2 := 7) hd_av0 (hd_iload_n C (kk0 := 1) dX9_sheet_6)) dX9_sheet_7)) dX9_sheet_10 (by decide))) (hd_not (hd_z_neF C (p2 := 19) (tgt := 28) (hd_inI (hd_invS C (p2 := 16) snd_X9_in hw_X9_in gX9_sheet_X9_in yX9_sheet_X9_in ⟨by decide, by decide⟩ (by decide) (hd_apI (p1 := 15) (p2 := 16) (hd_apI (p1 := 14) (p2 := 15) (hd_apI (p1 := 13) (p2 := 14) hd_av0 (hd_iload_n C (kk0 := 2) dX9_sheet_13)) (hd_iconst C dX9_sheet_14 (by decide))) (hd_iconst C dX9_sheet_15 (by decide))) dX9_sheet_16)) dX9_sheet_19 (by decide)))) (hd_c_gtF C (p1 := 23) (p2 := 25) (tgt := 31) (hd_iload_n C (kk0 := 3) dX9_sheet_22) (hd_bipush C dX9_sheet_23 (by decide)) dX9_sheet_25 (by decide))) (hd_retI C Rk (p1 := 30) (hd_bipush C dX9_sheet_28 (by decide)) dX9_sheet_30) (by decide)) (hd_seq (p1 := 38) (hd_if (p1 := 35) (p2 := 38) (hd_z_ltF C (p2 := 32) (tgt := 38) (hd_iload_n C (kk0 := 3) dX9_sheet_31) dX9_sheet_32 (by decide)) (hd_retI C Rk (p1 := 37) (hd_bipush C dX9_sheet_35 (by decide)) dX9_sheet_37) (by decide)) (hd_seq (p1 := 42) (hd_scall (hd_invV C (p1 := 39) (p2 := 39) snd_X9_keep hw_X9_keep gX9_sheet_X9_keep hs_c_9 yX9_sheet_X9_keep ⟨by decide, by decide⟩ (by decide) (hd_aload_n C (kk0 := 0) dX9_sheet_38) hd_av0 dX9_sheet_39)) (hd_seq (p1 := 49) (hd_siast C (p1 := 46) (p2 := 47) (p3 := 48) (hd_getR C (p1 := 43) fX9_sheet_25 (hd_aload_n C (kk0 := 0) dX9_sheet_42) dX9_sheet_43) (hd_iload_n C (kk0 := 1) dX9_sheet_46) (hd_iload_n C (kk0 := 2) dX9_sheet_47) dX9_sheet_48) (hd_seq (p1 := 56) (hd_siast C (p1 := 53) (p2 := 54) (p3 := 55) (hd_getR C (p1 := 50) fX9_sheet_28 (hd_aload_n C (kk0 := 0) dX9_sheet_49) dX9_sheet_50) (hd_iload_n C (kk0 := 1) dX9_sheet_53) (hd_iload_n C (kk0 := 3) dX9_sheet_54) dX9_sheet_55) (hd_seq (p1 := 85) (hd_seq (p1 := 59) (hd_sistore C (p1 := 57) (hd_iconst C dX9_sheet_56 (by decide)) dX9_sheet_57 (by decide)) (hd_loop C (p1 := 66) (p2 := 85) (hd_c_ltF C (p1 := 61) (p2 := 63) (tgt := 85) (hd_iload C dX9_sheet_59) (hd_bipush C dX9_sheet_61 (by decide)) dX9_sheet_63 (by decide)) (hd_seq (p1 := 79) (hd_siast C (p1 := 70) (p2 := 77) (p3 := 78) (hd_getR C (p1 := 67) fX9_sheet_31 (hd_aload_n C (kk0 := 0) dX9_sheet_66) dX9_sheet_67) (hd_iadd C (p1 := 74) (p2 := 76) (hd_imul C (p1 := 72) (p2 := 73) (hd_bipush C dX9_sheet_70 (by decide)) (hd_iload_n C (kk0 := 1) dX9_sheet_72) dX9_sheet_73) (hd_iload C dX9_sheet_74) dX9_sheet_76) (hd_iconst C dX9_sheet_77 (by decide)) dX9_sheet_78) (hd_sgoto C (p1 := 82) (tgt := 59) (hd_ends (es := [82]) (by decide) (hd_siinc C dX9_sheet_79 (by decide) (by decide))) dX9_sheet_82 (by decide) (by decide))) (by decide))) (hd_retI C Rk (p1 := 86) (hd_iload_n C (kk0 := 3) dX9_sheet_85) dX9_sheet_86)))))))))
/-! X9_sumOf -/
theorem hw_X9_sumOf : wsX9_sumOf = Cond.code yX9_sumOf cX9_sumOf 5 (some .int) :: wsX9_sumOf.tail := rfl
set_option maxRecDepth 100000 in
theorem uX9_sumOf_X9 : ∀ w ∈ u_ws RX9 TX9 28, w ∈ wsX9_sumOf := by decide +kernel
set_option maxRecDepth 100000 in
theorem lX9_sumOf_68 : Cond.fieldLink RX9 68 (TX9 1).1 (TX9 1).2.1 (TX9 1).2.2.1 ∈ wsX9_sumOf := by decide +kernel
set_option maxRecDepth 100000 in
theorem fX9_sumOf_68 : hd_F wsX9_sumOf RX9 vwCl 9 1 68 := ⟨RX9, TX9, 28, rfl, by decide, uX9_sumOf_X9, lX9_sumOf_68⟩
set_option maxRecDepth 100000 in
theorem yX9_sumOf_X9_has : yX9_has.cls ≠ "java/lang/invoke/MethodHandle" ∧ yX9_has.cls ≠ "java/lang/invoke/VarHandle" ∧ (parseMethodDescriptor yX9_has.desc).map (fun d => d.parameters.length) = some 2 := by decide +kernel
set_option maxRecDepth 100000 in
theorem lX9_sumOf_7 : Cond.fieldLink RX9 7 (TX9 3).1 (TX9 3).2.1 (TX9 3).2.2.1 ∈ wsX9_sumOf := by decide +kernel
set_option maxRecDepth 100000 in
theorem fX9_sumOf_7 : hd_F wsX9_sumOf RX9 vwCl 9 3 7 := ⟨RX9, TX9, 28, rfl, by decide, uX9_sumOf_X9, lX9_sumOf_7⟩
set_option maxRecDepth 100000 in
theorem yX9_sumOf_X9_nearest : yX9_nearest.cls = RX9 ∧ yX9_nearest.cls ≠ "java/lang/invoke/MethodHandle" ∧ yX9_nearest.cls ≠ "java/lang/invoke/VarHandle" ∧ (parseMethodDescriptor yX9_nearest.desc).map (fun d => d.parameters.length) = some 2 := by decide +kernel
set_option maxRecDepth 100000 in
theorem yX9_sumOf_X9_wayOf : yX9_wayOf.cls = RX9 ∧ yX9_wayOf.cls ≠ "java/lang/invoke/MethodHandle" ∧ yX9_wayOf.cls ≠ "java/lang/invoke/VarHandle" ∧ (parseMethodDescriptor yX9_wayOf.desc).map (fun d => d.parameters.length) = some 2 := by decide +kernel
def wc_X9_sumOf_5 : hd_xC := (hd_cI (fun x y => decide (x < y)) (hd_iL 4) (hd_iG hs_sh 9 1 (hd_rL 0)))
def wb_X9_sumOf_5 : hd_xS := (hd_sQ (hd_sI 3 (hd_iB (fun x y => x + y) (hd_iL 3) (hd_iQ (hd_c0 (fun x => !decide (x = 0)) (hd_iN (hd_nS 2 (hd_pI (hd_pI hd_v0 (hd_iL 2)) (hd_iL 4)) wm_X9_has))) (hd_iB (fun x y => x * y) (hd_iA hs_sh (hd_rG hs_sh 9 3 (hd_rL 0)) (hd_iL 4)) (hd_iN (hd_nV hs_sh 9 (hd_rL 0) 2 (hd_pI (hd_pI hd_v0 (hd_iN (hd_nV hs_sh 9 (hd_rL 0) 2 (hd_pI (hd_pI hd_v0 (hd_iL 1)) (hd_iL 4)) wm_X9_nearest))) (hd_iL 4)) wm_X9_wayOf))) (hd_iK (0))))) (hd_sP 4 (1)))
def wo_X9_sumOf : hd_xS := (hd_sQ (hd_sI 3 (hd_iK (0))) (hd_sQ (hd_sQ (hd_sI 4 (hd_iK (0))) (hd_sH (wc_X9_sumOf_5) (wb_X9_sumOf_5))) (hd_sRI (hd_iL 3))))
def wm_X9_sumOf : hd_M := hd_mth 5 wo_X9_sumOf
set_option maxHeartbeats 4000000 in
set_option maxRecDepth 100000 in
theorem snd_X9_sumOf : hd_Snd vwCl hs_sh yX9_sumOf wsX9_sumOf 3 wm_X9_sumOf := hd_method (by decide) rfl rfl (by decide) (fun κ C Rk => (hd_seq (p1 := 2) (hd_sistore_n C (kk0 := 3) (p1 := 1) (hd_iconst C dX9_sumOf_0 (by decide)) dX9_sumOf_1 (by decide)) (hd_seq (p1 := 57) (hd_seq (p1 := 5) (hd_sistore C (p1 := 3) (hd_iconst C dX9_sumOf_2 (by decide)) dX9_sumOf_3 (by decide)) (hd_loop C (p1 := 14) (p2 := 57) (hd_c_ltF C (p1 := 7) (p2 := 11) (tgt := 57) (hd_iload C dX9_sumOf_5) (hd_getI C (p1 := 8) fX9_sumOf_68 (hd_aload_n C (kk0 := 0) dX9_sumOf_7) dX9_sumOf_8) dX9_sumOf_11 (by decide)) (hd_seq (p1 := 51) (hd_sistore_n C (kk0 := 3) (p1 := 50) (hd_iadd C (p1 := 15) (p2 := 49) (hd_iload_n C (kk0 := 3) dX9_sumOf_14) (hd_tnI C (p1 := 24) (p2 := 45) (p3 := 48) (p4 := 49) (hd_z_neF C (p2 := 21) (tgt := 48) (hd_inI (hd_invS C (p2 := 18) snd_X9_has hw_X9_has gX9_sumOf_X9_has yX9_sumOf_X9_has ⟨by decide, by decide⟩ (by decide) (hd_apI (p1 := 16) (p2 := 18) (hd_apI (p1 := 15) (p2 := 16) hd_av0 (hd_iload_n C (kk0 := 2) dX9_sumOf_15)) (hd_iload C dX9_sumOf_16)) dX9_sumOf_18)) dX9_sumOf_21 (by decide)) (hd_imul C (p1 := 31) (p2 := 44) (hd_iald C (p1 := 28) (p2 := 30) (hd_getR C (p1 := 25) fX9_sumOf_7 (hd_aload_n C (kk0 := 0) dX9_sumOf_24) dX9_sumOf_25) (hd_iload C dX9_sumOf_28) dX9_sumOf_30) (hd_inI (hd_invV C (p1 := 32) (p2 := 41) snd_X9_wayOf hw_X9_wayOf gX9_sumOf_X9_wayOf hs_c_9 yX9_sumOf_X9_wayOf ⟨by decide, by decide⟩ (by decide) (hd_aload_n C (kk0 := 0) dX9_sumOf_31) (hd_apI (p1 := 39) (p2 := 41) (hd_apI (p1 := 32) (p2 := 39) hd_av0 (hd_inI (hd_invV C (p1 := 33) (p2 := 36) snd_X9_nearest hw_X9_nearest gX9_sumOf_X9_nearest hs_c_9 yX9_sumOf_X9_nearest ⟨by decide, by decide⟩ (by decide) (hd_aload_n C (kk0 := 0) dX9_sumOf_32) (hd_apI (p1 := 34) (p2 := 36) (hd_apI (p1 := 33) (p2 := 34) hd_av0 (hd_iload_n C (kk0 := 1) dX9_sumOf_33)) (hd_iload C dX9_sumOf_34)) dX9_sumOf_36))) (hd_iload C dX9_sumOf_39)) dX9_sumOf_41)) dX9_sumOf_44) dX9_sumOf_45 (by decide) (hd_iconst C dX9_sumOf_48 (by decide))) dX9_sumOf_49) dX9_sumOf_50 (by decide)) (hd_sgoto C (p1 := 54) (tgt := 5) (hd_ends (es := [54]) (by decide) (hd_siinc C dX9_sumOf_51 (by decide) (by decide))) dX9_sumOf_54 (by decide) (by decide))) (by decide))) (hd_retI C Rk (p1 := 58) (hd_iload_n C (kk0 := 3) dX9_sumOf_57) dX9_sumOf_58))))
/-! X9_taken -/
theorem hw_X9_taken : wsX9_taken = Cond.code yX9_taken cX9_taken 5 (some .int) :: wsX9_taken.tail := rfl
set_option maxRecDepth 100000 in
theorem uX9_taken_X9 : ∀ w ∈ u_ws RX9 TX9 28, w ∈ wsX9_taken := by decide +kernel
set_option maxRecDepth 100000 in
theorem lX9_taken_68 : Cond.fieldLink RX9 68 (TX9 1).1 (TX9 1).2.1 (TX9 1).2.2.1 ∈ wsX9_taken := by decide +kernel
set_option maxRecDepth 100000 in
theorem fX9_taken_68 : hd_F wsX9_taken RX9 vwCl 9 1 68 := ⟨RX9, TX9, 28, rfl, by decide, uX9_taken_X9, lX9_taken_68⟩
set_option maxRecDepth 100000 in
theorem yX9_taken_X9_wayOf : yX9_wayOf.cls = RX9 ∧ yX9_wayOf.cls ≠ "java/lang/invoke/MethodHandle" ∧ yX9_wayOf.cls ≠ "java/lang/invoke/VarHandle" ∧ (parseMethodDescriptor yX9_wayOf.desc).map (fun d => d.parameters.length) = some 2 := by decide +kernel
set_option maxRecDepth 100000 in
theorem yX9_taken_X9_nearest : yX9_nearest.cls = RX9 ∧ yX9_nearest.cls ≠ "java/lang/invoke/MethodHandle" ∧ yX9_nearest.cls ≠ "java/lang/invoke/VarHandle" ∧ (parseMethodDescriptor yX9_nearest.desc).map (fun d => d.parameters.length) = some 2 := by decide +kernel
set_option maxRecDepth 100000 in
theorem lX9_taken_7 : Cond.fieldLink RX9 7 (TX9 3).1 (TX9 3).2.1 (TX9 3).2.2.1 ∈ wsX9_taken := by decide +kernel
set_option maxRecDepth 100000 in
theorem fX9_taken_7 : hd_F wsX9_taken RX9 vwCl 9 3 7 := ⟨RX9, TX9, 28, rfl, by decide, uX9_taken_X9, lX9_taken_7⟩
def wc_X9_taken_5 : hd_xC := (hd_cI (fun x y => decide (x < y)) (hd_iL 4) (hd_iG hs_sh 9 1 (hd_rL 0)))
def wb_X9_taken_5 : hd_xS := (hd_sQ (hd_sI 3 (hd_iB (fun x y => x + y) (hd_iL 3) (hd_iQ (hd_cI (fun x y => decide (x < y)) (hd_iN (hd_nV hs_sh 9 (hd_rL 0) 2 (hd_pI (hd_pI hd_v0 (hd_iL 2)) (hd_iL 4)) wm_X9_wayOf)) (hd_iN (hd_nV hs_sh 9 (hd_rL 0) 2 (hd_pI (hd_pI hd_v0 (hd_iN (hd_nV hs_sh 9 (hd_rL 0) 2 (hd_pI (hd_pI hd_v0 (hd_iL 1)) (hd_iL 4)) wm_X9_nearest))) (hd_iL 4)) wm_X9_wayOf))) (hd_iA hs_sh (hd_rG hs_sh 9 3 (hd_rL 0)) (hd_iL 4)) (hd_iK (0))))) (hd_sP 4 (1)))
def wo_X9_taken : hd_xS := (hd_sQ (hd_sI 3 (hd_iK (0))) (hd_sQ (hd_sQ (hd_sI 4 (hd_iK (0))) (hd_sH (wc_X9_taken_5) (wb_X9_taken_5))) (hd_sRI (hd_iL 3))))
def wm_X9_taken : hd_M := hd_mth 5 wo_X9_taken
set_option maxHeartbeats 4000000 in
set_option maxRecDepth 100000 in
theorem snd_X9_taken : hd_Snd vwCl hs_sh yX9_taken wsX9_taken 3 wm_X9_taken := hd_method (by decide) rfl rfl (by decide) (fun κ C Rk => (hd_seq (p1 := 2) (hd_sistore_n C (kk0 := 3) (p1 := 1) (hd_iconst C dX9_taken_0 (by decide)) dX9_taken_1 (by decide)) (hd_seq (p1 := 57) (hd_seq (p1 := 5) (hd_sistore C (p1 := 3) (hd_iconst C dX9_taken_2 (by decide)) dX9_taken_3 (by decide)) (hd_loop C (p1 := 14) (p2 := 57) (hd_c_ltF C (p1 := 7) (p2 := 11) (tgt := 57) (hd_iload C dX9_taken_5) (hd_getI C (p1 := 8) fX9_taken_68 (hd_aload_n C (kk0 := 0) dX9_taken_7) dX9_taken_8) dX9_taken_11 (by decide)) (hd_seq (p1 := 51) (hd_sistore_n C (kk0 := 3) (p1 := 50) (hd_iadd C (p1 := 15) (p2 := 49) (hd_iload_n C (kk0 := 3) dX9_taken_14) (hd_tnI C (p1 := 38) (p2 := 45) (p3 := 48) (p4 := 49) (hd_c_ltF C (p1 := 22) (p2 := 35) (tgt := 48) (hd_inI (hd_invV C (p1 := 16) (p2 := 19) snd_X9_wayOf hw_X9_wayOf gX9_taken_X9_wayOf hs_c_9 yX9_taken_X9_wayOf ⟨by decide, by decide⟩ (by decide) (hd_aload_n C (kk0 := 0) dX9_taken_15) (hd_apI (p1 := 17) (p2 := 19) (hd_apI (p1 := 16) (p2 := 17) hd_av0 (hd_iload_n C (kk0 := 2) dX9_taken_16)) (hd_iload C dX9_taken_17)) dX9_taken_19)) (hd_inI (hd_invV C (p1 := 23) (p2 := 32) snd_X9_wayOf hw_X9_wayOf gX9_taken_X9_wayOf hs_c_9 yX9_taken_X9_wayOf ⟨by decide, by decide⟩ (by decide) (hd_aload_n C (kk0 := 0) dX9_taken_22) (hd_apI (p1 := 30) (p2 := 32) (hd_apI (p1 := 23) (p2 := 30) hd_av0 (hd_inI (hd_invV C (p1 := 24) (p2 := 27) snd_X9_nearest hw_X9_nearest gX9_taken_X9_nearest hs_c_9 yX9_taken_X9_nearest ⟨by decide, by decide⟩ (by decide) (hd_aload_n C (kk0 := 0) dX9_taken_23) (hd_apI (p1 := 25) (p2 := 27) (hd_apI (p1 := 24) (p2 := 25) hd_av0 (hd_iload_n C (kk0 := 1) dX9_taken_24)) (hd_iload C dX9_taken_25)) dX9_taken_27))) (hd_iload C dX9_taken_30)) dX9_taken_32)) dX9_taken_35 (by decide)) (hd_iald C (p1 := 42) (p2 := 44) (hd_getR C (p1 := 39) fX9_taken_7 (hd_aload_n C (kk0 := 0) dX9_taken_38) dX9_taken_39) (hd_iload C dX9_taken_42) dX9_taken_44) dX9_taken_45 (by decide) (hd_iconst C dX9_taken_48 (by decide))) dX9_taken_49) dX9_taken_50 (by decide)) (hd_sgoto C (p1 := 54) (tgt := 5) (hd_ends (es := [54]) (by decide) (hd_siinc C dX9_taken_51 (by decide) (by decide))) dX9_taken_54 (by decide) (by decide))) (by decide))) (hd_retI C Rk (p1 := 58) (hd_iload_n C (kk0 := 3) dX9_taken_57) dX9_taken_58))))
/-! X9_town -/
theorem hw_X9_town : wsX9_town = Cond.code yX9_town cX9_town 1 (some .int) :: wsX9_town.tail := rfl
set_option maxRecDepth 100000 in
theorem uX9_town_X9 : ∀ w ∈ u_ws RX9 TX9 28, w ∈ wsX9_town := by decide +kernel
set_option maxRecDepth 100000 in
theorem lX9_town_58 : Cond.fieldLink RX9 58 (TX9 0).1 (TX9 0).2.1 (TX9 0).2.2.1 ∈ wsX9_town := by decide +kernel
set_option maxRecDepth 100000 in
theorem qX9_town_58 : hd_FP wsX9_town RX9 vwCl 9 0 58 .int := ⟨RX9, TX9, 28, tyX9, rfl, by decide, uX9_town_X9, lX9_town_58, tyX9_ok, nmX9, rfl, rfl⟩
set_option maxRecDepth 100000 in
theorem lX9_town_68 : Cond.fieldLink RX9 68 (TX9 1).1 (TX9 1).2.1 (TX9 1).2.2.1 ∈ wsX9_town := by decide +kernel
set_option maxRecDepth 100000 in
theorem fX9_town_68 : hd_F wsX9_town RX9 vwCl 9 1 68 := ⟨RX9, TX9, 28, rfl, by decide, uX9_town_X9, lX9_town_68⟩
set_option maxRecDepth 100000 in
theorem yX9_town_X9_keep : yX9_keep.cls = RX9 ∧ yX9_keep.cls ≠ "java/lang/invoke/MethodHandle" ∧ yX9_keep.cls ≠ "java/lang/invoke/VarHandle" ∧ (parseMethodDescriptor yX9_keep.desc).map (fun d => d.parameters.length) = some 0 := by decide +kernel
set_option maxRecDepth 100000 in
theorem lX9_town_7 : Cond.fieldLink RX9 7 (TX9 3).1 (TX9 3).2.1 (TX9 3).2.2.1 ∈ wsX9_town := by decide +kernel
set_option maxRecDepth 100000 in
theorem fX9_town_7 : hd_F wsX9_town RX9 vwCl 9 3 7 := ⟨RX9, TX9, 28, rfl, by decide, uX9_town_X9, lX9_town_7⟩
set_option maxRecDepth 100000 in
theorem lX9_town_13 : Cond.fieldLink RX9 13 (TX9 4).1 (TX9 4).2.1 (TX9 4).2.2.1 ∈ wsX9_town := by decide +kernel
set_option maxRecDepth 100000 in
theorem fX9_town_13 : hd_F wsX9_town RX9 vwCl 9 4 13 := ⟨RX9, TX9, 28, rfl, by decide, uX9_town_X9, lX9_town_13⟩
set_option maxRecDepth 100000 in
theorem lX9_town_16 : Cond.fieldLink RX9 16 (TX9 5).1 (TX9 5).2.1 (TX9 5).2.2.1 ∈ wsX9_town := by decide +kernel
set_option maxRecDepth 100000 in
theorem fX9_town_16 : hd_F wsX9_town RX9 vwCl 9 5 16 := ⟨RX9, TX9, 28, rfl, by decide, uX9_town_X9, lX9_town_16⟩
set_option maxRecDepth 100000 in
theorem qX9_town_68 : hd_FP wsX9_town RX9 vwCl 9 1 68 .int := ⟨RX9, TX9, 28, tyX9, rfl, by decide, uX9_town_X9, lX9_town_68, tyX9_ok, nmX9, rfl, rfl⟩
def wo_X9_town : hd_xS := (hd_sQ (hd_sF hs_sh 9 0 (hd_rL 0) (hd_iK (0))) (hd_sQ (hd_sW (hd_cI (fun x y => decide (x = y)) (hd_iG hs_sh 9 1 (hd_rL 0)) (hd_iK (8))) (hd_sRI (hd_iK (-5)))) (hd_sQ (hd_sN (hd_nV hs_sh 9 (hd_rL 0) 0 hd_v0 wm_X9_keep)) (hd_sQ (hd_sA hs_sh (hd_rG hs_sh 9 3 (hd_rL 0)) (hd_iG hs_sh 9 1 (hd_rL 0)) (hd_iK (1))) (hd_sQ (hd_sA hs_sh (hd_rG hs_sh 9 4 (hd_rL 0)) (hd_iG hs_sh 9 1 (hd_rL 0)) (hd_iK (0))) (hd_sQ (hd_sA hs_sh (hd_rG hs_sh 9 5 (hd_rL 0)) (hd_iG hs_sh 9 1 (hd_rL 0)) (hd_iK (0))) (hd_sQ (hd_sG (fun x y => x + y) hs_sh 9 1 (hd_rL 0) (hd_iK (1))) (hd_sRI (hd_iB (fun x y => x - y) (hd_iG hs_sh 9 1 (hd_rL 0)) (hd_iK (1)))))))))))
def wm_X9_town : hd_M := hd_mth 1 wo_X9_town
set_option maxHeartbeats 4000000 in
set_option maxRecDepth 100000 in
theorem snd_X9_town : hd_Snd vwCl hs_sh yX9_town wsX9_town 3 wm_X9_town := hd_method (by decide) rfl rfl (by decide) (fun κ C Rk => (hd_seq (p1 := 5) (hd_sputI C (p1 := 1) (p2 := 2) qX9_town_58 (hd_aload_n C (kk0 := 0) dX9_town_0) (hd_iconst C dX9_town_1 (by decide)) dX9_town_2) (hd_seq (p1 := 17) (hd_if (p1 := 14) (p2 := 17) (hd_c_eqF C (p1 := 9) (p2 := 11) (tgt := 17) (hd_getI C (p1 := 6) fX9_town_68 (hd_aload_n C (kk0 := 0) dX9_town_5) dX9_town_6) (hd_bipush C dX9_town_9 (by decide)) dX9_town_11 (by decide)) (hd_retI C Rk (p1 := 16) (hd_bipush C dX9_town_14 (by decide)) dX9_town_16) (by decide)) (hd_seq (p1 := 21) (hd_scall (hd_invV C (p1 := 18) (p2 := 18) snd_X9_keep hw_X9_keep gX9_town_X9_keep hs_c_9 yX9_town_X9_keep ⟨by decide, by decide⟩ (by decide) (hd_aload_n C (kk0 := 0) dX9_town_17) hd_av0 dX9_town_18)) (hd_seq (p1 := 31) (hd_siast C (p1 := 25) (p2 := 29) (p3 := 30) (hd_getR C (p1 := 22) fX9_town_7 (hd_aload_n C (kk0 := 0) dX9_town_21) dX9_town_22) (hd_getI C (p1 := 26) fX9_town_68 (hd_aload_n C (kk0 := 0) dX9_town_25) dX9_town_26) (hd_iconst C dX9_town_29 (by decide)) dX9_town_30) (hd_seq (p1 := 41) (hd_siast C (p1 := 35) (p2 := 39) (p3 := 40) (hd_getR C (p1 := 32) fX9_town_13 (hd_aload_n C (kk0 := 0) dX9_town_31) dX9_town_32) (hd_getI C (p1 := 36) fX9_town_68 (hd_aload_n C (kk0 := 0) dX9_town_35) dX9_town_36) (hd_iconst C dX9_town_39 (by decide)) dX9_town_40) (hd_seq (p1 := 51) (hd_siast C (p1 := 45) (p2 := 49) (p3 := 50) (hd_getR C (p1 := 42) fX9_town_16 (hd_aload_n C (kk0 := 0) dX9_town_41) dX9_town_42) (hd_getI C (p1 := 46) fX9_town_68 (hd_aload_n C (kk0 := 0) dX9_town_45) dX9_town_46) (hd_iconst C dX9_town_49 (by decide)) dX9_town_50) (hd_seq (p1 := 61) (hd_sfld_iadd C (p1 := 52) (p2 := 57) fX9_town_68 qX9_town_68 (hd_aload_n C (kk0 := 0) dX9_town_51) dX9_town_52 dX9_town_53 (hd_iconst C dX9_town_56 (by decide)) dX9_town_57 dX9_town_58) (hd_retI C Rk (p1 := 67) (hd_isub C (p1 := 65) (p2 := 66) (hd_getI C (p1 := 62) fX9_town_68 (hd_aload_n C (kk0 := 0) dX9_town_61) dX9_town_62) (hd_iconst C dX9_town_65 (by decide)) dX9_town_66) dX9_town_67)))))))))
/-! X9_way -/
theorem hw_X9_way : wsX9_way = Cond.code yX9_way cX9_way 5 (some .int) :: wsX9_way.tail := rfl
set_option maxRecDepth 100000 in
theorem uX9_way_X9 : ∀ w ∈ u_ws RX9 TX9 28, w ∈ wsX9_way := by decide +kernel
set_option maxRecDepth 100000 in
theorem lX9_way_58 : Cond.fieldLink RX9 58 (TX9 0).1 (TX9 0).2.1 (TX9 0).2.2.1 ∈ wsX9_way := by decide +kernel
set_option maxRecDepth 100000 in
theorem qX9_way_58 : hd_FP wsX9_way RX9 vwCl 9 0 58 .int := ⟨RX9, TX9, 28, tyX9, rfl, by decide, uX9_way_X9, lX9_way_58, tyX9_ok, nmX9, rfl, rfl⟩
set_option maxRecDepth 100000 in
theorem yX9_way_X9_isHall : yX9_isHall.cls = RX9 ∧ yX9_isHall.cls ≠ "java/lang/invoke/MethodHandle" ∧ yX9_isHall.cls ≠ "java/lang/invoke/VarHandle" ∧ (parseMethodDescriptor yX9_isHall.desc).map (fun d => d.parameters.length) = some 1 := by decide +kernel
set_option maxRecDepth 100000 in
theorem lX9_way_25 : Cond.fieldLink RX9 25 (TX9 8).1 (TX9 8).2.1 (TX9 8).2.2.1 ∈ wsX9_way := by decide +kernel
set_option maxRecDepth 100000 in
theorem fX9_way_25 : hd_F wsX9_way RX9 vwCl 9 8 25 := ⟨RX9, TX9, 28, rfl, by decide, uX9_way_X9, lX9_way_25⟩
set_option maxRecDepth 100000 in
theorem lX9_way_28 : Cond.fieldLink RX9 28 (TX9 9).1 (TX9 9).2.1 (TX9 9).2.2.1 ∈ wsX9_way := by decide +kernel
set_option maxRecDepth 100000 in
theorem fX9_way_28 : hd_F wsX9_way RX9 vwCl 9 9 28 := ⟨RX9, TX9, 28, rfl, by decide, uX9_way_X9, lX9_way_28⟩
set_option maxRecDepth 100000 in
theorem yX9_way_X9_in : yX9_in.cls ≠ "java/lang/invoke/MethodHandle" ∧ yX9_in.cls ≠ "java/lang/invoke/VarHandle" ∧ (parseMethodDescriptor yX9_in.desc).map (fun d => d.parameters.length) = some 3 := by decide +kernel
set_option maxRecDepth 100000 in
theorem yX9_way_X9_keep : yX9_keep.cls = RX9 ∧ yX9_keep.cls ≠ "java/lang/invoke/MethodHandle" ∧ yX9_keep.cls ≠ "java/lang/invoke/VarHandle" ∧ (parseMethodDescriptor yX9_keep.desc).map (fun d => d.parameters.length) = some 0 := by decide +kernel
set_option maxRecDepth 100000 in
theorem lX9_way_31 : Cond.fieldLink RX9 31 (TX9 10).1 (TX9 10).2.1 (TX9 10).2.2.1 ∈ wsX9_way := by decide +kernel
set_option maxRecDepth 100000 in
theorem fX9_way_31 : hd_F wsX9_way RX9 vwCl 9 10 31 := ⟨RX9, TX9, 28, rfl, by decide, uX9_way_X9, lX9_way_31⟩
def wo_X9_way : hd_xS := (hd_sQ (hd_sF hs_sh 9 0 (hd_rL 0) (hd_iK (0))) (hd_sQ (hd_sW (hd_cX (hd_c0 (fun x => !decide (x = 0)) (hd_iN (hd_nV hs_sh 9 (hd_rL 0) 1 (hd_pI hd_v0 (hd_iL 1)) wm_X9_isHall)))) (hd_sRI (hd_iK (-3)))) (hd_sQ (hd_sW (hd_cI (fun x y => decide (x = y)) (hd_iA hs_sh (hd_rG hs_sh 9 8 (hd_rL 0)) (hd_iL 1)) (hd_iK (-1))) (hd_sRI (hd_iK (-11)))) (hd_sQ (hd_sW (hd_cX (hd_c0 (fun x => !decide (x = 0)) (hd_iN (hd_nS 3 (hd_pI (hd_pI (hd_pI hd_v0 (hd_iL 2)) (hd_iK (0))) (hd_iB (fun x y => x - y) (hd_iA hs_sh (hd_rG hs_sh 9 9 (hd_rL 0)) (hd_iL 1)) (hd_iK (1)))) wm_X9_in)))) (hd_sRI (hd_iK (-13)))) (hd_sQ (hd_sW (hd_cX (hd_c0 (fun x => !decide (x = 0)) (hd_iN (hd_nS 3 (hd_pI (hd_pI (hd_pI hd_v0 (hd_iL 3)) (hd_iK (0))) (hd_iQ (hd_c0 (fun x => decide (x = 0)) (hd_iA hs_sh (hd_rG hs_sh 9 8 (hd_rL 0)) (hd_iL 1))) (hd_iK (127)) (hd_iK (1000)))) wm_X9_in)))) (hd_sRI (hd_iK (-3)))) (hd_sQ (hd_sN (hd_nV hs_sh 9 (hd_rL 0) 0 hd_v0 wm_X9_keep)) (hd_sQ (hd_sI 4 (hd_iA hs_sh (hd_rG hs_sh 9 10 (hd_rL 0)) (hd_iB (fun x y => x + y) (hd_iB (fun x y => x * y) (hd_iK (8)) (hd_iL 1)) (hd_iL 2)))) (hd_sQ (hd_sA hs_sh (hd_rG hs_sh 9 10 (hd_rL 0)) (hd_iB (fun x y => x + y) (hd_iB (fun x y => x * y) (hd_iK (8)) (hd_iL 1)) (hd_iL 2)) (hd_iL 3)) (hd_sRI (hd_iL 4))))))))))
def wm_X9_way : hd_M := hd_mth 5 wo_X9_way
set_option maxHeartbeats 4000000 in
set_option maxRecDepth 100000 in
theorem snd_X9_way : hd_Snd vwCl hs_sh yX9_way wsX9_way 3 wm_X9_way := hd_method (by decide) rfl rfl (by decide) (fun κ C Rk => (hd_seq (p1 := 5) (hd_sputI C (p1 := 1) (p2 := 2) qX9_way_58 (hd_aload_n C (kk0 := 0) dX9_way_0) (hd_iconst C dX9_way_1 (by decide)) dX9_way_2) (hd_seq (p1 := 16) (hd_if (p1 := 13) (p2 := 16) (hd_not (hd_z_neT C (p2 := 10) (tgt := 16) (hd_inI (hd_invV C (p1 := 6) (p2 := 7) snd_X9_isHall hw_X9_isHall gX9_way_X9_isHall hs_c_9 yX9_way_X9_isHall ⟨by decide, by decide⟩ (by decide) (hd_aload_n C (kk0 := 0) dX9_way_5) (hd_apI (p1 := 6) (p2 := 7) hd_av0 (hd_iload_n C (kk0 := 1) dX9_way_6)) dX9_way_7)) dX9_way_10 (by decide))) (hd_retI C Rk (p1 := 15) (hd_bipush C dX9_way_13 (by decide)) dX9_way_15) (by decide)) (hd_seq (p1 := 29) (hd_if (p1 := 26) (p2 := 29) (hd_c_eqF C (p1 := 22) (p2 := 23) (tgt := 29) (hd_iald C (p1 := 20) (p2 := 21) (hd_getR C (p1 := 17) fX9_way_25 (hd_aload_n C (kk0 := 0) dX9_way_16) dX9_way_17) (hd_iload_n C (kk0 := 1) dX9_way_20) dX9_way_21) (hd_iconst C dX9_way_22 (by decide)) dX9_way_23 (by decide)) (hd_retI C Rk (p1 := 28) (hd_bipush C dX9_way_26 (by decide)) dX9_way_28) (by decide)) (hd_seq (p1 := 48) (hd_if (p1 := 45) (p2 := 48) (hd_not (hd_z_neT C (p2 := 42) (tgt := 48) (hd_inI (hd_invS C (p2 := 39) snd_X9_in hw_X9_in gX9_way_X9_in yX9_way_X9_in ⟨by decide, by decide⟩ (by decide) (hd_apI (p1 := 31) (p2 := 39) (hd_apI (p1 := 30) (p2 := 31) (hd_apI (p1 := 29) (p2 := 30) hd_av0 (hd_iload_n C (kk0 := 2) dX9_way_29)) (hd_iconst C dX9_way_30 (by decide))) (hd_isub C (p1 := 37) (p2 := 38) (hd_iald C (p1 := 35) (p2 := 36) (hd_getR C (p1 := 32) fX9_way_28 (hd_aload_n C (kk0 := 0) dX9_way_31) dX9_way_32) (hd_iload_n C (kk0 := 1) dX9_way_35) dX9_way_36) (hd_iconst C dX9_way_37 (by decide)) dX9_way_38)) dX9_way_39)) dX9_way_42 (by decide))) (hd_retI C Rk (p1 := 47) (hd_bipush C dX9_way_45 (by decide)) dX9_way_47) (by decide)) (hd_seq (p1 := 76) (hd_if (p1 := 73) (p2 := 76) (hd_not (hd_z_neT C (p2 := 70) (tgt := 76) (hd_inI (hd_invS C (p2 := 67) snd_X9_in hw_X9_in gX9_way_X9_in yX9_way_X9_in ⟨by decide, by decide⟩ (by decide) (hd_apI (p1 := 50) (p2 := 67) (hd_apI (p1 := 49) (p2 := 50) (hd_apI (p1 := 48) (p2 := 49) hd_av0 (hd_iload_n C (kk0 := 3) dX9_way_48)) (hd_iconst C dX9_way_49 (by decide))) (hd_tnI C (p1 := 59) (p2 := 61) (p3 := 64) (p4 := 67) (hd_z_eqF C (p2 := 56) (tgt := 64) (hd_iald C (p1 := 54) (p2 := 55) (hd_getR C (p1 := 51) fX9_way_25 (hd_aload_n C (kk0 := 0) dX9_way_50) dX9_way_51) (hd_iload_n C (kk0 := 1) dX9_way_54) dX9_way_55) dX9_way_56 (by decide)) (hd_bipush C dX9_way_59 (by decide)) dX9_way_61 (by decide) (hd_sipush C dX9_way_64 (by decide)))) dX9_way_67)) dX9_way_70 (by decide))) (hd_retI C Rk (p1 := 75) (hd_bipush C dX9_way_73 (by decide)) dX9_way_75) (by decide)) (hd_seq (p1 := 80) (hd_scall (hd_invV C (p1 := 77) (p2 := 77) snd_X9_keep hw_X9_keep gX9_way_X9_keep hs_c_9 yX9_way_X9_keep ⟨by decide, by decide⟩ (by decide) (hd_aload_n C (kk0 := 0) dX9_way_76) hd_av0 dX9_way_77)) (hd_seq (p1 := 93) (hd_sistore C (p1 := 91) (hd_iald C (p1 := 84) (p2 := 90) (hd_getR C (p1 := 81) fX9_way_31 (hd_aload_n C (kk0 := 0) dX9_way_80) dX9_way_81) (hd_iadd C (p1 := 88) (p2 := 89) (hd_imul C (p1 := 86) (p2 := 87) (hd_bipush C dX9_way_84 (by decide)) (hd_iload_n C (kk0 := 1) dX9_way_86) dX9_way_87) (hd_iload_n C (kk0 := 2) dX9_way_88) dX9_way_89) dX9_way_90) dX9_way_91 (by decide)) (hd_seq (p1 := 105) (hd_siast C (p1 := 97) (p2 := 103) (p3 := 104) (hd_getR C (p1 := 94) fX9_way_31 (hd_aload_n C (kk0 := 0) dX9_way_93) dX9_way_94) (hd_iadd C (p1 := 101) (p2 := 102) (hd_imul C (p1 := 99) (p2 := 100) (hd_bipush C dX9_way_97 (by decide)) (hd_iload_n C (kk0 := 1) dX9_way_99) dX9_way_100) (hd_iload_n C (kk0 := 2) dX9_way_101) dX9_way_102) (hd_iload_n C (kk0 := 3) dX9_way_103) dX9_way_104) (hd_retI C Rk (p1 := 107) (hd_iload C dX9_way_105) dX9_way_107))))))))))
/-! X0_alikeRounds -/
theorem hw_X0_alikeRounds : wsX0_alikeRounds = Cond.code yX0_alikeRounds cX0_alikeRounds 6 (some .int) :: wsX0_alikeRounds.tail := rfl
set_option maxRecDepth 100000 in
theorem uX0_alikeRounds_X0 : ∀ w ∈ u_ws RX0 TX0 3, w ∈ wsX0_alikeRounds := by decide +kernel
set_option maxRecDepth 100000 in
theorem lX0_alikeRounds_18 : Cond.fieldLink RX0 18 (TX0 0).1 (TX0 0).2.1 (TX0 0).2.2.1 ∈ wsX0_alikeRounds := by decide +kernel
set_option maxRecDepth 100000 in
theorem fX0_alikeRounds_18 : hd_F wsX0_alikeRounds RX0 vwCl 0 0 18 := ⟨RX0, TX0, 3, rfl, by decide, uX0_alikeRounds_X0, lX0_alikeRounds_18⟩
set_option maxRecDepth 100000 in
theorem uX0_alikeRounds_X5 : ∀ w ∈ u_ws RX5 TX5 10, w ∈ wsX0_alikeRounds := by decide +kernel
set_option maxRecDepth 100000 in
theorem lX0_alikeRounds_22 : Cond.fieldLink RX0 22 (TX5 0).1 (TX5 0).2.1 (TX5 0).2.2.1 ∈ wsX0_alikeRounds := by decide +kernel
set_option maxRecDepth 100000 in
theorem fX0_alikeRounds_22 : hd_F wsX0_alikeRounds RX0 vwCl 5 0 22 := ⟨RX5, TX5, 10, rfl, by decide, uX0_alikeRounds_X5, lX0_alikeRounds_22⟩
set_option maxRecDepth 100000 in
theorem yX0_alikeRounds_X5_isIn : yX5_isIn.cls ≠ "java/lang/invoke/MethodHandle" ∧ yX5_isIn.cls ≠ "java/lang/invoke/VarHandle" ∧ (parseMethodDescriptor yX5_isIn.desc).map (fun d => d.parameters.length) = some 2 := by decide +kernel
set_option maxRecDepth 100000 in
theorem yX0_alikeRounds_X0_roundsTillPaying : yX0_roundsTillPaying.cls = RX0 ∧ yX0_roundsTillPaying.cls ≠ "java/lang/invoke/MethodHandle" ∧ yX0_roundsTillPaying.cls ≠ "java/lang/invoke/VarHandle" ∧ (parseMethodDescriptor yX0_roundsTillPaying.desc).map (fun d => d.parameters.length) = some 2 := by decide +kernel
set_option maxRecDepth 100000 in
theorem wX0_alikeRounds_8 : Cond.methodLink RX0 83 Lib.Math.min.name ∈ wsX0_alikeRounds := by decide +kernel
set_option maxRecDepth 100000 in
theorem wX0_alikeRounds_9 : Cond.static Lib.Math.min.name ∈ wsX0_alikeRounds := by decide +kernel
set_option maxRecDepth 100000 in
theorem wX0_alikeRounds_10 : Cond.initialized "java/lang/Math" ∈ wsX0_alikeRounds := by decide +kernel
set_option maxRecDepth 100000 in
theorem wX0_alikeRounds_11 : Cond.code Lib.Math.min.name Lib.Math.min.code 2 (some .int) ∈ wsX0_alikeRounds := by decide +kernel
set_option maxRecDepth 100000 in
theorem lX0_alikeRounds_32 : Cond.fieldLink RX0 32 (TX5 1).1 (TX5 1).2.1 (TX5 1).2.2.1 ∈ wsX0_alikeRounds := by decide +kernel
set_option maxRecDepth 100000 in
theorem fX0_alikeRounds_32 : hd_F wsX0_alikeRounds RX0 vwCl 5 1 32 := ⟨RX5, TX5, 10, rfl, by decide, uX0_alikeRounds_X5, lX0_alikeRounds_32⟩
set_option maxRecDepth 100000 in
theorem yX0_alikeRounds_X0_payersOf : yX0_payersOf.cls = RX0 ∧ yX0_payersOf.cls ≠ "java/lang/invoke/MethodHandle" ∧ yX0_payersOf.cls ≠ "java/lang/invoke/VarHandle" ∧ (parseMethodDescriptor yX0_payersOf.desc).map (fun d => d.parameters.length) = some 2 := by decide +kernel
set_option maxRecDepth 100000 in
theorem lX0_alikeRounds_15 : Cond.fieldLink RX0 15 (TX0 2).1 (TX0 2).2.1 (TX0 2).2.2.1 ∈ wsX0_alikeRounds := by decide +kernel
set_option maxRecDepth 100000 in
theorem fX0_alikeRounds_15 : hd_F wsX0_alikeRounds RX0 vwCl 0 2 15 := ⟨RX0, TX0, 3, rfl, by decide, uX0_alikeRounds_X0, lX0_alikeRounds_15⟩
def wc_X0_alikeRounds_5 : hd_xC := (hd_cI (fun x y => decide (x < y)) (hd_iL 4) (hd_iG hs_sh 5 0 (hd_rG hs_sh 0 0 (hd_rL 0))))
def wb_X0_alikeRounds_5 : hd_xS := (hd_sQ (hd_sW (hd_c0 (fun x => !decide (x = 0)) (hd_iN (hd_nS 2 (hd_pI (hd_pI hd_v0 (hd_iL 4)) (hd_iL 1)) wm_X5_isIn))) (hd_sI 3 (hd_iB (fun x y => if y < x then y else x) (hd_iL 3) (hd_iN (hd_nV hs_sh 0 (hd_rL 0) 2 (hd_pI (hd_pI hd_v0 (hd_iL 4)) (hd_iL 2)) wm_X0_roundsTillPaying))))) (hd_sP 4 (1)))
def wc_X0_alikeRounds_47 : hd_xC := (hd_cI (fun x y => decide (x < y)) (hd_iL 4) (hd_iG hs_sh 5 1 (hd_rG hs_sh 0 0 (hd_rL 0))))
def wb_X0_alikeRounds_47 : hd_xS := (hd_sQ (hd_sQ (hd_sI 5 (hd_iN (hd_nV hs_sh 0 (hd_rL 0) 2 (hd_pI (hd_pI hd_v0 (hd_iL 4)) (hd_iL 1)) wm_X0_payersOf))) (hd_sW (hd_c0 (fun x => decide (0 < x)) (hd_iL 5)) (hd_sI 3 (hd_iB (fun x y => if y < x then y else x) (hd_iL 3) (hd_iD (fun x y => x / y) (hd_iA hs_sh (hd_rG hs_sh 0 2 (hd_rL 0)) (hd_iL 4)) (hd_iL 5)))))) (hd_sP 4 (1)))
def wo_X0_alikeRounds : hd_xS := (hd_sQ (hd_sI 3 (hd_iL 2)) (hd_sQ (hd_sQ (hd_sI 4 (hd_iK (0))) (hd_sH (wc_X0_alikeRounds_5) (wb_X0_alikeRounds_5))) (hd_sQ (hd_sQ (hd_sI 4 (hd_iK (0))) (hd_sH (wc_X0_alikeRounds_47) (wb_X0_alikeRounds_47))) (hd_sRI (hd_iL 3)))))
def wm_X0_alikeRounds : hd_M := hd_mth 6 wo_X0_alikeRounds
set_option maxHeartbeats 4000000 in
set_option maxRecDepth 100000 in
theorem snd_X0_alikeRounds : hd_Snd vwCl hs_sh yX0_alikeRounds wsX0_alikeRounds 4 wm_X0_alikeRounds := hd_method (by decide) rfl rfl (by decide) (fun κ C Rk => (hd_seq (p1 := 2) (hd_sistore_n C (kk0 := 3) (p1 := 1) (hd_iload_n C (kk0 := 2) dX0_alikeRounds_0) dX0_alikeRounds_1 (by decide)) (hd_seq (p1 := 44) (hd_seq (p1 := 5) (hd_sistore C (p1 := 3) (hd_iconst C dX0_alikeRounds_2 (by decide)) dX0_alikeRounds_3 (by decide)) (hd_loop C (p1 := 17) (p2 := 44) (hd_c_ltF C (p1 := 7) (p2 := 14) (tgt := 44) (hd_iload C dX0_alikeRounds_5) (hd_getI C (p1 := 11) fX0_alikeRounds_22 (hd_getR C (p1 := 8) fX0_alikeRounds_18 (hd_aload_n C (kk0 := 0) dX0_alikeRounds_7) dX0_alikeRounds_8) dX0_alikeRounds_11) dX0_alikeRounds_14 (by decide)) (hd_seq (p1 := 38) (hd_if (p1 := 26) (p2 := 38) (hd_z_neF C (p2 := 23) (tgt := 38) (hd_inI (hd_invS C (p2 := 20) snd_X5_isIn hw_X5_isIn gX0_alikeRounds_X5_isIn yX0_alikeRounds_X5_isIn ⟨by decide, by decide⟩ (by decide) (hd_apI (p1 := 19) (p2 := 20) (hd_apI (p1 := 17) (p2 := 19) hd_av0 (hd_iload C dX0_alikeRounds_17)) (hd_iload_n C (kk0 := 1) dX0_alikeRounds_19)) dX0_alikeRounds_20)) dX0_alikeRounds_23 (by decide)) (hd_sistore_n C (kk0 := 3) (p1 := 37) (hd_mmin C (p1 := 27) (p2 := 34) wX0_alikeRounds_8 wX0_alikeRounds_9 wX0_alikeRounds_10 wX0_alikeRounds_11 (by decide) (hd_iload_n C (kk0 := 3) dX0_alikeRounds_26) (hd_inI (hd_invV C (p1 := 28) (p2 := 31) snd_X0_roundsTillPaying hw_X0_roundsTillPaying gX0_alikeRounds_X0_roundsTillPaying hs_c_0 yX0_alikeRounds_X0_roundsTillPaying ⟨by decide, by decide⟩ (by decide) (hd_aload_n C (kk0 := 0) dX0_alikeRounds_27) (hd_apI (p1 := 30) (p2 := 31) (hd_apI (p1 := 28) (p2 := 30) hd_av0 (hd_iload C dX0_alikeRounds_28)) (hd_iload_n C (kk0 := 2) dX0_alikeRounds_30)) dX0_alikeRounds_31)) dX0_alikeRounds_34) dX0_alikeRounds_37 (by decide)) (by decide)) (hd_sgoto C (p1 := 41) (tgt := 5) (hd_ends (es := [41]) (by decide) (hd_siinc C dX0_alikeRounds_38 (by decide) (by decide))) dX0_alikeRounds_41 (by decide) (by decide))) (by decide))) (hd_seq (p1 := 94) (hd_seq (p1 := 47) (hd_sistore C (p1 := 45) (hd_iconst C dX0_alikeRounds_44 (by decide)) dX0_alikeRounds_45 (by decide)) (hd_loop C (p1 := 59) (p2 := 94) (hd_c_ltF C (p1 := 49) (p2 := 56) (tgt := 94) (hd_iload C dX0_alikeRounds_47) (hd_getI C (p1 := 53) fX0_alikeRounds_32 (hd_getR C (p1 := 50) fX0_alikeRounds_18 (hd_aload_n C (kk0 := 0) dX0_alikeRounds_49) dX0_alikeRounds_50) dX0_alikeRounds_53) dX0_alikeRounds_56 (by decide)) (hd_seq (p1 := 88) (hd_seq (p1 := 68) (hd_sistore C (p1 := 66) (hd_inI (hd_invV C (p1 := 60) (p2 := 63) snd_X0_payersOf hw_X0_payersOf gX0_alikeRounds_X0_payersOf hs_c_0 yX0_alikeRounds_X0_payersOf ⟨by decide, by decide⟩ (by decide) (hd_aload_n C (kk0 := 0) dX0_alikeRounds_59) (hd_apI (p1 := 62) (p2 := 63) (hd_apI (p1 := 60) (p2 := 62) hd_av0 (hd_iload C dX0_alikeRounds_60)) (hd_iload_n C (kk0 := 1) dX0_alikeRounds_62)) dX0_alikeRounds_63)) dX0_alikeRounds_66 (by decide)) (hd_if (p1 := 73) (p2 := 88) (hd_z_gtF C (p2 := 70) (tgt := 88) (hd_iload C dX0_alikeRounds_68) dX0_alikeRounds_70 (by decide)) (hd_sistore_n C (kk0 := 3) (p1 := 87) (hd_mmin C (p1 := 74) (p2 := 84) wX0_alikeRounds_8 wX0_alikeRounds_9 wX0_alikeRounds_10 wX0_alikeRounds_11 (by decide) (hd_iload_n C (kk0 := 3) dX0_alikeRounds_73) (hd_idiv C (p1 := 81) (p2 := 83) (hd_iald C (p1 := 78) (p2 := 80) (hd_getR C (p1 := 75) fX0_alikeRounds_15 (hd_aload_n C (kk0 := 0) dX0_alikeRounds_74) dX0_alikeRounds_75) (hd_iload C dX0_alikeRounds_78) dX0_alikeRounds_80) (hd_iload C dX0_alikeRounds_81) dX0_alikeRounds_83) dX0_alikeRounds_84) dX0_alikeRounds_87 (by decide)) (by decide))) (hd_sgoto C (p1 := 91) (tgt := 47) (hd_ends (es := [91]) (by decide) (hd_siinc C dX0_alikeRounds_88 (by decide) (by decide))) dX0_alikeRounds_91 (by decide) (by decide))) (by decide))) (hd_retI C Rk (p1 := 95) (hd_iload_n C (kk0 := 3) dX0_alikeRounds_94) dX0_alikeRounds_95)))))
/-! X0_freeTowns -/
theorem hw_X0_freeTowns : wsX0_freeTowns = Cond.code yX0_freeTowns cX0_freeTowns 3 (some .int) :: wsX0_freeTowns.tail := rfl
set_option maxRecDepth 100000 in
theorem uX0_freeTowns_X0 : ∀ w ∈ u_ws RX0 TX0 3, w ∈ wsX0_freeTowns := by decide +kernel
set_option maxRecDepth 100000 in
theorem lX0_freeTowns_18 : Cond.fieldLink RX0 18 (TX0 0).1 (TX0 0).2.1 (TX0 0).2.2.1 ∈ wsX0_freeTowns := by decide +kernel
set_option maxRecDepth 100000 in
theorem fX0_freeTowns_18 : hd_F wsX0_freeTowns RX0 vwCl 0 0 18 := ⟨RX0, TX0, 3, rfl, by decide, uX0_freeTowns_X0, lX0_freeTowns_18⟩
set_option maxRecDepth 100000 in
theorem uX0_freeTowns_X5 : ∀ w ∈ u_ws RX5 TX5 10, w ∈ wsX0_freeTowns := by decide +kernel
set_option maxRecDepth 100000 in
theorem lX0_freeTowns_22 : Cond.fieldLink RX0 22 (TX5 0).1 (TX5 0).2.1 (TX5 0).2.2.1 ∈ wsX0_freeTowns := by decide +kernel
set_option maxRecDepth 100000 in
theorem fX0_freeTowns_22 : hd_F wsX0_freeTowns RX0 vwCl 5 0 22 := ⟨RX5, TX5, 10, rfl, by decide, uX0_freeTowns_X5, lX0_freeTowns_22⟩
set_option maxRecDepth 100000 in
theorem yX0_freeTowns_X0_isStopped : yX0_isStopped.cls = RX0 ∧ yX0_isStopped.cls ≠ "java/lang/invoke/MethodHandle" ∧ yX0_isStopped.cls ≠ "java/lang/invoke/VarHandle" ∧ (parseMethodDescriptor yX0_isStopped.desc).map (fun d => d.parameters.length) = some 1 := by decide +kernel
def wc_X0_freeTowns_4 : hd_xC := (hd_cI (fun x y => decide (x < y)) (hd_iL 2) (hd_iG hs_sh 5 0 (hd_rG hs_sh 0 0 (hd_rL 0))))
def wb_X0_freeTowns_4 : hd_xS := (hd_sQ (hd_sI 1 (hd_iB (fun x y => x ||| y) (hd_iL 1) (hd_iQ (hd_c0 (fun x => !decide (x = 0)) (hd_iN (hd_nV hs_sh 0 (hd_rL 0) 1 (hd_pI hd_v0 (hd_iL 2)) wm_X0_isStopped))) (hd_iK (0)) (hd_iB (fun x y => x <<< (y &&& 31)) (hd_iK (1)) (hd_iL 2))))) (hd_sP 2 (1)))
def wo_X0_freeTowns : hd_xS := (hd_sQ (hd_sI 1 (hd_iK (0))) (hd_sQ (hd_sQ (hd_sI 2 (hd_iK (0))) (hd_sH (wc_X0_freeTowns_4) (wb_X0_freeTowns_4))) (hd_sRI (hd_iL 1))))
def wm_X0_freeTowns : hd_M := hd_mth 3 wo_X0_freeTowns
set_option maxHeartbeats 4000000 in
set_option maxRecDepth 100000 in
theorem snd_X0_freeTowns : hd_Snd vwCl hs_sh yX0_freeTowns wsX0_freeTowns 4 wm_X0_freeTowns := hd_method (by decide) rfl rfl (by decide) (fun κ C Rk => (hd_seq (p1 := 2) (hd_sistore_n C (kk0 := 1) (p1 := 1) (hd_iconst C dX0_freeTowns_0 (by decide)) dX0_freeTowns_1 (by decide)) (hd_seq (p1 := 39) (hd_seq (p1 := 4) (hd_sistore_n C (kk0 := 2) (p1 := 3) (hd_iconst C dX0_freeTowns_2 (by decide)) dX0_freeTowns_3 (by decide)) (hd_loop C (p1 := 15) (p2 := 39) (hd_c_ltF C (p1 := 5) (p2 := 12) (tgt := 39) (hd_iload_n C (kk0 := 2) dX0_freeTowns_4) (hd_getI C (p1 := 9) fX0_freeTowns_22 (hd_getR C (p1 := 6) fX0_freeTowns_18 (hd_aload_n C (kk0 := 0) dX0_freeTowns_5) dX0_freeTowns_6) dX0_freeTowns_9) dX0_freeTowns_12 (by decide)) (hd_seq (p1 := 33) (hd_sistore_n C (kk0 := 1) (p1 := 32) (hd_ior C (p1 := 16) (p2 := 31) (hd_iload_n C (kk0 := 1) dX0_freeTowns_15) (hd_tnI C (p1 := 24) (p2 := 25) (p3 := 28) (p4 := 31) (hd_z_neF C (p2 := 21) (tgt := 28) (hd_inI (hd_invV C (p1 := 17) (p2 := 18) snd_X0_isStopped hw_X0_isStopped gX0_freeTowns_X0_isStopped hs_c_0 yX0_freeTowns_X0_isStopped ⟨by decide, by decide⟩ (by decide) (hd_aload_n C (kk0 := 0) dX0_freeTowns_16) (hd_apI (p1 := 17) (p2 := 18) hd_av0 (hd_iload_n C (kk0 := 2) dX0_freeTowns_17)) dX0_freeTowns_18)) dX0_freeTowns_21 (by decide)) (hd_iconst C dX0_freeTowns_24 (by decide)) dX0_freeTowns_25 (by decide) (hd_ishl C (p1 := 29) (p2 := 30) (hd_iconst C dX0_freeTowns_28 (by decide)) (hd_iload_n C (kk0 := 2) dX0_freeTowns_29) dX0_freeTowns_30)) dX0_freeTowns_31) dX0_freeTowns_32 (by decide)) (hd_sgoto C (p1 := 36) (tgt := 4) (hd_ends (es := [36]) (by decide) (hd_siinc C dX0_freeTowns_33 (by decide) (by decide))) dX0_freeTowns_36 (by decide) (by decide))) (by decide))) (hd_retI C Rk (p1 := 40) (hd_iload_n C (kk0 := 1) dX0_freeTowns_39) dX0_freeTowns_40))))
/-! X1_rivalOf -/
theorem hw_X1_rivalOf : wsX1_rivalOf = Cond.code yX1_rivalOf cX1_rivalOf 3 (some .int) :: wsX1_rivalOf.tail := rfl
set_option maxRecDepth 100000 in
theorem yX1_rivalOf_X1_worstRival : yX1_worstRival.cls = RX1 ∧ yX1_worstRival.cls ≠ "java/lang/invoke/MethodHandle" ∧ yX1_worstRival.cls ≠ "java/lang/invoke/VarHandle" ∧ (parseMethodDescriptor yX1_worstRival.desc).map (fun d => d.parameters.length) = some 1 := by decide +kernel
set_option maxRecDepth 100000 in
theorem yX1_rivalOf_X1_takenBy : yX1_takenBy.cls = RX1 ∧ yX1_takenBy.cls ≠ "java/lang/invoke/MethodHandle" ∧ yX1_takenBy.cls ≠ "java/lang/invoke/VarHandle" ∧ (parseMethodDescriptor yX1_takenBy.desc).map (fun d => d.parameters.length) = some 2 := by decide +kernel
def wo_X1_rivalOf : hd_xS := (hd_sQ (hd_sW (hd_c0 (fun x => decide (x = 0)) (hd_iL 1)) (hd_sRI (hd_iK (-1)))) (hd_sQ (hd_sI 2 (hd_iN (hd_nV hs_sh 1 (hd_rL 0) 1 (hd_pI hd_v0 (hd_iL 1)) wm_X1_worstRival))) (hd_sRI (hd_iQ (hd_cI (fun x y => decide (x = y)) (hd_iL 2) (hd_iK (-1))) (hd_iK (0)) (hd_iN (hd_nV hs_sh 1 (hd_rL 0) 2 (hd_pI (hd_pI hd_v0 (hd_iL 2)) (hd_iL 1)) wm_X1_takenBy))))))
def wm_X1_rivalOf : hd_M := hd_mth 3 wo_X1_rivalOf
set_option maxHeartbeats 4000000 in
set_option maxRecDepth 100000 in
theorem snd_X1_rivalOf : hd_Snd vwCl hs_sh yX1_rivalOf wsX1_rivalOf 4 wm_X1_rivalOf := hd_method (by decide) rfl rfl (by decide) (fun κ C Rk => (hd_seq (p1 := 6) (hd_if (p1 := 4) (p2 := 6) (hd_z_eqF C (p2 := 1) (tgt := 6) (hd_iload_n C (kk0 := 1) dX1_rivalOf_0) dX1_rivalOf_1 (by decide)) (hd_retI C Rk (p1 := 5) (hd_iconst C dX1_rivalOf_4 (by decide)) dX1_rivalOf_5) (by decide)) (hd_seq (p1 := 12) (hd_sistore_n C (kk0 := 2) (p1 := 11) (hd_inI (hd_invV C (p1 := 7) (p2 := 8) snd_X1_worstRival hw_X1_worstRival gX1_rivalOf_X1_worstRival hs_c_1 yX1_rivalOf_X1_worstRival ⟨by decide, by decide⟩ (by decide) (hd_aload_n C (kk0 := 0) dX1_rivalOf_6) (hd_apI (p1 := 7) (p2 := 8) hd_av0 (hd_iload_n C (kk0 := 1) dX1_rivalOf_7)) dX1_rivalOf_8)) dX1_rivalOf_11 (by decide)) (hd_retI C Rk (p1 := 27) (hd_tnI C (p1 := 17) (p2 := 18) (p3 := 21) (p4 := 27) (hd_c_eqF C (p1 := 13) (p2 := 14) (tgt := 21) (hd_iload_n C (kk0 := 2) dX1_rivalOf_12) (hd_iconst C dX1_rivalOf_13 (by decide)) dX1_rivalOf_14 (by decide)) (hd_iconst C dX1_rivalOf_17 (by decide)) dX1_rivalOf_18 (by decide) (hd_inI (hd_invV C (p1 := 22) (p2 := 24) snd_X1_takenBy hw_X1_takenBy gX1_rivalOf_X1_takenBy hs_c_1 yX1_rivalOf_X1_takenBy ⟨by decide, by decide⟩ (by decide) (hd_aload_n C (kk0 := 0) dX1_rivalOf_21) (hd_apI (p1 := 23) (p2 := 24) (hd_apI (p1 := 22) (p2 := 23) hd_av0 (hd_iload_n C (kk0 := 2) dX1_rivalOf_22)) (hd_iload_n C (kk0 := 1) dX1_rivalOf_23)) dX1_rivalOf_24))) dX1_rivalOf_27))))
/-! X2_refresh -/
theorem hw_X2_refresh : wsX2_refresh = Cond.code yX2_refresh cX2_refresh 2 none :: wsX2_refresh.tail := rfl
set_option maxRecDepth 100000 in
theorem uX2_refresh_X2 : ∀ w ∈ u_ws RX2 TX2 5, w ∈ wsX2_refresh := by decide +kernel
set_option maxRecDepth 100000 in
theorem lX2_refresh_18 : Cond.fieldLink RX2 18 (TX2 4).1 (TX2 4).2.1 (TX2 4).2.2.1 ∈ wsX2_refresh := by decide +kernel
set_option maxRecDepth 100000 in
theorem fX2_refresh_18 : hd_F wsX2_refresh RX2 vwCl 2 4 18 := ⟨RX2, TX2, 5, rfl, by decide, uX2_refresh_X2, lX2_refresh_18⟩
set_option maxRecDepth 100000 in
theorem qX2_refresh_18 : hd_FP wsX2_refresh RX2 vwCl 2 4 18 .boolean := ⟨RX2, TX2, 5, tyX2, rfl, by decide, uX2_refresh_X2, lX2_refresh_18, tyX2_ok, nmX2, rfl, rfl⟩
set_option maxRecDepth 100000 in
theorem lX2_refresh_26 : Cond.fieldLink RX2 26 (TX2 1).1 (TX2 1).2.1 (TX2 1).2.2.1 ∈ wsX2_refresh := by decide +kernel
set_option maxRecDepth 100000 in
theorem fX2_refresh_26 : hd_F wsX2_refresh RX2 vwCl 2 1 26 := ⟨RX2, TX2, 5, rfl, by decide, uX2_refresh_X2, lX2_refresh_26⟩
set_option maxRecDepth 100000 in
theorem yX2_refresh_X6_refresh : yX6_refresh.cls = RX6 ∧ yX6_refresh.cls ≠ "java/lang/invoke/MethodHandle" ∧ yX6_refresh.cls ≠ "java/lang/invoke/VarHandle" ∧ (parseMethodDescriptor yX6_refresh.desc).map (fun d => d.parameters.length) = some 0 := by decide +kernel
set_option maxRecDepth 100000 in
theorem lX2_refresh_9 : Cond.fieldLink RX2 9 (TX2 2).1 (TX2 2).2.1 (TX2 2).2.2.1 ∈ wsX2_refresh := by decide +kernel
set_option maxRecDepth 100000 in
theorem fX2_refresh_9 : hd_F wsX2_refresh RX2 vwCl 2 2 9 := ⟨RX2, TX2, 5, rfl, by decide, uX2_refresh_X2, lX2_refresh_9⟩
set_option maxRecDepth 100000 in
theorem wX2_refresh_9 : Cond.constant RX2 35 (1073741824) ∈ wsX2_refresh := by decide +kernel
set_option maxRecDepth 100000 in
theorem yX2_refresh_J7_fill_53178 : yJ7_fill_53178.cls ≠ "java/lang/invoke/MethodHandle" ∧ yJ7_fill_53178.cls ≠ "java/lang/invoke/VarHandle" ∧ (parseMethodDescriptor yJ7_fill_53178.desc).map (fun d => d.parameters.length) = some 2 := by decide +kernel
set_option maxRecDepth 100000 in
theorem lX2_refresh_22 : Cond.fieldLink RX2 22 (TX2 0).1 (TX2 0).2.1 (TX2 0).2.2.1 ∈ wsX2_refresh := by decide +kernel
set_option maxRecDepth 100000 in
theorem fX2_refresh_22 : hd_F wsX2_refresh RX2 vwCl 2 0 22 := ⟨RX2, TX2, 5, rfl, by decide, uX2_refresh_X2, lX2_refresh_22⟩
set_option maxRecDepth 100000 in
theorem yX2_refresh_X5_everyHall : yX5_everyHall.cls = RX5 ∧ yX5_everyHall.cls ≠ "java/lang/invoke/MethodHandle" ∧ yX5_everyHall.cls ≠ "java/lang/invoke/VarHandle" ∧ (parseMethodDescriptor yX5_everyHall.desc).map (fun d => d.parameters.length) = some 0 := by decide +kernel
set_option maxRecDepth 100000 in
theorem yX2_refresh_X2_offer : yX2_offer.cls = RX2 ∧ yX2_offer.cls ≠ "java/lang/invoke/MethodHandle" ∧ yX2_offer.cls ≠ "java/lang/invoke/VarHandle" ∧ (parseMethodDescriptor yX2_offer.desc).map (fun d => d.parameters.length) = some 1 := by decide +kernel
def wc_X2_refresh_38 : hd_xC := (hd_cI (fun x y => decide (x ≤ y)) (hd_iL 1) (hd_iN (hd_nV hs_sh 5 (hd_rG hs_sh 2 0 (hd_rL 0)) 0 hd_v0 wm_X5_everyHall)))
def wb_X2_refresh_38 : hd_xS := (hd_sQ (hd_sN (hd_nV hs_sh 2 (hd_rL 0) 1 (hd_pI hd_v0 (hd_iL 1)) wm_X2_offer)) (hd_sP 1 (1)))
def wo_X2_refresh : hd_xS := (hd_sQ (hd_sW (hd_cX (hd_c0 (fun x => !decide (x = 0)) (hd_iG hs_sh 2 4 (hd_rL 0)))) hd_sRV) (hd_sQ (hd_sZ hs_sh 2 4 (hd_rL 0) (hd_iK (0))) (hd_sQ (hd_sN (hd_nV hs_sh 6 (hd_rG hs_sh 2 1 (hd_rL 0)) 0 hd_v0 wm_X6_refresh)) (hd_sQ (hd_sN (hd_nS 2 (hd_pI (hd_pR hd_v0 (hd_rG hs_sh 2 2 (hd_rL 0))) (hd_iK (1073741824))) wm_J7_fill_53178)) (hd_sQ (hd_sA hs_sh (hd_rG hs_sh 2 2 (hd_rL 0)) (hd_iK (0)) (hd_iK (0))) (hd_sQ (hd_sQ (hd_sI 1 (hd_iK (1))) (hd_sH (wc_X2_refresh_38) (wb_X2_refresh_38))) hd_sRV))))))
def wm_X2_refresh : hd_M := hd_mth 2 wo_X2_refresh
set_option maxHeartbeats 4000000 in
set_option maxRecDepth 100000 in
theorem snd_X2_refresh : hd_Snd vwCl hs_sh yX2_refresh wsX2_refresh 4 wm_X2_refresh := hd_method (by decide) rfl rfl (by decide) (fun κ C Rk => (hd_seq (p1 := 8) (hd_if (p1 := 7) (p2 := 8) (hd_not (hd_z_neT C (p2 := 4) (tgt := 8) (hd_getI C (p1 := 1) fX2_refresh_18 (hd_aload_n C (kk0 := 0) dX2_refresh_0) dX2_refresh_1) dX2_refresh_4 (by decide))) (hd_retV C Rk dX2_refresh_7) (by decide)) (hd_seq (p1 := 13) (hd_sputZ C (p1 := 9) (p2 := 10) qX2_refresh_18 (hd_aload_n C (kk0 := 0) dX2_refresh_8) (hd_iconst C dX2_refresh_9 (by decide)) dX2_refresh_10) (hd_seq (p1 := 20) (hd_scall (hd_invV C (p1 := 17) (p2 := 17) snd_X6_refresh hw_X6_refresh gX2_refresh_X6_refresh hs_c_6 yX2_refresh_X6_refresh ⟨by decide, by decide⟩ (by decide) (hd_getR C (p1 := 14) fX2_refresh_26 (hd_aload_n C (kk0 := 0) dX2_refresh_13) dX2_refresh_14) hd_av0 dX2_refresh_17)) (hd_seq (p1 := 29) (hd_scall (hd_invS C (p2 := 26) snd_J7_fill_53178 hw_J7_fill_53178 gX2_refresh_J7_fill_53178 yX2_refresh_J7_fill_53178 ⟨by decide, by decide⟩ (by decide) (hd_apI (p1 := 24) (p2 := 26) (hd_apR (p1 := 20) (p2 := 24) hd_av0 (hd_getR C (p1 := 21) fX2_refresh_9 (hd_aload_n C (kk0 := 0) dX2_refresh_20) dX2_refresh_21)) (hd_ldc C wX2_refresh_9 dX2_refresh_24)) dX2_refresh_26)) (hd_seq (p1 := 36) (hd_siast C (p1 := 33) (p2 := 34) (p3 := 35) (hd_getR C (p1 := 30) fX2_refresh_9 (hd_aload_n C (kk0 := 0) dX2_refresh_29) dX2_refresh_30) (hd_iconst C dX2_refresh_33 (by decide)) (hd_iconst C dX2_refresh_34 (by decide)) dX2_refresh_35) (hd_seq (p1 := 60) (hd_seq (p1 := 38) (hd_sistore_n C (kk0 := 1) (p1 := 37) (hd_iconst C dX2_refresh_36 (by decide)) dX2_refresh_37 (by decide)) (hd_loop C (p1 := 49) (p2 := 60) (hd_c_leF C (p1 := 39) (p2 := 46) (tgt := 60) (hd_iload_n C (kk0 := 1) dX2_refresh_38) (hd_inI (hd_invV C (p1 := 43) (p2 := 43) snd_X5_everyHall hw_X5_everyHall gX2_refresh_X5_everyHall hs_c_5 yX2_refresh_X5_everyHall ⟨by decide, by decide⟩ (by decide) (hd_getR C (p1 := 40) fX2_refresh_22 (hd_aload_n C (kk0 := 0) dX2_refresh_39) dX2_refresh_40) hd_av0 dX2_refresh_43)) dX2_refresh_46 (by decide)) (hd_seq (p1 := 54) (hd_scall (hd_invV C (p1 := 50) (p2 := 51) snd_X2_offer hw_X2_offer gX2_refresh_X2_offer hs_c_2 yX2_refresh_X2_offer ⟨by decide, by decide⟩ (by decide) (hd_aload_n C (kk0 := 0) dX2_refresh_49) (hd_apI (p1 := 50) (p2 := 51) hd_av0 (hd_iload_n C (kk0 := 1) dX2_refresh_50)) dX2_refresh_51)) (hd_sgoto C (p1 := 57) (tgt := 38) (hd_ends (es := [57]) (by decide) (hd_siinc C dX2_refresh_54 (by decide) (by decide))) dX2_refresh_57 (by decide) (by decide))) (by decide))) (hd_retV C Rk dX2_refresh_60))))))))
/-! X3_mostFor -/
theorem hw_X3_mostFor : wsX3_mostFor = Cond.code yX3_mostFor cX3_mostFor 4 (some .int) :: wsX3_mostFor.tail := rfl
set_option maxRecDepth 100000 in
theorem uX3_mostFor_X3 : ∀ w ∈ u_ws RX3 TX3 5, w ∈ wsX3_mostFor := by decide +kernel
set_option maxRecDepth 100000 in
theorem lX3_mostFor_15 : Cond.fieldLink RX3 15 (TX3 0).1 (TX3 0).2.1 (TX3 0).2.2.1 ∈ wsX3_mostFor := by decide +kernel
set_option maxRecDepth 100000 in
theorem fX3_mostFor_15 : hd_F wsX3_mostFor RX3 vwCl 3 0 15 := ⟨RX3, TX3, 5, rfl, by decide, uX3_mostFor_X3, lX3_mostFor_15⟩
set_option maxRecDepth 100000 in
theorem uX3_mostFor_X5 : ∀ w ∈ u_ws RX5 TX5 10, w ∈ wsX3_mostFor := by decide +kernel
set_option maxRecDepth 100000 in
theorem lX3_mostFor_50 : Cond.fieldLink RX3 50 (TX5 0).1 (TX5 0).2.1 (TX5 0).2.2.1 ∈ wsX3_mostFor := by decide +kernel
set_option maxRecDepth 100000 in
theorem fX3_mostFor_50 : hd_F wsX3_mostFor RX3 vwCl 5 0 50 := ⟨RX5, TX5, 10, rfl, by decide, uX3_mostFor_X5, lX3_mostFor_50⟩
set_option maxRecDepth 100000 in
theorem lX3_mostFor_55 : Cond.fieldLink RX3 55 (TX5 4).1 (TX5 4).2.1 (TX5 4).2.2.1 ∈ wsX3_mostFor := by decide +kernel
set_option maxRecDepth 100000 in
theorem fX3_mostFor_55 : hd_F wsX3_mostFor RX3 vwCl 5 4 55 := ⟨RX5, TX5, 10, rfl, by decide, uX3_mostFor_X5, lX3_mostFor_55⟩
set_option maxRecDepth 100000 in
theorem yX3_mostFor_X3_nearestOn : yX3_nearestOn.cls = RX3 ∧ yX3_nearestOn.cls ≠ "java/lang/invoke/MethodHandle" ∧ yX3_nearestOn.cls ≠ "java/lang/invoke/VarHandle" ∧ (parseMethodDescriptor yX3_nearestOn.desc).map (fun d => d.parameters.length) = some 2 := by decide +kernel
set_option maxRecDepth 100000 in
theorem wX3_mostFor_9 : Cond.methodLink RX3 76 Lib.Math.max.name ∈ wsX3_mostFor := by decide +kernel
set_option maxRecDepth 100000 in
theorem wX3_mostFor_10 : Cond.static Lib.Math.max.name ∈ wsX3_mostFor := by decide +kernel
set_option maxRecDepth 100000 in
theorem wX3_mostFor_11 : Cond.initialized "java/lang/Math" ∈ wsX3_mostFor := by decide +kernel
set_option maxRecDepth 100000 in
theorem wX3_mostFor_12 : Cond.code Lib.Math.max.name Lib.Math.max.code 2 (some .int) ∈ wsX3_mostFor := by decide +kernel
def wc_X3_mostFor_4 : hd_xC := (hd_cI (fun x y => decide (x < y)) (hd_iL 3) (hd_iG hs_sh 5 0 (hd_rG hs_sh 3 0 (hd_rL 0))))
def wb_X3_mostFor_4 : hd_xS := (hd_sQ (hd_sI 2 (hd_iB (fun x y => if x < y then y else x) (hd_iL 2) (hd_iN (hd_nV hs_sh 3 (hd_rL 0) 2 (hd_pI (hd_pI hd_v0 (hd_iL 1)) (hd_iA hs_sh (hd_rG hs_sh 5 4 (hd_rG hs_sh 3 0 (hd_rL 0))) (hd_iL 3))) wm_X3_nearestOn)))) (hd_sP 3 (1)))
def wo_X3_mostFor : hd_xS := (hd_sQ (hd_sI 2 (hd_iK (0))) (hd_sQ (hd_sQ (hd_sI 3 (hd_iK (0))) (hd_sH (wc_X3_mostFor_4) (wb_X3_mostFor_4))) (hd_sRI (hd_iL 2))))
def wm_X3_mostFor : hd_M := hd_mth 4 wo_X3_mostFor
set_option maxHeartbeats 4000000 in
set_option maxRecDepth 100000 in
theorem snd_X3_mostFor : hd_Snd vwCl hs_sh yX3_mostFor wsX3_mostFor 4 wm_X3_mostFor := hd_method (by decide) rfl rfl (by decide) (fun κ C Rk => (hd_seq (p1 := 2) (hd_sistore_n C (kk0 := 2) (p1 := 1) (hd_iconst C dX3_mostFor_0 (by decide)) dX3_mostFor_1 (by decide)) (hd_seq (p1 := 40) (hd_seq (p1 := 4) (hd_sistore_n C (kk0 := 3) (p1 := 3) (hd_iconst C dX3_mostFor_2 (by decide)) dX3_mostFor_3 (by decide)) (hd_loop C (p1 := 15) (p2 := 40) (hd_c_ltF C (p1 := 5) (p2 := 12) (tgt := 40) (hd_iload_n C (kk0 := 3) dX3_mostFor_4) (hd_getI C (p1 := 9) fX3_mostFor_50 (hd_getR C (p1 := 6) fX3_mostFor_15 (hd_aload_n C (kk0 := 0) dX3_mostFor_5) dX3_mostFor_6) dX3_mostFor_9) dX3_mostFor_12 (by decide)) (hd_seq (p1 := 34) (hd_sistore_n C (kk0 := 2) (p1 := 33) (hd_mmax C (p1 := 16) (p2 := 30) wX3_mostFor_9 wX3_mostFor_10 wX3_mostFor_11 wX3_mostFor_12 (by decide) (hd_iload_n C (kk0 := 2) dX3_mostFor_15) (hd_inI (hd_invV C (p1 := 17) (p2 := 27) snd_X3_nearestOn hw_X3_nearestOn gX3_mostFor_X3_nearestOn hs_c_3 yX3_mostFor_X3_nearestOn ⟨by decide, by decide⟩ (by decide) (hd_aload_n C (kk0 := 0) dX3_mostFor_16) (hd_apI (p1 := 18) (p2 := 27) (hd_apI (p1 := 17) (p2 := 18) hd_av0 (hd_iload_n C (kk0 := 1) dX3_mostFor_17)) (hd_iald C (p1 := 25) (p2 := 26) (hd_getR C (p1 := 22) fX3_mostFor_55 (hd_getR C (p1 := 19) fX3_mostFor_15 (hd_aload_n C (kk0 := 0) dX3_mostFor_18) dX3_mostFor_19) dX3_mostFor_22) (hd_iload_n C (kk0 := 3) dX3_mostFor_25) dX3_mostFor_26)) dX3_mostFor_27)) dX3_mostFor_30) dX3_mostFor_33 (by decide)) (hd_sgoto C (p1 := 37) (tgt := 4) (hd_ends (es := [37]) (by decide) (hd_siinc C dX3_mostFor_34 (by decide) (by decide))) dX3_mostFor_37 (by decide) (by decide))) (by decide))) (hd_retI C Rk (p1 := 41) (hd_iload_n C (kk0 := 2) dX3_mostFor_40) dX3_mostFor_41))))
/-! X3_sumFor -/
theorem hw_X3_sumFor : wsX3_sumFor = Cond.code yX3_sumFor cX3_sumFor 4 (some .int) :: wsX3_sumFor.tail := rfl
set_option maxRecDepth 100000 in
theorem uX3_sumFor_X3 : ∀ w ∈ u_ws RX3 TX3 5, w ∈ wsX3_sumFor := by decide +kernel
set_option maxRecDepth 100000 in
theorem lX3_sumFor_15 : Cond.fieldLink RX3 15 (TX3 0).1 (TX3 0).2.1 (TX3 0).2.2.1 ∈ wsX3_sumFor := by decide +kernel
set_option maxRecDepth 100000 in
theorem fX3_sumFor_15 : hd_F wsX3_sumFor RX3 vwCl 3 0 15 := ⟨RX3, TX3, 5, rfl, by decide, uX3_sumFor_X3, lX3_sumFor_15⟩
set_option maxRecDepth 100000 in
theorem uX3_sumFor_X5 : ∀ w ∈ u_ws RX5 TX5 10, w ∈ wsX3_sumFor := by decide +kernel
set_option maxRecDepth 100000 in
theorem lX3_sumFor_50 : Cond.fieldLink RX3 50 (TX5 0).1 (TX5 0).2.1 (TX5 0).2.2.1 ∈ wsX3_sumFor := by decide +kernel
set_option maxRecDepth 100000 in
theorem fX3_sumFor_50 : hd_F wsX3_sumFor RX3 vwCl 5 0 50 := ⟨RX5, TX5, 10, rfl, by decide, uX3_sumFor_X5, lX3_sumFor_50⟩
set_option maxRecDepth 100000 in
theorem lX3_sumFor_70 : Cond.fieldLink RX3 70 (TX5 2).1 (TX5 2).2.1 (TX5 2).2.2.1 ∈ wsX3_sumFor := by decide +kernel
set_option maxRecDepth 100000 in
theorem fX3_sumFor_70 : hd_F wsX3_sumFor RX3 vwCl 5 2 70 := ⟨RX5, TX5, 10, rfl, by decide, uX3_sumFor_X5, lX3_sumFor_70⟩
set_option maxRecDepth 100000 in
theorem lX3_sumFor_55 : Cond.fieldLink RX3 55 (TX5 4).1 (TX5 4).2.1 (TX5 4).2.2.1 ∈ wsX3_sumFor := by decide +kernel
set_option maxRecDepth 100000 in
theorem fX3_sumFor_55 : hd_F wsX3_sumFor RX3 vwCl 5 4 55 := ⟨RX5, TX5, 10, rfl, by decide, uX3_sumFor_X5, lX3_sumFor_55⟩
set_option maxRecDepth 100000 in
theorem yX3_sumFor_X3_nearestOn : yX3_nearestOn.cls = RX3 ∧ yX3_nearestOn.cls ≠ "java/lang/invoke/MethodHandle" ∧ yX3_nearestOn.cls ≠ "java/lang/invoke/VarHandle" ∧ (parseMethodDescriptor yX3_nearestOn.desc).map (fun d => d.parameters.length) = some 2 := by decide +kernel
def wc_X3_sumFor_4 : hd_xC := (hd_cI (fun x y => decide (x < y)) (hd_iL 3) (hd_iG hs_sh 5 0 (hd_rG hs_sh 3 0 (hd_rL 0))))
def wb_X3_sumFor_4 : hd_xS := (hd_sQ (hd_sI 2 (hd_iB (fun x y => x + y) (hd_iL 2) (hd_iB (fun x y => x * y) (hd_iA hs_sh (hd_rG hs_sh 5 2 (hd_rG hs_sh 3 0 (hd_rL 0))) (hd_iL 3)) (hd_iN (hd_nV hs_sh 3 (hd_rL 0) 2 (hd_pI (hd_pI hd_v0 (hd_iL 1)) (hd_iA hs_sh (hd_rG hs_sh 5 4 (hd_rG hs_sh 3 0 (hd_rL 0))) (hd_iL 3))) wm_X3_nearestOn))))) (hd_sP 3 (1)))
def wo_X3_sumFor : hd_xS := (hd_sQ (hd_sI 2 (hd_iK (0))) (hd_sQ (hd_sQ (hd_sI 3 (hd_iK (0))) (hd_sH (wc_X3_sumFor_4) (wb_X3_sumFor_4))) (hd_sRI (hd_iL 2))))
def wm_X3_sumFor : hd_M := hd_mth 4 wo_X3_sumFor
set_option maxHeartbeats 4000000 in
set_option maxRecDepth 100000 in
theorem snd_X3_sumFor : hd_Snd vwCl hs_sh yX3_sumFor wsX3_sumFor 4 wm_X3_sumFor := hd_method (by decide) rfl rfl (by decide) (fun κ C Rk => (hd_seq (p1 := 2) (hd_sistore_n C (kk0 := 2) (p1 := 1) (hd_iconst C dX3_sumFor_0 (by decide)) dX3_sumFor_1 (by decide)) (hd_seq (p1 := 48) (hd_seq (p1 := 4) (hd_sistore_n C (kk0 := 3) (p1 := 3) (hd_iconst C dX3_sumFor_2 (by decide)) dX3_sumFor_3 (by decide)) (hd_loop C (p1 := 15) (p2 := 48) (hd_c_ltF C (p1 := 5) (p2 := 12) (tgt := 48) (hd_iload_n C (kk0 := 3) dX3_sumFor_4) (hd_getI C (p1 := 9) fX3_sumFor_50 (hd_getR C (p1 := 6) fX3_sumFor_15 (hd_aload_n C (kk0 := 0) dX3_sumFor_5) dX3_sumFor_6) dX3_sumFor_9) dX3_sumFor_12 (by decide)) (hd_seq (p1 := 42) (hd_sistore_n C (kk0 := 2) (p1 := 41) (hd_iadd C (p1 := 16) (p2 := 40) (hd_iload_n C (kk0 := 2) dX3_sumFor_15) (hd_imul C (p1 := 25) (p2 := 39) (hd_iald C (p1 := 23) (p2 := 24) (hd_getR C (p1 := 20) fX3_sumFor_70 (hd_getR C (p1 := 17) fX3_sumFor_15 (hd_aload_n C (kk0 := 0) dX3_sumFor_16) dX3_sumFor_17) dX3_sumFor_20) (hd_iload_n C (kk0 := 3) dX3_sumFor_23) dX3_sumFor_24) (hd_inI (hd_invV C (p1 := 26) (p2 := 36) snd_X3_nearestOn hw_X3_nearestOn gX3_sumFor_X3_nearestOn hs_c_3 yX3_sumFor_X3_nearestOn ⟨by decide, by decide⟩ (by decide) (hd_aload_n C (kk0 := 0) dX3_sumFor_25) (hd_apI (p1 := 27) (p2 := 36) (hd_apI (p1 := 26) (p2 := 27) hd_av0 (hd_iload_n C (kk0 := 1) dX3_sumFor_26)) (hd_iald C (p1 := 34) (p2 := 35) (hd_getR C (p1 := 31) fX3_sumFor_55 (hd_getR C (p1 := 28) fX3_sumFor_15 (hd_aload_n C (kk0 := 0) dX3_sumFor_27) dX3_sumFor_28) dX3_sumFor_31) (hd_iload_n C (kk0 := 3) dX3_sumFor_34) dX3_sumFor_35)) dX3_sumFor_36)) dX3_sumFor_39) dX3_sumFor_40) dX3_sumFor_41 (by decide)) (hd_sgoto C (p1 := 45) (tgt := 4) (hd_ends (es := [45]) (by decide) (hd_siinc C dX3_sumFor_42 (by decide) (by decide))) dX3_sumFor_45 (by decide) (by decide))) (by decide))) (hd_retI C Rk (p1 := 49) (hd_iload_n C (kk0 := 2) dX3_sumFor_48) dX3_sumFor_49))))
/-! X7_fillingOf -/
theorem hw_X7_fillingOf : wsX7_fillingOf = Cond.code yX7_fillingOf cX7_fillingOf 2 (some .long) :: wsX7_fillingOf.tail := rfl
set_option maxRecDepth 100000 in
theorem uX7_fillingOf_X7 : ∀ w ∈ u_ws RX7 TX7 10, w ∈ wsX7_fillingOf := by decide +kernel
set_option maxRecDepth 100000 in
theorem lX7_fillingOf_37 : Cond.fieldLink RX7 37 (TX7 9).1 (TX7 9).2.1 (TX7 9).2.2.1 ∈ wsX7_fillingOf := by decide +kernel
set_option maxRecDepth 100000 in
theorem fX7_fillingOf_37 : hd_F wsX7_fillingOf RX7 vwCl 7 9 37 := ⟨RX7, TX7, 10, rfl, by decide, uX7_fillingOf_X7, lX7_fillingOf_37⟩
set_option maxRecDepth 100000 in
theorem yX7_fillingOf_X7_startAnew : yX7_startAnew.cls = RX7 ∧ yX7_startAnew.cls ≠ "java/lang/invoke/MethodHandle" ∧ yX7_startAnew.cls ≠ "java/lang/invoke/VarHandle" ∧ (parseMethodDescriptor yX7_startAnew.desc).map (fun d => d.parameters.length) = some 0 := by decide +kernel
set_option maxRecDepth 100000 in
theorem lX7_fillingOf_11 : Cond.fieldLink RX7 11 (TX7 2).1 (TX7 2).2.1 (TX7 2).2.2.1 ∈ wsX7_fillingOf := by decide +kernel
set_option maxRecDepth 100000 in
theorem fX7_fillingOf_11 : hd_F wsX7_fillingOf RX7 vwCl 7 2 11 := ⟨RX7, TX7, 10, rfl, by decide, uX7_fillingOf_X7, lX7_fillingOf_11⟩
set_option maxRecDepth 100000 in
theorem wX7_fillingOf_6 : Cond.constantLong RX7 60 (-2) ∈ wsX7_fillingOf := by decide +kernel
set_option maxRecDepth 100000 in
theorem yX7_fillingOf_X7_nearestFilling : yX7_nearestFilling.cls = RX7 ∧ yX7_nearestFilling.cls ≠ "java/lang/invoke/MethodHandle" ∧ yX7_nearestFilling.cls ≠ "java/lang/invoke/VarHandle" ∧ (parseMethodDescriptor yX7_nearestFilling.desc).map (fun d => d.parameters.length) = some 1 := by decide +kernel
set_option maxRecDepth 100000 in
theorem yX7_fillingOf_X7_bestFilling : yX7_bestFilling.cls = RX7 ∧ yX7_bestFilling.cls ≠ "java/lang/invoke/MethodHandle" ∧ yX7_bestFilling.cls ≠ "java/lang/invoke/VarHandle" ∧ (parseMethodDescriptor yX7_bestFilling.desc).map (fun d => d.parameters.length) = some 1 := by decide +kernel
def wo_X7_fillingOf : hd_xS := (hd_sQ (hd_sW (hd_c0 (fun x => !decide (x = 0)) (hd_iG hs_sh 7 9 (hd_rL 0))) (hd_sN (hd_nV hs_sh 7 (hd_rL 0) 0 hd_v0 wm_X7_startAnew))) (hd_sQ (hd_sW (hd_cJ (fun x y => decide (x = y)) (hd_jA hs_sh (hd_rG hs_sh 7 2 (hd_rL 0)) (hd_iL 1)) (hd_jK (-2))) (hd_sL hs_sh (hd_rG hs_sh 7 2 (hd_rL 0)) (hd_iL 1) (hd_jN (hd_nV hs_sh 7 (hd_rL 0) 1 (hd_pI hd_v0 (hd_iL 1)) wm_X7_nearestFilling)))) (hd_sQ (hd_sW (hd_cJ (fun x y => decide (x = y)) (hd_jA hs_sh (hd_rG hs_sh 7 2 (hd_rL 0)) (hd_iL 1)) (hd_jK (-2))) (hd_sL hs_sh (hd_rG hs_sh 7 2 (hd_rL 0)) (hd_iL 1) (hd_jN (hd_nV hs_sh 7 (hd_rL 0) 1 (hd_pI hd_v0 (hd_iL 1)) wm_X7_bestFilling)))) (hd_sRJ (hd_jA hs_sh (hd_rG hs_sh 7 2 (hd_rL 0)) (hd_iL 1))))))
def wm_X7_fillingOf : hd_M := hd_mth 2 wo_X7_fillingOf
set_option maxHeartbeats 4000000 in
set_option maxRecDepth 100000 in
theorem snd_X7_fillingOf : hd_Snd vwCl hs_sh yX7_fillingOf wsX7_fillingOf 4 wm_X7_fillingOf := hd_method (by decide) rfl rfl (by decide) (fun κ C Rk => (hd_seq (p1 := 11) (hd_if (p1 := 7) (p2 := 11) (hd_z_neF C (p2 := 4) (tgt := 11) (hd_getI C (p1 := 1) fX7_fillingOf_37 (hd_aload_n C (kk0 := 0) dX7_fillingOf_0) dX7_fillingOf_1) dX7_fillingOf_4 (by decide)) (hd_scall (hd_invV C (p1 := 8) (p2 := 8) snd_X7_startAnew hw_X7_startAnew gX7_fillingOf_X7_startAnew hs_c_7 yX7_fillingOf_X7_startAnew ⟨by decide, by decide⟩ (by decide) (hd_aload_n C (kk0 := 0) dX7_fillingOf_7) hd_av0 dX7_fillingOf_8)) (by decide)) (hd_seq (p1 := 35) (hd_if (p1 := 24) (p2 := 35) (hd_l_eqF C (p1 := 17) (p2 := 20) (tgt := 35) (hd_lald C (p1 := 15) (p2 := 16) (hd_getR C (p1 := 12) fX7_fillingOf_11 (hd_aload_n C (kk0 := 0) dX7_fillingOf_11) dX7_fillingOf_12) (hd_iload_n C (kk0 := 1) dX7_fillingOf_15) dX7_fillingOf_16) (hd_ldc2 C wX7_fillingOf_6 dX7_fillingOf_17) dX7_fillingOf_20 dX7_fillingOf_21 (by decide)) (hd_slast C (p1 := 28) (p2 := 29) (p3 := 34) (hd_getR C (p1 := 25) fX7_fillingOf_11 (hd_aload_n C (kk0 := 0) dX7_fillingOf_24) dX7_fillingOf_25) (hd_iload_n C (kk0 := 1) dX7_fillingOf_28) (hd_inJ (hd_invV C (p1 := 30) (p2 := 31) snd_X7_nearestFilling hw_X7_nearestFilling gX7_fillingOf_X7_nearestFilling hs_c_7 yX7_fillingOf_X7_nearestFilling ⟨by decide, by decide⟩ (by decide) (hd_aload_n C (kk0 := 0) dX7_fillingOf_29) (hd_apI (p1 := 30) (p2 := 31) hd_av0 (hd_iload_n C (kk0 := 1) dX7_fillingOf_30)) dX7_fillingOf_31)) dX7_fillingOf_34) (by decide)) (hd_seq (p1 := 59) (hd_if (p1 := 48) (p2 := 59) (hd_l_eqF C (p1 := 41) (p2 := 44) (tgt := 59) (hd_lald C (p1 := 39) (p2 := 40) (hd_getR C (p1 := 36) fX7_fillingOf_11 (hd_aload_n C (kk0 := 0) dX7_fillingOf_35) dX7_fillingOf_36) (hd_iload_n C (kk0 := 1) dX7_fillingOf_39) dX7_fillingOf_40) (hd_ldc2 C wX7_fillingOf_6 dX7_fillingOf_41) dX7_fillingOf_44 dX7_fillingOf_45 (by decide)) (hd_slast C (p1 := 52) (p2 := 53) (p3 := 58) (hd_getR C (p1 := 49) fX7_fillingOf_11 (hd_aload_n C (kk0 := 0) dX7_fillingOf_48) dX7_fillingOf_49) (hd_iload_n C (kk0 := 1) dX7_fillingOf_52) (hd_inJ (hd_invV C (p1 := 54) (p2 := 55) snd_X7_bestFilling hw_X7_bestFilling gX7_fillingOf_X7_bestFilling hs_c_7 yX7_fillingOf_X7_bestFilling ⟨by decide, by decide⟩ (by decide) (hd_aload_n C (kk0 := 0) dX7_fillingOf_53) (hd_apI (p1 := 54) (p2 := 55) hd_av0 (hd_iload_n C (kk0 := 1) dX7_fillingOf_54)) dX7_fillingOf_55)) dX7_fillingOf_58) (by decide)) (hd_retJ C Rk (p1 := 65) (hd_lald C (p1 := 63) (p2 := 64) (hd_getR C (p1 := 60) fX7_fillingOf_11 (hd_aload_n C (kk0 := 0) dX7_fillingOf_59) dX7_fillingOf_60) (hd_iload_n C (kk0 := 1) dX7_fillingOf_63) dX7_fillingOf_64) dX7_fillingOf_65)))))
/-! X8_change -/
theorem hw_X8_change : wsX8_change = Cond.code yX8_change cX8_change 5 (some .int) :: wsX8_change.tail := rfl
set_option maxRecDepth 100000 in
theorem yX8_change_X8_keepForUndo : yX8_keepForUndo.cls = RX8 ∧ yX8_keepForUndo.cls ≠ "java/lang/invoke/MethodHandle" ∧ yX8_keepForUndo.cls ≠ "java/lang/invoke/VarHandle" ∧ (parseMethodDescriptor yX8_keepForUndo.desc).map (fun d => d.parameters.length) = some 0 := by decide +kernel
def wo_X8_change : hd_xS := (hd_sQ (hd_sI 4 (hd_iA hs_sh (hd_rL 1) (hd_iL 2))) (hd_sQ (hd_sN (hd_nV hs_sh 8 (hd_rL 0) 0 hd_v0 wm_X8_keepForUndo)) (hd_sQ (hd_sA hs_sh (hd_rL 1) (hd_iL 2) (hd_iL 3)) (hd_sRI (hd_iL 4)))))
def wm_X8_change : hd_M := hd_mth 5 wo_X8_change
set_option maxHeartbeats 4000000 in
set_option maxRecDepth 100000 in
theorem snd_X8_change : hd_Snd vwCl hs_sh yX8_change wsX8_change 4 wm_X8_change := hd_method (by decide) rfl rfl (by decide) (fun κ C Rk => (hd_seq (p1 := 5) (hd_sistore C (p1 := 3) (hd_iald C (p1 := 1) (p2 := 2) (hd_aload_n C (kk0 := 1) dX8_change_0) (hd_iload_n C (kk0 := 2) dX8_change_1) dX8_change_2) dX8_change_3 (by decide)) (hd_seq (p1 := 9) (hd_scall (hd_invV C (p1 := 6) (p2 := 6) snd_X8_keepForUndo hw_X8_keepForUndo gX8_change_X8_keepForUndo hs_c_8 yX8_change_X8_keepForUndo ⟨by decide, by decide⟩ (by decide) (hd_aload_n C (kk0 := 0) dX8_change_5) hd_av0 dX8_change_6)) (hd_seq (p1 := 13) (hd_siast C (p1 := 10) (p2 := 11) (p3 := 12) (hd_aload_n C (kk0 := 1) dX8_change_9) (hd_iload_n C (kk0 := 2) dX8_change_10) (hd_iload_n C (kk0 := 3) dX8_change_11) dX8_change_12) (hd_retI C Rk (p1 := 15) (hd_iload C dX8_change_13) dX8_change_15)))))
