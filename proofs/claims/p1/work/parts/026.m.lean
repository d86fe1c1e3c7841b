/-! X9_undo -/
theorem hw_X9_undo : wsX9_undo = Cond.code yX9_undo cX9_undo 2 (some .int) :: wsX9_undo.tail := rfl
set_option maxRecDepth 100000 in
theorem uX9_undo_X9 : ∀ w ∈ u_ws RX9 TX9 28, w ∈ wsX9_undo := by decide +kernel
set_option maxRecDepth 100000 in
theorem lX9_undo_58 : Cond.fieldLink RX9 58 (TX9 0).1 (TX9 0).2.1 (TX9 0).2.2.1 ∈ wsX9_undo := by decide +kernel
set_option maxRecDepth 100000 in
theorem qX9_undo_58 : hd_FP wsX9_undo RX9 vwCl 9 0 58 .int := ⟨RX9, TX9, 28, tyX9, rfl, by decide, uX9_undo_X9, lX9_undo_58, tyX9_ok, nmX9, rfl, rfl⟩
set_option maxRecDepth 100000 in
theorem lX9_undo_78 : Cond.fieldLink RX9 78 (TX9 13).1 (TX9 13).2.1 (TX9 13).2.2.1 ∈ wsX9_undo := by decide +kernel
set_option maxRecDepth 100000 in
theorem fX9_undo_78 : hd_F wsX9_undo RX9 vwCl 9 13 78 := ⟨RX9, TX9, 28, rfl, by decide, uX9_undo_X9, lX9_undo_78⟩
set_option maxRecDepth 100000 in
theorem lX9_undo_65 : Cond.fieldLink RX9 65 (TX9 12).1 (TX9 12).2.1 (TX9 12).2.2.1 ∈ wsX9_undo := by decide +kernel
set_option maxRecDepth 100000 in
theorem fX9_undo_65 : hd_F wsX9_undo RX9 vwCl 9 12 65 := ⟨RX9, TX9, 28, rfl, by decide, uX9_undo_X9, lX9_undo_65⟩
set_option maxRecDepth 100000 in
theorem qX9_undo_65 : hd_FP wsX9_undo RX9 vwCl 9 12 65 .int := ⟨RX9, TX9, 28, tyX9, rfl, by decide, uX9_undo_X9, lX9_undo_65, tyX9_ok, nmX9, rfl, rfl⟩
set_option maxRecDepth 100000 in
theorem qX9_undo_78 : hd_FP wsX9_undo RX9 vwCl 9 13 78 .int := ⟨RX9, TX9, 28, tyX9, rfl, by decide, uX9_undo_X9, lX9_undo_78, tyX9_ok, nmX9, rfl, rfl⟩
set_option maxRecDepth 100000 in
theorem lX9_undo_62 : Cond.fieldLink RX9 62 (TX9 16).1 (TX9 16).2.1 (TX9 16).2.2.1 ∈ wsX9_undo := by decide +kernel
set_option maxRecDepth 100000 in
theorem qX9_undo_62 : hd_FP wsX9_undo RX9 vwCl 9 16 62 .int := ⟨RX9, TX9, 28, tyX9, rfl, by decide, uX9_undo_X9, lX9_undo_62, tyX9_ok, nmX9, rfl, rfl⟩
set_option maxRecDepth 100000 in
theorem lX9_undo_34 : Cond.fieldLink RX9 34 (TX9 11).1 (TX9 11).2.1 (TX9 11).2.2.1 ∈ wsX9_undo := by decide +kernel
set_option maxRecDepth 100000 in
theorem fX9_undo_34 : hd_F wsX9_undo RX9 vwCl 9 11 34 := ⟨RX9, TX9, 28, rfl, by decide, uX9_undo_X9, lX9_undo_34⟩
set_option maxRecDepth 100000 in
theorem fX9_undo_62 : hd_F wsX9_undo RX9 vwCl 9 16 62 := ⟨RX9, TX9, 28, rfl, by decide, uX9_undo_X9, lX9_undo_62⟩
set_option maxRecDepth 100000 in
theorem lX9_undo_68 : Cond.fieldLink RX9 68 (TX9 1).1 (TX9 1).2.1 (TX9 1).2.2.1 ∈ wsX9_undo := by decide +kernel
set_option maxRecDepth 100000 in
theorem qX9_undo_68 : hd_FP wsX9_undo RX9 vwCl 9 1 68 .int := ⟨RX9, TX9, 28, tyX9, rfl, by decide, uX9_undo_X9, lX9_undo_68, tyX9_ok, nmX9, rfl, rfl⟩
set_option maxRecDepth 100000 in
theorem lX9_undo_71 : Cond.fieldLink RX9 71 (TX9 2).1 (TX9 2).2.1 (TX9 2).2.2.1 ∈ wsX9_undo := by decide +kernel
set_option maxRecDepth 100000 in
theorem qX9_undo_71 : hd_FP wsX9_undo RX9 vwCl 9 2 71 .int := ⟨RX9, TX9, 28, tyX9, rfl, by decide, uX9_undo_X9, lX9_undo_71, tyX9_ok, nmX9, rfl, rfl⟩
set_option maxRecDepth 100000 in
theorem lX9_undo_7 : Cond.fieldLink RX9 7 (TX9 3).1 (TX9 3).2.1 (TX9 3).2.2.1 ∈ wsX9_undo := by decide +kernel
set_option maxRecDepth 100000 in
theorem fX9_undo_7 : hd_F wsX9_undo RX9 vwCl 9 3 7 := ⟨RX9, TX9, 28, rfl, by decide, uX9_undo_X9, lX9_undo_7⟩
set_option maxRecDepth 100000 in
theorem yX9_undo_X9_read : yX9_read.cls = RX9 ∧ yX9_read.cls ≠ "java/lang/invoke/MethodHandle" ∧ yX9_read.cls ≠ "java/lang/invoke/VarHandle" ∧ (parseMethodDescriptor yX9_read.desc).map (fun d => d.parameters.length) = some 2 := by decide +kernel
set_option maxRecDepth 100000 in
theorem lX9_undo_13 : Cond.fieldLink RX9 13 (TX9 4).1 (TX9 4).2.1 (TX9 4).2.2.1 ∈ wsX9_undo := by decide +kernel
set_option maxRecDepth 100000 in
theorem fX9_undo_13 : hd_F wsX9_undo RX9 vwCl 9 4 13 := ⟨RX9, TX9, 28, rfl, by decide, uX9_undo_X9, lX9_undo_13⟩
set_option maxRecDepth 100000 in
theorem lX9_undo_16 : Cond.fieldLink RX9 16 (TX9 5).1 (TX9 5).2.1 (TX9 5).2.2.1 ∈ wsX9_undo := by decide +kernel
set_option maxRecDepth 100000 in
theorem fX9_undo_16 : hd_F wsX9_undo RX9 vwCl 9 5 16 := ⟨RX9, TX9, 28, rfl, by decide, uX9_undo_X9, lX9_undo_16⟩
set_option maxRecDepth 100000 in
theorem lX9_undo_19 : Cond.fieldLink RX9 19 (TX9 6).1 (TX9 6).2.1 (TX9 6).2.2.1 ∈ wsX9_undo := by decide +kernel
set_option maxRecDepth 100000 in
theorem fX9_undo_19 : hd_F wsX9_undo RX9 vwCl 9 6 19 := ⟨RX9, TX9, 28, rfl, by decide, uX9_undo_X9, lX9_undo_19⟩
set_option maxRecDepth 100000 in
theorem lX9_undo_22 : Cond.fieldLink RX9 22 (TX9 7).1 (TX9 7).2.1 (TX9 7).2.2.1 ∈ wsX9_undo := by decide +kernel
set_option maxRecDepth 100000 in
theorem fX9_undo_22 : hd_F wsX9_undo RX9 vwCl 9 7 22 := ⟨RX9, TX9, 28, rfl, by decide, uX9_undo_X9, lX9_undo_22⟩
set_option maxRecDepth 100000 in
theorem lX9_undo_25 : Cond.fieldLink RX9 25 (TX9 8).1 (TX9 8).2.1 (TX9 8).2.2.1 ∈ wsX9_undo := by decide +kernel
set_option maxRecDepth 100000 in
theorem fX9_undo_25 : hd_F wsX9_undo RX9 vwCl 9 8 25 := ⟨RX9, TX9, 28, rfl, by decide, uX9_undo_X9, lX9_undo_25⟩
set_option maxRecDepth 100000 in
theorem lX9_undo_28 : Cond.fieldLink RX9 28 (TX9 9).1 (TX9 9).2.1 (TX9 9).2.2.1 ∈ wsX9_undo := by decide +kernel
set_option maxRecDepth 100000 in
theorem fX9_undo_28 : hd_F wsX9_undo RX9 vwCl 9 9 28 := ⟨RX9, TX9, 28, rfl, by decide, uX9_undo_X9, lX9_undo_28⟩
set_option maxRecDepth 100000 in
theorem lX9_undo_31 : Cond.fieldLink RX9 31 (TX9 10).1 (TX9 10).2.1 (TX9 10).2.2.1 ∈ wsX9_undo := by decide +kernel
set_option maxRecDepth 100000 in
theorem fX9_undo_31 : hd_F wsX9_undo RX9 vwCl 9 10 31 := ⟨RX9, TX9, 28, rfl, by decide, uX9_undo_X9, lX9_undo_31⟩
set_option maxRecDepth 100000 in
theorem yX9_undo_X9_allHalls : yX9_allHalls.cls = RX9 ∧ yX9_allHalls.cls ≠ "java/lang/invoke/MethodHandle" ∧ yX9_allHalls.cls ≠ "java/lang/invoke/VarHandle" ∧ (parseMethodDescriptor yX9_allHalls.desc).map (fun d => d.parameters.length) = some 0 := by decide +kernel
set_option maxRecDepth 100000 in
theorem lX9_undo_84 : Cond.fieldLink RX9 84 (TX9 14).1 (TX9 14).2.1 (TX9 14).2.2.1 ∈ wsX9_undo := by decide +kernel
set_option maxRecDepth 100000 in
theorem fX9_undo_84 : hd_F wsX9_undo RX9 vwCl 9 14 84 := ⟨RX9, TX9, 28, rfl, by decide, uX9_undo_X9, lX9_undo_84⟩
set_option maxRecDepth 100000 in
theorem qX9_undo_84 : hd_FP wsX9_undo RX9 vwCl 9 14 84 .int := ⟨RX9, TX9, 28, tyX9, rfl, by decide, uX9_undo_X9, lX9_undo_84, tyX9_ok, nmX9, rfl, rfl⟩
set_option maxRecDepth 100000 in
theorem fX9_undo_68 : hd_F wsX9_undo RX9 vwCl 9 1 68 := ⟨RX9, TX9, 28, rfl, by decide, uX9_undo_X9, lX9_undo_68⟩
set_option maxRecDepth 100000 in
theorem lX9_undo_37 : Cond.fieldLink RX9 37 (TX9 15).1 (TX9 15).2.1 (TX9 15).2.2.1 ∈ wsX9_undo := by decide +kernel
set_option maxRecDepth 100000 in
theorem fX9_undo_37 : hd_F wsX9_undo RX9 vwCl 9 15 37 := ⟨RX9, TX9, 28, rfl, by decide, uX9_undo_X9, lX9_undo_37⟩
def wc_X9_undo_188 : hd_xC := (hd_cI (fun x y => decide (x < y)) (hd_iL 1) (hd_iK (8)))
def wb_X9_undo_188 : hd_xS := (hd_sQ (hd_sA hs_sh (hd_rG hs_sh 9 15 (hd_rL 0)) (hd_iL 1) (hd_iK (0))) (hd_sP 1 (1)))
def wo_X9_undo : hd_xS := (hd_sQ (hd_sF hs_sh 9 0 (hd_rL 0) (hd_iK (0))) (hd_sQ (hd_sW (hd_c0 (fun x => decide (x = 0)) (hd_iG hs_sh 9 13 (hd_rL 0))) (hd_sRI (hd_iK (-4)))) (hd_sQ (hd_sF hs_sh 9 12 (hd_rL 0) (hd_iD (fun x y => x - x / y * y) (hd_iB (fun x y => x - y) (hd_iB (fun x y => x + y) (hd_iG hs_sh 9 12 (hd_rL 0)) (hd_iK (8))) (hd_iK (1))) (hd_iK (8)))) (hd_sQ (hd_sG (fun x y => x - y) hs_sh 9 13 (hd_rL 0) (hd_iK (1))) (hd_sQ (hd_sF hs_sh 9 16 (hd_rL 0) (hd_iB (fun x y => x * y) (hd_iK (110)) (hd_iG hs_sh 9 12 (hd_rL 0)))) (hd_sQ (hd_sF hs_sh 9 1 (hd_rL 0) (hd_iA hs_sh (hd_rG hs_sh 9 11 (hd_rL 0)) (hd_iG hs_sh 9 16 (hd_rL 0)))) (hd_sQ (hd_sF hs_sh 9 2 (hd_rL 0) (hd_iA hs_sh (hd_rG hs_sh 9 11 (hd_rL 0)) (hd_iB (fun x y => x + y) (hd_iG hs_sh 9 16 (hd_rL 0)) (hd_iK (1))))) (hd_sQ (hd_sG (fun x y => x + y) hs_sh 9 16 (hd_rL 0) (hd_iK (2))) (hd_sQ (hd_sN (hd_nV hs_sh 9 (hd_rL 0) 2 (hd_pI (hd_pR hd_v0 (hd_rG hs_sh 9 3 (hd_rL 0))) (hd_iK (8))) wm_X9_read)) (hd_sQ (hd_sN (hd_nV hs_sh 9 (hd_rL 0) 2 (hd_pI (hd_pR hd_v0 (hd_rG hs_sh 9 4 (hd_rL 0))) (hd_iK (8))) wm_X9_read)) (hd_sQ (hd_sN (hd_nV hs_sh 9 (hd_rL 0) 2 (hd_pI (hd_pR hd_v0 (hd_rG hs_sh 9 5 (hd_rL 0))) (hd_iK (8))) wm_X9_read)) (hd_sQ (hd_sN (hd_nV hs_sh 9 (hd_rL 0) 2 (hd_pI (hd_pR hd_v0 (hd_rG hs_sh 9 6 (hd_rL 0))) (hd_iK (7))) wm_X9_read)) (hd_sQ (hd_sN (hd_nV hs_sh 9 (hd_rL 0) 2 (hd_pI (hd_pR hd_v0 (hd_rG hs_sh 9 7 (hd_rL 0))) (hd_iK (7))) wm_X9_read)) (hd_sQ (hd_sN (hd_nV hs_sh 9 (hd_rL 0) 2 (hd_pI (hd_pR hd_v0 (hd_rG hs_sh 9 8 (hd_rL 0))) (hd_iK (7))) wm_X9_read)) (hd_sQ (hd_sN (hd_nV hs_sh 9 (hd_rL 0) 2 (hd_pI (hd_pR hd_v0 (hd_rG hs_sh 9 9 (hd_rL 0))) (hd_iK (7))) wm_X9_read)) (hd_sQ (hd_sN (hd_nV hs_sh 9 (hd_rL 0) 2 (hd_pI (hd_pR hd_v0 (hd_rG hs_sh 9 10 (hd_rL 0))) (hd_iK (56))) wm_X9_read)) (hd_sQ (hd_sG (fun x y => x &&& y) hs_sh 9 14 (hd_rL 0) (hd_iN (hd_nV hs_sh 9 (hd_rL 0) 0 hd_v0 wm_X9_allHalls))) (hd_sQ (hd_sQ (hd_sI 1 (hd_iG hs_sh 9 1 (hd_rL 0))) (hd_sH (wc_X9_undo_188) (wb_X9_undo_188))) (hd_sRI (hd_iG hs_sh 9 13 (hd_rL 0)))))))))))))))))))))
def wm_X9_undo : hd_M := hd_mth 2 wo_X9_undo
set_option maxHeartbeats 4000000 in
set_option maxRecDepth 100000 in
theorem snd_X9_undo : hd_Snd vwCl hs_sh yX9_undo wsX9_undo 2 wm_X9_undo := hd_method (by decide) rfl rfl (by decide) (fun κ C Rk => (hd_seq (p1 := 5) (hd_sputI C (p1 := 1) (p2 := 2) qX9_undo_58 (hd_aload_n C (kk0 := 0) dX9_undo_0) (hd_iconst C dX9_undo_1 (by decide)) dX9_undo_2) (hd_seq (p1 := 15) (hd_if (p1 := 12) (p2 := 15) (hd_z_eqF C (p2 := 9) (tgt := 15) (hd_getI C (p1 := 6) fX9_undo_78 (hd_aload_n C (kk0 := 0) dX9_undo_5) dX9_undo_6) dX9_undo_9 (by decide)) (hd_retI C Rk (p1 := 14) (hd_bipush C dX9_undo_12 (by decide)) dX9_undo_14) (by decide)) (hd_seq (p1 := 31) (hd_sputI C (p1 := 16) (p2 := 28) qX9_undo_65 (hd_aload_n C (kk0 := 0) dX9_undo_15) (hd_irem C (p1 := 25) (p2 := 27) (hd_isub C (p1 := 23) (p2 := 24) (hd_iadd C (p1 := 20) (p2 := 22) (hd_getI C (p1 := 17) fX9_undo_65 (hd_aload_n C (kk0 := 0) dX9_undo_16) dX9_undo_17) (hd_bipush C dX9_undo_20 (by decide)) dX9_undo_22) (hd_iconst C dX9_undo_23 (by decide)) dX9_undo_24) (hd_bipush C dX9_undo_25 (by decide)) dX9_undo_27) dX9_undo_28) (hd_seq (p1 := 41) (hd_sfld_isub C (p1 := 32) (p2 := 37) fX9_undo_78 qX9_undo_78 (hd_aload_n C (kk0 := 0) dX9_undo_31) dX9_undo_32 dX9_undo_33 (hd_iconst C dX9_undo_36 (by decide)) dX9_undo_37 dX9_undo_38) (hd_seq (p1 := 52) (hd_sputI C (p1 := 42) (p2 := 49) qX9_undo_62 (hd_aload_n C (kk0 := 0) dX9_undo_41) (hd_imul C (p1 := 44) (p2 := 48) (hd_bipush C dX9_undo_42 (by decide)) (hd_getI C (p1 := 45) fX9_undo_65 (hd_aload_n C (kk0 := 0) dX9_undo_44) dX9_undo_45) dX9_undo_48) dX9_undo_49) (hd_seq (p1 := 65) (hd_sputI C (p1 := 53) (p2 := 62) qX9_undo_68 (hd_aload_n C (kk0 := 0) dX9_undo_52) (hd_iald C (p1 := 57) (p2 := 61) (hd_getR C (p1 := 54) fX9_undo_34 (hd_aload_n C (kk0 := 0) dX9_undo_53) dX9_undo_54) (hd_getI C (p1 := 58) fX9_undo_62 (hd_aload_n C (kk0 := 0) dX9_undo_57) dX9_undo_58) dX9_undo_61) dX9_undo_62) (hd_seq (p1 := 80) (hd_sputI C (p1 := 66) (p2 := 77) qX9_undo_71 (hd_aload_n C (kk0 := 0) dX9_undo_65) (hd_iald C (p1 := 70) (p2 := 76) (hd_getR C (p1 := 67) fX9_undo_34 (hd_aload_n C (kk0 := 0) dX9_undo_66) dX9_undo_67) (hd_iadd C (p1 := 74) (p2 := 75) (hd_getI C (p1 := 71) fX9_undo_62 (hd_aload_n C (kk0 := 0) dX9_undo_70) dX9_undo_71) (hd_iconst C dX9_undo_74 (by decide)) dX9_undo_75) dX9_undo_76) dX9_undo_77) (hd_seq (p1 := 90) (hd_sfld_iadd C (p1 := 81) (p2 := 86) fX9_undo_62 qX9_undo_62 (hd_aload_n C (kk0 := 0) dX9_undo_80) dX9_undo_81 dX9_undo_82 (hd_iconst C dX9_undo_85 (by decide)) dX9_undo_86 dX9_undo_87) (hd_seq (p1 := 100) (hd_scall (hd_invV C (p1 := 91) (p2 := 97) snd_X9_read hw_X9_read gX9_undo_X9_read hs_c_9 yX9_undo_X9_read ⟨by decide, by decide⟩ (by decide) (hd_aload_n C (kk0 := 0) dX9_undo_90) (hd_apI (p1 := 95) (p2 := 97) (hd_apR (p1 := 91) (p2 := 95) hd_av0 (hd_getR C (p1 := 92) fX9_undo_7 (hd_aload_n C (kk0 := 0) dX9_undo_91) dX9_undo_92)) (hd_bipush C dX9_undo_95 (by decide))) dX9_undo_97)) (hd_seq (p1 := 110) (hd_scall (hd_invV C (p1 := 101) (p2 := 107) snd_X9_read hw_X9_read gX9_undo_X9_read hs_c_9 yX9_undo_X9_read ⟨by decide, by decide⟩ (by decide) (hd_aload_n C (kk0 := 0) dX9_undo_100) (hd_apI (p1 := 105) (p2 := 107) (hd_apR (p1 := 101) (p2 := 105) hd_av0 (hd_getR C (p1 := 102) fX9_undo_13 (hd_aload_n C (kk0 := 0) dX9_undo_101) dX9_undo_102)) (hd_bipush C dX9_undo_105 (by decide))) dX9_undo_107)) (hd_seq (p1 := 120) (hd_scall (hd_invV C (p1 := 111) (p2 := 117) snd_X9_read hw_X9_read gX9_undo_X9_read hs_c_9 yX9_undo_X9_read ⟨by decide, by decide⟩ (by decide) (hd_aload_n C (kk0 := 0) dX9_undo_110) (hd_apI (p1 := 115) (p2 := 117) (hd_apR (p1 := 111) (p2 := 115) hd_av0 (hd_getR C (p1 := 112) fX9_undo_16 (hd_aload_n C (kk0 := 0) dX9_undo_111) dX9_undo_112)) (hd_bipush C dX9_undo_115 (by decide))) dX9_undo_117)) (hd_seq (p1 := 130) (hd_scall (hd_invV C (p1 := 121) (p2 := 127) snd_X9_read hw_X9_read gX9_undo_X9_read hs_c_9 yX9_undo_X9_read ⟨by decide, by decide⟩ (by decide) (hd_aload_n C (kk0 := 0) dX9_undo_120) (hd_apI (p1 := 125) (p2 := 127) (hd_apR (p1 := 121) (p2 := 125) hd_av0 (hd_getR C (p1 := 122) fX9_undo_19 (hd_aload_n C (kk0 := 0) dX9_undo_121) dX9_undo_122)) (hd_bipush C dX9_undo_125 (by decide))) dX9_undo_127)) (hd_seq (p1 := 140) (hd_scall (hd_invV C (p1 := 131) (p2 := 137) snd_X9_read hw_X9_read gX9_undo_X9_read hs_c_9 yX9_undo_X9_read ⟨by decide, by decide⟩ (by decide) (hd_aload_n C (kk0 := 0) dX9_undo_130) (hd_apI (p1 := 135) (p2 := 137) (hd_apR (p1 := 131) (p2 := 135) hd_av0 (hd_getR C (p1 := 132) fX9_undo_22 (hd_aload_n C (kk0 := 0) dX9_undo_131) dX9_undo_132)) (hd_bipush C dX9_undo_135 (by decide))) dX9_undo_137)) (hd_seq (p1 := 150) (hd_scall (hd_invV C (p1 := 141) (p2 := 147) snd_X9_read hw_X9_read gX9_undo_X9_read hs_c_9 yX9_undo_X9_read ⟨by decide, by decide⟩ (by decide) (hd_aload_n C (kk0 := 0) dX9_undo_140) (hd_apI (p1 := 145) (p2 := 147) (hd_apR (p1 := 141) (p2 := 145) hd_av0 (hd_getR C (p1 := 142) fX9_undo_25 (hd_aload_n C (kk0 := 0) dX9_undo_141) dX9_undo_142)) (hd_bipush C dX9_undo_145 (by decide))) dX9_undo_147)) (hd_seq (p1 := 160) (hd_scall (hd_invV C (p1 := 151) (p2 := 157) snd_X9_read hw_X9_read gX9_undo_X9_read hs_c_9 yX9_undo_X9_read ⟨by decide, by decide⟩ (by decide) (hd_aload_n C (kk0 := 0) dX9_undo_150) (hd_apI (p1 := 155) (p2 := 157) (hd_apR (p1 := 151) (p2 := 155) hd_av0 (hd_getR C (p1 := 152) fX9_undo_28 (hd_aload_n C (kk0 := 0) dX9_undo_151) dX9_undo_152)) (hd_bipush C dX9_undo_155 (by decide))) dX9_undo_157)) (hd_seq (p1 := 170) (hd_scall (hd_invV C (p1 := 161) (p2 := 167) snd_X9_read hw_X9_read gX9_undo_X9_read hs_c_9 yX9_undo_X9_read ⟨by decide, by decide⟩ (by decide) (hd_aload_n C (kk0 := 0) dX9_undo_160) (hd_apI (p1 := 165) (p2 := 167) (hd_apR (p1 := 161) (p2 := 165) hd_av0 (hd_getR C (p1 := 162) fX9_undo_31 (hd_aload_n C (kk0 := 0) dX9_undo_161) dX9_undo_162)) (hd_bipush C dX9_undo_165 (by decide))) dX9_undo_167)) (hd_seq (p1 := 183) (hd_sfld_iand C (p1 := 171) (p2 := 179) fX9_undo_84 qX9_undo_84 (hd_aload_n C (kk0 := 0) dX9_undo_170) dX9_undo_171 dX9_undo_172 (hd_inI (hd_invV C (p1 := 176) (p2 := 176) snd_X9_allHalls hw_X9_allHalls gX9_undo_X9_allHalls hs_c_9 yX9_undo_X9_allHalls ⟨by decide, by decide⟩ (by decide) (hd_aload_n C (kk0 := 0) dX9_undo_175) hd_av0 dX9_undo_176)) dX9_undo_179 dX9_undo_180) (hd_seq (p1 := 207) (hd_seq (p1 := 188) (hd_sistore_n C (kk0 := 1) (p1 := 187) (hd_getI C (p1 := 184) fX9_undo_68 (hd_aload_n C (kk0 := 0) dX9_undo_183) dX9_undo_184) dX9_undo_187 (by decide)) (hd_loop C (p1 := 194) (p2 := 207) (hd_c_ltF C (p1 := 189) (p2 := 191) (tgt := 207) (hd_iload_n C (kk0 := 1) dX9_undo_188) (hd_bipush C dX9_undo_189 (by decide)) dX9_undo_191 (by decide)) (hd_seq (p1 := 201) (hd_siast C (p1 := 198) (p2 := 199) (p3 := 200) (hd_getR C (p1 := 195) fX9_undo_37 (hd_aload_n C (kk0 := 0) dX9_undo_194) dX9_undo_195) (hd_iload_n C (kk0 := 1) dX9_undo_198) (hd_iconst C dX9_undo_199 (by decide)) dX9_undo_200) (hd_sgoto C (p1 := 204) (tgt := 188) (hd_ends (es := [204]) (by decide) (hd_siinc C dX9_undo_201 (by decide) (by decide))) dX9_undo_204 (by decide) (by decide))) (by decide))) (hd_retI C Rk (p1 := 211) (hd_getI C (p1 := 208) fX9_undo_78 (hd_aload_n C (kk0 := 0) dX9_undo_207) dX9_undo_208) dX9_undo_211))))))))))))))))))))
/-! X0_isStopped -/
theorem hw_X0_isStopped : wsX0_isStopped = Cond.code yX0_isStopped cX0_isStopped 3 (some .boolean) :: wsX0_isStopped.tail := rfl
set_option maxRecDepth 100000 in
theorem uX0_isStopped_X0 : ∀ w ∈ u_ws RX0 TX0 3, w ∈ wsX0_isStopped := by decide +kernel
set_option maxRecDepth 100000 in
theorem lX0_isStopped_18 : Cond.fieldLink RX0 18 (TX0 0).1 (TX0 0).2.1 (TX0 0).2.2.1 ∈ wsX0_isStopped := by decide +kernel
set_option maxRecDepth 100000 in
theorem fX0_isStopped_18 : hd_F wsX0_isStopped RX0 vwCl 0 0 18 := ⟨RX0, TX0, 3, rfl, by decide, uX0_isStopped_X0, lX0_isStopped_18⟩
set_option maxRecDepth 100000 in
theorem uX0_isStopped_X5 : ∀ w ∈ u_ws RX5 TX5 10, w ∈ wsX0_isStopped := by decide +kernel
set_option maxRecDepth 100000 in
theorem lX0_isStopped_32 : Cond.fieldLink RX0 32 (TX5 1).1 (TX5 1).2.1 (TX5 1).2.2.1 ∈ wsX0_isStopped := by decide +kernel
set_option maxRecDepth 100000 in
theorem fX0_isStopped_32 : hd_F wsX0_isStopped RX0 vwCl 5 1 32 := ⟨RX5, TX5, 10, rfl, by decide, uX0_isStopped_X5, lX0_isStopped_32⟩
set_option maxRecDepth 100000 in
theorem lX0_isStopped_15 : Cond.fieldLink RX0 15 (TX0 2).1 (TX0 2).2.1 (TX0 2).2.2.1 ∈ wsX0_isStopped := by decide +kernel
set_option maxRecDepth 100000 in
theorem fX0_isStopped_15 : hd_F wsX0_isStopped RX0 vwCl 0 2 15 := ⟨RX0, TX0, 3, rfl, by decide, uX0_isStopped_X0, lX0_isStopped_15⟩
set_option maxRecDepth 100000 in
theorem yX0_isStopped_X0_pays : yX0_pays.cls = RX0 ∧ yX0_pays.cls ≠ "java/lang/invoke/MethodHandle" ∧ yX0_pays.cls ≠ "java/lang/invoke/VarHandle" ∧ (parseMethodDescriptor yX0_pays.desc).map (fun d => d.parameters.length) = some 2 := by decide +kernel
def wc_X0_isStopped_2 : hd_xC := (hd_cI (fun x y => decide (x < y)) (hd_iL 2) (hd_iG hs_sh 5 1 (hd_rG hs_sh 0 0 (hd_rL 0))))
def wb_X0_isStopped_2 : hd_xS := (hd_sQ (hd_sW (hd_cA (hd_c0 (fun x => decide (x = 0)) (hd_iA hs_sh (hd_rG hs_sh 0 2 (hd_rL 0)) (hd_iL 2))) (hd_c0 (fun x => !decide (x = 0)) (hd_iN (hd_nV hs_sh 0 (hd_rL 0) 2 (hd_pI (hd_pI hd_v0 (hd_iL 1)) (hd_iL 2)) wm_X0_pays)))) (hd_sRZ (hd_iK (1)))) (hd_sP 2 (1)))
def wo_X0_isStopped : hd_xS := (hd_sQ (hd_sQ (hd_sI 2 (hd_iK (0))) (hd_sH (wc_X0_isStopped_2) (wb_X0_isStopped_2))) (hd_sRZ (hd_iK (0))))
def wm_X0_isStopped : hd_M := hd_mth 3 wo_X0_isStopped
set_option maxHeartbeats 4000000 in
set_option maxRecDepth 100000 in
theorem snd_X0_isStopped : hd_Snd vwCl hs_sh yX0_isStopped wsX0_isStopped 3 wm_X0_isStopped := hd_method (by decide) rfl rfl (by decide) (fun κ C Rk => (hd_seq (p1 := 39) (hd_seq (p1 := 2) (hd_sistore_n C (kk0 := 2) (p1 := 1) (hd_iconst C dX0_isStopped_0 (by decide)) dX0_isStopped_1 (by decide)) (hd_loop C (p1 := 13) (p2 := 39) (hd_c_ltF C (p1 := 3) (p2 := 10) (tgt := 39) (hd_iload_n C (kk0 := 2) dX0_isStopped_2) (hd_getI C (p1 := 7) fX0_isStopped_32 (hd_getR C (p1 := 4) fX0_isStopped_18 (hd_aload_n C (kk0 := 0) dX0_isStopped_3) dX0_isStopped_4) dX0_isStopped_7) dX0_isStopped_10 (by decide)) (hd_seq (p1 := 33) (hd_if (p1 := 31) (p2 := 33) (hd_and (p1 := 22) (p2 := 31) (p3 := 33) (hd_z_eqF C (p2 := 19) (tgt := 33) (hd_iald C (p1 := 17) (p2 := 18) (hd_getR C (p1 := 14) fX0_isStopped_15 (hd_aload_n C (kk0 := 0) dX0_isStopped_13) dX0_isStopped_14) (hd_iload_n C (kk0 := 2) dX0_isStopped_17) dX0_isStopped_18) dX0_isStopped_19 (by decide)) (hd_z_neF C (p2 := 28) (tgt := 33) (hd_inI (hd_invV C (p1 := 23) (p2 := 25) snd_X0_pays hw_X0_pays gX0_isStopped_X0_pays hs_c_0 yX0_isStopped_X0_pays ⟨by decide, by decide⟩ (by decide) (hd_aload_n C (kk0 := 0) dX0_isStopped_22) (hd_apI (p1 := 24) (p2 := 25) (hd_apI (p1 := 23) (p2 := 24) hd_av0 (hd_iload_n C (kk0 := 1) dX0_isStopped_23)) (hd_iload_n C (kk0 := 2) dX0_isStopped_24)) dX0_isStopped_25)) dX0_isStopped_28 (by decide))) (hd_retZ C Rk (p1 := 32) (hd_iconst C dX0_isStopped_31 (by decide)) dX0_isStopped_32) (by decide)) (hd_sgoto C (p1 := 36) (tgt := 2) (hd_ends (es := [36]) (by decide) (hd_siinc C dX0_isStopped_33 (by decide) (by decide))) dX0_isStopped_36 (by decide) (by decide))) (by decide))) (hd_retZ C Rk (p1 := 40) (hd_iconst C dX0_isStopped_39 (by decide)) dX0_isStopped_40)))
/-! X0_payersOf -/
theorem hw_X0_payersOf : wsX0_payersOf = Cond.code yX0_payersOf cX0_payersOf 5 (some .int) :: wsX0_payersOf.tail := rfl
set_option maxRecDepth 100000 in
theorem uX0_payersOf_X0 : ∀ w ∈ u_ws RX0 TX0 3, w ∈ wsX0_payersOf := by decide +kernel
set_option maxRecDepth 100000 in
theorem lX0_payersOf_18 : Cond.fieldLink RX0 18 (TX0 0).1 (TX0 0).2.1 (TX0 0).2.2.1 ∈ wsX0_payersOf := by decide +kernel
set_option maxRecDepth 100000 in
theorem fX0_payersOf_18 : hd_F wsX0_payersOf RX0 vwCl 0 0 18 := ⟨RX0, TX0, 3, rfl, by decide, uX0_payersOf_X0, lX0_payersOf_18⟩
set_option maxRecDepth 100000 in
theorem uX0_payersOf_X5 : ∀ w ∈ u_ws RX5 TX5 10, w ∈ wsX0_payersOf := by decide +kernel
set_option maxRecDepth 100000 in
theorem lX0_payersOf_22 : Cond.fieldLink RX0 22 (TX5 0).1 (TX5 0).2.1 (TX5 0).2.2.1 ∈ wsX0_payersOf := by decide +kernel
set_option maxRecDepth 100000 in
theorem fX0_payersOf_22 : hd_F wsX0_payersOf RX0 vwCl 5 0 22 := ⟨RX5, TX5, 10, rfl, by decide, uX0_payersOf_X5, lX0_payersOf_22⟩
set_option maxRecDepth 100000 in
theorem yX0_payersOf_X5_isIn : yX5_isIn.cls ≠ "java/lang/invoke/MethodHandle" ∧ yX5_isIn.cls ≠ "java/lang/invoke/VarHandle" ∧ (parseMethodDescriptor yX5_isIn.desc).map (fun d => d.parameters.length) = some 2 := by decide +kernel
set_option maxRecDepth 100000 in
theorem yX0_payersOf_X0_pays : yX0_pays.cls = RX0 ∧ yX0_pays.cls ≠ "java/lang/invoke/MethodHandle" ∧ yX0_pays.cls ≠ "java/lang/invoke/VarHandle" ∧ (parseMethodDescriptor yX0_pays.desc).map (fun d => d.parameters.length) = some 2 := by decide +kernel
def wc_X0_payersOf_5 : hd_xC := (hd_cI (fun x y => decide (x < y)) (hd_iL 4) (hd_iG hs_sh 5 0 (hd_rG hs_sh 0 0 (hd_rL 0))))
def wb_X0_payersOf_5 : hd_xS := (hd_sQ (hd_sI 3 (hd_iB (fun x y => x + y) (hd_iL 3) (hd_iQ (hd_cA (hd_c0 (fun x => !decide (x = 0)) (hd_iN (hd_nS 2 (hd_pI (hd_pI hd_v0 (hd_iL 4)) (hd_iL 2)) wm_X5_isIn))) (hd_c0 (fun x => !decide (x = 0)) (hd_iN (hd_nV hs_sh 0 (hd_rL 0) 2 (hd_pI (hd_pI hd_v0 (hd_iL 4)) (hd_iL 1)) wm_X0_pays)))) (hd_iK (1)) (hd_iK (0))))) (hd_sP 4 (1)))
def wo_X0_payersOf : hd_xS := (hd_sQ (hd_sI 3 (hd_iK (0))) (hd_sQ (hd_sQ (hd_sI 4 (hd_iK (0))) (hd_sH (wc_X0_payersOf_5) (wb_X0_payersOf_5))) (hd_sRI (hd_iL 3))))
def wm_X0_payersOf : hd_M := hd_mth 5 wo_X0_payersOf
set_option maxHeartbeats 4000000 in
set_option maxRecDepth 100000 in
theorem snd_X0_payersOf : hd_Snd vwCl hs_sh yX0_payersOf wsX0_payersOf 3 wm_X0_payersOf := hd_method (by decide) rfl rfl (by decide) (fun κ C Rk => (hd_seq (p1 := 2) (hd_sistore_n C (kk0 := 3) (p1 := 1) (hd_iconst C dX0_payersOf_0 (by decide)) dX0_payersOf_1 (by decide)) (hd_seq (p1 := 50) (hd_seq (p1 := 5) (hd_sistore C (p1 := 3) (hd_iconst C dX0_payersOf_2 (by decide)) dX0_payersOf_3 (by decide)) (hd_loop C (p1 := 17) (p2 := 50) (hd_c_ltF C (p1 := 7) (p2 := 14) (tgt := 50) (hd_iload C dX0_payersOf_5) (hd_getI C (p1 := 11) fX0_payersOf_22 (hd_getR C (p1 := 8) fX0_payersOf_18 (hd_aload_n C (kk0 := 0) dX0_payersOf_7) dX0_payersOf_8) dX0_payersOf_11) dX0_payersOf_14 (by decide)) (hd_seq (p1 := 44) (hd_sistore_n C (kk0 := 3) (p1 := 43) (hd_iadd C (p1 := 18) (p2 := 42) (hd_iload_n C (kk0 := 3) dX0_payersOf_17) (hd_tnI C (p1 := 37) (p2 := 38) (p3 := 41) (p4 := 42) (hd_and (p1 := 27) (p2 := 37) (p3 := 41) (hd_z_neF C (p2 := 24) (tgt := 41) (hd_inI (hd_invS C (p2 := 21) snd_X5_isIn hw_X5_isIn gX0_payersOf_X5_isIn yX0_payersOf_X5_isIn ⟨by decide, by decide⟩ (by decide) (hd_apI (p1 := 20) (p2 := 21) (hd_apI (p1 := 18) (p2 := 20) hd_av0 (hd_iload C dX0_payersOf_18)) (hd_iload_n C (kk0 := 2) dX0_payersOf_20)) dX0_payersOf_21)) dX0_payersOf_24 (by decide)) (hd_z_neF C (p2 := 34) (tgt := 41) (hd_inI (hd_invV C (p1 := 28) (p2 := 31) snd_X0_pays hw_X0_pays gX0_payersOf_X0_pays hs_c_0 yX0_payersOf_X0_pays ⟨by decide, by decide⟩ (by decide) (hd_aload_n C (kk0 := 0) dX0_payersOf_27) (hd_apI (p1 := 30) (p2 := 31) (hd_apI (p1 := 28) (p2 := 30) hd_av0 (hd_iload C dX0_payersOf_28)) (hd_iload_n C (kk0 := 1) dX0_payersOf_30)) dX0_payersOf_31)) dX0_payersOf_34 (by decide))) (hd_iconst C dX0_payersOf_37 (by decide)) dX0_payersOf_38 (by decide) (hd_iconst C dX0_payersOf_41 (by decide))) dX0_payersOf_42) dX0_payersOf_43 (by decide)) (hd_sgoto C (p1 := 47) (tgt := 5) (hd_ends (es := [47]) (by decide) (hd_siinc C dX0_payersOf_44 (by decide) (by decide))) dX0_payersOf_47 (by decide) (by decide))) (by decide))) (hd_retI C Rk (p1 := 51) (hd_iload_n C (kk0 := 3) dX0_payersOf_50) dX0_payersOf_51))))
/-! X0_raiseBy -/
theorem hw_X0_raiseBy : wsX0_raiseBy = Cond.code yX0_raiseBy cX0_raiseBy 4 none :: wsX0_raiseBy.tail := rfl
set_option maxRecDepth 100000 in
theorem uX0_raiseBy_X0 : ∀ w ∈ u_ws RX0 TX0 3, w ∈ wsX0_raiseBy := by decide +kernel
set_option maxRecDepth 100000 in
theorem lX0_raiseBy_18 : Cond.fieldLink RX0 18 (TX0 0).1 (TX0 0).2.1 (TX0 0).2.2.1 ∈ wsX0_raiseBy := by decide +kernel
set_option maxRecDepth 100000 in
theorem fX0_raiseBy_18 : hd_F wsX0_raiseBy RX0 vwCl 0 0 18 := ⟨RX0, TX0, 3, rfl, by decide, uX0_raiseBy_X0, lX0_raiseBy_18⟩
set_option maxRecDepth 100000 in
theorem uX0_raiseBy_X5 : ∀ w ∈ u_ws RX5 TX5 10, w ∈ wsX0_raiseBy := by decide +kernel
set_option maxRecDepth 100000 in
theorem lX0_raiseBy_32 : Cond.fieldLink RX0 32 (TX5 1).1 (TX5 1).2.1 (TX5 1).2.2.1 ∈ wsX0_raiseBy := by decide +kernel
set_option maxRecDepth 100000 in
theorem fX0_raiseBy_32 : hd_F wsX0_raiseBy RX0 vwCl 5 1 32 := ⟨RX5, TX5, 10, rfl, by decide, uX0_raiseBy_X5, lX0_raiseBy_32⟩
set_option maxRecDepth 100000 in
theorem lX0_raiseBy_15 : Cond.fieldLink RX0 15 (TX0 2).1 (TX0 2).2.1 (TX0 2).2.2.1 ∈ wsX0_raiseBy := by decide +kernel
set_option maxRecDepth 100000 in
theorem fX0_raiseBy_15 : hd_F wsX0_raiseBy RX0 vwCl 0 2 15 := ⟨RX0, TX0, 3, rfl, by decide, uX0_raiseBy_X0, lX0_raiseBy_15⟩
set_option maxRecDepth 100000 in
theorem yX0_raiseBy_X0_pays : yX0_pays.cls = RX0 ∧ yX0_pays.cls ≠ "java/lang/invoke/MethodHandle" ∧ yX0_pays.cls ≠ "java/lang/invoke/VarHandle" ∧ (parseMethodDescriptor yX0_pays.desc).map (fun d => d.parameters.length) = some 2 := by decide +kernel
set_option maxRecDepth 100000 in
theorem lX0_raiseBy_9 : Cond.fieldLink RX0 9 (TX0 1).1 (TX0 1).2.1 (TX0 1).2.2.1 ∈ wsX0_raiseBy := by decide +kernel
set_option maxRecDepth 100000 in
theorem fX0_raiseBy_9 : hd_F wsX0_raiseBy RX0 vwCl 0 1 9 := ⟨RX0, TX0, 3, rfl, by decide, uX0_raiseBy_X0, lX0_raiseBy_9⟩
def wc_X0_raiseBy_2 : hd_xC := (hd_cI (fun x y => decide (x < y)) (hd_iL 3) (hd_iG hs_sh 5 1 (hd_rG hs_sh 0 0 (hd_rL 0))))
def wb_X0_raiseBy_2 : hd_xS := (hd_sQ (hd_sO (fun x y => x - y) hs_sh (hd_rG hs_sh 0 2 (hd_rL 0)) (hd_iL 3) (hd_iQ (hd_c0 (fun x => !decide (x = 0)) (hd_iN (hd_nV hs_sh 0 (hd_rL 0) 2 (hd_pI (hd_pI hd_v0 (hd_iL 1)) (hd_iL 3)) wm_X0_pays))) (hd_iL 2) (hd_iK (0)))) (hd_sP 3 (1)))
def wo_X0_raiseBy : hd_xS := (hd_sQ (hd_sQ (hd_sI 3 (hd_iK (0))) (hd_sH (wc_X0_raiseBy_2) (wb_X0_raiseBy_2))) (hd_sQ (hd_sO (fun x y => x + y) hs_sh (hd_rG hs_sh 0 1 (hd_rL 0)) (hd_iL 1) (hd_iL 2)) hd_sRV))
def wm_X0_raiseBy : hd_M := hd_mth 4 wo_X0_raiseBy
set_option maxHeartbeats 4000000 in
set_option maxRecDepth 100000 in
theorem snd_X0_raiseBy : hd_Snd vwCl hs_sh yX0_raiseBy wsX0_raiseBy 3 wm_X0_raiseBy := hd_method (by decide) rfl rfl (by decide) (fun κ C Rk => (hd_seq (p1 := 42) (hd_seq (p1 := 2) (hd_sistore_n C (kk0 := 3) (p1 := 1) (hd_iconst C dX0_raiseBy_0 (by decide)) dX0_raiseBy_1 (by decide)) (hd_loop C (p1 := 13) (p2 := 42) (hd_c_ltF C (p1 := 3) (p2 := 10) (tgt := 42) (hd_iload_n C (kk0 := 3) dX0_raiseBy_2) (hd_getI C (p1 := 7) fX0_raiseBy_32 (hd_getR C (p1 := 4) fX0_raiseBy_18 (hd_aload_n C (kk0 := 0) dX0_raiseBy_3) dX0_raiseBy_4) dX0_raiseBy_7) dX0_raiseBy_10 (by decide)) (hd_seq (p1 := 36) (hd_sarr_isub C (p1 := 17) (p2 := 18) (p3 := 34) (hd_getR C (p1 := 14) fX0_raiseBy_15 (hd_aload_n C (kk0 := 0) dX0_raiseBy_13) dX0_raiseBy_14) (hd_iload_n C (kk0 := 3) dX0_raiseBy_17) dX0_raiseBy_18 dX0_raiseBy_19 (hd_tnI C (p1 := 29) (p2 := 30) (p3 := 33) (p4 := 34) (hd_z_neF C (p2 := 26) (tgt := 33) (hd_inI (hd_invV C (p1 := 21) (p2 := 23) snd_X0_pays hw_X0_pays gX0_raiseBy_X0_pays hs_c_0 yX0_raiseBy_X0_pays ⟨by decide, by decide⟩ (by decide) (hd_aload_n C (kk0 := 0) dX0_raiseBy_20) (hd_apI (p1 := 22) (p2 := 23) (hd_apI (p1 := 21) (p2 := 22) hd_av0 (hd_iload_n C (kk0 := 1) dX0_raiseBy_21)) (hd_iload_n C (kk0 := 3) dX0_raiseBy_22)) dX0_raiseBy_23)) dX0_raiseBy_26 (by decide)) (hd_iload_n C (kk0 := 2) dX0_raiseBy_29) dX0_raiseBy_30 (by decide) (hd_iconst C dX0_raiseBy_33 (by decide))) dX0_raiseBy_34 dX0_raiseBy_35) (hd_sgoto C (p1 := 39) (tgt := 2) (hd_ends (es := [39]) (by decide) (hd_siinc C dX0_raiseBy_36 (by decide) (by decide))) dX0_raiseBy_39 (by decide) (by decide))) (by decide))) (hd_seq (p1 := 52) (hd_sarr_iadd C (p1 := 46) (p2 := 47) (p3 := 50) (hd_getR C (p1 := 43) fX0_raiseBy_9 (hd_aload_n C (kk0 := 0) dX0_raiseBy_42) dX0_raiseBy_43) (hd_iload_n C (kk0 := 1) dX0_raiseBy_46) dX0_raiseBy_47 dX0_raiseBy_48 (hd_iload_n C (kk0 := 2) dX0_raiseBy_49) dX0_raiseBy_50 dX0_raiseBy_51) (hd_retV C Rk dX0_raiseBy_52))))
/-! X0_roundsTillPaying -/
theorem hw_X0_roundsTillPaying : wsX0_roundsTillPaying = Cond.code yX0_roundsTillPaying cX0_roundsTillPaying 5 (some .int) :: wsX0_roundsTillPaying.tail := rfl
set_option maxRecDepth 100000 in
theorem uX0_roundsTillPaying_X0 : ∀ w ∈ u_ws RX0 TX0 3, w ∈ wsX0_roundsTillPaying := by decide +kernel
set_option maxRecDepth 100000 in
theorem lX0_roundsTillPaying_18 : Cond.fieldLink RX0 18 (TX0 0).1 (TX0 0).2.1 (TX0 0).2.2.1 ∈ wsX0_roundsTillPaying := by decide +kernel
set_option maxRecDepth 100000 in
theorem fX0_roundsTillPaying_18 : hd_F wsX0_roundsTillPaying RX0 vwCl 0 0 18 := ⟨RX0, TX0, 3, rfl, by decide, uX0_roundsTillPaying_X0, lX0_roundsTillPaying_18⟩
set_option maxRecDepth 100000 in
theorem uX0_roundsTillPaying_X5 : ∀ w ∈ u_ws RX5 TX5 10, w ∈ wsX0_roundsTillPaying := by decide +kernel
set_option maxRecDepth 100000 in
theorem lX0_roundsTillPaying_32 : Cond.fieldLink RX0 32 (TX5 1).1 (TX5 1).2.1 (TX5 1).2.2.1 ∈ wsX0_roundsTillPaying := by decide +kernel
set_option maxRecDepth 100000 in
theorem fX0_roundsTillPaying_32 : hd_F wsX0_roundsTillPaying RX0 vwCl 5 1 32 := ⟨RX5, TX5, 10, rfl, by decide, uX0_roundsTillPaying_X5, lX0_roundsTillPaying_32⟩
set_option maxRecDepth 100000 in
theorem yX0_roundsTillPaying_X0_pays : yX0_pays.cls = RX0 ∧ yX0_pays.cls ≠ "java/lang/invoke/MethodHandle" ∧ yX0_pays.cls ≠ "java/lang/invoke/VarHandle" ∧ (parseMethodDescriptor yX0_pays.desc).map (fun d => d.parameters.length) = some 2 := by decide +kernel
set_option maxRecDepth 100000 in
theorem yX0_roundsTillPaying_X5_tripOf : yX5_tripOf.cls = RX5 ∧ yX5_tripOf.cls ≠ "java/lang/invoke/MethodHandle" ∧ yX5_tripOf.cls ≠ "java/lang/invoke/VarHandle" ∧ (parseMethodDescriptor yX5_tripOf.desc).map (fun d => d.parameters.length) = some 2 := by decide +kernel
set_option maxRecDepth 100000 in
theorem lX0_roundsTillPaying_9 : Cond.fieldLink RX0 9 (TX0 1).1 (TX0 1).2.1 (TX0 1).2.2.1 ∈ wsX0_roundsTillPaying := by decide +kernel
set_option maxRecDepth 100000 in
theorem fX0_roundsTillPaying_9 : hd_F wsX0_roundsTillPaying RX0 vwCl 0 1 9 := ⟨RX0, TX0, 3, rfl, by decide, uX0_roundsTillPaying_X0, lX0_roundsTillPaying_9⟩
set_option maxRecDepth 100000 in
theorem wX0_roundsTillPaying_10 : Cond.methodLink RX0 83 Lib.Math.min.name ∈ wsX0_roundsTillPaying := by decide +kernel
set_option maxRecDepth 100000 in
theorem wX0_roundsTillPaying_11 : Cond.static Lib.Math.min.name ∈ wsX0_roundsTillPaying := by decide +kernel
set_option maxRecDepth 100000 in
theorem wX0_roundsTillPaying_12 : Cond.initialized "java/lang/Math" ∈ wsX0_roundsTillPaying := by decide +kernel
set_option maxRecDepth 100000 in
theorem wX0_roundsTillPaying_13 : Cond.code Lib.Math.min.name Lib.Math.min.code 2 (some .int) ∈ wsX0_roundsTillPaying := by decide +kernel
def wc_X0_roundsTillPaying_5 : hd_xC := (hd_cI (fun x y => decide (x < y)) (hd_iL 4) (hd_iG hs_sh 5 1 (hd_rG hs_sh 0 0 (hd_rL 0))))
def wb_X0_roundsTillPaying_5 : hd_xS := (hd_sQ (hd_sW (hd_cX (hd_c0 (fun x => !decide (x = 0)) (hd_iN (hd_nV hs_sh 0 (hd_rL 0) 2 (hd_pI (hd_pI hd_v0 (hd_iL 1)) (hd_iL 4)) wm_X0_pays)))) (hd_sI 3 (hd_iB (fun x y => if y < x then y else x) (hd_iL 3) (hd_iB (fun x y => x - y) (hd_iN (hd_nV hs_sh 5 (hd_rG hs_sh 0 0 (hd_rL 0)) 2 (hd_pI (hd_pI hd_v0 (hd_iL 4)) (hd_iL 1)) wm_X5_tripOf)) (hd_iA hs_sh (hd_rG hs_sh 0 1 (hd_rL 0)) (hd_iL 1)))))) (hd_sP 4 (1)))
def wo_X0_roundsTillPaying : hd_xS := (hd_sQ (hd_sI 3 (hd_iL 2)) (hd_sQ (hd_sQ (hd_sI 4 (hd_iK (0))) (hd_sH (wc_X0_roundsTillPaying_5) (wb_X0_roundsTillPaying_5))) (hd_sRI (hd_iL 3))))
def wm_X0_roundsTillPaying : hd_M := hd_mth 5 wo_X0_roundsTillPaying
set_option maxHeartbeats 4000000 in
set_option maxRecDepth 100000 in
theorem snd_X0_roundsTillPaying : hd_Snd vwCl hs_sh yX0_roundsTillPaying wsX0_roundsTillPaying 3 wm_X0_roundsTillPaying := hd_method (by decide) rfl rfl (by decide) (fun κ C Rk => (hd_seq (p1 := 2) (hd_sistore_n C (kk0 := 3) (p1 := 1) (hd_iload_n C (kk0 := 2) dX0_roundsTillPaying_0) dX0_roundsTillPaying_1 (by decide)) (hd_seq (p1 := 55) (hd_seq (p1 := 5) (hd_sistore C (p1 := 3) (hd_iconst C dX0_roundsTillPaying_2 (by decide)) dX0_roundsTillPaying_3 (by decide)) (hd_loop C (p1 := 17) (p2 := 55) (hd_c_ltF C (p1 := 7) (p2 := 14) (tgt := 55) (hd_iload C dX0_roundsTillPaying_5) (hd_getI C (p1 := 11) fX0_roundsTillPaying_32 (hd_getR C (p1 := 8) fX0_roundsTillPaying_18 (hd_aload_n C (kk0 := 0) dX0_roundsTillPaying_7) dX0_roundsTillPaying_8) dX0_roundsTillPaying_11) dX0_roundsTillPaying_14 (by decide)) (hd_seq (p1 := 49) (hd_if (p1 := 27) (p2 := 49) (hd_not (hd_z_neT C (p2 := 24) (tgt := 49) (hd_inI (hd_invV C (p1 := 18) (p2 := 21) snd_X0_pays hw_X0_pays gX0_roundsTillPaying_X0_pays hs_c_0 yX0_roundsTillPaying_X0_pays ⟨by decide, by decide⟩ (by decide) (hd_aload_n C (kk0 := 0) dX0_roundsTillPaying_17) (hd_apI (p1 := 19) (p2 := 21) (hd_apI (p1 := 18) (p2 := 19) hd_av0 (hd_iload_n C (kk0 := 1) dX0_roundsTillPaying_18)) (hd_iload C dX0_roundsTillPaying_19)) dX0_roundsTillPaying_21)) dX0_roundsTillPaying_24 (by decide))) (hd_sistore_n C (kk0 := 3) (p1 := 48) (hd_mmin C (p1 := 28) (p2 := 45) wX0_roundsTillPaying_10 wX0_roundsTillPaying_11 wX0_roundsTillPaying_12 wX0_roundsTillPaying_13 (by decide) (hd_iload_n C (kk0 := 3) dX0_roundsTillPaying_27) (hd_isub C (p1 := 38) (p2 := 44) (hd_inI (hd_invV C (p1 := 32) (p2 := 35) snd_X5_tripOf hw_X5_tripOf gX0_roundsTillPaying_X5_tripOf hs_c_5 yX0_roundsTillPaying_X5_tripOf ⟨by decide, by decide⟩ (by decide) (hd_getR C (p1 := 29) fX0_roundsTillPaying_18 (hd_aload_n C (kk0 := 0) dX0_roundsTillPaying_28) dX0_roundsTillPaying_29) (hd_apI (p1 := 34) (p2 := 35) (hd_apI (p1 := 32) (p2 := 34) hd_av0 (hd_iload C dX0_roundsTillPaying_32)) (hd_iload_n C (kk0 := 1) dX0_roundsTillPaying_34)) dX0_roundsTillPaying_35)) (hd_iald C (p1 := 42) (p2 := 43) (hd_getR C (p1 := 39) fX0_roundsTillPaying_9 (hd_aload_n C (kk0 := 0) dX0_roundsTillPaying_38) dX0_roundsTillPaying_39) (hd_iload_n C (kk0 := 1) dX0_roundsTillPaying_42) dX0_roundsTillPaying_43) dX0_roundsTillPaying_44) dX0_roundsTillPaying_45) dX0_roundsTillPaying_48 (by decide)) (by decide)) (hd_sgoto C (p1 := 52) (tgt := 5) (hd_ends (es := [52]) (by decide) (hd_siinc C dX0_roundsTillPaying_49 (by decide) (by decide))) dX0_roundsTillPaying_52 (by decide) (by decide))) (by decide))) (hd_retI C Rk (p1 := 56) (hd_iload_n C (kk0 := 3) dX0_roundsTillPaying_55) dX0_roundsTillPaying_56))))
/-! X1_cheapestBeside -/
theorem hw_X1_cheapestBeside : wsX1_cheapestBeside = Cond.code yX1_cheapestBeside cX1_cheapestBeside 4 (some .int) :: wsX1_cheapestBeside.tail := rfl
set_option maxRecDepth 100000 in
theorem uX1_cheapestBeside_X1 : ∀ w ∈ u_ws RX1 TX1 5, w ∈ wsX1_cheapestBeside := by decide +kernel
set_option maxRecDepth 100000 in
theorem lX1_cheapestBeside_15 : Cond.fieldLink RX1 15 (TX1 0).1 (TX1 0).2.1 (TX1 0).2.2.1 ∈ wsX1_cheapestBeside := by decide +kernel
set_option maxRecDepth 100000 in
theorem fX1_cheapestBeside_15 : hd_F wsX1_cheapestBeside RX1 vwCl 1 0 15 := ⟨RX1, TX1, 5, rfl, by decide, uX1_cheapestBeside_X1, lX1_cheapestBeside_15⟩
set_option maxRecDepth 100000 in
theorem yX1_cheapestBeside_X5_everyHall : yX5_everyHall.cls = RX5 ∧ yX5_everyHall.cls ≠ "java/lang/invoke/MethodHandle" ∧ yX5_everyHall.cls ≠ "java/lang/invoke/VarHandle" ∧ (parseMethodDescriptor yX5_everyHall.desc).map (fun d => d.parameters.length) = some 0 := by decide +kernel
set_option maxRecDepth 100000 in
theorem yX1_cheapestBeside_X1_isBeside : yX1_isBeside.cls ≠ "java/lang/invoke/MethodHandle" ∧ yX1_isBeside.cls ≠ "java/lang/invoke/VarHandle" ∧ (parseMethodDescriptor yX1_isBeside.desc).map (fun d => d.parameters.length) = some 2 := by decide +kernel
set_option maxRecDepth 100000 in
theorem lX1_cheapestBeside_9 : Cond.fieldLink RX1 9 (TX1 3).1 (TX1 3).2.1 (TX1 3).2.2.1 ∈ wsX1_cheapestBeside := by decide +kernel
set_option maxRecDepth 100000 in
theorem fX1_cheapestBeside_9 : hd_F wsX1_cheapestBeside RX1 vwCl 1 3 9 := ⟨RX1, TX1, 5, rfl, by decide, uX1_cheapestBeside_X1, lX1_cheapestBeside_9⟩
set_option maxRecDepth 100000 in
theorem yX1_cheapestBeside_X1_isLess : yX1_isLess.cls ≠ "java/lang/invoke/MethodHandle" ∧ yX1_isLess.cls ≠ "java/lang/invoke/VarHandle" ∧ (parseMethodDescriptor yX1_isLess.desc).map (fun d => d.parameters.length) = some 2 := by decide +kernel
def wc_X1_cheapestBeside_4 : hd_xC := (hd_cI (fun x y => decide (x ≤ y)) (hd_iL 3) (hd_iN (hd_nV hs_sh 5 (hd_rG hs_sh 1 0 (hd_rL 0)) 0 hd_v0 wm_X5_everyHall)))
def wb_X1_cheapestBeside_4 : hd_xS := (hd_sQ (hd_sW (hd_cA (hd_c0 (fun x => !decide (x = 0)) (hd_iN (hd_nS 2 (hd_pI (hd_pI hd_v0 (hd_iL 1)) (hd_iL 3)) wm_X1_isBeside))) (hd_c0 (fun x => !decide (x = 0)) (hd_iN (hd_nS 2 (hd_pI (hd_pI hd_v0 (hd_iA hs_sh (hd_rG hs_sh 1 3 (hd_rL 0)) (hd_iL 3))) (hd_iA hs_sh (hd_rG hs_sh 1 3 (hd_rL 0)) (hd_iL 2))) wm_X1_isLess)))) (hd_sI 2 (hd_iL 3))) (hd_sP 3 (1)))
def wo_X1_cheapestBeside : hd_xS := (hd_sQ (hd_sI 2 (hd_iL 1)) (hd_sQ (hd_sQ (hd_sI 3 (hd_iK (0))) (hd_sH (wc_X1_cheapestBeside_4) (wb_X1_cheapestBeside_4))) (hd_sRI (hd_iL 2))))
def wm_X1_cheapestBeside : hd_M := hd_mth 4 wo_X1_cheapestBeside
set_option maxHeartbeats 4000000 in
set_option maxRecDepth 100000 in
theorem snd_X1_cheapestBeside : hd_Snd vwCl hs_sh yX1_cheapestBeside wsX1_cheapestBeside 3 wm_X1_cheapestBeside := hd_method (by decide) rfl rfl (by decide) (fun κ C Rk => (hd_seq (p1 := 2) (hd_sistore_n C (kk0 := 2) (p1 := 1) (hd_iload_n C (kk0 := 1) dX1_cheapestBeside_0) dX1_cheapestBeside_1 (by decide)) (hd_seq (p1 := 49) (hd_seq (p1 := 4) (hd_sistore_n C (kk0 := 3) (p1 := 3) (hd_iconst C dX1_cheapestBeside_2 (by decide)) dX1_cheapestBeside_3 (by decide)) (hd_loop C (p1 := 15) (p2 := 49) (hd_c_leF C (p1 := 5) (p2 := 12) (tgt := 49) (hd_iload_n C (kk0 := 3) dX1_cheapestBeside_4) (hd_inI (hd_invV C (p1 := 9) (p2 := 9) snd_X5_everyHall hw_X5_everyHall gX1_cheapestBeside_X5_everyHall hs_c_5 yX1_cheapestBeside_X5_everyHall ⟨by decide, by decide⟩ (by decide) (hd_getR C (p1 := 6) fX1_cheapestBeside_15 (hd_aload_n C (kk0 := 0) dX1_cheapestBeside_5) dX1_cheapestBeside_6) hd_av0 dX1_cheapestBeside_9)) dX1_cheapestBeside_12 (by decide)) (hd_seq (p1 := 43) (hd_if (p1 := 41) (p2 := 43) (hd_and (p1 := 23) (p2 := 41) (p3 := 43) (hd_z_neF C (p2 := 20) (tgt := 43) (hd_inI (hd_invS C (p2 := 17) snd_X1_isBeside hw_X1_isBeside gX1_cheapestBeside_X1_isBeside yX1_cheapestBeside_X1_isBeside ⟨by decide, by decide⟩ (by decide) (hd_apI (p1 := 16) (p2 := 17) (hd_apI (p1 := 15) (p2 := 16) hd_av0 (hd_iload_n C (kk0 := 1) dX1_cheapestBeside_15)) (hd_iload_n C (kk0 := 3) dX1_cheapestBeside_16)) dX1_cheapestBeside_17)) dX1_cheapestBeside_20 (by decide)) (hd_z_neF C (p2 := 38) (tgt := 43) (hd_inI (hd_invS C (p2 := 35) snd_X1_isLess hw_X1_isLess gX1_cheapestBeside_X1_isLess yX1_cheapestBeside_X1_isLess ⟨by decide, by decide⟩ (by decide) (hd_apI (p1 := 29) (p2 := 35) (hd_apI (p1 := 23) (p2 := 29) hd_av0 (hd_iald C (p1 := 27) (p2 := 28) (hd_getR C (p1 := 24) fX1_cheapestBeside_9 (hd_aload_n C (kk0 := 0) dX1_cheapestBeside_23) dX1_cheapestBeside_24) (hd_iload_n C (kk0 := 3) dX1_cheapestBeside_27) dX1_cheapestBeside_28)) (hd_iald C (p1 := 33) (p2 := 34) (hd_getR C (p1 := 30) fX1_cheapestBeside_9 (hd_aload_n C (kk0 := 0) dX1_cheapestBeside_29) dX1_cheapestBeside_30) (hd_iload_n C (kk0 := 2) dX1_cheapestBeside_33) dX1_cheapestBeside_34)) dX1_cheapestBeside_35)) dX1_cheapestBeside_38 (by decide))) (hd_sistore_n C (kk0 := 2) (p1 := 42) (hd_iload_n C (kk0 := 3) dX1_cheapestBeside_41) dX1_cheapestBeside_42 (by decide)) (by decide)) (hd_sgoto C (p1 := 46) (tgt := 4) (hd_ends (es := [46]) (by decide) (hd_siinc C dX1_cheapestBeside_43 (by decide) (by decide))) dX1_cheapestBeside_46 (by decide) (by decide))) (by decide))) (hd_retI C Rk (p1 := 50) (hd_iload_n C (kk0 := 2) dX1_cheapestBeside_49) dX1_cheapestBeside_50))))
/-! X1_closedOf -/
theorem hw_X1_closedOf : wsX1_closedOf = Cond.code yX1_closedOf cX1_closedOf 3 (some .int) :: wsX1_closedOf.tail := rfl
set_option maxRecDepth 100000 in
theorem yX1_closedOf_X1_worstToClose : yX1_worstToClose.cls = RX1 ∧ yX1_worstToClose.cls ≠ "java/lang/invoke/MethodHandle" ∧ yX1_worstToClose.cls ≠ "java/lang/invoke/VarHandle" ∧ (parseMethodDescriptor yX1_worstToClose.desc).map (fun d => d.parameters.length) = some 1 := by decide +kernel
set_option maxRecDepth 100000 in
theorem uX1_closedOf_X1 : ∀ w ∈ u_ws RX1 TX1 5, w ∈ wsX1_closedOf := by decide +kernel
set_option maxRecDepth 100000 in
theorem lX1_closedOf_19 : Cond.fieldLink RX1 19 (TX1 1).1 (TX1 1).2.1 (TX1 1).2.2.1 ∈ wsX1_closedOf := by decide +kernel
set_option maxRecDepth 100000 in
theorem fX1_closedOf_19 : hd_F wsX1_closedOf RX1 vwCl 1 1 19 := ⟨RX1, TX1, 5, rfl, by decide, uX1_closedOf_X1, lX1_closedOf_19⟩
set_option maxRecDepth 100000 in
theorem uX1_closedOf_X6 : ∀ w ∈ u_ws RX6 TX6 5, w ∈ wsX1_closedOf := by decide +kernel
set_option maxRecDepth 100000 in
theorem lX1_closedOf_27 : Cond.fieldLink RX1 27 (TX6 2).1 (TX6 2).2.1 (TX6 2).2.2.1 ∈ wsX1_closedOf := by decide +kernel
set_option maxRecDepth 100000 in
theorem fX1_closedOf_27 : hd_F wsX1_closedOf RX1 vwCl 6 2 27 := ⟨RX6, TX6, 5, rfl, by decide, uX1_closedOf_X6, lX1_closedOf_27⟩
def wo_X1_closedOf : hd_xS := (hd_sQ (hd_sI 2 (hd_iN (hd_nV hs_sh 1 (hd_rL 0) 1 (hd_pI hd_v0 (hd_iL 1)) wm_X1_worstToClose))) (hd_sRI (hd_iQ (hd_cI (fun x y => decide (x = y)) (hd_iL 2) (hd_iK (-1))) (hd_iK (-1)) (hd_iA hs_sh (hd_rG hs_sh 6 2 (hd_rG hs_sh 1 1 (hd_rL 0))) (hd_iB (fun x y => x &&& y) (hd_iL 1) (hd_iB (fun x y => x ^^^ y) (hd_iB (fun x y => x <<< (y &&& 31)) (hd_iK (1)) (hd_iL 2)) (hd_iK (-1))))))))
def wm_X1_closedOf : hd_M := hd_mth 3 wo_X1_closedOf
set_option maxHeartbeats 4000000 in
set_option maxRecDepth 100000 in
theorem snd_X1_closedOf : hd_Snd vwCl hs_sh yX1_closedOf wsX1_closedOf 3 wm_X1_closedOf := hd_method (by decide) rfl rfl (by decide) (fun κ C Rk => (hd_seq (p1 := 6) (hd_sistore_n C (kk0 := 2) (p1 := 5) (hd_inI (hd_invV C (p1 := 1) (p2 := 2) snd_X1_worstToClose hw_X1_worstToClose gX1_closedOf_X1_worstToClose hs_c_1 yX1_closedOf_X1_worstToClose ⟨by decide, by decide⟩ (by decide) (hd_aload_n C (kk0 := 0) dX1_closedOf_0) (hd_apI (p1 := 1) (p2 := 2) hd_av0 (hd_iload_n C (kk0 := 1) dX1_closedOf_1)) dX1_closedOf_2)) dX1_closedOf_5 (by decide)) (hd_retI C Rk (p1 := 30) (hd_tnI C (p1 := 11) (p2 := 12) (p3 := 15) (p4 := 30) (hd_c_eqF C (p1 := 7) (p2 := 8) (tgt := 15) (hd_iload_n C (kk0 := 2) dX1_closedOf_6) (hd_iconst C dX1_closedOf_7 (by decide)) dX1_closedOf_8 (by decide)) (hd_iconst C dX1_closedOf_11 (by decide)) dX1_closedOf_12 (by decide) (hd_iald C (p1 := 22) (p2 := 29) (hd_getR C (p1 := 19) fX1_closedOf_27 (hd_getR C (p1 := 16) fX1_closedOf_19 (hd_aload_n C (kk0 := 0) dX1_closedOf_15) dX1_closedOf_16) dX1_closedOf_19) (hd_iand C (p1 := 23) (p2 := 28) (hd_iload_n C (kk0 := 1) dX1_closedOf_22) (hd_ixor C (p1 := 26) (p2 := 27) (hd_ishl C (p1 := 24) (p2 := 25) (hd_iconst C dX1_closedOf_23 (by decide)) (hd_iload_n C (kk0 := 2) dX1_closedOf_24) dX1_closedOf_25) (hd_iconst C dX1_closedOf_26 (by decide)) dX1_closedOf_27) dX1_closedOf_28) dX1_closedOf_29)) dX1_closedOf_30)))
/-! X1_worstRival -/
theorem hw_X1_worstRival : wsX1_worstRival = Cond.code yX1_worstRival cX1_worstRival 6 (some .int) :: wsX1_worstRival.tail := rfl
set_option maxRecDepth 100000 in
theorem uX1_worstRival_X1 : ∀ w ∈ u_ws RX1 TX1 5, w ∈ wsX1_worstRival := by decide +kernel
set_option maxRecDepth 100000 in
theorem lX1_worstRival_15 : Cond.fieldLink RX1 15 (TX1 0).1 (TX1 0).2.1 (TX1 0).2.2.1 ∈ wsX1_worstRival := by decide +kernel
set_option maxRecDepth 100000 in
theorem fX1_worstRival_15 : hd_F wsX1_worstRival RX1 vwCl 1 0 15 := ⟨RX1, TX1, 5, rfl, by decide, uX1_worstRival_X1, lX1_worstRival_15⟩
set_option maxRecDepth 100000 in
theorem uX1_worstRival_X5 : ∀ w ∈ u_ws RX5 TX5 10, w ∈ wsX1_worstRival := by decide +kernel
set_option maxRecDepth 100000 in
theorem lX1_worstRival_93 : Cond.fieldLink RX1 93 (TX5 1).1 (TX5 1).2.1 (TX5 1).2.2.1 ∈ wsX1_worstRival := by decide +kernel
set_option maxRecDepth 100000 in
theorem fX1_worstRival_93 : hd_F wsX1_worstRival RX1 vwCl 5 1 93 := ⟨RX5, TX5, 10, rfl, by decide, uX1_worstRival_X5, lX1_worstRival_93⟩
set_option maxRecDepth 100000 in
theorem yX1_worstRival_X5_isIn : yX5_isIn.cls ≠ "java/lang/invoke/MethodHandle" ∧ yX5_isIn.cls ≠ "java/lang/invoke/VarHandle" ∧ (parseMethodDescriptor yX5_isIn.desc).map (fun d => d.parameters.length) = some 2 := by decide +kernel
set_option maxRecDepth 100000 in
theorem yX1_worstRival_X1_takenBy : yX1_takenBy.cls = RX1 ∧ yX1_takenBy.cls ≠ "java/lang/invoke/MethodHandle" ∧ yX1_takenBy.cls ≠ "java/lang/invoke/VarHandle" ∧ (parseMethodDescriptor yX1_takenBy.desc).map (fun d => d.parameters.length) = some 2 := by decide +kernel
def wc_X1_worstRival_13 : hd_xC := (hd_cI (fun x y => decide (x < y)) (hd_iL 4) (hd_iG hs_sh 5 1 (hd_rG hs_sh 1 0 (hd_rL 0))))
def wb_X1_worstRival_13 : hd_xS := (hd_sQ (hd_sQ (hd_sI 5 (hd_iQ (hd_c0 (fun x => !decide (x = 0)) (hd_iN (hd_nS 2 (hd_pI (hd_pI hd_v0 (hd_iL 4)) (hd_iL 1)) wm_X5_isIn))) (hd_iK (-1)) (hd_iN (hd_nV hs_sh 1 (hd_rL 0) 2 (hd_pI (hd_pI hd_v0 (hd_iL 4)) (hd_iL 1)) wm_X1_takenBy)))) (hd_sW (hd_cI (fun x y => decide (y < x)) (hd_iL 5) (hd_iL 3)) (hd_sQ (hd_sI 2 (hd_iL 4)) (hd_sI 3 (hd_iL 5))))) (hd_sP 4 (1)))
def wo_X1_worstRival : hd_xS := (hd_sQ (hd_sW (hd_c0 (fun x => decide (x = 0)) (hd_iL 1)) (hd_sRI (hd_iK (-1)))) (hd_sQ (hd_sI 2 (hd_iK (-1))) (hd_sQ (hd_sI 3 (hd_iK (-1))) (hd_sQ (hd_sQ (hd_sI 4 (hd_iK (0))) (hd_sH (wc_X1_worstRival_13) (wb_X1_worstRival_13))) (hd_sRI (hd_iL 2))))))
def wm_X1_worstRival : hd_M := hd_mth 6 wo_X1_worstRival
set_option maxHeartbeats 4000000 in
set_option maxRecDepth 100000 in
theorem snd_X1_worstRival : hd_Snd vwCl hs_sh yX1_worstRival wsX1_worstRival 3 wm_X1_worstRival := hd_method (by decide) rfl rfl (by decide) (fun κ C Rk => (hd_seq (p1 := 6) (hd_if (p1 := 4) (p2 := 6) (hd_z_eqF C (p2 := 1) (tgt := 6) (hd_iload_n C (kk0 := 1) dX1_worstRival_0) dX1_worstRival_1 (by decide)) (hd_retI C Rk (p1 := 5) (hd_iconst C dX1_worstRival_4 (by decide)) dX1_worstRival_5) (by decide)) (hd_seq (p1 := 8) (hd_sistore_n C (kk0 := 2) (p1 := 7) (hd_iconst C dX1_worstRival_6 (by decide)) dX1_worstRival_7 (by decide)) (hd_seq (p1 := 10) (hd_sistore_n C (kk0 := 3) (p1 := 9) (hd_iconst C dX1_worstRival_8 (by decide)) dX1_worstRival_9 (by decide)) (hd_seq (p1 := 65) (hd_seq (p1 := 13) (hd_sistore C (p1 := 11) (hd_iconst C dX1_worstRival_10 (by decide)) dX1_worstRival_11 (by decide)) (hd_loop C (p1 := 25) (p2 := 65) (hd_c_ltF C (p1 := 15) (p2 := 22) (tgt := 65) (hd_iload C dX1_worstRival_13) (hd_getI C (p1 := 19) fX1_worstRival_93 (hd_getR C (p1 := 16) fX1_worstRival_15 (hd_aload_n C (kk0 := 0) dX1_worstRival_15) dX1_worstRival_16) dX1_worstRival_19) dX1_worstRival_22 (by decide)) (hd_seq (p1 := 59) (hd_seq (p1 := 47) (hd_sistore C (p1 := 45) (hd_tnI C (p1 := 34) (p2 := 35) (p3 := 38) (p4 := 45) (hd_z_neF C (p2 := 31) (tgt := 38) (hd_inI (hd_invS C (p2 := 28) snd_X5_isIn hw_X5_isIn gX1_worstRival_X5_isIn yX1_worstRival_X5_isIn ⟨by decide, by decide⟩ (by decide) (hd_apI (p1 := 27) (p2 := 28) (hd_apI (p1 := 25) (p2 := 27) hd_av0 (hd_iload C dX1_worstRival_25)) (hd_iload_n C (kk0 := 1) dX1_worstRival_27)) dX1_worstRival_28)) dX1_worstRival_31 (by decide)) (hd_iconst C dX1_worstRival_34 (by decide)) dX1_worstRival_35 (by decide) (hd_inI (hd_invV C (p1 := 39) (p2 := 42) snd_X1_takenBy hw_X1_takenBy gX1_worstRival_X1_takenBy hs_c_1 yX1_worstRival_X1_takenBy ⟨by decide, by decide⟩ (by decide) (hd_aload_n C (kk0 := 0) dX1_worstRival_38) (hd_apI (p1 := 41) (p2 := 42) (hd_apI (p1 := 39) (p2 := 41) hd_av0 (hd_iload C dX1_worstRival_39)) (hd_iload_n C (kk0 := 1) dX1_worstRival_41)) dX1_worstRival_42))) dX1_worstRival_45 (by decide)) (hd_if (p1 := 53) (p2 := 59) (hd_c_gtF C (p1 := 49) (p2 := 50) (tgt := 59) (hd_iload C dX1_worstRival_47) (hd_iload_n C (kk0 := 3) dX1_worstRival_49) dX1_worstRival_50 (by decide)) (hd_seq (p1 := 56) (hd_sistore_n C (kk0 := 2) (p1 := 55) (hd_iload C dX1_worstRival_53) dX1_worstRival_55 (by decide)) (hd_sistore_n C (kk0 := 3) (p1 := 58) (hd_iload C dX1_worstRival_56) dX1_worstRival_58 (by decide))) (by decide))) (hd_sgoto C (p1 := 62) (tgt := 13) (hd_ends (es := [62]) (by decide) (hd_siinc C dX1_worstRival_59 (by decide) (by decide))) dX1_worstRival_62 (by decide) (by decide))) (by decide))) (hd_retI C Rk (p1 := 66) (hd_iload_n C (kk0 := 2) dX1_worstRival_65) dX1_worstRival_66))))))
/-! X3_chosenAt -/
theorem hw_X3_chosenAt : wsX3_chosenAt = Cond.code yX3_chosenAt cX3_chosenAt 4 (some .int) :: wsX3_chosenAt.tail := rfl
set_option maxRecDepth 100000 in
theorem uX3_chosenAt_X3 : ∀ w ∈ u_ws RX3 TX3 5, w ∈ wsX3_chosenAt := by decide +kernel
set_option maxRecDepth 100000 in
theorem lX3_chosenAt_22 : Cond.fieldLink RX3 22 (TX3 2).1 (TX3 2).2.1 (TX3 2).2.2.1 ∈ wsX3_chosenAt := by decide +kernel
set_option maxRecDepth 100000 in
theorem fX3_chosenAt_22 : hd_F wsX3_chosenAt RX3 vwCl 3 2 22 := ⟨RX3, TX3, 5, rfl, by decide, uX3_chosenAt_X3, lX3_chosenAt_22⟩
set_option maxRecDepth 100000 in
theorem lX3_chosenAt_32 : Cond.fieldLink RX3 32 (TX3 3).1 (TX3 3).2.1 (TX3 3).2.2.1 ∈ wsX3_chosenAt := by decide +kernel
set_option maxRecDepth 100000 in
theorem fX3_chosenAt_32 : hd_F wsX3_chosenAt RX3 vwCl 3 3 32 := ⟨RX3, TX3, 5, rfl, by decide, uX3_chosenAt_X3, lX3_chosenAt_32⟩
set_option maxRecDepth 100000 in
theorem yX3_chosenAt_X3_isChosen : yX3_isChosen.cls = RX3 ∧ yX3_isChosen.cls ≠ "java/lang/invoke/MethodHandle" ∧ yX3_isChosen.cls ≠ "java/lang/invoke/VarHandle" ∧ (parseMethodDescriptor yX3_isChosen.desc).map (fun d => d.parameters.length) = some 2 := by decide +kernel
set_option maxRecDepth 100000 in
theorem lX3_chosenAt_9 : Cond.fieldLink RX3 9 (TX3 1).1 (TX3 1).2.1 (TX3 1).2.2.1 ∈ wsX3_chosenAt := by decide +kernel
set_option maxRecDepth 100000 in
theorem fX3_chosenAt_9 : hd_F wsX3_chosenAt RX3 vwCl 3 1 9 := ⟨RX3, TX3, 5, rfl, by decide, uX3_chosenAt_X3, lX3_chosenAt_9⟩
def wc_X3_chosenAt_4 : hd_xC := (hd_cI (fun x y => decide (x < y)) (hd_iL 3) (hd_iG hs_sh 3 2 (hd_rL 0)))
def wb_X3_chosenAt_4 : hd_xS := (hd_sQ (hd_sW (hd_c0 (fun x => !decide (x = 0)) (hd_iN (hd_nV hs_sh 3 (hd_rL 0) 2 (hd_pI (hd_pI hd_v0 (hd_iG hs_sh 3 3 (hd_rL 0))) (hd_iL 3)) wm_X3_isChosen))) (hd_sQ (hd_sW (hd_cI (fun x y => decide (x = y)) (hd_iL 2) (hd_iL 1)) (hd_sRI (hd_iB (fun x y => x + y) (hd_iA hs_sh (hd_rG hs_sh 3 1 (hd_rL 0)) (hd_iL 3)) (hd_iK (1000))))) (hd_sP 2 (1)))) (hd_sP 3 (1)))
def wo_X3_chosenAt : hd_xS := (hd_sQ (hd_sI 2 (hd_iK (0))) (hd_sQ (hd_sQ (hd_sI 3 (hd_iK (0))) (hd_sH (wc_X3_chosenAt_4) (wb_X3_chosenAt_4))) (hd_sRI (hd_iK (-1)))))
def wm_X3_chosenAt : hd_M := hd_mth 4 wo_X3_chosenAt
set_option maxHeartbeats 4000000 in
set_option maxRecDepth 100000 in
theorem snd_X3_chosenAt : hd_Snd vwCl hs_sh yX3_chosenAt wsX3_chosenAt 3 wm_X3_chosenAt := hd_method (by decide) rfl rfl (by decide) (fun κ C Rk => (hd_seq (p1 := 2) (hd_sistore_n C (kk0 := 2) (p1 := 1) (hd_iconst C dX3_chosenAt_0 (by decide)) dX3_chosenAt_1 (by decide)) (hd_seq (p1 := 49) (hd_seq (p1 := 4) (hd_sistore_n C (kk0 := 3) (p1 := 3) (hd_iconst C dX3_chosenAt_2 (by decide)) dX3_chosenAt_3 (by decide)) (hd_loop C (p1 := 12) (p2 := 49) (hd_c_ltF C (p1 := 5) (p2 := 9) (tgt := 49) (hd_iload_n C (kk0 := 3) dX3_chosenAt_4) (hd_getI C (p1 := 6) fX3_chosenAt_22 (hd_aload_n C (kk0 := 0) dX3_chosenAt_5) dX3_chosenAt_6) dX3_chosenAt_9 (by decide)) (hd_seq (p1 := 43) (hd_if (p1 := 24) (p2 := 43) (hd_z_neF C (p2 := 21) (tgt := 43) (hd_inI (hd_invV C (p1 := 13) (p2 := 18) snd_X3_isChosen hw_X3_isChosen gX3_chosenAt_X3_isChosen hs_c_3 yX3_chosenAt_X3_isChosen ⟨by decide, by decide⟩ (by decide) (hd_aload_n C (kk0 := 0) dX3_chosenAt_12) (hd_apI (p1 := 17) (p2 := 18) (hd_apI (p1 := 13) (p2 := 17) hd_av0 (hd_getI C (p1 := 14) fX3_chosenAt_32 (hd_aload_n C (kk0 := 0) dX3_chosenAt_13) dX3_chosenAt_14)) (hd_iload_n C (kk0 := 3) dX3_chosenAt_17)) dX3_chosenAt_18)) dX3_chosenAt_21 (by decide)) (hd_seq (p1 := 40) (hd_if (p1 := 29) (p2 := 40) (hd_c_eqF C (p1 := 25) (p2 := 26) (tgt := 40) (hd_iload_n C (kk0 := 2) dX3_chosenAt_24) (hd_iload_n C (kk0 := 1) dX3_chosenAt_25) dX3_chosenAt_26 (by decide)) (hd_retI C Rk (p1 := 39) (hd_iadd C (p1 := 35) (p2 := 38) (hd_iald C (p1 := 33) (p2 := 34) (hd_getR C (p1 := 30) fX3_chosenAt_9 (hd_aload_n C (kk0 := 0) dX3_chosenAt_29) dX3_chosenAt_30) (hd_iload_n C (kk0 := 3) dX3_chosenAt_33) dX3_chosenAt_34) (hd_sipush C dX3_chosenAt_35 (by decide)) dX3_chosenAt_38) dX3_chosenAt_39) (by decide)) (hd_siinc C dX3_chosenAt_40 (by decide) (by decide))) (by decide)) (hd_sgoto C (p1 := 46) (tgt := 4) (hd_ends (es := [46]) (by decide) (hd_siinc C dX3_chosenAt_43 (by decide) (by decide))) dX3_chosenAt_46 (by decide) (by decide))) (by decide))) (hd_retI C Rk (p1 := 50) (hd_iconst C dX3_chosenAt_49 (by decide)) dX3_chosenAt_50))))
/-! X3_nearestOn -/
theorem hw_X3_nearestOn : wsX3_nearestOn = Cond.code yX3_nearestOn cX3_nearestOn 5 (some .int) :: wsX3_nearestOn.tail := rfl
set_option maxRecDepth 100000 in
theorem uX3_nearestOn_X3 : ∀ w ∈ u_ws RX3 TX3 5, w ∈ wsX3_nearestOn := by decide +kernel
set_option maxRecDepth 100000 in
theorem lX3_nearestOn_22 : Cond.fieldLink RX3 22 (TX3 2).1 (TX3 2).2.1 (TX3 2).2.2.1 ∈ wsX3_nearestOn := by decide +kernel
set_option maxRecDepth 100000 in
theorem fX3_nearestOn_22 : hd_F wsX3_nearestOn RX3 vwCl 3 2 22 := ⟨RX3, TX3, 5, rfl, by decide, uX3_nearestOn_X3, lX3_nearestOn_22⟩
set_option maxRecDepth 100000 in
theorem yX3_nearestOn_X3_isChosen : yX3_isChosen.cls = RX3 ∧ yX3_isChosen.cls ≠ "java/lang/invoke/MethodHandle" ∧ yX3_isChosen.cls ≠ "java/lang/invoke/VarHandle" ∧ (parseMethodDescriptor yX3_isChosen.desc).map (fun d => d.parameters.length) = some 2 := by decide +kernel
set_option maxRecDepth 100000 in
theorem lX3_nearestOn_9 : Cond.fieldLink RX3 9 (TX3 1).1 (TX3 1).2.1 (TX3 1).2.2.1 ∈ wsX3_nearestOn := by decide +kernel
set_option maxRecDepth 100000 in
theorem fX3_nearestOn_9 : hd_F wsX3_nearestOn RX3 vwCl 3 1 9 := ⟨RX3, TX3, 5, rfl, by decide, uX3_nearestOn_X3, lX3_nearestOn_9⟩
set_option maxRecDepth 100000 in
theorem wX3_nearestOn_6 : Cond.methodLink RX3 67 Lib.Math.abs.name ∈ wsX3_nearestOn := by decide +kernel
set_option maxRecDepth 100000 in
theorem wX3_nearestOn_7 : Cond.static Lib.Math.abs.name ∈ wsX3_nearestOn := by decide +kernel
set_option maxRecDepth 100000 in
theorem wX3_nearestOn_8 : Cond.initialized "java/lang/Math" ∈ wsX3_nearestOn := by decide +kernel
set_option maxRecDepth 100000 in
theorem wX3_nearestOn_9 : Cond.code Lib.Math.abs.name Lib.Math.abs.code 1 (some .int) ∈ wsX3_nearestOn := by decide +kernel
set_option maxRecDepth 100000 in
theorem wX3_nearestOn_10 : Cond.methodLink RX3 26 Lib.Math.min.name ∈ wsX3_nearestOn := by decide +kernel
set_option maxRecDepth 100000 in
theorem wX3_nearestOn_11 : Cond.static Lib.Math.min.name ∈ wsX3_nearestOn := by decide +kernel
set_option maxRecDepth 100000 in
theorem wX3_nearestOn_12 : Cond.code Lib.Math.min.name Lib.Math.min.code 2 (some .int) ∈ wsX3_nearestOn := by decide +kernel
def wc_X3_nearestOn_7 : hd_xC := (hd_cI (fun x y => decide (x < y)) (hd_iL 4) (hd_iG hs_sh 3 2 (hd_rL 0)))
def wb_X3_nearestOn_7 : hd_xS := (hd_sQ (hd_sW (hd_c0 (fun x => !decide (x = 0)) (hd_iN (hd_nV hs_sh 3 (hd_rL 0) 2 (hd_pI (hd_pI hd_v0 (hd_iL 1)) (hd_iL 4)) wm_X3_isChosen))) (hd_sI 3 (hd_iB (fun x y => if y < x then y else x) (hd_iL 3) (hd_iU (fun x => if 0 ≤ x then x else 0 - x) (hd_iB (fun x y => x - y) (hd_iA hs_sh (hd_rG hs_sh 3 1 (hd_rL 0)) (hd_iL 4)) (hd_iL 2)))))) (hd_sP 4 (1)))
def wo_X3_nearestOn : hd_xS := (hd_sQ (hd_sI 3 (hd_iK (2000))) (hd_sQ (hd_sQ (hd_sI 4 (hd_iK (0))) (hd_sH (wc_X3_nearestOn_7) (wb_X3_nearestOn_7))) (hd_sRI (hd_iL 3))))
def wm_X3_nearestOn : hd_M := hd_mth 5 wo_X3_nearestOn
set_option maxHeartbeats 4000000 in
set_option maxRecDepth 100000 in
theorem snd_X3_nearestOn : hd_Snd vwCl hs_sh yX3_nearestOn wsX3_nearestOn 3 wm_X3_nearestOn := hd_method (by decide) rfl rfl (by decide) (fun κ C Rk => (hd_seq (p1 := 4) (hd_sistore_n C (kk0 := 3) (p1 := 3) (hd_sipush C dX3_nearestOn_0 (by decide)) dX3_nearestOn_3 (by decide)) (hd_seq (p1 := 49) (hd_seq (p1 := 7) (hd_sistore C (p1 := 5) (hd_iconst C dX3_nearestOn_4 (by decide)) dX3_nearestOn_5 (by decide)) (hd_loop C (p1 := 16) (p2 := 49) (hd_c_ltF C (p1 := 9) (p2 := 13) (tgt := 49) (hd_iload C dX3_nearestOn_7) (hd_getI C (p1 := 10) fX3_nearestOn_22 (hd_aload_n C (kk0 := 0) dX3_nearestOn_9) dX3_nearestOn_10) dX3_nearestOn_13 (by decide)) (hd_seq (p1 := 43) (hd_if (p1 := 26) (p2 := 43) (hd_z_neF C (p2 := 23) (tgt := 43) (hd_inI (hd_invV C (p1 := 17) (p2 := 20) snd_X3_isChosen hw_X3_isChosen gX3_nearestOn_X3_isChosen hs_c_3 yX3_nearestOn_X3_isChosen ⟨by decide, by decide⟩ (by decide) (hd_aload_n C (kk0 := 0) dX3_nearestOn_16) (hd_apI (p1 := 18) (p2 := 20) (hd_apI (p1 := 17) (p2 := 18) hd_av0 (hd_iload_n C (kk0 := 1) dX3_nearestOn_17)) (hd_iload C dX3_nearestOn_18)) dX3_nearestOn_20)) dX3_nearestOn_23 (by decide)) (hd_sistore_n C (kk0 := 3) (p1 := 42) (hd_mmin C (p1 := 27) (p2 := 39) wX3_nearestOn_10 wX3_nearestOn_11 wX3_nearestOn_8 wX3_nearestOn_12 (by decide) (hd_iload_n C (kk0 := 3) dX3_nearestOn_26) (hd_mabs C (p1 := 36) wX3_nearestOn_6 wX3_nearestOn_7 wX3_nearestOn_8 wX3_nearestOn_9 (by decide) (hd_isub C (p1 := 34) (p2 := 35) (hd_iald C (p1 := 31) (p2 := 33) (hd_getR C (p1 := 28) fX3_nearestOn_9 (hd_aload_n C (kk0 := 0) dX3_nearestOn_27) dX3_nearestOn_28) (hd_iload C dX3_nearestOn_31) dX3_nearestOn_33) (hd_iload_n C (kk0 := 2) dX3_nearestOn_34) dX3_nearestOn_35) dX3_nearestOn_36) dX3_nearestOn_39) dX3_nearestOn_42 (by decide)) (by decide)) (hd_sgoto C (p1 := 46) (tgt := 7) (hd_ends (es := [46]) (by decide) (hd_siinc C dX3_nearestOn_43 (by decide) (by decide))) dX3_nearestOn_46 (by decide) (by decide))) (by decide))) (hd_retI C Rk (p1 := 50) (hd_iload_n C (kk0 := 3) dX3_nearestOn_49) dX3_nearestOn_50))))
/-! X6_refresh -/
theorem hw_X6_refresh : wsX6_refresh = Cond.code yX6_refresh cX6_refresh 3 none :: wsX6_refresh.tail := rfl
set_option maxRecDepth 100000 in
theorem uX6_refresh_X6 : ∀ w ∈ u_ws RX6 TX6 5, w ∈ wsX6_refresh := by decide +kernel
set_option maxRecDepth 100000 in
theorem lX6_refresh_21 : Cond.fieldLink RX6 21 (TX6 4).1 (TX6 4).2.1 (TX6 4).2.2.1 ∈ wsX6_refresh := by decide +kernel
set_option maxRecDepth 100000 in
theorem fX6_refresh_21 : hd_F wsX6_refresh RX6 vwCl 6 4 21 := ⟨RX6, TX6, 5, rfl, by decide, uX6_refresh_X6, lX6_refresh_21⟩
set_option maxRecDepth 100000 in
theorem qX6_refresh_21 : hd_FP wsX6_refresh RX6 vwCl 6 4 21 .boolean := ⟨RX6, TX6, 5, tyX6, rfl, by decide, uX6_refresh_X6, lX6_refresh_21, tyX6_ok, nmX6, rfl, rfl⟩
set_option maxRecDepth 100000 in
theorem lX6_refresh_9 : Cond.fieldLink RX6 9 (TX6 1).1 (TX6 1).2.1 (TX6 1).2.2.1 ∈ wsX6_refresh := by decide +kernel
set_option maxRecDepth 100000 in
theorem fX6_refresh_9 : hd_F wsX6_refresh RX6 vwCl 6 1 9 := ⟨RX6, TX6, 5, rfl, by decide, uX6_refresh_X6, lX6_refresh_9⟩
set_option maxRecDepth 100000 in
theorem wX6_refresh_6 : Cond.constant RX6 29 (1000000) ∈ wsX6_refresh := by decide +kernel
set_option maxRecDepth 100000 in
theorem lX6_refresh_15 : Cond.fieldLink RX6 15 (TX6 2).1 (TX6 2).2.1 (TX6 2).2.2.1 ∈ wsX6_refresh := by decide +kernel
set_option maxRecDepth 100000 in
theorem fX6_refresh_15 : hd_F wsX6_refresh RX6 vwCl 6 2 15 := ⟨RX6, TX6, 5, rfl, by decide, uX6_refresh_X6, lX6_refresh_15⟩
set_option maxRecDepth 100000 in
theorem lX6_refresh_25 : Cond.fieldLink RX6 25 (TX6 0).1 (TX6 0).2.1 (TX6 0).2.2.1 ∈ wsX6_refresh := by decide +kernel
set_option maxRecDepth 100000 in
theorem fX6_refresh_25 : hd_F wsX6_refresh RX6 vwCl 6 0 25 := ⟨RX6, TX6, 5, rfl, by decide, uX6_refresh_X6, lX6_refresh_25⟩
set_option maxRecDepth 100000 in
theorem uX6_refresh_X5 : ∀ w ∈ u_ws RX5 TX5 10, w ∈ wsX6_refresh := by decide +kernel
set_option maxRecDepth 100000 in
theorem lX6_refresh_30 : Cond.fieldLink RX6 30 (TX5 0).1 (TX5 0).2.1 (TX5 0).2.2.1 ∈ wsX6_refresh := by decide +kernel
set_option maxRecDepth 100000 in
theorem fX6_refresh_30 : hd_F wsX6_refresh RX6 vwCl 5 0 30 := ⟨RX5, TX5, 10, rfl, by decide, uX6_refresh_X5, lX6_refresh_30⟩
set_option maxRecDepth 100000 in
theorem lX6_refresh_18 : Cond.fieldLink RX6 18 (TX6 3).1 (TX6 3).2.1 (TX6 3).2.2.1 ∈ wsX6_refresh := by decide +kernel
set_option maxRecDepth 100000 in
theorem fX6_refresh_18 : hd_F wsX6_refresh RX6 vwCl 6 3 18 := ⟨RX6, TX6, 5, rfl, by decide, uX6_refresh_X6, lX6_refresh_18⟩
set_option maxRecDepth 100000 in
theorem lX6_refresh_36 : Cond.fieldLink RX6 36 (TX5 1).1 (TX5 1).2.1 (TX5 1).2.2.1 ∈ wsX6_refresh := by decide +kernel
set_option maxRecDepth 100000 in
theorem fX6_refresh_36 : hd_F wsX6_refresh RX6 vwCl 5 1 36 := ⟨RX5, TX5, 10, rfl, by decide, uX6_refresh_X5, lX6_refresh_36⟩
set_option maxRecDepth 100000 in
theorem yX6_refresh_X6_addHallTo : yX6_addHallTo.cls = RX6 ∧ yX6_addHallTo.cls ≠ "java/lang/invoke/MethodHandle" ∧ yX6_addHallTo.cls ≠ "java/lang/invoke/VarHandle" ∧ (parseMethodDescriptor yX6_addHallTo.desc).map (fun d => d.parameters.length) = some 2 := by decide +kernel
def wc_X6_refresh_15 : hd_xC := (hd_cI (fun x y => decide (x < y)) (hd_iL 1) (hd_iK (8)))
def wb_X6_refresh_15 : hd_xS := (hd_sQ (hd_sA hs_sh (hd_rG hs_sh 6 1 (hd_rL 0)) (hd_iL 1) (hd_iK (1000000))) (hd_sP 1 (1)))
def wc_X6_refresh_78 : hd_xC := (hd_cI (fun x y => decide (x < y)) (hd_iL 2) (hd_iB (fun x y => x <<< (y &&& 31)) (hd_iK (1)) (hd_iL 1)))
def wb_X6_refresh_78 : hd_xS := (hd_sQ (hd_sN (hd_nV hs_sh 6 (hd_rL 0) 2 (hd_pI (hd_pI hd_v0 (hd_iL 2)) (hd_iL 1)) wm_X6_addHallTo)) (hd_sP 2 (1)))
def wc_X6_refresh_65 : hd_xC := (hd_cI (fun x y => decide (x < y)) (hd_iL 1) (hd_iG hs_sh 5 1 (hd_rG hs_sh 6 0 (hd_rL 0))))
def wb_X6_refresh_65 : hd_xS := (hd_sQ (hd_sQ (hd_sI 2 (hd_iK (0))) (hd_sH (wc_X6_refresh_78) (wb_X6_refresh_78))) (hd_sP 1 (1)))
def wo_X6_refresh : hd_xS := (hd_sQ (hd_sW (hd_cX (hd_c0 (fun x => !decide (x = 0)) (hd_iG hs_sh 6 4 (hd_rL 0)))) hd_sRV) (hd_sQ (hd_sZ hs_sh 6 4 (hd_rL 0) (hd_iK (0))) (hd_sQ (hd_sQ (hd_sI 1 (hd_iK (0))) (hd_sH (wc_X6_refresh_15) (wb_X6_refresh_15))) (hd_sQ (hd_sA hs_sh (hd_rG hs_sh 6 2 (hd_rL 0)) (hd_iK (0)) (hd_iQ (hd_c0 (fun x => decide (x = 0)) (hd_iG hs_sh 5 0 (hd_rG hs_sh 6 0 (hd_rL 0)))) (hd_iK (0)) (hd_iK (-1)))) (hd_sQ (hd_sA hs_sh (hd_rG hs_sh 6 3 (hd_rL 0)) (hd_iK (0)) (hd_iK (0))) (hd_sQ (hd_sQ (hd_sI 1 (hd_iK (0))) (hd_sH (wc_X6_refresh_65) (wb_X6_refresh_65))) hd_sRV))))))
def wm_X6_refresh : hd_M := hd_mth 3 wo_X6_refresh
set_option maxHeartbeats 4000000 in
set_option maxRecDepth 100000 in
theorem snd_X6_refresh : hd_Snd vwCl hs_sh yX6_refresh wsX6_refresh 3 wm_X6_refresh := hd_method (by decide) rfl rfl (by decide) (fun κ C Rk => (hd_seq (p1 := 8) (hd_if (p1 := 7) (p2 := 8) (hd_not (hd_z_neT C (p2 := 4) (tgt := 8) (hd_getI C (p1 := 1) fX6_refresh_21 (hd_aload_n C (kk0 := 0) dX6_refresh_0) dX6_refresh_1) dX6_refresh_4 (by decide))) (hd_retV C Rk dX6_refresh_7) (by decide)) (hd_seq (p1 := 13) (hd_sputZ C (p1 := 9) (p2 := 10) qX6_refresh_21 (hd_aload_n C (kk0 := 0) dX6_refresh_8) (hd_iconst C dX6_refresh_9 (by decide)) dX6_refresh_10) (hd_seq (p1 := 35) (hd_seq (p1 := 15) (hd_sistore_n C (kk0 := 1) (p1 := 14) (hd_iconst C dX6_refresh_13 (by decide)) dX6_refresh_14 (by decide)) (hd_loop C (p1 := 21) (p2 := 35) (hd_c_ltF C (p1 := 16) (p2 := 18) (tgt := 35) (hd_iload_n C (kk0 := 1) dX6_refresh_15) (hd_bipush C dX6_refresh_16 (by decide)) dX6_refresh_18 (by decide)) (hd_seq (p1 := 29) (hd_siast C (p1 := 25) (p2 := 26) (p3 := 28) (hd_getR C (p1 := 22) fX6_refresh_9 (hd_aload_n C (kk0 := 0) dX6_refresh_21) dX6_refresh_22) (hd_iload_n C (kk0 := 1) dX6_refresh_25) (hd_ldc C wX6_refresh_6 dX6_refresh_26) dX6_refresh_28) (hd_sgoto C (p1 := 32) (tgt := 15) (hd_ends (es := [32]) (by decide) (hd_siinc C dX6_refresh_29 (by decide) (by decide))) dX6_refresh_32 (by decide) (by decide))) (by decide))) (hd_seq (p1 := 56) (hd_siast C (p1 := 39) (p2 := 40) (p3 := 55) (hd_getR C (p1 := 36) fX6_refresh_15 (hd_aload_n C (kk0 := 0) dX6_refresh_35) dX6_refresh_36) (hd_iconst C dX6_refresh_39 (by decide)) (hd_tnI C (p1 := 50) (p2 := 51) (p3 := 54) (p4 := 55) (hd_z_eqF C (p2 := 47) (tgt := 54) (hd_getI C (p1 := 44) fX6_refresh_30 (hd_getR C (p1 := 41) fX6_refresh_25 (hd_aload_n C (kk0 := 0) dX6_refresh_40) dX6_refresh_41) dX6_refresh_44) dX6_refresh_47 (by decide)) (hd_iconst C dX6_refresh_50 (by decide)) dX6_refresh_51 (by decide) (hd_iconst C dX6_refresh_54 (by decide))) dX6_refresh_55) (hd_seq (p1 := 63) (hd_siast C (p1 := 60) (p2 := 61) (p3 := 62) (hd_getR C (p1 := 57) fX6_refresh_18 (hd_aload_n C (kk0 := 0) dX6_refresh_56) dX6_refresh_57) (hd_iconst C dX6_refresh_60 (by decide)) (hd_iconst C dX6_refresh_61 (by decide)) dX6_refresh_62) (hd_seq (p1 := 103) (hd_seq (p1 := 65) (hd_sistore_n C (kk0 := 1) (p1 := 64) (hd_iconst C dX6_refresh_63 (by decide)) dX6_refresh_64 (by decide)) (hd_loop C (p1 := 76) (p2 := 103) (hd_c_ltF C (p1 := 66) (p2 := 73) (tgt := 103) (hd_iload_n C (kk0 := 1) dX6_refresh_65) (hd_getI C (p1 := 70) fX6_refresh_36 (hd_getR C (p1 := 67) fX6_refresh_25 (hd_aload_n C (kk0 := 0) dX6_refresh_66) dX6_refresh_67) dX6_refresh_70) dX6_refresh_73 (by decide)) (hd_seq (p1 := 97) (hd_seq (p1 := 78) (hd_sistore_n C (kk0 := 2) (p1 := 77) (hd_iconst C dX6_refresh_76 (by decide)) dX6_refresh_77 (by decide)) (hd_loop C (p1 := 85) (p2 := 97) (hd_c_ltF C (p1 := 79) (p2 := 82) (tgt := 97) (hd_iload_n C (kk0 := 2) dX6_refresh_78) (hd_ishl C (p1 := 80) (p2 := 81) (hd_iconst C dX6_refresh_79 (by decide)) (hd_iload_n C (kk0 := 1) dX6_refresh_80) dX6_refresh_81) dX6_refresh_82 (by decide)) (hd_seq (p1 := 91) (hd_scall (hd_invV C (p1 := 86) (p2 := 88) snd_X6_addHallTo hw_X6_addHallTo gX6_refresh_X6_addHallTo hs_c_6 yX6_refresh_X6_addHallTo ⟨by decide, by decide⟩ (by decide) (hd_aload_n C (kk0 := 0) dX6_refresh_85) (hd_apI (p1 := 87) (p2 := 88) (hd_apI (p1 := 86) (p2 := 87) hd_av0 (hd_iload_n C (kk0 := 2) dX6_refresh_86)) (hd_iload_n C (kk0 := 1) dX6_refresh_87)) dX6_refresh_88)) (hd_sgoto C (p1 := 94) (tgt := 78) (hd_ends (es := [94]) (by decide) (hd_siinc C dX6_refresh_91 (by decide) (by decide))) dX6_refresh_94 (by decide) (by decide))) (by decide))) (hd_sgoto C (p1 := 100) (tgt := 65) (hd_ends (es := [100]) (by decide) (hd_siinc C dX6_refresh_97 (by decide) (by decide))) dX6_refresh_100 (by decide) (by decide))) (by decide))) (hd_retV C Rk dX6_refresh_103))))))))
/-! X7_bestFilling: never called from a state without towns; of it nothing is said -/
theorem hw_X7_bestFilling : wsX7_bestFilling = Cond.code yX7_bestFilling cX7_bestFilling 3 (some .long) :: wsX7_bestFilling.tail := rfl
def wm_X7_bestFilling : hd_M := fun _ _ _ => False
theorem snd_X7_bestFilling : hd_Snd vwCl hs_sh yX7_bestFilling wsX7_bestFilling 3 wm_X7_bestFilling := fun _ _ _ _ _ _ _ _ _ _ h => False.elim h
