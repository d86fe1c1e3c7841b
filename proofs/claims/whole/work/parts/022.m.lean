/-! X9_findSpots -/
set_option maxRecDepth 100000 in
theorem uX9_findSpots_X9 : ∀ w ∈ u_ws RX9 TX9 28, w ∈ wsX9_findSpots := by decide +kernel
set_option maxRecDepth 100000 in
theorem lX9_findSpots_189 : Cond.fieldLink RX9 189 (TX9 25).1 (TX9 25).2.1 (TX9 25).2.2.1 ∈ wsX9_findSpots := by decide +kernel
set_option maxRecDepth 100000 in
theorem qX9_findSpots_189 : hd_FP wsX9_findSpots RX9 vwCl 9 25 189 .int := ⟨RX9, TX9, 28, tyX9, rfl, by decide, uX9_findSpots_X9, lX9_findSpots_189, tyX9_ok, nmX9, rfl, rfl⟩
set_option maxRecDepth 100000 in
theorem lX9_findSpots_68 : Cond.fieldLink RX9 68 (TX9 1).1 (TX9 1).2.1 (TX9 1).2.2.1 ∈ wsX9_findSpots := by decide +kernel
set_option maxRecDepth 100000 in
theorem fX9_findSpots_68 : hd_F wsX9_findSpots RX9 vwCl 9 1 68 := ⟨RX9, TX9, 28, rfl, by decide, uX9_findSpots_X9, lX9_findSpots_68⟩
set_option maxRecDepth 100000 in
theorem lX9_findSpots_16 : Cond.fieldLink RX9 16 (TX9 5).1 (TX9 5).2.1 (TX9 5).2.2.1 ∈ wsX9_findSpots := by decide +kernel
set_option maxRecDepth 100000 in
theorem fX9_findSpots_16 : hd_F wsX9_findSpots RX9 vwCl 9 5 16 := ⟨RX9, TX9, 28, rfl, by decide, uX9_findSpots_X9, lX9_findSpots_16⟩
set_option maxRecDepth 100000 in
theorem lX9_findSpots_55 : Cond.fieldLink RX9 55 (TX9 26).1 (TX9 26).2.1 (TX9 26).2.2.1 ∈ wsX9_findSpots := by decide +kernel
set_option maxRecDepth 100000 in
theorem fX9_findSpots_55 : hd_F wsX9_findSpots RX9 vwCl 9 26 55 := ⟨RX9, TX9, 28, rfl, by decide, uX9_findSpots_X9, lX9_findSpots_55⟩
set_option maxRecDepth 100000 in
theorem fX9_findSpots_189 : hd_F wsX9_findSpots RX9 vwCl 9 25 189 := ⟨RX9, TX9, 28, rfl, by decide, uX9_findSpots_X9, lX9_findSpots_189⟩
def wc_X9_findSpots_20 : hd_xC := (hd_cI (fun x y => decide (x < y)) (hd_iL 3) (hd_iG hs_sh 9 1 (hd_rL 0)))
def wb_X9_findSpots_20 : hd_xS := (hd_sQ (hd_sI 2 (hd_iC (hd_cO (hd_c0 (fun x => !decide (x = 0)) (hd_iL 2)) (hd_cI (fun x y => decide (x = y)) (hd_iA hs_sh (hd_rG hs_sh 9 5 (hd_rL 0)) (hd_iL 3)) (hd_iL 1))))) (hd_sP 3 (1)))
def wc_X9_findSpots_9 : hd_xC := (hd_cI (fun x y => decide (x ≤ y)) (hd_iL 1) (hd_iK (1000)))
def wb_X9_findSpots_9 : hd_xS := (hd_sQ (hd_sQ (hd_sI 2 (hd_iK (0))) (hd_sQ (hd_sQ (hd_sI 3 (hd_iK (0))) (hd_sH (wc_X9_findSpots_20) (wb_X9_findSpots_20))) (hd_sW (hd_c0 (fun x => !decide (x = 0)) (hd_iL 2)) (hd_sQ (hd_sA hs_sh (hd_rG hs_sh 9 26 (hd_rL 0)) (hd_iG hs_sh 9 25 (hd_rL 0)) (hd_iL 1)) (hd_sG (fun x y => x + y) hs_sh 9 25 (hd_rL 0) (hd_iK (1))))))) (hd_sP 1 (1)))
def wo_X9_findSpots : hd_xS := (hd_sQ (hd_sF hs_sh 9 25 (hd_rL 0) (hd_iK (0))) (hd_sQ (hd_sQ (hd_sI 1 (hd_iK (-1000))) (hd_sH (wc_X9_findSpots_9) (wb_X9_findSpots_9))) hd_sRV))
def wm_X9_findSpots : hd_M := hd_mth 4 wo_X9_findSpots
set_option maxHeartbeats 4000000 in
set_option maxRecDepth 100000 in
theorem snd_X9_findSpots : hd_Snd vwCl hs_sh yX9_findSpots wsX9_findSpots 1 wm_X9_findSpots := hd_method (by decide) rfl rfl (by decide) (fun κ C Rk => (hd_seq (p1 := 5) (hd_sputI C (p1 := 1) (p2 := 2) qX9_findSpots_189 (hd_aload_n C dX9_findSpots_0) (hd_iconst C dX9_findSpots_1 (by decide)) dX9_findSpots_2) (hd_seq (p1 := 84) (hd_seq (p1 := 9) (hd_sistore_n C (p1 := 8) (hd_sipush C dX9_findSpots_5 (by decide)) dX9_findSpots_8 (by decide)) (hd_loop C (p1 := 16) (p2 := 84) (hd_c_leF C (p1 := 10) (p2 := 13) (tgt := 84) (hd_iload_n C dX9_findSpots_9) (hd_sipush C dX9_findSpots_10 (by decide)) dX9_findSpots_13 (by decide)) (hd_seq (p1 := 78) (hd_seq (p1 := 18) (hd_sistore_n C (p1 := 17) (hd_iconst C dX9_findSpots_16 (by decide)) dX9_findSpots_17 (by decide)) (hd_seq (p1 := 54) (hd_seq (p1 := 20) (hd_sistore_n C (p1 := 19) (hd_iconst C dX9_findSpots_18 (by decide)) dX9_findSpots_19 (by decide)) (hd_loop C (p1 := 28) (p2 := 54) (hd_c_ltF C (p1 := 21) (p2 := 25) (tgt := 54) (hd_iload_n C dX9_findSpots_20) (hd_getI C (p1 := 22) fX9_findSpots_68 (hd_aload_n C dX9_findSpots_21) dX9_findSpots_22) dX9_findSpots_25 (by decide)) (hd_seq (p1 := 48) (hd_sistore_n C (p1 := 47) (hd_boC C (p1 := 42) (p3 := 46) (p4 := 47) (hd_or (p1 := 32) (p2 := 42) (p3 := 46) (hd_z_neT C (p2 := 29) (tgt := 42) (hd_iload_n C dX9_findSpots_28) dX9_findSpots_29 (by decide)) (hd_c_eqF C (p1 := 38) (p2 := 39) (tgt := 46) (hd_iald C (p1 := 36) (p2 := 37) (hd_getR C (p1 := 33) fX9_findSpots_16 (hd_aload_n C dX9_findSpots_32) dX9_findSpots_33) (hd_iload_n C dX9_findSpots_36) dX9_findSpots_37) (hd_iload_n C dX9_findSpots_38) dX9_findSpots_39 (by decide))) dX9_findSpots_42 dX9_findSpots_43 (by decide) dX9_findSpots_46 rfl) dX9_findSpots_47 (by decide)) (hd_sgoto C (p1 := 51) (tgt := 20) (hd_ends (es := [51]) (by decide) (hd_siinc C dX9_findSpots_48 (by decide) (by decide))) dX9_findSpots_51 (by decide) (by decide))) (by decide))) (hd_if (p1 := 58) (p2 := 78) (hd_z_neF C (p2 := 55) (tgt := 78) (hd_iload_n C dX9_findSpots_54) dX9_findSpots_55 (by decide)) (hd_seq (p1 := 68) (hd_siast C (p1 := 62) (p2 := 66) (p3 := 67) (hd_getR C (p1 := 59) fX9_findSpots_55 (hd_aload_n C dX9_findSpots_58) dX9_findSpots_59) (hd_getI C (p1 := 63) fX9_findSpots_189 (hd_aload_n C dX9_findSpots_62) dX9_findSpots_63) (hd_iload_n C dX9_findSpots_66) dX9_findSpots_67) (hd_sfld_iadd C (p1 := 69) (p2 := 74) fX9_findSpots_189 qX9_findSpots_189 (hd_aload_n C dX9_findSpots_68) dX9_findSpots_69 dX9_findSpots_70 (hd_iconst C dX9_findSpots_73 (by decide)) dX9_findSpots_74 dX9_findSpots_75)) (by decide)))) (hd_sgoto C (p1 := 81) (tgt := 9) (hd_ends (es := [81]) (by decide) (hd_siinc C dX9_findSpots_78 (by decide) (by decide))) dX9_findSpots_81 (by decide) (by decide))) (by decide))) (hd_retV C Rk dX9_findSpots_84))))
/-! X9_has -/
def wo_X9_has : hd_xS := (hd_sRZ (hd_iC (hd_cI (fun x y => decide (x = y)) (hd_iB (fun x y => x &&& y) (hd_iB (fun x y => x >>> (y &&& 31)) (hd_iL 0) (hd_iL 1)) (hd_iK (1))) (hd_iK (1)))))
def wm_X9_has : hd_M := hd_mth 2 wo_X9_has
set_option maxHeartbeats 4000000 in
set_option maxRecDepth 100000 in
theorem snd_X9_has : hd_Snd vwCl hs_sh yX9_has wsX9_has 1 wm_X9_has := hd_method (by decide) rfl rfl (by decide) (fun κ C Rk => (hd_retZ C Rk (p1 := 14) (hd_boC C (p1 := 9) (p3 := 13) (p4 := 14) (hd_c_eqF C (p1 := 5) (p2 := 6) (tgt := 13) (hd_iand C (p1 := 3) (p2 := 4) (hd_ishr C (p1 := 1) (p2 := 2) (hd_iload_n C dX9_has_0) (hd_iload_n C dX9_has_1) dX9_has_2) (hd_iconst C dX9_has_3 (by decide)) dX9_has_4) (hd_iconst C dX9_has_5 (by decide)) dX9_has_6 (by decide)) dX9_has_9 dX9_has_10 (by decide) dX9_has_13 rfl) dX9_has_14))
/-! X9_in -/
def wo_X9_in : hd_xS := (hd_sRZ (hd_iC (hd_cA (hd_cI (fun x y => decide (y ≤ x)) (hd_iL 0) (hd_iL 1)) (hd_cI (fun x y => decide (x ≤ y)) (hd_iL 0) (hd_iL 2)))))
def wm_X9_in : hd_M := hd_mth 3 wo_X9_in
set_option maxHeartbeats 4000000 in
set_option maxRecDepth 100000 in
theorem snd_X9_in : hd_Snd vwCl hs_sh yX9_in wsX9_in 1 wm_X9_in := hd_method (by decide) rfl rfl (by decide) (fun κ C Rk => (hd_retZ C Rk (p1 := 15) (hd_boC C (p1 := 10) (p3 := 14) (p4 := 15) (hd_and (p1 := 5) (p2 := 10) (p3 := 14) (hd_c_geF C (p1 := 1) (p2 := 2) (tgt := 14) (hd_iload_n C dX9_in_0) (hd_iload_n C dX9_in_1) dX9_in_2 (by decide)) (hd_c_leF C (p1 := 6) (p2 := 7) (tgt := 14) (hd_iload_n C dX9_in_5) (hd_iload_n C dX9_in_6) dX9_in_7 (by decide))) dX9_in_10 dX9_in_11 (by decide) dX9_in_14 rfl) dX9_in_15))
/-! X9_isAhead -/
def wo_X9_isAhead : hd_xS := (hd_sQ (hd_sI 2 (hd_iB (fun x y => x ^^^ y) (hd_iL 0) (hd_iL 1))) (hd_sRZ (hd_iC (hd_c0 (fun x => !decide (x = 0)) (hd_iB (fun x y => x &&& y) (hd_iB (fun x y => x &&& y) (hd_iL 0) (hd_iL 2)) (hd_iU (fun x => -x) (hd_iL 2)))))))
def wm_X9_isAhead : hd_M := hd_mth 3 wo_X9_isAhead
set_option maxHeartbeats 4000000 in
set_option maxRecDepth 100000 in
theorem snd_X9_isAhead : hd_Snd vwCl hs_sh yX9_isAhead wsX9_isAhead 1 wm_X9_isAhead := hd_method (by decide) rfl rfl (by decide) (fun κ C Rk => (hd_seq (p1 := 4) (hd_sistore_n C (p1 := 3) (hd_ixor C (p1 := 1) (p2 := 2) (hd_iload_n C dX9_isAhead_0) (hd_iload_n C dX9_isAhead_1) dX9_isAhead_2) dX9_isAhead_3 (by decide)) (hd_retZ C Rk (p1 := 18) (hd_boC C (p1 := 13) (p3 := 17) (p4 := 18) (hd_z_neF C (p2 := 10) (tgt := 17) (hd_iand C (p1 := 7) (p2 := 9) (hd_iand C (p1 := 5) (p2 := 6) (hd_iload_n C dX9_isAhead_4) (hd_iload_n C dX9_isAhead_5) dX9_isAhead_6) (hd_ineg C (p1 := 8) (hd_iload_n C dX9_isAhead_7) dX9_isAhead_8) dX9_isAhead_9) dX9_isAhead_10 (by decide)) dX9_isAhead_13 dX9_isAhead_14 (by decide) dX9_isAhead_17 rfl) dX9_isAhead_18)))
/-! X9_opened -/
set_option maxRecDepth 100000 in
theorem uX9_opened_X9 : ∀ w ∈ u_ws RX9 TX9 28, w ∈ wsX9_opened := by decide +kernel
set_option maxRecDepth 100000 in
theorem lX9_opened_58 : Cond.fieldLink RX9 58 (TX9 0).1 (TX9 0).2.1 (TX9 0).2.2.1 ∈ wsX9_opened := by decide +kernel
set_option maxRecDepth 100000 in
theorem qX9_opened_58 : hd_FP wsX9_opened RX9 vwCl 9 0 58 .int := ⟨RX9, TX9, 28, tyX9, rfl, by decide, uX9_opened_X9, lX9_opened_58, tyX9_ok, nmX9, rfl, rfl⟩
set_option maxRecDepth 100000 in
theorem lX9_opened_84 : Cond.fieldLink RX9 84 (TX9 14).1 (TX9 14).2.1 (TX9 14).2.2.1 ∈ wsX9_opened := by decide +kernel
set_option maxRecDepth 100000 in
theorem fX9_opened_84 : hd_F wsX9_opened RX9 vwCl 9 14 84 := ⟨RX9, TX9, 28, rfl, by decide, uX9_opened_X9, lX9_opened_84⟩
def wo_X9_opened : hd_xS := (hd_sQ (hd_sF hs_sh 9 0 (hd_rL 0) (hd_iK (0))) (hd_sRI (hd_iG hs_sh 9 14 (hd_rL 0))))
def wm_X9_opened : hd_M := hd_mth 1 wo_X9_opened
set_option maxHeartbeats 4000000 in
set_option maxRecDepth 100000 in
theorem snd_X9_opened : hd_Snd vwCl hs_sh yX9_opened wsX9_opened 1 wm_X9_opened := hd_method (by decide) rfl rfl (by decide) (fun κ C Rk => (hd_seq (p1 := 5) (hd_sputI C (p1 := 1) (p2 := 2) qX9_opened_58 (hd_aload_n C dX9_opened_0) (hd_iconst C dX9_opened_1 (by decide)) dX9_opened_2) (hd_retI C Rk (p1 := 9) (hd_getI C (p1 := 6) fX9_opened_84 (hd_aload_n C dX9_opened_5) dX9_opened_6) dX9_opened_9)))
/-! X9_orders -/
def wc_X9_orders_4 : hd_xC := (hd_cI (fun x y => decide (x ≤ y)) (hd_iL 3) (hd_iL 0))
def wb_X9_orders_4 : hd_xS := (hd_sQ (hd_sJ 1 (hd_jB (fun x y => x * y) (hd_jL 1) (hd_jI (hd_iL 3)))) (hd_sP 3 (1)))
def wo_X9_orders : hd_xS := (hd_sQ (hd_sJ 1 (hd_jK (1))) (hd_sQ (hd_sQ (hd_sI 3 (hd_iK (2))) (hd_sH (wc_X9_orders_4) (wb_X9_orders_4))) (hd_sRJ (hd_jL 1))))
def wm_X9_orders : hd_M := hd_mth 4 wo_X9_orders
set_option maxHeartbeats 4000000 in
set_option maxRecDepth 100000 in
theorem snd_X9_orders : hd_Snd vwCl hs_sh yX9_orders wsX9_orders 1 wm_X9_orders := hd_method (by decide) rfl rfl (by decide) (fun κ C Rk => (hd_seq (p1 := 2) (hd_slstore_n C (p1 := 1) (hd_lconst C dX9_orders_0 (by decide)) dX9_orders_1 (by decide)) (hd_seq (p1 := 20) (hd_seq (p1 := 4) (hd_sistore_n C (p1 := 3) (hd_iconst C dX9_orders_2 (by decide)) dX9_orders_3 (by decide)) (hd_loop C (p1 := 9) (p2 := 20) (hd_c_leF C (p1 := 5) (p2 := 6) (tgt := 20) (hd_iload_n C dX9_orders_4) (hd_iload_n C dX9_orders_5) dX9_orders_6 (by decide)) (hd_seq (p1 := 14) (hd_slstore_n C (p1 := 13) (hd_lmul C (p1 := 10) (p2 := 12) (hd_lload_n C dX9_orders_9) (hd_i2l C (p1 := 11) (hd_iload_n C dX9_orders_10) dX9_orders_11) dX9_orders_12) dX9_orders_13 (by decide)) (hd_sgoto C (p1 := 17) (tgt := 4) (hd_ends (es := [17]) (by decide) (hd_siinc C dX9_orders_14 (by decide) (by decide))) dX9_orders_17 (by decide) (by decide))) (by decide))) (hd_retJ C Rk (p1 := 21) (hd_lload_n C dX9_orders_20) dX9_orders_21))))
/-! X9_read -/
set_option maxRecDepth 100000 in
theorem uX9_read_X9 : ∀ w ∈ u_ws RX9 TX9 28, w ∈ wsX9_read := by decide +kernel
set_option maxRecDepth 100000 in
theorem lX9_read_34 : Cond.fieldLink RX9 34 (TX9 11).1 (TX9 11).2.1 (TX9 11).2.2.1 ∈ wsX9_read := by decide +kernel
set_option maxRecDepth 100000 in
theorem fX9_read_34 : hd_F wsX9_read RX9 vwCl 9 11 34 := ⟨RX9, TX9, 28, rfl, by decide, uX9_read_X9, lX9_read_34⟩
set_option maxRecDepth 100000 in
theorem lX9_read_62 : Cond.fieldLink RX9 62 (TX9 16).1 (TX9 16).2.1 (TX9 16).2.2.1 ∈ wsX9_read := by decide +kernel
set_option maxRecDepth 100000 in
theorem fX9_read_62 : hd_F wsX9_read RX9 vwCl 9 16 62 := ⟨RX9, TX9, 28, rfl, by decide, uX9_read_X9, lX9_read_62⟩
set_option maxRecDepth 100000 in
theorem qX9_read_62 : hd_FP wsX9_read RX9 vwCl 9 16 62 .int := ⟨RX9, TX9, 28, tyX9, rfl, by decide, uX9_read_X9, lX9_read_62, tyX9_ok, nmX9, rfl, rfl⟩
def wc_X9_read_2 : hd_xC := (hd_cI (fun x y => decide (x < y)) (hd_iL 3) (hd_iL 2))
def wb_X9_read_2 : hd_xS := (hd_sQ (hd_sQ (hd_sA hs_sh (hd_rL 1) (hd_iL 3) (hd_iA hs_sh (hd_rG hs_sh 9 11 (hd_rL 0)) (hd_iG hs_sh 9 16 (hd_rL 0)))) (hd_sG (fun x y => x + y) hs_sh 9 16 (hd_rL 0) (hd_iK (1)))) (hd_sP 3 (1)))
def wo_X9_read : hd_xS := (hd_sQ (hd_sQ (hd_sI 3 (hd_iK (0))) (hd_sH (wc_X9_read_2) (wb_X9_read_2))) hd_sRV)
def wm_X9_read : hd_M := hd_mth 4 wo_X9_read
set_option maxHeartbeats 4000000 in
set_option maxRecDepth 100000 in
theorem snd_X9_read : hd_Snd vwCl hs_sh yX9_read wsX9_read 1 wm_X9_read := hd_method (by decide) rfl rfl (by decide) (fun κ C Rk => (hd_seq (p1 := 35) (hd_seq (p1 := 2) (hd_sistore_n C (p1 := 1) (hd_iconst C dX9_read_0 (by decide)) dX9_read_1 (by decide)) (hd_loop C (p1 := 7) (p2 := 35) (hd_c_ltF C (p1 := 3) (p2 := 4) (tgt := 35) (hd_iload_n C dX9_read_2) (hd_iload_n C dX9_read_3) dX9_read_4 (by decide)) (hd_seq (p1 := 29) (hd_seq (p1 := 19) (hd_siast C (p1 := 8) (p2 := 9) (p3 := 18) (hd_aload_n C dX9_read_7) (hd_iload_n C dX9_read_8) (hd_iald C (p1 := 13) (p2 := 17) (hd_getR C (p1 := 10) fX9_read_34 (hd_aload_n C dX9_read_9) dX9_read_10) (hd_getI C (p1 := 14) fX9_read_62 (hd_aload_n C dX9_read_13) dX9_read_14) dX9_read_17) dX9_read_18) (hd_sfld_iadd C (p1 := 20) (p2 := 25) fX9_read_62 qX9_read_62 (hd_aload_n C dX9_read_19) dX9_read_20 dX9_read_21 (hd_iconst C dX9_read_24 (by decide)) dX9_read_25 dX9_read_26)) (hd_sgoto C (p1 := 32) (tgt := 2) (hd_ends (es := [32]) (by decide) (hd_siinc C dX9_read_29 (by decide) (by decide))) dX9_read_32 (by decide) (by decide))) (by decide))) (hd_retV C Rk dX9_read_35)))
/-! X9_sizeOf -/
def wc_X9_sizeOf_4 : hd_xC := (hd_cI (fun x y => decide (x < y)) (hd_iL 2) (hd_iK (8)))
def wb_X9_sizeOf_4 : hd_xS := (hd_sQ (hd_sI 1 (hd_iB (fun x y => x + y) (hd_iL 1) (hd_iB (fun x y => x &&& y) (hd_iB (fun x y => x >>> (y &&& 31)) (hd_iL 0) (hd_iL 2)) (hd_iK (1))))) (hd_sP 2 (1)))
def wo_X9_sizeOf : hd_xS := (hd_sQ (hd_sI 1 (hd_iK (0))) (hd_sQ (hd_sQ (hd_sI 2 (hd_iK (0))) (hd_sH (wc_X9_sizeOf_4) (wb_X9_sizeOf_4))) (hd_sRI (hd_iL 1))))
def wm_X9_sizeOf : hd_M := hd_mth 3 wo_X9_sizeOf
set_option maxHeartbeats 4000000 in
set_option maxRecDepth 100000 in
theorem snd_X9_sizeOf : hd_Snd vwCl hs_sh yX9_sizeOf wsX9_sizeOf 1 wm_X9_sizeOf := hd_method (by decide) rfl rfl (by decide) (fun κ C Rk => (hd_seq (p1 := 2) (hd_sistore_n C (p1 := 1) (hd_iconst C dX9_sizeOf_0 (by decide)) dX9_sizeOf_1 (by decide)) (hd_seq (p1 := 24) (hd_seq (p1 := 4) (hd_sistore_n C (p1 := 3) (hd_iconst C dX9_sizeOf_2 (by decide)) dX9_sizeOf_3 (by decide)) (hd_loop C (p1 := 10) (p2 := 24) (hd_c_ltF C (p1 := 5) (p2 := 7) (tgt := 24) (hd_iload_n C dX9_sizeOf_4) (hd_bipush C dX9_sizeOf_5 (by decide)) dX9_sizeOf_7 (by decide)) (hd_seq (p1 := 18) (hd_sistore_n C (p1 := 17) (hd_iadd C (p1 := 11) (p2 := 16) (hd_iload_n C dX9_sizeOf_10) (hd_iand C (p1 := 14) (p2 := 15) (hd_ishr C (p1 := 12) (p2 := 13) (hd_iload_n C dX9_sizeOf_11) (hd_iload_n C dX9_sizeOf_12) dX9_sizeOf_13) (hd_iconst C dX9_sizeOf_14 (by decide)) dX9_sizeOf_15) dX9_sizeOf_16) dX9_sizeOf_17 (by decide)) (hd_sgoto C (p1 := 21) (tgt := 4) (hd_ends (es := [21]) (by decide) (hd_siinc C dX9_sizeOf_18 (by decide) (by decide))) dX9_sizeOf_21 (by decide) (by decide))) (by decide))) (hd_retI C Rk (p1 := 25) (hd_iload_n C dX9_sizeOf_24) dX9_sizeOf_25))))
/-! X9_wayOf -/
set_option maxRecDepth 100000 in
theorem uX9_wayOf_X9 : ∀ w ∈ u_ws RX9 TX9 28, w ∈ wsX9_wayOf := by decide +kernel
set_option maxRecDepth 100000 in
theorem lX9_wayOf_25 : Cond.fieldLink RX9 25 (TX9 8).1 (TX9 8).2.1 (TX9 8).2.2.1 ∈ wsX9_wayOf := by decide +kernel
set_option maxRecDepth 100000 in
theorem fX9_wayOf_25 : hd_F wsX9_wayOf RX9 vwCl 9 8 25 := ⟨RX9, TX9, 28, rfl, by decide, uX9_wayOf_X9, lX9_wayOf_25⟩
set_option maxRecDepth 100000 in
theorem lX9_wayOf_28 : Cond.fieldLink RX9 28 (TX9 9).1 (TX9 9).2.1 (TX9 9).2.2.1 ∈ wsX9_wayOf := by decide +kernel
set_option maxRecDepth 100000 in
theorem fX9_wayOf_28 : hd_F wsX9_wayOf RX9 vwCl 9 9 28 := ⟨RX9, TX9, 28, rfl, by decide, uX9_wayOf_X9, lX9_wayOf_28⟩
set_option maxRecDepth 100000 in
theorem lX9_wayOf_31 : Cond.fieldLink RX9 31 (TX9 10).1 (TX9 10).2.1 (TX9 10).2.2.1 ∈ wsX9_wayOf := by decide +kernel
set_option maxRecDepth 100000 in
theorem fX9_wayOf_31 : hd_F wsX9_wayOf RX9 vwCl 9 10 31 := ⟨RX9, TX9, 28, rfl, by decide, uX9_wayOf_X9, lX9_wayOf_31⟩
set_option maxRecDepth 100000 in
theorem wX9_wayOf_7 : Cond.constant RX9 106 (1000000) ∈ wsX9_wayOf := by decide +kernel
def wo_X9_wayOf : hd_xS := (hd_sRI (hd_iQ (hd_cA (hd_cI (fun x y => !decide (x = y)) (hd_iA hs_sh (hd_rG hs_sh 9 8 (hd_rL 0)) (hd_iL 1)) (hd_iK (-1))) (hd_cI (fun x y => decide (x < y)) (hd_iL 2) (hd_iA hs_sh (hd_rG hs_sh 9 9 (hd_rL 0)) (hd_iL 1)))) (hd_iA hs_sh (hd_rG hs_sh 9 10 (hd_rL 0)) (hd_iB (fun x y => x + y) (hd_iB (fun x y => x * y) (hd_iK (8)) (hd_iL 1)) (hd_iL 2))) (hd_iK (1000000))))
def wm_X9_wayOf : hd_M := hd_mth 3 wo_X9_wayOf
set_option maxHeartbeats 4000000 in
set_option maxRecDepth 100000 in
theorem snd_X9_wayOf : hd_Snd vwCl hs_sh yX9_wayOf wsX9_wayOf 1 wm_X9_wayOf := hd_method (by decide) rfl rfl (by decide) (fun κ C Rk => (hd_retI C Rk (p1 := 36) (hd_tnI C (p1 := 20) (p2 := 31) (p3 := 34) (p4 := 36) (hd_and (p1 := 10) (p2 := 20) (p3 := 34) (hd_c_neF C (p1 := 6) (p2 := 7) (tgt := 34) (hd_iald C (p1 := 4) (p2 := 5) (hd_getR C (p1 := 1) fX9_wayOf_25 (hd_aload_n C dX9_wayOf_0) dX9_wayOf_1) (hd_iload_n C dX9_wayOf_4) dX9_wayOf_5) (hd_iconst C dX9_wayOf_6 (by decide)) dX9_wayOf_7 (by decide)) (hd_c_ltF C (p1 := 11) (p2 := 17) (tgt := 34) (hd_iload_n C dX9_wayOf_10) (hd_iald C (p1 := 15) (p2 := 16) (hd_getR C (p1 := 12) fX9_wayOf_28 (hd_aload_n C dX9_wayOf_11) dX9_wayOf_12) (hd_iload_n C dX9_wayOf_15) dX9_wayOf_16) dX9_wayOf_17 (by decide))) (hd_iald C (p1 := 24) (p2 := 30) (hd_getR C (p1 := 21) fX9_wayOf_31 (hd_aload_n C dX9_wayOf_20) dX9_wayOf_21) (hd_iadd C (p1 := 28) (p2 := 29) (hd_imul C (p1 := 26) (p2 := 27) (hd_bipush C dX9_wayOf_24 (by decide)) (hd_iload_n C dX9_wayOf_26) dX9_wayOf_27) (hd_iload_n C dX9_wayOf_28) dX9_wayOf_29) dX9_wayOf_30) dX9_wayOf_31 (by decide) (hd_ldc C wX9_wayOf_7 dX9_wayOf_34)) dX9_wayOf_36))
/-! X9_write -/
set_option maxRecDepth 100000 in
theorem uX9_write_X9 : ∀ w ∈ u_ws RX9 TX9 28, w ∈ wsX9_write := by decide +kernel
set_option maxRecDepth 100000 in
theorem lX9_write_34 : Cond.fieldLink RX9 34 (TX9 11).1 (TX9 11).2.1 (TX9 11).2.2.1 ∈ wsX9_write := by decide +kernel
set_option maxRecDepth 100000 in
theorem fX9_write_34 : hd_F wsX9_write RX9 vwCl 9 11 34 := ⟨RX9, TX9, 28, rfl, by decide, uX9_write_X9, lX9_write_34⟩
set_option maxRecDepth 100000 in
theorem lX9_write_62 : Cond.fieldLink RX9 62 (TX9 16).1 (TX9 16).2.1 (TX9 16).2.2.1 ∈ wsX9_write := by decide +kernel
set_option maxRecDepth 100000 in
theorem fX9_write_62 : hd_F wsX9_write RX9 vwCl 9 16 62 := ⟨RX9, TX9, 28, rfl, by decide, uX9_write_X9, lX9_write_62⟩
set_option maxRecDepth 100000 in
theorem qX9_write_62 : hd_FP wsX9_write RX9 vwCl 9 16 62 .int := ⟨RX9, TX9, 28, tyX9, rfl, by decide, uX9_write_X9, lX9_write_62, tyX9_ok, nmX9, rfl, rfl⟩
def wc_X9_write_2 : hd_xC := (hd_cI (fun x y => decide (x < y)) (hd_iL 3) (hd_iL 2))
def wb_X9_write_2 : hd_xS := (hd_sQ (hd_sQ (hd_sA hs_sh (hd_rG hs_sh 9 11 (hd_rL 0)) (hd_iG hs_sh 9 16 (hd_rL 0)) (hd_iA hs_sh (hd_rL 1) (hd_iL 3))) (hd_sG (fun x y => x + y) hs_sh 9 16 (hd_rL 0) (hd_iK (1)))) (hd_sP 3 (1)))
def wo_X9_write : hd_xS := (hd_sQ (hd_sQ (hd_sI 3 (hd_iK (0))) (hd_sH (wc_X9_write_2) (wb_X9_write_2))) hd_sRV)
def wm_X9_write : hd_M := hd_mth 4 wo_X9_write
set_option maxHeartbeats 4000000 in
set_option maxRecDepth 100000 in
theorem snd_X9_write : hd_Snd vwCl hs_sh yX9_write wsX9_write 1 wm_X9_write := hd_method (by decide) rfl rfl (by decide) (fun κ C Rk => (hd_seq (p1 := 35) (hd_seq (p1 := 2) (hd_sistore_n C (p1 := 1) (hd_iconst C dX9_write_0 (by decide)) dX9_write_1 (by decide)) (hd_loop C (p1 := 7) (p2 := 35) (hd_c_ltF C (p1 := 3) (p2 := 4) (tgt := 35) (hd_iload_n C dX9_write_2) (hd_iload_n C dX9_write_3) dX9_write_4 (by decide)) (hd_seq (p1 := 29) (hd_seq (p1 := 19) (hd_siast C (p1 := 11) (p2 := 15) (p3 := 18) (hd_getR C (p1 := 8) fX9_write_34 (hd_aload_n C dX9_write_7) dX9_write_8) (hd_getI C (p1 := 12) fX9_write_62 (hd_aload_n C dX9_write_11) dX9_write_12) (hd_iald C (p1 := 16) (p2 := 17) (hd_aload_n C dX9_write_15) (hd_iload_n C dX9_write_16) dX9_write_17) dX9_write_18) (hd_sfld_iadd C (p1 := 20) (p2 := 25) fX9_write_62 qX9_write_62 (hd_aload_n C dX9_write_19) dX9_write_20 dX9_write_21 (hd_iconst C dX9_write_24 (by decide)) dX9_write_25 dX9_write_26)) (hd_sgoto C (p1 := 32) (tgt := 2) (hd_ends (es := [32]) (by decide) (hd_siinc C dX9_write_29 (by decide) (by decide))) dX9_write_32 (by decide) (by decide))) (by decide))) (hd_retV C Rk dX9_write_35)))
/-! X0_firstBroken -/
set_option maxRecDepth 100000 in
theorem uX0_firstBroken_X0 : ∀ w ∈ u_ws RX0 TX0 3, w ∈ wsX0_firstBroken := by decide +kernel
set_option maxRecDepth 100000 in
theorem lX0_firstBroken_18 : Cond.fieldLink RX0 18 (TX0 0).1 (TX0 0).2.1 (TX0 0).2.2.1 ∈ wsX0_firstBroken := by decide +kernel
set_option maxRecDepth 100000 in
theorem fX0_firstBroken_18 : hd_F wsX0_firstBroken RX0 vwCl 0 0 18 := ⟨RX0, TX0, 3, rfl, by decide, uX0_firstBroken_X0, lX0_firstBroken_18⟩
set_option maxRecDepth 100000 in
theorem uX0_firstBroken_X5 : ∀ w ∈ u_ws RX5 TX5 10, w ∈ wsX0_firstBroken := by decide +kernel
set_option maxRecDepth 100000 in
theorem lX0_firstBroken_32 : Cond.fieldLink RX0 32 (TX5 1).1 (TX5 1).2.1 (TX5 1).2.2.1 ∈ wsX0_firstBroken := by decide +kernel
set_option maxRecDepth 100000 in
theorem fX0_firstBroken_32 : hd_F wsX0_firstBroken RX0 vwCl 5 1 32 := ⟨RX5, TX5, 10, rfl, by decide, uX0_firstBroken_X5, lX0_firstBroken_32⟩
set_option maxRecDepth 100000 in
theorem lX0_firstBroken_22 : Cond.fieldLink RX0 22 (TX5 0).1 (TX5 0).2.1 (TX5 0).2.2.1 ∈ wsX0_firstBroken := by decide +kernel
set_option maxRecDepth 100000 in
theorem fX0_firstBroken_22 : hd_F wsX0_firstBroken RX0 vwCl 5 0 22 := ⟨RX5, TX5, 10, rfl, by decide, uX0_firstBroken_X5, lX0_firstBroken_22⟩
set_option maxRecDepth 100000 in
theorem lX0_firstBroken_9 : Cond.fieldLink RX0 9 (TX0 1).1 (TX0 1).2.1 (TX0 1).2.2.1 ∈ wsX0_firstBroken := by decide +kernel
set_option maxRecDepth 100000 in
theorem fX0_firstBroken_9 : hd_F wsX0_firstBroken RX0 vwCl 0 1 9 := ⟨RX0, TX0, 3, rfl, by decide, uX0_firstBroken_X0, lX0_firstBroken_9⟩
set_option maxRecDepth 100000 in
theorem yX0_firstBroken_X5_tripOf : yX5_tripOf.cls = RX5 ∧ yX5_tripOf.cls ≠ "java/lang/invoke/MethodHandle" ∧ yX5_tripOf.cls ≠ "java/lang/invoke/VarHandle" ∧ (parseMethodDescriptor yX5_tripOf.desc).map (fun d => d.parameters.length) = some 2 := by decide +kernel
set_option maxRecDepth 100000 in
theorem wX0_firstBroken_11 : Cond.methodLink RX0 39 Lib.Math.max.name ∈ wsX0_firstBroken := by decide +kernel
set_option maxRecDepth 100000 in
theorem wX0_firstBroken_12 : Cond.static Lib.Math.max.name ∈ wsX0_firstBroken := by decide +kernel
set_option maxRecDepth 100000 in
theorem wX0_firstBroken_13 : Cond.initialized "java/lang/Math" ∈ wsX0_firstBroken := by decide +kernel
set_option maxRecDepth 100000 in
theorem wX0_firstBroken_14 : Cond.code Lib.Math.max.name Lib.Math.max.code 2 (some .int) ∈ wsX0_firstBroken := by decide +kernel
set_option maxRecDepth 100000 in
theorem lX0_firstBroken_44 : Cond.fieldLink RX0 44 (TX5 5).1 (TX5 5).2.1 (TX5 5).2.2.1 ∈ wsX0_firstBroken := by decide +kernel
set_option maxRecDepth 100000 in
theorem fX0_firstBroken_44 : hd_F wsX0_firstBroken RX0 vwCl 5 5 44 := ⟨RX5, TX5, 10, rfl, by decide, uX0_firstBroken_X5, lX0_firstBroken_44⟩
def wc_X0_firstBroken_17 : hd_xC := (hd_cI (fun x y => decide (x < y)) (hd_iL 3) (hd_iG hs_sh 5 0 (hd_rG hs_sh 0 0 (hd_rL 0))))
def wb_X0_firstBroken_17 : hd_xS := (hd_sQ (hd_sI 2 (hd_iB (fun x y => x + y) (hd_iL 2) (hd_iB (fun x y => if x < y then y else x) (hd_iK (0)) (hd_iB (fun x y => x - y) (hd_iA hs_sh (hd_rG hs_sh 0 1 (hd_rL 0)) (hd_iL 3)) (hd_iN (hd_nV hs_sh 5 (hd_rG hs_sh 0 0 (hd_rL 0)) 2 (hd_pI (hd_pI hd_v0 (hd_iL 1)) (hd_iL 3)) wm_X5_tripOf)))))) (hd_sP 3 (1)))
def wc_X0_firstBroken_2 : hd_xC := (hd_cI (fun x y => decide (x < y)) (hd_iL 1) (hd_iG hs_sh 5 1 (hd_rG hs_sh 0 0 (hd_rL 0))))
def wb_X0_firstBroken_2 : hd_xS := (hd_sQ (hd_sQ (hd_sI 2 (hd_iK (0))) (hd_sQ (hd_sQ (hd_sI 3 (hd_iK (0))) (hd_sH (wc_X0_firstBroken_17) (wb_X0_firstBroken_17))) (hd_sW (hd_cI (fun x y => decide (y < x)) (hd_iL 2) (hd_iA hs_sh (hd_rG hs_sh 5 5 (hd_rG hs_sh 0 0 (hd_rL 0))) (hd_iL 1))) (hd_sRI (hd_iL 1))))) (hd_sP 1 (1)))
def wo_X0_firstBroken : hd_xS := (hd_sQ (hd_sQ (hd_sI 1 (hd_iK (0))) (hd_sH (wc_X0_firstBroken_2) (wb_X0_firstBroken_2))) (hd_sRI (hd_iK (-1))))
def wm_X0_firstBroken : hd_M := hd_mth 4 wo_X0_firstBroken
set_option maxHeartbeats 4000000 in
set_option maxRecDepth 100000 in
theorem snd_X0_firstBroken : hd_Snd vwCl hs_sh yX0_firstBroken wsX0_firstBroken 2 wm_X0_firstBroken := hd_method (by decide) rfl rfl (by decide) (fun κ C Rk => (hd_seq (p1 := 78) (hd_seq (p1 := 2) (hd_sistore_n C (p1 := 1) (hd_iconst C dX0_firstBroken_0 (by decide)) dX0_firstBroken_1 (by decide)) (hd_loop C (p1 := 13) (p2 := 78) (hd_c_ltF C (p1 := 3) (p2 := 10) (tgt := 78) (hd_iload_n C dX0_firstBroken_2) (hd_getI C (p1 := 7) fX0_firstBroken_32 (hd_getR C (p1 := 4) fX0_firstBroken_18 (hd_aload_n C dX0_firstBroken_3) dX0_firstBroken_4) dX0_firstBroken_7) dX0_firstBroken_10 (by decide)) (hd_seq (p1 := 72) (hd_seq (p1 := 15) (hd_sistore_n C (p1 := 14) (hd_iconst C dX0_firstBroken_13 (by decide)) dX0_firstBroken_14 (by decide)) (hd_seq (p1 := 57) (hd_seq (p1 := 17) (hd_sistore_n C (p1 := 16) (hd_iconst C dX0_firstBroken_15 (by decide)) dX0_firstBroken_16 (by decide)) (hd_loop C (p1 := 28) (p2 := 57) (hd_c_ltF C (p1 := 18) (p2 := 25) (tgt := 57) (hd_iload_n C dX0_firstBroken_17) (hd_getI C (p1 := 22) fX0_firstBroken_22 (hd_getR C (p1 := 19) fX0_firstBroken_18 (hd_aload_n C dX0_firstBroken_18) dX0_firstBroken_19) dX0_firstBroken_22) dX0_firstBroken_25 (by decide)) (hd_seq (p1 := 51) (hd_sistore_n C (p1 := 50) (hd_iadd C (p1 := 29) (p2 := 49) (hd_iload_n C dX0_firstBroken_28) (hd_mmax C (p1 := 30) (p2 := 46) wX0_firstBroken_11 wX0_firstBroken_12 wX0_firstBroken_13 wX0_firstBroken_14 (by decide) (hd_iconst C dX0_firstBroken_29 (by decide)) (hd_isub C (p1 := 36) (p2 := 45) (hd_iald C (p1 := 34) (p2 := 35) (hd_getR C (p1 := 31) fX0_firstBroken_9 (hd_aload_n C dX0_firstBroken_30) dX0_firstBroken_31) (hd_iload_n C dX0_firstBroken_34) dX0_firstBroken_35) (hd_inI (hd_invV C (p1 := 40) (p2 := 42) snd_X5_tripOf rfl gX0_firstBroken_X5_tripOf rfl yX0_firstBroken_X5_tripOf ⟨by decide, by decide⟩ (by decide) (hd_getR C (p1 := 37) fX0_firstBroken_18 (hd_aload_n C dX0_firstBroken_36) dX0_firstBroken_37) (hd_apI (p1 := 41) (p2 := 42) (hd_apI (p1 := 40) (p2 := 41) hd_av0 (hd_iload_n C dX0_firstBroken_40)) (hd_iload_n C dX0_firstBroken_41)) dX0_firstBroken_42)) dX0_firstBroken_45) dX0_firstBroken_46) dX0_firstBroken_49) dX0_firstBroken_50 (by decide)) (hd_sgoto C (p1 := 54) (tgt := 17) (hd_ends (es := [54]) (by decide) (hd_siinc C dX0_firstBroken_51 (by decide) (by decide))) dX0_firstBroken_54 (by decide) (by decide))) (by decide))) (hd_if (p1 := 70) (p2 := 72) (hd_c_gtF C (p1 := 58) (p2 := 67) (tgt := 72) (hd_iload_n C dX0_firstBroken_57) (hd_iald C (p1 := 65) (p2 := 66) (hd_getR C (p1 := 62) fX0_firstBroken_44 (hd_getR C (p1 := 59) fX0_firstBroken_18 (hd_aload_n C dX0_firstBroken_58) dX0_firstBroken_59) dX0_firstBroken_62) (hd_iload_n C dX0_firstBroken_65) dX0_firstBroken_66) dX0_firstBroken_67 (by decide)) (hd_retI C Rk (p1 := 71) (hd_iload_n C dX0_firstBroken_70) dX0_firstBroken_71) (by decide)))) (hd_sgoto C (p1 := 75) (tgt := 2) (hd_ends (es := [75]) (by decide) (hd_siinc C dX0_firstBroken_72 (by decide) (by decide))) dX0_firstBroken_75 (by decide) (by decide))) (by decide))) (hd_retI C Rk (p1 := 79) (hd_iconst C dX0_firstBroken_78 (by decide)) dX0_firstBroken_79)))
/-! X0_pays -/
set_option maxRecDepth 100000 in
theorem uX0_pays_X0 : ∀ w ∈ u_ws RX0 TX0 3, w ∈ wsX0_pays := by decide +kernel
set_option maxRecDepth 100000 in
theorem lX0_pays_9 : Cond.fieldLink RX0 9 (TX0 1).1 (TX0 1).2.1 (TX0 1).2.2.1 ∈ wsX0_pays := by decide +kernel
set_option maxRecDepth 100000 in
theorem fX0_pays_9 : hd_F wsX0_pays RX0 vwCl 0 1 9 := ⟨RX0, TX0, 3, rfl, by decide, uX0_pays_X0, lX0_pays_9⟩
set_option maxRecDepth 100000 in
theorem lX0_pays_18 : Cond.fieldLink RX0 18 (TX0 0).1 (TX0 0).2.1 (TX0 0).2.2.1 ∈ wsX0_pays := by decide +kernel
set_option maxRecDepth 100000 in
theorem fX0_pays_18 : hd_F wsX0_pays RX0 vwCl 0 0 18 := ⟨RX0, TX0, 3, rfl, by decide, uX0_pays_X0, lX0_pays_18⟩
set_option maxRecDepth 100000 in
theorem yX0_pays_X5_tripOf : yX5_tripOf.cls = RX5 ∧ yX5_tripOf.cls ≠ "java/lang/invoke/MethodHandle" ∧ yX5_tripOf.cls ≠ "java/lang/invoke/VarHandle" ∧ (parseMethodDescriptor yX5_tripOf.desc).map (fun d => d.parameters.length) = some 2 := by decide +kernel
def wo_X0_pays : hd_xS := (hd_sRZ (hd_iC (hd_cI (fun x y => decide (y ≤ x)) (hd_iA hs_sh (hd_rG hs_sh 0 1 (hd_rL 0)) (hd_iL 1)) (hd_iN (hd_nV hs_sh 5 (hd_rG hs_sh 0 0 (hd_rL 0)) 2 (hd_pI (hd_pI hd_v0 (hd_iL 2)) (hd_iL 1)) wm_X5_tripOf)))))
def wm_X0_pays : hd_M := hd_mth 3 wo_X0_pays
set_option maxHeartbeats 4000000 in
set_option maxRecDepth 100000 in
theorem snd_X0_pays : hd_Snd vwCl hs_sh yX0_pays wsX0_pays 2 wm_X0_pays := hd_method (by decide) rfl rfl (by decide) (fun κ C Rk => (hd_retZ C Rk (p1 := 23) (hd_boC C (p1 := 18) (p3 := 22) (p4 := 23) (hd_c_geF C (p1 := 6) (p2 := 15) (tgt := 22) (hd_iald C (p1 := 4) (p2 := 5) (hd_getR C (p1 := 1) fX0_pays_9 (hd_aload_n C dX0_pays_0) dX0_pays_1) (hd_iload_n C dX0_pays_4) dX0_pays_5) (hd_inI (hd_invV C (p1 := 10) (p2 := 12) snd_X5_tripOf rfl gX0_pays_X5_tripOf rfl yX0_pays_X5_tripOf ⟨by decide, by decide⟩ (by decide) (hd_getR C (p1 := 7) fX0_pays_18 (hd_aload_n C dX0_pays_6) dX0_pays_7) (hd_apI (p1 := 11) (p2 := 12) (hd_apI (p1 := 10) (p2 := 11) hd_av0 (hd_iload_n C dX0_pays_10)) (hd_iload_n C dX0_pays_11)) dX0_pays_12)) dX0_pays_15 (by decide)) dX0_pays_18 dX0_pays_19 (by decide) dX0_pays_22 rfl) dX0_pays_23))
/-! X0_together -/
set_option maxRecDepth 100000 in
theorem uX0_together_X0 : ∀ w ∈ u_ws RX0 TX0 3, w ∈ wsX0_together := by decide +kernel
set_option maxRecDepth 100000 in
theorem lX0_together_18 : Cond.fieldLink RX0 18 (TX0 0).1 (TX0 0).2.1 (TX0 0).2.2.1 ∈ wsX0_together := by decide +kernel
set_option maxRecDepth 100000 in
theorem fX0_together_18 : hd_F wsX0_together RX0 vwCl 0 0 18 := ⟨RX0, TX0, 3, rfl, by decide, uX0_together_X0, lX0_together_18⟩
set_option maxRecDepth 100000 in
theorem uX0_together_X5 : ∀ w ∈ u_ws RX5 TX5 10, w ∈ wsX0_together := by decide +kernel
set_option maxRecDepth 100000 in
theorem lX0_together_22 : Cond.fieldLink RX0 22 (TX5 0).1 (TX5 0).2.1 (TX5 0).2.2.1 ∈ wsX0_together := by decide +kernel
set_option maxRecDepth 100000 in
theorem fX0_together_22 : hd_F wsX0_together RX0 vwCl 5 0 22 := ⟨RX5, TX5, 10, rfl, by decide, uX0_together_X5, lX0_together_22⟩
set_option maxRecDepth 100000 in
theorem yX0_together_X5_isIn : yX5_isIn.cls ≠ "java/lang/invoke/MethodHandle" ∧ yX5_isIn.cls ≠ "java/lang/invoke/VarHandle" ∧ (parseMethodDescriptor yX5_isIn.desc).map (fun d => d.parameters.length) = some 2 := by decide +kernel
set_option maxRecDepth 100000 in
theorem lX0_together_9 : Cond.fieldLink RX0 9 (TX0 1).1 (TX0 1).2.1 (TX0 1).2.2.1 ∈ wsX0_together := by decide +kernel
set_option maxRecDepth 100000 in
theorem fX0_together_9 : hd_F wsX0_together RX0 vwCl 0 1 9 := ⟨RX0, TX0, 3, rfl, by decide, uX0_together_X0, lX0_together_9⟩
def wc_X0_together_4 : hd_xC := (hd_cI (fun x y => decide (x < y)) (hd_iL 3) (hd_iG hs_sh 5 0 (hd_rG hs_sh 0 0 (hd_rL 0))))
def wb_X0_together_4 : hd_xS := (hd_sQ (hd_sI 2 (hd_iB (fun x y => x + y) (hd_iL 2) (hd_iQ (hd_c0 (fun x => !decide (x = 0)) (hd_iN (hd_nS 2 (hd_pI (hd_pI hd_v0 (hd_iL 3)) (hd_iL 1)) wm_X5_isIn))) (hd_iA hs_sh (hd_rG hs_sh 0 1 (hd_rL 0)) (hd_iL 3)) (hd_iK (0))))) (hd_sP 3 (1)))
def wo_X0_together : hd_xS := (hd_sQ (hd_sI 2 (hd_iK (0))) (hd_sQ (hd_sQ (hd_sI 3 (hd_iK (0))) (hd_sH (wc_X0_together_4) (wb_X0_together_4))) (hd_sRI (hd_iL 2))))
def wm_X0_together : hd_M := hd_mth 4 wo_X0_together
set_option maxHeartbeats 4000000 in
set_option maxRecDepth 100000 in
theorem snd_X0_together : hd_Snd vwCl hs_sh yX0_together wsX0_together 2 wm_X0_together := hd_method (by decide) rfl rfl (by decide) (fun κ C Rk => (hd_seq (p1 := 2) (hd_sistore_n C (p1 := 1) (hd_iconst C dX0_together_0 (by decide)) dX0_together_1 (by decide)) (hd_seq (p1 := 42) (hd_seq (p1 := 4) (hd_sistore_n C (p1 := 3) (hd_iconst C dX0_together_2 (by decide)) dX0_together_3 (by decide)) (hd_loop C (p1 := 15) (p2 := 42) (hd_c_ltF C (p1 := 5) (p2 := 12) (tgt := 42) (hd_iload_n C dX0_together_4) (hd_getI C (p1 := 9) fX0_together_22 (hd_getR C (p1 := 6) fX0_together_18 (hd_aload_n C dX0_together_5) dX0_together_6) dX0_together_9) dX0_together_12 (by decide)) (hd_seq (p1 := 36) (hd_sistore_n C (p1 := 35) (hd_iadd C (p1 := 16) (p2 := 34) (hd_iload_n C dX0_together_15) (hd_tnI C (p1 := 24) (p2 := 30) (p3 := 33) (p4 := 34) (hd_z_neF C (p2 := 21) (tgt := 33) (hd_inI (hd_invS C (p2 := 18) snd_X5_isIn rfl gX0_together_X5_isIn yX0_together_X5_isIn ⟨by decide, by decide⟩ (by decide) (hd_apI (p1 := 17) (p2 := 18) (hd_apI (p1 := 16) (p2 := 17) hd_av0 (hd_iload_n C dX0_together_16)) (hd_iload_n C dX0_together_17)) dX0_together_18)) dX0_together_21 (by decide)) (hd_iald C (p1 := 28) (p2 := 29) (hd_getR C (p1 := 25) fX0_together_9 (hd_aload_n C dX0_together_24) dX0_together_25) (hd_iload_n C dX0_together_28) dX0_together_29) dX0_together_30 (by decide) (hd_iconst C dX0_together_33 (by decide))) dX0_together_34) dX0_together_35 (by decide)) (hd_sgoto C (p1 := 39) (tgt := 4) (hd_ends (es := [39]) (by decide) (hd_siinc C dX0_together_36 (by decide) (by decide))) dX0_together_39 (by decide) (by decide))) (by decide))) (hd_retI C Rk (p1 := 43) (hd_iload_n C dX0_together_42) dX0_together_43))))
/-! X1_bestAt -/
set_option maxRecDepth 100000 in
theorem uX1_bestAt_X1 : ∀ w ∈ u_ws RX1 TX1 5, w ∈ wsX1_bestAt := by decide +kernel
set_option maxRecDepth 100000 in
theorem lX1_bestAt_15 : Cond.fieldLink RX1 15 (TX1 0).1 (TX1 0).2.1 (TX1 0).2.2.1 ∈ wsX1_bestAt := by decide +kernel
set_option maxRecDepth 100000 in
theorem fX1_bestAt_15 : hd_F wsX1_bestAt RX1 vwCl 1 0 15 := ⟨RX1, TX1, 5, rfl, by decide, uX1_bestAt_X1, lX1_bestAt_15⟩
set_option maxRecDepth 100000 in
theorem yX1_bestAt_X5_everyHall : yX5_everyHall.cls = RX5 ∧ yX5_everyHall.cls ≠ "java/lang/invoke/MethodHandle" ∧ yX5_everyHall.cls ≠ "java/lang/invoke/VarHandle" ∧ (parseMethodDescriptor yX5_everyHall.desc).map (fun d => d.parameters.length) = some 0 := by decide +kernel
set_option maxRecDepth 100000 in
theorem yX1_bestAt_X1_isBest : yX1_isBest.cls = RX1 ∧ yX1_isBest.cls ≠ "java/lang/invoke/MethodHandle" ∧ yX1_isBest.cls ≠ "java/lang/invoke/VarHandle" ∧ (parseMethodDescriptor yX1_isBest.desc).map (fun d => d.parameters.length) = some 1 := by decide +kernel
def wc_X1_bestAt_4 : hd_xC := (hd_cI (fun x y => decide (x ≤ y)) (hd_iL 3) (hd_iN (hd_nV hs_sh 5 (hd_rG hs_sh 1 0 (hd_rL 0)) 0 hd_v0 wm_X5_everyHall)))
def wb_X1_bestAt_4 : hd_xS := (hd_sQ (hd_sW (hd_c0 (fun x => !decide (x = 0)) (hd_iN (hd_nV hs_sh 1 (hd_rL 0) 1 (hd_pI hd_v0 (hd_iL 3)) wm_X1_isBest))) (hd_sQ (hd_sW (hd_cI (fun x y => decide (x = y)) (hd_iL 2) (hd_iL 1)) (hd_sRI (hd_iL 3))) (hd_sP 2 (1)))) (hd_sP 3 (1)))
def wo_X1_bestAt : hd_xS := (hd_sQ (hd_sI 2 (hd_iK (0))) (hd_sQ (hd_sQ (hd_sI 3 (hd_iK (0))) (hd_sH (wc_X1_bestAt_4) (wb_X1_bestAt_4))) (hd_sRI (hd_iK (-1)))))
def wm_X1_bestAt : hd_M := hd_mth 4 wo_X1_bestAt
set_option maxHeartbeats 4000000 in
set_option maxRecDepth 100000 in
theorem snd_X1_bestAt : hd_Snd vwCl hs_sh yX1_bestAt wsX1_bestAt 2 wm_X1_bestAt := hd_method (by decide) rfl rfl (by decide) (fun κ C Rk => (hd_seq (p1 := 2) (hd_sistore_n C (p1 := 1) (hd_iconst C dX1_bestAt_0 (by decide)) dX1_bestAt_1 (by decide)) (hd_seq (p1 := 39) (hd_seq (p1 := 4) (hd_sistore_n C (p1 := 3) (hd_iconst C dX1_bestAt_2 (by decide)) dX1_bestAt_3 (by decide)) (hd_loop C (p1 := 15) (p2 := 39) (hd_c_leF C (p1 := 5) (p2 := 12) (tgt := 39) (hd_iload_n C dX1_bestAt_4) (hd_inI (hd_invV C (p1 := 9) (p2 := 9) snd_X5_everyHall rfl gX1_bestAt_X5_everyHall rfl yX1_bestAt_X5_everyHall ⟨by decide, by decide⟩ (by decide) (hd_getR C (p1 := 6) fX1_bestAt_15 (hd_aload_n C dX1_bestAt_5) dX1_bestAt_6) hd_av0 dX1_bestAt_9)) dX1_bestAt_12 (by decide)) (hd_seq (p1 := 33) (hd_if (p1 := 23) (p2 := 33) (hd_z_neF C (p2 := 20) (tgt := 33) (hd_inI (hd_invV C (p1 := 16) (p2 := 17) snd_X1_isBest rfl gX1_bestAt_X1_isBest rfl yX1_bestAt_X1_isBest ⟨by decide, by decide⟩ (by decide) (hd_aload_n C dX1_bestAt_15) (hd_apI (p1 := 16) (p2 := 17) hd_av0 (hd_iload_n C dX1_bestAt_16)) dX1_bestAt_17)) dX1_bestAt_20 (by decide)) (hd_seq (p1 := 30) (hd_if (p1 := 28) (p2 := 30) (hd_c_eqF C (p1 := 24) (p2 := 25) (tgt := 30) (hd_iload_n C dX1_bestAt_23) (hd_iload_n C dX1_bestAt_24) dX1_bestAt_25 (by decide)) (hd_retI C Rk (p1 := 29) (hd_iload_n C dX1_bestAt_28) dX1_bestAt_29) (by decide)) (hd_siinc C dX1_bestAt_30 (by decide) (by decide))) (by decide)) (hd_sgoto C (p1 := 36) (tgt := 4) (hd_ends (es := [36]) (by decide) (hd_siinc C dX1_bestAt_33 (by decide) (by decide))) dX1_bestAt_36 (by decide) (by decide))) (by decide))) (hd_retI C Rk (p1 := 40) (hd_iconst C dX1_bestAt_39 (by decide)) dX1_bestAt_40))))
/-! X1_bestUpTo -/
set_option maxRecDepth 100000 in
theorem yX1_bestUpTo_X1_isBest : yX1_isBest.cls = RX1 ∧ yX1_isBest.cls ≠ "java/lang/invoke/MethodHandle" ∧ yX1_isBest.cls ≠ "java/lang/invoke/VarHandle" ∧ (parseMethodDescriptor yX1_isBest.desc).map (fun d => d.parameters.length) = some 1 := by decide +kernel
def wc_X1_bestUpTo_4 : hd_xC := (hd_cI (fun x y => decide (x ≤ y)) (hd_iL 3) (hd_iL 1))
def wb_X1_bestUpTo_4 : hd_xS := (hd_sQ (hd_sI 2 (hd_iB (fun x y => x + y) (hd_iL 2) (hd_iQ (hd_c0 (fun x => !decide (x = 0)) (hd_iN (hd_nV hs_sh 1 (hd_rL 0) 1 (hd_pI hd_v0 (hd_iL 3)) wm_X1_isBest))) (hd_iK (1)) (hd_iK (0))))) (hd_sP 3 (1)))
def wo_X1_bestUpTo : hd_xS := (hd_sQ (hd_sI 2 (hd_iK (0))) (hd_sQ (hd_sQ (hd_sI 3 (hd_iK (0))) (hd_sH (wc_X1_bestUpTo_4) (wb_X1_bestUpTo_4))) (hd_sRI (hd_iL 2))))
def wm_X1_bestUpTo : hd_M := hd_mth 4 wo_X1_bestUpTo
set_option maxHeartbeats 4000000 in
set_option maxRecDepth 100000 in
theorem snd_X1_bestUpTo : hd_Snd vwCl hs_sh yX1_bestUpTo wsX1_bestUpTo 2 wm_X1_bestUpTo := hd_method (by decide) rfl rfl (by decide) (fun κ C Rk => (hd_seq (p1 := 2) (hd_sistore_n C (p1 := 1) (hd_iconst C dX1_bestUpTo_0 (by decide)) dX1_bestUpTo_1 (by decide)) (hd_seq (p1 := 31) (hd_seq (p1 := 4) (hd_sistore_n C (p1 := 3) (hd_iconst C dX1_bestUpTo_2 (by decide)) dX1_bestUpTo_3 (by decide)) (hd_loop C (p1 := 9) (p2 := 31) (hd_c_leF C (p1 := 5) (p2 := 6) (tgt := 31) (hd_iload_n C dX1_bestUpTo_4) (hd_iload_n C dX1_bestUpTo_5) dX1_bestUpTo_6 (by decide)) (hd_seq (p1 := 25) (hd_sistore_n C (p1 := 24) (hd_iadd C (p1 := 10) (p2 := 23) (hd_iload_n C dX1_bestUpTo_9) (hd_tnI C (p1 := 18) (p2 := 19) (p3 := 22) (p4 := 23) (hd_z_neF C (p2 := 15) (tgt := 22) (hd_inI (hd_invV C (p1 := 11) (p2 := 12) snd_X1_isBest rfl gX1_bestUpTo_X1_isBest rfl yX1_bestUpTo_X1_isBest ⟨by decide, by decide⟩ (by decide) (hd_aload_n C dX1_bestUpTo_10) (hd_apI (p1 := 11) (p2 := 12) hd_av0 (hd_iload_n C dX1_bestUpTo_11)) dX1_bestUpTo_12)) dX1_bestUpTo_15 (by decide)) (hd_iconst C dX1_bestUpTo_18 (by decide)) dX1_bestUpTo_19 (by decide) (hd_iconst C dX1_bestUpTo_22 (by decide))) dX1_bestUpTo_23) dX1_bestUpTo_24 (by decide)) (hd_sgoto C (p1 := 28) (tgt := 4) (hd_ends (es := [28]) (by decide) (hd_siinc C dX1_bestUpTo_25 (by decide) (by decide))) dX1_bestUpTo_28 (by decide) (by decide))) (by decide))) (hd_retI C Rk (p1 := 32) (hd_iload_n C dX1_bestUpTo_31) dX1_bestUpTo_32))))
/-! X1_finedOf -/
set_option maxRecDepth 100000 in
theorem uX1_finedOf_X1 : ∀ w ∈ u_ws RX1 TX1 5, w ∈ wsX1_finedOf := by decide +kernel
set_option maxRecDepth 100000 in
theorem lX1_finedOf_19 : Cond.fieldLink RX1 19 (TX1 1).1 (TX1 1).2.1 (TX1 1).2.2.1 ∈ wsX1_finedOf := by decide +kernel
set_option maxRecDepth 100000 in
theorem fX1_finedOf_19 : hd_F wsX1_finedOf RX1 vwCl 1 1 19 := ⟨RX1, TX1, 5, rfl, by decide, uX1_finedOf_X1, lX1_finedOf_19⟩
set_option maxRecDepth 100000 in
theorem uX1_finedOf_X6 : ∀ w ∈ u_ws RX6 TX6 5, w ∈ wsX1_finedOf := by decide +kernel
set_option maxRecDepth 100000 in
theorem lX1_finedOf_59 : Cond.fieldLink RX1 59 (TX6 3).1 (TX6 3).2.1 (TX6 3).2.2.1 ∈ wsX1_finedOf := by decide +kernel
set_option maxRecDepth 100000 in
theorem fX1_finedOf_59 : hd_F wsX1_finedOf RX1 vwCl 6 3 59 := ⟨RX6, TX6, 5, rfl, by decide, uX1_finedOf_X6, lX1_finedOf_59⟩
set_option maxRecDepth 100000 in
theorem lX1_finedOf_15 : Cond.fieldLink RX1 15 (TX1 0).1 (TX1 0).2.1 (TX1 0).2.2.1 ∈ wsX1_finedOf := by decide +kernel
set_option maxRecDepth 100000 in
theorem fX1_finedOf_15 : hd_F wsX1_finedOf RX1 vwCl 1 0 15 := ⟨RX1, TX1, 5, rfl, by decide, uX1_finedOf_X1, lX1_finedOf_15⟩
set_option maxRecDepth 100000 in
theorem uX1_finedOf_X5 : ∀ w ∈ u_ws RX5 TX5 10, w ∈ wsX1_finedOf := by decide +kernel
set_option maxRecDepth 100000 in
theorem lX1_finedOf_62 : Cond.fieldLink RX1 62 (TX5 0).1 (TX5 0).2.1 (TX5 0).2.2.1 ∈ wsX1_finedOf := by decide +kernel
set_option maxRecDepth 100000 in
theorem fX1_finedOf_62 : hd_F wsX1_finedOf RX1 vwCl 5 0 62 := ⟨RX5, TX5, 10, rfl, by decide, uX1_finedOf_X5, lX1_finedOf_62⟩
set_option maxRecDepth 100000 in
theorem lX1_finedOf_76 : Cond.fieldLink RX1 76 (TX5 3).1 (TX5 3).2.1 (TX5 3).2.2.1 ∈ wsX1_finedOf := by decide +kernel
set_option maxRecDepth 100000 in
theorem fX1_finedOf_76 : hd_F wsX1_finedOf RX1 vwCl 5 3 76 := ⟨RX5, TX5, 10, rfl, by decide, uX1_finedOf_X5, lX1_finedOf_76⟩
set_option maxRecDepth 100000 in
theorem lX1_finedOf_79 : Cond.fieldLink RX1 79 (TX5 2).1 (TX5 2).2.1 (TX5 2).2.2.1 ∈ wsX1_finedOf := by decide +kernel
set_option maxRecDepth 100000 in
theorem fX1_finedOf_79 : hd_F wsX1_finedOf RX1 vwCl 5 2 79 := ⟨RX5, TX5, 10, rfl, by decide, uX1_finedOf_X5, lX1_finedOf_79⟩
set_option maxRecDepth 100000 in
theorem yX1_finedOf_X6_nearWay : yX6_nearWay.cls = RX6 ∧ yX6_nearWay.cls ≠ "java/lang/invoke/MethodHandle" ∧ yX6_nearWay.cls ≠ "java/lang/invoke/VarHandle" ∧ (parseMethodDescriptor yX6_nearWay.desc).map (fun d => d.parameters.length) = some 2 := by decide +kernel
set_option maxRecDepth 100000 in
theorem wX1_finedOf_16 : Cond.methodLink RX1 82 Lib.Math.min.name ∈ wsX1_finedOf := by decide +kernel
set_option maxRecDepth 100000 in
theorem wX1_finedOf_17 : Cond.static Lib.Math.min.name ∈ wsX1_finedOf := by decide +kernel
set_option maxRecDepth 100000 in
theorem wX1_finedOf_18 : Cond.initialized "java/lang/Math" ∈ wsX1_finedOf := by decide +kernel
set_option maxRecDepth 100000 in
theorem wX1_finedOf_19 : Cond.code Lib.Math.min.name Lib.Math.min.code 2 (some .int) ∈ wsX1_finedOf := by decide +kernel
def wc_X1_finedOf_12 : hd_xC := (hd_cI (fun x y => decide (x < y)) (hd_iL 3) (hd_iG hs_sh 5 0 (hd_rG hs_sh 1 0 (hd_rL 0))))
def wb_X1_finedOf_12 : hd_xS := (hd_sQ (hd_sI 2 (hd_iB (fun x y => x + y) (hd_iL 2) (hd_iB (fun x y => if y < x then y else x) (hd_iA hs_sh (hd_rG hs_sh 5 3 (hd_rG hs_sh 1 0 (hd_rL 0))) (hd_iL 3)) (hd_iB (fun x y => x * y) (hd_iA hs_sh (hd_rG hs_sh 5 2 (hd_rG hs_sh 1 0 (hd_rL 0))) (hd_iL 3)) (hd_iN (hd_nV hs_sh 6 (hd_rG hs_sh 1 1 (hd_rL 0)) 2 (hd_pI (hd_pI hd_v0 (hd_iL 1)) (hd_iL 3)) wm_X6_nearWay)))))) (hd_sP 3 (1)))
def wo_X1_finedOf : hd_xS := (hd_sQ (hd_sI 2 (hd_iA hs_sh (hd_rG hs_sh 6 3 (hd_rG hs_sh 1 1 (hd_rL 0))) (hd_iL 1))) (hd_sQ (hd_sQ (hd_sI 3 (hd_iK (0))) (hd_sH (wc_X1_finedOf_12) (wb_X1_finedOf_12))) (hd_sRI (hd_iL 2))))
def wm_X1_finedOf : hd_M := hd_mth 4 wo_X1_finedOf
set_option maxHeartbeats 4000000 in
set_option maxRecDepth 100000 in
theorem snd_X1_finedOf : hd_Snd vwCl hs_sh yX1_finedOf wsX1_finedOf 2 wm_X1_finedOf := hd_method (by decide) rfl rfl (by decide) (fun κ C Rk => (hd_seq (p1 := 10) (hd_sistore_n C (p1 := 9) (hd_iald C (p1 := 7) (p2 := 8) (hd_getR C (p1 := 4) fX1_finedOf_59 (hd_getR C (p1 := 1) fX1_finedOf_19 (hd_aload_n C dX1_finedOf_0) dX1_finedOf_1) dX1_finedOf_4) (hd_iload_n C dX1_finedOf_7) dX1_finedOf_8) dX1_finedOf_9 (by decide)) (hd_seq (p1 := 63) (hd_seq (p1 := 12) (hd_sistore_n C (p1 := 11) (hd_iconst C dX1_finedOf_10 (by decide)) dX1_finedOf_11 (by decide)) (hd_loop C (p1 := 23) (p2 := 63) (hd_c_ltF C (p1 := 13) (p2 := 20) (tgt := 63) (hd_iload_n C dX1_finedOf_12) (hd_getI C (p1 := 17) fX1_finedOf_62 (hd_getR C (p1 := 14) fX1_finedOf_15 (hd_aload_n C dX1_finedOf_13) dX1_finedOf_14) dX1_finedOf_17) dX1_finedOf_20 (by decide)) (hd_seq (p1 := 57) (hd_sistore_n C (p1 := 56) (hd_iadd C (p1 := 24) (p2 := 55) (hd_iload_n C dX1_finedOf_23) (hd_mmin C (p1 := 33) (p2 := 52) wX1_finedOf_16 wX1_finedOf_17 wX1_finedOf_18 wX1_finedOf_19 (by decide) (hd_iald C (p1 := 31) (p2 := 32) (hd_getR C (p1 := 28) fX1_finedOf_76 (hd_getR C (p1 := 25) fX1_finedOf_15 (hd_aload_n C dX1_finedOf_24) dX1_finedOf_25) dX1_finedOf_28) (hd_iload_n C dX1_finedOf_31) dX1_finedOf_32) (hd_imul C (p1 := 42) (p2 := 51) (hd_iald C (p1 := 40) (p2 := 41) (hd_getR C (p1 := 37) fX1_finedOf_79 (hd_getR C (p1 := 34) fX1_finedOf_15 (hd_aload_n C dX1_finedOf_33) dX1_finedOf_34) dX1_finedOf_37) (hd_iload_n C dX1_finedOf_40) dX1_finedOf_41) (hd_inI (hd_invV C (p1 := 46) (p2 := 48) snd_X6_nearWay rfl gX1_finedOf_X6_nearWay rfl yX1_finedOf_X6_nearWay ⟨by decide, by decide⟩ (by decide) (hd_getR C (p1 := 43) fX1_finedOf_19 (hd_aload_n C dX1_finedOf_42) dX1_finedOf_43) (hd_apI (p1 := 47) (p2 := 48) (hd_apI (p1 := 46) (p2 := 47) hd_av0 (hd_iload_n C dX1_finedOf_46)) (hd_iload_n C dX1_finedOf_47)) dX1_finedOf_48)) dX1_finedOf_51) dX1_finedOf_52) dX1_finedOf_55) dX1_finedOf_56 (by decide)) (hd_sgoto C (p1 := 60) (tgt := 12) (hd_ends (es := [60]) (by decide) (hd_siinc C dX1_finedOf_57 (by decide) (by decide))) dX1_finedOf_60 (by decide) (by decide))) (by decide))) (hd_retI C Rk (p1 := 64) (hd_iload_n C dX1_finedOf_63) dX1_finedOf_64))))
/-! X1_isBeside -/
set_option maxRecDepth 100000 in
theorem yX1_isBeside_J6_bitCount_0f7a4 : yJ6_bitCount_0f7a4.cls ≠ "java/lang/invoke/MethodHandle" ∧ yJ6_bitCount_0f7a4.cls ≠ "java/lang/invoke/VarHandle" ∧ (parseMethodDescriptor yJ6_bitCount_0f7a4.desc).map (fun d => d.parameters.length) = some 1 := by decide +kernel
def wo_X1_isBeside : hd_xS := (hd_sQ (hd_sI 2 (hd_iN (hd_nS 1 (hd_pI hd_v0 (hd_iB (fun x y => x ^^^ y) (hd_iL 0) (hd_iL 1))) wm_J6_bitCount_0f7a4))) (hd_sRZ (hd_iC (hd_cO (hd_cI (fun x y => decide (x = y)) (hd_iL 2) (hd_iK (1))) (hd_cA (hd_cI (fun x y => decide (x = y)) (hd_iL 2) (hd_iK (2))) (hd_cI (fun x y => decide (x = y)) (hd_iN (hd_nS 1 (hd_pI hd_v0 (hd_iL 0)) wm_J6_bitCount_0f7a4)) (hd_iN (hd_nS 1 (hd_pI hd_v0 (hd_iL 1)) wm_J6_bitCount_0f7a4))))))))
def wm_X1_isBeside : hd_M := hd_mth 3 wo_X1_isBeside
set_option maxHeartbeats 4000000 in
set_option maxRecDepth 100000 in
theorem snd_X1_isBeside : hd_Snd vwCl hs_sh yX1_isBeside wsX1_isBeside 2 wm_X1_isBeside := hd_method (by decide) rfl rfl (by decide) (fun κ C Rk => (hd_seq (p1 := 7) (hd_sistore_n C (p1 := 6) (hd_inI (hd_invS C (p2 := 3) snd_J6_bitCount_0f7a4 rfl gX1_isBeside_J6_bitCount_0f7a4 yX1_isBeside_J6_bitCount_0f7a4 ⟨by decide, by decide⟩ (by decide) (hd_apI (p1 := 0) (p2 := 3) hd_av0 (hd_ixor C (p1 := 1) (p2 := 2) (hd_iload_n C dX1_isBeside_0) (hd_iload_n C dX1_isBeside_1) dX1_isBeside_2)) dX1_isBeside_3)) dX1_isBeside_6 (by decide)) (hd_retZ C Rk (p1 := 33) (hd_boC C (p1 := 28) (p3 := 32) (p4 := 33) (hd_or (p1 := 12) (p2 := 28) (p3 := 32) (hd_c_eqT C (p1 := 8) (p2 := 9) (tgt := 28) (hd_iload_n C dX1_isBeside_7) (hd_iconst C dX1_isBeside_8 (by decide)) dX1_isBeside_9 (by decide)) (hd_and (p1 := 17) (p2 := 28) (p3 := 32) (hd_c_eqF C (p1 := 13) (p2 := 14) (tgt := 32) (hd_iload_n C dX1_isBeside_12) (hd_iconst C dX1_isBeside_13 (by decide)) dX1_isBeside_14 (by decide)) (hd_c_eqF C (p1 := 21) (p2 := 25) (tgt := 32) (hd_inI (hd_invS C (p2 := 18) snd_J6_bitCount_0f7a4 rfl gX1_isBeside_J6_bitCount_0f7a4 yX1_isBeside_J6_bitCount_0f7a4 ⟨by decide, by decide⟩ (by decide) (hd_apI (p1 := 17) (p2 := 18) hd_av0 (hd_iload_n C dX1_isBeside_17)) dX1_isBeside_18)) (hd_inI (hd_invS C (p2 := 22) snd_J6_bitCount_0f7a4 rfl gX1_isBeside_J6_bitCount_0f7a4 yX1_isBeside_J6_bitCount_0f7a4 ⟨by decide, by decide⟩ (by decide) (hd_apI (p1 := 21) (p2 := 22) hd_av0 (hd_iload_n C dX1_isBeside_21)) dX1_isBeside_22)) dX1_isBeside_25 (by decide)))) dX1_isBeside_28 dX1_isBeside_29 (by decide) dX1_isBeside_32 rfl) dX1_isBeside_33)))
/-! X1_mostOf -/
set_option maxRecDepth 100000 in
theorem uX1_mostOf_X1 : ∀ w ∈ u_ws RX1 TX1 5, w ∈ wsX1_mostOf := by decide +kernel
set_option maxRecDepth 100000 in
theorem lX1_mostOf_19 : Cond.fieldLink RX1 19 (TX1 1).1 (TX1 1).2.1 (TX1 1).2.2.1 ∈ wsX1_mostOf := by decide +kernel
set_option maxRecDepth 100000 in
theorem fX1_mostOf_19 : hd_F wsX1_mostOf RX1 vwCl 1 1 19 := ⟨RX1, TX1, 5, rfl, by decide, uX1_mostOf_X1, lX1_mostOf_19⟩
set_option maxRecDepth 100000 in
theorem uX1_mostOf_X6 : ∀ w ∈ u_ws RX6 TX6 5, w ∈ wsX1_mostOf := by decide +kernel
set_option maxRecDepth 100000 in
theorem lX1_mostOf_27 : Cond.fieldLink RX1 27 (TX6 2).1 (TX6 2).2.1 (TX6 2).2.2.1 ∈ wsX1_mostOf := by decide +kernel
set_option maxRecDepth 100000 in
theorem fX1_mostOf_27 : hd_F wsX1_mostOf RX1 vwCl 6 2 27 := ⟨RX6, TX6, 5, rfl, by decide, uX1_mostOf_X6, lX1_mostOf_27⟩
set_option maxRecDepth 100000 in
theorem lX1_mostOf_15 : Cond.fieldLink RX1 15 (TX1 0).1 (TX1 0).2.1 (TX1 0).2.2.1 ∈ wsX1_mostOf := by decide +kernel
set_option maxRecDepth 100000 in
theorem fX1_mostOf_15 : hd_F wsX1_mostOf RX1 vwCl 1 0 15 := ⟨RX1, TX1, 5, rfl, by decide, uX1_mostOf_X1, lX1_mostOf_15⟩
set_option maxRecDepth 100000 in
theorem uX1_mostOf_X5 : ∀ w ∈ u_ws RX5 TX5 10, w ∈ wsX1_mostOf := by decide +kernel
set_option maxRecDepth 100000 in
theorem lX1_mostOf_62 : Cond.fieldLink RX1 62 (TX5 0).1 (TX5 0).2.1 (TX5 0).2.2.1 ∈ wsX1_mostOf := by decide +kernel
set_option maxRecDepth 100000 in
theorem fX1_mostOf_62 : hd_F wsX1_mostOf RX1 vwCl 5 0 62 := ⟨RX5, TX5, 10, rfl, by decide, uX1_mostOf_X5, lX1_mostOf_62⟩
set_option maxRecDepth 100000 in
theorem yX1_mostOf_X6_nearWay : yX6_nearWay.cls = RX6 ∧ yX6_nearWay.cls ≠ "java/lang/invoke/MethodHandle" ∧ yX6_nearWay.cls ≠ "java/lang/invoke/VarHandle" ∧ (parseMethodDescriptor yX6_nearWay.desc).map (fun d => d.parameters.length) = some 2 := by decide +kernel
set_option maxRecDepth 100000 in
theorem wX1_mostOf_12 : Cond.methodLink RX1 71 Lib.Math.max.name ∈ wsX1_mostOf := by decide +kernel
set_option maxRecDepth 100000 in
theorem wX1_mostOf_13 : Cond.static Lib.Math.max.name ∈ wsX1_mostOf := by decide +kernel
set_option maxRecDepth 100000 in
theorem wX1_mostOf_14 : Cond.initialized "java/lang/Math" ∈ wsX1_mostOf := by decide +kernel
set_option maxRecDepth 100000 in
theorem wX1_mostOf_15 : Cond.code Lib.Math.max.name Lib.Math.max.code 2 (some .int) ∈ wsX1_mostOf := by decide +kernel
def wc_X1_mostOf_19 : hd_xC := (hd_cI (fun x y => decide (x < y)) (hd_iL 3) (hd_iG hs_sh 5 0 (hd_rG hs_sh 1 0 (hd_rL 0))))
def wb_X1_mostOf_19 : hd_xS := (hd_sQ (hd_sI 2 (hd_iB (fun x y => if x < y then y else x) (hd_iL 2) (hd_iN (hd_nV hs_sh 6 (hd_rG hs_sh 1 1 (hd_rL 0)) 2 (hd_pI (hd_pI hd_v0 (hd_iL 1)) (hd_iL 3)) wm_X6_nearWay)))) (hd_sP 3 (1)))
def wo_X1_mostOf : hd_xS := (hd_sQ (hd_sW (hd_cI (fun x y => decide (x = y)) (hd_iA hs_sh (hd_rG hs_sh 6 2 (hd_rG hs_sh 1 1 (hd_rL 0))) (hd_iL 1)) (hd_iK (-1))) (hd_sRI (hd_iK (-1)))) (hd_sQ (hd_sI 2 (hd_iK (0))) (hd_sQ (hd_sQ (hd_sI 3 (hd_iK (0))) (hd_sH (wc_X1_mostOf_19) (wb_X1_mostOf_19))) (hd_sRI (hd_iL 2)))))
def wm_X1_mostOf : hd_M := hd_mth 4 wo_X1_mostOf
set_option maxHeartbeats 4000000 in
set_option maxRecDepth 100000 in
theorem snd_X1_mostOf : hd_Snd vwCl hs_sh yX1_mostOf wsX1_mostOf 2 wm_X1_mostOf := hd_method (by decide) rfl rfl (by decide) (fun κ C Rk => (hd_seq (p1 := 15) (hd_if (p1 := 13) (p2 := 15) (hd_c_eqF C (p1 := 9) (p2 := 10) (tgt := 15) (hd_iald C (p1 := 7) (p2 := 8) (hd_getR C (p1 := 4) fX1_mostOf_27 (hd_getR C (p1 := 1) fX1_mostOf_19 (hd_aload_n C dX1_mostOf_0) dX1_mostOf_1) dX1_mostOf_4) (hd_iload_n C dX1_mostOf_7) dX1_mostOf_8) (hd_iconst C dX1_mostOf_9 (by decide)) dX1_mostOf_10 (by decide)) (hd_retI C Rk (p1 := 14) (hd_iconst C dX1_mostOf_13 (by decide)) dX1_mostOf_14) (by decide)) (hd_seq (p1 := 17) (hd_sistore_n C (p1 := 16) (hd_iconst C dX1_mostOf_15 (by decide)) dX1_mostOf_16 (by decide)) (hd_seq (p1 := 50) (hd_seq (p1 := 19) (hd_sistore_n C (p1 := 18) (hd_iconst C dX1_mostOf_17 (by decide)) dX1_mostOf_18 (by decide)) (hd_loop C (p1 := 30) (p2 := 50) (hd_c_ltF C (p1 := 20) (p2 := 27) (tgt := 50) (hd_iload_n C dX1_mostOf_19) (hd_getI C (p1 := 24) fX1_mostOf_62 (hd_getR C (p1 := 21) fX1_mostOf_15 (hd_aload_n C dX1_mostOf_20) dX1_mostOf_21) dX1_mostOf_24) dX1_mostOf_27 (by decide)) (hd_seq (p1 := 44) (hd_sistore_n C (p1 := 43) (hd_mmax C (p1 := 31) (p2 := 40) wX1_mostOf_12 wX1_mostOf_13 wX1_mostOf_14 wX1_mostOf_15 (by decide) (hd_iload_n C dX1_mostOf_30) (hd_inI (hd_invV C (p1 := 35) (p2 := 37) snd_X6_nearWay rfl gX1_mostOf_X6_nearWay rfl yX1_mostOf_X6_nearWay ⟨by decide, by decide⟩ (by decide) (hd_getR C (p1 := 32) fX1_mostOf_19 (hd_aload_n C dX1_mostOf_31) dX1_mostOf_32) (hd_apI (p1 := 36) (p2 := 37) (hd_apI (p1 := 35) (p2 := 36) hd_av0 (hd_iload_n C dX1_mostOf_35)) (hd_iload_n C dX1_mostOf_36)) dX1_mostOf_37)) dX1_mostOf_40) dX1_mostOf_43 (by decide)) (hd_sgoto C (p1 := 47) (tgt := 19) (hd_ends (es := [47]) (by decide) (hd_siinc C dX1_mostOf_44 (by decide) (by decide))) dX1_mostOf_47 (by decide) (by decide))) (by decide))) (hd_retI C Rk (p1 := 51) (hd_iload_n C dX1_mostOf_50) dX1_mostOf_51)))))
/-! X1_takenBy -/
set_option maxRecDepth 100000 in
theorem uX1_takenBy_X1 : ∀ w ∈ u_ws RX1 TX1 5, w ∈ wsX1_takenBy := by decide +kernel
set_option maxRecDepth 100000 in
theorem lX1_takenBy_15 : Cond.fieldLink RX1 15 (TX1 0).1 (TX1 0).2.1 (TX1 0).2.2.1 ∈ wsX1_takenBy := by decide +kernel
set_option maxRecDepth 100000 in
theorem fX1_takenBy_15 : hd_F wsX1_takenBy RX1 vwCl 1 0 15 := ⟨RX1, TX1, 5, rfl, by decide, uX1_takenBy_X1, lX1_takenBy_15⟩
set_option maxRecDepth 100000 in
theorem uX1_takenBy_X5 : ∀ w ∈ u_ws RX5 TX5 10, w ∈ wsX1_takenBy := by decide +kernel
set_option maxRecDepth 100000 in
theorem lX1_takenBy_62 : Cond.fieldLink RX1 62 (TX5 0).1 (TX5 0).2.1 (TX5 0).2.2.1 ∈ wsX1_takenBy := by decide +kernel
set_option maxRecDepth 100000 in
theorem fX1_takenBy_62 : hd_F wsX1_takenBy RX1 vwCl 5 0 62 := ⟨RX5, TX5, 10, rfl, by decide, uX1_takenBy_X5, lX1_takenBy_62⟩
set_option maxRecDepth 100000 in
theorem yX1_takenBy_X5_wayOf : yX5_wayOf.cls = RX5 ∧ yX5_wayOf.cls ≠ "java/lang/invoke/MethodHandle" ∧ yX5_wayOf.cls ≠ "java/lang/invoke/VarHandle" ∧ (parseMethodDescriptor yX5_wayOf.desc).map (fun d => d.parameters.length) = some 2 := by decide +kernel
set_option maxRecDepth 100000 in
theorem lX1_takenBy_19 : Cond.fieldLink RX1 19 (TX1 1).1 (TX1 1).2.1 (TX1 1).2.2.1 ∈ wsX1_takenBy := by decide +kernel
set_option maxRecDepth 100000 in
theorem fX1_takenBy_19 : hd_F wsX1_takenBy RX1 vwCl 1 1 19 := ⟨RX1, TX1, 5, rfl, by decide, uX1_takenBy_X1, lX1_takenBy_19⟩
set_option maxRecDepth 100000 in
theorem yX1_takenBy_X6_nearWay : yX6_nearWay.cls = RX6 ∧ yX6_nearWay.cls ≠ "java/lang/invoke/MethodHandle" ∧ yX6_nearWay.cls ≠ "java/lang/invoke/VarHandle" ∧ (parseMethodDescriptor yX6_nearWay.desc).map (fun d => d.parameters.length) = some 2 := by decide +kernel
set_option maxRecDepth 100000 in
theorem lX1_takenBy_79 : Cond.fieldLink RX1 79 (TX5 2).1 (TX5 2).2.1 (TX5 2).2.2.1 ∈ wsX1_takenBy := by decide +kernel
set_option maxRecDepth 100000 in
theorem fX1_takenBy_79 : hd_F wsX1_takenBy RX1 vwCl 5 2 79 := ⟨RX5, TX5, 10, rfl, by decide, uX1_takenBy_X5, lX1_takenBy_79⟩
def wc_X1_takenBy_5 : hd_xC := (hd_cI (fun x y => decide (x < y)) (hd_iL 4) (hd_iG hs_sh 5 0 (hd_rG hs_sh 1 0 (hd_rL 0))))
def wb_X1_takenBy_5 : hd_xS := (hd_sQ (hd_sI 3 (hd_iB (fun x y => x + y) (hd_iL 3) (hd_iQ (hd_cI (fun x y => decide (x < y)) (hd_iN (hd_nV hs_sh 5 (hd_rG hs_sh 1 0 (hd_rL 0)) 2 (hd_pI (hd_pI hd_v0 (hd_iL 1)) (hd_iL 4)) wm_X5_wayOf)) (hd_iN (hd_nV hs_sh 6 (hd_rG hs_sh 1 1 (hd_rL 0)) 2 (hd_pI (hd_pI hd_v0 (hd_iL 2)) (hd_iL 4)) wm_X6_nearWay))) (hd_iA hs_sh (hd_rG hs_sh 5 2 (hd_rG hs_sh 1 0 (hd_rL 0))) (hd_iL 4)) (hd_iK (0))))) (hd_sP 4 (1)))
def wo_X1_takenBy : hd_xS := (hd_sQ (hd_sI 3 (hd_iK (0))) (hd_sQ (hd_sQ (hd_sI 4 (hd_iK (0))) (hd_sH (wc_X1_takenBy_5) (wb_X1_takenBy_5))) (hd_sRI (hd_iL 3))))
def wm_X1_takenBy : hd_M := hd_mth 5 wo_X1_takenBy
set_option maxHeartbeats 4000000 in
set_option maxRecDepth 100000 in
theorem snd_X1_takenBy : hd_Snd vwCl hs_sh yX1_takenBy wsX1_takenBy 2 wm_X1_takenBy := hd_method (by decide) rfl rfl (by decide) (fun κ C Rk => (hd_seq (p1 := 2) (hd_sistore_n C (p1 := 1) (hd_iconst C dX1_takenBy_0 (by decide)) dX1_takenBy_1 (by decide)) (hd_seq (p1 := 63) (hd_seq (p1 := 5) (hd_sistore C (p1 := 3) (hd_iconst C dX1_takenBy_2 (by decide)) dX1_takenBy_3 (by decide)) (hd_loop C (p1 := 17) (p2 := 63) (hd_c_ltF C (p1 := 7) (p2 := 14) (tgt := 63) (hd_iload C dX1_takenBy_5) (hd_getI C (p1 := 11) fX1_takenBy_62 (hd_getR C (p1 := 8) fX1_takenBy_15 (hd_aload_n C dX1_takenBy_7) dX1_takenBy_8) dX1_takenBy_11) dX1_takenBy_14 (by decide)) (hd_seq (p1 := 57) (hd_sistore_n C (p1 := 56) (hd_iadd C (p1 := 18) (p2 := 55) (hd_iload_n C dX1_takenBy_17) (hd_tnI C (p1 := 41) (p2 := 51) (p3 := 54) (p4 := 55) (hd_c_ltF C (p1 := 28) (p2 := 38) (tgt := 54) (hd_inI (hd_invV C (p1 := 22) (p2 := 25) snd_X5_wayOf rfl gX1_takenBy_X5_wayOf rfl yX1_takenBy_X5_wayOf ⟨by decide, by decide⟩ (by decide) (hd_getR C (p1 := 19) fX1_takenBy_15 (hd_aload_n C dX1_takenBy_18) dX1_takenBy_19) (hd_apI (p1 := 23) (p2 := 25) (hd_apI (p1 := 22) (p2 := 23) hd_av0 (hd_iload_n C dX1_takenBy_22)) (hd_iload C dX1_takenBy_23)) dX1_takenBy_25)) (hd_inI (hd_invV C (p1 := 32) (p2 := 35) snd_X6_nearWay rfl gX1_takenBy_X6_nearWay rfl yX1_takenBy_X6_nearWay ⟨by decide, by decide⟩ (by decide) (hd_getR C (p1 := 29) fX1_takenBy_19 (hd_aload_n C dX1_takenBy_28) dX1_takenBy_29) (hd_apI (p1 := 33) (p2 := 35) (hd_apI (p1 := 32) (p2 := 33) hd_av0 (hd_iload_n C dX1_takenBy_32)) (hd_iload C dX1_takenBy_33)) dX1_takenBy_35)) dX1_takenBy_38 (by decide)) (hd_iald C (p1 := 48) (p2 := 50) (hd_getR C (p1 := 45) fX1_takenBy_79 (hd_getR C (p1 := 42) fX1_takenBy_15 (hd_aload_n C dX1_takenBy_41) dX1_takenBy_42) dX1_takenBy_45) (hd_iload C dX1_takenBy_48) dX1_takenBy_50) dX1_takenBy_51 (by decide) (hd_iconst C dX1_takenBy_54 (by decide))) dX1_takenBy_55) dX1_takenBy_56 (by decide)) (hd_sgoto C (p1 := 60) (tgt := 5) (hd_ends (es := [60]) (by decide) (hd_siinc C dX1_takenBy_57 (by decide) (by decide))) dX1_takenBy_60 (by decide) (by decide))) (by decide))) (hd_retI C Rk (p1 := 64) (hd_iload_n C dX1_takenBy_63) dX1_takenBy_64))))
/-! X1_worstToClose -/
set_option maxRecDepth 100000 in
theorem yX1_worstToClose_J6_bitCount_0f7a4 : yJ6_bitCount_0f7a4.cls ≠ "java/lang/invoke/MethodHandle" ∧ yJ6_bitCount_0f7a4.cls ≠ "java/lang/invoke/VarHandle" ∧ (parseMethodDescriptor yJ6_bitCount_0f7a4.desc).map (fun d => d.parameters.length) = some 1 := by decide +kernel
set_option maxRecDepth 100000 in
theorem uX1_worstToClose_X1 : ∀ w ∈ u_ws RX1 TX1 5, w ∈ wsX1_worstToClose := by decide +kernel
set_option maxRecDepth 100000 in
theorem lX1_worstToClose_15 : Cond.fieldLink RX1 15 (TX1 0).1 (TX1 0).2.1 (TX1 0).2.2.1 ∈ wsX1_worstToClose := by decide +kernel
set_option maxRecDepth 100000 in
theorem fX1_worstToClose_15 : hd_F wsX1_worstToClose RX1 vwCl 1 0 15 := ⟨RX1, TX1, 5, rfl, by decide, uX1_worstToClose_X1, lX1_worstToClose_15⟩
set_option maxRecDepth 100000 in
theorem uX1_worstToClose_X5 : ∀ w ∈ u_ws RX5 TX5 10, w ∈ wsX1_worstToClose := by decide +kernel
set_option maxRecDepth 100000 in
theorem lX1_worstToClose_93 : Cond.fieldLink RX1 93 (TX5 1).1 (TX5 1).2.1 (TX5 1).2.2.1 ∈ wsX1_worstToClose := by decide +kernel
set_option maxRecDepth 100000 in
theorem fX1_worstToClose_93 : hd_F wsX1_worstToClose RX1 vwCl 5 1 93 := ⟨RX5, TX5, 10, rfl, by decide, uX1_worstToClose_X5, lX1_worstToClose_93⟩
set_option maxRecDepth 100000 in
theorem yX1_worstToClose_X5_isIn : yX5_isIn.cls ≠ "java/lang/invoke/MethodHandle" ∧ yX5_isIn.cls ≠ "java/lang/invoke/VarHandle" ∧ (parseMethodDescriptor yX5_isIn.desc).map (fun d => d.parameters.length) = some 2 := by decide +kernel
set_option maxRecDepth 100000 in
theorem lX1_worstToClose_19 : Cond.fieldLink RX1 19 (TX1 1).1 (TX1 1).2.1 (TX1 1).2.2.1 ∈ wsX1_worstToClose := by decide +kernel
set_option maxRecDepth 100000 in
theorem fX1_worstToClose_19 : hd_F wsX1_worstToClose RX1 vwCl 1 1 19 := ⟨RX1, TX1, 5, rfl, by decide, uX1_worstToClose_X1, lX1_worstToClose_19⟩
set_option maxRecDepth 100000 in
theorem uX1_worstToClose_X6 : ∀ w ∈ u_ws RX6 TX6 5, w ∈ wsX1_worstToClose := by decide +kernel
set_option maxRecDepth 100000 in
theorem lX1_worstToClose_27 : Cond.fieldLink RX1 27 (TX6 2).1 (TX6 2).2.1 (TX6 2).2.2.1 ∈ wsX1_worstToClose := by decide +kernel
set_option maxRecDepth 100000 in
theorem fX1_worstToClose_27 : hd_F wsX1_worstToClose RX1 vwCl 6 2 27 := ⟨RX6, TX6, 5, rfl, by decide, uX1_worstToClose_X6, lX1_worstToClose_27⟩
def wc_X1_worstToClose_17 : hd_xC := (hd_cI (fun x y => decide (x < y)) (hd_iL 4) (hd_iG hs_sh 5 1 (hd_rG hs_sh 1 0 (hd_rL 0))))
def wb_X1_worstToClose_17 : hd_xS := (hd_sQ (hd_sW (hd_cA (hd_c0 (fun x => !decide (x = 0)) (hd_iN (hd_nS 2 (hd_pI (hd_pI hd_v0 (hd_iL 4)) (hd_iL 1)) wm_X5_isIn))) (hd_cI (fun x y => decide (y < x)) (hd_iA hs_sh (hd_rG hs_sh 6 2 (hd_rG hs_sh 1 1 (hd_rL 0))) (hd_iB (fun x y => x &&& y) (hd_iL 1) (hd_iB (fun x y => x ^^^ y) (hd_iB (fun x y => x <<< (y &&& 31)) (hd_iK (1)) (hd_iL 4)) (hd_iK (-1))))) (hd_iL 3))) (hd_sQ (hd_sI 2 (hd_iL 4)) (hd_sI 3 (hd_iA hs_sh (hd_rG hs_sh 6 2 (hd_rG hs_sh 1 1 (hd_rL 0))) (hd_iB (fun x y => x &&& y) (hd_iL 1) (hd_iB (fun x y => x ^^^ y) (hd_iB (fun x y => x <<< (y &&& 31)) (hd_iK (1)) (hd_iL 4)) (hd_iK (-1)))))))) (hd_sP 4 (1)))
def wo_X1_worstToClose : hd_xS := (hd_sQ (hd_sW (hd_cI (fun x y => decide (x < y)) (hd_iN (hd_nS 1 (hd_pI hd_v0 (hd_iL 1)) wm_J6_bitCount_0f7a4)) (hd_iK (2))) (hd_sRI (hd_iK (-1)))) (hd_sQ (hd_sI 2 (hd_iK (-1))) (hd_sQ (hd_sI 3 (hd_iK (-1))) (hd_sQ (hd_sQ (hd_sI 4 (hd_iK (0))) (hd_sH (wc_X1_worstToClose_17) (wb_X1_worstToClose_17))) (hd_sRI (hd_iL 2))))))
def wm_X1_worstToClose : hd_M := hd_mth 5 wo_X1_worstToClose
set_option maxHeartbeats 4000000 in
set_option maxRecDepth 100000 in
theorem snd_X1_worstToClose : hd_Snd vwCl hs_sh yX1_worstToClose wsX1_worstToClose 2 wm_X1_worstToClose := hd_method (by decide) rfl rfl (by decide) (fun κ C Rk => (hd_seq (p1 := 10) (hd_if (p1 := 8) (p2 := 10) (hd_c_ltF C (p1 := 4) (p2 := 5) (tgt := 10) (hd_inI (hd_invS C (p2 := 1) snd_J6_bitCount_0f7a4 rfl gX1_worstToClose_J6_bitCount_0f7a4 yX1_worstToClose_J6_bitCount_0f7a4 ⟨by decide, by decide⟩ (by decide) (hd_apI (p1 := 0) (p2 := 1) hd_av0 (hd_iload_n C dX1_worstToClose_0)) dX1_worstToClose_1)) (hd_iconst C dX1_worstToClose_4 (by decide)) dX1_worstToClose_5 (by decide)) (hd_retI C Rk (p1 := 9) (hd_iconst C dX1_worstToClose_8 (by decide)) dX1_worstToClose_9) (by decide)) (hd_seq (p1 := 12) (hd_sistore_n C (p1 := 11) (hd_iconst C dX1_worstToClose_10 (by decide)) dX1_worstToClose_11 (by decide)) (hd_seq (p1 := 14) (hd_sistore_n C (p1 := 13) (hd_iconst C dX1_worstToClose_12 (by decide)) dX1_worstToClose_13 (by decide)) (hd_seq (p1 := 84) (hd_seq (p1 := 17) (hd_sistore C (p1 := 15) (hd_iconst C dX1_worstToClose_14 (by decide)) dX1_worstToClose_15 (by decide)) (hd_loop C (p1 := 29) (p2 := 84) (hd_c_ltF C (p1 := 19) (p2 := 26) (tgt := 84) (hd_iload C dX1_worstToClose_17) (hd_getI C (p1 := 23) fX1_worstToClose_93 (hd_getR C (p1 := 20) fX1_worstToClose_15 (hd_aload_n C dX1_worstToClose_19) dX1_worstToClose_20) dX1_worstToClose_23) dX1_worstToClose_26 (by decide)) (hd_seq (p1 := 78) (hd_if (p1 := 58) (p2 := 78) (hd_and (p1 := 38) (p2 := 58) (p3 := 78) (hd_z_neF C (p2 := 35) (tgt := 78) (hd_inI (hd_invS C (p2 := 32) snd_X5_isIn rfl gX1_worstToClose_X5_isIn yX1_worstToClose_X5_isIn ⟨by decide, by decide⟩ (by decide) (hd_apI (p1 := 31) (p2 := 32) (hd_apI (p1 := 29) (p2 := 31) hd_av0 (hd_iload C dX1_worstToClose_29)) (hd_iload_n C dX1_worstToClose_31)) dX1_worstToClose_32)) dX1_worstToClose_35 (by decide)) (hd_c_gtF C (p1 := 54) (p2 := 55) (tgt := 78) (hd_iald C (p1 := 45) (p2 := 53) (hd_getR C (p1 := 42) fX1_worstToClose_27 (hd_getR C (p1 := 39) fX1_worstToClose_19 (hd_aload_n C dX1_worstToClose_38) dX1_worstToClose_39) dX1_worstToClose_42) (hd_iand C (p1 := 46) (p2 := 52) (hd_iload_n C dX1_worstToClose_45) (hd_ixor C (p1 := 50) (p2 := 51) (hd_ishl C (p1 := 47) (p2 := 49) (hd_iconst C dX1_worstToClose_46 (by decide)) (hd_iload C dX1_worstToClose_47) dX1_worstToClose_49) (hd_iconst C dX1_worstToClose_50 (by decide)) dX1_worstToClose_51) dX1_worstToClose_52) dX1_worstToClose_53) (hd_iload_n C dX1_worstToClose_54) dX1_worstToClose_55 (by decide))) (hd_seq (p1 := 61) (hd_sistore_n C (p1 := 60) (hd_iload C dX1_worstToClose_58) dX1_worstToClose_60 (by decide)) (hd_sistore_n C (p1 := 77) (hd_iald C (p1 := 68) (p2 := 76) (hd_getR C (p1 := 65) fX1_worstToClose_27 (hd_getR C (p1 := 62) fX1_worstToClose_19 (hd_aload_n C dX1_worstToClose_61) dX1_worstToClose_62) dX1_worstToClose_65) (hd_iand C (p1 := 69) (p2 := 75) (hd_iload_n C dX1_worstToClose_68) (hd_ixor C (p1 := 73) (p2 := 74) (hd_ishl C (p1 := 70) (p2 := 72) (hd_iconst C dX1_worstToClose_69 (by decide)) (hd_iload C dX1_worstToClose_70) dX1_worstToClose_72) (hd_iconst C dX1_worstToClose_73 (by decide)) dX1_worstToClose_74) dX1_worstToClose_75) dX1_worstToClose_76) dX1_worstToClose_77 (by decide))) (by decide)) (hd_sgoto C (p1 := 81) (tgt := 17) (hd_ends (es := [81]) (by decide) (hd_siinc C dX1_worstToClose_78 (by decide) (by decide))) dX1_worstToClose_81 (by decide) (by decide))) (by decide))) (hd_retI C Rk (p1 := 85) (hd_iload_n C dX1_worstToClose_84) dX1_worstToClose_85))))))
/-! X2_offer -/
set_option maxRecDepth 100000 in
theorem uX2_offer_X2 : ∀ w ∈ u_ws RX2 TX2 5, w ∈ wsX2_offer := by decide +kernel
set_option maxRecDepth 100000 in
theorem lX2_offer_15 : Cond.fieldLink RX2 15 (TX2 3).1 (TX2 3).2.1 (TX2 3).2.2.1 ∈ wsX2_offer := by decide +kernel
set_option maxRecDepth 100000 in
theorem fX2_offer_15 : hd_F wsX2_offer RX2 vwCl 2 3 15 := ⟨RX2, TX2, 5, rfl, by decide, uX2_offer_X2, lX2_offer_15⟩
set_option maxRecDepth 100000 in
theorem lX2_offer_26 : Cond.fieldLink RX2 26 (TX2 1).1 (TX2 1).2.1 (TX2 1).2.2.1 ∈ wsX2_offer := by decide +kernel
set_option maxRecDepth 100000 in
theorem fX2_offer_26 : hd_F wsX2_offer RX2 vwCl 2 1 26 := ⟨RX2, TX2, 5, rfl, by decide, uX2_offer_X2, lX2_offer_26⟩
set_option maxRecDepth 100000 in
theorem uX2_offer_X6 : ∀ w ∈ u_ws RX6 TX6 5, w ∈ wsX2_offer := by decide +kernel
set_option maxRecDepth 100000 in
theorem lX2_offer_54 : Cond.fieldLink RX2 54 (TX6 3).1 (TX6 3).2.1 (TX6 3).2.2.1 ∈ wsX2_offer := by decide +kernel
set_option maxRecDepth 100000 in
theorem fX2_offer_54 : hd_F wsX2_offer RX2 vwCl 6 3 54 := ⟨RX6, TX6, 5, rfl, by decide, uX2_offer_X6, lX2_offer_54⟩
set_option maxRecDepth 100000 in
theorem lX2_offer_22 : Cond.fieldLink RX2 22 (TX2 0).1 (TX2 0).2.1 (TX2 0).2.2.1 ∈ wsX2_offer := by decide +kernel
set_option maxRecDepth 100000 in
theorem fX2_offer_22 : hd_F wsX2_offer RX2 vwCl 2 0 22 := ⟨RX2, TX2, 5, rfl, by decide, uX2_offer_X2, lX2_offer_22⟩
set_option maxRecDepth 100000 in
theorem uX2_offer_X5 : ∀ w ∈ u_ws RX5 TX5 10, w ∈ wsX2_offer := by decide +kernel
set_option maxRecDepth 100000 in
theorem lX2_offer_57 : Cond.fieldLink RX2 57 (TX5 0).1 (TX5 0).2.1 (TX5 0).2.2.1 ∈ wsX2_offer := by decide +kernel
set_option maxRecDepth 100000 in
theorem fX2_offer_57 : hd_F wsX2_offer RX2 vwCl 5 0 57 := ⟨RX5, TX5, 10, rfl, by decide, uX2_offer_X5, lX2_offer_57⟩
set_option maxRecDepth 100000 in
theorem lX2_offer_61 : Cond.fieldLink RX2 61 (TX5 2).1 (TX5 2).2.1 (TX5 2).2.2.1 ∈ wsX2_offer := by decide +kernel
set_option maxRecDepth 100000 in
theorem fX2_offer_61 : hd_F wsX2_offer RX2 vwCl 5 2 61 := ⟨RX5, TX5, 10, rfl, by decide, uX2_offer_X5, lX2_offer_61⟩
set_option maxRecDepth 100000 in
theorem yX2_offer_X6_nearWay : yX6_nearWay.cls = RX6 ∧ yX6_nearWay.cls ≠ "java/lang/invoke/MethodHandle" ∧ yX6_nearWay.cls ≠ "java/lang/invoke/VarHandle" ∧ (parseMethodDescriptor yX6_nearWay.desc).map (fun d => d.parameters.length) = some 2 := by decide +kernel
set_option maxRecDepth 100000 in
theorem lX2_offer_9 : Cond.fieldLink RX2 9 (TX2 2).1 (TX2 2).2.1 (TX2 2).2.2.1 ∈ wsX2_offer := by decide +kernel
set_option maxRecDepth 100000 in
theorem fX2_offer_9 : hd_F wsX2_offer RX2 vwCl 2 2 9 := ⟨RX2, TX2, 5, rfl, by decide, uX2_offer_X2, lX2_offer_9⟩
set_option maxRecDepth 100000 in
theorem wX2_offer_18 : Cond.methodLink RX2 68 Lib.Math.min.name ∈ wsX2_offer := by decide +kernel
set_option maxRecDepth 100000 in
theorem wX2_offer_19 : Cond.static Lib.Math.min.name ∈ wsX2_offer := by decide +kernel
set_option maxRecDepth 100000 in
theorem wX2_offer_20 : Cond.initialized "java/lang/Math" ∈ wsX2_offer := by decide +kernel
set_option maxRecDepth 100000 in
theorem wX2_offer_21 : Cond.code Lib.Math.min.name Lib.Math.min.code 2 (some .int) ∈ wsX2_offer := by decide +kernel
def wc_X2_offer_51 : hd_xC := (hd_cI (fun x y => decide (x < y)) (hd_iL 4) (hd_iB (fun x y => x <<< (y &&& 31)) (hd_iK (1)) (hd_iL 2)))
def wb_X2_offer_51 : hd_xS := (hd_sQ (hd_sQ (hd_sI 5 (hd_iB (fun x y => x ||| y) (hd_iL 4) (hd_iB (fun x y => x <<< (y &&& 31)) (hd_iK (1)) (hd_iL 2)))) (hd_sQ (hd_sA hs_sh (hd_rG hs_sh 2 3 (hd_rL 0)) (hd_iL 5) (hd_iB (fun x y => x + y) (hd_iA hs_sh (hd_rG hs_sh 2 3 (hd_rL 0)) (hd_iL 4)) (hd_iL 3))) (hd_sA hs_sh (hd_rG hs_sh 2 2 (hd_rL 0)) (hd_iL 5) (hd_iB (fun x y => if y < x then y else x) (hd_iA hs_sh (hd_rG hs_sh 2 2 (hd_rL 0)) (hd_iL 5)) (hd_iA hs_sh (hd_rG hs_sh 2 3 (hd_rL 0)) (hd_iL 5)))))) (hd_sP 4 (1)))
def wc_X2_offer_17 : hd_xC := (hd_cI (fun x y => decide (x < y)) (hd_iL 2) (hd_iG hs_sh 5 0 (hd_rG hs_sh 2 0 (hd_rL 0))))
def wb_X2_offer_17 : hd_xS := (hd_sQ (hd_sQ (hd_sI 3 (hd_iB (fun x y => x * y) (hd_iA hs_sh (hd_rG hs_sh 5 2 (hd_rG hs_sh 2 0 (hd_rL 0))) (hd_iL 2)) (hd_iN (hd_nV hs_sh 6 (hd_rG hs_sh 2 1 (hd_rL 0)) 2 (hd_pI (hd_pI hd_v0 (hd_iL 1)) (hd_iL 2)) wm_X6_nearWay)))) (hd_sQ (hd_sI 4 (hd_iK (0))) (hd_sH (wc_X2_offer_51) (wb_X2_offer_51)))) (hd_sP 2 (1)))
def wo_X2_offer : hd_xS := (hd_sQ (hd_sA hs_sh (hd_rG hs_sh 2 3 (hd_rL 0)) (hd_iK (0)) (hd_iA hs_sh (hd_rG hs_sh 6 3 (hd_rG hs_sh 2 1 (hd_rL 0))) (hd_iL 1))) (hd_sQ (hd_sQ (hd_sI 2 (hd_iK (0))) (hd_sH (wc_X2_offer_17) (wb_X2_offer_17))) hd_sRV))
def wm_X2_offer : hd_M := hd_mth 6 wo_X2_offer
set_option maxHeartbeats 4000000 in
set_option maxRecDepth 100000 in
theorem snd_X2_offer : hd_Snd vwCl hs_sh yX2_offer wsX2_offer 2 wm_X2_offer := hd_method (by decide) rfl rfl (by decide) (fun κ C Rk => (hd_seq (p1 := 15) (hd_siast C (p1 := 4) (p2 := 5) (p3 := 14) (hd_getR C (p1 := 1) fX2_offer_15 (hd_aload_n C dX2_offer_0) dX2_offer_1) (hd_iconst C dX2_offer_4 (by decide)) (hd_iald C (p1 := 12) (p2 := 13) (hd_getR C (p1 := 9) fX2_offer_54 (hd_getR C (p1 := 6) fX2_offer_26 (hd_aload_n C dX2_offer_5) dX2_offer_6) dX2_offer_9) (hd_iload_n C dX2_offer_12) dX2_offer_13) dX2_offer_14) (hd_seq (p1 := 119) (hd_seq (p1 := 17) (hd_sistore_n C (p1 := 16) (hd_iconst C dX2_offer_15 (by decide)) dX2_offer_16 (by decide)) (hd_loop C (p1 := 28) (p2 := 119) (hd_c_ltF C (p1 := 18) (p2 := 25) (tgt := 119) (hd_iload_n C dX2_offer_17) (hd_getI C (p1 := 22) fX2_offer_57 (hd_getR C (p1 := 19) fX2_offer_22 (hd_aload_n C dX2_offer_18) dX2_offer_19) dX2_offer_22) dX2_offer_25 (by decide)) (hd_seq (p1 := 113) (hd_seq (p1 := 48) (hd_sistore_n C (p1 := 47) (hd_imul C (p1 := 37) (p2 := 46) (hd_iald C (p1 := 35) (p2 := 36) (hd_getR C (p1 := 32) fX2_offer_61 (hd_getR C (p1 := 29) fX2_offer_22 (hd_aload_n C dX2_offer_28) dX2_offer_29) dX2_offer_32) (hd_iload_n C dX2_offer_35) dX2_offer_36) (hd_inI (hd_invV C (p1 := 41) (p2 := 43) snd_X6_nearWay rfl gX2_offer_X6_nearWay rfl yX2_offer_X6_nearWay ⟨by decide, by decide⟩ (by decide) (hd_getR C (p1 := 38) fX2_offer_26 (hd_aload_n C dX2_offer_37) dX2_offer_38) (hd_apI (p1 := 42) (p2 := 43) (hd_apI (p1 := 41) (p2 := 42) hd_av0 (hd_iload_n C dX2_offer_41)) (hd_iload_n C dX2_offer_42)) dX2_offer_43)) dX2_offer_46) dX2_offer_47 (by decide)) (hd_seq (p1 := 51) (hd_sistore C (p1 := 49) (hd_iconst C dX2_offer_48 (by decide)) dX2_offer_49 (by decide)) (hd_loop C (p1 := 59) (p2 := 113) (hd_c_ltF C (p1 := 53) (p2 := 56) (tgt := 113) (hd_iload C dX2_offer_51) (hd_ishl C (p1 := 54) (p2 := 55) (hd_iconst C dX2_offer_53 (by decide)) (hd_iload_n C dX2_offer_54) dX2_offer_55) dX2_offer_56 (by decide)) (hd_seq (p1 := 107) (hd_seq (p1 := 67) (hd_sistore C (p1 := 65) (hd_ior C (p1 := 61) (p2 := 64) (hd_iload C dX2_offer_59) (hd_ishl C (p1 := 62) (p2 := 63) (hd_iconst C dX2_offer_61 (by decide)) (hd_iload_n C dX2_offer_62) dX2_offer_63) dX2_offer_64) dX2_offer_65 (by decide)) (hd_seq (p1 := 83) (hd_siast C (p1 := 71) (p2 := 73) (p3 := 82) (hd_getR C (p1 := 68) fX2_offer_15 (hd_aload_n C dX2_offer_67) dX2_offer_68) (hd_iload C dX2_offer_71) (hd_iadd C (p1 := 80) (p2 := 81) (hd_iald C (p1 := 77) (p2 := 79) (hd_getR C (p1 := 74) fX2_offer_15 (hd_aload_n C dX2_offer_73) dX2_offer_74) (hd_iload C dX2_offer_77) dX2_offer_79) (hd_iload_n C dX2_offer_80) dX2_offer_81) dX2_offer_82) (hd_siast C (p1 := 87) (p2 := 89) (p3 := 106) (hd_getR C (p1 := 84) fX2_offer_9 (hd_aload_n C dX2_offer_83) dX2_offer_84) (hd_iload C dX2_offer_87) (hd_mmin C (p1 := 96) (p2 := 103) wX2_offer_18 wX2_offer_19 wX2_offer_20 wX2_offer_21 (by decide) (hd_iald C (p1 := 93) (p2 := 95) (hd_getR C (p1 := 90) fX2_offer_9 (hd_aload_n C dX2_offer_89) dX2_offer_90) (hd_iload C dX2_offer_93) dX2_offer_95) (hd_iald C (p1 := 100) (p2 := 102) (hd_getR C (p1 := 97) fX2_offer_15 (hd_aload_n C dX2_offer_96) dX2_offer_97) (hd_iload C dX2_offer_100) dX2_offer_102) dX2_offer_103) dX2_offer_106))) (hd_sgoto C (p1 := 110) (tgt := 51) (hd_ends (es := [110]) (by decide) (hd_siinc C dX2_offer_107 (by decide) (by decide))) dX2_offer_110 (by decide) (by decide))) (by decide)))) (hd_sgoto C (p1 := 116) (tgt := 17) (hd_ends (es := [116]) (by decide) (hd_siinc C dX2_offer_113 (by decide) (by decide))) dX2_offer_116 (by decide) (by decide))) (by decide))) (hd_retV C Rk dX2_offer_119))))
/-! X3_gatherSpots -/
set_option maxRecDepth 100000 in
theorem uX3_gatherSpots_X3 : ∀ w ∈ u_ws RX3 TX3 5, w ∈ wsX3_gatherSpots := by decide +kernel
set_option maxRecDepth 100000 in
theorem lX3_gatherSpots_22 : Cond.fieldLink RX3 22 (TX3 2).1 (TX3 2).2.1 (TX3 2).2.2.1 ∈ wsX3_gatherSpots := by decide +kernel
set_option maxRecDepth 100000 in
theorem qX3_gatherSpots_22 : hd_FP wsX3_gatherSpots RX3 vwCl 3 2 22 .int := ⟨RX3, TX3, 5, tyX3, rfl, by decide, uX3_gatherSpots_X3, lX3_gatherSpots_22, tyX3_ok, nmX3, rfl, rfl⟩
set_option maxRecDepth 100000 in
theorem lX3_gatherSpots_15 : Cond.fieldLink RX3 15 (TX3 0).1 (TX3 0).2.1 (TX3 0).2.2.1 ∈ wsX3_gatherSpots := by decide +kernel
set_option maxRecDepth 100000 in
theorem fX3_gatherSpots_15 : hd_F wsX3_gatherSpots RX3 vwCl 3 0 15 := ⟨RX3, TX3, 5, rfl, by decide, uX3_gatherSpots_X3, lX3_gatherSpots_15⟩
set_option maxRecDepth 100000 in
theorem uX3_gatherSpots_X5 : ∀ w ∈ u_ws RX5 TX5 10, w ∈ wsX3_gatherSpots := by decide +kernel
set_option maxRecDepth 100000 in
theorem lX3_gatherSpots_50 : Cond.fieldLink RX3 50 (TX5 0).1 (TX5 0).2.1 (TX5 0).2.2.1 ∈ wsX3_gatherSpots := by decide +kernel
set_option maxRecDepth 100000 in
theorem fX3_gatherSpots_50 : hd_F wsX3_gatherSpots RX3 vwCl 5 0 50 := ⟨RX5, TX5, 10, rfl, by decide, uX3_gatherSpots_X5, lX3_gatherSpots_50⟩
set_option maxRecDepth 100000 in
theorem lX3_gatherSpots_55 : Cond.fieldLink RX3 55 (TX5 4).1 (TX5 4).2.1 (TX5 4).2.2.1 ∈ wsX3_gatherSpots := by decide +kernel
set_option maxRecDepth 100000 in
theorem fX3_gatherSpots_55 : hd_F wsX3_gatherSpots RX3 vwCl 5 4 55 := ⟨RX5, TX5, 10, rfl, by decide, uX3_gatherSpots_X5, lX3_gatherSpots_55⟩
set_option maxRecDepth 100000 in
theorem yX3_gatherSpots_X3_insertSpot : yX3_insertSpot.cls = RX3 ∧ yX3_insertSpot.cls ≠ "java/lang/invoke/MethodHandle" ∧ yX3_insertSpot.cls ≠ "java/lang/invoke/VarHandle" ∧ (parseMethodDescriptor yX3_insertSpot.desc).map (fun d => d.parameters.length) = some 1 := by decide +kernel
def wc_X3_gatherSpots_7 : hd_xC := (hd_cI (fun x y => decide (x < y)) (hd_iL 1) (hd_iG hs_sh 5 0 (hd_rG hs_sh 3 0 (hd_rL 0))))
def wb_X3_gatherSpots_7 : hd_xS := (hd_sQ (hd_sN (hd_nV hs_sh 3 (hd_rL 0) 1 (hd_pI hd_v0 (hd_iA hs_sh (hd_rG hs_sh 5 4 (hd_rG hs_sh 3 0 (hd_rL 0))) (hd_iL 1))) wm_X3_insertSpot)) (hd_sP 1 (1)))
def wo_X3_gatherSpots : hd_xS := (hd_sQ (hd_sF hs_sh 3 2 (hd_rL 0) (hd_iK (0))) (hd_sQ (hd_sQ (hd_sI 1 (hd_iK (0))) (hd_sH (wc_X3_gatherSpots_7) (wb_X3_gatherSpots_7))) hd_sRV))
def wm_X3_gatherSpots : hd_M := hd_mth 2 wo_X3_gatherSpots
set_option maxHeartbeats 4000000 in
set_option maxRecDepth 100000 in
theorem snd_X3_gatherSpots : hd_Snd vwCl hs_sh yX3_gatherSpots wsX3_gatherSpots 2 wm_X3_gatherSpots := hd_method (by decide) rfl rfl (by decide) (fun κ C Rk => (hd_seq (p1 := 5) (hd_sputI C (p1 := 1) (p2 := 2) qX3_gatherSpots_22 (hd_aload_n C dX3_gatherSpots_0) (hd_iconst C dX3_gatherSpots_1 (by decide)) dX3_gatherSpots_2) (hd_seq (p1 := 37) (hd_seq (p1 := 7) (hd_sistore_n C (p1 := 6) (hd_iconst C dX3_gatherSpots_5 (by decide)) dX3_gatherSpots_6 (by decide)) (hd_loop C (p1 := 18) (p2 := 37) (hd_c_ltF C (p1 := 8) (p2 := 15) (tgt := 37) (hd_iload_n C dX3_gatherSpots_7) (hd_getI C (p1 := 12) fX3_gatherSpots_50 (hd_getR C (p1 := 9) fX3_gatherSpots_15 (hd_aload_n C dX3_gatherSpots_8) dX3_gatherSpots_9) dX3_gatherSpots_12) dX3_gatherSpots_15 (by decide)) (hd_seq (p1 := 31) (hd_scall (hd_invV C (p1 := 19) (p2 := 28) snd_X3_insertSpot rfl gX3_gatherSpots_X3_insertSpot rfl yX3_gatherSpots_X3_insertSpot ⟨by decide, by decide⟩ (by decide) (hd_aload_n C dX3_gatherSpots_18) (hd_apI (p1 := 19) (p2 := 28) hd_av0 (hd_iald C (p1 := 26) (p2 := 27) (hd_getR C (p1 := 23) fX3_gatherSpots_55 (hd_getR C (p1 := 20) fX3_gatherSpots_15 (hd_aload_n C dX3_gatherSpots_19) dX3_gatherSpots_20) dX3_gatherSpots_23) (hd_iload_n C dX3_gatherSpots_26) dX3_gatherSpots_27)) dX3_gatherSpots_28)) (hd_sgoto C (p1 := 34) (tgt := 7) (hd_ends (es := [34]) (by decide) (hd_siinc C dX3_gatherSpots_31 (by decide) (by decide))) dX3_gatherSpots_34 (by decide) (by decide))) (by decide))) (hd_retV C Rk dX3_gatherSpots_37))))
/-! X3_isChosen -/
set_option maxRecDepth 100000 in
theorem uX3_isChosen_X3 : ∀ w ∈ u_ws RX3 TX3 5, w ∈ wsX3_isChosen := by decide +kernel
set_option maxRecDepth 100000 in
theorem lX3_isChosen_22 : Cond.fieldLink RX3 22 (TX3 2).1 (TX3 2).2.1 (TX3 2).2.2.1 ∈ wsX3_isChosen := by decide +kernel
set_option maxRecDepth 100000 in
theorem fX3_isChosen_22 : hd_F wsX3_isChosen RX3 vwCl 3 2 22 := ⟨RX3, TX3, 5, rfl, by decide, uX3_isChosen_X3, lX3_isChosen_22⟩
set_option maxRecDepth 100000 in
theorem yX3_isChosen_X5_isIn : yX5_isIn.cls ≠ "java/lang/invoke/MethodHandle" ∧ yX5_isIn.cls ≠ "java/lang/invoke/VarHandle" ∧ (parseMethodDescriptor yX5_isIn.desc).map (fun d => d.parameters.length) = some 2 := by decide +kernel
def wo_X3_isChosen : hd_xS := (hd_sRZ (hd_iN (hd_nS 2 (hd_pI (hd_pI hd_v0 (hd_iB (fun x y => x - y) (hd_iB (fun x y => x - y) (hd_iG hs_sh 3 2 (hd_rL 0)) (hd_iK (1))) (hd_iL 2))) (hd_iL 1)) wm_X5_isIn)))
def wm_X3_isChosen : hd_M := hd_mth 3 wo_X3_isChosen
set_option maxHeartbeats 4000000 in
set_option maxRecDepth 100000 in
theorem snd_X3_isChosen : hd_Snd vwCl hs_sh yX3_isChosen wsX3_isChosen 2 wm_X3_isChosen := hd_method (by decide) rfl rfl (by decide) (fun κ C Rk => (hd_retZ C Rk (p1 := 12) (hd_inI (hd_invS C (p2 := 9) snd_X5_isIn rfl gX3_isChosen_X5_isIn yX3_isChosen_X5_isIn ⟨by decide, by decide⟩ (by decide) (hd_apI (p1 := 8) (p2 := 9) (hd_apI (p1 := 0) (p2 := 8) hd_av0 (hd_isub C (p1 := 6) (p2 := 7) (hd_isub C (p1 := 4) (p2 := 5) (hd_getI C (p1 := 1) fX3_isChosen_22 (hd_aload_n C dX3_isChosen_0) dX3_isChosen_1) (hd_iconst C dX3_isChosen_4 (by decide)) dX3_isChosen_5) (hd_iload_n C dX3_isChosen_6) dX3_isChosen_7)) (hd_iload_n C dX3_isChosen_8)) dX3_isChosen_9)) dX3_isChosen_12))
/-! X4_giveBack -/
set_option maxRecDepth 100000 in
theorem uX4_giveBack_X4 : ∀ w ∈ u_ws RX4 TX4 2, w ∈ wsX4_giveBack := by decide +kernel
set_option maxRecDepth 100000 in
theorem lX4_giveBack_18 : Cond.fieldLink RX4 18 (TX4 1).1 (TX4 1).2.1 (TX4 1).2.2.1 ∈ wsX4_giveBack := by decide +kernel
set_option maxRecDepth 100000 in
theorem fX4_giveBack_18 : hd_F wsX4_giveBack RX4 vwCl 4 1 18 := ⟨RX4, TX4, 2, rfl, by decide, uX4_giveBack_X4, lX4_giveBack_18⟩
set_option maxRecDepth 100000 in
theorem qX4_giveBack_18 : hd_FP wsX4_giveBack RX4 vwCl 4 1 18 .int := ⟨RX4, TX4, 2, tyX4, rfl, by decide, uX4_giveBack_X4, lX4_giveBack_18, tyX4_ok, nmX4, rfl, rfl⟩
set_option maxRecDepth 100000 in
theorem lX4_giveBack_11 : Cond.fieldLink RX4 11 (TX4 0).1 (TX4 0).2.1 (TX4 0).2.2.1 ∈ wsX4_giveBack := by decide +kernel
set_option maxRecDepth 100000 in
theorem fX4_giveBack_11 : hd_F wsX4_giveBack RX4 vwCl 4 0 11 := ⟨RX4, TX4, 2, rfl, by decide, uX4_giveBack_X4, lX4_giveBack_11⟩
set_option maxRecDepth 100000 in
theorem yX4_giveBack_X5_takeFrom : yX5_takeFrom.cls = RX5 ∧ yX5_takeFrom.cls ≠ "java/lang/invoke/MethodHandle" ∧ yX5_takeFrom.cls ≠ "java/lang/invoke/VarHandle" ∧ (parseMethodDescriptor yX5_takeFrom.desc).map (fun d => d.parameters.length) = some 1 := by decide +kernel
def wo_X4_giveBack : hd_xS := (hd_sQ (hd_sW (hd_c0 (fun x => decide (0 < x)) (hd_iG hs_sh 4 1 (hd_rL 0))) (hd_sQ (hd_sG (fun x y => x - y) hs_sh 4 1 (hd_rL 0) (hd_iK (1))) (hd_sN (hd_nV hs_sh 5 (hd_rL 1) 1 (hd_pR hd_v0 (hd_rA hs_sh 2 (hd_rG hs_sh 4 0 (hd_rL 0)) (hd_iG hs_sh 4 1 (hd_rL 0)))) wm_X5_takeFrom)))) hd_sRV)
def wm_X4_giveBack : hd_M := hd_mth 2 wo_X4_giveBack
set_option maxHeartbeats 4000000 in
set_option maxRecDepth 100000 in
theorem snd_X4_giveBack : hd_Snd vwCl hs_sh yX4_giveBack wsX4_giveBack 2 wm_X4_giveBack := hd_method (by decide) rfl rfl (by decide) (fun κ C Rk => (hd_seq (p1 := 30) (hd_if (p1 := 7) (p2 := 30) (hd_z_gtF C (p2 := 4) (tgt := 30) (hd_getI C (p1 := 1) fX4_giveBack_18 (hd_aload_n C dX4_giveBack_0) dX4_giveBack_1) dX4_giveBack_4 (by decide)) (hd_seq (p1 := 17) (hd_sfld_isub C (p1 := 8) (p2 := 13) fX4_giveBack_18 qX4_giveBack_18 (hd_aload_n C dX4_giveBack_7) dX4_giveBack_8 dX4_giveBack_9 (hd_iconst C dX4_giveBack_12 (by decide)) dX4_giveBack_13 dX4_giveBack_14) (hd_scall (hd_invV C (p1 := 18) (p2 := 27) snd_X5_takeFrom rfl gX4_giveBack_X5_takeFrom rfl yX4_giveBack_X5_takeFrom ⟨by decide, by decide⟩ (by decide) (hd_aload_n C dX4_giveBack_17) (hd_apR (p1 := 18) (p2 := 27) hd_av0 (hd_aald2 C (p1 := 22) (p2 := 26) (hd_getR C (p1 := 19) fX4_giveBack_11 (hd_aload_n C dX4_giveBack_18) dX4_giveBack_19) (hd_getI C (p1 := 23) fX4_giveBack_18 (hd_aload_n C dX4_giveBack_22) dX4_giveBack_23) dX4_giveBack_26)) dX4_giveBack_27))) (by decide)) (hd_retV C Rk dX4_giveBack_30)))
/-! X4_keep -/
set_option maxRecDepth 100000 in
theorem uX4_keep_X4 : ∀ w ∈ u_ws RX4 TX4 2, w ∈ wsX4_keep := by decide +kernel
set_option maxRecDepth 100000 in
theorem lX4_keep_18 : Cond.fieldLink RX4 18 (TX4 1).1 (TX4 1).2.1 (TX4 1).2.2.1 ∈ wsX4_keep := by decide +kernel
set_option maxRecDepth 100000 in
theorem fX4_keep_18 : hd_F wsX4_keep RX4 vwCl 4 1 18 := ⟨RX4, TX4, 2, rfl, by decide, uX4_keep_X4, lX4_keep_18⟩
set_option maxRecDepth 100000 in
theorem yX4_keep_X4_dropOldest : yX4_dropOldest.cls = RX4 ∧ yX4_dropOldest.cls ≠ "java/lang/invoke/MethodHandle" ∧ yX4_dropOldest.cls ≠ "java/lang/invoke/VarHandle" ∧ (parseMethodDescriptor yX4_dropOldest.desc).map (fun d => d.parameters.length) = some 0 := by decide +kernel
set_option maxRecDepth 100000 in
theorem lX4_keep_11 : Cond.fieldLink RX4 11 (TX4 0).1 (TX4 0).2.1 (TX4 0).2.2.1 ∈ wsX4_keep := by decide +kernel
set_option maxRecDepth 100000 in
theorem fX4_keep_11 : hd_F wsX4_keep RX4 vwCl 4 0 11 := ⟨RX4, TX4, 2, rfl, by decide, uX4_keep_X4, lX4_keep_11⟩
set_option maxRecDepth 100000 in
theorem yX4_keep_X5_takeFrom : yX5_takeFrom.cls = RX5 ∧ yX5_takeFrom.cls ≠ "java/lang/invoke/MethodHandle" ∧ yX5_takeFrom.cls ≠ "java/lang/invoke/VarHandle" ∧ (parseMethodDescriptor yX5_takeFrom.desc).map (fun d => d.parameters.length) = some 1 := by decide +kernel
set_option maxRecDepth 100000 in
theorem qX4_keep_18 : hd_FP wsX4_keep RX4 vwCl 4 1 18 .int := ⟨RX4, TX4, 2, tyX4, rfl, by decide, uX4_keep_X4, lX4_keep_18, tyX4_ok, nmX4, rfl, rfl⟩
def wo_X4_keep : hd_xS := (hd_sQ (hd_sW (hd_cI (fun x y => decide (y ≤ x)) (hd_iG hs_sh 4 1 (hd_rL 0)) (hd_iK (8))) (hd_sN (hd_nV hs_sh 4 (hd_rL 0) 0 hd_v0 wm_X4_dropOldest))) (hd_sQ (hd_sN (hd_nV hs_sh 5 (hd_rA hs_sh 2 (hd_rG hs_sh 4 0 (hd_rL 0)) (hd_iG hs_sh 4 1 (hd_rL 0))) 1 (hd_pR hd_v0 (hd_rL 1)) wm_X5_takeFrom)) (hd_sQ (hd_sG (fun x y => x + y) hs_sh 4 1 (hd_rL 0) (hd_iK (1))) hd_sRV)))
def wm_X4_keep : hd_M := hd_mth 2 wo_X4_keep
set_option maxHeartbeats 4000000 in
set_option maxRecDepth 100000 in
theorem snd_X4_keep : hd_Snd vwCl hs_sh yX4_keep wsX4_keep 2 wm_X4_keep := hd_method (by decide) rfl rfl (by decide) (fun κ C Rk => (hd_seq (p1 := 13) (hd_if (p1 := 9) (p2 := 13) (hd_c_geF C (p1 := 4) (p2 := 6) (tgt := 13) (hd_getI C (p1 := 1) fX4_keep_18 (hd_aload_n C dX4_keep_0) dX4_keep_1) (hd_bipush C dX4_keep_4 (by decide)) dX4_keep_6 (by decide)) (hd_scall (hd_invV C (p1 := 10) (p2 := 10) snd_X4_dropOldest rfl gX4_keep_X4_dropOldest rfl yX4_keep_X4_dropOldest ⟨by decide, by decide⟩ (by decide) (hd_aload_n C dX4_keep_9) hd_av0 dX4_keep_10)) (by decide)) (hd_seq (p1 := 26) (hd_scall (hd_invV C (p1 := 22) (p2 := 23) snd_X5_takeFrom rfl gX4_keep_X5_takeFrom rfl yX4_keep_X5_takeFrom ⟨by decide, by decide⟩ (by decide) (hd_aald2 C (p1 := 17) (p2 := 21) (hd_getR C (p1 := 14) fX4_keep_11 (hd_aload_n C dX4_keep_13) dX4_keep_14) (hd_getI C (p1 := 18) fX4_keep_18 (hd_aload_n C dX4_keep_17) dX4_keep_18) dX4_keep_21) (hd_apR (p1 := 22) (p2 := 23) hd_av0 (hd_aload_n C dX4_keep_22)) dX4_keep_23)) (hd_seq (p1 := 36) (hd_sfld_iadd C (p1 := 27) (p2 := 32) fX4_keep_18 qX4_keep_18 (hd_aload_n C dX4_keep_26) dX4_keep_27 dX4_keep_28 (hd_iconst C dX4_keep_31 (by decide)) dX4_keep_32 dX4_keep_33) (hd_retV C Rk dX4_keep_36)))))
/-! X5_addHall -/
set_option maxRecDepth 100000 in
theorem uX5_addHall_X5 : ∀ w ∈ u_ws RX5 TX5 10, w ∈ wsX5_addHall := by decide +kernel
set_option maxRecDepth 100000 in
theorem lX5_addHall_40 : Cond.fieldLink RX5 40 (TX5 1).1 (TX5 1).2.1 (TX5 1).2.2.1 ∈ wsX5_addHall := by decide +kernel
set_option maxRecDepth 100000 in
theorem fX5_addHall_40 : hd_F wsX5_addHall RX5 vwCl 5 1 40 := ⟨RX5, TX5, 10, rfl, by decide, uX5_addHall_X5, lX5_addHall_40⟩
set_option maxRecDepth 100000 in
theorem qX5_addHall_40 : hd_FP wsX5_addHall RX5 vwCl 5 1 40 .int := ⟨RX5, TX5, 10, tyX5, rfl, by decide, uX5_addHall_X5, lX5_addHall_40, tyX5_ok, nmX5, rfl, rfl⟩
set_option maxRecDepth 100000 in
theorem lX5_addHall_21 : Cond.fieldLink RX5 21 (TX5 5).1 (TX5 5).2.1 (TX5 5).2.2.1 ∈ wsX5_addHall := by decide +kernel
set_option maxRecDepth 100000 in
theorem fX5_addHall_21 : hd_F wsX5_addHall RX5 vwCl 5 5 21 := ⟨RX5, TX5, 10, rfl, by decide, uX5_addHall_X5, lX5_addHall_21⟩
set_option maxRecDepth 100000 in
theorem lX5_addHall_24 : Cond.fieldLink RX5 24 (TX5 6).1 (TX5 6).2.1 (TX5 6).2.2.1 ∈ wsX5_addHall := by decide +kernel
set_option maxRecDepth 100000 in
theorem fX5_addHall_24 : hd_F wsX5_addHall RX5 vwCl 5 6 24 := ⟨RX5, TX5, 10, rfl, by decide, uX5_addHall_X5, lX5_addHall_24⟩
set_option maxRecDepth 100000 in
theorem yX5_addHall_X5_laySheet : yX5_laySheet.cls = RX5 ∧ yX5_laySheet.cls ≠ "java/lang/invoke/MethodHandle" ∧ yX5_laySheet.cls ≠ "java/lang/invoke/VarHandle" ∧ (parseMethodDescriptor yX5_laySheet.desc).map (fun d => d.parameters.length) = some 3 := by decide +kernel
def wo_X5_addHall : hd_xS := (hd_sQ (hd_sI 1 (hd_iG hs_sh 5 1 (hd_rL 0))) (hd_sQ (hd_sG (fun x y => x + y) hs_sh 5 1 (hd_rL 0) (hd_iK (1))) (hd_sQ (hd_sA hs_sh (hd_rG hs_sh 5 5 (hd_rL 0)) (hd_iL 1) (hd_iK (0))) (hd_sQ (hd_sA hs_sh (hd_rG hs_sh 5 6 (hd_rL 0)) (hd_iL 1) (hd_iK (200))) (hd_sQ (hd_sN (hd_nV hs_sh 5 (hd_rL 0) 3 (hd_pI (hd_pI (hd_pI hd_v0 (hd_iL 1)) (hd_iK (-1))) (hd_iK (0))) wm_X5_laySheet)) (hd_sRI (hd_iL 1)))))))
def wm_X5_addHall : hd_M := hd_mth 2 wo_X5_addHall
set_option maxHeartbeats 4000000 in
set_option maxRecDepth 100000 in
theorem snd_X5_addHall : hd_Snd vwCl hs_sh yX5_addHall wsX5_addHall 2 wm_X5_addHall := hd_method (by decide) rfl rfl (by decide) (fun κ C Rk => (hd_seq (p1 := 5) (hd_sistore_n C (p1 := 4) (hd_getI C (p1 := 1) fX5_addHall_40 (hd_aload_n C dX5_addHall_0) dX5_addHall_1) dX5_addHall_4 (by decide)) (hd_seq (p1 := 15) (hd_sfld_iadd C (p1 := 6) (p2 := 11) fX5_addHall_40 qX5_addHall_40 (hd_aload_n C dX5_addHall_5) dX5_addHall_6 dX5_addHall_7 (hd_iconst C dX5_addHall_10 (by decide)) dX5_addHall_11 dX5_addHall_12) (hd_seq (p1 := 22) (hd_siast C (p1 := 19) (p2 := 20) (p3 := 21) (hd_getR C (p1 := 16) fX5_addHall_21 (hd_aload_n C dX5_addHall_15) dX5_addHall_16) (hd_iload_n C dX5_addHall_19) (hd_iconst C dX5_addHall_20 (by decide)) dX5_addHall_21) (hd_seq (p1 := 31) (hd_siast C (p1 := 26) (p2 := 27) (p3 := 30) (hd_getR C (p1 := 23) fX5_addHall_24 (hd_aload_n C dX5_addHall_22) dX5_addHall_23) (hd_iload_n C dX5_addHall_26) (hd_sipush C dX5_addHall_27 (by decide)) dX5_addHall_30) (hd_seq (p1 := 38) (hd_scall (hd_invV C (p1 := 32) (p2 := 35) snd_X5_laySheet rfl gX5_addHall_X5_laySheet rfl yX5_addHall_X5_laySheet ⟨by decide, by decide⟩ (by decide) (hd_aload_n C dX5_addHall_31) (hd_apI (p1 := 34) (p2 := 35) (hd_apI (p1 := 33) (p2 := 34) (hd_apI (p1 := 32) (p2 := 33) hd_av0 (hd_iload_n C dX5_addHall_32)) (hd_iconst C dX5_addHall_33 (by decide))) (hd_iconst C dX5_addHall_34 (by decide))) dX5_addHall_35)) (hd_retI C Rk (p1 := 39) (hd_iload_n C dX5_addHall_38) dX5_addHall_39)))))))
/-! X5_sheets -/
set_option maxRecDepth 100000 in
theorem uX5_sheets_X5 : ∀ w ∈ u_ws RX5 TX5 10, w ∈ wsX5_sheets := by decide +kernel
set_option maxRecDepth 100000 in
theorem lX5_sheets_40 : Cond.fieldLink RX5 40 (TX5 1).1 (TX5 1).2.1 (TX5 1).2.2.1 ∈ wsX5_sheets := by decide +kernel
set_option maxRecDepth 100000 in
theorem fX5_sheets_40 : hd_F wsX5_sheets RX5 vwCl 5 1 40 := ⟨RX5, TX5, 10, rfl, by decide, uX5_sheets_X5, lX5_sheets_40⟩
set_option maxRecDepth 100000 in
theorem yX5_sheets_X5_isMissing : yX5_isMissing.cls = RX5 ∧ yX5_isMissing.cls ≠ "java/lang/invoke/MethodHandle" ∧ yX5_isMissing.cls ≠ "java/lang/invoke/VarHandle" ∧ (parseMethodDescriptor yX5_isMissing.desc).map (fun d => d.parameters.length) = some 1 := by decide +kernel
def wc_X5_sheets_4 : hd_xC := (hd_cI (fun x y => decide (x < y)) (hd_iL 2) (hd_iG hs_sh 5 1 (hd_rL 0)))
def wb_X5_sheets_4 : hd_xS := (hd_sQ (hd_sI 1 (hd_iB (fun x y => x + y) (hd_iL 1) (hd_iQ (hd_c0 (fun x => !decide (x = 0)) (hd_iN (hd_nV hs_sh 5 (hd_rL 0) 1 (hd_pI hd_v0 (hd_iL 2)) wm_X5_isMissing))) (hd_iK (0)) (hd_iK (1))))) (hd_sP 2 (1)))
def wo_X5_sheets : hd_xS := (hd_sQ (hd_sI 1 (hd_iK (0))) (hd_sQ (hd_sQ (hd_sI 2 (hd_iK (0))) (hd_sH (wc_X5_sheets_4) (wb_X5_sheets_4))) (hd_sRI (hd_iL 1))))
def wm_X5_sheets : hd_M := hd_mth 3 wo_X5_sheets
set_option maxHeartbeats 4000000 in
set_option maxRecDepth 100000 in
theorem snd_X5_sheets : hd_Snd vwCl hs_sh yX5_sheets wsX5_sheets 2 wm_X5_sheets := hd_method (by decide) rfl rfl (by decide) (fun κ C Rk => (hd_seq (p1 := 2) (hd_sistore_n C (p1 := 1) (hd_iconst C dX5_sheets_0 (by decide)) dX5_sheets_1 (by decide)) (hd_seq (p1 := 34) (hd_seq (p1 := 4) (hd_sistore_n C (p1 := 3) (hd_iconst C dX5_sheets_2 (by decide)) dX5_sheets_3 (by decide)) (hd_loop C (p1 := 12) (p2 := 34) (hd_c_ltF C (p1 := 5) (p2 := 9) (tgt := 34) (hd_iload_n C dX5_sheets_4) (hd_getI C (p1 := 6) fX5_sheets_40 (hd_aload_n C dX5_sheets_5) dX5_sheets_6) dX5_sheets_9 (by decide)) (hd_seq (p1 := 28) (hd_sistore_n C (p1 := 27) (hd_iadd C (p1 := 13) (p2 := 26) (hd_iload_n C dX5_sheets_12) (hd_tnI C (p1 := 21) (p2 := 22) (p3 := 25) (p4 := 26) (hd_z_neF C (p2 := 18) (tgt := 25) (hd_inI (hd_invV C (p1 := 14) (p2 := 15) snd_X5_isMissing rfl gX5_sheets_X5_isMissing rfl yX5_sheets_X5_isMissing ⟨by decide, by decide⟩ (by decide) (hd_aload_n C dX5_sheets_13) (hd_apI (p1 := 14) (p2 := 15) hd_av0 (hd_iload_n C dX5_sheets_14)) dX5_sheets_15)) dX5_sheets_18 (by decide)) (hd_iconst C dX5_sheets_21 (by decide)) dX5_sheets_22 (by decide) (hd_iconst C dX5_sheets_25 (by decide))) dX5_sheets_26) dX5_sheets_27 (by decide)) (hd_sgoto C (p1 := 31) (tgt := 4) (hd_ends (es := [31]) (by decide) (hd_siinc C dX5_sheets_28 (by decide) (by decide))) dX5_sheets_31 (by decide) (by decide))) (by decide))) (hd_retI C Rk (p1 := 35) (hd_iload_n C dX5_sheets_34) dX5_sheets_35))))
