/-! X9_goFrom -/
set_option maxRecDepth 100000 in
theorem uX9_goFrom_X9 : ∀ w ∈ u_ws RX9 TX9 28, w ∈ wsX9_goFrom := by decide +kernel
set_option maxRecDepth 100000 in
theorem lX9_goFrom_68 : Cond.fieldLink RX9 68 (TX9 1).1 (TX9 1).2.1 (TX9 1).2.2.1 ∈ wsX9_goFrom := by decide +kernel
set_option maxRecDepth 100000 in
theorem fX9_goFrom_68 : hd_F wsX9_goFrom RX9 vwCl 9 1 68 := ⟨RX9, TX9, 28, rfl, by decide, uX9_goFrom_X9, lX9_goFrom_68⟩
set_option maxRecDepth 100000 in
theorem lX9_goFrom_7 : Cond.fieldLink RX9 7 (TX9 3).1 (TX9 3).2.1 (TX9 3).2.2.1 ∈ wsX9_goFrom := by decide +kernel
set_option maxRecDepth 100000 in
theorem fX9_goFrom_7 : hd_F wsX9_goFrom RX9 vwCl 9 3 7 := ⟨RX9, TX9, 28, rfl, by decide, uX9_goFrom_X9, lX9_goFrom_7⟩
set_option maxRecDepth 100000 in
theorem lX9_goFrom_84 : Cond.fieldLink RX9 84 (TX9 14).1 (TX9 14).2.1 (TX9 14).2.2.1 ∈ wsX9_goFrom := by decide +kernel
set_option maxRecDepth 100000 in
theorem fX9_goFrom_84 : hd_F wsX9_goFrom RX9 vwCl 9 14 84 := ⟨RX9, TX9, 28, rfl, by decide, uX9_goFrom_X9, lX9_goFrom_84⟩
set_option maxRecDepth 100000 in
theorem yX9_goFrom_X9_nearest : yX9_nearest.cls = RX9 ∧ yX9_nearest.cls ≠ "java/lang/invoke/MethodHandle" ∧ yX9_nearest.cls ≠ "java/lang/invoke/VarHandle" ∧ (parseMethodDescriptor yX9_nearest.desc).map (fun d => d.parameters.length) = some 2 := by decide +kernel
set_option maxRecDepth 100000 in
theorem yX9_goFrom_X9_wayOf : yX9_wayOf.cls = RX9 ∧ yX9_wayOf.cls ≠ "java/lang/invoke/MethodHandle" ∧ yX9_wayOf.cls ≠ "java/lang/invoke/VarHandle" ∧ (parseMethodDescriptor yX9_wayOf.desc).map (fun d => d.parameters.length) = some 2 := by decide +kernel
set_option maxRecDepth 100000 in
theorem lX9_goFrom_71 : Cond.fieldLink RX9 71 (TX9 2).1 (TX9 2).2.1 (TX9 2).2.2.1 ∈ wsX9_goFrom := by decide +kernel
set_option maxRecDepth 100000 in
theorem fX9_goFrom_71 : hd_F wsX9_goFrom RX9 vwCl 9 2 71 := ⟨RX9, TX9, 28, rfl, by decide, uX9_goFrom_X9, lX9_goFrom_71⟩
set_option maxRecDepth 100000 in
theorem yX9_goFrom_X9_has : yX9_has.cls ≠ "java/lang/invoke/MethodHandle" ∧ yX9_has.cls ≠ "java/lang/invoke/VarHandle" ∧ (parseMethodDescriptor yX9_has.desc).map (fun d => d.parameters.length) = some 2 := by decide +kernel
set_option maxRecDepth 100000 in
theorem lX9_goFrom_49 : Cond.fieldLink RX9 49 (TX9 20).1 (TX9 20).2.1 (TX9 20).2.2.1 ∈ wsX9_goFrom := by decide +kernel
set_option maxRecDepth 100000 in
theorem fX9_goFrom_49 : hd_F wsX9_goFrom RX9 vwCl 9 20 49 := ⟨RX9, TX9, 28, rfl, by decide, uX9_goFrom_X9, lX9_goFrom_49⟩
set_option maxRecDepth 100000 in
theorem lX9_goFrom_22 : Cond.fieldLink RX9 22 (TX9 7).1 (TX9 7).2.1 (TX9 7).2.2.1 ∈ wsX9_goFrom := by decide +kernel
set_option maxRecDepth 100000 in
theorem fX9_goFrom_22 : hd_F wsX9_goFrom RX9 vwCl 9 7 22 := ⟨RX9, TX9, 28, rfl, by decide, uX9_goFrom_X9, lX9_goFrom_22⟩
set_option maxRecDepth 100000 in
theorem lX9_goFrom_46 : Cond.fieldLink RX9 46 (TX9 19).1 (TX9 19).2.1 (TX9 19).2.2.1 ∈ wsX9_goFrom := by decide +kernel
set_option maxRecDepth 100000 in
theorem fX9_goFrom_46 : hd_F wsX9_goFrom RX9 vwCl 9 19 46 := ⟨RX9, TX9, 28, rfl, by decide, uX9_goFrom_X9, lX9_goFrom_46⟩
set_option maxRecDepth 100000 in
theorem yX9_goFrom_X9_goFrom : yX9_goFrom.cls = RX9 ∧ yX9_goFrom.cls ≠ "java/lang/invoke/MethodHandle" ∧ yX9_goFrom.cls ≠ "java/lang/invoke/VarHandle" ∧ (parseMethodDescriptor yX9_goFrom.desc).map (fun d => d.parameters.length) = some 2 := by decide +kernel
def wc_X9_goFrom_23 (w : hd_M) : hd_xC := (hd_cI (fun x y => decide (x < y)) (hd_iL 4) (hd_iG hs_sh 9 1 (hd_rL 0)))
def wb_X9_goFrom_23 (w : hd_M) : hd_xS := (hd_sQ (hd_sI 3 (hd_iB (fun x y => x + y) (hd_iL 3) (hd_iB (fun x y => x * y) (hd_iA hs_sh (hd_rG hs_sh 9 3 (hd_rL 0)) (hd_iL 4)) (hd_iN (hd_nV hs_sh 9 (hd_rL 0) 2 (hd_pI (hd_pI hd_v0 (hd_iN (hd_nV hs_sh 9 (hd_rL 0) 2 (hd_pI (hd_pI hd_v0 (hd_iG hs_sh 9 14 (hd_rL 0))) (hd_iL 4)) wm_X9_nearest))) (hd_iL 4)) wm_X9_wayOf))))) (hd_sP 4 (1)))
def wc_X9_goFrom_75 (w : hd_M) : hd_xC := (hd_cI (fun x y => decide (x < y)) (hd_iL 4) (hd_iG hs_sh 9 2 (hd_rL 0)))
def wb_X9_goFrom_75 (w : hd_M) : hd_xS := (hd_sQ (hd_sW (hd_cA (hd_c0 (fun x => !decide (x = 0)) (hd_iN (hd_nS 2 (hd_pI (hd_pI hd_v0 (hd_iG hs_sh 9 14 (hd_rL 0))) (hd_iL 4)) wm_X9_has))) (hd_cI (fun x y => decide (x ≤ y)) (hd_iB (fun x y => x + y) (hd_iA hs_sh (hd_rG hs_sh 9 20 (hd_rL 0)) (hd_iL 4)) (hd_iA hs_sh (hd_rG hs_sh 9 3 (hd_rL 0)) (hd_iL 1))) (hd_iA hs_sh (hd_rG hs_sh 9 7 (hd_rL 0)) (hd_iL 4)))) (hd_sQ (hd_sA hs_sh (hd_rG hs_sh 9 19 (hd_rL 0)) (hd_iL 1) (hd_iL 4)) (hd_sQ (hd_sO (fun x y => x + y) hs_sh (hd_rG hs_sh 9 20 (hd_rL 0)) (hd_iL 4) (hd_iA hs_sh (hd_rG hs_sh 9 3 (hd_rL 0)) (hd_iL 1))) (hd_sQ (hd_sI 5 (hd_iN (hd_nV hs_sh 9 (hd_rL 0) 2 (hd_pI (hd_pI hd_v0 (hd_iB (fun x y => x + y) (hd_iL 1) (hd_iK (1)))) (hd_iB (fun x y => x - y) (hd_iL 2) (hd_iB (fun x y => x * y) (hd_iA hs_sh (hd_rG hs_sh 9 3 (hd_rL 0)) (hd_iL 1)) (hd_iN (hd_nV hs_sh 9 (hd_rL 0) 2 (hd_pI (hd_pI hd_v0 (hd_iL 4)) (hd_iL 1)) wm_X9_wayOf))))) w))) (hd_sQ (hd_sO (fun x y => x - y) hs_sh (hd_rG hs_sh 9 20 (hd_rL 0)) (hd_iL 4) (hd_iA hs_sh (hd_rG hs_sh 9 3 (hd_rL 0)) (hd_iL 1))) (hd_sW (hd_c0 (fun x => !decide (x = 0)) (hd_iL 5)) (hd_sRZ (hd_iK (1))))))))) (hd_sP 4 (1)))
def wo_X9_goFrom (w : hd_M) : hd_xS := (hd_sQ (hd_sW (hd_cI (fun x y => decide (x = y)) (hd_iL 1) (hd_iG hs_sh 9 1 (hd_rL 0))) (hd_sRZ (hd_iC (hd_c0 (fun x => decide (x = 0)) (hd_iL 2))))) (hd_sQ (hd_sI 3 (hd_iK (0))) (hd_sQ (hd_sQ (hd_sI 4 (hd_iL 1)) (hd_sH (wc_X9_goFrom_23 w) (wb_X9_goFrom_23 w))) (hd_sQ (hd_sW (hd_cI (fun x y => decide (y < x)) (hd_iL 3) (hd_iL 2)) (hd_sRZ (hd_iK (0)))) (hd_sQ (hd_sQ (hd_sI 4 (hd_iK (0))) (hd_sH (wc_X9_goFrom_75 w) (wb_X9_goFrom_75 w))) (hd_sRZ (hd_iK (0))))))))
def wm_X9_goFrom : Nat → hd_M
  | 0 => fun _ _ _ => False
  | n + 1 => hd_mth 6 (wo_X9_goFrom (wm_X9_goFrom n))
set_option maxHeartbeats 4000000 in
set_option maxRecDepth 100000 in
theorem snd_X9_goFrom : ∀ n : Nat, hd_Snd vwCl hs_sh yX9_goFrom wsX9_goFrom (3 + n) (wm_X9_goFrom n)
  | 0 => fun _ _ _ _ _ _ _ _ _ _ h => h.elim
  | n + 1 => by
    have ih := snd_X9_goFrom n
    exact hd_method (by decide) rfl rfl (by omega) (fun κ C Rk => (hd_seq (p1 := 18) (hd_if (p1 := 8) (p2 := 18) (hd_c_eqF C (p1 := 1) (p2 := 5) (tgt := 18) (hd_iload_n C dX9_goFrom_0) (hd_getI C (p1 := 2) fX9_goFrom_68 (hd_aload_n C dX9_goFrom_1) dX9_goFrom_2) dX9_goFrom_5 (by decide)) (hd_retZ C Rk (p1 := 17) (hd_boC C (p1 := 12) (p3 := 16) (p4 := 17) (hd_z_eqF C (p2 := 9) (tgt := 16) (hd_iload_n C dX9_goFrom_8) dX9_goFrom_9 (by decide)) dX9_goFrom_12 dX9_goFrom_13 (by decide) dX9_goFrom_16 rfl) dX9_goFrom_17) (by decide)) (hd_seq (p1 := 20) (hd_sistore_n C (p1 := 19) (hd_iconst C dX9_goFrom_18 (by decide)) dX9_goFrom_19 (by decide)) (hd_seq (p1 := 65) (hd_seq (p1 := 23) (hd_sistore C (p1 := 21) (hd_iload_n C dX9_goFrom_20) dX9_goFrom_21 (by decide)) (hd_loop C (p1 := 32) (p2 := 65) (hd_c_ltF C (p1 := 25) (p2 := 29) (tgt := 65) (hd_iload C dX9_goFrom_23) (hd_getI C (p1 := 26) fX9_goFrom_68 (hd_aload_n C dX9_goFrom_25) dX9_goFrom_26) dX9_goFrom_29 (by decide)) (hd_seq (p1 := 59) (hd_sistore_n C (p1 := 58) (hd_iadd C (p1 := 33) (p2 := 57) (hd_iload_n C dX9_goFrom_32) (hd_imul C (p1 := 40) (p2 := 56) (hd_iald C (p1 := 37) (p2 := 39) (hd_getR C (p1 := 34) fX9_goFrom_7 (hd_aload_n C dX9_goFrom_33) dX9_goFrom_34) (hd_iload C dX9_goFrom_37) dX9_goFrom_39) (hd_inI (hd_invV C (p1 := 41) (p2 := 53) snd_X9_wayOf rfl gX9_goFrom_X9_wayOf rfl yX9_goFrom_X9_wayOf ⟨by omega, by decide⟩ (by decide) (hd_aload_n C dX9_goFrom_40) (hd_apI (p1 := 51) (p2 := 53) (hd_apI (p1 := 41) (p2 := 51) hd_av0 (hd_inI (hd_invV C (p1 := 42) (p2 := 48) snd_X9_nearest rfl gX9_goFrom_X9_nearest rfl yX9_goFrom_X9_nearest ⟨by omega, by decide⟩ (by decide) (hd_aload_n C dX9_goFrom_41) (hd_apI (p1 := 46) (p2 := 48) (hd_apI (p1 := 42) (p2 := 46) hd_av0 (hd_getI C (p1 := 43) fX9_goFrom_84 (hd_aload_n C dX9_goFrom_42) dX9_goFrom_43)) (hd_iload C dX9_goFrom_46)) dX9_goFrom_48))) (hd_iload C dX9_goFrom_51)) dX9_goFrom_53)) dX9_goFrom_56) dX9_goFrom_57) dX9_goFrom_58 (by decide)) (hd_sgoto C (p1 := 62) (tgt := 23) (hd_ends (es := [62]) (by decide) (hd_siinc C dX9_goFrom_59 (by decide) (by decide))) dX9_goFrom_62 (by decide) (by decide))) (by decide))) (hd_seq (p1 := 72) (hd_if (p1 := 70) (p2 := 72) (hd_c_gtF C (p1 := 66) (p2 := 67) (tgt := 72) (hd_iload_n C dX9_goFrom_65) (hd_iload_n C dX9_goFrom_66) dX9_goFrom_67 (by decide)) (hd_retZ C Rk (p1 := 71) (hd_iconst C dX9_goFrom_70 (by decide)) dX9_goFrom_71) (by decide)) (hd_seq (p1 := 198) (hd_seq (p1 := 75) (hd_sistore C (p1 := 73) (hd_iconst C dX9_goFrom_72 (by decide)) dX9_goFrom_73 (by decide)) (hd_loop C (p1 := 84) (p2 := 198) (hd_c_ltF C (p1 := 77) (p2 := 81) (tgt := 198) (hd_iload C dX9_goFrom_75) (hd_getI C (p1 := 78) fX9_goFrom_71 (hd_aload_n C dX9_goFrom_77) dX9_goFrom_78) dX9_goFrom_81 (by decide)) (hd_seq (p1 := 192) (hd_if (p1 := 120) (p2 := 192) (hd_and (p1 := 96) (p2 := 120) (p3 := 192) (hd_z_neF C (p2 := 93) (tgt := 192) (hd_inI (hd_invS C (p2 := 90) snd_X9_has rfl gX9_goFrom_X9_has yX9_goFrom_X9_has ⟨by omega, by decide⟩ (by decide) (hd_apI (p1 := 88) (p2 := 90) (hd_apI (p1 := 84) (p2 := 88) hd_av0 (hd_getI C (p1 := 85) fX9_goFrom_84 (hd_aload_n C dX9_goFrom_84) dX9_goFrom_85)) (hd_iload C dX9_goFrom_88)) dX9_goFrom_90)) dX9_goFrom_93 (by decide)) (hd_c_leF C (p1 := 110) (p2 := 117) (tgt := 192) (hd_iadd C (p1 := 103) (p2 := 109) (hd_iald C (p1 := 100) (p2 := 102) (hd_getR C (p1 := 97) fX9_goFrom_49 (hd_aload_n C dX9_goFrom_96) dX9_goFrom_97) (hd_iload C dX9_goFrom_100) dX9_goFrom_102) (hd_iald C (p1 := 107) (p2 := 108) (hd_getR C (p1 := 104) fX9_goFrom_7 (hd_aload_n C dX9_goFrom_103) dX9_goFrom_104) (hd_iload_n C dX9_goFrom_107) dX9_goFrom_108) dX9_goFrom_109) (hd_iald C (p1 := 114) (p2 := 116) (hd_getR C (p1 := 111) fX9_goFrom_22 (hd_aload_n C dX9_goFrom_110) dX9_goFrom_111) (hd_iload C dX9_goFrom_114) dX9_goFrom_116) dX9_goFrom_117 (by decide))) (hd_seq (p1 := 128) (hd_siast C (p1 := 124) (p2 := 125) (p3 := 127) (hd_getR C (p1 := 121) fX9_goFrom_46 (hd_aload_n C dX9_goFrom_120) dX9_goFrom_121) (hd_iload_n C dX9_goFrom_124) (hd_iload C dX9_goFrom_125) dX9_goFrom_127) (hd_seq (p1 := 144) (hd_sarr_iadd C (p1 := 132) (p2 := 134) (p3 := 142) (hd_getR C (p1 := 129) fX9_goFrom_49 (hd_aload_n C dX9_goFrom_128) dX9_goFrom_129) (hd_iload C dX9_goFrom_132) dX9_goFrom_134 dX9_goFrom_135 (hd_iald C (p1 := 140) (p2 := 141) (hd_getR C (p1 := 137) fX9_goFrom_7 (hd_aload_n C dX9_goFrom_136) dX9_goFrom_137) (hd_iload_n C dX9_goFrom_140) dX9_goFrom_141) dX9_goFrom_142 dX9_goFrom_143) (hd_seq (p1 := 169) (hd_sistore C (p1 := 167) (hd_inI (hd_invV C (p1 := 145) (p2 := 164) ih rfl gX9_goFrom_X9_goFrom rfl yX9_goFrom_X9_goFrom ⟨Nat.le_refl _, by decide⟩ (by decide) (hd_aload_n C dX9_goFrom_144) (hd_apI (p1 := 148) (p2 := 164) (hd_apI (p1 := 145) (p2 := 148) hd_av0 (hd_iadd C (p1 := 146) (p2 := 147) (hd_iload_n C dX9_goFrom_145) (hd_iconst C dX9_goFrom_146 (by decide)) dX9_goFrom_147)) (hd_isub C (p1 := 149) (p2 := 163) (hd_iload_n C dX9_goFrom_148) (hd_imul C (p1 := 155) (p2 := 162) (hd_iald C (p1 := 153) (p2 := 154) (hd_getR C (p1 := 150) fX9_goFrom_7 (hd_aload_n C dX9_goFrom_149) dX9_goFrom_150) (hd_iload_n C dX9_goFrom_153) dX9_goFrom_154) (hd_inI (hd_invV C (p1 := 156) (p2 := 159) snd_X9_wayOf rfl gX9_goFrom_X9_wayOf rfl yX9_goFrom_X9_wayOf ⟨by omega, by decide⟩ (by decide) (hd_aload_n C dX9_goFrom_155) (hd_apI (p1 := 158) (p2 := 159) (hd_apI (p1 := 156) (p2 := 158) hd_av0 (hd_iload C dX9_goFrom_156)) (hd_iload_n C dX9_goFrom_158)) dX9_goFrom_159)) dX9_goFrom_162) dX9_goFrom_163)) dX9_goFrom_164)) dX9_goFrom_167 (by decide)) (hd_seq (p1 := 185) (hd_sarr_isub C (p1 := 173) (p2 := 175) (p3 := 183) (hd_getR C (p1 := 170) fX9_goFrom_49 (hd_aload_n C dX9_goFrom_169) dX9_goFrom_170) (hd_iload C dX9_goFrom_173) dX9_goFrom_175 dX9_goFrom_176 (hd_iald C (p1 := 181) (p2 := 182) (hd_getR C (p1 := 178) fX9_goFrom_7 (hd_aload_n C dX9_goFrom_177) dX9_goFrom_178) (hd_iload_n C dX9_goFrom_181) dX9_goFrom_182) dX9_goFrom_183 dX9_goFrom_184) (hd_if (p1 := 190) (p2 := 192) (hd_z_neF C (p2 := 187) (tgt := 192) (hd_iload C dX9_goFrom_185) dX9_goFrom_187 (by decide)) (hd_retZ C Rk (p1 := 191) (hd_iconst C dX9_goFrom_190 (by decide)) dX9_goFrom_191) (by decide)))))) (by decide)) (hd_sgoto C (p1 := 195) (tgt := 75) (hd_ends (es := [195]) (by decide) (hd_siinc C dX9_goFrom_192 (by decide) (by decide))) dX9_goFrom_195 (by decide) (by decide))) (by decide))) (hd_retZ C Rk (p1 := 199) (hd_iconst C dX9_goFrom_198 (by decide)) dX9_goFrom_199)))))))
/-! X9_hall -/
set_option maxRecDepth 100000 in
theorem uX9_hall_X9 : ∀ w ∈ u_ws RX9 TX9 28, w ∈ wsX9_hall := by decide +kernel
set_option maxRecDepth 100000 in
theorem lX9_hall_58 : Cond.fieldLink RX9 58 (TX9 0).1 (TX9 0).2.1 (TX9 0).2.2.1 ∈ wsX9_hall := by decide +kernel
set_option maxRecDepth 100000 in
theorem qX9_hall_58 : hd_FP wsX9_hall RX9 vwCl 9 0 58 .int := ⟨RX9, TX9, 28, tyX9, rfl, by decide, uX9_hall_X9, lX9_hall_58, tyX9_ok, nmX9, rfl, rfl⟩
set_option maxRecDepth 100000 in
theorem lX9_hall_71 : Cond.fieldLink RX9 71 (TX9 2).1 (TX9 2).2.1 (TX9 2).2.2.1 ∈ wsX9_hall := by decide +kernel
set_option maxRecDepth 100000 in
theorem fX9_hall_71 : hd_F wsX9_hall RX9 vwCl 9 2 71 := ⟨RX9, TX9, 28, rfl, by decide, uX9_hall_X9, lX9_hall_71⟩
set_option maxRecDepth 100000 in
theorem yX9_hall_X9_keep : yX9_keep.cls = RX9 ∧ yX9_keep.cls ≠ "java/lang/invoke/MethodHandle" ∧ yX9_keep.cls ≠ "java/lang/invoke/VarHandle" ∧ (parseMethodDescriptor yX9_keep.desc).map (fun d => d.parameters.length) = some 0 := by decide +kernel
set_option maxRecDepth 100000 in
theorem lX9_hall_19 : Cond.fieldLink RX9 19 (TX9 6).1 (TX9 6).2.1 (TX9 6).2.2.1 ∈ wsX9_hall := by decide +kernel
set_option maxRecDepth 100000 in
theorem fX9_hall_19 : hd_F wsX9_hall RX9 vwCl 9 6 19 := ⟨RX9, TX9, 28, rfl, by decide, uX9_hall_X9, lX9_hall_19⟩
set_option maxRecDepth 100000 in
theorem lX9_hall_22 : Cond.fieldLink RX9 22 (TX9 7).1 (TX9 7).2.1 (TX9 7).2.2.1 ∈ wsX9_hall := by decide +kernel
set_option maxRecDepth 100000 in
theorem fX9_hall_22 : hd_F wsX9_hall RX9 vwCl 9 7 22 := ⟨RX9, TX9, 28, rfl, by decide, uX9_hall_X9, lX9_hall_22⟩
set_option maxRecDepth 100000 in
theorem lX9_hall_25 : Cond.fieldLink RX9 25 (TX9 8).1 (TX9 8).2.1 (TX9 8).2.2.1 ∈ wsX9_hall := by decide +kernel
set_option maxRecDepth 100000 in
theorem fX9_hall_25 : hd_F wsX9_hall RX9 vwCl 9 8 25 := ⟨RX9, TX9, 28, rfl, by decide, uX9_hall_X9, lX9_hall_25⟩
set_option maxRecDepth 100000 in
theorem lX9_hall_28 : Cond.fieldLink RX9 28 (TX9 9).1 (TX9 9).2.1 (TX9 9).2.2.1 ∈ wsX9_hall := by decide +kernel
set_option maxRecDepth 100000 in
theorem fX9_hall_28 : hd_F wsX9_hall RX9 vwCl 9 9 28 := ⟨RX9, TX9, 28, rfl, by decide, uX9_hall_X9, lX9_hall_28⟩
set_option maxRecDepth 100000 in
theorem qX9_hall_71 : hd_FP wsX9_hall RX9 vwCl 9 2 71 .int := ⟨RX9, TX9, 28, tyX9, rfl, by decide, uX9_hall_X9, lX9_hall_71, tyX9_ok, nmX9, rfl, rfl⟩
def wo_X9_hall : hd_xS := (hd_sQ (hd_sF hs_sh 9 0 (hd_rL 0) (hd_iK (0))) (hd_sQ (hd_sW (hd_cI (fun x y => decide (x = y)) (hd_iG hs_sh 9 2 (hd_rL 0)) (hd_iK (7))) (hd_sRI (hd_iK (-5)))) (hd_sQ (hd_sN (hd_nV hs_sh 9 (hd_rL 0) 0 hd_v0 wm_X9_keep)) (hd_sQ (hd_sA hs_sh (hd_rG hs_sh 9 6 (hd_rL 0)) (hd_iG hs_sh 9 2 (hd_rL 0)) (hd_iK (0))) (hd_sQ (hd_sA hs_sh (hd_rG hs_sh 9 7 (hd_rL 0)) (hd_iG hs_sh 9 2 (hd_rL 0)) (hd_iK (200))) (hd_sQ (hd_sA hs_sh (hd_rG hs_sh 9 8 (hd_rL 0)) (hd_iG hs_sh 9 2 (hd_rL 0)) (hd_iK (-1))) (hd_sQ (hd_sA hs_sh (hd_rG hs_sh 9 9 (hd_rL 0)) (hd_iG hs_sh 9 2 (hd_rL 0)) (hd_iK (0))) (hd_sQ (hd_sG (fun x y => x + y) hs_sh 9 2 (hd_rL 0) (hd_iK (1))) (hd_sRI (hd_iB (fun x y => x - y) (hd_iG hs_sh 9 2 (hd_rL 0)) (hd_iK (1))))))))))))
def wm_X9_hall : hd_M := hd_mth 1 wo_X9_hall
set_option maxHeartbeats 4000000 in
set_option maxRecDepth 100000 in
theorem snd_X9_hall : hd_Snd vwCl hs_sh yX9_hall wsX9_hall 3 wm_X9_hall := hd_method (by decide) rfl rfl (by decide) (fun κ C Rk => (hd_seq (p1 := 5) (hd_sputI C (p1 := 1) (p2 := 2) qX9_hall_58 (hd_aload_n C dX9_hall_0) (hd_iconst C dX9_hall_1 (by decide)) dX9_hall_2) (hd_seq (p1 := 17) (hd_if (p1 := 14) (p2 := 17) (hd_c_eqF C (p1 := 9) (p2 := 11) (tgt := 17) (hd_getI C (p1 := 6) fX9_hall_71 (hd_aload_n C dX9_hall_5) dX9_hall_6) (hd_bipush C dX9_hall_9 (by decide)) dX9_hall_11 (by decide)) (hd_retI C Rk (p1 := 16) (hd_bipush C dX9_hall_14 (by decide)) dX9_hall_16) (by decide)) (hd_seq (p1 := 21) (hd_scall (hd_invV C (p1 := 18) (p2 := 18) snd_X9_keep rfl gX9_hall_X9_keep rfl yX9_hall_X9_keep ⟨by decide, by decide⟩ (by decide) (hd_aload_n C dX9_hall_17) hd_av0 dX9_hall_18)) (hd_seq (p1 := 31) (hd_siast C (p1 := 25) (p2 := 29) (p3 := 30) (hd_getR C (p1 := 22) fX9_hall_19 (hd_aload_n C dX9_hall_21) dX9_hall_22) (hd_getI C (p1 := 26) fX9_hall_71 (hd_aload_n C dX9_hall_25) dX9_hall_26) (hd_iconst C dX9_hall_29 (by decide)) dX9_hall_30) (hd_seq (p1 := 43) (hd_siast C (p1 := 35) (p2 := 39) (p3 := 42) (hd_getR C (p1 := 32) fX9_hall_22 (hd_aload_n C dX9_hall_31) dX9_hall_32) (hd_getI C (p1 := 36) fX9_hall_71 (hd_aload_n C dX9_hall_35) dX9_hall_36) (hd_sipush C dX9_hall_39 (by decide)) dX9_hall_42) (hd_seq (p1 := 53) (hd_siast C (p1 := 47) (p2 := 51) (p3 := 52) (hd_getR C (p1 := 44) fX9_hall_25 (hd_aload_n C dX9_hall_43) dX9_hall_44) (hd_getI C (p1 := 48) fX9_hall_71 (hd_aload_n C dX9_hall_47) dX9_hall_48) (hd_iconst C dX9_hall_51 (by decide)) dX9_hall_52) (hd_seq (p1 := 63) (hd_siast C (p1 := 57) (p2 := 61) (p3 := 62) (hd_getR C (p1 := 54) fX9_hall_28 (hd_aload_n C dX9_hall_53) dX9_hall_54) (hd_getI C (p1 := 58) fX9_hall_71 (hd_aload_n C dX9_hall_57) dX9_hall_58) (hd_iconst C dX9_hall_61 (by decide)) dX9_hall_62) (hd_seq (p1 := 73) (hd_sfld_iadd C (p1 := 64) (p2 := 69) fX9_hall_71 qX9_hall_71 (hd_aload_n C dX9_hall_63) dX9_hall_64 dX9_hall_65 (hd_iconst C dX9_hall_68 (by decide)) dX9_hall_69 dX9_hall_70) (hd_retI C Rk (p1 := 79) (hd_isub C (p1 := 77) (p2 := 78) (hd_getI C (p1 := 74) fX9_hall_71 (hd_aload_n C dX9_hall_73) dX9_hall_74) (hd_iconst C dX9_hall_77 (by decide)) dX9_hall_78) dX9_hall_79))))))))))
/-! X9_holds -/
set_option maxRecDepth 100000 in
theorem uX9_holds_X9 : ∀ w ∈ u_ws RX9 TX9 28, w ∈ wsX9_holds := by decide +kernel
set_option maxRecDepth 100000 in
theorem lX9_holds_58 : Cond.fieldLink RX9 58 (TX9 0).1 (TX9 0).2.1 (TX9 0).2.2.1 ∈ wsX9_holds := by decide +kernel
set_option maxRecDepth 100000 in
theorem qX9_holds_58 : hd_FP wsX9_holds RX9 vwCl 9 0 58 .int := ⟨RX9, TX9, 28, tyX9, rfl, by decide, uX9_holds_X9, lX9_holds_58, tyX9_ok, nmX9, rfl, rfl⟩
set_option maxRecDepth 100000 in
theorem yX9_holds_X9_notHeld : yX9_notHeld.cls = RX9 ∧ yX9_notHeld.cls ≠ "java/lang/invoke/MethodHandle" ∧ yX9_notHeld.cls ≠ "java/lang/invoke/VarHandle" ∧ (parseMethodDescriptor yX9_notHeld.desc).map (fun d => d.parameters.length) = some 0 := by decide +kernel
set_option maxRecDepth 100000 in
theorem yX9_holds_X9_allTowns : yX9_allTowns.cls = RX9 ∧ yX9_allTowns.cls ≠ "java/lang/invoke/MethodHandle" ∧ yX9_allTowns.cls ≠ "java/lang/invoke/VarHandle" ∧ (parseMethodDescriptor yX9_allTowns.desc).map (fun d => d.parameters.length) = some 0 := by decide +kernel
set_option maxRecDepth 100000 in
theorem yX9_holds_X9_together : yX9_together.cls = RX9 ∧ yX9_together.cls ≠ "java/lang/invoke/MethodHandle" ∧ yX9_together.cls ≠ "java/lang/invoke/VarHandle" ∧ (parseMethodDescriptor yX9_together.desc).map (fun d => d.parameters.length) = some 1 := by decide +kernel
def wo_X9_holds : hd_xS := (hd_sQ (hd_sF hs_sh 9 0 (hd_rL 0) (hd_iK (0))) (hd_sQ (hd_sI 1 (hd_iN (hd_nV hs_sh 9 (hd_rL 0) 0 hd_v0 wm_X9_notHeld))) (hd_sRI (hd_iQ (hd_cI (fun x y => decide (x = y)) (hd_iL 1) (hd_iK (-1))) (hd_iN (hd_nV hs_sh 9 (hd_rL 0) 1 (hd_pI hd_v0 (hd_iN (hd_nV hs_sh 9 (hd_rL 0) 0 hd_v0 wm_X9_allTowns))) wm_X9_together)) (hd_iB (fun x y => x - y) (hd_iK (-100)) (hd_iL 1))))))
def wm_X9_holds : hd_M := hd_mth 2 wo_X9_holds
set_option maxHeartbeats 4000000 in
set_option maxRecDepth 100000 in
theorem snd_X9_holds : hd_Snd vwCl hs_sh yX9_holds wsX9_holds 3 wm_X9_holds := hd_method (by decide) rfl rfl (by decide) (fun κ C Rk => (hd_seq (p1 := 5) (hd_sputI C (p1 := 1) (p2 := 2) qX9_holds_58 (hd_aload_n C dX9_holds_0) (hd_iconst C dX9_holds_1 (by decide)) dX9_holds_2) (hd_seq (p1 := 10) (hd_sistore_n C (p1 := 9) (hd_inI (hd_invV C (p1 := 6) (p2 := 6) snd_X9_notHeld rfl gX9_holds_X9_notHeld rfl yX9_holds_X9_notHeld ⟨by decide, by decide⟩ (by decide) (hd_aload_n C dX9_holds_5) hd_av0 dX9_holds_6)) dX9_holds_9 (by decide)) (hd_retI C Rk (p1 := 30) (hd_tnI C (p1 := 15) (p2 := 23) (p3 := 26) (p4 := 30) (hd_c_eqF C (p1 := 11) (p2 := 12) (tgt := 26) (hd_iload_n C dX9_holds_10) (hd_iconst C dX9_holds_11 (by decide)) dX9_holds_12 (by decide)) (hd_inI (hd_invV C (p1 := 16) (p2 := 20) snd_X9_together rfl gX9_holds_X9_together rfl yX9_holds_X9_together ⟨by decide, by decide⟩ (by decide) (hd_aload_n C dX9_holds_15) (hd_apI (p1 := 16) (p2 := 20) hd_av0 (hd_inI (hd_invV C (p1 := 17) (p2 := 17) snd_X9_allTowns rfl gX9_holds_X9_allTowns rfl yX9_holds_X9_allTowns ⟨by decide, by decide⟩ (by decide) (hd_aload_n C dX9_holds_16) hd_av0 dX9_holds_17))) dX9_holds_20)) dX9_holds_23 (by decide) (hd_isub C (p1 := 28) (p2 := 29) (hd_bipush C dX9_holds_26 (by decide)) (hd_iload_n C dX9_holds_28) dX9_holds_29)) dX9_holds_30))))
/-! X9_isAsked -/
set_option maxRecDepth 100000 in
theorem yX9_isAsked_X9_isKind : yX9_isKind.cls ≠ "java/lang/invoke/MethodHandle" ∧ yX9_isKind.cls ≠ "java/lang/invoke/VarHandle" ∧ (parseMethodDescriptor yX9_isKind.desc).map (fun d => d.parameters.length) = some 1 := by decide +kernel
set_option maxRecDepth 100000 in
theorem yX9_isAsked_X9_in : yX9_in.cls ≠ "java/lang/invoke/MethodHandle" ∧ yX9_in.cls ≠ "java/lang/invoke/VarHandle" ∧ (parseMethodDescriptor yX9_in.desc).map (fun d => d.parameters.length) = some 3 := by decide +kernel
def wo_X9_isAsked : hd_xS := (hd_sRZ (hd_iC (hd_cA (hd_c0 (fun x => !decide (x = 0)) (hd_iN (hd_nS 1 (hd_pI hd_v0 (hd_iL 0)) wm_X9_isKind))) (hd_c0 (fun x => !decide (x = 0)) (hd_iN (hd_nS 3 (hd_pI (hd_pI (hd_pI hd_v0 (hd_iL 1)) (hd_iK (-1))) (hd_iK (7))) wm_X9_in))))))
def wm_X9_isAsked : hd_M := hd_mth 2 wo_X9_isAsked
set_option maxHeartbeats 4000000 in
set_option maxRecDepth 100000 in
theorem snd_X9_isAsked : hd_Snd vwCl hs_sh yX9_isAsked wsX9_isAsked 3 wm_X9_isAsked := hd_method (by decide) rfl rfl (by decide) (fun κ C Rk => (hd_retZ C Rk (p1 := 22) (hd_boC C (p1 := 17) (p3 := 21) (p4 := 22) (hd_and (p1 := 7) (p2 := 17) (p3 := 21) (hd_z_neF C (p2 := 4) (tgt := 21) (hd_inI (hd_invS C (p2 := 1) snd_X9_isKind rfl gX9_isAsked_X9_isKind yX9_isAsked_X9_isKind ⟨by decide, by decide⟩ (by decide) (hd_apI (p1 := 0) (p2 := 1) hd_av0 (hd_iload_n C dX9_isAsked_0)) dX9_isAsked_1)) dX9_isAsked_4 (by decide)) (hd_z_neF C (p2 := 14) (tgt := 21) (hd_inI (hd_invS C (p2 := 11) snd_X9_in rfl gX9_isAsked_X9_in yX9_isAsked_X9_in ⟨by decide, by decide⟩ (by decide) (hd_apI (p1 := 9) (p2 := 11) (hd_apI (p1 := 8) (p2 := 9) (hd_apI (p1 := 7) (p2 := 8) hd_av0 (hd_iload_n C dX9_isAsked_7)) (hd_iconst C dX9_isAsked_8 (by decide))) (hd_bipush C dX9_isAsked_9 (by decide))) dX9_isAsked_11)) dX9_isAsked_14 (by decide))) dX9_isAsked_17 dX9_isAsked_18 (by decide) dX9_isAsked_21 rfl) dX9_isAsked_22))
/-! X9_lose -/
set_option maxRecDepth 100000 in
theorem uX9_lose_X9 : ∀ w ∈ u_ws RX9 TX9 28, w ∈ wsX9_lose := by decide +kernel
set_option maxRecDepth 100000 in
theorem lX9_lose_58 : Cond.fieldLink RX9 58 (TX9 0).1 (TX9 0).2.1 (TX9 0).2.2.1 ∈ wsX9_lose := by decide +kernel
set_option maxRecDepth 100000 in
theorem qX9_lose_58 : hd_FP wsX9_lose RX9 vwCl 9 0 58 .int := ⟨RX9, TX9, 28, tyX9, rfl, by decide, uX9_lose_X9, lX9_lose_58, tyX9_ok, nmX9, rfl, rfl⟩
set_option maxRecDepth 100000 in
theorem yX9_lose_X9_isHall : yX9_isHall.cls = RX9 ∧ yX9_isHall.cls ≠ "java/lang/invoke/MethodHandle" ∧ yX9_isHall.cls ≠ "java/lang/invoke/VarHandle" ∧ (parseMethodDescriptor yX9_isHall.desc).map (fun d => d.parameters.length) = some 1 := by decide +kernel
set_option maxRecDepth 100000 in
theorem lX9_lose_25 : Cond.fieldLink RX9 25 (TX9 8).1 (TX9 8).2.1 (TX9 8).2.2.1 ∈ wsX9_lose := by decide +kernel
set_option maxRecDepth 100000 in
theorem fX9_lose_25 : hd_F wsX9_lose RX9 vwCl 9 8 25 := ⟨RX9, TX9, 28, rfl, by decide, uX9_lose_X9, lX9_lose_25⟩
set_option maxRecDepth 100000 in
theorem yX9_lose_X9_keep : yX9_keep.cls = RX9 ∧ yX9_keep.cls ≠ "java/lang/invoke/MethodHandle" ∧ yX9_keep.cls ≠ "java/lang/invoke/VarHandle" ∧ (parseMethodDescriptor yX9_keep.desc).map (fun d => d.parameters.length) = some 0 := by decide +kernel
set_option maxRecDepth 100000 in
theorem lX9_lose_28 : Cond.fieldLink RX9 28 (TX9 9).1 (TX9 9).2.1 (TX9 9).2.2.1 ∈ wsX9_lose := by decide +kernel
set_option maxRecDepth 100000 in
theorem fX9_lose_28 : hd_F wsX9_lose RX9 vwCl 9 9 28 := ⟨RX9, TX9, 28, rfl, by decide, uX9_lose_X9, lX9_lose_28⟩
def wo_X9_lose : hd_xS := (hd_sQ (hd_sF hs_sh 9 0 (hd_rL 0) (hd_iK (0))) (hd_sQ (hd_sW (hd_cX (hd_c0 (fun x => !decide (x = 0)) (hd_iN (hd_nV hs_sh 9 (hd_rL 0) 1 (hd_pI hd_v0 (hd_iL 1)) wm_X9_isHall)))) (hd_sRI (hd_iK (-3)))) (hd_sQ (hd_sW (hd_cI (fun x y => decide (x = y)) (hd_iA hs_sh (hd_rG hs_sh 9 8 (hd_rL 0)) (hd_iL 1)) (hd_iK (-1))) (hd_sRI (hd_iK (-11)))) (hd_sQ (hd_sN (hd_nV hs_sh 9 (hd_rL 0) 0 hd_v0 wm_X9_keep)) (hd_sQ (hd_sI 2 (hd_iA hs_sh (hd_rG hs_sh 9 9 (hd_rL 0)) (hd_iL 1))) (hd_sQ (hd_sA hs_sh (hd_rG hs_sh 9 8 (hd_rL 0)) (hd_iL 1) (hd_iK (-1))) (hd_sQ (hd_sA hs_sh (hd_rG hs_sh 9 9 (hd_rL 0)) (hd_iL 1) (hd_iK (0))) (hd_sRI (hd_iL 2)))))))))
def wm_X9_lose : hd_M := hd_mth 3 wo_X9_lose
set_option maxHeartbeats 4000000 in
set_option maxRecDepth 100000 in
theorem snd_X9_lose : hd_Snd vwCl hs_sh yX9_lose wsX9_lose 3 wm_X9_lose := hd_method (by decide) rfl rfl (by decide) (fun κ C Rk => (hd_seq (p1 := 5) (hd_sputI C (p1 := 1) (p2 := 2) qX9_lose_58 (hd_aload_n C dX9_lose_0) (hd_iconst C dX9_lose_1 (by decide)) dX9_lose_2) (hd_seq (p1 := 16) (hd_if (p1 := 13) (p2 := 16) (hd_not (hd_z_neT C (p2 := 10) (tgt := 16) (hd_inI (hd_invV C (p1 := 6) (p2 := 7) snd_X9_isHall rfl gX9_lose_X9_isHall rfl yX9_lose_X9_isHall ⟨by decide, by decide⟩ (by decide) (hd_aload_n C dX9_lose_5) (hd_apI (p1 := 6) (p2 := 7) hd_av0 (hd_iload_n C dX9_lose_6)) dX9_lose_7)) dX9_lose_10 (by decide))) (hd_retI C Rk (p1 := 15) (hd_bipush C dX9_lose_13 (by decide)) dX9_lose_15) (by decide)) (hd_seq (p1 := 29) (hd_if (p1 := 26) (p2 := 29) (hd_c_eqF C (p1 := 22) (p2 := 23) (tgt := 29) (hd_iald C (p1 := 20) (p2 := 21) (hd_getR C (p1 := 17) fX9_lose_25 (hd_aload_n C dX9_lose_16) dX9_lose_17) (hd_iload_n C dX9_lose_20) dX9_lose_21) (hd_iconst C dX9_lose_22 (by decide)) dX9_lose_23 (by decide)) (hd_retI C Rk (p1 := 28) (hd_bipush C dX9_lose_26 (by decide)) dX9_lose_28) (by decide)) (hd_seq (p1 := 33) (hd_scall (hd_invV C (p1 := 30) (p2 := 30) snd_X9_keep rfl gX9_lose_X9_keep rfl yX9_lose_X9_keep ⟨by decide, by decide⟩ (by decide) (hd_aload_n C dX9_lose_29) hd_av0 dX9_lose_30)) (hd_seq (p1 := 40) (hd_sistore_n C (p1 := 39) (hd_iald C (p1 := 37) (p2 := 38) (hd_getR C (p1 := 34) fX9_lose_28 (hd_aload_n C dX9_lose_33) dX9_lose_34) (hd_iload_n C dX9_lose_37) dX9_lose_38) dX9_lose_39 (by decide)) (hd_seq (p1 := 47) (hd_siast C (p1 := 44) (p2 := 45) (p3 := 46) (hd_getR C (p1 := 41) fX9_lose_25 (hd_aload_n C dX9_lose_40) dX9_lose_41) (hd_iload_n C dX9_lose_44) (hd_iconst C dX9_lose_45 (by decide)) dX9_lose_46) (hd_seq (p1 := 54) (hd_siast C (p1 := 51) (p2 := 52) (p3 := 53) (hd_getR C (p1 := 48) fX9_lose_28 (hd_aload_n C dX9_lose_47) dX9_lose_48) (hd_iload_n C dX9_lose_51) (hd_iconst C dX9_lose_52 (by decide)) dX9_lose_53) (hd_retI C Rk (p1 := 55) (hd_iload_n C dX9_lose_54) dX9_lose_55)))))))))
/-! X9_people -/
set_option maxRecDepth 100000 in
theorem uX9_people_X9 : ∀ w ∈ u_ws RX9 TX9 28, w ∈ wsX9_people := by decide +kernel
set_option maxRecDepth 100000 in
theorem lX9_people_58 : Cond.fieldLink RX9 58 (TX9 0).1 (TX9 0).2.1 (TX9 0).2.2.1 ∈ wsX9_people := by decide +kernel
set_option maxRecDepth 100000 in
theorem qX9_people_58 : hd_FP wsX9_people RX9 vwCl 9 0 58 .int := ⟨RX9, TX9, 28, tyX9, rfl, by decide, uX9_people_X9, lX9_people_58, tyX9_ok, nmX9, rfl, rfl⟩
set_option maxRecDepth 100000 in
theorem yX9_people_X9_isTown : yX9_isTown.cls = RX9 ∧ yX9_isTown.cls ≠ "java/lang/invoke/MethodHandle" ∧ yX9_isTown.cls ≠ "java/lang/invoke/VarHandle" ∧ (parseMethodDescriptor yX9_isTown.desc).map (fun d => d.parameters.length) = some 1 := by decide +kernel
set_option maxRecDepth 100000 in
theorem yX9_people_X9_in : yX9_in.cls ≠ "java/lang/invoke/MethodHandle" ∧ yX9_in.cls ≠ "java/lang/invoke/VarHandle" ∧ (parseMethodDescriptor yX9_in.desc).map (fun d => d.parameters.length) = some 3 := by decide +kernel
set_option maxRecDepth 100000 in
theorem yX9_people_X9_keep : yX9_keep.cls = RX9 ∧ yX9_keep.cls ≠ "java/lang/invoke/MethodHandle" ∧ yX9_keep.cls ≠ "java/lang/invoke/VarHandle" ∧ (parseMethodDescriptor yX9_keep.desc).map (fun d => d.parameters.length) = some 0 := by decide +kernel
set_option maxRecDepth 100000 in
theorem lX9_people_7 : Cond.fieldLink RX9 7 (TX9 3).1 (TX9 3).2.1 (TX9 3).2.2.1 ∈ wsX9_people := by decide +kernel
set_option maxRecDepth 100000 in
theorem fX9_people_7 : hd_F wsX9_people RX9 vwCl 9 3 7 := ⟨RX9, TX9, 28, rfl, by decide, uX9_people_X9, lX9_people_7⟩
def wo_X9_people : hd_xS := (hd_sQ (hd_sF hs_sh 9 0 (hd_rL 0) (hd_iK (0))) (hd_sQ (hd_sW (hd_cO (hd_cX (hd_c0 (fun x => !decide (x = 0)) (hd_iN (hd_nV hs_sh 9 (hd_rL 0) 1 (hd_pI hd_v0 (hd_iL 1)) wm_X9_isTown)))) (hd_cX (hd_c0 (fun x => !decide (x = 0)) (hd_iN (hd_nS 3 (hd_pI (hd_pI (hd_pI hd_v0 (hd_iL 2)) (hd_iK (1))) (hd_iK (20))) wm_X9_in))))) (hd_sRI (hd_iK (-3)))) (hd_sQ (hd_sN (hd_nV hs_sh 9 (hd_rL 0) 0 hd_v0 wm_X9_keep)) (hd_sQ (hd_sI 3 (hd_iA hs_sh (hd_rG hs_sh 9 3 (hd_rL 0)) (hd_iL 1))) (hd_sQ (hd_sA hs_sh (hd_rG hs_sh 9 3 (hd_rL 0)) (hd_iL 1) (hd_iL 2)) (hd_sRI (hd_iL 3)))))))
def wm_X9_people : hd_M := hd_mth 4 wo_X9_people
set_option maxHeartbeats 4000000 in
set_option maxRecDepth 100000 in
theorem snd_X9_people : hd_Snd vwCl hs_sh yX9_people wsX9_people 3 wm_X9_people := hd_method (by decide) rfl rfl (by decide) (fun κ C Rk => (hd_seq (p1 := 5) (hd_sputI C (p1 := 1) (p2 := 2) qX9_people_58 (hd_aload_n C dX9_people_0) (hd_iconst C dX9_people_1 (by decide)) dX9_people_2) (hd_seq (p1 := 26) (hd_if (p1 := 23) (p2 := 26) (hd_or (p1 := 13) (p2 := 23) (p3 := 26) (hd_not (hd_z_neF C (p2 := 10) (tgt := 23) (hd_inI (hd_invV C (p1 := 6) (p2 := 7) snd_X9_isTown rfl gX9_people_X9_isTown rfl yX9_people_X9_isTown ⟨by decide, by decide⟩ (by decide) (hd_aload_n C dX9_people_5) (hd_apI (p1 := 6) (p2 := 7) hd_av0 (hd_iload_n C dX9_people_6)) dX9_people_7)) dX9_people_10 (by decide))) (hd_not (hd_z_neT C (p2 := 20) (tgt := 26) (hd_inI (hd_invS C (p2 := 17) snd_X9_in rfl gX9_people_X9_in yX9_people_X9_in ⟨by decide, by decide⟩ (by decide) (hd_apI (p1 := 15) (p2 := 17) (hd_apI (p1 := 14) (p2 := 15) (hd_apI (p1 := 13) (p2 := 14) hd_av0 (hd_iload_n C dX9_people_13)) (hd_iconst C dX9_people_14 (by decide))) (hd_bipush C dX9_people_15 (by decide))) dX9_people_17)) dX9_people_20 (by decide)))) (hd_retI C Rk (p1 := 25) (hd_bipush C dX9_people_23 (by decide)) dX9_people_25) (by decide)) (hd_seq (p1 := 30) (hd_scall (hd_invV C (p1 := 27) (p2 := 27) snd_X9_keep rfl gX9_people_X9_keep rfl yX9_people_X9_keep ⟨by decide, by decide⟩ (by decide) (hd_aload_n C dX9_people_26) hd_av0 dX9_people_27)) (hd_seq (p1 := 37) (hd_sistore_n C (p1 := 36) (hd_iald C (p1 := 34) (p2 := 35) (hd_getR C (p1 := 31) fX9_people_7 (hd_aload_n C dX9_people_30) dX9_people_31) (hd_iload_n C dX9_people_34) dX9_people_35) dX9_people_36 (by decide)) (hd_seq (p1 := 44) (hd_siast C (p1 := 41) (p2 := 42) (p3 := 43) (hd_getR C (p1 := 38) fX9_people_7 (hd_aload_n C dX9_people_37) dX9_people_38) (hd_iload_n C dX9_people_41) (hd_iload_n C dX9_people_42) dX9_people_43) (hd_retI C Rk (p1 := 45) (hd_iload_n C dX9_people_44) dX9_people_45)))))))
/-! X9_place -/
set_option maxRecDepth 100000 in
theorem uX9_place_X9 : ∀ w ∈ u_ws RX9 TX9 28, w ∈ wsX9_place := by decide +kernel
set_option maxRecDepth 100000 in
theorem lX9_place_58 : Cond.fieldLink RX9 58 (TX9 0).1 (TX9 0).2.1 (TX9 0).2.2.1 ∈ wsX9_place := by decide +kernel
set_option maxRecDepth 100000 in
theorem qX9_place_58 : hd_FP wsX9_place RX9 vwCl 9 0 58 .int := ⟨RX9, TX9, 28, tyX9, rfl, by decide, uX9_place_X9, lX9_place_58, tyX9_ok, nmX9, rfl, rfl⟩
set_option maxRecDepth 100000 in
theorem yX9_place_X9_isTown : yX9_isTown.cls = RX9 ∧ yX9_isTown.cls ≠ "java/lang/invoke/MethodHandle" ∧ yX9_isTown.cls ≠ "java/lang/invoke/VarHandle" ∧ (parseMethodDescriptor yX9_isTown.desc).map (fun d => d.parameters.length) = some 1 := by decide +kernel
set_option maxRecDepth 100000 in
theorem yX9_place_X9_in : yX9_in.cls ≠ "java/lang/invoke/MethodHandle" ∧ yX9_in.cls ≠ "java/lang/invoke/VarHandle" ∧ (parseMethodDescriptor yX9_in.desc).map (fun d => d.parameters.length) = some 3 := by decide +kernel
set_option maxRecDepth 100000 in
theorem yX9_place_X9_keep : yX9_keep.cls = RX9 ∧ yX9_keep.cls ≠ "java/lang/invoke/MethodHandle" ∧ yX9_keep.cls ≠ "java/lang/invoke/VarHandle" ∧ (parseMethodDescriptor yX9_keep.desc).map (fun d => d.parameters.length) = some 0 := by decide +kernel
set_option maxRecDepth 100000 in
theorem lX9_place_16 : Cond.fieldLink RX9 16 (TX9 5).1 (TX9 5).2.1 (TX9 5).2.2.1 ∈ wsX9_place := by decide +kernel
set_option maxRecDepth 100000 in
theorem fX9_place_16 : hd_F wsX9_place RX9 vwCl 9 5 16 := ⟨RX9, TX9, 28, rfl, by decide, uX9_place_X9, lX9_place_16⟩
def wo_X9_place : hd_xS := (hd_sQ (hd_sF hs_sh 9 0 (hd_rL 0) (hd_iK (0))) (hd_sQ (hd_sW (hd_cO (hd_cX (hd_c0 (fun x => !decide (x = 0)) (hd_iN (hd_nV hs_sh 9 (hd_rL 0) 1 (hd_pI hd_v0 (hd_iL 1)) wm_X9_isTown)))) (hd_cX (hd_c0 (fun x => !decide (x = 0)) (hd_iN (hd_nS 3 (hd_pI (hd_pI (hd_pI hd_v0 (hd_iL 2)) (hd_iK (-1000))) (hd_iK (1000))) wm_X9_in))))) (hd_sRI (hd_iK (-3)))) (hd_sQ (hd_sN (hd_nV hs_sh 9 (hd_rL 0) 0 hd_v0 wm_X9_keep)) (hd_sQ (hd_sA hs_sh (hd_rG hs_sh 9 5 (hd_rL 0)) (hd_iL 1) (hd_iL 2)) (hd_sRI (hd_iK (0)))))))
def wm_X9_place : hd_M := hd_mth 3 wo_X9_place
set_option maxHeartbeats 4000000 in
set_option maxRecDepth 100000 in
theorem snd_X9_place : hd_Snd vwCl hs_sh yX9_place wsX9_place 3 wm_X9_place := hd_method (by decide) rfl rfl (by decide) (fun κ C Rk => (hd_seq (p1 := 5) (hd_sputI C (p1 := 1) (p2 := 2) qX9_place_58 (hd_aload_n C dX9_place_0) (hd_iconst C dX9_place_1 (by decide)) dX9_place_2) (hd_seq (p1 := 29) (hd_if (p1 := 26) (p2 := 29) (hd_or (p1 := 13) (p2 := 26) (p3 := 29) (hd_not (hd_z_neF C (p2 := 10) (tgt := 26) (hd_inI (hd_invV C (p1 := 6) (p2 := 7) snd_X9_isTown rfl gX9_place_X9_isTown rfl yX9_place_X9_isTown ⟨by decide, by decide⟩ (by decide) (hd_aload_n C dX9_place_5) (hd_apI (p1 := 6) (p2 := 7) hd_av0 (hd_iload_n C dX9_place_6)) dX9_place_7)) dX9_place_10 (by decide))) (hd_not (hd_z_neT C (p2 := 23) (tgt := 29) (hd_inI (hd_invS C (p2 := 20) snd_X9_in rfl gX9_place_X9_in yX9_place_X9_in ⟨by decide, by decide⟩ (by decide) (hd_apI (p1 := 17) (p2 := 20) (hd_apI (p1 := 14) (p2 := 17) (hd_apI (p1 := 13) (p2 := 14) hd_av0 (hd_iload_n C dX9_place_13)) (hd_sipush C dX9_place_14 (by decide))) (hd_sipush C dX9_place_17 (by decide))) dX9_place_20)) dX9_place_23 (by decide)))) (hd_retI C Rk (p1 := 28) (hd_bipush C dX9_place_26 (by decide)) dX9_place_28) (by decide)) (hd_seq (p1 := 33) (hd_scall (hd_invV C (p1 := 30) (p2 := 30) snd_X9_keep rfl gX9_place_X9_keep rfl yX9_place_X9_keep ⟨by decide, by decide⟩ (by decide) (hd_aload_n C dX9_place_29) hd_av0 dX9_place_30)) (hd_seq (p1 := 40) (hd_siast C (p1 := 37) (p2 := 38) (p3 := 39) (hd_getR C (p1 := 34) fX9_place_16 (hd_aload_n C dX9_place_33) dX9_place_34) (hd_iload_n C dX9_place_37) (hd_iload_n C dX9_place_38) dX9_place_39) (hd_retI C Rk (p1 := 41) (hd_iconst C dX9_place_40 (by decide)) dX9_place_41))))))
/-! X9_price -/
set_option maxRecDepth 100000 in
theorem uX9_price_X9 : ∀ w ∈ u_ws RX9 TX9 28, w ∈ wsX9_price := by decide +kernel
set_option maxRecDepth 100000 in
theorem lX9_price_58 : Cond.fieldLink RX9 58 (TX9 0).1 (TX9 0).2.1 (TX9 0).2.2.1 ∈ wsX9_price := by decide +kernel
set_option maxRecDepth 100000 in
theorem qX9_price_58 : hd_FP wsX9_price RX9 vwCl 9 0 58 .int := ⟨RX9, TX9, 28, tyX9, rfl, by decide, uX9_price_X9, lX9_price_58, tyX9_ok, nmX9, rfl, rfl⟩
set_option maxRecDepth 100000 in
theorem yX9_price_X9_isHall : yX9_isHall.cls = RX9 ∧ yX9_isHall.cls ≠ "java/lang/invoke/MethodHandle" ∧ yX9_isHall.cls ≠ "java/lang/invoke/VarHandle" ∧ (parseMethodDescriptor yX9_isHall.desc).map (fun d => d.parameters.length) = some 1 := by decide +kernel
set_option maxRecDepth 100000 in
theorem wX9_price_4 : Cond.constant RX9 102 (100000) ∈ wsX9_price := by decide +kernel
set_option maxRecDepth 100000 in
theorem yX9_price_X9_in : yX9_in.cls ≠ "java/lang/invoke/MethodHandle" ∧ yX9_in.cls ≠ "java/lang/invoke/VarHandle" ∧ (parseMethodDescriptor yX9_in.desc).map (fun d => d.parameters.length) = some 3 := by decide +kernel
set_option maxRecDepth 100000 in
theorem yX9_price_X9_keep : yX9_keep.cls = RX9 ∧ yX9_keep.cls ≠ "java/lang/invoke/MethodHandle" ∧ yX9_keep.cls ≠ "java/lang/invoke/VarHandle" ∧ (parseMethodDescriptor yX9_keep.desc).map (fun d => d.parameters.length) = some 0 := by decide +kernel
set_option maxRecDepth 100000 in
theorem lX9_price_19 : Cond.fieldLink RX9 19 (TX9 6).1 (TX9 6).2.1 (TX9 6).2.2.1 ∈ wsX9_price := by decide +kernel
set_option maxRecDepth 100000 in
theorem fX9_price_19 : hd_F wsX9_price RX9 vwCl 9 6 19 := ⟨RX9, TX9, 28, rfl, by decide, uX9_price_X9, lX9_price_19⟩
def wo_X9_price : hd_xS := (hd_sQ (hd_sF hs_sh 9 0 (hd_rL 0) (hd_iK (0))) (hd_sQ (hd_sW (hd_cO (hd_cX (hd_c0 (fun x => !decide (x = 0)) (hd_iN (hd_nV hs_sh 9 (hd_rL 0) 1 (hd_pI hd_v0 (hd_iL 1)) wm_X9_isHall)))) (hd_cX (hd_c0 (fun x => !decide (x = 0)) (hd_iN (hd_nS 3 (hd_pI (hd_pI (hd_pI hd_v0 (hd_iL 2)) (hd_iK (0))) (hd_iK (100000))) wm_X9_in))))) (hd_sRI (hd_iK (-3)))) (hd_sQ (hd_sN (hd_nV hs_sh 9 (hd_rL 0) 0 hd_v0 wm_X9_keep)) (hd_sQ (hd_sI 3 (hd_iA hs_sh (hd_rG hs_sh 9 6 (hd_rL 0)) (hd_iL 1))) (hd_sQ (hd_sA hs_sh (hd_rG hs_sh 9 6 (hd_rL 0)) (hd_iL 1) (hd_iL 2)) (hd_sRI (hd_iL 3)))))))
def wm_X9_price : hd_M := hd_mth 4 wo_X9_price
set_option maxHeartbeats 4000000 in
set_option maxRecDepth 100000 in
theorem snd_X9_price : hd_Snd vwCl hs_sh yX9_price wsX9_price 3 wm_X9_price := hd_method (by decide) rfl rfl (by decide) (fun κ C Rk => (hd_seq (p1 := 5) (hd_sputI C (p1 := 1) (p2 := 2) qX9_price_58 (hd_aload_n C dX9_price_0) (hd_iconst C dX9_price_1 (by decide)) dX9_price_2) (hd_seq (p1 := 26) (hd_if (p1 := 23) (p2 := 26) (hd_or (p1 := 13) (p2 := 23) (p3 := 26) (hd_not (hd_z_neF C (p2 := 10) (tgt := 23) (hd_inI (hd_invV C (p1 := 6) (p2 := 7) snd_X9_isHall rfl gX9_price_X9_isHall rfl yX9_price_X9_isHall ⟨by decide, by decide⟩ (by decide) (hd_aload_n C dX9_price_5) (hd_apI (p1 := 6) (p2 := 7) hd_av0 (hd_iload_n C dX9_price_6)) dX9_price_7)) dX9_price_10 (by decide))) (hd_not (hd_z_neT C (p2 := 20) (tgt := 26) (hd_inI (hd_invS C (p2 := 17) snd_X9_in rfl gX9_price_X9_in yX9_price_X9_in ⟨by decide, by decide⟩ (by decide) (hd_apI (p1 := 15) (p2 := 17) (hd_apI (p1 := 14) (p2 := 15) (hd_apI (p1 := 13) (p2 := 14) hd_av0 (hd_iload_n C dX9_price_13)) (hd_iconst C dX9_price_14 (by decide))) (hd_ldc C wX9_price_4 dX9_price_15)) dX9_price_17)) dX9_price_20 (by decide)))) (hd_retI C Rk (p1 := 25) (hd_bipush C dX9_price_23 (by decide)) dX9_price_25) (by decide)) (hd_seq (p1 := 30) (hd_scall (hd_invV C (p1 := 27) (p2 := 27) snd_X9_keep rfl gX9_price_X9_keep rfl yX9_price_X9_keep ⟨by decide, by decide⟩ (by decide) (hd_aload_n C dX9_price_26) hd_av0 dX9_price_27)) (hd_seq (p1 := 37) (hd_sistore_n C (p1 := 36) (hd_iald C (p1 := 34) (p2 := 35) (hd_getR C (p1 := 31) fX9_price_19 (hd_aload_n C dX9_price_30) dX9_price_31) (hd_iload_n C dX9_price_34) dX9_price_35) dX9_price_36 (by decide)) (hd_seq (p1 := 44) (hd_siast C (p1 := 41) (p2 := 42) (p3 := 43) (hd_getR C (p1 := 38) fX9_price_19 (hd_aload_n C dX9_price_37) dX9_price_38) (hd_iload_n C dX9_price_41) (hd_iload_n C dX9_price_42) dX9_price_43) (hd_retI C Rk (p1 := 45) (hd_iload_n C dX9_price_44) dX9_price_45)))))))
/-! X9_raise -/
set_option maxRecDepth 100000 in
theorem uX9_raise_X9 : ∀ w ∈ u_ws RX9 TX9 28, w ∈ wsX9_raise := by decide +kernel
set_option maxRecDepth 100000 in
theorem lX9_raise_58 : Cond.fieldLink RX9 58 (TX9 0).1 (TX9 0).2.1 (TX9 0).2.2.1 ∈ wsX9_raise := by decide +kernel
set_option maxRecDepth 100000 in
theorem qX9_raise_58 : hd_FP wsX9_raise RX9 vwCl 9 0 58 .int := ⟨RX9, TX9, 28, tyX9, rfl, by decide, uX9_raise_X9, lX9_raise_58, tyX9_ok, nmX9, rfl, rfl⟩
set_option maxRecDepth 100000 in
theorem lX9_raise_71 : Cond.fieldLink RX9 71 (TX9 2).1 (TX9 2).2.1 (TX9 2).2.2.1 ∈ wsX9_raise := by decide +kernel
set_option maxRecDepth 100000 in
theorem fX9_raise_71 : hd_F wsX9_raise RX9 vwCl 9 2 71 := ⟨RX9, TX9, 28, rfl, by decide, uX9_raise_X9, lX9_raise_71⟩
set_option maxRecDepth 100000 in
theorem lX9_raise_37 : Cond.fieldLink RX9 37 (TX9 15).1 (TX9 15).2.1 (TX9 15).2.2.1 ∈ wsX9_raise := by decide +kernel
set_option maxRecDepth 100000 in
theorem fX9_raise_37 : hd_F wsX9_raise RX9 vwCl 9 15 37 := ⟨RX9, TX9, 28, rfl, by decide, uX9_raise_X9, lX9_raise_37⟩
set_option maxRecDepth 100000 in
theorem lX9_raise_68 : Cond.fieldLink RX9 68 (TX9 1).1 (TX9 1).2.1 (TX9 1).2.2.1 ∈ wsX9_raise := by decide +kernel
set_option maxRecDepth 100000 in
theorem fX9_raise_68 : hd_F wsX9_raise RX9 vwCl 9 1 68 := ⟨RX9, TX9, 28, rfl, by decide, uX9_raise_X9, lX9_raise_68⟩
set_option maxRecDepth 100000 in
theorem yX9_raise_X9_notHeld : yX9_notHeld.cls = RX9 ∧ yX9_notHeld.cls ≠ "java/lang/invoke/MethodHandle" ∧ yX9_notHeld.cls ≠ "java/lang/invoke/VarHandle" ∧ (parseMethodDescriptor yX9_notHeld.desc).map (fun d => d.parameters.length) = some 0 := by decide +kernel
set_option maxRecDepth 100000 in
theorem yX9_raise_X9_allTowns : yX9_allTowns.cls = RX9 ∧ yX9_allTowns.cls ≠ "java/lang/invoke/MethodHandle" ∧ yX9_allTowns.cls ≠ "java/lang/invoke/VarHandle" ∧ (parseMethodDescriptor yX9_allTowns.desc).map (fun d => d.parameters.length) = some 0 := by decide +kernel
set_option maxRecDepth 100000 in
theorem yX9_raise_X9_together : yX9_together.cls = RX9 ∧ yX9_together.cls ≠ "java/lang/invoke/MethodHandle" ∧ yX9_together.cls ≠ "java/lang/invoke/VarHandle" ∧ (parseMethodDescriptor yX9_together.desc).map (fun d => d.parameters.length) = some 1 := by decide +kernel
def wc_X9_raise_17 : hd_xC := (hd_cI (fun x y => decide (x < y)) (hd_iL 1) (hd_iK (8)))
def wb_X9_raise_17 : hd_xS := (hd_sQ (hd_sA hs_sh (hd_rG hs_sh 9 15 (hd_rL 0)) (hd_iL 1) (hd_iK (0))) (hd_sP 1 (1)))
def wc_X9_raise_55 : hd_xC := (hd_cI (fun x y => decide (x < y)) (hd_iL 3) (hd_iG hs_sh 9 1 (hd_rL 0)))
def wb_X9_raise_55 : hd_xS := (hd_sQ (hd_sQ (hd_sO (fun x y => x + y) hs_sh (hd_rG hs_sh 9 15 (hd_rL 0)) (hd_iL 3) (hd_iK (1))) (hd_sE (hd_cI (fun x y => decide (x = y)) (hd_iN (hd_nV hs_sh 9 (hd_rL 0) 0 hd_v0 wm_X9_notHeld)) (hd_iK (-1))) (hd_sI 1 (hd_iK (1))) (hd_sO (fun x y => x - y) hs_sh (hd_rG hs_sh 9 15 (hd_rL 0)) (hd_iL 3) (hd_iK (1))))) (hd_sP 3 (1)))
def wc_X9_raise_40 : hd_xC := (hd_cA (hd_cI (fun x y => decide (x < y)) (hd_iL 2) (hd_iK (2000))) (hd_c0 (fun x => !decide (x = 0)) (hd_iL 1)))
def wb_X9_raise_40 : hd_xS := (hd_sQ (hd_sQ (hd_sI 1 (hd_iK (0))) (hd_sQ (hd_sI 3 (hd_iK (0))) (hd_sH (wc_X9_raise_55) (wb_X9_raise_55)))) (hd_sP 2 (1)))
def wo_X9_raise : hd_xS := (hd_sQ (hd_sF hs_sh 9 0 (hd_rL 0) (hd_iK (0))) (hd_sQ (hd_sW (hd_c0 (fun x => decide (x = 0)) (hd_iG hs_sh 9 2 (hd_rL 0))) (hd_sRI (hd_iK (-4)))) (hd_sQ (hd_sQ (hd_sI 1 (hd_iK (0))) (hd_sH (wc_X9_raise_17) (wb_X9_raise_17))) (hd_sQ (hd_sI 1 (hd_iK (1))) (hd_sQ (hd_sQ (hd_sI 2 (hd_iK (0))) (hd_sH (wc_X9_raise_40) (wb_X9_raise_40))) (hd_sRI (hd_iN (hd_nV hs_sh 9 (hd_rL 0) 1 (hd_pI hd_v0 (hd_iN (hd_nV hs_sh 9 (hd_rL 0) 0 hd_v0 wm_X9_allTowns))) wm_X9_together))))))))
def wm_X9_raise : hd_M := hd_mth 4 wo_X9_raise
set_option maxHeartbeats 4000000 in
set_option maxRecDepth 100000 in
theorem snd_X9_raise : hd_Snd vwCl hs_sh yX9_raise wsX9_raise 3 wm_X9_raise := hd_method (by decide) rfl rfl (by decide) (fun κ C Rk => (hd_seq (p1 := 5) (hd_sputI C (p1 := 1) (p2 := 2) qX9_raise_58 (hd_aload_n C dX9_raise_0) (hd_iconst C dX9_raise_1 (by decide)) dX9_raise_2) (hd_seq (p1 := 15) (hd_if (p1 := 12) (p2 := 15) (hd_z_eqF C (p2 := 9) (tgt := 15) (hd_getI C (p1 := 6) fX9_raise_71 (hd_aload_n C dX9_raise_5) dX9_raise_6) dX9_raise_9 (by decide)) (hd_retI C Rk (p1 := 14) (hd_bipush C dX9_raise_12 (by decide)) dX9_raise_14) (by decide)) (hd_seq (p1 := 36) (hd_seq (p1 := 17) (hd_sistore_n C (p1 := 16) (hd_iconst C dX9_raise_15 (by decide)) dX9_raise_16 (by decide)) (hd_loop C (p1 := 23) (p2 := 36) (hd_c_ltF C (p1 := 18) (p2 := 20) (tgt := 36) (hd_iload_n C dX9_raise_17) (hd_bipush C dX9_raise_18 (by decide)) dX9_raise_20 (by decide)) (hd_seq (p1 := 30) (hd_siast C (p1 := 27) (p2 := 28) (p3 := 29) (hd_getR C (p1 := 24) fX9_raise_37 (hd_aload_n C dX9_raise_23) dX9_raise_24) (hd_iload_n C dX9_raise_27) (hd_iconst C dX9_raise_28 (by decide)) dX9_raise_29) (hd_sgoto C (p1 := 33) (tgt := 17) (hd_ends (es := [33]) (by decide) (hd_siinc C dX9_raise_30 (by decide) (by decide))) dX9_raise_33 (by decide) (by decide))) (by decide))) (hd_seq (p1 := 38) (hd_sistore_n C (p1 := 37) (hd_iconst C dX9_raise_36 (by decide)) dX9_raise_37 (by decide)) (hd_seq (p1 := 108) (hd_seq (p1 := 40) (hd_sistore_n C (p1 := 39) (hd_iconst C dX9_raise_38 (by decide)) dX9_raise_39 (by decide)) (hd_loop C (p1 := 51) (p2 := 108) (hd_and (p1 := 47) (p2 := 51) (p3 := 108) (hd_c_ltF C (p1 := 41) (p2 := 44) (tgt := 108) (hd_iload_n C dX9_raise_40) (hd_sipush C dX9_raise_41 (by decide)) dX9_raise_44 (by decide)) (hd_z_neF C (p2 := 48) (tgt := 108) (hd_iload_n C dX9_raise_47) dX9_raise_48 (by decide))) (hd_seq (p1 := 102) (hd_seq (p1 := 53) (hd_sistore_n C (p1 := 52) (hd_iconst C dX9_raise_51 (by decide)) dX9_raise_52 (by decide)) (hd_seq (p1 := 55) (hd_sistore_n C (p1 := 54) (hd_iconst C dX9_raise_53 (by decide)) dX9_raise_54 (by decide)) (hd_loop C (p1 := 63) (p2 := 102) (hd_c_ltF C (p1 := 56) (p2 := 60) (tgt := 102) (hd_iload_n C dX9_raise_55) (hd_getI C (p1 := 57) fX9_raise_68 (hd_aload_n C dX9_raise_56) dX9_raise_57) dX9_raise_60 (by decide)) (hd_seq (p1 := 96) (hd_seq (p1 := 73) (hd_sarr_iadd C (p1 := 67) (p2 := 68) (p3 := 71) (hd_getR C (p1 := 64) fX9_raise_37 (hd_aload_n C dX9_raise_63) dX9_raise_64) (hd_iload_n C dX9_raise_67) dX9_raise_68 dX9_raise_69 (hd_iconst C dX9_raise_70 (by decide)) dX9_raise_71 dX9_raise_72) (hd_ife (p1 := 81) (p2 := 86) (hd_c_eqF C (p1 := 77) (p2 := 78) (tgt := 86) (hd_inI (hd_invV C (p1 := 74) (p2 := 74) snd_X9_notHeld rfl gX9_raise_X9_notHeld rfl yX9_raise_X9_notHeld ⟨by decide, by decide⟩ (by decide) (hd_aload_n C dX9_raise_73) hd_av0 dX9_raise_74)) (hd_iconst C dX9_raise_77 (by decide)) dX9_raise_78 (by decide)) (hd_sgoto C (p1 := 83) (tgt := 96) (hd_ends (es := [83]) (by decide) (hd_sistore_n C (p1 := 82) (hd_iconst C dX9_raise_81 (by decide)) dX9_raise_82 (by decide))) dX9_raise_83 (by decide) (by decide)) (hd_sarr_isub C (p1 := 90) (p2 := 91) (p3 := 94) (hd_getR C (p1 := 87) fX9_raise_37 (hd_aload_n C dX9_raise_86) dX9_raise_87) (hd_iload_n C dX9_raise_90) dX9_raise_91 dX9_raise_92 (hd_iconst C dX9_raise_93 (by decide)) dX9_raise_94 dX9_raise_95))) (hd_sgoto C (p1 := 99) (tgt := 55) (hd_ends (es := [99]) (by decide) (hd_siinc C dX9_raise_96 (by decide) (by decide))) dX9_raise_99 (by decide) (by decide))) (by decide)))) (hd_sgoto C (p1 := 105) (tgt := 40) (hd_ends (es := [105]) (by decide) (hd_siinc C dX9_raise_102 (by decide) (by decide))) dX9_raise_105 (by decide) (by decide))) (by decide))) (hd_retI C Rk (p1 := 116) (hd_inI (hd_invV C (p1 := 109) (p2 := 113) snd_X9_together rfl gX9_raise_X9_together rfl yX9_raise_X9_together ⟨by decide, by decide⟩ (by decide) (hd_aload_n C dX9_raise_108) (hd_apI (p1 := 109) (p2 := 113) hd_av0 (hd_inI (hd_invV C (p1 := 110) (p2 := 110) snd_X9_allTowns rfl gX9_raise_X9_allTowns rfl yX9_raise_X9_allTowns ⟨by decide, by decide⟩ (by decide) (hd_aload_n C dX9_raise_109) hd_av0 dX9_raise_110))) dX9_raise_113)) dX9_raise_116)))))))
/-! X9_room -/
set_option maxRecDepth 100000 in
theorem uX9_room_X9 : ∀ w ∈ u_ws RX9 TX9 28, w ∈ wsX9_room := by decide +kernel
set_option maxRecDepth 100000 in
theorem lX9_room_58 : Cond.fieldLink RX9 58 (TX9 0).1 (TX9 0).2.1 (TX9 0).2.2.1 ∈ wsX9_room := by decide +kernel
set_option maxRecDepth 100000 in
theorem qX9_room_58 : hd_FP wsX9_room RX9 vwCl 9 0 58 .int := ⟨RX9, TX9, 28, tyX9, rfl, by decide, uX9_room_X9, lX9_room_58, tyX9_ok, nmX9, rfl, rfl⟩
set_option maxRecDepth 100000 in
theorem yX9_room_X9_isHall : yX9_isHall.cls = RX9 ∧ yX9_isHall.cls ≠ "java/lang/invoke/MethodHandle" ∧ yX9_isHall.cls ≠ "java/lang/invoke/VarHandle" ∧ (parseMethodDescriptor yX9_isHall.desc).map (fun d => d.parameters.length) = some 1 := by decide +kernel
set_option maxRecDepth 100000 in
theorem yX9_room_X9_in : yX9_in.cls ≠ "java/lang/invoke/MethodHandle" ∧ yX9_in.cls ≠ "java/lang/invoke/VarHandle" ∧ (parseMethodDescriptor yX9_in.desc).map (fun d => d.parameters.length) = some 3 := by decide +kernel
set_option maxRecDepth 100000 in
theorem yX9_room_X9_keep : yX9_keep.cls = RX9 ∧ yX9_keep.cls ≠ "java/lang/invoke/MethodHandle" ∧ yX9_keep.cls ≠ "java/lang/invoke/VarHandle" ∧ (parseMethodDescriptor yX9_keep.desc).map (fun d => d.parameters.length) = some 0 := by decide +kernel
set_option maxRecDepth 100000 in
theorem lX9_room_22 : Cond.fieldLink RX9 22 (TX9 7).1 (TX9 7).2.1 (TX9 7).2.2.1 ∈ wsX9_room := by decide +kernel
set_option maxRecDepth 100000 in
theorem fX9_room_22 : hd_F wsX9_room RX9 vwCl 9 7 22 := ⟨RX9, TX9, 28, rfl, by decide, uX9_room_X9, lX9_room_22⟩
def wo_X9_room : hd_xS := (hd_sQ (hd_sF hs_sh 9 0 (hd_rL 0) (hd_iK (0))) (hd_sQ (hd_sW (hd_cO (hd_cX (hd_c0 (fun x => !decide (x = 0)) (hd_iN (hd_nV hs_sh 9 (hd_rL 0) 1 (hd_pI hd_v0 (hd_iL 1)) wm_X9_isHall)))) (hd_cX (hd_c0 (fun x => !decide (x = 0)) (hd_iN (hd_nS 3 (hd_pI (hd_pI (hd_pI hd_v0 (hd_iL 2)) (hd_iK (0))) (hd_iK (200))) wm_X9_in))))) (hd_sRI (hd_iK (-3)))) (hd_sQ (hd_sN (hd_nV hs_sh 9 (hd_rL 0) 0 hd_v0 wm_X9_keep)) (hd_sQ (hd_sI 3 (hd_iA hs_sh (hd_rG hs_sh 9 7 (hd_rL 0)) (hd_iL 1))) (hd_sQ (hd_sA hs_sh (hd_rG hs_sh 9 7 (hd_rL 0)) (hd_iL 1) (hd_iL 2)) (hd_sRI (hd_iL 3)))))))
def wm_X9_room : hd_M := hd_mth 4 wo_X9_room
set_option maxHeartbeats 4000000 in
set_option maxRecDepth 100000 in
theorem snd_X9_room : hd_Snd vwCl hs_sh yX9_room wsX9_room 3 wm_X9_room := hd_method (by decide) rfl rfl (by decide) (fun κ C Rk => (hd_seq (p1 := 5) (hd_sputI C (p1 := 1) (p2 := 2) qX9_room_58 (hd_aload_n C dX9_room_0) (hd_iconst C dX9_room_1 (by decide)) dX9_room_2) (hd_seq (p1 := 27) (hd_if (p1 := 24) (p2 := 27) (hd_or (p1 := 13) (p2 := 24) (p3 := 27) (hd_not (hd_z_neF C (p2 := 10) (tgt := 24) (hd_inI (hd_invV C (p1 := 6) (p2 := 7) snd_X9_isHall rfl gX9_room_X9_isHall rfl yX9_room_X9_isHall ⟨by decide, by decide⟩ (by decide) (hd_aload_n C dX9_room_5) (hd_apI (p1 := 6) (p2 := 7) hd_av0 (hd_iload_n C dX9_room_6)) dX9_room_7)) dX9_room_10 (by decide))) (hd_not (hd_z_neT C (p2 := 21) (tgt := 27) (hd_inI (hd_invS C (p2 := 18) snd_X9_in rfl gX9_room_X9_in yX9_room_X9_in ⟨by decide, by decide⟩ (by decide) (hd_apI (p1 := 15) (p2 := 18) (hd_apI (p1 := 14) (p2 := 15) (hd_apI (p1 := 13) (p2 := 14) hd_av0 (hd_iload_n C dX9_room_13)) (hd_iconst C dX9_room_14 (by decide))) (hd_sipush C dX9_room_15 (by decide))) dX9_room_18)) dX9_room_21 (by decide)))) (hd_retI C Rk (p1 := 26) (hd_bipush C dX9_room_24 (by decide)) dX9_room_26) (by decide)) (hd_seq (p1 := 31) (hd_scall (hd_invV C (p1 := 28) (p2 := 28) snd_X9_keep rfl gX9_room_X9_keep rfl yX9_room_X9_keep ⟨by decide, by decide⟩ (by decide) (hd_aload_n C dX9_room_27) hd_av0 dX9_room_28)) (hd_seq (p1 := 38) (hd_sistore_n C (p1 := 37) (hd_iald C (p1 := 35) (p2 := 36) (hd_getR C (p1 := 32) fX9_room_22 (hd_aload_n C dX9_room_31) dX9_room_32) (hd_iload_n C dX9_room_35) dX9_room_36) dX9_room_37 (by decide)) (hd_seq (p1 := 45) (hd_siast C (p1 := 42) (p2 := 43) (p3 := 44) (hd_getR C (p1 := 39) fX9_room_22 (hd_aload_n C dX9_room_38) dX9_room_39) (hd_iload_n C dX9_room_42) (hd_iload_n C dX9_room_43) dX9_room_44) (hd_retI C Rk (p1 := 46) (hd_iload_n C dX9_room_45) dX9_room_46)))))))
/-! X9_sheet -/
set_option maxRecDepth 100000 in
theorem uX9_sheet_X9 : ∀ w ∈ u_ws RX9 TX9 28, w ∈ wsX9_sheet := by decide +kernel
set_option maxRecDepth 100000 in
theorem lX9_sheet_58 : Cond.fieldLink RX9 58 (TX9 0).1 (TX9 0).2.1 (TX9 0).2.2.1 ∈ wsX9_sheet := by decide +kernel
set_option maxRecDepth 100000 in
theorem qX9_sheet_58 : hd_FP wsX9_sheet RX9 vwCl 9 0 58 .int := ⟨RX9, TX9, 28, tyX9, rfl, by decide, uX9_sheet_X9, lX9_sheet_58, tyX9_ok, nmX9, rfl, rfl⟩
set_option maxRecDepth 100000 in
theorem yX9_sheet_X9_isHall : yX9_isHall.cls = RX9 ∧ yX9_isHall.cls ≠ "java/lang/invoke/MethodHandle" ∧ yX9_isHall.cls ≠ "java/lang/invoke/VarHandle" ∧ (parseMethodDescriptor yX9_isHall.desc).map (fun d => d.parameters.length) = some 1 := by decide +kernel
set_option maxRecDepth 100000 in
theorem yX9_sheet_X9_in : yX9_in.cls ≠ "java/lang/invoke/MethodHandle" ∧ yX9_in.cls ≠ "java/lang/invoke/VarHandle" ∧ (parseMethodDescriptor yX9_in.desc).map (fun d => d.parameters.length) = some 3 := by decide +kernel
set_option maxRecDepth 100000 in
theorem yX9_sheet_X9_keep : yX9_keep.cls = RX9 ∧ yX9_keep.cls ≠ "java/lang/invoke/MethodHandle" ∧ yX9_keep.cls ≠ "java/lang/invoke/VarHandle" ∧ (parseMethodDescriptor yX9_keep.desc).map (fun d => d.parameters.length) = some 0 := by decide +kernel
set_option maxRecDepth 100000 in
theorem lX9_sheet_25 : Cond.fieldLink RX9 25 (TX9 8).1 (TX9 8).2.1 (TX9 8).2.2.1 ∈ wsX9_sheet := by decide +kernel
set_option maxRecDepth 100000 in
theorem fX9_sheet_25 : hd_F wsX9_sheet RX9 vwCl 9 8 25 := ⟨RX9, TX9, 28, rfl, by decide, uX9_sheet_X9, lX9_sheet_25⟩
set_option maxRecDepth 100000 in
theorem lX9_sheet_28 : Cond.fieldLink RX9 28 (TX9 9).1 (TX9 9).2.1 (TX9 9).2.2.1 ∈ wsX9_sheet := by decide +kernel
set_option maxRecDepth 100000 in
theorem fX9_sheet_28 : hd_F wsX9_sheet RX9 vwCl 9 9 28 := ⟨RX9, TX9, 28, rfl, by decide, uX9_sheet_X9, lX9_sheet_28⟩
set_option maxRecDepth 100000 in
theorem lX9_sheet_31 : Cond.fieldLink RX9 31 (TX9 10).1 (TX9 10).2.1 (TX9 10).2.2.1 ∈ wsX9_sheet := by decide +kernel
set_option maxRecDepth 100000 in
theorem fX9_sheet_31 : hd_F wsX9_sheet RX9 vwCl 9 10 31 := ⟨RX9, TX9, 28, rfl, by decide, uX9_sheet_X9, lX9_sheet_31⟩
def wc_X9_sheet_59 : hd_xC := (hd_cI (fun x y => decide (x < y)) (hd_iL 4) (hd_iK (8)))
def wb_X9_sheet_59 : hd_xS := (hd_sQ (hd_sA hs_sh (hd_rG hs_sh 9 10 (hd_rL 0)) (hd_iB (fun x y => x + y) (hd_iB (fun x y => x * y) (hd_iK (8)) (hd_iL 1)) (hd_iL 4)) (hd_iK (0))) (hd_sP 4 (1)))
def wo_X9_sheet : hd_xS := (hd_sQ (hd_sF hs_sh 9 0 (hd_rL 0) (hd_iK (0))) (hd_sQ (hd_sW (hd_cO (hd_cO (hd_cX (hd_c0 (fun x => !decide (x = 0)) (hd_iN (hd_nV hs_sh 9 (hd_rL 0) 1 (hd_pI hd_v0 (hd_iL 1)) wm_X9_isHall)))) (hd_cX (hd_c0 (fun x => !decide (x = 0)) (hd_iN (hd_nS 3 (hd_pI (hd_pI (hd_pI hd_v0 (hd_iL 2)) (hd_iK (0))) (hd_iK (2))) wm_X9_in))))) (hd_cI (fun x y => decide (y < x)) (hd_iL 3) (hd_iK (8)))) (hd_sRI (hd_iK (-3)))) (hd_sQ (hd_sW (hd_c0 (fun x => decide (x < 0)) (hd_iL 3)) (hd_sRI (hd_iK (-14)))) (hd_sQ (hd_sN (hd_nV hs_sh 9 (hd_rL 0) 0 hd_v0 wm_X9_keep)) (hd_sQ (hd_sA hs_sh (hd_rG hs_sh 9 8 (hd_rL 0)) (hd_iL 1) (hd_iL 2)) (hd_sQ (hd_sA hs_sh (hd_rG hs_sh 9 9 (hd_rL 0)) (hd_iL 1) (hd_iL 3)) (hd_sQ (hd_sQ (hd_sI 4 (hd_iK (0))) (hd_sH (wc_X9_sheet_59) (wb_X9_sheet_59))) (hd_sRI (hd_iL 3)))))))))
def wm_X9_sheet : hd_M := hd_mth 5 wo_X9_sheet
set_option maxHeartbeats 4000000 in
set_option maxRecDepth 100000 in
theorem snd_X9_sheet : hd_Snd vwCl hs_sh yX9_sheet wsX9_sheet 3 wm_X9_sheet := hd_method (by decide) rfl rfl (by decide) (fun κ C Rk => (hd_seq (p1 := 5) (hd_sputI C (p1 := 1) (p2 := 2) qX9_sheet_58 (hd_aload_n C dX9_sheet_0) (hd_iconst C dX9_sheet_1 (by decide)) dX9_sheet_2) (hd_seq (p1 := 31) (hd_if (p1 := 28) (p2 := 31) (hd_or (p1 := 22) (p2 := 28) (p3 := 31) (hd_or (p1 := 13) (p2 := 28) (p3 := 22) (hd_not (hd_z_neF C (p2 := 10) (tgt := 28) (hd_inI (hd_invV C (p1 := 6) (p2 := 7) snd_X9_isHall rfl gX9_sheet_X9_isHall rfl yX9_sheet_X9_isHall ⟨by decide, by decide⟩ (by decide) (hd_aload_n C dX9_sheet_5) (hd_apI (p1 := 6) (p2 := 7) hd_av0 (hd_iload_n C dX9_sheet_6)) dX9_sheet_7)) dX9_sheet_10 (by decide))) (hd_not (hd_z_neF C (p2 := 19) (tgt := 28) (hd_inI (hd_invS C (p2 := 16) snd_X9_in rfl gX9_sheet_X9_in yX9_sheet_X9_in ⟨by decide, by decide⟩ (by decide) (hd_apI (p1 := 15) (p2 := 16) (hd_apI (p1 := 14) (p2 := 15) (hd_apI (p1 := 13) (p2 := 14) hd_av0 (hd_iload_n C dX9_sheet_13)) (hd_iconst C dX9_sheet_14 (by decide))) (hd_iconst C dX9_sheet_15 (by decide))) dX9_sheet_16)) dX9_sheet_19 (by decide)))) (hd_c_gtF C (p1 := 23) (p2 := 25) (tgt := 31) (hd_iload_n C dX9_sheet_22) (hd_bipush C dX9_sheet_23 (by decide)) dX9_sheet_25 (by decide))) (hd_retI C Rk (p1 := 30) (hd_bipush C dX9_sheet_28 (by decide)) dX9_sheet_30) (by decide)) (hd_seq (p1 := 38) (hd_if (p1 := 35) (p2 := 38) (hd_z_ltF C (p2 := 32) (tgt := 38) (hd_iload_n C dX9_sheet_31) dX9_sheet_32 (by decide)) (hd_retI C Rk (p1 := 37) (hd_bipush C dX9_sheet_35 (by decide)) dX9_sheet_37) (by decide)) (hd_seq (p1 := 42) (hd_scall (hd_invV C (p1 := 39) (p2 := 39) snd_X9_keep rfl gX9_sheet_X9_keep rfl yX9_sheet_X9_keep ⟨by decide, by decide⟩ (by decide) (hd_aload_n C dX9_sheet_38) hd_av0 dX9_sheet_39)) (hd_seq (p1 := 49) (hd_siast C (p1 := 46) (p2 := 47) (p3 := 48) (hd_getR C (p1 := 43) fX9_sheet_25 (hd_aload_n C dX9_sheet_42) dX9_sheet_43) (hd_iload_n C dX9_sheet_46) (hd_iload_n C dX9_sheet_47) dX9_sheet_48) (hd_seq (p1 := 56) (hd_siast C (p1 := 53) (p2 := 54) (p3 := 55) (hd_getR C (p1 := 50) fX9_sheet_28 (hd_aload_n C dX9_sheet_49) dX9_sheet_50) (hd_iload_n C dX9_sheet_53) (hd_iload_n C dX9_sheet_54) dX9_sheet_55) (hd_seq (p1 := 85) (hd_seq (p1 := 59) (hd_sistore C (p1 := 57) (hd_iconst C dX9_sheet_56 (by decide)) dX9_sheet_57 (by decide)) (hd_loop C (p1 := 66) (p2 := 85) (hd_c_ltF C (p1 := 61) (p2 := 63) (tgt := 85) (hd_iload C dX9_sheet_59) (hd_bipush C dX9_sheet_61 (by decide)) dX9_sheet_63 (by decide)) (hd_seq (p1 := 79) (hd_siast C (p1 := 70) (p2 := 77) (p3 := 78) (hd_getR C (p1 := 67) fX9_sheet_31 (hd_aload_n C dX9_sheet_66) dX9_sheet_67) (hd_iadd C (p1 := 74) (p2 := 76) (hd_imul C (p1 := 72) (p2 := 73) (hd_bipush C dX9_sheet_70 (by decide)) (hd_iload_n C dX9_sheet_72) dX9_sheet_73) (hd_iload C dX9_sheet_74) dX9_sheet_76) (hd_iconst C dX9_sheet_77 (by decide)) dX9_sheet_78) (hd_sgoto C (p1 := 82) (tgt := 59) (hd_ends (es := [82]) (by decide) (hd_siinc C dX9_sheet_79 (by decide) (by decide))) dX9_sheet_82 (by decide) (by decide))) (by decide))) (hd_retI C Rk (p1 := 86) (hd_iload_n C dX9_sheet_85) dX9_sheet_86)))))))))
/-! X9_sumOf -/
set_option maxRecDepth 100000 in
theorem uX9_sumOf_X9 : ∀ w ∈ u_ws RX9 TX9 28, w ∈ wsX9_sumOf := by decide +kernel
set_option maxRecDepth 100000 in
theorem lX9_sumOf_68 : Cond.fieldLink RX9 68 (TX9 1).1 (TX9 1).2.1 (TX9 1).2.2.1 ∈ wsX9_sumOf := by decide +kernel
set_option maxRecDepth 100000 in
theorem fX9_sumOf_68 : hd_F wsX9_sumOf RX9 vwCl 9 1 68 := ⟨RX9, TX9, 28, rfl, by decide, uX9_sumOf_X9, lX9_sumOf_68⟩
set_option maxRecDepth 100000 in
theorem yX9_sumOf_X9_has : yX9_has.cls ≠ "java/lang/invoke/MethodHandle" ∧ yX9_has.cls ≠ "java/lang/invoke/VarHandle" ∧ (parseMethodDescriptor yX9_has.desc).map (fun d => d.parameters.length) = some 2 := by decide +kernel
set_option maxRecDepth 100000 in
theorem lX9_sumOf_7 : Cond.fieldLink RX9 7 (TX9 3).1 (TX9 3).2.1 (TX9 3).2.2.1 ∈ wsX9_sumOf := by decide +kernel
set_option maxRecDepth 100000 in
theorem fX9_sumOf_7 : hd_F wsX9_sumOf RX9 vwCl 9 3 7 := ⟨RX9, TX9, 28, rfl, by decide, uX9_sumOf_X9, lX9_sumOf_7⟩
set_option maxRecDepth 100000 in
theorem yX9_sumOf_X9_nearest : yX9_nearest.cls = RX9 ∧ yX9_nearest.cls ≠ "java/lang/invoke/MethodHandle" ∧ yX9_nearest.cls ≠ "java/lang/invoke/VarHandle" ∧ (parseMethodDescriptor yX9_nearest.desc).map (fun d => d.parameters.length) = some 2 := by decide +kernel
set_option maxRecDepth 100000 in
theorem yX9_sumOf_X9_wayOf : yX9_wayOf.cls = RX9 ∧ yX9_wayOf.cls ≠ "java/lang/invoke/MethodHandle" ∧ yX9_wayOf.cls ≠ "java/lang/invoke/VarHandle" ∧ (parseMethodDescriptor yX9_wayOf.desc).map (fun d => d.parameters.length) = some 2 := by decide +kernel
def wc_X9_sumOf_5 : hd_xC := (hd_cI (fun x y => decide (x < y)) (hd_iL 4) (hd_iG hs_sh 9 1 (hd_rL 0)))
def wb_X9_sumOf_5 : hd_xS := (hd_sQ (hd_sI 3 (hd_iB (fun x y => x + y) (hd_iL 3) (hd_iQ (hd_c0 (fun x => !decide (x = 0)) (hd_iN (hd_nS 2 (hd_pI (hd_pI hd_v0 (hd_iL 2)) (hd_iL 4)) wm_X9_has))) (hd_iB (fun x y => x * y) (hd_iA hs_sh (hd_rG hs_sh 9 3 (hd_rL 0)) (hd_iL 4)) (hd_iN (hd_nV hs_sh 9 (hd_rL 0) 2 (hd_pI (hd_pI hd_v0 (hd_iN (hd_nV hs_sh 9 (hd_rL 0) 2 (hd_pI (hd_pI hd_v0 (hd_iL 1)) (hd_iL 4)) wm_X9_nearest))) (hd_iL 4)) wm_X9_wayOf))) (hd_iK (0))))) (hd_sP 4 (1)))
def wo_X9_sumOf : hd_xS := (hd_sQ (hd_sI 3 (hd_iK (0))) (hd_sQ (hd_sQ (hd_sI 4 (hd_iK (0))) (hd_sH (wc_X9_sumOf_5) (wb_X9_sumOf_5))) (hd_sRI (hd_iL 3))))
def wm_X9_sumOf : hd_M := hd_mth 5 wo_X9_sumOf
set_option maxHeartbeats 4000000 in
set_option maxRecDepth 100000 in
theorem snd_X9_sumOf : hd_Snd vwCl hs_sh yX9_sumOf wsX9_sumOf 3 wm_X9_sumOf := hd_method (by decide) rfl rfl (by decide) (fun κ C Rk => (hd_seq (p1 := 2) (hd_sistore_n C (p1 := 1) (hd_iconst C dX9_sumOf_0 (by decide)) dX9_sumOf_1 (by decide)) (hd_seq (p1 := 57) (hd_seq (p1 := 5) (hd_sistore C (p1 := 3) (hd_iconst C dX9_sumOf_2 (by decide)) dX9_sumOf_3 (by decide)) (hd_loop C (p1 := 14) (p2 := 57) (hd_c_ltF C (p1 := 7) (p2 := 11) (tgt := 57) (hd_iload C dX9_sumOf_5) (hd_getI C (p1 := 8) fX9_sumOf_68 (hd_aload_n C dX9_sumOf_7) dX9_sumOf_8) dX9_sumOf_11 (by decide)) (hd_seq (p1 := 51) (hd_sistore_n C (p1 := 50) (hd_iadd C (p1 := 15) (p2 := 49) (hd_iload_n C dX9_sumOf_14) (hd_tnI C (p1 := 24) (p2 := 45) (p3 := 48) (p4 := 49) (hd_z_neF C (p2 := 21) (tgt := 48) (hd_inI (hd_invS C (p2 := 18) snd_X9_has rfl gX9_sumOf_X9_has yX9_sumOf_X9_has ⟨by decide, by decide⟩ (by decide) (hd_apI (p1 := 16) (p2 := 18) (hd_apI (p1 := 15) (p2 := 16) hd_av0 (hd_iload_n C dX9_sumOf_15)) (hd_iload C dX9_sumOf_16)) dX9_sumOf_18)) dX9_sumOf_21 (by decide)) (hd_imul C (p1 := 31) (p2 := 44) (hd_iald C (p1 := 28) (p2 := 30) (hd_getR C (p1 := 25) fX9_sumOf_7 (hd_aload_n C dX9_sumOf_24) dX9_sumOf_25) (hd_iload C dX9_sumOf_28) dX9_sumOf_30) (hd_inI (hd_invV C (p1 := 32) (p2 := 41) snd_X9_wayOf rfl gX9_sumOf_X9_wayOf rfl yX9_sumOf_X9_wayOf ⟨by decide, by decide⟩ (by decide) (hd_aload_n C dX9_sumOf_31) (hd_apI (p1 := 39) (p2 := 41) (hd_apI (p1 := 32) (p2 := 39) hd_av0 (hd_inI (hd_invV C (p1 := 33) (p2 := 36) snd_X9_nearest rfl gX9_sumOf_X9_nearest rfl yX9_sumOf_X9_nearest ⟨by decide, by decide⟩ (by decide) (hd_aload_n C dX9_sumOf_32) (hd_apI (p1 := 34) (p2 := 36) (hd_apI (p1 := 33) (p2 := 34) hd_av0 (hd_iload_n C dX9_sumOf_33)) (hd_iload C dX9_sumOf_34)) dX9_sumOf_36))) (hd_iload C dX9_sumOf_39)) dX9_sumOf_41)) dX9_sumOf_44) dX9_sumOf_45 (by decide) (hd_iconst C dX9_sumOf_48 (by decide))) dX9_sumOf_49) dX9_sumOf_50 (by decide)) (hd_sgoto C (p1 := 54) (tgt := 5) (hd_ends (es := [54]) (by decide) (hd_siinc C dX9_sumOf_51 (by decide) (by decide))) dX9_sumOf_54 (by decide) (by decide))) (by decide))) (hd_retI C Rk (p1 := 58) (hd_iload_n C dX9_sumOf_57) dX9_sumOf_58))))
/-! X9_taken -/
set_option maxRecDepth 100000 in
theorem uX9_taken_X9 : ∀ w ∈ u_ws RX9 TX9 28, w ∈ wsX9_taken := by decide +kernel
set_option maxRecDepth 100000 in
theorem lX9_taken_68 : Cond.fieldLink RX9 68 (TX9 1).1 (TX9 1).2.1 (TX9 1).2.2.1 ∈ wsX9_taken := by decide +kernel
set_option maxRecDepth 100000 in
theorem fX9_taken_68 : hd_F wsX9_taken RX9 vwCl 9 1 68 := ⟨RX9, TX9, 28, rfl, by decide, uX9_taken_X9, lX9_taken_68⟩
set_option maxRecDepth 100000 in
theorem yX9_taken_X9_wayOf : yX9_wayOf.cls = RX9 ∧ yX9_wayOf.cls ≠ "java/lang/invoke/MethodHandle" ∧ yX9_wayOf.cls ≠ "java/lang/invoke/VarHandle" ∧ (parseMethodDescriptor yX9_wayOf.desc).map (fun d => d.parameters.length) = some 2 := by decide +kernel
set_option maxRecDepth 100000 in
theorem yX9_taken_X9_nearest : yX9_nearest.cls = RX9 ∧ yX9_nearest.cls ≠ "java/lang/invoke/MethodHandle" ∧ yX9_nearest.cls ≠ "java/lang/invoke/VarHandle" ∧ (parseMethodDescriptor yX9_nearest.desc).map (fun d => d.parameters.length) = some 2 := by decide +kernel
set_option maxRecDepth 100000 in
theorem lX9_taken_7 : Cond.fieldLink RX9 7 (TX9 3).1 (TX9 3).2.1 (TX9 3).2.2.1 ∈ wsX9_taken := by decide +kernel
set_option maxRecDepth 100000 in
theorem fX9_taken_7 : hd_F wsX9_taken RX9 vwCl 9 3 7 := ⟨RX9, TX9, 28, rfl, by decide, uX9_taken_X9, lX9_taken_7⟩
def wc_X9_taken_5 : hd_xC := (hd_cI (fun x y => decide (x < y)) (hd_iL 4) (hd_iG hs_sh 9 1 (hd_rL 0)))
def wb_X9_taken_5 : hd_xS := (hd_sQ (hd_sI 3 (hd_iB (fun x y => x + y) (hd_iL 3) (hd_iQ (hd_cI (fun x y => decide (x < y)) (hd_iN (hd_nV hs_sh 9 (hd_rL 0) 2 (hd_pI (hd_pI hd_v0 (hd_iL 2)) (hd_iL 4)) wm_X9_wayOf)) (hd_iN (hd_nV hs_sh 9 (hd_rL 0) 2 (hd_pI (hd_pI hd_v0 (hd_iN (hd_nV hs_sh 9 (hd_rL 0) 2 (hd_pI (hd_pI hd_v0 (hd_iL 1)) (hd_iL 4)) wm_X9_nearest))) (hd_iL 4)) wm_X9_wayOf))) (hd_iA hs_sh (hd_rG hs_sh 9 3 (hd_rL 0)) (hd_iL 4)) (hd_iK (0))))) (hd_sP 4 (1)))
def wo_X9_taken : hd_xS := (hd_sQ (hd_sI 3 (hd_iK (0))) (hd_sQ (hd_sQ (hd_sI 4 (hd_iK (0))) (hd_sH (wc_X9_taken_5) (wb_X9_taken_5))) (hd_sRI (hd_iL 3))))
def wm_X9_taken : hd_M := hd_mth 5 wo_X9_taken
set_option maxHeartbeats 4000000 in
set_option maxRecDepth 100000 in
theorem snd_X9_taken : hd_Snd vwCl hs_sh yX9_taken wsX9_taken 3 wm_X9_taken := hd_method (by decide) rfl rfl (by decide) (fun κ C Rk => (hd_seq (p1 := 2) (hd_sistore_n C (p1 := 1) (hd_iconst C dX9_taken_0 (by decide)) dX9_taken_1 (by decide)) (hd_seq (p1 := 57) (hd_seq (p1 := 5) (hd_sistore C (p1 := 3) (hd_iconst C dX9_taken_2 (by decide)) dX9_taken_3 (by decide)) (hd_loop C (p1 := 14) (p2 := 57) (hd_c_ltF C (p1 := 7) (p2 := 11) (tgt := 57) (hd_iload C dX9_taken_5) (hd_getI C (p1 := 8) fX9_taken_68 (hd_aload_n C dX9_taken_7) dX9_taken_8) dX9_taken_11 (by decide)) (hd_seq (p1 := 51) (hd_sistore_n C (p1 := 50) (hd_iadd C (p1 := 15) (p2 := 49) (hd_iload_n C dX9_taken_14) (hd_tnI C (p1 := 38) (p2 := 45) (p3 := 48) (p4 := 49) (hd_c_ltF C (p1 := 22) (p2 := 35) (tgt := 48) (hd_inI (hd_invV C (p1 := 16) (p2 := 19) snd_X9_wayOf rfl gX9_taken_X9_wayOf rfl yX9_taken_X9_wayOf ⟨by decide, by decide⟩ (by decide) (hd_aload_n C dX9_taken_15) (hd_apI (p1 := 17) (p2 := 19) (hd_apI (p1 := 16) (p2 := 17) hd_av0 (hd_iload_n C dX9_taken_16)) (hd_iload C dX9_taken_17)) dX9_taken_19)) (hd_inI (hd_invV C (p1 := 23) (p2 := 32) snd_X9_wayOf rfl gX9_taken_X9_wayOf rfl yX9_taken_X9_wayOf ⟨by decide, by decide⟩ (by decide) (hd_aload_n C dX9_taken_22) (hd_apI (p1 := 30) (p2 := 32) (hd_apI (p1 := 23) (p2 := 30) hd_av0 (hd_inI (hd_invV C (p1 := 24) (p2 := 27) snd_X9_nearest rfl gX9_taken_X9_nearest rfl yX9_taken_X9_nearest ⟨by decide, by decide⟩ (by decide) (hd_aload_n C dX9_taken_23) (hd_apI (p1 := 25) (p2 := 27) (hd_apI (p1 := 24) (p2 := 25) hd_av0 (hd_iload_n C dX9_taken_24)) (hd_iload C dX9_taken_25)) dX9_taken_27))) (hd_iload C dX9_taken_30)) dX9_taken_32)) dX9_taken_35 (by decide)) (hd_iald C (p1 := 42) (p2 := 44) (hd_getR C (p1 := 39) fX9_taken_7 (hd_aload_n C dX9_taken_38) dX9_taken_39) (hd_iload C dX9_taken_42) dX9_taken_44) dX9_taken_45 (by decide) (hd_iconst C dX9_taken_48 (by decide))) dX9_taken_49) dX9_taken_50 (by decide)) (hd_sgoto C (p1 := 54) (tgt := 5) (hd_ends (es := [54]) (by decide) (hd_siinc C dX9_taken_51 (by decide) (by decide))) dX9_taken_54 (by decide) (by decide))) (by decide))) (hd_retI C Rk (p1 := 58) (hd_iload_n C dX9_taken_57) dX9_taken_58))))
/-! X9_town -/
set_option maxRecDepth 100000 in
theorem uX9_town_X9 : ∀ w ∈ u_ws RX9 TX9 28, w ∈ wsX9_town := by decide +kernel
set_option maxRecDepth 100000 in
theorem lX9_town_58 : Cond.fieldLink RX9 58 (TX9 0).1 (TX9 0).2.1 (TX9 0).2.2.1 ∈ wsX9_town := by decide +kernel
set_option maxRecDepth 100000 in
theorem qX9_town_58 : hd_FP wsX9_town RX9 vwCl 9 0 58 .int := ⟨RX9, TX9, 28, tyX9, rfl, by decide, uX9_town_X9, lX9_town_58, tyX9_ok, nmX9, rfl, rfl⟩
set_option maxRecDepth 100000 in
theorem lX9_town_68 : Cond.fieldLink RX9 68 (TX9 1).1 (TX9 1).2.1 (TX9 1).2.2.1 ∈ wsX9_town := by decide +kernel
set_option maxRecDepth 100000 in
theorem fX9_town_68 : hd_F wsX9_town RX9 vwCl 9 1 68 := ⟨RX9, TX9, 28, rfl, by decide, uX9_town_X9, lX9_town_68⟩
set_option maxRecDepth 100000 in
theorem yX9_town_X9_keep : yX9_keep.cls = RX9 ∧ yX9_keep.cls ≠ "java/lang/invoke/MethodHandle" ∧ yX9_keep.cls ≠ "java/lang/invoke/VarHandle" ∧ (parseMethodDescriptor yX9_keep.desc).map (fun d => d.parameters.length) = some 0 := by decide +kernel
set_option maxRecDepth 100000 in
theorem lX9_town_7 : Cond.fieldLink RX9 7 (TX9 3).1 (TX9 3).2.1 (TX9 3).2.2.1 ∈ wsX9_town := by decide +kernel
set_option maxRecDepth 100000 in
theorem fX9_town_7 : hd_F wsX9_town RX9 vwCl 9 3 7 := ⟨RX9, TX9, 28, rfl, by decide, uX9_town_X9, lX9_town_7⟩
set_option maxRecDepth 100000 in
theorem lX9_town_13 : Cond.fieldLink RX9 13 (TX9 4).1 (TX9 4).2.1 (TX9 4).2.2.1 ∈ wsX9_town := by decide +kernel
set_option maxRecDepth 100000 in
theorem fX9_town_13 : hd_F wsX9_town RX9 vwCl 9 4 13 := ⟨RX9, TX9, 28, rfl, by decide, uX9_town_X9, lX9_town_13⟩
set_option maxRecDepth 100000 in
theorem lX9_town_16 : Cond.fieldLink RX9 16 (TX9 5).1 (TX9 5).2.1 (TX9 5).2.2.1 ∈ wsX9_town := by decide +kernel
set_option maxRecDepth 100000 in
theorem fX9_town_16 : hd_F wsX9_town RX9 vwCl 9 5 16 := ⟨RX9, TX9, 28, rfl, by decide, uX9_town_X9, lX9_town_16⟩
set_option maxRecDepth 100000 in
theorem qX9_town_68 : hd_FP wsX9_town RX9 vwCl 9 1 68 .int := ⟨RX9, TX9, 28, tyX9, rfl, by decide, uX9_town_X9, lX9_town_68, tyX9_ok, nmX9, rfl, rfl⟩
def wo_X9_town : hd_xS := (hd_sQ (hd_sF hs_sh 9 0 (hd_rL 0) (hd_iK (0))) (hd_sQ (hd_sW (hd_cI (fun x y => decide (x = y)) (hd_iG hs_sh 9 1 (hd_rL 0)) (hd_iK (8))) (hd_sRI (hd_iK (-5)))) (hd_sQ (hd_sN (hd_nV hs_sh 9 (hd_rL 0) 0 hd_v0 wm_X9_keep)) (hd_sQ (hd_sA hs_sh (hd_rG hs_sh 9 3 (hd_rL 0)) (hd_iG hs_sh 9 1 (hd_rL 0)) (hd_iK (1))) (hd_sQ (hd_sA hs_sh (hd_rG hs_sh 9 4 (hd_rL 0)) (hd_iG hs_sh 9 1 (hd_rL 0)) (hd_iK (0))) (hd_sQ (hd_sA hs_sh (hd_rG hs_sh 9 5 (hd_rL 0)) (hd_iG hs_sh 9 1 (hd_rL 0)) (hd_iK (0))) (hd_sQ (hd_sG (fun x y => x + y) hs_sh 9 1 (hd_rL 0) (hd_iK (1))) (hd_sRI (hd_iB (fun x y => x - y) (hd_iG hs_sh 9 1 (hd_rL 0)) (hd_iK (1)))))))))))
def wm_X9_town : hd_M := hd_mth 1 wo_X9_town
set_option maxHeartbeats 4000000 in
set_option maxRecDepth 100000 in
theorem snd_X9_town : hd_Snd vwCl hs_sh yX9_town wsX9_town 3 wm_X9_town := hd_method (by decide) rfl rfl (by decide) (fun κ C Rk => (hd_seq (p1 := 5) (hd_sputI C (p1 := 1) (p2 := 2) qX9_town_58 (hd_aload_n C dX9_town_0) (hd_iconst C dX9_town_1 (by decide)) dX9_town_2) (hd_seq (p1 := 17) (hd_if (p1 := 14) (p2 := 17) (hd_c_eqF C (p1 := 9) (p2 := 11) (tgt := 17) (hd_getI C (p1 := 6) fX9_town_68 (hd_aload_n C dX9_town_5) dX9_town_6) (hd_bipush C dX9_town_9 (by decide)) dX9_town_11 (by decide)) (hd_retI C Rk (p1 := 16) (hd_bipush C dX9_town_14 (by decide)) dX9_town_16) (by decide)) (hd_seq (p1 := 21) (hd_scall (hd_invV C (p1 := 18) (p2 := 18) snd_X9_keep rfl gX9_town_X9_keep rfl yX9_town_X9_keep ⟨by decide, by decide⟩ (by decide) (hd_aload_n C dX9_town_17) hd_av0 dX9_town_18)) (hd_seq (p1 := 31) (hd_siast C (p1 := 25) (p2 := 29) (p3 := 30) (hd_getR C (p1 := 22) fX9_town_7 (hd_aload_n C dX9_town_21) dX9_town_22) (hd_getI C (p1 := 26) fX9_town_68 (hd_aload_n C dX9_town_25) dX9_town_26) (hd_iconst C dX9_town_29 (by decide)) dX9_town_30) (hd_seq (p1 := 41) (hd_siast C (p1 := 35) (p2 := 39) (p3 := 40) (hd_getR C (p1 := 32) fX9_town_13 (hd_aload_n C dX9_town_31) dX9_town_32) (hd_getI C (p1 := 36) fX9_town_68 (hd_aload_n C dX9_town_35) dX9_town_36) (hd_iconst C dX9_town_39 (by decide)) dX9_town_40) (hd_seq (p1 := 51) (hd_siast C (p1 := 45) (p2 := 49) (p3 := 50) (hd_getR C (p1 := 42) fX9_town_16 (hd_aload_n C dX9_town_41) dX9_town_42) (hd_getI C (p1 := 46) fX9_town_68 (hd_aload_n C dX9_town_45) dX9_town_46) (hd_iconst C dX9_town_49 (by decide)) dX9_town_50) (hd_seq (p1 := 61) (hd_sfld_iadd C (p1 := 52) (p2 := 57) fX9_town_68 qX9_town_68 (hd_aload_n C dX9_town_51) dX9_town_52 dX9_town_53 (hd_iconst C dX9_town_56 (by decide)) dX9_town_57 dX9_town_58) (hd_retI C Rk (p1 := 67) (hd_isub C (p1 := 65) (p2 := 66) (hd_getI C (p1 := 62) fX9_town_68 (hd_aload_n C dX9_town_61) dX9_town_62) (hd_iconst C dX9_town_65 (by decide)) dX9_town_66) dX9_town_67)))))))))
/-! X9_way -/
set_option maxRecDepth 100000 in
theorem uX9_way_X9 : ∀ w ∈ u_ws RX9 TX9 28, w ∈ wsX9_way := by decide +kernel
set_option maxRecDepth 100000 in
theorem lX9_way_58 : Cond.fieldLink RX9 58 (TX9 0).1 (TX9 0).2.1 (TX9 0).2.2.1 ∈ wsX9_way := by decide +kernel
set_option maxRecDepth 100000 in
theorem qX9_way_58 : hd_FP wsX9_way RX9 vwCl 9 0 58 .int := ⟨RX9, TX9, 28, tyX9, rfl, by decide, uX9_way_X9, lX9_way_58, tyX9_ok, nmX9, rfl, rfl⟩
set_option maxRecDepth 100000 in
theorem yX9_way_X9_isHall : yX9_isHall.cls = RX9 ∧ yX9_isHall.cls ≠ "java/lang/invoke/MethodHandle" ∧ yX9_isHall.cls ≠ "java/lang/invoke/VarHandle" ∧ (parseMethodDescriptor yX9_isHall.desc).map (fun d => d.parameters.length) = some 1 := by decide +kernel
set_option maxRecDepth 100000 in
theorem lX9_way_25 : Cond.fieldLink RX9 25 (TX9 8).1 (TX9 8).2.1 (TX9 8).2.2.1 ∈ wsX9_way := by decide +kernel
set_option maxRecDepth 100000 in
theorem fX9_way_25 : hd_F wsX9_way RX9 vwCl 9 8 25 := ⟨RX9, TX9, 28, rfl, by decide, uX9_way_X9, lX9_way_25⟩
set_option maxRecDepth 100000 in
theorem lX9_way_28 : Cond.fieldLink RX9 28 (TX9 9).1 (TX9 9).2.1 (TX9 9).2.2.1 ∈ wsX9_way := by decide +kernel
set_option maxRecDepth 100000 in
theorem fX9_way_28 : hd_F wsX9_way RX9 vwCl 9 9 28 := ⟨RX9, TX9, 28, rfl, by decide, uX9_way_X9, lX9_way_28⟩
set_option maxRecDepth 100000 in
theorem yX9_way_X9_in : yX9_in.cls ≠ "java/lang/invoke/MethodHandle" ∧ yX9_in.cls ≠ "java/lang/invoke/VarHandle" ∧ (parseMethodDescriptor yX9_in.desc).map (fun d => d.parameters.length) = some 3 := by decide +kernel
set_option maxRecDepth 100000 in
theorem yX9_way_X9_keep : yX9_keep.cls = RX9 ∧ yX9_keep.cls ≠ "java/lang/invoke/MethodHandle" ∧ yX9_keep.cls ≠ "java/lang/invoke/VarHandle" ∧ (parseMethodDescriptor yX9_keep.desc).map (fun d => d.parameters.length) = some 0 := by decide +kernel
set_option maxRecDepth 100000 in
theorem lX9_way_31 : Cond.fieldLink RX9 31 (TX9 10).1 (TX9 10).2.1 (TX9 10).2.2.1 ∈ wsX9_way := by decide +kernel
set_option maxRecDepth 100000 in
theorem fX9_way_31 : hd_F wsX9_way RX9 vwCl 9 10 31 := ⟨RX9, TX9, 28, rfl, by decide, uX9_way_X9, lX9_way_31⟩
def wo_X9_way : hd_xS := (hd_sQ (hd_sF hs_sh 9 0 (hd_rL 0) (hd_iK (0))) (hd_sQ (hd_sW (hd_cX (hd_c0 (fun x => !decide (x = 0)) (hd_iN (hd_nV hs_sh 9 (hd_rL 0) 1 (hd_pI hd_v0 (hd_iL 1)) wm_X9_isHall)))) (hd_sRI (hd_iK (-3)))) (hd_sQ (hd_sW (hd_cI (fun x y => decide (x = y)) (hd_iA hs_sh (hd_rG hs_sh 9 8 (hd_rL 0)) (hd_iL 1)) (hd_iK (-1))) (hd_sRI (hd_iK (-11)))) (hd_sQ (hd_sW (hd_cX (hd_c0 (fun x => !decide (x = 0)) (hd_iN (hd_nS 3 (hd_pI (hd_pI (hd_pI hd_v0 (hd_iL 2)) (hd_iK (0))) (hd_iB (fun x y => x - y) (hd_iA hs_sh (hd_rG hs_sh 9 9 (hd_rL 0)) (hd_iL 1)) (hd_iK (1)))) wm_X9_in)))) (hd_sRI (hd_iK (-13)))) (hd_sQ (hd_sW (hd_cX (hd_c0 (fun x => !decide (x = 0)) (hd_iN (hd_nS 3 (hd_pI (hd_pI (hd_pI hd_v0 (hd_iL 3)) (hd_iK (0))) (hd_iQ (hd_c0 (fun x => decide (x = 0)) (hd_iA hs_sh (hd_rG hs_sh 9 8 (hd_rL 0)) (hd_iL 1))) (hd_iK (127)) (hd_iK (1000)))) wm_X9_in)))) (hd_sRI (hd_iK (-3)))) (hd_sQ (hd_sN (hd_nV hs_sh 9 (hd_rL 0) 0 hd_v0 wm_X9_keep)) (hd_sQ (hd_sI 4 (hd_iA hs_sh (hd_rG hs_sh 9 10 (hd_rL 0)) (hd_iB (fun x y => x + y) (hd_iB (fun x y => x * y) (hd_iK (8)) (hd_iL 1)) (hd_iL 2)))) (hd_sQ (hd_sA hs_sh (hd_rG hs_sh 9 10 (hd_rL 0)) (hd_iB (fun x y => x + y) (hd_iB (fun x y => x * y) (hd_iK (8)) (hd_iL 1)) (hd_iL 2)) (hd_iL 3)) (hd_sRI (hd_iL 4))))))))))
def wm_X9_way : hd_M := hd_mth 5 wo_X9_way
set_option maxHeartbeats 4000000 in
set_option maxRecDepth 100000 in
theorem snd_X9_way : hd_Snd vwCl hs_sh yX9_way wsX9_way 3 wm_X9_way := hd_method (by decide) rfl rfl (by decide) (fun κ C Rk => (hd_seq (p1 := 5) (hd_sputI C (p1 := 1) (p2 := 2) qX9_way_58 (hd_aload_n C dX9_way_0) (hd_iconst C dX9_way_1 (by decide)) dX9_way_2) (hd_seq (p1 := 16) (hd_if (p1 := 13) (p2 := 16) (hd_not (hd_z_neT C (p2 := 10) (tgt := 16) (hd_inI (hd_invV C (p1 := 6) (p2 := 7) snd_X9_isHall rfl gX9_way_X9_isHall rfl yX9_way_X9_isHall ⟨by decide, by decide⟩ (by decide) (hd_aload_n C dX9_way_5) (hd_apI (p1 := 6) (p2 := 7) hd_av0 (hd_iload_n C dX9_way_6)) dX9_way_7)) dX9_way_10 (by decide))) (hd_retI C Rk (p1 := 15) (hd_bipush C dX9_way_13 (by decide)) dX9_way_15) (by decide)) (hd_seq (p1 := 29) (hd_if (p1 := 26) (p2 := 29) (hd_c_eqF C (p1 := 22) (p2 := 23) (tgt := 29) (hd_iald C (p1 := 20) (p2 := 21) (hd_getR C (p1 := 17) fX9_way_25 (hd_aload_n C dX9_way_16) dX9_way_17) (hd_iload_n C dX9_way_20) dX9_way_21) (hd_iconst C dX9_way_22 (by decide)) dX9_way_23 (by decide)) (hd_retI C Rk (p1 := 28) (hd_bipush C dX9_way_26 (by decide)) dX9_way_28) (by decide)) (hd_seq (p1 := 48) (hd_if (p1 := 45) (p2 := 48) (hd_not (hd_z_neT C (p2 := 42) (tgt := 48) (hd_inI (hd_invS C (p2 := 39) snd_X9_in rfl gX9_way_X9_in yX9_way_X9_in ⟨by decide, by decide⟩ (by decide) (hd_apI (p1 := 31) (p2 := 39) (hd_apI (p1 := 30) (p2 := 31) (hd_apI (p1 := 29) (p2 := 30) hd_av0 (hd_iload_n C dX9_way_29)) (hd_iconst C dX9_way_30 (by decide))) (hd_isub C (p1 := 37) (p2 := 38) (hd_iald C (p1 := 35) (p2 := 36) (hd_getR C (p1 := 32) fX9_way_28 (hd_aload_n C dX9_way_31) dX9_way_32) (hd_iload_n C dX9_way_35) dX9_way_36) (hd_iconst C dX9_way_37 (by decide)) dX9_way_38)) dX9_way_39)) dX9_way_42 (by decide))) (hd_retI C Rk (p1 := 47) (hd_bipush C dX9_way_45 (by decide)) dX9_way_47) (by decide)) (hd_seq (p1 := 76) (hd_if (p1 := 73) (p2 := 76) (hd_not (hd_z_neT C (p2 := 70) (tgt := 76) (hd_inI (hd_invS C (p2 := 67) snd_X9_in rfl gX9_way_X9_in yX9_way_X9_in ⟨by decide, by decide⟩ (by decide) (hd_apI (p1 := 50) (p2 := 67) (hd_apI (p1 := 49) (p2 := 50) (hd_apI (p1 := 48) (p2 := 49) hd_av0 (hd_iload_n C dX9_way_48)) (hd_iconst C dX9_way_49 (by decide))) (hd_tnI C (p1 := 59) (p2 := 61) (p3 := 64) (p4 := 67) (hd_z_eqF C (p2 := 56) (tgt := 64) (hd_iald C (p1 := 54) (p2 := 55) (hd_getR C (p1 := 51) fX9_way_25 (hd_aload_n C dX9_way_50) dX9_way_51) (hd_iload_n C dX9_way_54) dX9_way_55) dX9_way_56 (by decide)) (hd_bipush C dX9_way_59 (by decide)) dX9_way_61 (by decide) (hd_sipush C dX9_way_64 (by decide)))) dX9_way_67)) dX9_way_70 (by decide))) (hd_retI C Rk (p1 := 75) (hd_bipush C dX9_way_73 (by decide)) dX9_way_75) (by decide)) (hd_seq (p1 := 80) (hd_scall (hd_invV C (p1 := 77) (p2 := 77) snd_X9_keep rfl gX9_way_X9_keep rfl yX9_way_X9_keep ⟨by decide, by decide⟩ (by decide) (hd_aload_n C dX9_way_76) hd_av0 dX9_way_77)) (hd_seq (p1 := 93) (hd_sistore C (p1 := 91) (hd_iald C (p1 := 84) (p2 := 90) (hd_getR C (p1 := 81) fX9_way_31 (hd_aload_n C dX9_way_80) dX9_way_81) (hd_iadd C (p1 := 88) (p2 := 89) (hd_imul C (p1 := 86) (p2 := 87) (hd_bipush C dX9_way_84 (by decide)) (hd_iload_n C dX9_way_86) dX9_way_87) (hd_iload_n C dX9_way_88) dX9_way_89) dX9_way_90) dX9_way_91 (by decide)) (hd_seq (p1 := 105) (hd_siast C (p1 := 97) (p2 := 103) (p3 := 104) (hd_getR C (p1 := 94) fX9_way_31 (hd_aload_n C dX9_way_93) dX9_way_94) (hd_iadd C (p1 := 101) (p2 := 102) (hd_imul C (p1 := 99) (p2 := 100) (hd_bipush C dX9_way_97 (by decide)) (hd_iload_n C dX9_way_99) dX9_way_100) (hd_iload_n C dX9_way_101) dX9_way_102) (hd_iload_n C dX9_way_103) dX9_way_104) (hd_retI C Rk (p1 := 107) (hd_iload C dX9_way_105) dX9_way_107))))))))))
/-! X0_alikeRounds -/
set_option maxRecDepth 100000 in
theorem uX0_alikeRounds_X0 : ∀ w ∈ u_ws RX0 TX0 3, w ∈ wsX0_alikeRounds := by decide +kernel
set_option maxRecDepth 100000 in
theorem lX0_alikeRounds_18 : Cond.fieldLink RX0 18 (TX0 0).1 (TX0 0).2.1 (TX0 0).2.2.1 ∈ wsX0_alikeRounds := by decide +kernel
set_option maxRecDepth 100000 in
theorem fX0_alikeRounds_18 : hd_F wsX0_alikeRounds RX0 vwCl 0 0 18 := ⟨RX0, TX0, 3, rfl, by decide, uX0_alikeRounds_X0, lX0_alikeRounds_18⟩
set_option maxRecDepth 100000 in
theorem uX0_alikeRounds_X5 : ∀ w ∈ u_ws RX5 TX5 10, w ∈ wsX0_alikeRounds := by decide +kernel
set_option maxRecDepth 100000 in
theorem lX0_alikeRounds_22 : Cond.fieldLink RX0 22 (TX5 0).1 (TX5 0).2.1 (TX5 0).2.2.1 ∈ wsX0_alikeRounds := by decide +kernel
set_option maxRecDepth 100000 in
theorem fX0_alikeRounds_22 : hd_F wsX0_alikeRounds RX0 vwCl 5 0 22 := ⟨RX5, TX5, 10, rfl, by decide, uX0_alikeRounds_X5, lX0_alikeRounds_22⟩
set_option maxRecDepth 100000 in
theorem yX0_alikeRounds_X5_isIn : yX5_isIn.cls ≠ "java/lang/invoke/MethodHandle" ∧ yX5_isIn.cls ≠ "java/lang/invoke/VarHandle" ∧ (parseMethodDescriptor yX5_isIn.desc).map (fun d => d.parameters.length) = some 2 := by decide +kernel
set_option maxRecDepth 100000 in
theorem yX0_alikeRounds_X0_roundsTillPaying : yX0_roundsTillPaying.cls = RX0 ∧ yX0_roundsTillPaying.cls ≠ "java/lang/invoke/MethodHandle" ∧ yX0_roundsTillPaying.cls ≠ "java/lang/invoke/VarHandle" ∧ (parseMethodDescriptor yX0_roundsTillPaying.desc).map (fun d => d.parameters.length) = some 2 := by decide +kernel
set_option maxRecDepth 100000 in
theorem wX0_alikeRounds_8 : Cond.methodLink RX0 83 Lib.Math.min.name ∈ wsX0_alikeRounds := by decide +kernel
set_option maxRecDepth 100000 in
theorem wX0_alikeRounds_9 : Cond.static Lib.Math.min.name ∈ wsX0_alikeRounds := by decide +kernel
set_option maxRecDepth 100000 in
theorem wX0_alikeRounds_10 : Cond.initialized "java/lang/Math" ∈ wsX0_alikeRounds := by decide +kernel
set_option maxRecDepth 100000 in
theorem wX0_alikeRounds_11 : Cond.code Lib.Math.min.name Lib.Math.min.code 2 (some .int) ∈ wsX0_alikeRounds := by decide +kernel
set_option maxRecDepth 100000 in
theorem lX0_alikeRounds_32 : Cond.fieldLink RX0 32 (TX5 1).1 (TX5 1).2.1 (TX5 1).2.2.1 ∈ wsX0_alikeRounds := by decide +kernel
set_option maxRecDepth 100000 in
theorem fX0_alikeRounds_32 : hd_F wsX0_alikeRounds RX0 vwCl 5 1 32 := ⟨RX5, TX5, 10, rfl, by decide, uX0_alikeRounds_X5, lX0_alikeRounds_32⟩
set_option maxRecDepth 100000 in
theorem yX0_alikeRounds_X0_payersOf : yX0_payersOf.cls = RX0 ∧ yX0_payersOf.cls ≠ "java/lang/invoke/MethodHandle" ∧ yX0_payersOf.cls ≠ "java/lang/invoke/VarHandle" ∧ (parseMethodDescriptor yX0_payersOf.desc).map (fun d => d.parameters.length) = some 2 := by decide +kernel
set_option maxRecDepth 100000 in
theorem lX0_alikeRounds_15 : Cond.fieldLink RX0 15 (TX0 2).1 (TX0 2).2.1 (TX0 2).2.2.1 ∈ wsX0_alikeRounds := by decide +kernel
set_option maxRecDepth 100000 in
theorem fX0_alikeRounds_15 : hd_F wsX0_alikeRounds RX0 vwCl 0 2 15 := ⟨RX0, TX0, 3, rfl, by decide, uX0_alikeRounds_X0, lX0_alikeRounds_15⟩
def wc_X0_alikeRounds_5 : hd_xC := (hd_cI (fun x y => decide (x < y)) (hd_iL 4) (hd_iG hs_sh 5 0 (hd_rG hs_sh 0 0 (hd_rL 0))))
def wb_X0_alikeRounds_5 : hd_xS := (hd_sQ (hd_sW (hd_c0 (fun x => !decide (x = 0)) (hd_iN (hd_nS 2 (hd_pI (hd_pI hd_v0 (hd_iL 4)) (hd_iL 1)) wm_X5_isIn))) (hd_sI 3 (hd_iB (fun x y => if y < x then y else x) (hd_iL 3) (hd_iN (hd_nV hs_sh 0 (hd_rL 0) 2 (hd_pI (hd_pI hd_v0 (hd_iL 4)) (hd_iL 2)) wm_X0_roundsTillPaying))))) (hd_sP 4 (1)))
def wc_X0_alikeRounds_47 : hd_xC := (hd_cI (fun x y => decide (x < y)) (hd_iL 4) (hd_iG hs_sh 5 1 (hd_rG hs_sh 0 0 (hd_rL 0))))
def wb_X0_alikeRounds_47 : hd_xS := (hd_sQ (hd_sQ (hd_sI 5 (hd_iN (hd_nV hs_sh 0 (hd_rL 0) 2 (hd_pI (hd_pI hd_v0 (hd_iL 4)) (hd_iL 1)) wm_X0_payersOf))) (hd_sW (hd_c0 (fun x => decide (0 < x)) (hd_iL 5)) (hd_sI 3 (hd_iB (fun x y => if y < x then y else x) (hd_iL 3) (hd_iD (fun x y => x / y) (hd_iA hs_sh (hd_rG hs_sh 0 2 (hd_rL 0)) (hd_iL 4)) (hd_iL 5)))))) (hd_sP 4 (1)))
def wo_X0_alikeRounds : hd_xS := (hd_sQ (hd_sI 3 (hd_iL 2)) (hd_sQ (hd_sQ (hd_sI 4 (hd_iK (0))) (hd_sH (wc_X0_alikeRounds_5) (wb_X0_alikeRounds_5))) (hd_sQ (hd_sQ (hd_sI 4 (hd_iK (0))) (hd_sH (wc_X0_alikeRounds_47) (wb_X0_alikeRounds_47))) (hd_sRI (hd_iL 3)))))
def wm_X0_alikeRounds : hd_M := hd_mth 6 wo_X0_alikeRounds
set_option maxHeartbeats 4000000 in
set_option maxRecDepth 100000 in
theorem snd_X0_alikeRounds : hd_Snd vwCl hs_sh yX0_alikeRounds wsX0_alikeRounds 4 wm_X0_alikeRounds := hd_method (by decide) rfl rfl (by decide) (fun κ C Rk => (hd_seq (p1 := 2) (hd_sistore_n C (p1 := 1) (hd_iload_n C dX0_alikeRounds_0) dX0_alikeRounds_1 (by decide)) (hd_seq (p1 := 44) (hd_seq (p1 := 5) (hd_sistore C (p1 := 3) (hd_iconst C dX0_alikeRounds_2 (by decide)) dX0_alikeRounds_3 (by decide)) (hd_loop C (p1 := 17) (p2 := 44) (hd_c_ltF C (p1 := 7) (p2 := 14) (tgt := 44) (hd_iload C dX0_alikeRounds_5) (hd_getI C (p1 := 11) fX0_alikeRounds_22 (hd_getR C (p1 := 8) fX0_alikeRounds_18 (hd_aload_n C dX0_alikeRounds_7) dX0_alikeRounds_8) dX0_alikeRounds_11) dX0_alikeRounds_14 (by decide)) (hd_seq (p1 := 38) (hd_if (p1 := 26) (p2 := 38) (hd_z_neF C (p2 := 23) (tgt := 38) (hd_inI (hd_invS C (p2 := 20) snd_X5_isIn rfl gX0_alikeRounds_X5_isIn yX0_alikeRounds_X5_isIn ⟨by decide, by decide⟩ (by decide) (hd_apI (p1 := 19) (p2 := 20) (hd_apI (p1 := 17) (p2 := 19) hd_av0 (hd_iload C dX0_alikeRounds_17)) (hd_iload_n C dX0_alikeRounds_19)) dX0_alikeRounds_20)) dX0_alikeRounds_23 (by decide)) (hd_sistore_n C (p1 := 37) (hd_mmin C (p1 := 27) (p2 := 34) wX0_alikeRounds_8 wX0_alikeRounds_9 wX0_alikeRounds_10 wX0_alikeRounds_11 (by decide) (hd_iload_n C dX0_alikeRounds_26) (hd_inI (hd_invV C (p1 := 28) (p2 := 31) snd_X0_roundsTillPaying rfl gX0_alikeRounds_X0_roundsTillPaying rfl yX0_alikeRounds_X0_roundsTillPaying ⟨by decide, by decide⟩ (by decide) (hd_aload_n C dX0_alikeRounds_27) (hd_apI (p1 := 30) (p2 := 31) (hd_apI (p1 := 28) (p2 := 30) hd_av0 (hd_iload C dX0_alikeRounds_28)) (hd_iload_n C dX0_alikeRounds_30)) dX0_alikeRounds_31)) dX0_alikeRounds_34) dX0_alikeRounds_37 (by decide)) (by decide)) (hd_sgoto C (p1 := 41) (tgt := 5) (hd_ends (es := [41]) (by decide) (hd_siinc C dX0_alikeRounds_38 (by decide) (by decide))) dX0_alikeRounds_41 (by decide) (by decide))) (by decide))) (hd_seq (p1 := 94) (hd_seq (p1 := 47) (hd_sistore C (p1 := 45) (hd_iconst C dX0_alikeRounds_44 (by decide)) dX0_alikeRounds_45 (by decide)) (hd_loop C (p1 := 59) (p2 := 94) (hd_c_ltF C (p1 := 49) (p2 := 56) (tgt := 94) (hd_iload C dX0_alikeRounds_47) (hd_getI C (p1 := 53) fX0_alikeRounds_32 (hd_getR C (p1 := 50) fX0_alikeRounds_18 (hd_aload_n C dX0_alikeRounds_49) dX0_alikeRounds_50) dX0_alikeRounds_53) dX0_alikeRounds_56 (by decide)) (hd_seq (p1 := 88) (hd_seq (p1 := 68) (hd_sistore C (p1 := 66) (hd_inI (hd_invV C (p1 := 60) (p2 := 63) snd_X0_payersOf rfl gX0_alikeRounds_X0_payersOf rfl yX0_alikeRounds_X0_payersOf ⟨by decide, by decide⟩ (by decide) (hd_aload_n C dX0_alikeRounds_59) (hd_apI (p1 := 62) (p2 := 63) (hd_apI (p1 := 60) (p2 := 62) hd_av0 (hd_iload C dX0_alikeRounds_60)) (hd_iload_n C dX0_alikeRounds_62)) dX0_alikeRounds_63)) dX0_alikeRounds_66 (by decide)) (hd_if (p1 := 73) (p2 := 88) (hd_z_gtF C (p2 := 70) (tgt := 88) (hd_iload C dX0_alikeRounds_68) dX0_alikeRounds_70 (by decide)) (hd_sistore_n C (p1 := 87) (hd_mmin C (p1 := 74) (p2 := 84) wX0_alikeRounds_8 wX0_alikeRounds_9 wX0_alikeRounds_10 wX0_alikeRounds_11 (by decide) (hd_iload_n C dX0_alikeRounds_73) (hd_idiv C (p1 := 81) (p2 := 83) (hd_iald C (p1 := 78) (p2 := 80) (hd_getR C (p1 := 75) fX0_alikeRounds_15 (hd_aload_n C dX0_alikeRounds_74) dX0_alikeRounds_75) (hd_iload C dX0_alikeRounds_78) dX0_alikeRounds_80) (hd_iload C dX0_alikeRounds_81) dX0_alikeRounds_83) dX0_alikeRounds_84) dX0_alikeRounds_87 (by decide)) (by decide))) (hd_sgoto C (p1 := 91) (tgt := 47) (hd_ends (es := [91]) (by decide) (hd_siinc C dX0_alikeRounds_88 (by decide) (by decide))) dX0_alikeRounds_91 (by decide) (by decide))) (by decide))) (hd_retI C Rk (p1 := 95) (hd_iload_n C dX0_alikeRounds_94) dX0_alikeRounds_95)))))
