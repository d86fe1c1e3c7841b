/-! the reference's least sums asked for; its search for who goes where -/
set_option maxHeartbeats 16000000 in
theorem sp_roomedOf {p : hp_P} (hp : hp_ok p) : hm_RS p := by
  intro S s post hm hs hk
  have hT : hp_T p ≤ 8 := hp.1
  have hH : hp_H p ≤ 7 := hp.2.1
  have h128 := hp_set128 hp hs
  have h256 : 2 ^ hp_T p ≤ 256 := Nat.pow_le_pow_right (n := 2) (by decide) hT
  have hpos : 0 < 2 ^ hp_T p := Nat.two_pow_pos _
  have hm1 : S.1 113 1 = nI (hp_T p) := hm.1
  simp only [wm_X9_roomedOf, wo_X9_roomedOf, hd_mth, hd_rho0, hd_args, hd_wide, hq_sQ, hd_s0, hq_sI, hq_sJ, hd_sR, hd_sP, hd_sF, hd_sZ, hd_sG, hd_sA, hd_sL, hd_sB, hd_sO, hd_sN, hd_sD, hd_sW, hd_sE, hd_sRI, hd_sRZ, hd_sRJ, hd_sRR, hd_sRV, hd_sSw, hd_sw, hd_sCI, hd_sCL, hd_iK, hd_iL, hd_iU, hd_iB, hd_iD, hd_iJ, hd_iG, hd_iA, hd_iQ, hd_iC, hd_iN, hd_iE, hd_jK, hd_jL, hd_jU, hd_jB, hd_jD, hd_jH, hd_jI, hd_jA, hd_jQ, hd_jN, hd_rL, hd_rG, hd_rA, hd_rN, hd_cI, hd_c0, hd_cJ, hd_cX, hd_cA, hd_cO, hd_v0, hd_pI, hd_pJ, hd_pR, hd_nV, hd_nS, hd_get, hd_st, hd_stW, hd_cut, List.replicate, List.length_cons, List.length_nil, List.nil_append, List.cons_append, Nat.reduceAdd, Nat.reduceSub, Nat.reduceLeDiff, true_and, and_true, if_true, if_false, Bool.false_eq_true, List.append_nil, hs_o_0, hs_r_0_0, hs_t_0_0, hs_r_0_1, hs_t_0_1, hs_r_0_2, hs_t_0_2, hs_r_0_3, hs_t_0_3, hs_r_0_4, hs_t_0_4, hs_r_0_5, hs_t_0_5, hs_r_0_6, hs_t_0_6, hs_r_0_7, hs_t_0_7, hs_f_0_8, hs_o_1, hs_f_1_0, hs_f_1_1, hs_r_1_2, hs_t_1_2, hs_r_1_3, hs_t_1_3, hs_r_1_4, hs_t_1_4, hs_r_1_5, hs_t_1_5, hs_r_1_6, hs_t_1_6, hs_r_1_7, hs_t_1_7, hs_r_1_8, hs_t_1_8, hs_r_1_9, hs_t_1_9, hs_i_2, hs_i_3, hs_i_4, hs_i_5, hs_i_6, hs_i_7, hs_i_8, hs_i_9, hs_o_82, hs_r_82_0, hs_t_82_0, hs_f_82_1, hs_i_83, hs_o_84, hs_r_84_0, hs_t_84_0, hs_r_84_1, hs_t_84_1, hs_r_84_2, hs_t_84_2, hs_r_84_3, hs_t_84_3, hs_f_84_4, hs_i_85, hs_i_86, hs_i_87, hs_o_88, hs_r_88_0, hs_t_88_0, hs_r_88_1, hs_t_88_1, hs_r_88_2, hs_t_88_2, hs_r_88_3, hs_t_88_3, hs_r_88_4, hs_t_88_4, hs_r_88_5, hs_t_88_5, hs_r_88_6, hs_t_88_6, hs_r_88_7, hs_t_88_7, hs_f_88_8, hs_f_88_9, hs_i_89, hs_i_90, hs_i_91, hs_i_92, hs_i_93, hs_i_94, hs_i_95, hs_i_96, hs_i_97, hs_i_98, hs_i_99, hs_i_100, hs_i_101, hs_i_102, hs_o_103, hs_r_103_0, hs_t_103_0, hs_r_103_1, hs_t_103_1, hs_r_103_2, hs_t_103_2, hs_r_103_3, hs_t_103_3, hs_f_103_4, hs_i_104, hs_o_105, hs_r_105_0, hs_t_105_0, hs_r_105_1, hs_t_105_1, hs_r_105_2, hs_t_105_2, hs_i_106, hs_i_107, hs_o_108, hs_r_108_0, hs_t_108_0, hs_r_108_1, hs_t_108_1, hs_r_108_2, hs_t_108_2, hs_r_108_3, hs_t_108_3, hs_f_108_4, hs_i_109, hs_i_110, hs_o_111, hs_r_111_0, hs_t_111_0, hs_r_111_1, hs_t_111_1, hs_f_111_2, hs_f_111_3, hs_f_111_4, hs_i_112, hs_o_113, hs_f_113_0, hs_f_113_1, hs_f_113_2, hs_r_113_3, hs_t_113_3, hs_r_113_4, hs_t_113_4, hs_r_113_5, hs_t_113_5, hs_r_113_6, hs_t_113_6, hs_r_113_7, hs_t_113_7, hs_r_113_8, hs_t_113_8, hs_r_113_9, hs_t_113_9, hs_r_113_10, hs_t_113_10, hs_r_113_11, hs_t_113_11, hs_f_113_12, hs_f_113_13, hs_f_113_14, hs_r_113_15, hs_t_113_15, hs_f_113_16, hs_r_113_17, hs_t_113_17, hs_r_113_18, hs_t_113_18, hs_r_113_19, hs_t_113_19, hs_r_113_20, hs_t_113_20, hs_f_113_21, hs_f_113_22, hs_f_113_23, hs_r_113_24, hs_t_113_24, hs_f_113_25, hs_r_113_26, hs_t_113_26, hs_f_113_27, hs_i_114, hs_i_115, hs_i_116, hs_i_117, hs_i_118, hs_i_119, hs_i_120, hs_i_121, hs_i_122, hs_i_123, hs_i_124, hs_i_125, hs_i_126, hs_i_127, hs_i_128, hs_i_129, sp_X9_allTowns, hm1, hb_all (show hp_T p < 31 by omega)]
  refine hd_up (fun n ρ S2 => hd_eqx [124, 125] S S2 ∧ (∀ m, m < n → S2.1 124 m = nI (if m = 0 then 0 else 2000000000)) ∧ ρ = [hd_vR 113, hd_vI (nI s), hd_vI (nI (2 ^ hp_T p - 1)), hd_vI (nI n), hd_vN, hd_vN, hd_vN, hd_vN]) (2 ^ hp_T p) ?_ ?_ (Nat.zero_le _) ⟨hd_eqx_rf _ _, fun m hm => by omega, rfl⟩
  · rintro n ρ S2 K hn ⟨he, hw, rfl⟩ hK
    simp only [wc_X9_roomedOf_7, wb_X9_roomedOf_7, hd_mth, hd_rho0, hd_args, hd_wide, hq_sQ, hd_s0, hq_sI, hq_sJ, hd_sR, hd_sP, hd_sF, hd_sZ, hd_sG, hd_sA, hd_sL, hd_sB, hd_sO, hd_sN, hd_sD, hd_sW, hd_sE, hd_sRI, hd_sRZ, hd_sRJ, hd_sRR, hd_sRV, hd_sSw, hd_sw, hd_sCI, hd_sCL, hd_iK, hd_iL, hd_iU, hd_iB, hd_iD, hd_iJ, hd_iG, hd_iA, hd_iQ, hd_iC, hd_iN, hd_iE, hd_jK, hd_jL, hd_jU, hd_jB, hd_jD, hd_jH, hd_jI, hd_jA, hd_jQ, hd_jN, hd_rL, hd_rG, hd_rA, hd_rN, hd_cI, hd_c0, hd_cJ, hd_cX, hd_cA, hd_cO, hd_v0, hd_pI, hd_pJ, hd_pR, hd_nV, hd_nS, hd_get, hd_st, hd_stW, hd_cut, List.replicate, List.length_cons, List.length_nil, List.nil_append, List.cons_append, Nat.reduceAdd, Nat.reduceSub, Nat.reduceLeDiff, true_and, and_true, if_true, if_false, Bool.false_eq_true, List.append_nil, hs_o_0, hs_r_0_0, hs_t_0_0, hs_r_0_1, hs_t_0_1, hs_r_0_2, hs_t_0_2, hs_r_0_3, hs_t_0_3, hs_r_0_4, hs_t_0_4, hs_r_0_5, hs_t_0_5, hs_r_0_6, hs_t_0_6, hs_r_0_7, hs_t_0_7, hs_f_0_8, hs_o_1, hs_f_1_0, hs_f_1_1, hs_r_1_2, hs_t_1_2, hs_r_1_3, hs_t_1_3, hs_r_1_4, hs_t_1_4, hs_r_1_5, hs_t_1_5, hs_r_1_6, hs_t_1_6, hs_r_1_7, hs_t_1_7, hs_r_1_8, hs_t_1_8, hs_r_1_9, hs_t_1_9, hs_i_2, hs_i_3, hs_i_4, hs_i_5, hs_i_6, hs_i_7, hs_i_8, hs_i_9, hs_o_82, hs_r_82_0, hs_t_82_0, hs_f_82_1, hs_i_83, hs_o_84, hs_r_84_0, hs_t_84_0, hs_r_84_1, hs_t_84_1, hs_r_84_2, hs_t_84_2, hs_r_84_3, hs_t_84_3, hs_f_84_4, hs_i_85, hs_i_86, hs_i_87, hs_o_88, hs_r_88_0, hs_t_88_0, hs_r_88_1, hs_t_88_1, hs_r_88_2, hs_t_88_2, hs_r_88_3, hs_t_88_3, hs_r_88_4, hs_t_88_4, hs_r_88_5, hs_t_88_5, hs_r_88_6, hs_t_88_6, hs_r_88_7, hs_t_88_7, hs_f_88_8, hs_f_88_9, hs_i_89, hs_i_90, hs_i_91, hs_i_92, hs_i_93, hs_i_94, hs_i_95, hs_i_96, hs_i_97, hs_i_98, hs_i_99, hs_i_100, hs_i_101, hs_i_102, hs_o_103, hs_r_103_0, hs_t_103_0, hs_r_103_1, hs_t_103_1, hs_r_103_2, hs_t_103_2, hs_r_103_3, hs_t_103_3, hs_f_103_4, hs_i_104, hs_o_105, hs_r_105_0, hs_t_105_0, hs_r_105_1, hs_t_105_1, hs_r_105_2, hs_t_105_2, hs_i_106, hs_i_107, hs_o_108, hs_r_108_0, hs_t_108_0, hs_r_108_1, hs_t_108_1, hs_r_108_2, hs_t_108_2, hs_r_108_3, hs_t_108_3, hs_f_108_4, hs_i_109, hs_i_110, hs_o_111, hs_r_111_0, hs_t_111_0, hs_r_111_1, hs_t_111_1, hs_f_111_2, hs_f_111_3, hs_f_111_4, hs_i_112, hs_o_113, hs_f_113_0, hs_f_113_1, hs_f_113_2, hs_r_113_3, hs_t_113_3, hs_r_113_4, hs_t_113_4, hs_r_113_5, hs_t_113_5, hs_r_113_6, hs_t_113_6, hs_r_113_7, hs_t_113_7, hs_r_113_8, hs_t_113_8, hs_r_113_9, hs_t_113_9, hs_r_113_10, hs_t_113_10, hs_r_113_11, hs_t_113_11, hs_f_113_12, hs_f_113_13, hs_f_113_14, hs_r_113_15, hs_t_113_15, hs_f_113_16, hs_r_113_17, hs_t_113_17, hs_r_113_18, hs_t_113_18, hs_r_113_19, hs_t_113_19, hs_r_113_20, hs_t_113_20, hs_f_113_21, hs_f_113_22, hs_f_113_23, hs_r_113_24, hs_t_113_24, hs_f_113_25, hs_r_113_26, hs_t_113_26, hs_f_113_27, hs_i_114, hs_i_115, hs_i_116, hs_i_117, hs_i_118, hs_i_119, hs_i_120, hs_i_121, hs_i_122, hs_i_123, hs_i_124, hs_i_125, hs_i_126, hs_i_127, hs_i_128, hs_i_129, hb_le (show n < 2 ^ 31 by omega) (show 2 ^ hp_T p - 1 < 2 ^ 31 by omega), show n ≤ 2 ^ hp_T p - 1 by omega, decide_true, vp_in_nI (show n < 256 by omega) (show 256 < 2 ^ 31 by decide), hd_cc (show n < 2147483648 by omega), hb_z (show n < 2 ^ 31 by omega), decide_eq_true_eq, nI_1]
    have fin : ∀ v : Int32, v = nI (if n = 0 then 0 else 2000000000) → K [hd_vR 113, hd_vI (nI s), hd_vI (nI (2 ^ hp_T p - 1)), hd_vI (nI (n + 1)), hd_vN, hd_vN, hd_vN, hd_vN] (hd_wI S2 124 n v) := by
      intro v hv
      refine hK _ _ ⟨hd_eqx_w he (by decide), fun m hm => ?_, rfl⟩
      rw [hd_wI1]
      by_cases hmn : m = n
      · rw [if_pos ⟨rfl, hmn⟩, hmn, hv]
      · rw [if_neg (fun q => hmn q.2)]
        exact hw m (by omega)
    by_cases h0 : n = 0
    · simp only [h0, if_true]
      have := fin 0 (by rw [if_pos h0]; rfl)
      rw [h0] at this
      exact this
    · simp only [h0, if_false]
      exact fin 2000000000 (by rw [if_neg h0]; rfl)
  · rintro ρ S2 K ⟨he, hw, rfl⟩
    simp only [wc_X9_roomedOf_7, hd_mth, hd_rho0, hd_args, hd_wide, hq_sQ, hd_s0, hq_sI, hq_sJ, hd_sR, hd_sP, hd_sF, hd_sZ, hd_sG, hd_sA, hd_sL, hd_sB, hd_sO, hd_sN, hd_sD, hd_sW, hd_sE, hd_sRI, hd_sRZ, hd_sRJ, hd_sRR, hd_sRV, hd_sSw, hd_sw, hd_sCI, hd_sCL, hd_iK, hd_iL, hd_iU, hd_iB, hd_iD, hd_iJ, hd_iG, hd_iA, hd_iQ, hd_iC, hd_iN, hd_iE, hd_jK, hd_jL, hd_jU, hd_jB, hd_jD, hd_jH, hd_jI, hd_jA, hd_jQ, hd_jN, hd_rL, hd_rG, hd_rA, hd_rN, hd_cI, hd_c0, hd_cJ, hd_cX, hd_cA, hd_cO, hd_v0, hd_pI, hd_pJ, hd_pR, hd_nV, hd_nS, hd_get, hd_st, hd_stW, hd_cut, List.replicate, List.length_cons, List.length_nil, List.nil_append, List.cons_append, Nat.reduceAdd, Nat.reduceSub, Nat.reduceLeDiff, true_and, and_true, if_true, if_false, Bool.false_eq_true, List.append_nil, hs_o_0, hs_r_0_0, hs_t_0_0, hs_r_0_1, hs_t_0_1, hs_r_0_2, hs_t_0_2, hs_r_0_3, hs_t_0_3, hs_r_0_4, hs_t_0_4, hs_r_0_5, hs_t_0_5, hs_r_0_6, hs_t_0_6, hs_r_0_7, hs_t_0_7, hs_f_0_8, hs_o_1, hs_f_1_0, hs_f_1_1, hs_r_1_2, hs_t_1_2, hs_r_1_3, hs_t_1_3, hs_r_1_4, hs_t_1_4, hs_r_1_5, hs_t_1_5, hs_r_1_6, hs_t_1_6, hs_r_1_7, hs_t_1_7, hs_r_1_8, hs_t_1_8, hs_r_1_9, hs_t_1_9, hs_i_2, hs_i_3, hs_i_4, hs_i_5, hs_i_6, hs_i_7, hs_i_8, hs_i_9, hs_o_82, hs_r_82_0, hs_t_82_0, hs_f_82_1, hs_i_83, hs_o_84, hs_r_84_0, hs_t_84_0, hs_r_84_1, hs_t_84_1, hs_r_84_2, hs_t_84_2, hs_r_84_3, hs_t_84_3, hs_f_84_4, hs_i_85, hs_i_86, hs_i_87, hs_o_88, hs_r_88_0, hs_t_88_0, hs_r_88_1, hs_t_88_1, hs_r_88_2, hs_t_88_2, hs_r_88_3, hs_t_88_3, hs_r_88_4, hs_t_88_4, hs_r_88_5, hs_t_88_5, hs_r_88_6, hs_t_88_6, hs_r_88_7, hs_t_88_7, hs_f_88_8, hs_f_88_9, hs_i_89, hs_i_90, hs_i_91, hs_i_92, hs_i_93, hs_i_94, hs_i_95, hs_i_96, hs_i_97, hs_i_98, hs_i_99, hs_i_100, hs_i_101, hs_i_102, hs_o_103, hs_r_103_0, hs_t_103_0, hs_r_103_1, hs_t_103_1, hs_r_103_2, hs_t_103_2, hs_r_103_3, hs_t_103_3, hs_f_103_4, hs_i_104, hs_o_105, hs_r_105_0, hs_t_105_0, hs_r_105_1, hs_t_105_1, hs_r_105_2, hs_t_105_2, hs_i_106, hs_i_107, hs_o_108, hs_r_108_0, hs_t_108_0, hs_r_108_1, hs_t_108_1, hs_r_108_2, hs_t_108_2, hs_r_108_3, hs_t_108_3, hs_f_108_4, hs_i_109, hs_i_110, hs_o_111, hs_r_111_0, hs_t_111_0, hs_r_111_1, hs_t_111_1, hs_f_111_2, hs_f_111_3, hs_f_111_4, hs_i_112, hs_o_113, hs_f_113_0, hs_f_113_1, hs_f_113_2, hs_r_113_3, hs_t_113_3, hs_r_113_4, hs_t_113_4, hs_r_113_5, hs_t_113_5, hs_r_113_6, hs_t_113_6, hs_r_113_7, hs_t_113_7, hs_r_113_8, hs_t_113_8, hs_r_113_9, hs_t_113_9, hs_r_113_10, hs_t_113_10, hs_r_113_11, hs_t_113_11, hs_f_113_12, hs_f_113_13, hs_f_113_14, hs_r_113_15, hs_t_113_15, hs_f_113_16, hs_r_113_17, hs_t_113_17, hs_r_113_18, hs_t_113_18, hs_r_113_19, hs_t_113_19, hs_r_113_20, hs_t_113_20, hs_f_113_21, hs_f_113_22, hs_f_113_23, hs_r_113_24, hs_t_113_24, hs_f_113_25, hs_r_113_26, hs_t_113_26, hs_f_113_27, hs_i_114, hs_i_115, hs_i_116, hs_i_117, hs_i_118, hs_i_119, hs_i_120, hs_i_121, hs_i_122, hs_i_123, hs_i_124, hs_i_125, hs_i_126, hs_i_127, hs_i_128, hs_i_129, hb_le (show 2 ^ hp_T p < 2 ^ 31 by omega) (show 2 ^ hp_T p - 1 < 2 ^ 31 by omega), show ¬ (2 ^ hp_T p ≤ 2 ^ hp_T p - 1) by omega, decide_false]
    refine hd_up (fun h ρ S3 => hd_eqx [124, 125] S S3 ∧ (∀ m, m < 2 ^ hp_T p → ∃ v, S3.1 124 m = nI v ∧ hg_tb (hp_T p) (hp_cr p) (hp_ro p) (hp_w2 p) 2000000000 (hp_Dl s h) m v) ∧ ∃ w x y z : hd_V, ρ = [hd_vR 113, hd_vI (nI s), hd_vI (nI (2 ^ hp_T p - 1)), hd_vI (nI h), w, x, y, z]) (hp_H p) ?_ ?_ (Nat.zero_le _) ⟨he, fun m hm => ⟨_, hw m hm, hg_tb_none (fun a => by simp [hp_Dl]) hm⟩, _, _, _, _, rfl⟩
    · rintro h ρ S3 K2 hh ⟨he3, hB0, w3, x3, y3, z3, rfl⟩ hK2
      have hm3 : hm_P S3 p := hm_P_eqx he3 (by decide) hm
      have hm32 : S3.1 113 2 = nI (hp_H p) := hm3.2.1
      simp only [wc_X9_roomedOf_36, wb_X9_roomedOf_36, hd_mth, hd_rho0, hd_args, hd_wide, hq_sQ, hd_s0, hq_sI, hq_sJ, hd_sR, hd_sP, hd_sF, hd_sZ, hd_sG, hd_sA, hd_sL, hd_sB, hd_sO, hd_sN, hd_sD, hd_sW, hd_sE, hd_sRI, hd_sRZ, hd_sRJ, hd_sRR, hd_sRV, hd_sSw, hd_sw, hd_sCI, hd_sCL, hd_iK, hd_iL, hd_iU, hd_iB, hd_iD, hd_iJ, hd_iG, hd_iA, hd_iQ, hd_iC, hd_iN, hd_iE, hd_jK, hd_jL, hd_jU, hd_jB, hd_jD, hd_jH, hd_jI, hd_jA, hd_jQ, hd_jN, hd_rL, hd_rG, hd_rA, hd_rN, hd_cI, hd_c0, hd_cJ, hd_cX, hd_cA, hd_cO, hd_v0, hd_pI, hd_pJ, hd_pR, hd_nV, hd_nS, hd_get, hd_st, hd_stW, hd_cut, List.replicate, List.length_cons, List.length_nil, List.nil_append, List.cons_append, Nat.reduceAdd, Nat.reduceSub, Nat.reduceLeDiff, true_and, and_true, if_true, if_false, Bool.false_eq_true, List.append_nil, hs_o_0, hs_r_0_0, hs_t_0_0, hs_r_0_1, hs_t_0_1, hs_r_0_2, hs_t_0_2, hs_r_0_3, hs_t_0_3, hs_r_0_4, hs_t_0_4, hs_r_0_5, hs_t_0_5, hs_r_0_6, hs_t_0_6, hs_r_0_7, hs_t_0_7, hs_f_0_8, hs_o_1, hs_f_1_0, hs_f_1_1, hs_r_1_2, hs_t_1_2, hs_r_1_3, hs_t_1_3, hs_r_1_4, hs_t_1_4, hs_r_1_5, hs_t_1_5, hs_r_1_6, hs_t_1_6, hs_r_1_7, hs_t_1_7, hs_r_1_8, hs_t_1_8, hs_r_1_9, hs_t_1_9, hs_i_2, hs_i_3, hs_i_4, hs_i_5, hs_i_6, hs_i_7, hs_i_8, hs_i_9, hs_o_82, hs_r_82_0, hs_t_82_0, hs_f_82_1, hs_i_83, hs_o_84, hs_r_84_0, hs_t_84_0, hs_r_84_1, hs_t_84_1, hs_r_84_2, hs_t_84_2, hs_r_84_3, hs_t_84_3, hs_f_84_4, hs_i_85, hs_i_86, hs_i_87, hs_o_88, hs_r_88_0, hs_t_88_0, hs_r_88_1, hs_t_88_1, hs_r_88_2, hs_t_88_2, hs_r_88_3, hs_t_88_3, hs_r_88_4, hs_t_88_4, hs_r_88_5, hs_t_88_5, hs_r_88_6, hs_t_88_6, hs_r_88_7, hs_t_88_7, hs_f_88_8, hs_f_88_9, hs_i_89, hs_i_90, hs_i_91, hs_i_92, hs_i_93, hs_i_94, hs_i_95, hs_i_96, hs_i_97, hs_i_98, hs_i_99, hs_i_100, hs_i_101, hs_i_102, hs_o_103, hs_r_103_0, hs_t_103_0, hs_r_103_1, hs_t_103_1, hs_r_103_2, hs_t_103_2, hs_r_103_3, hs_t_103_3, hs_f_103_4, hs_i_104, hs_o_105, hs_r_105_0, hs_t_105_0, hs_r_105_1, hs_t_105_1, hs_r_105_2, hs_t_105_2, hs_i_106, hs_i_107, hs_o_108, hs_r_108_0, hs_t_108_0, hs_r_108_1, hs_t_108_1, hs_r_108_2, hs_t_108_2, hs_r_108_3, hs_t_108_3, hs_f_108_4, hs_i_109, hs_i_110, hs_o_111, hs_r_111_0, hs_t_111_0, hs_r_111_1, hs_t_111_1, hs_f_111_2, hs_f_111_3, hs_f_111_4, hs_i_112, hs_o_113, hs_f_113_0, hs_f_113_1, hs_f_113_2, hs_r_113_3, hs_t_113_3, hs_r_113_4, hs_t_113_4, hs_r_113_5, hs_t_113_5, hs_r_113_6, hs_t_113_6, hs_r_113_7, hs_t_113_7, hs_r_113_8, hs_t_113_8, hs_r_113_9, hs_t_113_9, hs_r_113_10, hs_t_113_10, hs_r_113_11, hs_t_113_11, hs_f_113_12, hs_f_113_13, hs_f_113_14, hs_r_113_15, hs_t_113_15, hs_f_113_16, hs_r_113_17, hs_t_113_17, hs_r_113_18, hs_t_113_18, hs_r_113_19, hs_t_113_19, hs_r_113_20, hs_t_113_20, hs_f_113_21, hs_f_113_22, hs_f_113_23, hs_r_113_24, hs_t_113_24, hs_f_113_25, hs_r_113_26, hs_t_113_26, hs_f_113_27, hs_i_114, hs_i_115, hs_i_116, hs_i_117, hs_i_118, hs_i_119, hs_i_120, hs_i_121, hs_i_122, hs_i_123, hs_i_124, hs_i_125, hs_i_126, hs_i_127, hs_i_128, hs_i_129, hm32, nI_ltI (show h < 2 ^ 31 by omega) (show hp_H p < 2 ^ 31 by omega), hh, decide_true, sp_X9_has, hb_t (show s < 2 ^ 31 by omega) (show h < 31 by omega), hd_t01, decide_eq_true_eq]
      by_cases hb : s.testBit h = true
      · simp only [hb, if_true]
        refine sp_heapWay hp hm3 hh _ 0 _ _ _ (fun S4 he4 hw4 x4 y4 z4 => ?_)
        simp only [hd_mth, hd_rho0, hd_args, hd_wide, hq_sQ, hd_s0, hq_sI, hq_sJ, hd_sR, hd_sP, hd_sF, hd_sZ, hd_sG, hd_sA, hd_sL, hd_sB, hd_sO, hd_sN, hd_sD, hd_sW, hd_sE, hd_sRI, hd_sRZ, hd_sRJ, hd_sRR, hd_sRV, hd_sSw, hd_sw, hd_sCI, hd_sCL, hd_iK, hd_iL, hd_iU, hd_iB, hd_iD, hd_iJ, hd_iG, hd_iA, hd_iQ, hd_iC, hd_iN, hd_iE, hd_jK, hd_jL, hd_jU, hd_jB, hd_jD, hd_jH, hd_jI, hd_jA, hd_jQ, hd_jN, hd_rL, hd_rG, hd_rA, hd_rN, hd_cI, hd_c0, hd_cJ, hd_cX, hd_cA, hd_cO, hd_v0, hd_pI, hd_pJ, hd_pR, hd_nV, hd_nS, hd_get, hd_st, hd_stW, hd_cut, List.replicate, List.length_cons, List.length_nil, List.nil_append, List.cons_append, Nat.reduceAdd, Nat.reduceSub, Nat.reduceLeDiff, true_and, and_true, if_true, if_false, Bool.false_eq_true, List.append_nil]
        have hB1 : ∃ B : Nat → Nat, ∀ m, m < 2 ^ hp_T p → S4.1 124 m = nI (B m) ∧ hg_tb (hp_T p) (hp_cr p) (hp_ro p) (hp_w2 p) 2000000000 (hp_Dl s h) m (B m) := by
          refine ⟨fun m => if hm : m < 2 ^ hp_T p then Classical.choose (hB0 m hm) else 0, fun m hm => ?_⟩
          simp only [hm, dif_pos]
          rw [he4.1 124 (by decide)]
          exact Classical.choose_spec (hB0 m hm)
        obtain ⟨B, hB⟩ := hB1
        refine sp_housed hp hh hb hB hw4 _ _ _ _ _ (fun S5 he5 hB5 w x y z => ?_)
        simp only [hd_mth, hd_rho0, hd_args, hd_wide, hq_sQ, hd_s0, hq_sI, hq_sJ, hd_sR, hd_sP, hd_sF, hd_sZ, hd_sG, hd_sA, hd_sL, hd_sB, hd_sO, hd_sN, hd_sD, hd_sW, hd_sE, hd_sRI, hd_sRZ, hd_sRJ, hd_sRR, hd_sRV, hd_sSw, hd_sw, hd_sCI, hd_sCL, hd_iK, hd_iL, hd_iU, hd_iB, hd_iD, hd_iJ, hd_iG, hd_iA, hd_iQ, hd_iC, hd_iN, hd_iE, hd_jK, hd_jL, hd_jU, hd_jB, hd_jD, hd_jH, hd_jI, hd_jA, hd_jQ, hd_jN, hd_rL, hd_rG, hd_rA, hd_rN, hd_cI, hd_c0, hd_cJ, hd_cX, hd_cA, hd_cO, hd_v0, hd_pI, hd_pJ, hd_pR, hd_nV, hd_nS, hd_get, hd_st, hd_stW, hd_cut, List.replicate, List.length_cons, List.length_nil, List.nil_append, List.cons_append, Nat.reduceAdd, Nat.reduceSub, Nat.reduceLeDiff, true_and, and_true, if_true, if_false, Bool.false_eq_true, List.append_nil, nI_1]
        exact hK2 _ _ ⟨hd_eqx_tr he3 (hd_eqx_tr (hd_eqx_sub he4 (by decide)) (hd_eqx_sub he5 (by decide))), hB5, _, _, _, _, rfl⟩
      · simp only [hb, if_false, Bool.false_eq_true, nI_1]
        refine hK2 _ _ ⟨he3, fun m hm => ?_, _, _, _, _, rfl⟩
        obtain ⟨v, hv, hg⟩ := hB0 m hm
        refine ⟨v, hv, hg_tb_cong (fun a => ?_) hg⟩
        unfold hp_Dl
        by_cases ha : a = h
        · subst ha
          simp [hb]
        · have : (a < h + 1) = (a < h) := propext (by omega)
          simp [this]
    · rintro ρ S3 K2 ⟨he3, hB0, w3, x3, y3, z3, rfl⟩
      have hm3 : hm_P S3 p := hm_P_eqx he3 (by decide) hm
      have hm32 : S3.1 113 2 = nI (hp_H p) := hm3.2.1
      obtain ⟨v, hv, hg⟩ := hB0 (2 ^ hp_T p - 1) (by omega)
      simp only [wc_X9_roomedOf_36, hd_mth, hd_rho0, hd_args, hd_wide, hq_sQ, hd_s0, hq_sI, hq_sJ, hd_sR, hd_sP, hd_sF, hd_sZ, hd_sG, hd_sA, hd_sL, hd_sB, hd_sO, hd_sN, hd_sD, hd_sW, hd_sE, hd_sRI, hd_sRZ, hd_sRJ, hd_sRR, hd_sRV, hd_sSw, hd_sw, hd_sCI, hd_sCL, hd_iK, hd_iL, hd_iU, hd_iB, hd_iD, hd_iJ, hd_iG, hd_iA, hd_iQ, hd_iC, hd_iN, hd_iE, hd_jK, hd_jL, hd_jU, hd_jB, hd_jD, hd_jH, hd_jI, hd_jA, hd_jQ, hd_jN, hd_rL, hd_rG, hd_rA, hd_rN, hd_cI, hd_c0, hd_cJ, hd_cX, hd_cA, hd_cO, hd_v0, hd_pI, hd_pJ, hd_pR, hd_nV, hd_nS, hd_get, hd_st, hd_stW, hd_cut, List.replicate, List.length_cons, List.length_nil, List.nil_append, List.cons_append, Nat.reduceAdd, Nat.reduceSub, Nat.reduceLeDiff, true_and, and_true, if_true, if_false, Bool.false_eq_true, List.append_nil, hs_o_0, hs_r_0_0, hs_t_0_0, hs_r_0_1, hs_t_0_1, hs_r_0_2, hs_t_0_2, hs_r_0_3, hs_t_0_3, hs_r_0_4, hs_t_0_4, hs_r_0_5, hs_t_0_5, hs_r_0_6, hs_t_0_6, hs_r_0_7, hs_t_0_7, hs_f_0_8, hs_o_1, hs_f_1_0, hs_f_1_1, hs_r_1_2, hs_t_1_2, hs_r_1_3, hs_t_1_3, hs_r_1_4, hs_t_1_4, hs_r_1_5, hs_t_1_5, hs_r_1_6, hs_t_1_6, hs_r_1_7, hs_t_1_7, hs_r_1_8, hs_t_1_8, hs_r_1_9, hs_t_1_9, hs_i_2, hs_i_3, hs_i_4, hs_i_5, hs_i_6, hs_i_7, hs_i_8, hs_i_9, hs_o_82, hs_r_82_0, hs_t_82_0, hs_f_82_1, hs_i_83, hs_o_84, hs_r_84_0, hs_t_84_0, hs_r_84_1, hs_t_84_1, hs_r_84_2, hs_t_84_2, hs_r_84_3, hs_t_84_3, hs_f_84_4, hs_i_85, hs_i_86, hs_i_87, hs_o_88, hs_r_88_0, hs_t_88_0, hs_r_88_1, hs_t_88_1, hs_r_88_2, hs_t_88_2, hs_r_88_3, hs_t_88_3, hs_r_88_4, hs_t_88_4, hs_r_88_5, hs_t_88_5, hs_r_88_6, hs_t_88_6, hs_r_88_7, hs_t_88_7, hs_f_88_8, hs_f_88_9, hs_i_89, hs_i_90, hs_i_91, hs_i_92, hs_i_93, hs_i_94, hs_i_95, hs_i_96, hs_i_97, hs_i_98, hs_i_99, hs_i_100, hs_i_101, hs_i_102, hs_o_103, hs_r_103_0, hs_t_103_0, hs_r_103_1, hs_t_103_1, hs_r_103_2, hs_t_103_2, hs_r_103_3, hs_t_103_3, hs_f_103_4, hs_i_104, hs_o_105, hs_r_105_0, hs_t_105_0, hs_r_105_1, hs_t_105_1, hs_r_105_2, hs_t_105_2, hs_i_106, hs_i_107, hs_o_108, hs_r_108_0, hs_t_108_0, hs_r_108_1, hs_t_108_1, hs_r_108_2, hs_t_108_2, hs_r_108_3, hs_t_108_3, hs_f_108_4, hs_i_109, hs_i_110, hs_o_111, hs_r_111_0, hs_t_111_0, hs_r_111_1, hs_t_111_1, hs_f_111_2, hs_f_111_3, hs_f_111_4, hs_i_112, hs_o_113, hs_f_113_0, hs_f_113_1, hs_f_113_2, hs_r_113_3, hs_t_113_3, hs_r_113_4, hs_t_113_4, hs_r_113_5, hs_t_113_5, hs_r_113_6, hs_t_113_6, hs_r_113_7, hs_t_113_7, hs_r_113_8, hs_t_113_8, hs_r_113_9, hs_t_113_9, hs_r_113_10, hs_t_113_10, hs_r_113_11, hs_t_113_11, hs_f_113_12, hs_f_113_13, hs_f_113_14, hs_r_113_15, hs_t_113_15, hs_f_113_16, hs_r_113_17, hs_t_113_17, hs_r_113_18, hs_t_113_18, hs_r_113_19, hs_t_113_19, hs_r_113_20, hs_t_113_20, hs_f_113_21, hs_f_113_22, hs_f_113_23, hs_r_113_24, hs_t_113_24, hs_f_113_25, hs_r_113_26, hs_t_113_26, hs_f_113_27, hs_i_114, hs_i_115, hs_i_116, hs_i_117, hs_i_118, hs_i_119, hs_i_120, hs_i_121, hs_i_122, hs_i_123, hs_i_124, hs_i_125, hs_i_126, hs_i_127, hs_i_128, hs_i_129, hm32, Int32.lt_irrefl, decide_false, vp_in_nI (show 2 ^ hp_T p - 1 < 256 by omega) (show 256 < 2 ^ 31 by decide), hd_cc (show 2 ^ hp_T p - 1 < 2147483648 by omega), hv]
      have hkk := hk S3 he3
      rcases hp_rmc_w2 hp (show hg_tb (hp_T p) (hp_cr p) (hp_ro p) (hp_w2 p) 2000000000 (hp_D p s) (2 ^ hp_T p - 1) v from hg) with ⟨q1, q2⟩ | ⟨q1, c, q2, q3⟩
      · rw [q2] at hkk
        rw [q1]
        exact hkk
      · rw [q2] at hkk
        simp only [Option.map, hp_ow, q3] at hkk
        exact hkk
/-- the reference's fields and cells that the search leaves -/
def hm_G (S S2 : hd_S) (t : Nat) : Prop := (∀ c, c ≠ 126 → c ≠ 127 → S2.1 c = S.1 c) ∧ S2.2 = S.2 ∧ (∀ x, x < t → S2.1 126 x = S.1 126 x) ∧ (∀ h, h < 7 → S2.1 127 h = S.1 127 h)
theorem hm_P_G {S S2 : hd_S} {p : hp_P} (h : ∀ c, c ≠ 126 → c ≠ 127 → S2.1 c = S.1 c) (hm : hm_P S p) : hm_P S2 p := hm_P_fr (by rw [h 113 (by decide) (by decide)]) (by rw [h 113 (by decide) (by decide)]) (fun c h1 h2 => h c (by omega) (by omega)) hm
theorem hp_ile {a : Nat} {L : Int32} (ha : a < 2 ^ 31) : (L < nI a) ↔ L.toInt < (a : Int) := by
  rw [Int32.lt_iff_toInt_lt, nI_toInt ha]
set_option maxHeartbeats 16000000 in
theorem sp_goFrom {p : hp_P} (hp : hp_ok p) {s : Nat} (hs : s < 2 ^ hp_H p) (hne : ∃ h, h < hp_H p ∧ s.testBit h = true) : ∀ (n t : Nat), t ≤ hp_T p → hp_T p - t < n → ∀ (S : hd_S) (u : Nat → Nat) (L : Int32) (post : Option hd_V → hd_S → Prop), hm_P S p → S.1 113 14 = nI s → (∀ h, h < hp_H p → S.1 127 h = nI (u h) ∧ u h ≤ hp_ro p h) → 0 ≤ L.toInt + (t : Int) * 20000000 → L.toInt ≤ 2000000000 →
    (∀ S2, hm_G S S2 t → (∀ f, ¬ hp_sol p s t u L.toInt f) → post (some (hd_vI 0)) S2) →
    (∀ S2 f, hm_G S S2 t → hp_fst p s t u L.toInt f → (∀ x, t ≤ x → x < hp_T p → S2.1 126 x = nI (f x)) → post (some (hd_vI 1)) S2) → wm_X9_goFrom n [hd_vR 113, hd_vI (nI t), hd_vI L] S post := by
  intro n
  induction n with
  | zero => intro t _ h; omega
  | succ n ih =>
    intro t ht hn S u L post hm h14 hu hLlo hLhi hk0 hk1
    have hT : hp_T p ≤ 8 := hp.1
    have hH : hp_H p ≤ 7 := hp.2.1
    have h128 := hp_set128 hp hs
    have hm1 : S.1 113 1 = nI (hp_T p) := hm.1
    simp only [wm_X9_goFrom, wo_X9_goFrom, hd_mth, hd_rho0, hd_args, hd_wide, hq_sQ, hd_s0, hq_sI, hq_sJ, hd_sR, hd_sP, hd_sF, hd_sZ, hd_sG, hd_sA, hd_sL, hd_sB, hd_sO, hd_sN, hd_sD, hd_sW, hd_sE, hd_sRI, hd_sRZ, hd_sRJ, hd_sRR, hd_sRV, hd_sSw, hd_sw, hd_sCI, hd_sCL, hd_iK, hd_iL, hd_iU, hd_iB, hd_iD, hd_iJ, hd_iG, hd_iA, hd_iQ, hd_iC, hd_iN, hd_iE, hd_jK, hd_jL, hd_jU, hd_jB, hd_jD, hd_jH, hd_jI, hd_jA, hd_jQ, hd_jN, hd_rL, hd_rG, hd_rA, hd_rN, hd_cI, hd_c0, hd_cJ, hd_cX, hd_cA, hd_cO, hd_v0, hd_pI, hd_pJ, hd_pR, hd_nV, hd_nS, hd_get, hd_st, hd_stW, hd_cut, List.replicate, List.length_cons, List.length_nil, List.nil_append, List.cons_append, Nat.reduceAdd, Nat.reduceSub, Nat.reduceLeDiff, true_and, and_true, if_true, if_false, Bool.false_eq_true, List.append_nil, hs_o_0, hs_r_0_0, hs_t_0_0, hs_r_0_1, hs_t_0_1, hs_r_0_2, hs_t_0_2, hs_r_0_3, hs_t_0_3, hs_r_0_4, hs_t_0_4, hs_r_0_5, hs_t_0_5, hs_r_0_6, hs_t_0_6, hs_r_0_7, hs_t_0_7, hs_f_0_8, hs_o_1, hs_f_1_0, hs_f_1_1, hs_r_1_2, hs_t_1_2, hs_r_1_3, hs_t_1_3, hs_r_1_4, hs_t_1_4, hs_r_1_5, hs_t_1_5, hs_r_1_6, hs_t_1_6, hs_r_1_7, hs_t_1_7, hs_r_1_8, hs_t_1_8, hs_r_1_9, hs_t_1_9, hs_i_2, hs_i_3, hs_i_4, hs_i_5, hs_i_6, hs_i_7, hs_i_8, hs_i_9, hs_o_82, hs_r_82_0, hs_t_82_0, hs_f_82_1, hs_i_83, hs_o_84, hs_r_84_0, hs_t_84_0, hs_r_84_1, hs_t_84_1, hs_r_84_2, hs_t_84_2, hs_r_84_3, hs_t_84_3, hs_f_84_4, hs_i_85, hs_i_86, hs_i_87, hs_o_88, hs_r_88_0, hs_t_88_0, hs_r_88_1, hs_t_88_1, hs_r_88_2, hs_t_88_2, hs_r_88_3, hs_t_88_3, hs_r_88_4, hs_t_88_4, hs_r_88_5, hs_t_88_5, hs_r_88_6, hs_t_88_6, hs_r_88_7, hs_t_88_7, hs_f_88_8, hs_f_88_9, hs_i_89, hs_i_90, hs_i_91, hs_i_92, hs_i_93, hs_i_94, hs_i_95, hs_i_96, hs_i_97, hs_i_98, hs_i_99, hs_i_100, hs_i_101, hs_i_102, hs_o_103, hs_r_103_0, hs_t_103_0, hs_r_103_1, hs_t_103_1, hs_r_103_2, hs_t_103_2, hs_r_103_3, hs_t_103_3, hs_f_103_4, hs_i_104, hs_o_105, hs_r_105_0, hs_t_105_0, hs_r_105_1, hs_t_105_1, hs_r_105_2, hs_t_105_2, hs_i_106, hs_i_107, hs_o_108, hs_r_108_0, hs_t_108_0, hs_r_108_1, hs_t_108_1, hs_r_108_2, hs_t_108_2, hs_r_108_3, hs_t_108_3, hs_f_108_4, hs_i_109, hs_i_110, hs_o_111, hs_r_111_0, hs_t_111_0, hs_r_111_1, hs_t_111_1, hs_f_111_2, hs_f_111_3, hs_f_111_4, hs_i_112, hs_o_113, hs_f_113_0, hs_f_113_1, hs_f_113_2, hs_r_113_3, hs_t_113_3, hs_r_113_4, hs_t_113_4, hs_r_113_5, hs_t_113_5, hs_r_113_6, hs_t_113_6, hs_r_113_7, hs_t_113_7, hs_r_113_8, hs_t_113_8, hs_r_113_9, hs_t_113_9, hs_r_113_10, hs_t_113_10, hs_r_113_11, hs_t_113_11, hs_f_113_12, hs_f_113_13, hs_f_113_14, hs_r_113_15, hs_t_113_15, hs_f_113_16, hs_r_113_17, hs_t_113_17, hs_r_113_18, hs_t_113_18, hs_r_113_19, hs_t_113_19, hs_r_113_20, hs_t_113_20, hs_f_113_21, hs_f_113_22, hs_f_113_23, hs_r_113_24, hs_t_113_24, hs_f_113_25, hs_r_113_26, hs_t_113_26, hs_f_113_27, hs_i_114, hs_i_115, hs_i_116, hs_i_117, hs_i_118, hs_i_119, hs_i_120, hs_i_121, hs_i_122, hs_i_123, hs_i_124, hs_i_125, hs_i_126, hs_i_127, hs_i_128, hs_i_129, hm1, nI_eq (show t < 2 ^ 31 by omega) (show hp_T p < 2 ^ 31 by omega), decide_eq_true_eq]
    by_cases htT : t = hp_T p
    · simp only [htT, if_true]
      have e0 : (L = 0) ↔ L.toInt = 0 := by rw [← Int32.toInt_inj]; exact Iff.rfl
      by_cases hL : L = 0
      · simp only [hL, decide_true, if_true, true_and, or_true, true_or]
        refine hk1 S (fun _ => 0) ⟨fun _ _ _ => rfl, rfl, fun _ _ => rfl, fun _ _ => rfl⟩ ⟨?_, fun g _ => ?_⟩ (fun x h1 h2 => by omega)
        · rw [htT]
          exact hp_sol_end.mpr ⟨fun h hh => (hu h hh).2, e0.mp hL⟩
        · rw [htT, hp_dt_cong (g := g) (fun x h1 h2 => by omega)]
          exact Nat.le_refl _
      · simp only [hL, decide_false, Bool.false_eq_true, if_false, true_or, true_and]
        refine hk0 S ⟨fun _ _ _ => rfl, rfl, fun _ _ => rfl, fun _ _ => rfl⟩ (fun f hf => ?_)
        rw [htT] at hf
        exact hL (e0.mpr (hp_sol_end.mp hf).2)
    · simp only [htT, if_false]
      have ht2 : t < hp_T p := by omega
      -- what the nearest halls would cost
      have hsl : ∀ i, i ≤ hp_T p → fb_sm (fun x => if t ≤ x then hp_cr p x * hp_nw p s x (hp_H p) else 0) i ≤ 160000000 := fun i hi => by
        have h1 : fb_sm (fun x => if t ≤ x then hp_cr p x * hp_nw p s x (hp_H p) else 0) i ≤ i * 20000000 := by
          refine fb_sm_bound (fun x _ => ?_)
          split
          · exact Nat.le_trans (Nat.mul_le_mul (hp.2.2.2.1 x) (hp_nw_le p s x (hp_H p))) (by decide)
          · exact Nat.zero_le _
        exact Nat.le_trans h1 (Nat.le_trans (Nat.mul_le_mul_right _ (show i ≤ 8 by omega)) (by decide))
      refine hd_up (fun i ρ S2 => S2 = S ∧ t ≤ i ∧ ∃ x : hd_V, ρ = [hd_vR 113, hd_vI (nI t), hd_vI L, hd_vI (nI (fb_sm (fun x => if t ≤ x then hp_cr p x * hp_nw p s x (hp_H p) else 0) i)), hd_vI (nI i), x]) (hp_T p) ?_ ?_ ht ⟨rfl, Nat.le_refl _, hd_vN, ?_⟩
      · rintro i ρ S2 K hi ⟨rfl, hti, x, rfl⟩ hK
        have hK1 := hK _ _ ⟨rfl, by omega, x, rfl⟩
        rw [fb_sm_succ, if_pos hti] at hK1
        have hcr : S2.1 114 i = nI (hp_cr p i) := hm.2.2.1 i (by omega)
        simp only [wc_X9_goFrom_23, wb_X9_goFrom_23, hd_mth, hd_rho0, hd_args, hd_wide, hq_sQ, hd_s0, hq_sI, hq_sJ, hd_sR, hd_sP, hd_sF, hd_sZ, hd_sG, hd_sA, hd_sL, hd_sB, hd_sO, hd_sN, hd_sD, hd_sW, hd_sE, hd_sRI, hd_sRZ, hd_sRJ, hd_sRR, hd_sRV, hd_sSw, hd_sw, hd_sCI, hd_sCL, hd_iK, hd_iL, hd_iU, hd_iB, hd_iD, hd_iJ, hd_iG, hd_iA, hd_iQ, hd_iC, hd_iN, hd_iE, hd_jK, hd_jL, hd_jU, hd_jB, hd_jD, hd_jH, hd_jI, hd_jA, hd_jQ, hd_jN, hd_rL, hd_rG, hd_rA, hd_rN, hd_cI, hd_c0, hd_cJ, hd_cX, hd_cA, hd_cO, hd_v0, hd_pI, hd_pJ, hd_pR, hd_nV, hd_nS, hd_get, hd_st, hd_stW, hd_cut, List.replicate, List.length_cons, List.length_nil, List.nil_append, List.cons_append, Nat.reduceAdd, Nat.reduceSub, Nat.reduceLeDiff, true_and, and_true, if_true, if_false, Bool.false_eq_true, List.append_nil, hs_o_0, hs_r_0_0, hs_t_0_0, hs_r_0_1, hs_t_0_1, hs_r_0_2, hs_t_0_2, hs_r_0_3, hs_t_0_3, hs_r_0_4, hs_t_0_4, hs_r_0_5, hs_t_0_5, hs_r_0_6, hs_t_0_6, hs_r_0_7, hs_t_0_7, hs_f_0_8, hs_o_1, hs_f_1_0, hs_f_1_1, hs_r_1_2, hs_t_1_2, hs_r_1_3, hs_t_1_3, hs_r_1_4, hs_t_1_4, hs_r_1_5, hs_t_1_5, hs_r_1_6, hs_t_1_6, hs_r_1_7, hs_t_1_7, hs_r_1_8, hs_t_1_8, hs_r_1_9, hs_t_1_9, hs_i_2, hs_i_3, hs_i_4, hs_i_5, hs_i_6, hs_i_7, hs_i_8, hs_i_9, hs_o_82, hs_r_82_0, hs_t_82_0, hs_f_82_1, hs_i_83, hs_o_84, hs_r_84_0, hs_t_84_0, hs_r_84_1, hs_t_84_1, hs_r_84_2, hs_t_84_2, hs_r_84_3, hs_t_84_3, hs_f_84_4, hs_i_85, hs_i_86, hs_i_87, hs_o_88, hs_r_88_0, hs_t_88_0, hs_r_88_1, hs_t_88_1, hs_r_88_2, hs_t_88_2, hs_r_88_3, hs_t_88_3, hs_r_88_4, hs_t_88_4, hs_r_88_5, hs_t_88_5, hs_r_88_6, hs_t_88_6, hs_r_88_7, hs_t_88_7, hs_f_88_8, hs_f_88_9, hs_i_89, hs_i_90, hs_i_91, hs_i_92, hs_i_93, hs_i_94, hs_i_95, hs_i_96, hs_i_97, hs_i_98, hs_i_99, hs_i_100, hs_i_101, hs_i_102, hs_o_103, hs_r_103_0, hs_t_103_0, hs_r_103_1, hs_t_103_1, hs_r_103_2, hs_t_103_2, hs_r_103_3, hs_t_103_3, hs_f_103_4, hs_i_104, hs_o_105, hs_r_105_0, hs_t_105_0, hs_r_105_1, hs_t_105_1, hs_r_105_2, hs_t_105_2, hs_i_106, hs_i_107, hs_o_108, hs_r_108_0, hs_t_108_0, hs_r_108_1, hs_t_108_1, hs_r_108_2, hs_t_108_2, hs_r_108_3, hs_t_108_3, hs_f_108_4, hs_i_109, hs_i_110, hs_o_111, hs_r_111_0, hs_t_111_0, hs_r_111_1, hs_t_111_1, hs_f_111_2, hs_f_111_3, hs_f_111_4, hs_i_112, hs_o_113, hs_f_113_0, hs_f_113_1, hs_f_113_2, hs_r_113_3, hs_t_113_3, hs_r_113_4, hs_t_113_4, hs_r_113_5, hs_t_113_5, hs_r_113_6, hs_t_113_6, hs_r_113_7, hs_t_113_7, hs_r_113_8, hs_t_113_8, hs_r_113_9, hs_t_113_9, hs_r_113_10, hs_t_113_10, hs_r_113_11, hs_t_113_11, hs_f_113_12, hs_f_113_13, hs_f_113_14, hs_r_113_15, hs_t_113_15, hs_f_113_16, hs_r_113_17, hs_t_113_17, hs_r_113_18, hs_t_113_18, hs_r_113_19, hs_t_113_19, hs_r_113_20, hs_t_113_20, hs_f_113_21, hs_f_113_22, hs_f_113_23, hs_r_113_24, hs_t_113_24, hs_f_113_25, hs_r_113_26, hs_t_113_26, hs_f_113_27, hs_i_114, hs_i_115, hs_i_116, hs_i_117, hs_i_118, hs_i_119, hs_i_120, hs_i_121, hs_i_122, hs_i_123, hs_i_124, hs_i_125, hs_i_126, hs_i_127, hs_i_128, hs_i_129, hm1, h14, nI_ltI (show i < 2 ^ 31 by omega) (show hp_T p < 2 ^ 31 by omega), hi, decide_true, vp_in_nI (show i < 8 by omega) (show 8 < 2 ^ 31 by decide), hd_cc (show i < 2147483648 by omega), hcr]
        refine sp_X9_nearest hp hm (show s < 2 ^ 31 by omega) (show i < 8 by omega) _ ?_
        obtain ⟨h0, hh0, hb0⟩ := hne
        obtain ⟨b1, hb1⟩ := hp_nr_some (p := p) (t := i) hh0 hb0
        have hbl := (hp_nr_lt hb1).1
        have hw := (hp_nr_nw hp (set := s) (show i < 8 by omega) (Nat.le_refl _)).1 b1 hb1
        simp only [hb1, hp_oi, sp_X9_wayOf hp hm hbl (show i < 8 by omega), hw, pk_mul, nI_add, nI_1]
        exact hK1
      · rintro ρ S2 K ⟨rfl, hti, x, rfl⟩
        have hl9 := hsl (hp_T p) (Nat.le_refl _)
        simp only [wc_X9_goFrom_23, hd_mth, hd_rho0, hd_args, hd_wide, hq_sQ, hd_s0, hq_sI, hq_sJ, hd_sR, hd_sP, hd_sF, hd_sZ, hd_sG, hd_sA, hd_sL, hd_sB, hd_sO, hd_sN, hd_sD, hd_sW, hd_sE, hd_sRI, hd_sRZ, hd_sRJ, hd_sRR, hd_sRV, hd_sSw, hd_sw, hd_sCI, hd_sCL, hd_iK, hd_iL, hd_iU, hd_iB, hd_iD, hd_iJ, hd_iG, hd_iA, hd_iQ, hd_iC, hd_iN, hd_iE, hd_jK, hd_jL, hd_jU, hd_jB, hd_jD, hd_jH, hd_jI, hd_jA, hd_jQ, hd_jN, hd_rL, hd_rG, hd_rA, hd_rN, hd_cI, hd_c0, hd_cJ, hd_cX, hd_cA, hd_cO, hd_v0, hd_pI, hd_pJ, hd_pR, hd_nV, hd_nS, hd_get, hd_st, hd_stW, hd_cut, List.replicate, List.length_cons, List.length_nil, List.nil_append, List.cons_append, Nat.reduceAdd, Nat.reduceSub, Nat.reduceLeDiff, true_and, and_true, if_true, if_false, Bool.false_eq_true, List.append_nil, hs_o_0, hs_r_0_0, hs_t_0_0, hs_r_0_1, hs_t_0_1, hs_r_0_2, hs_t_0_2, hs_r_0_3, hs_t_0_3, hs_r_0_4, hs_t_0_4, hs_r_0_5, hs_t_0_5, hs_r_0_6, hs_t_0_6, hs_r_0_7, hs_t_0_7, hs_f_0_8, hs_o_1, hs_f_1_0, hs_f_1_1, hs_r_1_2, hs_t_1_2, hs_r_1_3, hs_t_1_3, hs_r_1_4, hs_t_1_4, hs_r_1_5, hs_t_1_5, hs_r_1_6, hs_t_1_6, hs_r_1_7, hs_t_1_7, hs_r_1_8, hs_t_1_8, hs_r_1_9, hs_t_1_9, hs_i_2, hs_i_3, hs_i_4, hs_i_5, hs_i_6, hs_i_7, hs_i_8, hs_i_9, hs_o_82, hs_r_82_0, hs_t_82_0, hs_f_82_1, hs_i_83, hs_o_84, hs_r_84_0, hs_t_84_0, hs_r_84_1, hs_t_84_1, hs_r_84_2, hs_t_84_2, hs_r_84_3, hs_t_84_3, hs_f_84_4, hs_i_85, hs_i_86, hs_i_87, hs_o_88, hs_r_88_0, hs_t_88_0, hs_r_88_1, hs_t_88_1, hs_r_88_2, hs_t_88_2, hs_r_88_3, hs_t_88_3, hs_r_88_4, hs_t_88_4, hs_r_88_5, hs_t_88_5, hs_r_88_6, hs_t_88_6, hs_r_88_7, hs_t_88_7, hs_f_88_8, hs_f_88_9, hs_i_89, hs_i_90, hs_i_91, hs_i_92, hs_i_93, hs_i_94, hs_i_95, hs_i_96, hs_i_97, hs_i_98, hs_i_99, hs_i_100, hs_i_101, hs_i_102, hs_o_103, hs_r_103_0, hs_t_103_0, hs_r_103_1, hs_t_103_1, hs_r_103_2, hs_t_103_2, hs_r_103_3, hs_t_103_3, hs_f_103_4, hs_i_104, hs_o_105, hs_r_105_0, hs_t_105_0, hs_r_105_1, hs_t_105_1, hs_r_105_2, hs_t_105_2, hs_i_106, hs_i_107, hs_o_108, hs_r_108_0, hs_t_108_0, hs_r_108_1, hs_t_108_1, hs_r_108_2, hs_t_108_2, hs_r_108_3, hs_t_108_3, hs_f_108_4, hs_i_109, hs_i_110, hs_o_111, hs_r_111_0, hs_t_111_0, hs_r_111_1, hs_t_111_1, hs_f_111_2, hs_f_111_3, hs_f_111_4, hs_i_112, hs_o_113, hs_f_113_0, hs_f_113_1, hs_f_113_2, hs_r_113_3, hs_t_113_3, hs_r_113_4, hs_t_113_4, hs_r_113_5, hs_t_113_5, hs_r_113_6, hs_t_113_6, hs_r_113_7, hs_t_113_7, hs_r_113_8, hs_t_113_8, hs_r_113_9, hs_t_113_9, hs_r_113_10, hs_t_113_10, hs_r_113_11, hs_t_113_11, hs_f_113_12, hs_f_113_13, hs_f_113_14, hs_r_113_15, hs_t_113_15, hs_f_113_16, hs_r_113_17, hs_t_113_17, hs_r_113_18, hs_t_113_18, hs_r_113_19, hs_t_113_19, hs_r_113_20, hs_t_113_20, hs_f_113_21, hs_f_113_22, hs_f_113_23, hs_r_113_24, hs_t_113_24, hs_f_113_25, hs_r_113_26, hs_t_113_26, hs_f_113_27, hs_i_114, hs_i_115, hs_i_116, hs_i_117, hs_i_118, hs_i_119, hs_i_120, hs_i_121, hs_i_122, hs_i_123, hs_i_124, hs_i_125, hs_i_126, hs_i_127, hs_i_128, hs_i_129, hm1, Int32.lt_irrefl, decide_false, hp_ile (show fb_sm (fun x => if t ≤ x then hp_cr p x * hp_nw p s x (hp_H p) else 0) (hp_T p) < 2 ^ 31 by omega), decide_eq_true_eq]
        by_cases hlow : L.toInt < ((fb_sm (fun x => if t ≤ x then hp_cr p x * hp_nw p s x (hp_H p) else 0) (hp_T p) : Nat) : Int)
        · simp only [hlow, if_true, true_or, true_and]
          refine hk0 S2 ⟨fun _ _ _ => rfl, rfl, fun _ _ => rfl, fun _ _ => rfl⟩ (fun f hf => ?_)
          have := hp_sol_low hp hf
          omega
        · simp only [hlow, if_false]
          clear hlow hl9
          have hcrt := hp.2.2.2.1 t
          refine hd_up (fun h ρ S3 => hm_G S2 S3 t ∧ (∀ a, a < h → ∀ g, g t = a → ¬ hp_sol p s t u L.toInt g) ∧ ∃ w x : hd_V, ρ = [hd_vR 113, hd_vI (nI t), hd_vI L, w, hd_vI (nI h), x] ∧ ∃ w2 : Int32, w = hd_vI w2) (hp_H p) ?_ ?_ (Nat.zero_le _) ⟨⟨fun _ _ _ => rfl, rfl, fun _ _ => rfl, fun _ _ => rfl⟩, fun a ha => by omega, _, _, rfl, _, rfl⟩
          · rintro h ρ S3 K2 hh ⟨hG, hno, w, x3, rfl, w2, rfl⟩ hK2
            have hm3 : hm_P S3 p := hm_P_G hG.1 hm
            have h14b : S3.1 113 14 = nI s := by rw [hG.1 113 (by decide) (by decide)]; exact h14
            have hm32 : S3.1 113 2 = nI (hp_H p) := hm3.2.1
            have hcr : S3.1 114 t = nI (hp_cr p t) := hm3.2.2.1 t (by omega)
            have hro : S3.1 118 h = nI (hp_ro p h) := hm3.2.2.2.2.2.2.1 h (by omega)
            have l2 := hp.2.2.2.2.2.2.2.1 h
            obtain ⟨hu1, hu2⟩ := hu h hh
            have hus : S3.1 127 h = nI (u h) := by rw [hG.2.2.2 h (by omega)]; exact hu1
            have skip : (∀ g, g t = h → ¬ hp_sol p s t u L.toInt g) → ∀ S4, hm_G S2 S4 t → ∀ y, K2 [hd_vR 113, hd_vI (nI t), hd_vI L, hd_vI w2, hd_vI (nI (h + 1)), y] S4 := by
              intro hsk S4 hG4 y
              refine hK2 _ _ ⟨hG4, fun a ha g hg => ?_, _, _, rfl, _, rfl⟩
              by_cases hah : a = h
              · exact hsk g (hg.trans hah)
              · exact hno a (by omega) g hg
            simp only [wc_X9_goFrom_75, wb_X9_goFrom_75, hd_mth, hd_rho0, hd_args, hd_wide, hq_sQ, hd_s0, hq_sI, hq_sJ, hd_sR, hd_sP, hd_sF, hd_sZ, hd_sG, hd_sA, hd_sL, hd_sB, hd_sO, hd_sN, hd_sD, hd_sW, hd_sE, hd_sRI, hd_sRZ, hd_sRJ, hd_sRR, hd_sRV, hd_sSw, hd_sw, hd_sCI, hd_sCL, hd_iK, hd_iL, hd_iU, hd_iB, hd_iD, hd_iJ, hd_iG, hd_iA, hd_iQ, hd_iC, hd_iN, hd_iE, hd_jK, hd_jL, hd_jU, hd_jB, hd_jD, hd_jH, hd_jI, hd_jA, hd_jQ, hd_jN, hd_rL, hd_rG, hd_rA, hd_rN, hd_cI, hd_c0, hd_cJ, hd_cX, hd_cA, hd_cO, hd_v0, hd_pI, hd_pJ, hd_pR, hd_nV, hd_nS, hd_get, hd_st, hd_stW, hd_cut, List.replicate, List.length_cons, List.length_nil, List.nil_append, List.cons_append, Nat.reduceAdd, Nat.reduceSub, Nat.reduceLeDiff, true_and, and_true, if_true, if_false, Bool.false_eq_true, List.append_nil, hs_o_0, hs_r_0_0, hs_t_0_0, hs_r_0_1, hs_t_0_1, hs_r_0_2, hs_t_0_2, hs_r_0_3, hs_t_0_3, hs_r_0_4, hs_t_0_4, hs_r_0_5, hs_t_0_5, hs_r_0_6, hs_t_0_6, hs_r_0_7, hs_t_0_7, hs_f_0_8, hs_o_1, hs_f_1_0, hs_f_1_1, hs_r_1_2, hs_t_1_2, hs_r_1_3, hs_t_1_3, hs_r_1_4, hs_t_1_4, hs_r_1_5, hs_t_1_5, hs_r_1_6, hs_t_1_6, hs_r_1_7, hs_t_1_7, hs_r_1_8, hs_t_1_8, hs_r_1_9, hs_t_1_9, hs_i_2, hs_i_3, hs_i_4, hs_i_5, hs_i_6, hs_i_7, hs_i_8, hs_i_9, hs_o_82, hs_r_82_0, hs_t_82_0, hs_f_82_1, hs_i_83, hs_o_84, hs_r_84_0, hs_t_84_0, hs_r_84_1, hs_t_84_1, hs_r_84_2, hs_t_84_2, hs_r_84_3, hs_t_84_3, hs_f_84_4, hs_i_85, hs_i_86, hs_i_87, hs_o_88, hs_r_88_0, hs_t_88_0, hs_r_88_1, hs_t_88_1, hs_r_88_2, hs_t_88_2, hs_r_88_3, hs_t_88_3, hs_r_88_4, hs_t_88_4, hs_r_88_5, hs_t_88_5, hs_r_88_6, hs_t_88_6, hs_r_88_7, hs_t_88_7, hs_f_88_8, hs_f_88_9, hs_i_89, hs_i_90, hs_i_91, hs_i_92, hs_i_93, hs_i_94, hs_i_95, hs_i_96, hs_i_97, hs_i_98, hs_i_99, hs_i_100, hs_i_101, hs_i_102, hs_o_103, hs_r_103_0, hs_t_103_0, hs_r_103_1, hs_t_103_1, hs_r_103_2, hs_t_103_2, hs_r_103_3, hs_t_103_3, hs_f_103_4, hs_i_104, hs_o_105, hs_r_105_0, hs_t_105_0, hs_r_105_1, hs_t_105_1, hs_r_105_2, hs_t_105_2, hs_i_106, hs_i_107, hs_o_108, hs_r_108_0, hs_t_108_0, hs_r_108_1, hs_t_108_1, hs_r_108_2, hs_t_108_2, hs_r_108_3, hs_t_108_3, hs_f_108_4, hs_i_109, hs_i_110, hs_o_111, hs_r_111_0, hs_t_111_0, hs_r_111_1, hs_t_111_1, hs_f_111_2, hs_f_111_3, hs_f_111_4, hs_i_112, hs_o_113, hs_f_113_0, hs_f_113_1, hs_f_113_2, hs_r_113_3, hs_t_113_3, hs_r_113_4, hs_t_113_4, hs_r_113_5, hs_t_113_5, hs_r_113_6, hs_t_113_6, hs_r_113_7, hs_t_113_7, hs_r_113_8, hs_t_113_8, hs_r_113_9, hs_t_113_9, hs_r_113_10, hs_t_113_10, hs_r_113_11, hs_t_113_11, hs_f_113_12, hs_f_113_13, hs_f_113_14, hs_r_113_15, hs_t_113_15, hs_f_113_16, hs_r_113_17, hs_t_113_17, hs_r_113_18, hs_t_113_18, hs_r_113_19, hs_t_113_19, hs_r_113_20, hs_t_113_20, hs_f_113_21, hs_f_113_22, hs_f_113_23, hs_r_113_24, hs_t_113_24, hs_f_113_25, hs_r_113_26, hs_t_113_26, hs_f_113_27, hs_i_114, hs_i_115, hs_i_116, hs_i_117, hs_i_118, hs_i_119, hs_i_120, hs_i_121, hs_i_122, hs_i_123, hs_i_124, hs_i_125, hs_i_126, hs_i_127, hs_i_128, hs_i_129, hm32, nI_ltI (show h < 2 ^ 31 by omega) (show hp_H p < 2 ^ 31 by omega), hh, decide_true, h14b, sp_X9_has, hb_t (show s < 2 ^ 31 by omega) (show h < 31 by omega), hd_t01, decide_eq_true_eq, vp_in_nI (show h < 7 by omega) (show 7 < 2 ^ 31 by decide), hd_cc (show h < 2147483648 by omega), vp_in_nI (show t < 8 by omega) (show 8 < 2 ^ 31 by decide), hd_cc (show t < 2147483648 by omega), hus, hcr, hro, nI_add, hb_le (show u h + hp_cr p t < 2 ^ 31 by omega) (show hp_ro p h < 2 ^ 31 by omega)]
            by_cases hb : s.testBit h = true
            · by_cases hfit : u h + hp_cr p t ≤ hp_ro p h
              · have w2l := hp_w2_le hp hh (show t < 8 by omega)
                have hLs : (L - nI (hp_cr p t * hp_wy p h t)).toInt = L.toInt - ((hp_w2 p h t : Nat) : Int) := by
                  have e9 : (nI (hp_cr p t * hp_wy p h t)).toInt = ((hp_w2 p h t : Nat) : Int) := nI_toInt (show hp_w2 p h t < 2 ^ 31 by omega)
                  rw [fb_subI (by rw [e9]; omega) (by rw [e9]; omega), e9]
                simp only [hb, hfit, if_true, hd_wI1, show ¬ ((127 : Nat) = 126) by decide, show ¬ ((114 : Nat) = 127) by decide, show ¬ ((114 : Nat) = 126) by decide, false_and, if_false, hus, hcr, nI_add, nI_1]
                have c4 : ∀ c, c ≠ 126 → c ≠ 127 → (hd_wI (hd_wI S3 126 t (nI h)) 127 h (nI (u h + hp_cr p t))).1 c = S2.1 c := fun c h1 h2 => by
                  funext j
                  rw [hd_wI1, if_neg (fun q => h2 q.1), hd_wI1, if_neg (fun q => h1 q.1), hG.1 c h1 h2]
                have u4 : ∀ a, a < hp_H p → (hd_wI (hd_wI S3 126 t (nI h)) 127 h (nI (u h + hp_cr p t))).1 127 a = nI (u a + (if h = a then hp_cr p t else 0)) ∧ u a + (if h = a then hp_cr p t else 0) ≤ hp_ro p a := fun a ha => by
                  rw [hd_wI1]
                  by_cases hah : a = h
                  · subst hah
                    simp only [and_self, if_true]
                    exact ⟨trivial, hfit⟩
                  · have hha : ¬ h = a := fun q => hah q.symm
                    rw [if_neg (fun q => hah q.2), hd_wI1, if_neg (fun q => absurd q.1 (by decide)), hG.2.2.2 a (by omega), if_neg hha, Nat.add_zero]
                    exact hu a ha
                have t4 : (hd_wI (hd_wI S3 126 t (nI h)) 127 h (nI (u h + hp_cr p t))).1 126 t = nI h := by
                  rw [hd_wI1, if_neg (fun q => absurd q.1 (by decide)), hd_wI1, if_pos ⟨rfl, rfl⟩]
                have x4 : ∀ x, x < t → (hd_wI (hd_wI S3 126 t (nI h)) 127 h (nI (u h + hp_cr p t))).1 126 x = S2.1 126 x := fun x hx => by
                  rw [hd_wI1, if_neg (fun q => absurd q.1 (by decide)), hd_wI1, if_neg (fun q => by have := q.2; omega)]
                  exact hG.2.2.1 x hx
                have v4 : ∀ a, a < 7 → a ≠ h → (hd_wI (hd_wI S3 126 t (nI h)) 127 h (nI (u h + hp_cr p t))).1 127 a = S2.1 127 a := fun a ha hah => by
                  rw [hd_wI1, if_neg (fun q => hah q.2), hd_wI1, if_neg (fun q => absurd q.1 (by decide))]
                  exact hG.2.2.2 a ha
                have s4 : (hd_wI (hd_wI S3 126 t (nI h)) 127 h (nI (u h + hp_cr p t))).2 = S2.2 := hG.2.1
                generalize hd_wI (hd_wI S3 126 t (nI h)) 127 h (nI (u h + hp_cr p t)) = S4 at c4 u4 t4 x4 v4 s4
                have hm4 : hm_P S4 p := hm_P_G c4 hm
                have h14c : S4.1 113 14 = nI s := by rw [c4 113 (by decide) (by decide)]; exact h14
                simp only [sp_X9_wayOf hp hm4 hh (show t < 8 by omega), pk_mul]
                -- after the call the hall's guests are as before
                have back : ∀ S5, hm_G S4 S5 (t + 1) → hm_G S2 (hd_wI S5 127 h (S5.1 127 h - S5.1 114 t)) t ∧ ∀ x, (hd_wI S5 127 h (S5.1 127 h - S5.1 114 t)).1 126 x = S5.1 126 x := by
                  intro S5 hG5
                  have e1 : S5.1 127 h = nI (u h + hp_cr p t) := by
                    rw [hG5.2.2.2 h (by omega), (u4 h hh).1, if_pos rfl]
                  have e2 : S5.1 114 t = nI (hp_cr p t) := by
                    rw [hG5.1 114 (by decide) (by decide), c4 114 (by decide) (by decide)]
                    exact hm.2.2.1 t (by omega)
                  have e3 : S5.1 127 h - S5.1 114 t = nI (u h) := by
                    rw [e1, e2, pk_sub (by omega), Nat.add_sub_cancel]
                  refine ⟨⟨fun c h1 h2 => ?_, ?_, fun x hx => ?_, fun a ha => ?_⟩, fun x => by rw [hd_wI1, if_neg (fun q => absurd q.1 (by decide))]⟩
                  · funext j
                    rw [hd_wI1, if_neg (fun q => h2 q.1), hG5.1 c h1 h2, c4 c h1 h2]
                  · rw [hd_wI2, hG5.2.1, s4]
                  · rw [hd_wI1, if_neg (fun q => absurd q.1 (by decide)), hG5.2.2.1 x (by omega), x4 x hx]
                  · rw [hd_wI1]
                    by_cases hah : a = h
                    · rw [if_pos ⟨rfl, hah⟩, e3, hah, hu1]
                    · rw [if_neg (fun q => hah q.2), hG5.2.2.2 a ha, v4 a ha hah]
                refine ih (t + 1) (by omega) (by omega) S4 (fun a => u a + (if h = a then hp_cr p t else 0)) _ _ hm4 h14c u4 (by rw [hLs]; omega) (by rw [hLs]; omega) (fun S5 hG5 hn5 => ?_) (fun S5 f hG5 hf5 hgo5 => ?_)
                · obtain ⟨b1, b2⟩ := back S5 hG5
                  simp only [decide_true, Bool.not_true, Bool.false_eq_true, if_false]
                  refine skip (fun g hg hsol => ?_) _ b1 _
                  have h9 := ((hp_sol_cons ht2).mp hsol).2
                  rw [hg, ← hLs] at h9
                  exact hn5 g h9
                · obtain ⟨b1, b2⟩ := back S5 hG5
                  simp only [show ¬ ((1 : Int32) = 0) by decide, decide_false, Bool.not_false, if_true, or_true, true_and]
                  have hfx : ∀ x, t + 1 ≤ x → x < hp_T p → f x = (fun x => if x = t then h else f x) x := fun x h1 _ => by simp [show ¬ x = t by omega]
                  refine hk1 _ (fun x => if x = t then h else f x) b1 (hp_fst_cons hp ht2 hh hb (by simp) (fun a ha g hg => hno a ha g hg) ⟨?_, fun g hg => ?_⟩) (fun x h1 h2 => ?_)
                  · rw [← hLs]
                    exact hp_sol_cong (fun _ _ => rfl) hfx hf5.1
                  · rw [← hLs] at hg
                    rw [← hp_dt_cong hfx]
                    exact hf5.2 g hg
                  · rw [b2]
                    by_cases hxt : x = t
                    · simp only [hxt, if_true]
                      rw [hG5.2.2.1 t (by omega), t4]
                    · simp only [hxt, if_false]
                      exact hgo5 x (by omega) h2
              · simp only [hb, hfit, if_true, if_false, nI_1]
                refine skip (fun g hg hsol => hfit ?_) S3 hG _
                have h9 := (hp_sol_cons ht2).mp hsol
                have h8 := h9.2.2.1 h hh
                rw [hg] at h8
                simp only [if_true] at h8
                omega
            · simp only [hb, if_false, Bool.false_eq_true, nI_1]
              refine skip (fun g hg hsol => hb ?_) S3 hG _
              have h9 := ((hp_sol_cons ht2).mp hsol).1.2
              rw [hg] at h9
              exact h9
          · rintro ρ S3 K2 ⟨hG, hno, w, x3, rfl, w2, rfl⟩
            have hm3 : hm_P S3 p := hm_P_G hG.1 hm
            have hm32 : S3.1 113 2 = nI (hp_H p) := hm3.2.1
            simp only [wc_X9_goFrom_75, hd_mth, hd_rho0, hd_args, hd_wide, hq_sQ, hd_s0, hq_sI, hq_sJ, hd_sR, hd_sP, hd_sF, hd_sZ, hd_sG, hd_sA, hd_sL, hd_sB, hd_sO, hd_sN, hd_sD, hd_sW, hd_sE, hd_sRI, hd_sRZ, hd_sRJ, hd_sRR, hd_sRV, hd_sSw, hd_sw, hd_sCI, hd_sCL, hd_iK, hd_iL, hd_iU, hd_iB, hd_iD, hd_iJ, hd_iG, hd_iA, hd_iQ, hd_iC, hd_iN, hd_iE, hd_jK, hd_jL, hd_jU, hd_jB, hd_jD, hd_jH, hd_jI, hd_jA, hd_jQ, hd_jN, hd_rL, hd_rG, hd_rA, hd_rN, hd_cI, hd_c0, hd_cJ, hd_cX, hd_cA, hd_cO, hd_v0, hd_pI, hd_pJ, hd_pR, hd_nV, hd_nS, hd_get, hd_st, hd_stW, hd_cut, List.replicate, List.length_cons, List.length_nil, List.nil_append, List.cons_append, Nat.reduceAdd, Nat.reduceSub, Nat.reduceLeDiff, true_and, and_true, if_true, if_false, Bool.false_eq_true, List.append_nil, hs_o_0, hs_r_0_0, hs_t_0_0, hs_r_0_1, hs_t_0_1, hs_r_0_2, hs_t_0_2, hs_r_0_3, hs_t_0_3, hs_r_0_4, hs_t_0_4, hs_r_0_5, hs_t_0_5, hs_r_0_6, hs_t_0_6, hs_r_0_7, hs_t_0_7, hs_f_0_8, hs_o_1, hs_f_1_0, hs_f_1_1, hs_r_1_2, hs_t_1_2, hs_r_1_3, hs_t_1_3, hs_r_1_4, hs_t_1_4, hs_r_1_5, hs_t_1_5, hs_r_1_6, hs_t_1_6, hs_r_1_7, hs_t_1_7, hs_r_1_8, hs_t_1_8, hs_r_1_9, hs_t_1_9, hs_i_2, hs_i_3, hs_i_4, hs_i_5, hs_i_6, hs_i_7, hs_i_8, hs_i_9, hs_o_82, hs_r_82_0, hs_t_82_0, hs_f_82_1, hs_i_83, hs_o_84, hs_r_84_0, hs_t_84_0, hs_r_84_1, hs_t_84_1, hs_r_84_2, hs_t_84_2, hs_r_84_3, hs_t_84_3, hs_f_84_4, hs_i_85, hs_i_86, hs_i_87, hs_o_88, hs_r_88_0, hs_t_88_0, hs_r_88_1, hs_t_88_1, hs_r_88_2, hs_t_88_2, hs_r_88_3, hs_t_88_3, hs_r_88_4, hs_t_88_4, hs_r_88_5, hs_t_88_5, hs_r_88_6, hs_t_88_6, hs_r_88_7, hs_t_88_7, hs_f_88_8, hs_f_88_9, hs_i_89, hs_i_90, hs_i_91, hs_i_92, hs_i_93, hs_i_94, hs_i_95, hs_i_96, hs_i_97, hs_i_98, hs_i_99, hs_i_100, hs_i_101, hs_i_102, hs_o_103, hs_r_103_0, hs_t_103_0, hs_r_103_1, hs_t_103_1, hs_r_103_2, hs_t_103_2, hs_r_103_3, hs_t_103_3, hs_f_103_4, hs_i_104, hs_o_105, hs_r_105_0, hs_t_105_0, hs_r_105_1, hs_t_105_1, hs_r_105_2, hs_t_105_2, hs_i_106, hs_i_107, hs_o_108, hs_r_108_0, hs_t_108_0, hs_r_108_1, hs_t_108_1, hs_r_108_2, hs_t_108_2, hs_r_108_3, hs_t_108_3, hs_f_108_4, hs_i_109, hs_i_110, hs_o_111, hs_r_111_0, hs_t_111_0, hs_r_111_1, hs_t_111_1, hs_f_111_2, hs_f_111_3, hs_f_111_4, hs_i_112, hs_o_113, hs_f_113_0, hs_f_113_1, hs_f_113_2, hs_r_113_3, hs_t_113_3, hs_r_113_4, hs_t_113_4, hs_r_113_5, hs_t_113_5, hs_r_113_6, hs_t_113_6, hs_r_113_7, hs_t_113_7, hs_r_113_8, hs_t_113_8, hs_r_113_9, hs_t_113_9, hs_r_113_10, hs_t_113_10, hs_r_113_11, hs_t_113_11, hs_f_113_12, hs_f_113_13, hs_f_113_14, hs_r_113_15, hs_t_113_15, hs_f_113_16, hs_r_113_17, hs_t_113_17, hs_r_113_18, hs_t_113_18, hs_r_113_19, hs_t_113_19, hs_r_113_20, hs_t_113_20, hs_f_113_21, hs_f_113_22, hs_f_113_23, hs_r_113_24, hs_t_113_24, hs_f_113_25, hs_r_113_26, hs_t_113_26, hs_f_113_27, hs_i_114, hs_i_115, hs_i_116, hs_i_117, hs_i_118, hs_i_119, hs_i_120, hs_i_121, hs_i_122, hs_i_123, hs_i_124, hs_i_125, hs_i_126, hs_i_127, hs_i_128, hs_i_129, hm32, Int32.lt_irrefl, decide_false, true_or, true_and]
            refine hk0 S3 hG (fun f hf => ?_)
            have h9 := ((hp_sol_cons ht2).mp hf).1.1
            exact hno (f t) h9 f rfl hf
      · have e : fb_sm (fun x => if t ≤ x then hp_cr p x * hp_nw p s x (hp_H p) else 0) t = 0 := by
          rw [fb_sm_cong (g := fun _ => 0) (fun x hx => by simp [show ¬ t ≤ x by omega]), fb_sm_const, Nat.mul_zero]
        rw [e]
        rfl
