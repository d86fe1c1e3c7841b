/-! the reference's ring of kept plans: writing, reading -/
set_option maxHeartbeats 4000000 in
theorem sp_write {S : hd_S} {c n N P : Nat} (hc : c ≠ 122 ∧ c ≠ 113) (hin : ∀ i, hd_in hs_sh 0 c i ↔ vp_in i N) (hN : N < 2 ^ 31) (hn : n ≤ N) (hp : S.1 113 16 = nI P) (hP : P + n ≤ 880) (post : Option hd_V → hd_S → Prop)
    (hk : ∀ S2, hd_eqx [113, 122] S S2 → (∀ f, f ≠ 16 → S2.1 113 f = S.1 113 f) → S2.1 113 16 = nI (P + n) → (∀ j, S2.1 122 j = if P ≤ j ∧ j < P + n then S.1 c (j - P) else S.1 122 j) → post none S2) : wm_X9_write [hd_vR 113, hd_vR c, hd_vI (nI n)] S post := by
  simp only [wm_X9_write, wo_X9_write, hd_mth, hd_rho0, hd_args, hd_wide, hq_sQ, hd_s0, hq_sI, hq_sJ, hd_sR, hd_sP, hd_sF, hd_sZ, hd_sG, hd_sA, hd_sL, hd_sB, hd_sO, hd_sN, hd_sD, hd_sW, hd_sE, hd_sRI, hd_sRZ, hd_sRJ, hd_sRR, hd_sRV, hd_sSw, hd_sw, hd_sCI, hd_sCL, hd_iK, hd_iL, hd_iU, hd_iB, hd_iD, hd_iJ, hd_iG, hd_iA, hd_iQ, hd_iC, hd_iN, hd_iE, hd_jK, hd_jL, hd_jU, hd_jB, hd_jD, hd_jH, hd_jI, hd_jA, hd_jQ, hd_jN, hd_rL, hd_rG, hd_rA, hd_rN, hd_cI, hd_c0, hd_cJ, hd_cX, hd_cA, hd_cO, hd_v0, hd_pI, hd_pJ, hd_pR, hd_nV, hd_nS, hd_get, hd_st, hd_stW, hd_cut, List.replicate, List.length_cons, List.length_nil, List.nil_append, List.cons_append, Nat.reduceAdd, Nat.reduceSub, Nat.reduceLeDiff, true_and, and_true, if_true, if_false, Bool.false_eq_true, List.append_nil]
  refine hd_up (fun i ρ S2 => hd_eqx [113, 122] S S2 ∧ (∀ f, f ≠ 16 → S2.1 113 f = S.1 113 f) ∧ S2.1 113 16 = nI (P + i) ∧ (∀ j, S2.1 122 j = if P ≤ j ∧ j < P + i then S.1 c (j - P) else S.1 122 j) ∧ ρ = [hd_vR 113, hd_vR c, hd_vI (nI n), hd_vI (nI i)]) n ?_ ?_ (Nat.zero_le _) ⟨hd_eqx_rf _ _, fun _ _ => rfl, hp, fun j => by rw [if_neg (by omega)], rfl⟩
  · rintro i ρ S2 K hi ⟨he, hf, h16, h122, rfl⟩ hK
    have ec : S2.1 c i = S.1 c i := by rw [he.1 c (by simp only [List.mem_cons, List.not_mem_nil, or_false]; omega)]
    simp only [wc_X9_write_2, wb_X9_write_2, hd_mth, hd_rho0, hd_args, hd_wide, hq_sQ, hd_s0, hq_sI, hq_sJ, hd_sR, hd_sP, hd_sF, hd_sZ, hd_sG, hd_sA, hd_sL, hd_sB, hd_sO, hd_sN, hd_sD, hd_sW, hd_sE, hd_sRI, hd_sRZ, hd_sRJ, hd_sRR, hd_sRV, hd_sSw, hd_sw, hd_sCI, hd_sCL, hd_iK, hd_iL, hd_iU, hd_iB, hd_iD, hd_iJ, hd_iG, hd_iA, hd_iQ, hd_iC, hd_iN, hd_iE, hd_jK, hd_jL, hd_jU, hd_jB, hd_jD, hd_jH, hd_jI, hd_jA, hd_jQ, hd_jN, hd_rL, hd_rG, hd_rA, hd_rN, hd_cI, hd_c0, hd_cJ, hd_cX, hd_cA, hd_cO, hd_v0, hd_pI, hd_pJ, hd_pR, hd_nV, hd_nS, hd_get, hd_st, hd_stW, hd_cut, List.replicate, List.length_cons, List.length_nil, List.nil_append, List.cons_append, Nat.reduceAdd, Nat.reduceSub, Nat.reduceLeDiff, true_and, and_true, if_true, if_false, Bool.false_eq_true, List.append_nil, hs_o_0, hs_r_0_0, hs_t_0_0, hs_r_0_1, hs_t_0_1, hs_r_0_2, hs_t_0_2, hs_r_0_3, hs_t_0_3, hs_r_0_4, hs_t_0_4, hs_r_0_5, hs_t_0_5, hs_r_0_6, hs_t_0_6, hs_r_0_7, hs_t_0_7, hs_f_0_8, hs_o_1, hs_f_1_0, hs_f_1_1, hs_r_1_2, hs_t_1_2, hs_r_1_3, hs_t_1_3, hs_r_1_4, hs_t_1_4, hs_r_1_5, hs_t_1_5, hs_r_1_6, hs_t_1_6, hs_r_1_7, hs_t_1_7, hs_r_1_8, hs_t_1_8, hs_r_1_9, hs_t_1_9, hs_i_2, hs_i_3, hs_i_4, hs_i_5, hs_i_6, hs_i_7, hs_i_8, hs_i_9, hs_o_82, hs_r_82_0, hs_t_82_0, hs_f_82_1, hs_i_83, hs_o_84, hs_r_84_0, hs_t_84_0, hs_r_84_1, hs_t_84_1, hs_r_84_2, hs_t_84_2, hs_r_84_3, hs_t_84_3, hs_f_84_4, hs_i_85, hs_i_86, hs_i_87, hs_o_88, hs_r_88_0, hs_t_88_0, hs_r_88_1, hs_t_88_1, hs_r_88_2, hs_t_88_2, hs_r_88_3, hs_t_88_3, hs_r_88_4, hs_t_88_4, hs_r_88_5, hs_t_88_5, hs_r_88_6, hs_t_88_6, hs_r_88_7, hs_t_88_7, hs_f_88_8, hs_f_88_9, hs_i_89, hs_i_90, hs_i_91, hs_i_92, hs_i_93, hs_i_94, hs_i_95, hs_i_96, hs_i_97, hs_i_98, hs_i_99, hs_i_100, hs_i_101, hs_i_102, hs_o_103, hs_r_103_0, hs_t_103_0, hs_r_103_1, hs_t_103_1, hs_r_103_2, hs_t_103_2, hs_r_103_3, hs_t_103_3, hs_f_103_4, hs_i_104, hs_o_105, hs_r_105_0, hs_t_105_0, hs_r_105_1, hs_t_105_1, hs_r_105_2, hs_t_105_2, hs_i_106, hs_i_107, hs_o_108, hs_r_108_0, hs_t_108_0, hs_r_108_1, hs_t_108_1, hs_r_108_2, hs_t_108_2, hs_r_108_3, hs_t_108_3, hs_f_108_4, hs_i_109, hs_i_110, hs_o_111, hs_r_111_0, hs_t_111_0, hs_r_111_1, hs_t_111_1, hs_f_111_2, hs_f_111_3, hs_f_111_4, hs_i_112, hs_o_113, hs_f_113_0, hs_f_113_1, hs_f_113_2, hs_r_113_3, hs_t_113_3, hs_r_113_4, hs_t_113_4, hs_r_113_5, hs_t_113_5, hs_r_113_6, hs_t_113_6, hs_r_113_7, hs_t_113_7, hs_r_113_8, hs_t_113_8, hs_r_113_9, hs_t_113_9, hs_r_113_10, hs_t_113_10, hs_r_113_11, hs_t_113_11, hs_f_113_12, hs_f_113_13, hs_f_113_14, hs_r_113_15, hs_t_113_15, hs_f_113_16, hs_r_113_17, hs_t_113_17, hs_r_113_18, hs_t_113_18, hs_r_113_19, hs_t_113_19, hs_r_113_20, hs_t_113_20, hs_f_113_21, hs_f_113_22, hs_f_113_23, hs_r_113_24, hs_t_113_24, hs_f_113_25, hs_r_113_26, hs_t_113_26, hs_f_113_27, hs_i_114, hs_i_115, hs_i_116, hs_i_117, hs_i_118, hs_i_119, hs_i_120, hs_i_121, hs_i_122, hs_i_123, hs_i_124, hs_i_125, hs_i_126, hs_i_127, hs_i_128, hs_i_129, hin, nI_ltI (show i < 2 ^ 31 by omega) (show n < 2 ^ 31 by omega), hi, decide_true, h16, vp_in_nI (show P + i < 880 by omega) (show 880 < 2 ^ 31 by decide), hd_cc (show P + i < 2147483648 by omega), vp_in_nI (show i < N by omega) hN, hd_cc (show i < 2147483648 by omega), ec, hx_oth (show (113 : Nat) ≠ 122 by decide), nI_1]
    refine hK _ _ ⟨hd_eqx_w (hd_eqx_w he (by decide)) (by decide), fun f hf2 => ?_, ?_, fun j => ?_, rfl⟩
    · rw [hd_wI1, if_neg (fun r => hf2 r.2), hx_oth (by decide)]
      exact hf f hf2
    · rw [hd_wI1, if_pos ⟨rfl, rfl⟩]
      rfl
    · rw [hx_oth (by decide), hd_wI1]
      by_cases hj : j = P + i
      · rw [if_pos ⟨rfl, hj⟩, if_pos (show P ≤ j ∧ j < P + (i + 1) by omega), hj, show P + i - P = i by omega]
      · rw [if_neg (fun r => hj r.2), h122 j]
        by_cases hc2 : P ≤ j ∧ j < P + i
        · rw [if_pos hc2, if_pos (show P ≤ j ∧ j < P + (i + 1) by omega)]
        · rw [if_neg hc2, if_neg (show ¬ (P ≤ j ∧ j < P + (i + 1)) by omega)]
  · rintro ρ S2 K ⟨he, hf, h16, h122, rfl⟩
    simp only [wc_X9_write_2, hd_mth, hd_rho0, hd_args, hd_wide, hq_sQ, hd_s0, hq_sI, hq_sJ, hd_sR, hd_sP, hd_sF, hd_sZ, hd_sG, hd_sA, hd_sL, hd_sB, hd_sO, hd_sN, hd_sD, hd_sW, hd_sE, hd_sRI, hd_sRZ, hd_sRJ, hd_sRR, hd_sRV, hd_sSw, hd_sw, hd_sCI, hd_sCL, hd_iK, hd_iL, hd_iU, hd_iB, hd_iD, hd_iJ, hd_iG, hd_iA, hd_iQ, hd_iC, hd_iN, hd_iE, hd_jK, hd_jL, hd_jU, hd_jB, hd_jD, hd_jH, hd_jI, hd_jA, hd_jQ, hd_jN, hd_rL, hd_rG, hd_rA, hd_rN, hd_cI, hd_c0, hd_cJ, hd_cX, hd_cA, hd_cO, hd_v0, hd_pI, hd_pJ, hd_pR, hd_nV, hd_nS, hd_get, hd_st, hd_stW, hd_cut, List.replicate, List.length_cons, List.length_nil, List.nil_append, List.cons_append, Nat.reduceAdd, Nat.reduceSub, Nat.reduceLeDiff, true_and, and_true, if_true, if_false, Bool.false_eq_true, List.append_nil, hs_o_0, hs_r_0_0, hs_t_0_0, hs_r_0_1, hs_t_0_1, hs_r_0_2, hs_t_0_2, hs_r_0_3, hs_t_0_3, hs_r_0_4, hs_t_0_4, hs_r_0_5, hs_t_0_5, hs_r_0_6, hs_t_0_6, hs_r_0_7, hs_t_0_7, hs_f_0_8, hs_o_1, hs_f_1_0, hs_f_1_1, hs_r_1_2, hs_t_1_2, hs_r_1_3, hs_t_1_3, hs_r_1_4, hs_t_1_4, hs_r_1_5, hs_t_1_5, hs_r_1_6, hs_t_1_6, hs_r_1_7, hs_t_1_7, hs_r_1_8, hs_t_1_8, hs_r_1_9, hs_t_1_9, hs_i_2, hs_i_3, hs_i_4, hs_i_5, hs_i_6, hs_i_7, hs_i_8, hs_i_9, hs_o_82, hs_r_82_0, hs_t_82_0, hs_f_82_1, hs_i_83, hs_o_84, hs_r_84_0, hs_t_84_0, hs_r_84_1, hs_t_84_1, hs_r_84_2, hs_t_84_2, hs_r_84_3, hs_t_84_3, hs_f_84_4, hs_i_85, hs_i_86, hs_i_87, hs_o_88, hs_r_88_0, hs_t_88_0, hs_r_88_1, hs_t_88_1, hs_r_88_2, hs_t_88_2, hs_r_88_3, hs_t_88_3, hs_r_88_4, hs_t_88_4, hs_r_88_5, hs_t_88_5, hs_r_88_6, hs_t_88_6, hs_r_88_7, hs_t_88_7, hs_f_88_8, hs_f_88_9, hs_i_89, hs_i_90, hs_i_91, hs_i_92, hs_i_93, hs_i_94, hs_i_95, hs_i_96, hs_i_97, hs_i_98, hs_i_99, hs_i_100, hs_i_101, hs_i_102, hs_o_103, hs_r_103_0, hs_t_103_0, hs_r_103_1, hs_t_103_1, hs_r_103_2, hs_t_103_2, hs_r_103_3, hs_t_103_3, hs_f_103_4, hs_i_104, hs_o_105, hs_r_105_0, hs_t_105_0, hs_r_105_1, hs_t_105_1, hs_r_105_2, hs_t_105_2, hs_i_106, hs_i_107, hs_o_108, hs_r_108_0, hs_t_108_0, hs_r_108_1, hs_t_108_1, hs_r_108_2, hs_t_108_2, hs_r_108_3, hs_t_108_3, hs_f_108_4, hs_i_109, hs_i_110, hs_o_111, hs_r_111_0, hs_t_111_0, hs_r_111_1, hs_t_111_1, hs_f_111_2, hs_f_111_3, hs_f_111_4, hs_i_112, hs_o_113, hs_f_113_0, hs_f_113_1, hs_f_113_2, hs_r_113_3, hs_t_113_3, hs_r_113_4, hs_t_113_4, hs_r_113_5, hs_t_113_5, hs_r_113_6, hs_t_113_6, hs_r_113_7, hs_t_113_7, hs_r_113_8, hs_t_113_8, hs_r_113_9, hs_t_113_9, hs_r_113_10, hs_t_113_10, hs_r_113_11, hs_t_113_11, hs_f_113_12, hs_f_113_13, hs_f_113_14, hs_r_113_15, hs_t_113_15, hs_f_113_16, hs_r_113_17, hs_t_113_17, hs_r_113_18, hs_t_113_18, hs_r_113_19, hs_t_113_19, hs_r_113_20, hs_t_113_20, hs_f_113_21, hs_f_113_22, hs_f_113_23, hs_r_113_24, hs_t_113_24, hs_f_113_25, hs_r_113_26, hs_t_113_26, hs_f_113_27, hs_i_114, hs_i_115, hs_i_116, hs_i_117, hs_i_118, hs_i_119, hs_i_120, hs_i_121, hs_i_122, hs_i_123, hs_i_124, hs_i_125, hs_i_126, hs_i_127, hs_i_128, hs_i_129, Int32.lt_irrefl, decide_false]
    exact hk S2 he hf h16 h122
set_option maxHeartbeats 4000000 in
theorem sp_read {S : hd_S} {c n N P : Nat} (hc : c ≠ 122 ∧ c ≠ 113) (hin : ∀ i, hd_in hs_sh 0 c i ↔ vp_in i N) (hN : N < 2 ^ 31) (hn : n ≤ N) (hp : S.1 113 16 = nI P) (hP : P + n ≤ 880) (post : Option hd_V → hd_S → Prop)
    (hk : ∀ S2, hd_eqx [113, c] S S2 → (∀ f, f ≠ 16 → S2.1 113 f = S.1 113 f) → S2.1 113 16 = nI (P + n) → (∀ j, j < n → S2.1 c j = S.1 122 (P + j)) → post none S2) : wm_X9_read [hd_vR 113, hd_vR c, hd_vI (nI n)] S post := by
  simp only [wm_X9_read, wo_X9_read, hd_mth, hd_rho0, hd_args, hd_wide, hq_sQ, hd_s0, hq_sI, hq_sJ, hd_sR, hd_sP, hd_sF, hd_sZ, hd_sG, hd_sA, hd_sL, hd_sB, hd_sO, hd_sN, hd_sD, hd_sW, hd_sE, hd_sRI, hd_sRZ, hd_sRJ, hd_sRR, hd_sRV, hd_sSw, hd_sw, hd_sCI, hd_sCL, hd_iK, hd_iL, hd_iU, hd_iB, hd_iD, hd_iJ, hd_iG, hd_iA, hd_iQ, hd_iC, hd_iN, hd_iE, hd_jK, hd_jL, hd_jU, hd_jB, hd_jD, hd_jH, hd_jI, hd_jA, hd_jQ, hd_jN, hd_rL, hd_rG, hd_rA, hd_rN, hd_cI, hd_c0, hd_cJ, hd_cX, hd_cA, hd_cO, hd_v0, hd_pI, hd_pJ, hd_pR, hd_nV, hd_nS, hd_get, hd_st, hd_stW, hd_cut, List.replicate, List.length_cons, List.length_nil, List.nil_append, List.cons_append, Nat.reduceAdd, Nat.reduceSub, Nat.reduceLeDiff, true_and, and_true, if_true, if_false, Bool.false_eq_true, List.append_nil]
  refine hd_up (fun i ρ S2 => hd_eqx [113, c] S S2 ∧ (∀ f, f ≠ 16 → S2.1 113 f = S.1 113 f) ∧ S2.1 113 16 = nI (P + i) ∧ (∀ j, j < i → S2.1 c j = S.1 122 (P + j)) ∧ ρ = [hd_vR 113, hd_vR c, hd_vI (nI n), hd_vI (nI i)]) n ?_ ?_ (Nat.zero_le _) ⟨hd_eqx_rf _ _, fun _ _ => rfl, hp, fun j hj => by omega, rfl⟩
  · rintro i ρ S2 K hi ⟨he, hf, h16, hcj, rfl⟩ hK
    have ec : S2.1 122 (P + i) = S.1 122 (P + i) := by rw [he.1 122 (by simp only [List.mem_cons, List.not_mem_nil, or_false]; omega)]
    simp only [wc_X9_read_2, wb_X9_read_2, hd_mth, hd_rho0, hd_args, hd_wide, hq_sQ, hd_s0, hq_sI, hq_sJ, hd_sR, hd_sP, hd_sF, hd_sZ, hd_sG, hd_sA, hd_sL, hd_sB, hd_sO, hd_sN, hd_sD, hd_sW, hd_sE, hd_sRI, hd_sRZ, hd_sRJ, hd_sRR, hd_sRV, hd_sSw, hd_sw, hd_sCI, hd_sCL, hd_iK, hd_iL, hd_iU, hd_iB, hd_iD, hd_iJ, hd_iG, hd_iA, hd_iQ, hd_iC, hd_iN, hd_iE, hd_jK, hd_jL, hd_jU, hd_jB, hd_jD, hd_jH, hd_jI, hd_jA, hd_jQ, hd_jN, hd_rL, hd_rG, hd_rA, hd_rN, hd_cI, hd_c0, hd_cJ, hd_cX, hd_cA, hd_cO, hd_v0, hd_pI, hd_pJ, hd_pR, hd_nV, hd_nS, hd_get, hd_st, hd_stW, hd_cut, List.replicate, List.length_cons, List.length_nil, List.nil_append, List.cons_append, Nat.reduceAdd, Nat.reduceSub, Nat.reduceLeDiff, true_and, and_true, if_true, if_false, Bool.false_eq_true, List.append_nil, hs_o_0, hs_r_0_0, hs_t_0_0, hs_r_0_1, hs_t_0_1, hs_r_0_2, hs_t_0_2, hs_r_0_3, hs_t_0_3, hs_r_0_4, hs_t_0_4, hs_r_0_5, hs_t_0_5, hs_r_0_6, hs_t_0_6, hs_r_0_7, hs_t_0_7, hs_f_0_8, hs_o_1, hs_f_1_0, hs_f_1_1, hs_r_1_2, hs_t_1_2, hs_r_1_3, hs_t_1_3, hs_r_1_4, hs_t_1_4, hs_r_1_5, hs_t_1_5, hs_r_1_6, hs_t_1_6, hs_r_1_7, hs_t_1_7, hs_r_1_8, hs_t_1_8, hs_r_1_9, hs_t_1_9, hs_i_2, hs_i_3, hs_i_4, hs_i_5, hs_i_6, hs_i_7, hs_i_8, hs_i_9, hs_o_82, hs_r_82_0, hs_t_82_0, hs_f_82_1, hs_i_83, hs_o_84, hs_r_84_0, hs_t_84_0, hs_r_84_1, hs_t_84_1, hs_r_84_2, hs_t_84_2, hs_r_84_3, hs_t_84_3, hs_f_84_4, hs_i_85, hs_i_86, hs_i_87, hs_o_88, hs_r_88_0, hs_t_88_0, hs_r_88_1, hs_t_88_1, hs_r_88_2, hs_t_88_2, hs_r_88_3, hs_t_88_3, hs_r_88_4, hs_t_88_4, hs_r_88_5, hs_t_88_5, hs_r_88_6, hs_t_88_6, hs_r_88_7, hs_t_88_7, hs_f_88_8, hs_f_88_9, hs_i_89, hs_i_90, hs_i_91, hs_i_92, hs_i_93, hs_i_94, hs_i_95, hs_i_96, hs_i_97, hs_i_98, hs_i_99, hs_i_100, hs_i_101, hs_i_102, hs_o_103, hs_r_103_0, hs_t_103_0, hs_r_103_1, hs_t_103_1, hs_r_103_2, hs_t_103_2, hs_r_103_3, hs_t_103_3, hs_f_103_4, hs_i_104, hs_o_105, hs_r_105_0, hs_t_105_0, hs_r_105_1, hs_t_105_1, hs_r_105_2, hs_t_105_2, hs_i_106, hs_i_107, hs_o_108, hs_r_108_0, hs_t_108_0, hs_r_108_1, hs_t_108_1, hs_r_108_2, hs_t_108_2, hs_r_108_3, hs_t_108_3, hs_f_108_4, hs_i_109, hs_i_110, hs_o_111, hs_r_111_0, hs_t_111_0, hs_r_111_1, hs_t_111_1, hs_f_111_2, hs_f_111_3, hs_f_111_4, hs_i_112, hs_o_113, hs_f_113_0, hs_f_113_1, hs_f_113_2, hs_r_113_3, hs_t_113_3, hs_r_113_4, hs_t_113_4, hs_r_113_5, hs_t_113_5, hs_r_113_6, hs_t_113_6, hs_r_113_7, hs_t_113_7, hs_r_113_8, hs_t_113_8, hs_r_113_9, hs_t_113_9, hs_r_113_10, hs_t_113_10, hs_r_113_11, hs_t_113_11, hs_f_113_12, hs_f_113_13, hs_f_113_14, hs_r_113_15, hs_t_113_15, hs_f_113_16, hs_r_113_17, hs_t_113_17, hs_r_113_18, hs_t_113_18, hs_r_113_19, hs_t_113_19, hs_r_113_20, hs_t_113_20, hs_f_113_21, hs_f_113_22, hs_f_113_23, hs_r_113_24, hs_t_113_24, hs_f_113_25, hs_r_113_26, hs_t_113_26, hs_f_113_27, hs_i_114, hs_i_115, hs_i_116, hs_i_117, hs_i_118, hs_i_119, hs_i_120, hs_i_121, hs_i_122, hs_i_123, hs_i_124, hs_i_125, hs_i_126, hs_i_127, hs_i_128, hs_i_129, hin, nI_ltI (show i < 2 ^ 31 by omega) (show n < 2 ^ 31 by omega), hi, decide_true, h16, vp_in_nI (show P + i < 880 by omega) (show 880 < 2 ^ 31 by decide), hd_cc (show P + i < 2147483648 by omega), vp_in_nI (show i < N by omega) hN, hd_cc (show i < 2147483648 by omega), ec, hx_oth (show (113 : Nat) ≠ c from fun r => hc.2 r.symm), nI_1]
    refine hK _ _ ⟨hd_eqx_w (hd_eqx_w he (by simp)) (by simp), fun f hf2 => ?_, ?_, fun j hj => ?_, rfl⟩
    · rw [hd_wI1, if_neg (fun r => hf2 r.2), hx_oth (fun r => hc.2 r.symm)]
      exact hf f hf2
    · rw [hd_wI1, if_pos ⟨rfl, rfl⟩]
      rfl
    · rw [hx_oth hc.2, hd_wI1]
      by_cases hji : j = i
      · rw [if_pos ⟨rfl, hji⟩, hji]
      · rw [if_neg (fun r => hji r.2)]
        exact hcj j (by omega)
  · rintro ρ S2 K ⟨he, hf, h16, hcj, rfl⟩
    simp only [wc_X9_read_2, hd_mth, hd_rho0, hd_args, hd_wide, hq_sQ, hd_s0, hq_sI, hq_sJ, hd_sR, hd_sP, hd_sF, hd_sZ, hd_sG, hd_sA, hd_sL, hd_sB, hd_sO, hd_sN, hd_sD, hd_sW, hd_sE, hd_sRI, hd_sRZ, hd_sRJ, hd_sRR, hd_sRV, hd_sSw, hd_sw, hd_sCI, hd_sCL, hd_iK, hd_iL, hd_iU, hd_iB, hd_iD, hd_iJ, hd_iG, hd_iA, hd_iQ, hd_iC, hd_iN, hd_iE, hd_jK, hd_jL, hd_jU, hd_jB, hd_jD, hd_jH, hd_jI, hd_jA, hd_jQ, hd_jN, hd_rL, hd_rG, hd_rA, hd_rN, hd_cI, hd_c0, hd_cJ, hd_cX, hd_cA, hd_cO, hd_v0, hd_pI, hd_pJ, hd_pR, hd_nV, hd_nS, hd_get, hd_st, hd_stW, hd_cut, List.replicate, List.length_cons, List.length_nil, List.nil_append, List.cons_append, Nat.reduceAdd, Nat.reduceSub, Nat.reduceLeDiff, true_and, and_true, if_true, if_false, Bool.false_eq_true, List.append_nil, hs_o_0, hs_r_0_0, hs_t_0_0, hs_r_0_1, hs_t_0_1, hs_r_0_2, hs_t_0_2, hs_r_0_3, hs_t_0_3, hs_r_0_4, hs_t_0_4, hs_r_0_5, hs_t_0_5, hs_r_0_6, hs_t_0_6, hs_r_0_7, hs_t_0_7, hs_f_0_8, hs_o_1, hs_f_1_0, hs_f_1_1, hs_r_1_2, hs_t_1_2, hs_r_1_3, hs_t_1_3, hs_r_1_4, hs_t_1_4, hs_r_1_5, hs_t_1_5, hs_r_1_6, hs_t_1_6, hs_r_1_7, hs_t_1_7, hs_r_1_8, hs_t_1_8, hs_r_1_9, hs_t_1_9, hs_i_2, hs_i_3, hs_i_4, hs_i_5, hs_i_6, hs_i_7, hs_i_8, hs_i_9, hs_o_82, hs_r_82_0, hs_t_82_0, hs_f_82_1, hs_i_83, hs_o_84, hs_r_84_0, hs_t_84_0, hs_r_84_1, hs_t_84_1, hs_r_84_2, hs_t_84_2, hs_r_84_3, hs_t_84_3, hs_f_84_4, hs_i_85, hs_i_86, hs_i_87, hs_o_88, hs_r_88_0, hs_t_88_0, hs_r_88_1, hs_t_88_1, hs_r_88_2, hs_t_88_2, hs_r_88_3, hs_t_88_3, hs_r_88_4, hs_t_88_4, hs_r_88_5, hs_t_88_5, hs_r_88_6, hs_t_88_6, hs_r_88_7, hs_t_88_7, hs_f_88_8, hs_f_88_9, hs_i_89, hs_i_90, hs_i_91, hs_i_92, hs_i_93, hs_i_94, hs_i_95, hs_i_96, hs_i_97, hs_i_98, hs_i_99, hs_i_100, hs_i_101, hs_i_102, hs_o_103, hs_r_103_0, hs_t_103_0, hs_r_103_1, hs_t_103_1, hs_r_103_2, hs_t_103_2, hs_r_103_3, hs_t_103_3, hs_f_103_4, hs_i_104, hs_o_105, hs_r_105_0, hs_t_105_0, hs_r_105_1, hs_t_105_1, hs_r_105_2, hs_t_105_2, hs_i_106, hs_i_107, hs_o_108, hs_r_108_0, hs_t_108_0, hs_r_108_1, hs_t_108_1, hs_r_108_2, hs_t_108_2, hs_r_108_3, hs_t_108_3, hs_f_108_4, hs_i_109, hs_i_110, hs_o_111, hs_r_111_0, hs_t_111_0, hs_r_111_1, hs_t_111_1, hs_f_111_2, hs_f_111_3, hs_f_111_4, hs_i_112, hs_o_113, hs_f_113_0, hs_f_113_1, hs_f_113_2, hs_r_113_3, hs_t_113_3, hs_r_113_4, hs_t_113_4, hs_r_113_5, hs_t_113_5, hs_r_113_6, hs_t_113_6, hs_r_113_7, hs_t_113_7, hs_r_113_8, hs_t_113_8, hs_r_113_9, hs_t_113_9, hs_r_113_10, hs_t_113_10, hs_r_113_11, hs_t_113_11, hs_f_113_12, hs_f_113_13, hs_f_113_14, hs_r_113_15, hs_t_113_15, hs_f_113_16, hs_r_113_17, hs_t_113_17, hs_r_113_18, hs_t_113_18, hs_r_113_19, hs_t_113_19, hs_r_113_20, hs_t_113_20, hs_f_113_21, hs_f_113_22, hs_f_113_23, hs_r_113_24, hs_t_113_24, hs_f_113_25, hs_r_113_26, hs_t_113_26, hs_f_113_27, hs_i_114, hs_i_115, hs_i_116, hs_i_117, hs_i_118, hs_i_119, hs_i_120, hs_i_121, hs_i_122, hs_i_123, hs_i_124, hs_i_125, hs_i_126, hs_i_127, hs_i_128, hs_i_129, Int32.lt_irrefl, decide_false]
    exact hk S2 he hf h16 hcj
/-- block k of the ring holds the plan p -/
def hm_B (S : hd_S) (k : Nat) (p : hp_P) : Prop := S.1 122 (110 * k) = nI (hp_T p) ∧ S.1 122 (110 * k + 1) = nI (hp_H p) ∧ (∀ t, t < 8 → S.1 122 (110 * k + 2 + t) = nI (hp_cr p t)) ∧ (∀ t, t < 8 → S.1 122 (110 * k + 10 + t) = nI (hp_fi p t)) ∧ (∀ t, t < 8 → S.1 122 (110 * k + 18 + t) = Int32.ofInt (hp_sp p t)) ∧ (∀ h, h < 7 → S.1 122 (110 * k + 26 + h) = nI (hp_pr p h)) ∧ (∀ h, h < 7 → S.1 122 (110 * k + 33 + h) = nI (hp_ro p h)) ∧ (∀ h, h < 7 → S.1 122 (110 * k + 40 + h) = Int32.ofInt (hp_wd p h)) ∧ (∀ h, h < 7 → S.1 122 (110 * k + 47 + h) = nI (hp_ln p h)) ∧ (∀ h, h < hp_H p → ∀ t, t < 8 → hp_wd p h ≠ -1 ∧ t < hp_ln p h → S.1 122 (110 * k + 54 + (h * 8 + t)) = nI (hp_wy p h t))
theorem hm_B_eq {S S2 : hd_S} {k : Nat} {p : hp_P} (hH : hp_H p ≤ 7) (h : ∀ j, 110 * k ≤ j → j < 110 * k + 110 → S2.1 122 j = S.1 122 j) (hb : hm_B S k p) : hm_B S2 k p := by
  obtain ⟨b1, b2, b3, b4, b5, b6, b7, b8, b9, b10⟩ := hb
  refine ⟨(h _ (by omega) (by omega)).trans b1, (h _ (by omega) (by omega)).trans b2, fun t ht => (h _ (by omega) (by omega)).trans (b3 t ht), fun t ht => (h _ (by omega) (by omega)).trans (b4 t ht), fun t ht => (h _ (by omega) (by omega)).trans (b5 t ht), fun t ht => (h _ (by omega) (by omega)).trans (b6 t ht), fun t ht => (h _ (by omega) (by omega)).trans (b7 t ht), fun t ht => (h _ (by omega) (by omega)).trans (b8 t ht), fun t ht => (h _ (by omega) (by omega)).trans (b9 t ht), fun a ha t ht hv => (h _ (by omega) (by omega)).trans (b10 a ha t ht hv)⟩
def hm_past (S : hd_S) (n : Nat) (q : Nat → hp_P) : Prop := n ≤ 8 ∧ S.1 113 13 = nI n ∧ ∃ e, e < 8 ∧ S.1 113 12 = nI e ∧ ∀ i, i < n → hm_B S ((e + 8 - n + i) % 8) (q i)
/-- one row written, as a step -/
theorem sp_wr {f c n N P : Nat} {nn : Int32} (rf : hd_fR hs_sh 9 f 113 c) (hc : c ≠ 122 ∧ c ≠ 113) (hin : ∀ i, hd_in hs_sh 0 c i ↔ vp_in i N) (hN : N < 2 ^ 31) (hn : n ≤ N) (hnn : nn = nI n) {S : hd_S} (hp : S.1 113 16 = nI P) (hP : P + n ≤ 880) {nrm : List hd_V → hd_S → Prop} {ret : Option hd_V → hd_S → Prop}
    (hk : ∀ S2, hd_eqx [113, 122] S S2 → (∀ f, f ≠ 16 → S2.1 113 f = S.1 113 f) → S2.1 113 16 = nI (P + n) → (∀ j, S2.1 122 j = if P ≤ j ∧ j < P + n then S.1 c (j - P) else S.1 122 j) → nrm [hd_vR 113] S2) : hd_sN (hd_nV hs_sh 9 (hd_rL 0) 2 (hd_pI (hd_pR hd_v0 (hd_rG hs_sh 9 f (hd_rL 0))) (hd_iK nn)) wm_X9_write) [hd_vR 113] S nrm ret := by
  have tf := hd_ft_eq rf
  subst hnn
  simp only [hd_sN, hd_nV, hd_rL, hd_get, hd_pI, hd_pR, hd_v0, hd_rG, hd_iK, tf, rf, hs_o_113, List.nil_append, List.cons_append, List.length_cons, List.length_nil, Nat.reduceAdd, true_and]
  exact sp_write hc hin hN hn hp hP _ (fun S2 a b c d => ⟨rfl, hk S2 a b c d⟩)
theorem sp_rd {f c n N P : Nat} {nn : Int32} (rf : hd_fR hs_sh 9 f 113 c) (hc : c ≠ 122 ∧ c ≠ 113) (hin : ∀ i, hd_in hs_sh 0 c i ↔ vp_in i N) (hN : N < 2 ^ 31) (hn : n ≤ N) (hnn : nn = nI n) {S : hd_S} (hp : S.1 113 16 = nI P) (hP : P + n ≤ 880) {nrm : List hd_V → hd_S → Prop} {ret : Option hd_V → hd_S → Prop} {x : hd_V}
    (hk : ∀ S2, hd_eqx [113, c] S S2 → (∀ f, f ≠ 16 → S2.1 113 f = S.1 113 f) → S2.1 113 16 = nI (P + n) → (∀ j, j < n → S2.1 c j = S.1 122 (P + j)) → nrm [hd_vR 113, x] S2) : hd_sN (hd_nV hs_sh 9 (hd_rL 0) 2 (hd_pI (hd_pR hd_v0 (hd_rG hs_sh 9 f (hd_rL 0))) (hd_iK nn)) wm_X9_read) [hd_vR 113, x] S nrm ret := by
  have tf := hd_ft_eq rf
  subst hnn
  simp only [hd_sN, hd_nV, hd_rL, hd_get, hd_pI, hd_pR, hd_v0, hd_rG, hd_iK, tf, rf, hs_o_113, List.nil_append, List.cons_append, List.length_cons, List.length_nil, Nat.reduceAdd, true_and]
  exact sp_read hc hin hN hn hp hP _ (fun S2 a b c d => ⟨rfl, hk S2 a b c d⟩)
set_option maxHeartbeats 8000000 in
/-- keep: the present plan goes into the ring -/
theorem sp_keep {S : hd_S} {p : hp_P} {n : Nat} {q : Nat → hp_P} (hok : hp_ok p) (hq : ∀ i, i < n → hp_ok (q i)) (hm : hm_P S p) (hpa : hm_past S n q) (post : Option hd_V → hd_S → Prop)
    (hk : ∀ S2, hd_eqx [113, 122] S S2 → (∀ f, f ≠ 12 → f ≠ 13 → f ≠ 16 → S2.1 113 f = S.1 113 f) → hm_past S2 (hp_kn n) (hp_kq n q p) → post none S2) : wm_X9_keep [hd_vR 113] S post := by
  obtain ⟨hn8, h13, e, he8, h12, hbl⟩ := hpa
  have hH : hp_H p ≤ 7 := hok.2.1
  simp only [wm_X9_keep, hd_mth, hd_rho0, hd_args, hd_wide, List.replicate, List.length_cons, List.length_nil, List.nil_append, List.cons_append, Nat.reduceAdd, Nat.reduceSub, Nat.reduceLeDiff, true_and, List.append_nil, if_false, Bool.false_eq_true]
  unfold wo_X9_keep
  have e110 : (110 : Int32) * nI e = nI (110 * e) := pk_mul 110 e
  rw [hq_sQ]
  simp only [hd_sF, hd_iB, hd_iK, hd_iG, hd_rL, hd_get, hs_f_113_12, hs_f_113_16, h12, e110, true_and]
  rw [hq_sQ]
  simp only [hd_sA, hd_rG, hd_rL, hd_get, hd_iG, hd_iB, hd_iK, hs_f_113_16, hs_f_113_1, hs_t_113_11, hs_r_113_11, hs_i_122, hd_wI1, and_self, if_true, Nat.reduceEqDiff, and_false, if_false, vp_in_nI (show 110 * e < 880 by omega) (show 880 < 2 ^ 31 by decide), hd_cc (show 110 * e < 2147483648 by omega), true_and]
  rw [hq_sQ]
  simp only [hd_sA, hd_rG, hd_rL, hd_get, hd_iG, hd_iB, hd_iK, hs_f_113_16, hs_f_113_2, hs_t_113_11, hs_r_113_11, hs_i_122, hd_wI1, show ¬ ((113 : Nat) = 122) by decide, false_and, and_self, if_true, Nat.reduceEqDiff, and_false, if_false, nI_1, vp_in_nI (show 110 * e + 1 < 880 by omega) (show 880 < 2 ^ 31 by decide), hd_cc (show 110 * e + 1 < 2147483648 by omega), true_and]
  rw [hq_sQ]
  have e2 : nI (110 * e) + 2 = nI (110 * e + 2) := nI_add (110 * e) 2
  simp only [hd_sG, hd_rL, hd_get, hd_iK, hs_f_113_16, hd_wI1, show ¬ ((113 : Nat) = 122) by decide, false_and, and_self, if_true, if_false, e2, true_and]
  generalize hS1 : hd_wI (hd_wI (hd_wI (hd_wI S 113 16 (nI (110 * e))) 122 (110 * e) (S.1 113 1)) 122 (110 * e + 1) (S.1 113 2)) 113 16 (nI (110 * e + 2)) = S1
  have g0 : hd_eqx [113, 122] S S1 := by
    rw [← hS1]
    exact hd_eqx_w (hd_eqx_w (hd_eqx_w (hd_eqx_w (hd_eqx_rf _ _) (by decide)) (by decide)) (by decide)) (by decide)
  have f0 : ∀ f, f ≠ 16 → S1.1 113 f = S.1 113 f := fun f hf => by
    rw [← hS1, hd_wI1, if_neg (fun r => hf r.2), hx_oth (by decide), hx_oth (by decide), hd_wI1, if_neg (fun r => hf r.2)]
  have p0 : S1.1 113 16 = nI (110 * e + 2) := by
    rw [← hS1, hd_wI1, if_pos ⟨rfl, rfl⟩]
  have t0 : ∀ j, S1.1 122 j = if j = 110 * e then nI (hp_T p) else if j = 110 * e + 1 then nI (hp_H p) else S.1 122 j := fun j => by
    rw [← hS1, hx_oth (by decide), hd_wI1]
    by_cases h1 : j = 110 * e + 1
    · rw [if_pos ⟨rfl, h1⟩, if_neg (by omega), if_pos h1]
      exact hm.2.1
    · rw [if_neg (fun r => h1 r.2), hd_wI1]
      by_cases h2 : j = 110 * e
      · rw [if_pos ⟨rfl, h2⟩, if_pos h2]
        exact hm.1
      · rw [if_neg (fun r => h2 r.2), if_neg h2, if_neg h1, hx_oth (by decide)]
  clear hS1
  rw [hq_sQ]
  refine sp_wr (P := 110 * e + 2) (n := 8) (N := 8) hs_r_113_3 (by decide) hs_i_114 (by decide) (by decide) rfl p0 (by omega) (fun S2 g1 f1 p1 t1 => ?_)
  rw [hq_sQ]
  refine sp_wr (P := 110 * e + 10) (n := 8) (N := 8) hs_r_113_4 (by decide) hs_i_115 (by decide) (by decide) rfl p1 (by omega) (fun S3 g2 f2 p2 t2 => ?_)
  rw [hq_sQ]
  refine sp_wr (P := 110 * e + 18) (n := 8) (N := 8) hs_r_113_5 (by decide) hs_i_116 (by decide) (by decide) rfl p2 (by omega) (fun S4 g3 f3 p3 t3 => ?_)
  rw [hq_sQ]
  refine sp_wr (P := 110 * e + 26) (n := 7) (N := 7) hs_r_113_6 (by decide) hs_i_117 (by decide) (by decide) rfl p3 (by omega) (fun S5 g4 f4 p4 t4 => ?_)
  rw [hq_sQ]
  refine sp_wr (P := 110 * e + 33) (n := 7) (N := 7) hs_r_113_7 (by decide) hs_i_118 (by decide) (by decide) rfl p4 (by omega) (fun S6 g5 f5 p5 t5 => ?_)
  rw [hq_sQ]
  refine sp_wr (P := 110 * e + 40) (n := 7) (N := 7) hs_r_113_8 (by decide) hs_i_119 (by decide) (by decide) rfl p5 (by omega) (fun S7 g6 f6 p6 t6 => ?_)
  rw [hq_sQ]
  refine sp_wr (P := 110 * e + 47) (n := 7) (N := 7) hs_r_113_9 (by decide) hs_i_120 (by decide) (by decide) rfl p6 (by omega) (fun S8 g7 f7 p7 t7 => ?_)
  rw [hq_sQ]
  refine sp_wr (P := 110 * e + 54) (n := 56) (N := 56) hs_r_113_10 (by decide) hs_i_121 (by decide) (by decide) rfl p7 (by omega) (fun S9 g8 f8 p8 t8 => ?_)
  rw [hq_sQ]
  have h12b : S9.1 113 12 = nI e := by rw [f8 12 (by decide), f7 12 (by decide), f6 12 (by decide), f5 12 (by decide), f4 12 (by decide), f3 12 (by decide), f2 12 (by decide), f1 12 (by decide), f0 12 (by decide)]; exact h12
  have h13b : S9.1 113 13 = nI n := by rw [f8 13 (by decide), f7 13 (by decide), f6 13 (by decide), f5 13 (by decide), f4 13 (by decide), f3 13 (by decide), f2 13 (by decide), f1 13 (by decide), f0 13 (by decide)]; exact h13
  have e8 : nI (e + 1) - nI (e + 1) / 8 * 8 = nI ((e + 1) % 8) := pk_rem (d := 8) (by omega) (by decide) (by decide)
  simp only [hd_sF, hd_iD, hd_iB, hd_iK, hd_iG, hd_rL, hd_get, hs_f_113_12, h12b, nI_1, e8, show ¬ ((8 : Int32) = 0) by decide, not_false_iff, true_and]
  rw [hq_sQ]
  simp only [hd_sF, hd_iQ, hd_cI, hd_iB, hd_iK, hd_iG, hd_rL, hd_get, hs_f_113_13, hd_wI1, and_false, Nat.reduceEqDiff, if_false, h13b, nI_1, show (8 : Int32) = nI 8 from rfl, nI_ltI (show n < 2 ^ 31 by omega) (show 8 < 2 ^ 31 by omega), decide_eq_true_eq, hd_sRV, true_and]
  have geq : hd_eqx [113, 122] S S9 := hd_eqx_tr g0 (hd_eqx_tr g1 (hd_eqx_tr g2 (hd_eqx_tr g3 (hd_eqx_tr g4 (hd_eqx_tr g5 (hd_eqx_tr g6 (hd_eqx_tr g7 g8)))))))
  have feq : ∀ f, f ≠ 16 → S9.1 113 f = S.1 113 f := fun f hf => by rw [f8 f hf, f7 f hf, f6 f hf, f5 f hf, f4 f hf, f3 f hf, f2 f hf, f1 f hf, f0 f hf]
  have s1 : S1.1 114 = S.1 114 := by rw [g0.1 114 (by decide)]
  have s2 : S2.1 115 = S.1 115 := by rw [g1.1 115 (by decide), g0.1 115 (by decide)]
  have s3 : S3.1 116 = S.1 116 := by rw [g2.1 116 (by decide), g1.1 116 (by decide), g0.1 116 (by decide)]
  have s4 : S4.1 117 = S.1 117 := by rw [g3.1 117 (by decide), g2.1 117 (by decide), g1.1 117 (by decide), g0.1 117 (by decide)]
  have s5 : S5.1 118 = S.1 118 := by rw [g4.1 118 (by decide), g3.1 118 (by decide), g2.1 118 (by decide), g1.1 118 (by decide), g0.1 118 (by decide)]
  have s6 : S6.1 119 = S.1 119 := by rw [g5.1 119 (by decide), g4.1 119 (by decide), g3.1 119 (by decide), g2.1 119 (by decide), g1.1 119 (by decide), g0.1 119 (by decide)]
  have s7 : S7.1 120 = S.1 120 := by rw [g6.1 120 (by decide), g5.1 120 (by decide), g4.1 120 (by decide), g3.1 120 (by decide), g2.1 120 (by decide), g1.1 120 (by decide), g0.1 120 (by decide)]
  have s8 : S8.1 121 = S.1 121 := by rw [g7.1 121 (by decide), g6.1 121 (by decide), g5.1 121 (by decide), g4.1 121 (by decide), g3.1 121 (by decide), g2.1 121 (by decide), g1.1 121 (by decide), g0.1 121 (by decide)]
  have out : ∀ j, (j < 110 * e ∨ 110 * e + 110 ≤ j) → S9.1 122 j = S.1 122 j := fun j hj => by
    rw [t8 j, if_neg (show ¬ (110 * e + 54 ≤ j ∧ j < 110 * e + 54 + 56) by omega), t7 j, if_neg (show ¬ (110 * e + 47 ≤ j ∧ j < 110 * e + 47 + 7) by omega), t6 j, if_neg (show ¬ (110 * e + 40 ≤ j ∧ j < 110 * e + 40 + 7) by omega), t5 j, if_neg (show ¬ (110 * e + 33 ≤ j ∧ j < 110 * e + 33 + 7) by omega), t4 j, if_neg (show ¬ (110 * e + 26 ≤ j ∧ j < 110 * e + 26 + 7) by omega), t3 j, if_neg (show ¬ (110 * e + 18 ≤ j ∧ j < 110 * e + 18 + 8) by omega), t2 j, if_neg (show ¬ (110 * e + 10 ≤ j ∧ j < 110 * e + 10 + 8) by omega), t1 j, if_neg (show ¬ (110 * e + 2 ≤ j ∧ j < 110 * e + 2 + 8) by omega), t0 j, if_neg (show ¬ j = 110 * e by omega), if_neg (show ¬ j = 110 * e + 1 by omega)]
  have b1 : ∀ i, i < 8 → S9.1 122 (110 * e + 2 + i) = S.1 114 i := fun i hi => by
    rw [t8 _, if_neg (show ¬ (110 * e + 54 ≤ 110 * e + 2 + i ∧ 110 * e + 2 + i < 110 * e + 54 + 56) by omega), t7 _, if_neg (show ¬ (110 * e + 47 ≤ 110 * e + 2 + i ∧ 110 * e + 2 + i < 110 * e + 47 + 7) by omega), t6 _, if_neg (show ¬ (110 * e + 40 ≤ 110 * e + 2 + i ∧ 110 * e + 2 + i < 110 * e + 40 + 7) by omega), t5 _, if_neg (show ¬ (110 * e + 33 ≤ 110 * e + 2 + i ∧ 110 * e + 2 + i < 110 * e + 33 + 7) by omega), t4 _, if_neg (show ¬ (110 * e + 26 ≤ 110 * e + 2 + i ∧ 110 * e + 2 + i < 110 * e + 26 + 7) by omega), t3 _, if_neg (show ¬ (110 * e + 18 ≤ 110 * e + 2 + i ∧ 110 * e + 2 + i < 110 * e + 18 + 8) by omega), t2 _, if_neg (show ¬ (110 * e + 10 ≤ 110 * e + 2 + i ∧ 110 * e + 2 + i < 110 * e + 10 + 8) by omega), t1 _, if_pos (show 110 * e + 2 ≤ 110 * e + 2 + i ∧ 110 * e + 2 + i < 110 * e + 2 + 8 by omega), show 110 * e + 2 + i - (110 * e + 2) = i by omega, s1]
  have b2 : ∀ i, i < 8 → S9.1 122 (110 * e + 10 + i) = S.1 115 i := fun i hi => by
    rw [t8 _, if_neg (show ¬ (110 * e + 54 ≤ 110 * e + 10 + i ∧ 110 * e + 10 + i < 110 * e + 54 + 56) by omega), t7 _, if_neg (show ¬ (110 * e + 47 ≤ 110 * e + 10 + i ∧ 110 * e + 10 + i < 110 * e + 47 + 7) by omega), t6 _, if_neg (show ¬ (110 * e + 40 ≤ 110 * e + 10 + i ∧ 110 * e + 10 + i < 110 * e + 40 + 7) by omega), t5 _, if_neg (show ¬ (110 * e + 33 ≤ 110 * e + 10 + i ∧ 110 * e + 10 + i < 110 * e + 33 + 7) by omega), t4 _, if_neg (show ¬ (110 * e + 26 ≤ 110 * e + 10 + i ∧ 110 * e + 10 + i < 110 * e + 26 + 7) by omega), t3 _, if_neg (show ¬ (110 * e + 18 ≤ 110 * e + 10 + i ∧ 110 * e + 10 + i < 110 * e + 18 + 8) by omega), t2 _, if_pos (show 110 * e + 10 ≤ 110 * e + 10 + i ∧ 110 * e + 10 + i < 110 * e + 10 + 8 by omega), show 110 * e + 10 + i - (110 * e + 10) = i by omega, s2]
  have b3 : ∀ i, i < 8 → S9.1 122 (110 * e + 18 + i) = S.1 116 i := fun i hi => by
    rw [t8 _, if_neg (show ¬ (110 * e + 54 ≤ 110 * e + 18 + i ∧ 110 * e + 18 + i < 110 * e + 54 + 56) by omega), t7 _, if_neg (show ¬ (110 * e + 47 ≤ 110 * e + 18 + i ∧ 110 * e + 18 + i < 110 * e + 47 + 7) by omega), t6 _, if_neg (show ¬ (110 * e + 40 ≤ 110 * e + 18 + i ∧ 110 * e + 18 + i < 110 * e + 40 + 7) by omega), t5 _, if_neg (show ¬ (110 * e + 33 ≤ 110 * e + 18 + i ∧ 110 * e + 18 + i < 110 * e + 33 + 7) by omega), t4 _, if_neg (show ¬ (110 * e + 26 ≤ 110 * e + 18 + i ∧ 110 * e + 18 + i < 110 * e + 26 + 7) by omega), t3 _, if_pos (show 110 * e + 18 ≤ 110 * e + 18 + i ∧ 110 * e + 18 + i < 110 * e + 18 + 8 by omega), show 110 * e + 18 + i - (110 * e + 18) = i by omega, s3]
  have b4 : ∀ i, i < 7 → S9.1 122 (110 * e + 26 + i) = S.1 117 i := fun i hi => by
    rw [t8 _, if_neg (show ¬ (110 * e + 54 ≤ 110 * e + 26 + i ∧ 110 * e + 26 + i < 110 * e + 54 + 56) by omega), t7 _, if_neg (show ¬ (110 * e + 47 ≤ 110 * e + 26 + i ∧ 110 * e + 26 + i < 110 * e + 47 + 7) by omega), t6 _, if_neg (show ¬ (110 * e + 40 ≤ 110 * e + 26 + i ∧ 110 * e + 26 + i < 110 * e + 40 + 7) by omega), t5 _, if_neg (show ¬ (110 * e + 33 ≤ 110 * e + 26 + i ∧ 110 * e + 26 + i < 110 * e + 33 + 7) by omega), t4 _, if_pos (show 110 * e + 26 ≤ 110 * e + 26 + i ∧ 110 * e + 26 + i < 110 * e + 26 + 7 by omega), show 110 * e + 26 + i - (110 * e + 26) = i by omega, s4]
  have b5 : ∀ i, i < 7 → S9.1 122 (110 * e + 33 + i) = S.1 118 i := fun i hi => by
    rw [t8 _, if_neg (show ¬ (110 * e + 54 ≤ 110 * e + 33 + i ∧ 110 * e + 33 + i < 110 * e + 54 + 56) by omega), t7 _, if_neg (show ¬ (110 * e + 47 ≤ 110 * e + 33 + i ∧ 110 * e + 33 + i < 110 * e + 47 + 7) by omega), t6 _, if_neg (show ¬ (110 * e + 40 ≤ 110 * e + 33 + i ∧ 110 * e + 33 + i < 110 * e + 40 + 7) by omega), t5 _, if_pos (show 110 * e + 33 ≤ 110 * e + 33 + i ∧ 110 * e + 33 + i < 110 * e + 33 + 7 by omega), show 110 * e + 33 + i - (110 * e + 33) = i by omega, s5]
  have b6 : ∀ i, i < 7 → S9.1 122 (110 * e + 40 + i) = S.1 119 i := fun i hi => by
    rw [t8 _, if_neg (show ¬ (110 * e + 54 ≤ 110 * e + 40 + i ∧ 110 * e + 40 + i < 110 * e + 54 + 56) by omega), t7 _, if_neg (show ¬ (110 * e + 47 ≤ 110 * e + 40 + i ∧ 110 * e + 40 + i < 110 * e + 47 + 7) by omega), t6 _, if_pos (show 110 * e + 40 ≤ 110 * e + 40 + i ∧ 110 * e + 40 + i < 110 * e + 40 + 7 by omega), show 110 * e + 40 + i - (110 * e + 40) = i by omega, s6]
  have b7 : ∀ i, i < 7 → S9.1 122 (110 * e + 47 + i) = S.1 120 i := fun i hi => by
    rw [t8 _, if_neg (show ¬ (110 * e + 54 ≤ 110 * e + 47 + i ∧ 110 * e + 47 + i < 110 * e + 54 + 56) by omega), t7 _, if_pos (show 110 * e + 47 ≤ 110 * e + 47 + i ∧ 110 * e + 47 + i < 110 * e + 47 + 7 by omega), show 110 * e + 47 + i - (110 * e + 47) = i by omega, s7]
  have b8 : ∀ i, i < 56 → S9.1 122 (110 * e + 54 + i) = S.1 121 i := fun i hi => by
    rw [t8 _, if_pos (show 110 * e + 54 ≤ 110 * e + 54 + i ∧ 110 * e + 54 + i < 110 * e + 54 + 56 by omega), show 110 * e + 54 + i - (110 * e + 54) = i by omega, s8]
  have bT : S9.1 122 (110 * e) = nI (hp_T p) := by
    rw [t8 _, if_neg (show ¬ (110 * e + 54 ≤ 110 * e ∧ 110 * e < 110 * e + 54 + 56) by omega), t7 _, if_neg (show ¬ (110 * e + 47 ≤ 110 * e ∧ 110 * e < 110 * e + 47 + 7) by omega), t6 _, if_neg (show ¬ (110 * e + 40 ≤ 110 * e ∧ 110 * e < 110 * e + 40 + 7) by omega), t5 _, if_neg (show ¬ (110 * e + 33 ≤ 110 * e ∧ 110 * e < 110 * e + 33 + 7) by omega), t4 _, if_neg (show ¬ (110 * e + 26 ≤ 110 * e ∧ 110 * e < 110 * e + 26 + 7) by omega), t3 _, if_neg (show ¬ (110 * e + 18 ≤ 110 * e ∧ 110 * e < 110 * e + 18 + 8) by omega), t2 _, if_neg (show ¬ (110 * e + 10 ≤ 110 * e ∧ 110 * e < 110 * e + 10 + 8) by omega), t1 _, if_neg (show ¬ (110 * e + 2 ≤ 110 * e ∧ 110 * e < 110 * e + 2 + 8) by omega), t0 _, if_pos rfl]
  have bH : S9.1 122 (110 * e + 1) = nI (hp_H p) := by
    rw [t8 _, if_neg (show ¬ (110 * e + 54 ≤ 110 * e + 1 ∧ 110 * e + 1 < 110 * e + 54 + 56) by omega), t7 _, if_neg (show ¬ (110 * e + 47 ≤ 110 * e + 1 ∧ 110 * e + 1 < 110 * e + 47 + 7) by omega), t6 _, if_neg (show ¬ (110 * e + 40 ≤ 110 * e + 1 ∧ 110 * e + 1 < 110 * e + 40 + 7) by omega), t5 _, if_neg (show ¬ (110 * e + 33 ≤ 110 * e + 1 ∧ 110 * e + 1 < 110 * e + 33 + 7) by omega), t4 _, if_neg (show ¬ (110 * e + 26 ≤ 110 * e + 1 ∧ 110 * e + 1 < 110 * e + 26 + 7) by omega), t3 _, if_neg (show ¬ (110 * e + 18 ≤ 110 * e + 1 ∧ 110 * e + 1 < 110 * e + 18 + 8) by omega), t2 _, if_neg (show ¬ (110 * e + 10 ≤ 110 * e + 1 ∧ 110 * e + 1 < 110 * e + 10 + 8) by omega), t1 _, if_neg (show ¬ (110 * e + 2 ≤ 110 * e + 1 ∧ 110 * e + 1 < 110 * e + 2 + 8) by omega), t0 _, if_neg (show ¬ 110 * e + 1 = 110 * e by omega), if_pos rfl]
  have blk : hm_B S9 e p := by
    obtain ⟨m1, m2, m3, m4, m5, m6, m7, m8, m9, m10⟩ := hm
    exact ⟨bT, bH, fun t ht => (b1 t ht).trans (m3 t ht), fun t ht => (b2 t ht).trans (m4 t ht), fun t ht => (b3 t ht).trans (m5 t ht), fun t ht => (b4 t ht).trans (m6 t ht), fun t ht => (b5 t ht).trans (m7 t ht), fun t ht => (b6 t ht).trans (m8 t ht), fun t ht => (b7 t ht).trans (m9 t ht), fun a ha t ht hv => (b8 (a * 8 + t) (by omega)).trans (m10 a ha t ht hv)⟩
  have fin : ∀ v : Int32, v = nI (hp_kn n) → post none (hd_wI (hd_wI S9 113 12 (nI ((e + 1) % 8))) 113 13 v) := by
    intro v hv
    have r122 : ∀ j, (hd_wI (hd_wI S9 113 12 (nI ((e + 1) % 8))) 113 13 v).1 122 j = S9.1 122 j := fun j => by rw [hx_oth (by decide), hx_oth (by decide)]
    refine hk _ (hd_eqx_w (hd_eqx_w geq (by decide)) (by decide)) (fun f h1 h2 h3 => ?_) ⟨?_, ?_, (e + 1) % 8, Nat.mod_lt _ (by decide), ?_, fun i hi => ?_⟩
    · rw [hd_wI1, if_neg (fun r => h2 r.2), hd_wI1, if_neg (fun r => h1 r.2)]
      exact feq f h3
    · unfold hp_kn
      split <;> omega
    · rw [hd_wI1, if_pos ⟨rfl, rfl⟩, hv]
    · rw [hd_wI1, if_neg (fun r => absurd r.2 (by decide)), hd_wI1, if_pos ⟨rfl, rfl⟩]
    · by_cases h8 : n < 8
      · have ekn : hp_kn n = n + 1 := by unfold hp_kn; rw [if_pos h8]
        have ekq : ∀ i, hp_kq n q p i = if i = n then p else q i := fun i => by unfold hp_kq; rw [if_pos h8]
        rw [ekn] at hi ⊢
        rw [ekq]
        by_cases hin : i = n
        · rw [if_pos hin, hin, show ((e + 1) % 8 + 8 - (n + 1) + n) % 8 = e by omega]
          exact hm_B_eq hH (fun j _ _ => r122 j) blk
        · rw [if_neg hin]
          have hk9 : ((e + 1) % 8 + 8 - (n + 1) + i) % 8 = (e + 8 - n + i) % 8 := by omega
          rw [hk9]
          refine hm_B_eq (hq i (by omega)).2.1 (fun j h1 h2 => ?_) (hbl i (by omega))
          rw [r122, out j (by omega)]
      · have hn : n = 8 := by omega
        have ekn : hp_kn n = 8 := by unfold hp_kn; rw [if_neg h8]
        have ekq : ∀ i, hp_kq n q p i = if i = 7 then p else q (i + 1) := fun i => by unfold hp_kq; rw [if_neg h8]
        rw [ekn] at hi ⊢
        rw [ekq]
        by_cases hin : i = 7
        · rw [if_pos hin, hin, show ((e + 1) % 8 + 8 - 8 + 7) % 8 = e by omega]
          exact hm_B_eq hH (fun j _ _ => r122 j) blk
        · rw [if_neg hin]
          have hk9 : ((e + 1) % 8 + 8 - 8 + i) % 8 = (e + 8 - n + (i + 1)) % 8 := by omega
          rw [hk9]
          refine hm_B_eq (hq (i + 1) (by omega)).2.1 (fun j h1 h2 => ?_) (hbl (i + 1) (by omega))
          rw [r122, out j (by omega)]
  by_cases h8 : n < 8
  · simp only [h8, if_true]
    exact fin _ (by unfold hp_kn; rw [if_pos h8])
  · simp only [h8, if_false]
    exact fin _ (by unfold hp_kn; rw [if_neg h8])
