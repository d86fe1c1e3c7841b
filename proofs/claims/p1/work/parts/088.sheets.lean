/-! sheets: the class -/
set_option maxHeartbeats 4000000 in
theorem sx_laySheet {S : hd_S} {h m : Nat} (hh : h < 7) (hm : m ≤ 8) (w : Int32) (post : Option hd_V → hd_S → Prop)
    (hk : ∀ S2, hd_eqx [7, 8, 9] S S2 → (∀ i, S2.1 7 i = if i = h then w else S.1 7 i) → (∀ i, S2.1 8 i = if i = h then nI m else S.1 8 i) → (∀ j, S2.1 9 j = if h * 8 ≤ j ∧ j < h * 8 + 8 then nI (if j - h * 8 < m then 0 else 1000000) else S.1 9 j) → post none S2) : wm_X5_laySheet [hd_vR 1, hd_vI (nI h), hd_vI w, hd_vI (nI m)] S post := by
  simp only [wm_X5_laySheet, wo_X5_laySheet, hd_mth, hd_rho0, hd_args, hd_wide, hq_sQ, hd_s0, hq_sI, hq_sJ, hd_sR, hd_sP, hd_sF, hd_sZ, hd_sG, hd_sA, hd_sL, hd_sB, hd_sO, hd_sN, hd_sD, hd_sW, hd_sE, hd_sRI, hd_sRZ, hd_sRJ, hd_sRR, hd_sRV, hd_sSw, hd_sw, hd_sCI, hd_sCL, hd_iK, hd_iL, hd_iU, hd_iB, hd_iD, hd_iJ, hd_iG, hd_iA, hd_iQ, hd_iC, hd_iN, hd_iE, hd_jK, hd_jL, hd_jU, hd_jB, hd_jD, hd_jH, hd_jI, hd_jA, hd_jQ, hd_jN, hd_rL, hd_rG, hd_rA, hd_rN, hd_cI, hd_c0, hd_cJ, hd_cX, hd_cA, hd_cO, hd_v0, hd_pI, hd_pJ, hd_pR, hd_nV, hd_nS, hd_get, hd_st, hd_stW, hd_cut, List.replicate, List.length_cons, List.length_nil, List.nil_append, List.cons_append, Nat.reduceAdd, Nat.reduceSub, Nat.reduceLeDiff, true_and, and_true, if_true, if_false, Bool.false_eq_true, List.append_nil, hs_o_0, hs_r_0_0, hs_t_0_0, hs_r_0_1, hs_t_0_1, hs_r_0_2, hs_t_0_2, hs_r_0_3, hs_t_0_3, hs_r_0_4, hs_t_0_4, hs_r_0_5, hs_t_0_5, hs_r_0_6, hs_t_0_6, hs_r_0_7, hs_t_0_7, hs_f_0_8, hs_o_1, hs_f_1_0, hs_f_1_1, hs_r_1_2, hs_t_1_2, hs_r_1_3, hs_t_1_3, hs_r_1_4, hs_t_1_4, hs_r_1_5, hs_t_1_5, hs_r_1_6, hs_t_1_6, hs_r_1_7, hs_t_1_7, hs_r_1_8, hs_t_1_8, hs_r_1_9, hs_t_1_9, hs_i_2, hs_i_3, hs_i_4, hs_i_5, hs_i_6, hs_i_7, hs_i_8, hs_i_9, hs_o_82, hs_r_82_0, hs_t_82_0, hs_f_82_1, hs_i_83, hs_o_84, hs_r_84_0, hs_t_84_0, hs_r_84_1, hs_t_84_1, hs_r_84_2, hs_t_84_2, hs_r_84_3, hs_t_84_3, hs_f_84_4, hs_i_85, hs_i_86, hs_i_87, hs_o_88, hs_r_88_0, hs_t_88_0, hs_r_88_1, hs_t_88_1, hs_r_88_2, hs_t_88_2, hs_r_88_3, hs_t_88_3, hs_r_88_4, hs_t_88_4, hs_r_88_5, hs_t_88_5, hs_r_88_6, hs_t_88_6, hs_r_88_7, hs_t_88_7, hs_f_88_8, hs_f_88_9, hs_i_89, hs_i_90, hs_i_91, hs_i_92, hs_i_93, hs_i_94, hs_i_95, hs_i_96, hs_i_97, hs_i_98, hs_i_99, hs_i_100, hs_i_101, hs_i_102, hs_o_103, hs_r_103_0, hs_t_103_0, hs_r_103_1, hs_t_103_1, hs_r_103_2, hs_t_103_2, hs_r_103_3, hs_t_103_3, hs_f_103_4, hs_i_104, hs_o_105, hs_r_105_0, hs_t_105_0, hs_r_105_1, hs_t_105_1, hs_r_105_2, hs_t_105_2, hs_i_106, hs_i_107, hs_o_108, hs_r_108_0, hs_t_108_0, hs_r_108_1, hs_t_108_1, hs_r_108_2, hs_t_108_2, hs_r_108_3, hs_t_108_3, hs_f_108_4, hs_i_109, hs_i_110, hs_o_111, hs_r_111_0, hs_t_111_0, hs_r_111_1, hs_t_111_1, hs_f_111_2, hs_f_111_3, hs_f_111_4, hs_i_112, hs_o_113, hs_f_113_0, hs_f_113_1, hs_f_113_2, hs_r_113_3, hs_t_113_3, hs_r_113_4, hs_t_113_4, hs_r_113_5, hs_t_113_5, hs_r_113_6, hs_t_113_6, hs_r_113_7, hs_t_113_7, hs_r_113_8, hs_t_113_8, hs_r_113_9, hs_t_113_9, hs_r_113_10, hs_t_113_10, hs_r_113_11, hs_t_113_11, hs_f_113_12, hs_f_113_13, hs_f_113_14, hs_r_113_15, hs_t_113_15, hs_f_113_16, hs_r_113_17, hs_t_113_17, hs_r_113_18, hs_t_113_18, hs_r_113_19, hs_t_113_19, hs_r_113_20, hs_t_113_20, hs_f_113_21, hs_f_113_22, hs_f_113_23, hs_r_113_24, hs_t_113_24, hs_f_113_25, hs_r_113_26, hs_t_113_26, hs_f_113_27, hs_i_114, hs_i_115, hs_i_116, hs_i_117, hs_i_118, hs_i_119, hs_i_120, hs_i_121, hs_i_122, hs_i_123, hs_i_124, hs_i_125, hs_i_126, hs_i_127, hs_i_128, hs_i_129, vp_in_nI (show h < 7 by omega) (show 7 < 2 ^ 31 by decide), hd_cc (show h < 2147483648 by omega)]
  refine hd_up (S := hd_wI (hd_wI S 7 h w) 8 h (nI m)) (fun i ρ S2 => hd_eqx [7, 8, 9] S S2 ∧ (∀ i, S2.1 7 i = if i = h then w else S.1 7 i) ∧ (∀ i, S2.1 8 i = if i = h then nI m else S.1 8 i) ∧ (∀ j, S2.1 9 j = if h * 8 ≤ j ∧ j < h * 8 + i then nI (if j - h * 8 < m then 0 else 1000000) else S.1 9 j) ∧ ρ = [hd_vR 1, hd_vI (nI h), hd_vI w, hd_vI (nI m), hd_vI (nI i)]) 8 ?_ ?_ (Nat.zero_le _) ⟨hd_eqx_w (hd_eqx_w (hd_eqx_rf _ _) (by decide)) (by decide), fun i => ?_, fun i => ?_, fun j => ?_, rfl⟩
  · rintro i ρ S2 K hi ⟨he, h7, h8, h9, rfl⟩ hK
    simp only [wc_X5_laySheet_17, wb_X5_laySheet_17, hd_mth, hd_rho0, hd_args, hd_wide, hq_sQ, hd_s0, hq_sI, hq_sJ, hd_sR, hd_sP, hd_sF, hd_sZ, hd_sG, hd_sA, hd_sL, hd_sB, hd_sO, hd_sN, hd_sD, hd_sW, hd_sE, hd_sRI, hd_sRZ, hd_sRJ, hd_sRR, hd_sRV, hd_sSw, hd_sw, hd_sCI, hd_sCL, hd_iK, hd_iL, hd_iU, hd_iB, hd_iD, hd_iJ, hd_iG, hd_iA, hd_iQ, hd_iC, hd_iN, hd_iE, hd_jK, hd_jL, hd_jU, hd_jB, hd_jD, hd_jH, hd_jI, hd_jA, hd_jQ, hd_jN, hd_rL, hd_rG, hd_rA, hd_rN, hd_cI, hd_c0, hd_cJ, hd_cX, hd_cA, hd_cO, hd_v0, hd_pI, hd_pJ, hd_pR, hd_nV, hd_nS, hd_get, hd_st, hd_stW, hd_cut, List.replicate, List.length_cons, List.length_nil, List.nil_append, List.cons_append, Nat.reduceAdd, Nat.reduceSub, Nat.reduceLeDiff, true_and, and_true, if_true, if_false, Bool.false_eq_true, List.append_nil, hs_o_0, hs_r_0_0, hs_t_0_0, hs_r_0_1, hs_t_0_1, hs_r_0_2, hs_t_0_2, hs_r_0_3, hs_t_0_3, hs_r_0_4, hs_t_0_4, hs_r_0_5, hs_t_0_5, hs_r_0_6, hs_t_0_6, hs_r_0_7, hs_t_0_7, hs_f_0_8, hs_o_1, hs_f_1_0, hs_f_1_1, hs_r_1_2, hs_t_1_2, hs_r_1_3, hs_t_1_3, hs_r_1_4, hs_t_1_4, hs_r_1_5, hs_t_1_5, hs_r_1_6, hs_t_1_6, hs_r_1_7, hs_t_1_7, hs_r_1_8, hs_t_1_8, hs_r_1_9, hs_t_1_9, hs_i_2, hs_i_3, hs_i_4, hs_i_5, hs_i_6, hs_i_7, hs_i_8, hs_i_9, hs_o_82, hs_r_82_0, hs_t_82_0, hs_f_82_1, hs_i_83, hs_o_84, hs_r_84_0, hs_t_84_0, hs_r_84_1, hs_t_84_1, hs_r_84_2, hs_t_84_2, hs_r_84_3, hs_t_84_3, hs_f_84_4, hs_i_85, hs_i_86, hs_i_87, hs_o_88, hs_r_88_0, hs_t_88_0, hs_r_88_1, hs_t_88_1, hs_r_88_2, hs_t_88_2, hs_r_88_3, hs_t_88_3, hs_r_88_4, hs_t_88_4, hs_r_88_5, hs_t_88_5, hs_r_88_6, hs_t_88_6, hs_r_88_7, hs_t_88_7, hs_f_88_8, hs_f_88_9, hs_i_89, hs_i_90, hs_i_91, hs_i_92, hs_i_93, hs_i_94, hs_i_95, hs_i_96, hs_i_97, hs_i_98, hs_i_99, hs_i_100, hs_i_101, hs_i_102, hs_o_103, hs_r_103_0, hs_t_103_0, hs_r_103_1, hs_t_103_1, hs_r_103_2, hs_t_103_2, hs_r_103_3, hs_t_103_3, hs_f_103_4, hs_i_104, hs_o_105, hs_r_105_0, hs_t_105_0, hs_r_105_1, hs_t_105_1, hs_r_105_2, hs_t_105_2, hs_i_106, hs_i_107, hs_o_108, hs_r_108_0, hs_t_108_0, hs_r_108_1, hs_t_108_1, hs_r_108_2, hs_t_108_2, hs_r_108_3, hs_t_108_3, hs_f_108_4, hs_i_109, hs_i_110, hs_o_111, hs_r_111_0, hs_t_111_0, hs_r_111_1, hs_t_111_1, hs_f_111_2, hs_f_111_3, hs_f_111_4, hs_i_112, hs_o_113, hs_f_113_0, hs_f_113_1, hs_f_113_2, hs_r_113_3, hs_t_113_3, hs_r_113_4, hs_t_113_4, hs_r_113_5, hs_t_113_5, hs_r_113_6, hs_t_113_6, hs_r_113_7, hs_t_113_7, hs_r_113_8, hs_t_113_8, hs_r_113_9, hs_t_113_9, hs_r_113_10, hs_t_113_10, hs_r_113_11, hs_t_113_11, hs_f_113_12, hs_f_113_13, hs_f_113_14, hs_r_113_15, hs_t_113_15, hs_f_113_16, hs_r_113_17, hs_t_113_17, hs_r_113_18, hs_t_113_18, hs_r_113_19, hs_t_113_19, hs_r_113_20, hs_t_113_20, hs_f_113_21, hs_f_113_22, hs_f_113_23, hs_r_113_24, hs_t_113_24, hs_f_113_25, hs_r_113_26, hs_t_113_26, hs_f_113_27, hs_i_114, hs_i_115, hs_i_116, hs_i_117, hs_i_118, hs_i_119, hs_i_120, hs_i_121, hs_i_122, hs_i_123, hs_i_124, hs_i_125, hs_i_126, hs_i_127, hs_i_128, hs_i_129, hd_lit8, nI_ltI (show i < 2 ^ 31 by omega) (show 8 < 2 ^ 31 by omega), hi, decide_true, pk_mul, nI_add, vp_in_nI (show h * 8 + i < 56 by omega) (show 56 < 2 ^ 31 by decide), hd_cc (show h * 8 + i < 2147483648 by omega), nI_ltI (show i < 2 ^ 31 by omega) (show m < 2 ^ 31 by omega), decide_eq_true_eq, nI_1]
    have fin : ∀ v : Int32, v = nI (if i < m then 0 else 1000000) → K [hd_vR 1, hd_vI (nI h), hd_vI w, hd_vI (nI m), hd_vI (nI (i + 1))] (hd_wI S2 9 (h * 8 + i) v) := by
      intro v hv
      refine hK _ _ ⟨hd_eqx_w he (by decide), fun k => by rw [hx_oth (by decide)]; exact h7 k, fun k => by rw [hx_oth (by decide)]; exact h8 k, fun j => ?_, rfl⟩
      rw [hd_wI1]
      by_cases hj : j = h * 8 + i
      · rw [if_pos ⟨rfl, hj⟩, if_pos (show h * 8 ≤ j ∧ j < h * 8 + (i + 1) by omega), hv, hj, show h * 8 + i - h * 8 = i by omega]
      · rw [if_neg (fun r => hj r.2), h9 j]
        by_cases hc : h * 8 ≤ j ∧ j < h * 8 + i
        · rw [if_pos hc, if_pos (show h * 8 ≤ j ∧ j < h * 8 + (i + 1) by omega)]
        · rw [if_neg hc, if_neg (show ¬ (h * 8 ≤ j ∧ j < h * 8 + (i + 1)) by omega)]
    by_cases hlt : i < m
    · simp only [hlt, if_true]
      exact fin 0 (by rw [if_pos hlt]; rfl)
    · simp only [hlt, if_false]
      exact fin 1000000 (by rw [if_neg hlt]; rfl)
  · rintro ρ S2 K ⟨he, h7, h8, h9, rfl⟩
    simp only [wc_X5_laySheet_17, hd_mth, hd_rho0, hd_args, hd_wide, hq_sQ, hd_s0, hq_sI, hq_sJ, hd_sR, hd_sP, hd_sF, hd_sZ, hd_sG, hd_sA, hd_sL, hd_sB, hd_sO, hd_sN, hd_sD, hd_sW, hd_sE, hd_sRI, hd_sRZ, hd_sRJ, hd_sRR, hd_sRV, hd_sSw, hd_sw, hd_sCI, hd_sCL, hd_iK, hd_iL, hd_iU, hd_iB, hd_iD, hd_iJ, hd_iG, hd_iA, hd_iQ, hd_iC, hd_iN, hd_iE, hd_jK, hd_jL, hd_jU, hd_jB, hd_jD, hd_jH, hd_jI, hd_jA, hd_jQ, hd_jN, hd_rL, hd_rG, hd_rA, hd_rN, hd_cI, hd_c0, hd_cJ, hd_cX, hd_cA, hd_cO, hd_v0, hd_pI, hd_pJ, hd_pR, hd_nV, hd_nS, hd_get, hd_st, hd_stW, hd_cut, List.replicate, List.length_cons, List.length_nil, List.nil_append, List.cons_append, Nat.reduceAdd, Nat.reduceSub, Nat.reduceLeDiff, true_and, and_true, if_true, if_false, Bool.false_eq_true, List.append_nil, hs_o_0, hs_r_0_0, hs_t_0_0, hs_r_0_1, hs_t_0_1, hs_r_0_2, hs_t_0_2, hs_r_0_3, hs_t_0_3, hs_r_0_4, hs_t_0_4, hs_r_0_5, hs_t_0_5, hs_r_0_6, hs_t_0_6, hs_r_0_7, hs_t_0_7, hs_f_0_8, hs_o_1, hs_f_1_0, hs_f_1_1, hs_r_1_2, hs_t_1_2, hs_r_1_3, hs_t_1_3, hs_r_1_4, hs_t_1_4, hs_r_1_5, hs_t_1_5, hs_r_1_6, hs_t_1_6, hs_r_1_7, hs_t_1_7, hs_r_1_8, hs_t_1_8, hs_r_1_9, hs_t_1_9, hs_i_2, hs_i_3, hs_i_4, hs_i_5, hs_i_6, hs_i_7, hs_i_8, hs_i_9, hs_o_82, hs_r_82_0, hs_t_82_0, hs_f_82_1, hs_i_83, hs_o_84, hs_r_84_0, hs_t_84_0, hs_r_84_1, hs_t_84_1, hs_r_84_2, hs_t_84_2, hs_r_84_3, hs_t_84_3, hs_f_84_4, hs_i_85, hs_i_86, hs_i_87, hs_o_88, hs_r_88_0, hs_t_88_0, hs_r_88_1, hs_t_88_1, hs_r_88_2, hs_t_88_2, hs_r_88_3, hs_t_88_3, hs_r_88_4, hs_t_88_4, hs_r_88_5, hs_t_88_5, hs_r_88_6, hs_t_88_6, hs_r_88_7, hs_t_88_7, hs_f_88_8, hs_f_88_9, hs_i_89, hs_i_90, hs_i_91, hs_i_92, hs_i_93, hs_i_94, hs_i_95, hs_i_96, hs_i_97, hs_i_98, hs_i_99, hs_i_100, hs_i_101, hs_i_102, hs_o_103, hs_r_103_0, hs_t_103_0, hs_r_103_1, hs_t_103_1, hs_r_103_2, hs_t_103_2, hs_r_103_3, hs_t_103_3, hs_f_103_4, hs_i_104, hs_o_105, hs_r_105_0, hs_t_105_0, hs_r_105_1, hs_t_105_1, hs_r_105_2, hs_t_105_2, hs_i_106, hs_i_107, hs_o_108, hs_r_108_0, hs_t_108_0, hs_r_108_1, hs_t_108_1, hs_r_108_2, hs_t_108_2, hs_r_108_3, hs_t_108_3, hs_f_108_4, hs_i_109, hs_i_110, hs_o_111, hs_r_111_0, hs_t_111_0, hs_r_111_1, hs_t_111_1, hs_f_111_2, hs_f_111_3, hs_f_111_4, hs_i_112, hs_o_113, hs_f_113_0, hs_f_113_1, hs_f_113_2, hs_r_113_3, hs_t_113_3, hs_r_113_4, hs_t_113_4, hs_r_113_5, hs_t_113_5, hs_r_113_6, hs_t_113_6, hs_r_113_7, hs_t_113_7, hs_r_113_8, hs_t_113_8, hs_r_113_9, hs_t_113_9, hs_r_113_10, hs_t_113_10, hs_r_113_11, hs_t_113_11, hs_f_113_12, hs_f_113_13, hs_f_113_14, hs_r_113_15, hs_t_113_15, hs_f_113_16, hs_r_113_17, hs_t_113_17, hs_r_113_18, hs_t_113_18, hs_r_113_19, hs_t_113_19, hs_r_113_20, hs_t_113_20, hs_f_113_21, hs_f_113_22, hs_f_113_23, hs_r_113_24, hs_t_113_24, hs_f_113_25, hs_r_113_26, hs_t_113_26, hs_f_113_27, hs_i_114, hs_i_115, hs_i_116, hs_i_117, hs_i_118, hs_i_119, hs_i_120, hs_i_121, hs_i_122, hs_i_123, hs_i_124, hs_i_125, hs_i_126, hs_i_127, hs_i_128, hs_i_129, hd_lit8, Int32.lt_irrefl, decide_false]
    exact hk S2 he h7 h8 h9
  · rw [hx_oth (by decide), hd_wI1]
    by_cases hi : i = h
    · rw [if_pos ⟨rfl, hi⟩, if_pos hi]
    · rw [if_neg (fun r => hi r.2), if_neg hi]
  · rw [hd_wI1]
    by_cases hi : i = h
    · rw [if_pos ⟨rfl, hi⟩, if_pos hi]
    · rw [if_neg (fun r => hi r.2), if_neg hi, hx_oth (by decide)]
  · rw [if_neg (by omega), hx_oth (by decide), hx_oth (by decide)]
theorem hp_ok_sheet {p : hp_P} (o : hp_ok p) {h m : Nat} {w : Int} (hw : -1 ≤ w ∧ w ≤ 2) (hm : m ≤ 8) (hwm : w = -1 → m = 0) : hp_ok (hp_sheet p h w m) := by
  obtain ⟨o1, o2, o3, o4, o5, o6, o7, o8, o9, o10, o11⟩ := o
  refine ⟨o1, o2, o3, o4, o5, o6, o7, o8, fun a => ?_, fun a => ?_, fun a ha t ht => ?_⟩
  · show -1 ≤ hp_rep (hp_wd p) h w a ∧ hp_rep (hp_wd p) h w a ≤ 2
    unfold hp_rep
    split
    · exact hw
    · exact o9 a
  · show hp_rep (hp_ln p) h m a ≤ 8
    unfold hp_rep
    split
    · exact hm
    · exact o10 a
  · show (hp_rep (hp_wd p) h w a ≠ -1 ∧ t < hp_rep (hp_ln p) h m a → hp_rep (hp_wy p) h (fun t => if t < m then 0 else 1000000) a t ≤ 1000) ∧ (¬ (hp_rep (hp_wd p) h w a ≠ -1 ∧ t < hp_rep (hp_ln p) h m a) → hp_rep (hp_wy p) h (fun t => if t < m then 0 else 1000000) a t = 1000000)
    unfold hp_rep
    by_cases hah : a = h
    · simp only [hah, if_true]
      by_cases htm : t < m
      · refine ⟨fun _ => by simp [htm], fun r => ?_⟩
        exfalso
        refine r ⟨fun r2 => ?_, htm⟩
        have := hwm r2
        omega
      · exact ⟨fun r => absurd r.2 htm, fun _ => by simp [htm]⟩
    · simp only [hah, if_false]
      exact o11 a ha t ht
theorem hx_P_sheet {S S2 : hd_S} {p : hp_P} {h m : Nat} {w : Int} (hh : h < hp_H p) (hH : hp_H p ≤ 7) (hx : hx_P 1 S p) (he : hd_eqx [7, 8, 9] S S2) (h7 : ∀ i, S2.1 7 i = if i = h then Int32.ofInt w else S.1 7 i) (h8 : ∀ i, S2.1 8 i = if i = h then nI m else S.1 8 i) (h9 : ∀ j, S2.1 9 j = if h * 8 ≤ j ∧ j < h * 8 + 8 then nI (if j - h * 8 < m then 0 else 1000000) else S.1 9 j) : hx_P 1 S2 (hp_sheet p h w m) := by
  obtain ⟨x1, x2, x3, x4, x5, x6, x7, x8, x9, x10⟩ := hx
  refine ⟨?_, ?_, fun i hi => ?_, fun i hi => ?_, fun i hi => ?_, fun i hi => ?_, fun i hi => ?_, fun i hi => ?_, fun i hi => ?_, fun a ha t ht => ?_⟩
  · rw [he.1 1 (by decide)]
    exact x1
  · rw [he.1 1 (by decide)]
    exact x2
  · rw [he.1 (1 + 1) (by decide)]
    exact x3 i hi
  · rw [he.1 (1 + 2) (by decide)]
    exact x4 i hi
  · rw [he.1 (1 + 3) (by decide)]
    exact x5 i hi
  · rw [he.1 (1 + 4) (by decide)]
    exact x6 i hi
  · rw [he.1 (1 + 5) (by decide)]
    exact x7 i hi
  · show S2.1 7 i = Int32.ofInt (hp_rep (hp_wd p) h w i)
    rw [h7]
    unfold hp_rep
    split
    · rfl
    · exact x8 i hi
  · show S2.1 8 i = nI (hp_rep (hp_ln p) h m i)
    rw [h8]
    unfold hp_rep
    split
    · rfl
    · exact x9 i hi
  · show S2.1 9 (a * 8 + t) = nI (hp_rep (hp_wy p) h (fun t => if t < m then 0 else 1000000) a t)
    rw [h9]
    unfold hp_rep
    by_cases hah : a = h
    · rw [if_pos (by omega), if_pos hah, hah, show h * 8 + t - h * 8 = t by omega]
    · rw [if_neg (by omega), if_neg hah]
      exact x10 a ha t ht
theorem hd_eqx_in {S S2 : hd_S} (h : hd_eqx [7, 8, 9] S S2) : ∀ d, d = 0 ∨ 10 ≤ d → S2.1 d = S.1 d := fun d hd => h.1 d (by simp only [List.mem_cons, List.not_mem_nil, or_false]; omega)
set_option maxHeartbeats 4000000 in
theorem sx_sheet {S : hd_S} {p : hp_P} {n : Nat} {q : Nat → hp_P} {hand : Nat} {cl : Nat → Nat} (hI : hx_I S p n q hand cl) (hall width m : Int32) (post : Option hd_V → hd_S → Prop)
    (hk1 : ∀ h w k, h < hp_H p → hall = nI h → w ≤ 2 → width = nI w → k ≤ 8 → m = nI k → ∀ S2, hx_I S2 (hp_sheet p h w k) (hp_kn n) (hp_kq n q p) hand cl → hx_fr S S2 → post (some (hd_vI m)) S2)
    (hk2 : ¬ (((0 ≤ hall ∧ hall < nI (hp_H p)) ∧ (0 ≤ width ∧ width ≤ 2)) ∧ ¬ 8 < m) → post (some (hd_vI (-3))) S)
    (hk3 : ((0 ≤ hall ∧ hall < nI (hp_H p)) ∧ (0 ≤ width ∧ width ≤ 2)) → ¬ 8 < m → m < 0 → post (some (hd_vI (-14))) S) : wm_X8_sheet [hd_vR 0, hd_vI hall, hd_vI width, hd_vI m] S post := by
  have hok := hI.1.1
  have hx := hI.2.1
  have hH : hp_H p ≤ 7 := hok.2.1
  have hx1 : S.1 1 1 = nI (hp_H p) := hx.2.1
  simp only [wm_X8_sheet, wo_X8_sheet, hd_mth, hd_rho0, hd_args, hd_wide, hq_sQ, hd_s0, hq_sI, hq_sJ, hd_sR, hd_sP, hd_sF, hd_sZ, hd_sG, hd_sA, hd_sL, hd_sB, hd_sO, hd_sN, hd_sD, hd_sW, hd_sE, hd_sRI, hd_sRZ, hd_sRJ, hd_sRR, hd_sRV, hd_sSw, hd_sw, hd_sCI, hd_sCL, hd_iK, hd_iL, hd_iU, hd_iB, hd_iD, hd_iJ, hd_iG, hd_iA, hd_iQ, hd_iC, hd_iN, hd_iE, hd_jK, hd_jL, hd_jU, hd_jB, hd_jD, hd_jH, hd_jI, hd_jA, hd_jQ, hd_jN, hd_rL, hd_rG, hd_rA, hd_rN, hd_cI, hd_c0, hd_cJ, hd_cX, hd_cA, hd_cO, hd_v0, hd_pI, hd_pJ, hd_pR, hd_nV, hd_nS, hd_get, hd_st, hd_stW, hd_cut, List.replicate, List.length_cons, List.length_nil, List.nil_append, List.cons_append, Nat.reduceAdd, Nat.reduceSub, Nat.reduceLeDiff, true_and, and_true, if_true, if_false, Bool.false_eq_true, List.append_nil, hs_o_0, hs_r_0_0, hs_t_0_0, hs_r_0_1, hs_t_0_1, hs_r_0_2, hs_t_0_2, hs_r_0_3, hs_t_0_3, hs_r_0_4, hs_t_0_4, hs_r_0_5, hs_t_0_5, hs_r_0_6, hs_t_0_6, hs_r_0_7, hs_t_0_7, hs_f_0_8, hs_o_1, hs_f_1_0, hs_f_1_1, hs_r_1_2, hs_t_1_2, hs_r_1_3, hs_t_1_3, hs_r_1_4, hs_t_1_4, hs_r_1_5, hs_t_1_5, hs_r_1_6, hs_t_1_6, hs_r_1_7, hs_t_1_7, hs_r_1_8, hs_t_1_8, hs_r_1_9, hs_t_1_9, hs_i_2, hs_i_3, hs_i_4, hs_i_5, hs_i_6, hs_i_7, hs_i_8, hs_i_9, hs_o_82, hs_r_82_0, hs_t_82_0, hs_f_82_1, hs_i_83, hs_o_84, hs_r_84_0, hs_t_84_0, hs_r_84_1, hs_t_84_1, hs_r_84_2, hs_t_84_2, hs_r_84_3, hs_t_84_3, hs_f_84_4, hs_i_85, hs_i_86, hs_i_87, hs_o_88, hs_r_88_0, hs_t_88_0, hs_r_88_1, hs_t_88_1, hs_r_88_2, hs_t_88_2, hs_r_88_3, hs_t_88_3, hs_r_88_4, hs_t_88_4, hs_r_88_5, hs_t_88_5, hs_r_88_6, hs_t_88_6, hs_r_88_7, hs_t_88_7, hs_f_88_8, hs_f_88_9, hs_i_89, hs_i_90, hs_i_91, hs_i_92, hs_i_93, hs_i_94, hs_i_95, hs_i_96, hs_i_97, hs_i_98, hs_i_99, hs_i_100, hs_i_101, hs_i_102, hs_o_103, hs_r_103_0, hs_t_103_0, hs_r_103_1, hs_t_103_1, hs_r_103_2, hs_t_103_2, hs_r_103_3, hs_t_103_3, hs_f_103_4, hs_i_104, hs_o_105, hs_r_105_0, hs_t_105_0, hs_r_105_1, hs_t_105_1, hs_r_105_2, hs_t_105_2, hs_i_106, hs_i_107, hs_o_108, hs_r_108_0, hs_t_108_0, hs_r_108_1, hs_t_108_1, hs_r_108_2, hs_t_108_2, hs_r_108_3, hs_t_108_3, hs_f_108_4, hs_i_109, hs_i_110, hs_o_111, hs_r_111_0, hs_t_111_0, hs_r_111_1, hs_t_111_1, hs_f_111_2, hs_f_111_3, hs_f_111_4, hs_i_112, hs_o_113, hs_f_113_0, hs_f_113_1, hs_f_113_2, hs_r_113_3, hs_t_113_3, hs_r_113_4, hs_t_113_4, hs_r_113_5, hs_t_113_5, hs_r_113_6, hs_t_113_6, hs_r_113_7, hs_t_113_7, hs_r_113_8, hs_t_113_8, hs_r_113_9, hs_t_113_9, hs_r_113_10, hs_t_113_10, hs_r_113_11, hs_t_113_11, hs_f_113_12, hs_f_113_13, hs_f_113_14, hs_r_113_15, hs_t_113_15, hs_f_113_16, hs_r_113_17, hs_t_113_17, hs_r_113_18, hs_t_113_18, hs_r_113_19, hs_t_113_19, hs_r_113_20, hs_t_113_20, hs_f_113_21, hs_f_113_22, hs_f_113_23, hs_r_113_24, hs_t_113_24, hs_f_113_25, hs_r_113_26, hs_t_113_26, hs_f_113_27, hs_i_114, hs_i_115, hs_i_116, hs_i_117, hs_i_118, hs_i_119, hs_i_120, hs_i_121, hs_i_122, hs_i_123, hs_i_124, hs_i_125, hs_i_126, hs_i_127, hs_i_128, hs_i_129, sp_X5_hasHall, sp_X8_within, hx1, hd_t01, hd_dn1, decide_eq_true_eq]
  by_cases h1 : 0 ≤ hall ∧ hall < nI (hp_H p)
  · by_cases h2 : (0 : Int32) ≤ width ∧ width ≤ 2
    · by_cases h3 : (8 : Int32) < m
      · simp only [h1, h2, h3, and_self, not_true, if_false, if_true]
        exact hk2 (fun r => r.2 h3)
      · by_cases h4 : m < 0
        · simp only [h1, h2, h3, h4, and_self, not_true, if_false, if_true]
          exact hk3 ⟨h1, h2⟩ h3 h4
        · obtain ⟨h, hh, rfl⟩ := hb_rng2 (show hp_H p < 2 ^ 31 by omega) h1.1 h1.2
          obtain ⟨w, hw, rfl⟩ := hb_rng (m := 2) (by decide) h2.1 h2.2
          obtain ⟨k, hk, rfl⟩ := hb_rng (m := 8) (by decide) (fa_of_nlt h4) (fa_of_nlt h3)
          simp only [h1, h2, h3, h4, and_self, not_true, if_false]
          refine sx_keepForUndo hH hx hI.2.2.1 _ (fun S1 hkf hpa => ?_)
          simp only [true_and]
          refine sx_laySheet (by omega) hk _ _ (fun S2 he h7 h8 h9 => ?_)
          simp only [true_and]
          have e : (nI w : Int32) = Int32.ofInt (w : Int) := by
            rw [← Int32.toInt_inj, nI_toInt (by omega), fb_ofI (by omega) (by omega)]
          have hx2 := hx_P_sheet (w := (w : Int)) hh hH (hx_kf_P hkf hx) he (by rw [← e]; exact h7) h8 h9
          obtain ⟨g1, g2⟩ := hx_I_new hI hkf hpa (hd_eqx_in he) he.2 hx2 (hp_ok_sheet hok (by omega) hk (fun r => by omega)) (Nat.le_refl _) (Nat.le_refl _)
          exact hk1 h w k hh rfl hw rfl hk rfl S2 g1 g2
    · simp only [h1, h2, and_self, not_true, if_false, not_false_iff, if_true]
      exact hk2 (fun r => h2 r.1.2)
  · simp only [h1, not_false_iff, if_true]
    exact hk2 (fun r => h1 r.1.1)
theorem hp_wdm {S : hd_S} {p : hp_P} (hok : hp_ok p) (hx : hx_P 1 S p) {h : Nat} (hh : h < 7) : (S.1 7 h = -1) ↔ hp_wd p h = -1 := by
  rw [show S.1 7 h = Int32.ofInt (hp_wd p h) from hx.2.2.2.2.2.2.2.1 h hh]
  exact hp_wd1 (hok.2.2.2.2.2.2.2.2.1 h)
set_option maxHeartbeats 4000000 in
theorem sx_isMissing {S : hd_S} {p : hp_P} (hok : hp_ok p) (hx : hx_P 1 S p) {h : Nat} (hh : h < 7) (post : Option hd_V → hd_S → Prop) : wm_X5_isMissing [hd_vR 1, hd_vI (nI h)] S post ↔ post (some (hd_vI (if hp_wd p h = -1 then 1 else 0))) S := by
  simp only [wm_X5_isMissing, wo_X5_isMissing, hd_mth, hd_rho0, hd_args, hd_wide, hd_sQ, hd_s0, hd_sI, hd_sJ, hd_sR, hd_sP, hd_sF, hd_sZ, hd_sG, hd_sA, hd_sL, hd_sB, hd_sO, hd_sN, hd_sD, hd_sW, hd_sE, hd_sRI, hd_sRZ, hd_sRJ, hd_sRR, hd_sRV, hd_sSw, hd_sw, hd_sCI, hd_sCL, hd_iK, hd_iL, hd_iU, hd_iB, hd_iD, hd_iJ, hd_iG, hd_iA, hd_iQ, hd_iC, hd_iN, hd_iE, hd_jK, hd_jL, hd_jU, hd_jB, hd_jD, hd_jH, hd_jI, hd_jA, hd_jQ, hd_jN, hd_rL, hd_rG, hd_rA, hd_rN, hd_cI, hd_c0, hd_cJ, hd_cX, hd_cA, hd_cO, hd_v0, hd_pI, hd_pJ, hd_pR, hd_nV, hd_nS, hd_get, hd_st, hd_stW, hd_cut, List.replicate, List.length_cons, List.length_nil, List.nil_append, List.cons_append, Nat.reduceAdd, Nat.reduceSub, Nat.reduceLeDiff, true_and, and_true, if_true, if_false, Bool.false_eq_true, List.append_nil, hs_o_0, hs_r_0_0, hs_t_0_0, hs_r_0_1, hs_t_0_1, hs_r_0_2, hs_t_0_2, hs_r_0_3, hs_t_0_3, hs_r_0_4, hs_t_0_4, hs_r_0_5, hs_t_0_5, hs_r_0_6, hs_t_0_6, hs_r_0_7, hs_t_0_7, hs_f_0_8, hs_o_1, hs_f_1_0, hs_f_1_1, hs_r_1_2, hs_t_1_2, hs_r_1_3, hs_t_1_3, hs_r_1_4, hs_t_1_4, hs_r_1_5, hs_t_1_5, hs_r_1_6, hs_t_1_6, hs_r_1_7, hs_t_1_7, hs_r_1_8, hs_t_1_8, hs_r_1_9, hs_t_1_9, hs_i_2, hs_i_3, hs_i_4, hs_i_5, hs_i_6, hs_i_7, hs_i_8, hs_i_9, hs_o_82, hs_r_82_0, hs_t_82_0, hs_f_82_1, hs_i_83, hs_o_84, hs_r_84_0, hs_t_84_0, hs_r_84_1, hs_t_84_1, hs_r_84_2, hs_t_84_2, hs_r_84_3, hs_t_84_3, hs_f_84_4, hs_i_85, hs_i_86, hs_i_87, hs_o_88, hs_r_88_0, hs_t_88_0, hs_r_88_1, hs_t_88_1, hs_r_88_2, hs_t_88_2, hs_r_88_3, hs_t_88_3, hs_r_88_4, hs_t_88_4, hs_r_88_5, hs_t_88_5, hs_r_88_6, hs_t_88_6, hs_r_88_7, hs_t_88_7, hs_f_88_8, hs_f_88_9, hs_i_89, hs_i_90, hs_i_91, hs_i_92, hs_i_93, hs_i_94, hs_i_95, hs_i_96, hs_i_97, hs_i_98, hs_i_99, hs_i_100, hs_i_101, hs_i_102, hs_o_103, hs_r_103_0, hs_t_103_0, hs_r_103_1, hs_t_103_1, hs_r_103_2, hs_t_103_2, hs_r_103_3, hs_t_103_3, hs_f_103_4, hs_i_104, hs_o_105, hs_r_105_0, hs_t_105_0, hs_r_105_1, hs_t_105_1, hs_r_105_2, hs_t_105_2, hs_i_106, hs_i_107, hs_o_108, hs_r_108_0, hs_t_108_0, hs_r_108_1, hs_t_108_1, hs_r_108_2, hs_t_108_2, hs_r_108_3, hs_t_108_3, hs_f_108_4, hs_i_109, hs_i_110, hs_o_111, hs_r_111_0, hs_t_111_0, hs_r_111_1, hs_t_111_1, hs_f_111_2, hs_f_111_3, hs_f_111_4, hs_i_112, hs_o_113, hs_f_113_0, hs_f_113_1, hs_f_113_2, hs_r_113_3, hs_t_113_3, hs_r_113_4, hs_t_113_4, hs_r_113_5, hs_t_113_5, hs_r_113_6, hs_t_113_6, hs_r_113_7, hs_t_113_7, hs_r_113_8, hs_t_113_8, hs_r_113_9, hs_t_113_9, hs_r_113_10, hs_t_113_10, hs_r_113_11, hs_t_113_11, hs_f_113_12, hs_f_113_13, hs_f_113_14, hs_r_113_15, hs_t_113_15, hs_f_113_16, hs_r_113_17, hs_t_113_17, hs_r_113_18, hs_t_113_18, hs_r_113_19, hs_t_113_19, hs_r_113_20, hs_t_113_20, hs_f_113_21, hs_f_113_22, hs_f_113_23, hs_r_113_24, hs_t_113_24, hs_f_113_25, hs_r_113_26, hs_t_113_26, hs_f_113_27, hs_i_114, hs_i_115, hs_i_116, hs_i_117, hs_i_118, hs_i_119, hs_i_120, hs_i_121, hs_i_122, hs_i_123, hs_i_124, hs_i_125, hs_i_126, hs_i_127, hs_i_128, hs_i_129, vp_in_nI (show h < 7 by omega) (show 7 < 2 ^ 31 by decide), hd_cc (show h < 2147483648 by omega), hp_wdm hok hx hh, decide_eq_true_eq, hd_b01]
set_option maxHeartbeats 4000000 in
theorem sx_lose {S : hd_S} {p : hp_P} {n : Nat} {q : Nat → hp_P} {hand : Nat} {cl : Nat → Nat} (hI : hx_I S p n q hand cl) (hall : Int32) (post : Option hd_V → hd_S → Prop)
    (hk1 : ∀ h, h < hp_H p → hall = nI h → hp_wd p h ≠ -1 → ∀ S2, hx_I S2 (hp_sheet p h (-1) 0) (hp_kn n) (hp_kq n q p) hand cl → hx_fr S S2 → post (some (hd_vI (nI (hp_ln p h)))) S2)
    (hk2 : ¬ (0 ≤ hall ∧ hall < nI (hp_H p)) → post (some (hd_vI (-3))) S)
    (hk3 : ∀ h, h < hp_H p → hall = nI h → hp_wd p h = -1 → post (some (hd_vI (-11))) S) : wm_X8_lose [hd_vR 0, hd_vI hall] S post := by
  have hok := hI.1.1
  have hx := hI.2.1
  have hH : hp_H p ≤ 7 := hok.2.1
  have hx1 : S.1 1 1 = nI (hp_H p) := hx.2.1
  simp only [wm_X8_lose, wo_X8_lose, hd_mth, hd_rho0, hd_args, hd_wide, hq_sQ, hd_s0, hq_sI, hq_sJ, hd_sR, hd_sP, hd_sF, hd_sZ, hd_sG, hd_sA, hd_sL, hd_sB, hd_sO, hd_sN, hd_sD, hd_sW, hd_sE, hd_sRI, hd_sRZ, hd_sRJ, hd_sRR, hd_sRV, hd_sSw, hd_sw, hd_sCI, hd_sCL, hd_iK, hd_iL, hd_iU, hd_iB, hd_iD, hd_iJ, hd_iG, hd_iA, hd_iQ, hd_iC, hd_iN, hd_iE, hd_jK, hd_jL, hd_jU, hd_jB, hd_jD, hd_jH, hd_jI, hd_jA, hd_jQ, hd_jN, hd_rL, hd_rG, hd_rA, hd_rN, hd_cI, hd_c0, hd_cJ, hd_cX, hd_cA, hd_cO, hd_v0, hd_pI, hd_pJ, hd_pR, hd_nV, hd_nS, hd_get, hd_st, hd_stW, hd_cut, List.replicate, List.length_cons, List.length_nil, List.nil_append, List.cons_append, Nat.reduceAdd, Nat.reduceSub, Nat.reduceLeDiff, true_and, and_true, if_true, if_false, Bool.false_eq_true, List.append_nil, hs_o_0, hs_r_0_0, hs_t_0_0, hs_r_0_1, hs_t_0_1, hs_r_0_2, hs_t_0_2, hs_r_0_3, hs_t_0_3, hs_r_0_4, hs_t_0_4, hs_r_0_5, hs_t_0_5, hs_r_0_6, hs_t_0_6, hs_r_0_7, hs_t_0_7, hs_f_0_8, hs_o_1, hs_f_1_0, hs_f_1_1, hs_r_1_2, hs_t_1_2, hs_r_1_3, hs_t_1_3, hs_r_1_4, hs_t_1_4, hs_r_1_5, hs_t_1_5, hs_r_1_6, hs_t_1_6, hs_r_1_7, hs_t_1_7, hs_r_1_8, hs_t_1_8, hs_r_1_9, hs_t_1_9, hs_i_2, hs_i_3, hs_i_4, hs_i_5, hs_i_6, hs_i_7, hs_i_8, hs_i_9, hs_o_82, hs_r_82_0, hs_t_82_0, hs_f_82_1, hs_i_83, hs_o_84, hs_r_84_0, hs_t_84_0, hs_r_84_1, hs_t_84_1, hs_r_84_2, hs_t_84_2, hs_r_84_3, hs_t_84_3, hs_f_84_4, hs_i_85, hs_i_86, hs_i_87, hs_o_88, hs_r_88_0, hs_t_88_0, hs_r_88_1, hs_t_88_1, hs_r_88_2, hs_t_88_2, hs_r_88_3, hs_t_88_3, hs_r_88_4, hs_t_88_4, hs_r_88_5, hs_t_88_5, hs_r_88_6, hs_t_88_6, hs_r_88_7, hs_t_88_7, hs_f_88_8, hs_f_88_9, hs_i_89, hs_i_90, hs_i_91, hs_i_92, hs_i_93, hs_i_94, hs_i_95, hs_i_96, hs_i_97, hs_i_98, hs_i_99, hs_i_100, hs_i_101, hs_i_102, hs_o_103, hs_r_103_0, hs_t_103_0, hs_r_103_1, hs_t_103_1, hs_r_103_2, hs_t_103_2, hs_r_103_3, hs_t_103_3, hs_f_103_4, hs_i_104, hs_o_105, hs_r_105_0, hs_t_105_0, hs_r_105_1, hs_t_105_1, hs_r_105_2, hs_t_105_2, hs_i_106, hs_i_107, hs_o_108, hs_r_108_0, hs_t_108_0, hs_r_108_1, hs_t_108_1, hs_r_108_2, hs_t_108_2, hs_r_108_3, hs_t_108_3, hs_f_108_4, hs_i_109, hs_i_110, hs_o_111, hs_r_111_0, hs_t_111_0, hs_r_111_1, hs_t_111_1, hs_f_111_2, hs_f_111_3, hs_f_111_4, hs_i_112, hs_o_113, hs_f_113_0, hs_f_113_1, hs_f_113_2, hs_r_113_3, hs_t_113_3, hs_r_113_4, hs_t_113_4, hs_r_113_5, hs_t_113_5, hs_r_113_6, hs_t_113_6, hs_r_113_7, hs_t_113_7, hs_r_113_8, hs_t_113_8, hs_r_113_9, hs_t_113_9, hs_r_113_10, hs_t_113_10, hs_r_113_11, hs_t_113_11, hs_f_113_12, hs_f_113_13, hs_f_113_14, hs_r_113_15, hs_t_113_15, hs_f_113_16, hs_r_113_17, hs_t_113_17, hs_r_113_18, hs_t_113_18, hs_r_113_19, hs_t_113_19, hs_r_113_20, hs_t_113_20, hs_f_113_21, hs_f_113_22, hs_f_113_23, hs_r_113_24, hs_t_113_24, hs_f_113_25, hs_r_113_26, hs_t_113_26, hs_f_113_27, hs_i_114, hs_i_115, hs_i_116, hs_i_117, hs_i_118, hs_i_119, hs_i_120, hs_i_121, hs_i_122, hs_i_123, hs_i_124, hs_i_125, hs_i_126, hs_i_127, hs_i_128, hs_i_129, sp_X5_hasHall, hx1, hd_t01, hd_dn1, decide_eq_true_eq]
  by_cases h1 : 0 ≤ hall ∧ hall < nI (hp_H p)
  · obtain ⟨h, hh, rfl⟩ := hb_rng2 (show hp_H p < 2 ^ 31 by omega) h1.1 h1.2
    have hln : S.1 8 h = nI (hp_ln p h) := hx.2.2.2.2.2.2.2.2.1 h (by omega)
    simp only [h1, and_self, if_true, show ¬ ((1 : Int32) = 0) by decide, not_false_iff, not_true, if_false, sx_isMissing hok hx (show h < 7 by omega), hd_t01, hd_dn1, decide_eq_true_eq]
    by_cases hw : hp_wd p h = -1
    · simp only [hw, if_true, show ¬ ((1 : Int32) = 0) by decide, not_false_iff]
      exact hk3 h hh rfl hw
    · simp only [hw, if_false, not_true, vp_in_nI (show h < 7 by omega) (show 7 < 2 ^ 31 by decide), hd_cc (show h < 2147483648 by omega), hln, true_and]
      refine sx_keepForUndo hH hx hI.2.2.1 _ (fun S1 hkf hpa => ?_)
      simp only [true_and]
      refine sx_laySheet (m := 0) (by omega) (by decide) (-1) _ (fun S2 he h7 h8 h9 => ?_)
      simp only [true_and]
      have hx2 := hx_P_sheet (w := -1) hh hH (hx_kf_P hkf hx) he (by rw [show Int32.ofInt (-1) = (-1 : Int32) from rfl]; exact h7) h8 h9
      obtain ⟨g1, g2⟩ := hx_I_new hI hkf hpa (hd_eqx_in he) he.2 hx2 (hp_ok_sheet hok (by decide) (by decide) (fun _ => rfl)) (Nat.le_refl _) (Nat.le_refl _)
      exact hk1 h hh rfl hw S2 g1 g2
  · simp only [h1, not_false_iff, if_true]
    exact hk2 h1
