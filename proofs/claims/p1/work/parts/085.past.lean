/-! the kept plans -/
theorem hx_P_cell {S S2 : hd_S} {p : hp_P} {c : Nat} (h : ∀ i, i ≤ 8 → S2.1 (c + i) = S.1 (c + i)) (hx : hx_P c S p) : hx_P c S2 p := by
  have h0 : S2.1 c = S.1 c := h 0 (by decide)
  unfold hx_P at hx ⊢
  rw [h0, h 1 (by decide), h 2 (by decide), h 3 (by decide), h 4 (by decide), h 5 (by decide), h 6 (by decide), h 7 (by decide), h 8 (by decide)]
  exact hx
/-- n plans are kept, q 0 the oldest -/
def hx_past (S : hd_S) (n : Nat) (q : Nat → hp_P) : Prop := n ≤ 8 ∧ S.1 82 1 = nI n ∧ ∃ g : Nat → Nat, (∀ i, i < 8 → S.2.2 83 i = 1 + 9 * g i ∧ 1 ≤ g i ∧ g i ≤ 8) ∧ (∀ i j, i < 8 → j < 8 → g i = g j → i = j) ∧ ∀ i, i < n → hx_P (1 + 9 * g i) S (q i)
set_option maxHeartbeats 4000000 in
theorem sx_dropOldest {S : hd_S} {q : Nat → hp_P} (hp : hx_past S 8 q) (post : Option hd_V → hd_S → Prop)
    (hk : ∀ S2, (∀ c, c ≠ 82 → S2.1 c = S.1 c) → S2.2.1 = S.2.1 → (∀ c, c ≠ 83 → S2.2.2 c = S.2.2 c) → hx_past S2 7 (fun i => q (i + 1)) → post none S2) : wm_X4_dropOldest [hd_vR 82] S post := by
  obtain ⟨-, h82, g, hg, hinj, hpl⟩ := hp
  have o : ∀ i, i < 8 → hd_isO hs_sh 5 (S.2.2 83 i) := fun i hi => by
    rw [(hg i hi).1]
    exact hs_pl_o (by have := (hg i hi).2.2; omega)
  simp only [wm_X4_dropOldest, wo_X4_dropOldest, hd_mth, hd_rho0, hd_args, hd_wide, hq_sQ, hd_s0, hq_sI, hq_sJ, hd_sR, hd_sP, hd_sF, hd_sZ, hd_sG, hd_sA, hd_sL, hd_sB, hd_sO, hd_sN, hd_sD, hd_sW, hd_sE, hd_sRI, hd_sRZ, hd_sRJ, hd_sRR, hd_sRV, hd_sSw, hd_sw, hd_sCI, hd_sCL, hd_iK, hd_iL, hd_iU, hd_iB, hd_iD, hd_iJ, hd_iG, hd_iA, hd_iQ, hd_iC, hd_iN, hd_iE, hd_jK, hd_jL, hd_jU, hd_jB, hd_jD, hd_jH, hd_jI, hd_jA, hd_jQ, hd_jN, hd_rL, hd_rG, hd_rA, hd_rN, hd_cI, hd_c0, hd_cJ, hd_cX, hd_cA, hd_cO, hd_v0, hd_pI, hd_pJ, hd_pR, hd_nV, hd_nS, hd_get, hd_st, hd_stW, hd_cut, List.replicate, List.length_cons, List.length_nil, List.nil_append, List.cons_append, Nat.reduceAdd, Nat.reduceSub, Nat.reduceLeDiff, true_and, and_true, if_true, if_false, Bool.false_eq_true, List.append_nil, hs_o_0, hs_r_0_0, hs_t_0_0, hs_r_0_1, hs_t_0_1, hs_r_0_2, hs_t_0_2, hs_r_0_3, hs_t_0_3, hs_r_0_4, hs_t_0_4, hs_r_0_5, hs_t_0_5, hs_r_0_6, hs_t_0_6, hs_r_0_7, hs_t_0_7, hs_f_0_8, hs_o_1, hs_f_1_0, hs_f_1_1, hs_r_1_2, hs_t_1_2, hs_r_1_3, hs_t_1_3, hs_r_1_4, hs_t_1_4, hs_r_1_5, hs_t_1_5, hs_r_1_6, hs_t_1_6, hs_r_1_7, hs_t_1_7, hs_r_1_8, hs_t_1_8, hs_r_1_9, hs_t_1_9, hs_i_2, hs_i_3, hs_i_4, hs_i_5, hs_i_6, hs_i_7, hs_i_8, hs_i_9, hs_o_82, hs_r_82_0, hs_t_82_0, hs_f_82_1, hs_i_83, hs_o_84, hs_r_84_0, hs_t_84_0, hs_r_84_1, hs_t_84_1, hs_r_84_2, hs_t_84_2, hs_r_84_3, hs_t_84_3, hs_f_84_4, hs_i_85, hs_i_86, hs_i_87, hs_o_88, hs_r_88_0, hs_t_88_0, hs_r_88_1, hs_t_88_1, hs_r_88_2, hs_t_88_2, hs_r_88_3, hs_t_88_3, hs_r_88_4, hs_t_88_4, hs_r_88_5, hs_t_88_5, hs_r_88_6, hs_t_88_6, hs_r_88_7, hs_t_88_7, hs_f_88_8, hs_f_88_9, hs_i_89, hs_i_90, hs_i_91, hs_i_92, hs_i_93, hs_i_94, hs_i_95, hs_i_96, hs_i_97, hs_i_98, hs_i_99, hs_i_100, hs_i_101, hs_i_102, hs_o_103, hs_r_103_0, hs_t_103_0, hs_r_103_1, hs_t_103_1, hs_r_103_2, hs_t_103_2, hs_r_103_3, hs_t_103_3, hs_f_103_4, hs_i_104, hs_o_105, hs_r_105_0, hs_t_105_0, hs_r_105_1, hs_t_105_1, hs_r_105_2, hs_t_105_2, hs_i_106, hs_i_107, hs_o_108, hs_r_108_0, hs_t_108_0, hs_r_108_1, hs_t_108_1, hs_r_108_2, hs_t_108_2, hs_r_108_3, hs_t_108_3, hs_f_108_4, hs_i_109, hs_i_110, hs_o_111, hs_r_111_0, hs_t_111_0, hs_r_111_1, hs_t_111_1, hs_f_111_2, hs_f_111_3, hs_f_111_4, hs_i_112, hs_o_113, hs_f_113_0, hs_f_113_1, hs_f_113_2, hs_r_113_3, hs_t_113_3, hs_r_113_4, hs_t_113_4, hs_r_113_5, hs_t_113_5, hs_r_113_6, hs_t_113_6, hs_r_113_7, hs_t_113_7, hs_r_113_8, hs_t_113_8, hs_r_113_9, hs_t_113_9, hs_r_113_10, hs_t_113_10, hs_r_113_11, hs_t_113_11, hs_f_113_12, hs_f_113_13, hs_f_113_14, hs_r_113_15, hs_t_113_15, hs_f_113_16, hs_r_113_17, hs_t_113_17, hs_r_113_18, hs_t_113_18, hs_r_113_19, hs_t_113_19, hs_r_113_20, hs_t_113_20, hs_f_113_21, hs_f_113_22, hs_f_113_23, hs_r_113_24, hs_t_113_24, hs_f_113_25, hs_r_113_26, hs_t_113_26, hs_f_113_27, hs_i_114, hs_i_115, hs_i_116, hs_i_117, hs_i_118, hs_i_119, hs_i_120, hs_i_121, hs_i_122, hs_i_123, hs_i_124, hs_i_125, hs_i_126, hs_i_127, hs_i_128, hs_i_129, show (0 : Int32) = nI 0 from rfl, vp_in_nI (show 0 < 8 by omega) (show 8 < 2 ^ 31 by decide), hd_cc (show 0 < 2147483648 by omega)]
  refine hd_up (fun i ρ S2 => 1 ≤ i ∧ S2.1 = S.1 ∧ S2.2.1 = S.2.1 ∧ (∀ c, c ≠ 83 → S2.2.2 c = S.2.2 c) ∧ (∀ x, x < 8 → S2.2.2 83 x = if x + 1 < i then S.2.2 83 (x + 1) else S.2.2 83 x) ∧ ρ = [hd_vR 82, hd_vR (S.2.2 83 0), hd_vI (nI i)]) 8 ?_ ?_ (show 1 ≤ 8 by decide) ⟨Nat.le_refl _, rfl, rfl, fun _ _ => rfl, fun x hx => by rw [if_neg (by omega)], rfl⟩
  · rintro i ρ S2 K hi ⟨h1i, a1, a2, a3, a4, rfl⟩ hK
    have e1 : nI i - 1 = nI (i - 1) := by rw [show (1 : Int32) = nI 1 from rfl, pk_sub (by omega)]
    have e2 : S2.2.2 83 i = S.2.2 83 i := by rw [a4 i hi, if_neg (by omega)]
    simp only [wc_X4_dropOldest_9, wb_X4_dropOldest_9, hd_mth, hd_rho0, hd_args, hd_wide, hq_sQ, hd_s0, hq_sI, hq_sJ, hd_sR, hd_sP, hd_sF, hd_sZ, hd_sG, hd_sA, hd_sL, hd_sB, hd_sO, hd_sN, hd_sD, hd_sW, hd_sE, hd_sRI, hd_sRZ, hd_sRJ, hd_sRR, hd_sRV, hd_sSw, hd_sw, hd_sCI, hd_sCL, hd_iK, hd_iL, hd_iU, hd_iB, hd_iD, hd_iJ, hd_iG, hd_iA, hd_iQ, hd_iC, hd_iN, hd_iE, hd_jK, hd_jL, hd_jU, hd_jB, hd_jD, hd_jH, hd_jI, hd_jA, hd_jQ, hd_jN, hd_rL, hd_rG, hd_rA, hd_rN, hd_cI, hd_c0, hd_cJ, hd_cX, hd_cA, hd_cO, hd_v0, hd_pI, hd_pJ, hd_pR, hd_nV, hd_nS, hd_get, hd_st, hd_stW, hd_cut, List.replicate, List.length_cons, List.length_nil, List.nil_append, List.cons_append, Nat.reduceAdd, Nat.reduceSub, Nat.reduceLeDiff, true_and, and_true, if_true, if_false, Bool.false_eq_true, List.append_nil, hs_o_0, hs_r_0_0, hs_t_0_0, hs_r_0_1, hs_t_0_1, hs_r_0_2, hs_t_0_2, hs_r_0_3, hs_t_0_3, hs_r_0_4, hs_t_0_4, hs_r_0_5, hs_t_0_5, hs_r_0_6, hs_t_0_6, hs_r_0_7, hs_t_0_7, hs_f_0_8, hs_o_1, hs_f_1_0, hs_f_1_1, hs_r_1_2, hs_t_1_2, hs_r_1_3, hs_t_1_3, hs_r_1_4, hs_t_1_4, hs_r_1_5, hs_t_1_5, hs_r_1_6, hs_t_1_6, hs_r_1_7, hs_t_1_7, hs_r_1_8, hs_t_1_8, hs_r_1_9, hs_t_1_9, hs_i_2, hs_i_3, hs_i_4, hs_i_5, hs_i_6, hs_i_7, hs_i_8, hs_i_9, hs_o_82, hs_r_82_0, hs_t_82_0, hs_f_82_1, hs_i_83, hs_o_84, hs_r_84_0, hs_t_84_0, hs_r_84_1, hs_t_84_1, hs_r_84_2, hs_t_84_2, hs_r_84_3, hs_t_84_3, hs_f_84_4, hs_i_85, hs_i_86, hs_i_87, hs_o_88, hs_r_88_0, hs_t_88_0, hs_r_88_1, hs_t_88_1, hs_r_88_2, hs_t_88_2, hs_r_88_3, hs_t_88_3, hs_r_88_4, hs_t_88_4, hs_r_88_5, hs_t_88_5, hs_r_88_6, hs_t_88_6, hs_r_88_7, hs_t_88_7, hs_f_88_8, hs_f_88_9, hs_i_89, hs_i_90, hs_i_91, hs_i_92, hs_i_93, hs_i_94, hs_i_95, hs_i_96, hs_i_97, hs_i_98, hs_i_99, hs_i_100, hs_i_101, hs_i_102, hs_o_103, hs_r_103_0, hs_t_103_0, hs_r_103_1, hs_t_103_1, hs_r_103_2, hs_t_103_2, hs_r_103_3, hs_t_103_3, hs_f_103_4, hs_i_104, hs_o_105, hs_r_105_0, hs_t_105_0, hs_r_105_1, hs_t_105_1, hs_r_105_2, hs_t_105_2, hs_i_106, hs_i_107, hs_o_108, hs_r_108_0, hs_t_108_0, hs_r_108_1, hs_t_108_1, hs_r_108_2, hs_t_108_2, hs_r_108_3, hs_t_108_3, hs_f_108_4, hs_i_109, hs_i_110, hs_o_111, hs_r_111_0, hs_t_111_0, hs_r_111_1, hs_t_111_1, hs_f_111_2, hs_f_111_3, hs_f_111_4, hs_i_112, hs_o_113, hs_f_113_0, hs_f_113_1, hs_f_113_2, hs_r_113_3, hs_t_113_3, hs_r_113_4, hs_t_113_4, hs_r_113_5, hs_t_113_5, hs_r_113_6, hs_t_113_6, hs_r_113_7, hs_t_113_7, hs_r_113_8, hs_t_113_8, hs_r_113_9, hs_t_113_9, hs_r_113_10, hs_t_113_10, hs_r_113_11, hs_t_113_11, hs_f_113_12, hs_f_113_13, hs_f_113_14, hs_r_113_15, hs_t_113_15, hs_f_113_16, hs_r_113_17, hs_t_113_17, hs_r_113_18, hs_t_113_18, hs_r_113_19, hs_t_113_19, hs_r_113_20, hs_t_113_20, hs_f_113_21, hs_f_113_22, hs_f_113_23, hs_r_113_24, hs_t_113_24, hs_f_113_25, hs_r_113_26, hs_t_113_26, hs_f_113_27, hs_i_114, hs_i_115, hs_i_116, hs_i_117, hs_i_118, hs_i_119, hs_i_120, hs_i_121, hs_i_122, hs_i_123, hs_i_124, hs_i_125, hs_i_126, hs_i_127, hs_i_128, hs_i_129, hd_lit8, nI_ltI (show i < 2 ^ 31 by omega) (show 8 < 2 ^ 31 by omega), hi, decide_true, e1, vp_in_nI (show i - 1 < 8 by omega) (show 8 < 2 ^ 31 by decide), hd_cc (show i - 1 < 2147483648 by omega), vp_in_nI (show i < 8 by omega) (show 8 < 2 ^ 31 by decide), hd_cc (show i < 2147483648 by omega), e2, o i hi, nI_1]
    refine hK _ _ ⟨by omega, a1, a2, fun c hc => ?_, fun x hx => ?_, rfl⟩
    · funext j
      rw [hd_wR3, if_neg (fun r => hc r.1), a3 c hc]
    · rw [hd_wR3]
      by_cases hxi : x = i - 1
      · rw [if_pos ⟨rfl, hxi⟩, if_pos (by omega), show x + 1 = i by omega]
      · rw [if_neg (fun r => hxi r.2), a4 x hx]
        by_cases hlt : x + 1 < i
        · rw [if_pos hlt, if_pos (by omega)]
        · rw [if_neg hlt, if_neg (by omega)]
  · rintro ρ S2 K ⟨h1i, a1, a2, a3, a4, rfl⟩
    simp only [wc_X4_dropOldest_9, hd_mth, hd_rho0, hd_args, hd_wide, hq_sQ, hd_s0, hq_sI, hq_sJ, hd_sR, hd_sP, hd_sF, hd_sZ, hd_sG, hd_sA, hd_sL, hd_sB, hd_sO, hd_sN, hd_sD, hd_sW, hd_sE, hd_sRI, hd_sRZ, hd_sRJ, hd_sRR, hd_sRV, hd_sSw, hd_sw, hd_sCI, hd_sCL, hd_iK, hd_iL, hd_iU, hd_iB, hd_iD, hd_iJ, hd_iG, hd_iA, hd_iQ, hd_iC, hd_iN, hd_iE, hd_jK, hd_jL, hd_jU, hd_jB, hd_jD, hd_jH, hd_jI, hd_jA, hd_jQ, hd_jN, hd_rL, hd_rG, hd_rA, hd_rN, hd_cI, hd_c0, hd_cJ, hd_cX, hd_cA, hd_cO, hd_v0, hd_pI, hd_pJ, hd_pR, hd_nV, hd_nS, hd_get, hd_st, hd_stW, hd_cut, List.replicate, List.length_cons, List.length_nil, List.nil_append, List.cons_append, Nat.reduceAdd, Nat.reduceSub, Nat.reduceLeDiff, true_and, and_true, if_true, if_false, Bool.false_eq_true, List.append_nil, hs_o_0, hs_r_0_0, hs_t_0_0, hs_r_0_1, hs_t_0_1, hs_r_0_2, hs_t_0_2, hs_r_0_3, hs_t_0_3, hs_r_0_4, hs_t_0_4, hs_r_0_5, hs_t_0_5, hs_r_0_6, hs_t_0_6, hs_r_0_7, hs_t_0_7, hs_f_0_8, hs_o_1, hs_f_1_0, hs_f_1_1, hs_r_1_2, hs_t_1_2, hs_r_1_3, hs_t_1_3, hs_r_1_4, hs_t_1_4, hs_r_1_5, hs_t_1_5, hs_r_1_6, hs_t_1_6, hs_r_1_7, hs_t_1_7, hs_r_1_8, hs_t_1_8, hs_r_1_9, hs_t_1_9, hs_i_2, hs_i_3, hs_i_4, hs_i_5, hs_i_6, hs_i_7, hs_i_8, hs_i_9, hs_o_82, hs_r_82_0, hs_t_82_0, hs_f_82_1, hs_i_83, hs_o_84, hs_r_84_0, hs_t_84_0, hs_r_84_1, hs_t_84_1, hs_r_84_2, hs_t_84_2, hs_r_84_3, hs_t_84_3, hs_f_84_4, hs_i_85, hs_i_86, hs_i_87, hs_o_88, hs_r_88_0, hs_t_88_0, hs_r_88_1, hs_t_88_1, hs_r_88_2, hs_t_88_2, hs_r_88_3, hs_t_88_3, hs_r_88_4, hs_t_88_4, hs_r_88_5, hs_t_88_5, hs_r_88_6, hs_t_88_6, hs_r_88_7, hs_t_88_7, hs_f_88_8, hs_f_88_9, hs_i_89, hs_i_90, hs_i_91, hs_i_92, hs_i_93, hs_i_94, hs_i_95, hs_i_96, hs_i_97, hs_i_98, hs_i_99, hs_i_100, hs_i_101, hs_i_102, hs_o_103, hs_r_103_0, hs_t_103_0, hs_r_103_1, hs_t_103_1, hs_r_103_2, hs_t_103_2, hs_r_103_3, hs_t_103_3, hs_f_103_4, hs_i_104, hs_o_105, hs_r_105_0, hs_t_105_0, hs_r_105_1, hs_t_105_1, hs_r_105_2, hs_t_105_2, hs_i_106, hs_i_107, hs_o_108, hs_r_108_0, hs_t_108_0, hs_r_108_1, hs_t_108_1, hs_r_108_2, hs_t_108_2, hs_r_108_3, hs_t_108_3, hs_f_108_4, hs_i_109, hs_i_110, hs_o_111, hs_r_111_0, hs_t_111_0, hs_r_111_1, hs_t_111_1, hs_f_111_2, hs_f_111_3, hs_f_111_4, hs_i_112, hs_o_113, hs_f_113_0, hs_f_113_1, hs_f_113_2, hs_r_113_3, hs_t_113_3, hs_r_113_4, hs_t_113_4, hs_r_113_5, hs_t_113_5, hs_r_113_6, hs_t_113_6, hs_r_113_7, hs_t_113_7, hs_r_113_8, hs_t_113_8, hs_r_113_9, hs_t_113_9, hs_r_113_10, hs_t_113_10, hs_r_113_11, hs_t_113_11, hs_f_113_12, hs_f_113_13, hs_f_113_14, hs_r_113_15, hs_t_113_15, hs_f_113_16, hs_r_113_17, hs_t_113_17, hs_r_113_18, hs_t_113_18, hs_r_113_19, hs_t_113_19, hs_r_113_20, hs_t_113_20, hs_f_113_21, hs_f_113_22, hs_f_113_23, hs_r_113_24, hs_t_113_24, hs_f_113_25, hs_r_113_26, hs_t_113_26, hs_f_113_27, hs_i_114, hs_i_115, hs_i_116, hs_i_117, hs_i_118, hs_i_119, hs_i_120, hs_i_121, hs_i_122, hs_i_123, hs_i_124, hs_i_125, hs_i_126, hs_i_127, hs_i_128, hs_i_129, hd_lit8, Int32.lt_irrefl, decide_false, show (7 : Int32) = nI 7 from rfl, vp_in_nI (show 7 < 8 by omega) (show 8 < 2 ^ 31 by decide), hd_cc (show 7 < 2147483648 by omega), o 0 (by decide)]
    refine hk _ (fun c hc => ?_) a2 (fun c hc => ?_) ⟨by decide, by rw [hd_wI1, if_pos ⟨rfl, rfl⟩], fun i => if i = 7 then g 0 else g (i + 1), fun i hi => ?_, fun i j hi hj he => ?_, fun i hi => ?_⟩
    · funext j
      rw [hd_wI1, if_neg (fun r => hc r.1), hd_wR1, a1]
    · funext j
      rw [hd_wI2, hd_wR3, if_neg (fun r => hc r.1), a3 c hc]
    · rw [hd_wI2, hd_wR3]
      by_cases hi7 : i = 7
      · simp only [hi7, and_self, if_true]
        exact hg 0 (by decide)
      · rw [if_neg (fun r => hi7 r.2), a4 i hi, if_pos (by omega)]
        simp only [hi7, if_false]
        exact hg (i + 1) (by omega)
    · by_cases hi7 : i = 7
      · by_cases hj7 : j = 7
        · omega
        · simp only [hi7, hj7, if_true, if_false] at he
          have := hinj 0 (j + 1) (by decide) (by omega) he
          omega
      · by_cases hj7 : j = 7
        · simp only [hi7, hj7, if_true, if_false] at he
          have := hinj (i + 1) 0 (by omega) (by decide) he
          omega
        · simp only [hi7, hj7, if_false] at he
          have := hinj (i + 1) (j + 1) (by omega) (by omega) he
          omega
    · simp only [show ¬ i = 7 by omega, if_false]
      refine hx_P_cell (fun k hk8 => ?_) (hpl (i + 1) (by omega))
      have hb := hg (i + 1) (by omega)
      funext j
      rw [hd_wI1, if_neg (fun r => ?_), hd_wR1, a1]
      have := r.1
      omega
/-- the past with a plan more: eight at most -/
def hp_kn (n : Nat) : Nat := if n < 8 then n + 1 else 8
def hp_kq (n : Nat) (q : Nat → hp_P) (p : hp_P) : Nat → hp_P := if n < 8 then (fun i => if i = n then p else q i) else (fun i => if i = 7 then p else q (i + 1))
set_option maxHeartbeats 4000000 in
theorem sx_keep {S : hd_S} {p : hp_P} {n : Nat} {q : Nat → hp_P} (hpH : hp_H p ≤ 7) (hx : hx_P 1 S p) (hpa : hx_past S n q) (post : Option hd_V → hd_S → Prop)
    (hk : ∀ S2, (∀ c, c < 10 ∨ 82 < c → S2.1 c = S.1 c) → S2.2.1 = S.2.1 → (∀ c, c ≠ 83 → S2.2.2 c = S.2.2 c) → hx_past S2 (hp_kn n) (hp_kq n q p) → post none S2) : wm_X4_keep [hd_vR 82, hd_vR 1] S post := by
  have hn8 := hpa.1
  -- where there is room
  have main : ∀ (S1 : hd_S) (m : Nat) (r : Nat → hp_P), m < 8 → hx_past S1 m r → hx_P 1 S1 p → (∀ S2, (∀ c, c < 10 ∨ 82 < c → S2.1 c = S1.1 c) → S2.2 = S1.2 → hx_past S2 (m + 1) (fun i => if i = m then p else r i) → post none S2) → (vp_in (S1.1 82 1) 8 ∧ (hd_isO hs_sh 5 (S1.2.2 83 (S1.1 82 1).toNatClampNeg) ∧ wm_X5_takeFrom [hd_vR (S1.2.2 83 (S1.1 82 1).toNatClampNeg), hd_vR 1] S1 (fun v S => v = none ∧ post none (hd_wI S 82 1 (S.1 82 1 + 1))))) := by
    intro S1 m r hm hp1 hx1 hk1
    obtain ⟨-, h82, g, hg, hinj, hpl⟩ := hp1
    obtain ⟨g1, g2, g3⟩ := hg m hm
    rw [h82, hd_cc (show m < 2147483648 by omega), g1]
    refine ⟨vp_in_nI hm (by decide), hs_pl_o (by omega), ?_⟩
    refine sx_takeFrom (ja := g m) (jb := 0) (by omega) (by decide) (by omega) hpH hx1 _ (fun S2 he hx2 => ⟨rfl, ?_⟩)
    have ne : ∀ c, (c < 1 + 9 * g m ∨ 1 + 9 * g m + 8 < c) → S2.1 c = S1.1 c := fun c hc => he.1 c (by simp only [List.mem_cons, List.not_mem_nil, or_false]; omega)
    have e82 : S2.1 82 1 = nI m := by rw [ne 82 (by omega)]; exact h82
    rw [e82, nI_1]
    refine hk1 _ (fun c hc => ?_) he.2 ⟨by omega, by rw [hd_wI1, if_pos ⟨rfl, rfl⟩], g, fun i hi => by rw [hd_wI2, he.2]; exact hg i hi, hinj, fun i hi => ?_⟩
    · funext j
      rw [hd_wI1, if_neg (fun q => by have := q.1; omega), ne c (by omega)]
    · have hgi := hg i (by omega)
      have w82 : ∀ k, k ≤ 8 → (hd_wI S2 82 1 (nI (m + 1))).1 (1 + 9 * g i + k) = S2.1 (1 + 9 * g i + k) := fun k hk8 => by
        funext j
        rw [hd_wI1, if_neg (fun q => by have := q.1; omega)]
      dsimp only
      by_cases him : i = m
      · rw [if_pos him]
        refine hx_P_cell w82 ?_
        rw [him]
        exact hx2
      · rw [if_neg him]
        refine hx_P_cell (fun k hk8 => ?_) (hpl i (by omega))
        have hne : g i ≠ g m := fun q => him (hinj i m (by omega) hm q)
        rw [w82 k hk8, ne _ (by omega)]
  have e82 := hpa.2.1
  simp only [wm_X4_keep, wo_X4_keep, hd_mth, hd_rho0, hd_args, hd_wide, hq_sQ, hd_s0, hq_sI, hq_sJ, hd_sR, hd_sP, hd_sF, hd_sZ, hd_sG, hd_sA, hd_sL, hd_sB, hd_sO, hd_sN, hd_sD, hd_sW, hd_sE, hd_sRI, hd_sRZ, hd_sRJ, hd_sRR, hd_sRV, hd_sSw, hd_sw, hd_sCI, hd_sCL, hd_iK, hd_iL, hd_iU, hd_iB, hd_iD, hd_iJ, hd_iG, hd_iA, hd_iQ, hd_iC, hd_iN, hd_iE, hd_jK, hd_jL, hd_jU, hd_jB, hd_jD, hd_jH, hd_jI, hd_jA, hd_jQ, hd_jN, hd_rL, hd_rG, hd_rA, hd_rN, hd_cI, hd_c0, hd_cJ, hd_cX, hd_cA, hd_cO, hd_v0, hd_pI, hd_pJ, hd_pR, hd_nV, hd_nS, hd_get, hd_st, hd_stW, hd_cut, List.replicate, List.length_cons, List.length_nil, List.nil_append, List.cons_append, Nat.reduceAdd, Nat.reduceSub, Nat.reduceLeDiff, true_and, and_true, if_true, if_false, Bool.false_eq_true, List.append_nil, hs_o_0, hs_r_0_0, hs_t_0_0, hs_r_0_1, hs_t_0_1, hs_r_0_2, hs_t_0_2, hs_r_0_3, hs_t_0_3, hs_r_0_4, hs_t_0_4, hs_r_0_5, hs_t_0_5, hs_r_0_6, hs_t_0_6, hs_r_0_7, hs_t_0_7, hs_f_0_8, hs_o_1, hs_f_1_0, hs_f_1_1, hs_r_1_2, hs_t_1_2, hs_r_1_3, hs_t_1_3, hs_r_1_4, hs_t_1_4, hs_r_1_5, hs_t_1_5, hs_r_1_6, hs_t_1_6, hs_r_1_7, hs_t_1_7, hs_r_1_8, hs_t_1_8, hs_r_1_9, hs_t_1_9, hs_i_2, hs_i_3, hs_i_4, hs_i_5, hs_i_6, hs_i_7, hs_i_8, hs_i_9, hs_o_82, hs_r_82_0, hs_t_82_0, hs_f_82_1, hs_i_83, hs_o_84, hs_r_84_0, hs_t_84_0, hs_r_84_1, hs_t_84_1, hs_r_84_2, hs_t_84_2, hs_r_84_3, hs_t_84_3, hs_f_84_4, hs_i_85, hs_i_86, hs_i_87, hs_o_88, hs_r_88_0, hs_t_88_0, hs_r_88_1, hs_t_88_1, hs_r_88_2, hs_t_88_2, hs_r_88_3, hs_t_88_3, hs_r_88_4, hs_t_88_4, hs_r_88_5, hs_t_88_5, hs_r_88_6, hs_t_88_6, hs_r_88_7, hs_t_88_7, hs_f_88_8, hs_f_88_9, hs_i_89, hs_i_90, hs_i_91, hs_i_92, hs_i_93, hs_i_94, hs_i_95, hs_i_96, hs_i_97, hs_i_98, hs_i_99, hs_i_100, hs_i_101, hs_i_102, hs_o_103, hs_r_103_0, hs_t_103_0, hs_r_103_1, hs_t_103_1, hs_r_103_2, hs_t_103_2, hs_r_103_3, hs_t_103_3, hs_f_103_4, hs_i_104, hs_o_105, hs_r_105_0, hs_t_105_0, hs_r_105_1, hs_t_105_1, hs_r_105_2, hs_t_105_2, hs_i_106, hs_i_107, hs_o_108, hs_r_108_0, hs_t_108_0, hs_r_108_1, hs_t_108_1, hs_r_108_2, hs_t_108_2, hs_r_108_3, hs_t_108_3, hs_f_108_4, hs_i_109, hs_i_110, hs_o_111, hs_r_111_0, hs_t_111_0, hs_r_111_1, hs_t_111_1, hs_f_111_2, hs_f_111_3, hs_f_111_4, hs_i_112, hs_o_113, hs_f_113_0, hs_f_113_1, hs_f_113_2, hs_r_113_3, hs_t_113_3, hs_r_113_4, hs_t_113_4, hs_r_113_5, hs_t_113_5, hs_r_113_6, hs_t_113_6, hs_r_113_7, hs_t_113_7, hs_r_113_8, hs_t_113_8, hs_r_113_9, hs_t_113_9, hs_r_113_10, hs_t_113_10, hs_r_113_11, hs_t_113_11, hs_f_113_12, hs_f_113_13, hs_f_113_14, hs_r_113_15, hs_t_113_15, hs_f_113_16, hs_r_113_17, hs_t_113_17, hs_r_113_18, hs_t_113_18, hs_r_113_19, hs_t_113_19, hs_r_113_20, hs_t_113_20, hs_f_113_21, hs_f_113_22, hs_f_113_23, hs_r_113_24, hs_t_113_24, hs_f_113_25, hs_r_113_26, hs_t_113_26, hs_f_113_27, hs_i_114, hs_i_115, hs_i_116, hs_i_117, hs_i_118, hs_i_119, hs_i_120, hs_i_121, hs_i_122, hs_i_123, hs_i_124, hs_i_125, hs_i_126, hs_i_127, hs_i_128, hs_i_129, e82, show (8 : Int32) = nI 8 from rfl, hb_le (show 8 < 2 ^ 31 by omega) (show n < 2 ^ 31 by omega), decide_eq_true_eq]
  by_cases h8 : 8 ≤ n
  · have hn : n = 8 := by omega
    subst hn
    simp only [Nat.le_refl, if_true]
    refine sx_dropOldest hpa _ (fun S1 a1 a2 a3 hp1 => ?_)
    simp only [true_and]
    have hx1 : hx_P 1 S1 p := hx_P_cell (fun i hi => a1 _ (by omega)) hx
    have h := main S1 7 (fun i => q (i + 1)) (by decide) hp1 hx1 (fun S2 b1 b2 hp2 => ?_)
    · exact h
    · refine hk S2 (fun c hc => by rw [b1 c hc, a1 c (by omega)]) (by rw [b2, a2]) (fun c hc => by rw [b2, a3 c hc]) ?_
      simp only [hp_kn, hp_kq, Nat.lt_irrefl, if_false]
      exact hp2
  · simp only [h8, if_false]
    have h := main S n q (by omega) hpa hx (fun S2 b1 b2 hp2 => ?_)
    · rw [e82] at h
      exact h
    · refine hk S2 b1 (by rw [b2]) (fun c _ => by rw [b2]) ?_
      simp only [hp_kn, hp_kq, show n < 8 by omega, if_true]
      exact hp2
/-- what keeping a plan for undo leaves -/
def hx_kf (S S2 : hd_S) : Prop := (∀ c, c < 10 ∨ (82 < c ∧ c ≠ 84 ∧ c ≠ 88 ∧ c ≠ 108) → S2.1 c = S.1 c) ∧ S2.2.1 = S.2.1 ∧ (∀ c, c ≠ 83 → S2.2.2 c = S.2.2 c) ∧ (∀ k, k ≠ 4 → S2.1 84 k = S.1 84 k) ∧ (∀ k, k ≠ 9 → S2.1 88 k = S.1 88 k) ∧ (∀ k, k ≠ 4 → S2.1 108 k = S.1 108 k) ∧ S2.1 84 4 = 1 ∧ S2.1 88 9 = 1 ∧ S2.1 108 4 = 1
set_option maxHeartbeats 4000000 in
theorem sx_forgetAnswers (S : hd_S) (post : Option hd_V → hd_S → Prop) : wm_X8_forgetAnswers [hd_vR 0] S post ↔ post none (hd_wI (hd_wI (hd_wI S 84 4 1) 88 9 1) 108 4 1) := by
  simp only [wm_X8_forgetAnswers, wo_X8_forgetAnswers, wm_X6_forget, wo_X6_forget, wm_X7_forget, wo_X7_forget, wm_X2_forget, wo_X2_forget, hd_mth, hd_rho0, hd_args, hd_wide, hd_sQ, hd_s0, hd_sI, hd_sJ, hd_sR, hd_sP, hd_sF, hd_sZ, hd_sG, hd_sA, hd_sL, hd_sB, hd_sO, hd_sN, hd_sD, hd_sW, hd_sE, hd_sRI, hd_sRZ, hd_sRJ, hd_sRR, hd_sRV, hd_sSw, hd_sw, hd_sCI, hd_sCL, hd_iK, hd_iL, hd_iU, hd_iB, hd_iD, hd_iJ, hd_iG, hd_iA, hd_iQ, hd_iC, hd_iN, hd_iE, hd_jK, hd_jL, hd_jU, hd_jB, hd_jD, hd_jH, hd_jI, hd_jA, hd_jQ, hd_jN, hd_rL, hd_rG, hd_rA, hd_rN, hd_cI, hd_c0, hd_cJ, hd_cX, hd_cA, hd_cO, hd_v0, hd_pI, hd_pJ, hd_pR, hd_nV, hd_nS, hd_get, hd_st, hd_stW, hd_cut, List.replicate, List.length_cons, List.length_nil, List.nil_append, List.cons_append, Nat.reduceAdd, Nat.reduceSub, Nat.reduceLeDiff, true_and, and_true, if_true, if_false, Bool.false_eq_true, List.append_nil, hs_o_0, hs_r_0_0, hs_t_0_0, hs_r_0_1, hs_t_0_1, hs_r_0_2, hs_t_0_2, hs_r_0_3, hs_t_0_3, hs_r_0_4, hs_t_0_4, hs_r_0_5, hs_t_0_5, hs_r_0_6, hs_t_0_6, hs_r_0_7, hs_t_0_7, hs_f_0_8, hs_o_1, hs_f_1_0, hs_f_1_1, hs_r_1_2, hs_t_1_2, hs_r_1_3, hs_t_1_3, hs_r_1_4, hs_t_1_4, hs_r_1_5, hs_t_1_5, hs_r_1_6, hs_t_1_6, hs_r_1_7, hs_t_1_7, hs_r_1_8, hs_t_1_8, hs_r_1_9, hs_t_1_9, hs_i_2, hs_i_3, hs_i_4, hs_i_5, hs_i_6, hs_i_7, hs_i_8, hs_i_9, hs_o_82, hs_r_82_0, hs_t_82_0, hs_f_82_1, hs_i_83, hs_o_84, hs_r_84_0, hs_t_84_0, hs_r_84_1, hs_t_84_1, hs_r_84_2, hs_t_84_2, hs_r_84_3, hs_t_84_3, hs_f_84_4, hs_i_85, hs_i_86, hs_i_87, hs_o_88, hs_r_88_0, hs_t_88_0, hs_r_88_1, hs_t_88_1, hs_r_88_2, hs_t_88_2, hs_r_88_3, hs_t_88_3, hs_r_88_4, hs_t_88_4, hs_r_88_5, hs_t_88_5, hs_r_88_6, hs_t_88_6, hs_r_88_7, hs_t_88_7, hs_f_88_8, hs_f_88_9, hs_i_89, hs_i_90, hs_i_91, hs_i_92, hs_i_93, hs_i_94, hs_i_95, hs_i_96, hs_i_97, hs_i_98, hs_i_99, hs_i_100, hs_i_101, hs_i_102, hs_o_103, hs_r_103_0, hs_t_103_0, hs_r_103_1, hs_t_103_1, hs_r_103_2, hs_t_103_2, hs_r_103_3, hs_t_103_3, hs_f_103_4, hs_i_104, hs_o_105, hs_r_105_0, hs_t_105_0, hs_r_105_1, hs_t_105_1, hs_r_105_2, hs_t_105_2, hs_i_106, hs_i_107, hs_o_108, hs_r_108_0, hs_t_108_0, hs_r_108_1, hs_t_108_1, hs_r_108_2, hs_t_108_2, hs_r_108_3, hs_t_108_3, hs_f_108_4, hs_i_109, hs_i_110, hs_o_111, hs_r_111_0, hs_t_111_0, hs_r_111_1, hs_t_111_1, hs_f_111_2, hs_f_111_3, hs_f_111_4, hs_i_112, hs_o_113, hs_f_113_0, hs_f_113_1, hs_f_113_2, hs_r_113_3, hs_t_113_3, hs_r_113_4, hs_t_113_4, hs_r_113_5, hs_t_113_5, hs_r_113_6, hs_t_113_6, hs_r_113_7, hs_t_113_7, hs_r_113_8, hs_t_113_8, hs_r_113_9, hs_t_113_9, hs_r_113_10, hs_t_113_10, hs_r_113_11, hs_t_113_11, hs_f_113_12, hs_f_113_13, hs_f_113_14, hs_r_113_15, hs_t_113_15, hs_f_113_16, hs_r_113_17, hs_t_113_17, hs_r_113_18, hs_t_113_18, hs_r_113_19, hs_t_113_19, hs_r_113_20, hs_t_113_20, hs_f_113_21, hs_f_113_22, hs_f_113_23, hs_r_113_24, hs_t_113_24, hs_f_113_25, hs_r_113_26, hs_t_113_26, hs_f_113_27, hs_i_114, hs_i_115, hs_i_116, hs_i_117, hs_i_118, hs_i_119, hs_i_120, hs_i_121, hs_i_122, hs_i_123, hs_i_124, hs_i_125, hs_i_126, hs_i_127, hs_i_128, hs_i_129, or_true]
set_option maxHeartbeats 4000000 in
theorem sx_keepForUndo {S : hd_S} {p : hp_P} {n : Nat} {q : Nat → hp_P} (hpH : hp_H p ≤ 7) (hx : hx_P 1 S p) (hpa : hx_past S n q) (post : Option hd_V → hd_S → Prop)
    (hk : ∀ S2, hx_kf S S2 → hx_past S2 (hp_kn n) (hp_kq n q p) → post none S2) : wm_X8_keepForUndo [hd_vR 0] S post := by
  simp only [wm_X8_keepForUndo, wo_X8_keepForUndo, hd_mth, hd_rho0, hd_args, hd_wide, hd_sQ, hd_s0, hd_sI, hd_sJ, hd_sR, hd_sP, hd_sF, hd_sZ, hd_sG, hd_sA, hd_sL, hd_sB, hd_sO, hd_sN, hd_sD, hd_sW, hd_sE, hd_sRI, hd_sRZ, hd_sRJ, hd_sRR, hd_sRV, hd_sSw, hd_sw, hd_sCI, hd_sCL, hd_iK, hd_iL, hd_iU, hd_iB, hd_iD, hd_iJ, hd_iG, hd_iA, hd_iQ, hd_iC, hd_iN, hd_iE, hd_jK, hd_jL, hd_jU, hd_jB, hd_jD, hd_jH, hd_jI, hd_jA, hd_jQ, hd_jN, hd_rL, hd_rG, hd_rA, hd_rN, hd_cI, hd_c0, hd_cJ, hd_cX, hd_cA, hd_cO, hd_v0, hd_pI, hd_pJ, hd_pR, hd_nV, hd_nS, hd_get, hd_st, hd_stW, hd_cut, List.replicate, List.length_cons, List.length_nil, List.nil_append, List.cons_append, Nat.reduceAdd, Nat.reduceSub, Nat.reduceLeDiff, true_and, and_true, if_true, if_false, Bool.false_eq_true, List.append_nil, hs_o_0, hs_r_0_0, hs_t_0_0, hs_r_0_1, hs_t_0_1, hs_r_0_2, hs_t_0_2, hs_r_0_3, hs_t_0_3, hs_r_0_4, hs_t_0_4, hs_r_0_5, hs_t_0_5, hs_r_0_6, hs_t_0_6, hs_r_0_7, hs_t_0_7, hs_f_0_8, hs_o_1, hs_f_1_0, hs_f_1_1, hs_r_1_2, hs_t_1_2, hs_r_1_3, hs_t_1_3, hs_r_1_4, hs_t_1_4, hs_r_1_5, hs_t_1_5, hs_r_1_6, hs_t_1_6, hs_r_1_7, hs_t_1_7, hs_r_1_8, hs_t_1_8, hs_r_1_9, hs_t_1_9, hs_i_2, hs_i_3, hs_i_4, hs_i_5, hs_i_6, hs_i_7, hs_i_8, hs_i_9, hs_o_82, hs_r_82_0, hs_t_82_0, hs_f_82_1, hs_i_83, hs_o_84, hs_r_84_0, hs_t_84_0, hs_r_84_1, hs_t_84_1, hs_r_84_2, hs_t_84_2, hs_r_84_3, hs_t_84_3, hs_f_84_4, hs_i_85, hs_i_86, hs_i_87, hs_o_88, hs_r_88_0, hs_t_88_0, hs_r_88_1, hs_t_88_1, hs_r_88_2, hs_t_88_2, hs_r_88_3, hs_t_88_3, hs_r_88_4, hs_t_88_4, hs_r_88_5, hs_t_88_5, hs_r_88_6, hs_t_88_6, hs_r_88_7, hs_t_88_7, hs_f_88_8, hs_f_88_9, hs_i_89, hs_i_90, hs_i_91, hs_i_92, hs_i_93, hs_i_94, hs_i_95, hs_i_96, hs_i_97, hs_i_98, hs_i_99, hs_i_100, hs_i_101, hs_i_102, hs_o_103, hs_r_103_0, hs_t_103_0, hs_r_103_1, hs_t_103_1, hs_r_103_2, hs_t_103_2, hs_r_103_3, hs_t_103_3, hs_f_103_4, hs_i_104, hs_o_105, hs_r_105_0, hs_t_105_0, hs_r_105_1, hs_t_105_1, hs_r_105_2, hs_t_105_2, hs_i_106, hs_i_107, hs_o_108, hs_r_108_0, hs_t_108_0, hs_r_108_1, hs_t_108_1, hs_r_108_2, hs_t_108_2, hs_r_108_3, hs_t_108_3, hs_f_108_4, hs_i_109, hs_i_110, hs_o_111, hs_r_111_0, hs_t_111_0, hs_r_111_1, hs_t_111_1, hs_f_111_2, hs_f_111_3, hs_f_111_4, hs_i_112, hs_o_113, hs_f_113_0, hs_f_113_1, hs_f_113_2, hs_r_113_3, hs_t_113_3, hs_r_113_4, hs_t_113_4, hs_r_113_5, hs_t_113_5, hs_r_113_6, hs_t_113_6, hs_r_113_7, hs_t_113_7, hs_r_113_8, hs_t_113_8, hs_r_113_9, hs_t_113_9, hs_r_113_10, hs_t_113_10, hs_r_113_11, hs_t_113_11, hs_f_113_12, hs_f_113_13, hs_f_113_14, hs_r_113_15, hs_t_113_15, hs_f_113_16, hs_r_113_17, hs_t_113_17, hs_r_113_18, hs_t_113_18, hs_r_113_19, hs_t_113_19, hs_r_113_20, hs_t_113_20, hs_f_113_21, hs_f_113_22, hs_f_113_23, hs_r_113_24, hs_t_113_24, hs_f_113_25, hs_r_113_26, hs_t_113_26, hs_f_113_27, hs_i_114, hs_i_115, hs_i_116, hs_i_117, hs_i_118, hs_i_119, hs_i_120, hs_i_121, hs_i_122, hs_i_123, hs_i_124, hs_i_125, hs_i_126, hs_i_127, hs_i_128, hs_i_129]
  refine sx_keep hpH hx hpa _ (fun S1 a1 a2 a3 hp1 => ?_)
  simp only [true_and, sx_forgetAnswers]
  have rd : ∀ c j, (hd_wI (hd_wI (hd_wI S1 84 4 1) 88 9 1) 108 4 1).1 c j = if c = 108 ∧ j = 4 then 1 else if c = 88 ∧ j = 9 then 1 else if c = 84 ∧ j = 4 then 1 else S1.1 c j := fun c j => by
    rw [hd_wI1, hd_wI1, hd_wI1]
  have rc : ∀ c, c ≠ 84 → c ≠ 88 → c ≠ 108 → (hd_wI (hd_wI (hd_wI S1 84 4 1) 88 9 1) 108 4 1).1 c = S1.1 c := fun c h1 h2 h3 => by
    funext j
    rw [rd, if_neg (fun q => h3 q.1), if_neg (fun q => h2 q.1), if_neg (fun q => h1 q.1)]
  refine hk _ ⟨fun c hc => ?_, a2, a3, fun k hk4 => ?_, fun k hk9 => ?_, fun k hk4 => ?_, ?_, ?_, ?_⟩ ?_
  · rw [rc c (by omega) (by omega) (by omega), a1 c (by omega)]
  · rw [rd, if_neg (fun q => absurd q.1 (by decide)), if_neg (fun q => absurd q.1 (by decide)), if_neg (fun q => hk4 q.2), a1 84 (by decide)]
  · rw [rd, if_neg (fun q => absurd q.1 (by decide)), if_neg (fun q => hk9 q.2), if_neg (fun q => absurd q.1 (by decide)), a1 88 (by decide)]
  · rw [rd, if_neg (fun q => hk4 q.2), if_neg (fun q => absurd q.1 (by decide)), if_neg (fun q => absurd q.1 (by decide)), a1 108 (by decide)]
  · rw [rd, if_neg (fun q => absurd q.1 (by decide)), if_neg (fun q => absurd q.1 (by decide)), if_pos ⟨rfl, rfl⟩]
  · rw [rd, if_neg (fun q => absurd q.1 (by decide)), if_pos ⟨rfl, rfl⟩]
  · rw [rd, if_pos ⟨rfl, rfl⟩]
  · obtain ⟨b1, b2, g, b3, b4, b5⟩ := hp1
    refine ⟨b1, by rw [rc 82 (by decide) (by decide) (by decide)]; exact b2, g, b3, b4, fun i hi => hx_P_cell (fun k hk8 => rc _ ?_ ?_ ?_) (b5 i hi)⟩
    · have := (b3 i (by omega)).2.2
      omega
    · have := (b3 i (by omega)).2.2
      omega
    · have := (b3 i (by omega)).2.2
      omega
