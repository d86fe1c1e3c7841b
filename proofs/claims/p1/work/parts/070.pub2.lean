/-! worst, least, many, best, number: the class -/
def hp_wo (p : hp_P) (k s : Nat) : Int32 := if k = 5 then (if hb_pc s 8 < 2 then -1 else hp_oi (hp_bm (fun h => s.testBit h) (fun h => hp_sa p (hb_clr s h) (hp_T p)) (hp_H p))) else (if s = 0 then -1 else hp_oi (hp_bm (fun h => !s.testBit h) (fun h => hp_tk p s h (hp_T p)) (hp_H p)))
set_option maxHeartbeats 4000000 in
theorem sx_worst {S : hd_S} {p : hp_P} (hp : hp_ok p) (hx : hx_P 1 S p) (hr : hx_rs S p) {hand : Nat} (hh : hand < 2 ^ hp_H p) (hs : S.1 0 8 = nI hand) (kind : Int32) (post : Option hd_V → hd_S → Prop)
    (hk1 : ∀ k, (k = 5 ∨ k = 6) → kind = nI k → ∀ S2, hd_eqx [84, 85, 86, 87] S S2 → hx_rs S2 p → post (some (hd_vI (hp_wo p k hand))) S2)
    (hk2 : ¬ (kind = 5 ∨ kind = 6) → post (some (hd_vI (-3))) S) : wm_X8_worst [hd_vR 0, hd_vI kind] S post := by
  simp only [wm_X8_worst, wo_X8_worst, hd_mth, hd_rho0, hd_args, hd_wide, hd_sQ, hd_s0, hd_sI, hd_sJ, hd_sR, hd_sP, hd_sF, hd_sZ, hd_sG, hd_sA, hd_sL, hd_sB, hd_sO, hd_sN, hd_sD, hd_sW, hd_sE, hd_sRI, hd_sRZ, hd_sRJ, hd_sRR, hd_sRV, hd_sSw, hd_sw, hd_sCI, hd_sCL, hd_iK, hd_iL, hd_iU, hd_iB, hd_iD, hd_iJ, hd_iG, hd_iA, hd_iQ, hd_iC, hd_iN, hd_iE, hd_jK, hd_jL, hd_jU, hd_jB, hd_jD, hd_jH, hd_jI, hd_jA, hd_jQ, hd_jN, hd_rL, hd_rG, hd_rA, hd_rN, hd_cI, hd_c0, hd_cJ, hd_cX, hd_cA, hd_cO, hd_v0, hd_pI, hd_pJ, hd_pR, hd_nV, hd_nS, hd_get, hd_st, hd_stW, hd_cut, List.replicate, List.length_cons, List.length_nil, List.nil_append, List.cons_append, Nat.reduceAdd, Nat.reduceSub, Nat.reduceLeDiff, true_and, and_true, if_true, if_false, Bool.false_eq_true, List.append_nil, hs_o_0, hs_r_0_0, hs_t_0_0, hs_r_0_1, hs_t_0_1, hs_r_0_2, hs_t_0_2, hs_r_0_3, hs_t_0_3, hs_r_0_4, hs_t_0_4, hs_r_0_5, hs_t_0_5, hs_r_0_6, hs_t_0_6, hs_r_0_7, hs_t_0_7, hs_f_0_8, hs_o_1, hs_f_1_0, hs_f_1_1, hs_r_1_2, hs_t_1_2, hs_r_1_3, hs_t_1_3, hs_r_1_4, hs_t_1_4, hs_r_1_5, hs_t_1_5, hs_r_1_6, hs_t_1_6, hs_r_1_7, hs_t_1_7, hs_r_1_8, hs_t_1_8, hs_r_1_9, hs_t_1_9, hs_i_2, hs_i_3, hs_i_4, hs_i_5, hs_i_6, hs_i_7, hs_i_8, hs_i_9, hs_o_82, hs_r_82_0, hs_t_82_0, hs_f_82_1, hs_i_83, hs_o_84, hs_r_84_0, hs_t_84_0, hs_r_84_1, hs_t_84_1, hs_r_84_2, hs_t_84_2, hs_r_84_3, hs_t_84_3, hs_f_84_4, hs_i_85, hs_i_86, hs_i_87, hs_o_88, hs_r_88_0, hs_t_88_0, hs_r_88_1, hs_t_88_1, hs_r_88_2, hs_t_88_2, hs_r_88_3, hs_t_88_3, hs_r_88_4, hs_t_88_4, hs_r_88_5, hs_t_88_5, hs_r_88_6, hs_t_88_6, hs_r_88_7, hs_t_88_7, hs_f_88_8, hs_f_88_9, hs_i_89, hs_i_90, hs_i_91, hs_i_92, hs_i_93, hs_i_94, hs_i_95, hs_i_96, hs_i_97, hs_i_98, hs_i_99, hs_i_100, hs_i_101, hs_i_102, hs_o_103, hs_r_103_0, hs_t_103_0, hs_r_103_1, hs_t_103_1, hs_r_103_2, hs_t_103_2, hs_r_103_3, hs_t_103_3, hs_f_103_4, hs_i_104, hs_o_105, hs_r_105_0, hs_t_105_0, hs_r_105_1, hs_t_105_1, hs_r_105_2, hs_t_105_2, hs_i_106, hs_i_107, hs_o_108, hs_r_108_0, hs_t_108_0, hs_r_108_1, hs_t_108_1, hs_r_108_2, hs_t_108_2, hs_r_108_3, hs_t_108_3, hs_f_108_4, hs_i_109, hs_i_110, hs_o_111, hs_r_111_0, hs_t_111_0, hs_r_111_1, hs_t_111_1, hs_f_111_2, hs_f_111_3, hs_f_111_4, hs_i_112, hs_o_113, hs_f_113_0, hs_f_113_1, hs_f_113_2, hs_r_113_3, hs_t_113_3, hs_r_113_4, hs_t_113_4, hs_r_113_5, hs_t_113_5, hs_r_113_6, hs_t_113_6, hs_r_113_7, hs_t_113_7, hs_r_113_8, hs_t_113_8, hs_r_113_9, hs_t_113_9, hs_r_113_10, hs_t_113_10, hs_r_113_11, hs_t_113_11, hs_f_113_12, hs_f_113_13, hs_f_113_14, hs_r_113_15, hs_t_113_15, hs_f_113_16, hs_r_113_17, hs_t_113_17, hs_r_113_18, hs_t_113_18, hs_r_113_19, hs_t_113_19, hs_r_113_20, hs_t_113_20, hs_f_113_21, hs_f_113_22, hs_f_113_23, hs_r_113_24, hs_t_113_24, hs_f_113_25, hs_r_113_26, hs_t_113_26, hs_f_113_27, hs_i_114, hs_i_115, hs_i_116, hs_i_117, hs_i_118, hs_i_119, hs_i_120, hs_i_121, hs_i_122, hs_i_123, hs_i_124, hs_i_125, hs_i_126, hs_i_127, hs_i_128, hs_i_129, hd_dn1, decide_eq_true_eq]
  by_cases h5 : kind = 5
  · simp only [h5, not_true, if_false, if_true]
    refine sx_fresh hp hx hr _ (fun S2 he hr2 hR2 => ?_)
    have hs2 : S2.1 0 8 = nI hand := by rw [he.1 0 (by decide)]; exact hs
    have hx2 : hx_P 1 S2 p := hx_P_eqx he (by decide) hx
    simp only [hs_o_103, hs2, true_and]
    have hk := hk1 5 (Or.inl rfl) h5 S2 he hr2
    simp only [hp_wo, if_true] at hk
    refine sx_worstToClose hp hx2 hR2 hh _ (fun q => ?_) (fun q => ?_)
    · rw [if_pos q] at hk
      exact hk
    · rw [if_neg (by omega)] at hk
      exact hk
  · by_cases h6 : kind = 6
    · simp only [h6, not_true, if_false, if_true, show ¬ ((6 : Int32) = 5) by decide, not_false_iff]
      refine sx_fresh hp hx hr _ (fun S2 he hr2 hR2 => ?_)
      have hs2 : S2.1 0 8 = nI hand := by rw [he.1 0 (by decide)]; exact hs
      have hx2 : hx_P 1 S2 p := hx_P_eqx he (by decide) hx
      simp only [hs_o_103, hs2, true_and]
      have hk := hk1 6 (Or.inr rfl) h6 S2 he hr2
      simp only [hp_wo, show ¬ ((6 : Nat) = 5) by decide, if_false] at hk
      refine sx_worstRival hp hx2 hR2 hh _ (fun q => ?_) (fun q => ?_)
      · rw [if_pos q] at hk
        exact hk
      · rw [if_neg q] at hk
        exact hk
    · simp only [h5, h6, not_false_iff, if_true]
      exact hk2 (by rintro (q | q); exact h5 q; exact h6 q)
/-- the state after the search: its table and its least -/
def hx_sk (S : hd_S) (p : hp_P) (k : Nat) (kk : Int32) : Prop := S.1 103 4 = hp_oi (hp_lo (hp_q p k kk) (2 ^ hp_H p)) ∧ ∀ s, s < 2 ^ hp_H p → S.1 104 s = hp_oi (hp_q p k kk s)
theorem sx_seek {S : hd_S} {p : hp_P} {Q : hd_S → Prop} (hp : hp_ok p) (hx : hx_P 1 S p) (hr : hx_rs S p) (hQ : Q S) (hF : hx_FS p Q) (hQs : hx_QS Q) {k : Nat} (kk : Int32) (hk7 : k < 7) {post : Option hd_V → hd_S → Prop}
    (hk : ∀ S2, hd_eqv hx_cs S S2 → hx_rs S2 p → Q S2 → hx_sk S2 p k kk → post none S2) : ∀ S1, hd_eqx [84, 85, 86, 87] S S1 → hx_rs S1 p → hx_R S1 p → wm_X1_seekBest [hd_vR 103, hd_vI (nI k), hd_vI kk] S1 post := by
  intro S1 he hr1 hR1
  have hx1 : hx_P 1 S1 p := hx_P_eqx he (by decide) hx
  refine sx_seekBest hp hx1 hR1 (hx_QS_1 hQs he hQ) hF (hx_QS_2 hQs) kk hk7 post (fun S2 he2 hQ2 h1 h2 => ?_)
  exact hk S2 (hd_eqv_tr (hd_eqv_sub (hd_eqv_x he) (by decide)) (hd_eqv_sub he2 (by decide))) (hx_rs_eqv he2 (by decide) (by decide) (by decide) (by decide) hr1) hQ2 ⟨h1, h2⟩
set_option maxHeartbeats 4000000 in
theorem sx_least {S : hd_S} {p : hp_P} {Q : hd_S → Prop} (hp : hp_ok p) (hx : hx_P 1 S p) (hr : hx_rs S p) (hQ : Q S) (hF : hx_FS p Q) (hQs : hx_QS Q) (kind kk : Int32) (post : Option hd_V → hd_S → Prop)
    (hk1 : ∀ k, k < 7 → kind = nI k → (-1 ≤ kk ∧ kk ≤ 7) → ∀ S2, hd_eqv hx_cs S S2 → hx_rs S2 p → Q S2 → post (some (hd_vI (hp_oi (hp_lo (hp_q p k kk) (2 ^ hp_H p))))) S2)
    (hk2 : ¬ ((0 ≤ kind ∧ kind ≤ 6) ∧ (-1 ≤ kk ∧ kk ≤ 7)) → post (some (hd_vI (-3))) S) : wm_X8_least [hd_vR 0, hd_vI kind, hd_vI kk] S post := by
  simp only [wm_X8_least, wo_X8_least, hd_mth, hd_rho0, hd_args, hd_wide, hd_sQ, hd_s0, hd_sI, hd_sJ, hd_sR, hd_sP, hd_sF, hd_sZ, hd_sG, hd_sA, hd_sL, hd_sB, hd_sO, hd_sN, hd_sD, hd_sW, hd_sE, hd_sRI, hd_sRZ, hd_sRJ, hd_sRR, hd_sRV, hd_sSw, hd_sw, hd_sCI, hd_sCL, hd_iK, hd_iL, hd_iU, hd_iB, hd_iD, hd_iJ, hd_iG, hd_iA, hd_iQ, hd_iC, hd_iN, hd_iE, hd_jK, hd_jL, hd_jU, hd_jB, hd_jD, hd_jH, hd_jI, hd_jA, hd_jQ, hd_jN, hd_rL, hd_rG, hd_rA, hd_rN, hd_cI, hd_c0, hd_cJ, hd_cX, hd_cA, hd_cO, hd_v0, hd_pI, hd_pJ, hd_pR, hd_nV, hd_nS, hd_get, hd_st, hd_stW, hd_cut, List.replicate, List.length_cons, List.length_nil, List.nil_append, List.cons_append, Nat.reduceAdd, Nat.reduceSub, Nat.reduceLeDiff, true_and, and_true, if_true, if_false, Bool.false_eq_true, List.append_nil, hs_o_0, hs_r_0_0, hs_t_0_0, hs_r_0_1, hs_t_0_1, hs_r_0_2, hs_t_0_2, hs_r_0_3, hs_t_0_3, hs_r_0_4, hs_t_0_4, hs_r_0_5, hs_t_0_5, hs_r_0_6, hs_t_0_6, hs_r_0_7, hs_t_0_7, hs_f_0_8, hs_o_1, hs_f_1_0, hs_f_1_1, hs_r_1_2, hs_t_1_2, hs_r_1_3, hs_t_1_3, hs_r_1_4, hs_t_1_4, hs_r_1_5, hs_t_1_5, hs_r_1_6, hs_t_1_6, hs_r_1_7, hs_t_1_7, hs_r_1_8, hs_t_1_8, hs_r_1_9, hs_t_1_9, hs_i_2, hs_i_3, hs_i_4, hs_i_5, hs_i_6, hs_i_7, hs_i_8, hs_i_9, hs_o_82, hs_r_82_0, hs_t_82_0, hs_f_82_1, hs_i_83, hs_o_84, hs_r_84_0, hs_t_84_0, hs_r_84_1, hs_t_84_1, hs_r_84_2, hs_t_84_2, hs_r_84_3, hs_t_84_3, hs_f_84_4, hs_i_85, hs_i_86, hs_i_87, hs_o_88, hs_r_88_0, hs_t_88_0, hs_r_88_1, hs_t_88_1, hs_r_88_2, hs_t_88_2, hs_r_88_3, hs_t_88_3, hs_r_88_4, hs_t_88_4, hs_r_88_5, hs_t_88_5, hs_r_88_6, hs_t_88_6, hs_r_88_7, hs_t_88_7, hs_f_88_8, hs_f_88_9, hs_i_89, hs_i_90, hs_i_91, hs_i_92, hs_i_93, hs_i_94, hs_i_95, hs_i_96, hs_i_97, hs_i_98, hs_i_99, hs_i_100, hs_i_101, hs_i_102, hs_o_103, hs_r_103_0, hs_t_103_0, hs_r_103_1, hs_t_103_1, hs_r_103_2, hs_t_103_2, hs_r_103_3, hs_t_103_3, hs_f_103_4, hs_i_104, hs_o_105, hs_r_105_0, hs_t_105_0, hs_r_105_1, hs_t_105_1, hs_r_105_2, hs_t_105_2, hs_i_106, hs_i_107, hs_o_108, hs_r_108_0, hs_t_108_0, hs_r_108_1, hs_t_108_1, hs_r_108_2, hs_t_108_2, hs_r_108_3, hs_t_108_3, hs_f_108_4, hs_i_109, hs_i_110, hs_o_111, hs_r_111_0, hs_t_111_0, hs_r_111_1, hs_t_111_1, hs_f_111_2, hs_f_111_3, hs_f_111_4, hs_i_112, hs_o_113, hs_f_113_0, hs_f_113_1, hs_f_113_2, hs_r_113_3, hs_t_113_3, hs_r_113_4, hs_t_113_4, hs_r_113_5, hs_t_113_5, hs_r_113_6, hs_t_113_6, hs_r_113_7, hs_t_113_7, hs_r_113_8, hs_t_113_8, hs_r_113_9, hs_t_113_9, hs_r_113_10, hs_t_113_10, hs_r_113_11, hs_t_113_11, hs_f_113_12, hs_f_113_13, hs_f_113_14, hs_r_113_15, hs_t_113_15, hs_f_113_16, hs_r_113_17, hs_t_113_17, hs_r_113_18, hs_t_113_18, hs_r_113_19, hs_t_113_19, hs_r_113_20, hs_t_113_20, hs_f_113_21, hs_f_113_22, hs_f_113_23, hs_r_113_24, hs_t_113_24, hs_f_113_25, hs_r_113_26, hs_t_113_26, hs_f_113_27, hs_i_114, hs_i_115, hs_i_116, hs_i_117, hs_i_118, hs_i_119, hs_i_120, hs_i_121, hs_i_122, hs_i_123, hs_i_124, hs_i_125, hs_i_126, hs_i_127, hs_i_128, hs_i_129, sx_isQuestion, hd_t01, hd_dn1, decide_eq_true_eq]
  by_cases hq : (0 ≤ kind ∧ kind ≤ 6) ∧ (-1 ≤ kk ∧ kk ≤ 7)
  · obtain ⟨k, hk, rfl⟩ := hb_rng (m := 6) (by decide) hq.1.1 hq.1.2
    simp only [hq, and_self, not_true, if_false]
    refine sx_fresh hp hx hr _ (fun S1 he hr1 hR1 => ?_)
    simp only [hs_o_103, true_and]
    refine sx_seek hp hx hr hQ hF hQs kk (show k < 7 by omega) (fun S2 he2 hr2 hQ2 hsk => ?_) S1 he hr1 hR1
    simp only [true_and, hsk.1]
    exact hk1 k (by omega) rfl hq.2 S2 he2 hr2 hQ2
  · simp only [hq, if_false, not_false_iff, not_true, if_true]
    exact hk2 hq
theorem hp_ct_lt {q : Nat → Bool} {p : hp_P} (hp : hp_ok p) : fb_ct q (2 ^ hp_H p) ≤ 128 := Nat.le_trans (fb_ct_le _ _) (Nat.pow_le_pow_right (n := 2) (by decide) hp.2.1)
set_option maxHeartbeats 4000000 in
theorem sx_many {S : hd_S} {p : hp_P} {Q : hd_S → Prop} (hp : hp_ok p) (hx : hx_P 1 S p) (hr : hx_rs S p) (hQ : Q S) (hF : hx_FS p Q) (hQs : hx_QS Q) (kind kk : Int32) (post : Option hd_V → hd_S → Prop)
    (hk1 : ∀ k, k < 7 → kind = nI k → (-1 ≤ kk ∧ kk ≤ 7) → ∀ S2, hd_eqv hx_cs S S2 → hx_rs S2 p → Q S2 → post (some (hd_vI (nI (fb_ct (hp_ib (hp_q p k kk) (hp_lo (hp_q p k kk) (2 ^ hp_H p))) (2 ^ hp_H p))))) S2)
    (hk2 : ¬ ((0 ≤ kind ∧ kind ≤ 6) ∧ (-1 ≤ kk ∧ kk ≤ 7)) → post (some (hd_vI (-3))) S) : wm_X8_many [hd_vR 0, hd_vI kind, hd_vI kk] S post := by
  have hH : hp_H p ≤ 7 := hp.2.1
  have h128 : 2 ^ hp_H p ≤ 128 := Nat.pow_le_pow_right (n := 2) (by decide) hH
  have hpos : 0 < 2 ^ hp_H p := Nat.two_pow_pos _
  simp only [wm_X8_many, wo_X8_many, hd_mth, hd_rho0, hd_args, hd_wide, hd_sQ, hd_s0, hd_sI, hd_sJ, hd_sR, hd_sP, hd_sF, hd_sZ, hd_sG, hd_sA, hd_sL, hd_sB, hd_sO, hd_sN, hd_sD, hd_sW, hd_sE, hd_sRI, hd_sRZ, hd_sRJ, hd_sRR, hd_sRV, hd_sSw, hd_sw, hd_sCI, hd_sCL, hd_iK, hd_iL, hd_iU, hd_iB, hd_iD, hd_iJ, hd_iG, hd_iA, hd_iQ, hd_iC, hd_iN, hd_iE, hd_jK, hd_jL, hd_jU, hd_jB, hd_jD, hd_jH, hd_jI, hd_jA, hd_jQ, hd_jN, hd_rL, hd_rG, hd_rA, hd_rN, hd_cI, hd_c0, hd_cJ, hd_cX, hd_cA, hd_cO, hd_v0, hd_pI, hd_pJ, hd_pR, hd_nV, hd_nS, hd_get, hd_st, hd_stW, hd_cut, List.replicate, List.length_cons, List.length_nil, List.nil_append, List.cons_append, Nat.reduceAdd, Nat.reduceSub, Nat.reduceLeDiff, true_and, and_true, if_true, if_false, Bool.false_eq_true, List.append_nil, hs_o_0, hs_r_0_0, hs_t_0_0, hs_r_0_1, hs_t_0_1, hs_r_0_2, hs_t_0_2, hs_r_0_3, hs_t_0_3, hs_r_0_4, hs_t_0_4, hs_r_0_5, hs_t_0_5, hs_r_0_6, hs_t_0_6, hs_r_0_7, hs_t_0_7, hs_f_0_8, hs_o_1, hs_f_1_0, hs_f_1_1, hs_r_1_2, hs_t_1_2, hs_r_1_3, hs_t_1_3, hs_r_1_4, hs_t_1_4, hs_r_1_5, hs_t_1_5, hs_r_1_6, hs_t_1_6, hs_r_1_7, hs_t_1_7, hs_r_1_8, hs_t_1_8, hs_r_1_9, hs_t_1_9, hs_i_2, hs_i_3, hs_i_4, hs_i_5, hs_i_6, hs_i_7, hs_i_8, hs_i_9, hs_o_82, hs_r_82_0, hs_t_82_0, hs_f_82_1, hs_i_83, hs_o_84, hs_r_84_0, hs_t_84_0, hs_r_84_1, hs_t_84_1, hs_r_84_2, hs_t_84_2, hs_r_84_3, hs_t_84_3, hs_f_84_4, hs_i_85, hs_i_86, hs_i_87, hs_o_88, hs_r_88_0, hs_t_88_0, hs_r_88_1, hs_t_88_1, hs_r_88_2, hs_t_88_2, hs_r_88_3, hs_t_88_3, hs_r_88_4, hs_t_88_4, hs_r_88_5, hs_t_88_5, hs_r_88_6, hs_t_88_6, hs_r_88_7, hs_t_88_7, hs_f_88_8, hs_f_88_9, hs_i_89, hs_i_90, hs_i_91, hs_i_92, hs_i_93, hs_i_94, hs_i_95, hs_i_96, hs_i_97, hs_i_98, hs_i_99, hs_i_100, hs_i_101, hs_i_102, hs_o_103, hs_r_103_0, hs_t_103_0, hs_r_103_1, hs_t_103_1, hs_r_103_2, hs_t_103_2, hs_r_103_3, hs_t_103_3, hs_f_103_4, hs_i_104, hs_o_105, hs_r_105_0, hs_t_105_0, hs_r_105_1, hs_t_105_1, hs_r_105_2, hs_t_105_2, hs_i_106, hs_i_107, hs_o_108, hs_r_108_0, hs_t_108_0, hs_r_108_1, hs_t_108_1, hs_r_108_2, hs_t_108_2, hs_r_108_3, hs_t_108_3, hs_f_108_4, hs_i_109, hs_i_110, hs_o_111, hs_r_111_0, hs_t_111_0, hs_r_111_1, hs_t_111_1, hs_f_111_2, hs_f_111_3, hs_f_111_4, hs_i_112, hs_o_113, hs_f_113_0, hs_f_113_1, hs_f_113_2, hs_r_113_3, hs_t_113_3, hs_r_113_4, hs_t_113_4, hs_r_113_5, hs_t_113_5, hs_r_113_6, hs_t_113_6, hs_r_113_7, hs_t_113_7, hs_r_113_8, hs_t_113_8, hs_r_113_9, hs_t_113_9, hs_r_113_10, hs_t_113_10, hs_r_113_11, hs_t_113_11, hs_f_113_12, hs_f_113_13, hs_f_113_14, hs_r_113_15, hs_t_113_15, hs_f_113_16, hs_r_113_17, hs_t_113_17, hs_r_113_18, hs_t_113_18, hs_r_113_19, hs_t_113_19, hs_r_113_20, hs_t_113_20, hs_f_113_21, hs_f_113_22, hs_f_113_23, hs_r_113_24, hs_t_113_24, hs_f_113_25, hs_r_113_26, hs_t_113_26, hs_f_113_27, hs_i_114, hs_i_115, hs_i_116, hs_i_117, hs_i_118, hs_i_119, hs_i_120, hs_i_121, hs_i_122, hs_i_123, hs_i_124, hs_i_125, hs_i_126, hs_i_127, hs_i_128, hs_i_129, sx_isQuestion, hd_t01, hd_dn1, decide_eq_true_eq]
  by_cases hq : (0 ≤ kind ∧ kind ≤ 6) ∧ (-1 ≤ kk ∧ kk ≤ 7)
  · obtain ⟨k, hk, rfl⟩ := hb_rng (m := 6) (by decide) hq.1.1 hq.1.2
    simp only [hq, and_self, not_true, if_false]
    refine sx_fresh hp hx hr _ (fun S1 he hr1 hR1 => ?_)
    simp only [hs_o_103, true_and]
    refine sx_seek hp hx hr hQ hF hQs kk (show k < 7 by omega) (fun S2 he2 hr2 hQ2 hsk => ?_) S1 he hr1 hR1
    have hx2 : hx_P 1 S2 p := hx_P_eqv he2 (by decide) hx
    simp only [true_and, sp_X5_everyHall, hx2.2.1, hb_all (show hp_H p < 31 by omega)]
    refine sx_bestUpTo (c := hp_q p k kk) (fun s v h => hp_q_lt hp h) (hp_lo_lt (fun s v h => hp_q_lt hp h) _) hsk.1 (show 2 ^ hp_H p - 1 < 128 by omega) (fun s hs => hsk.2 s (by omega)) _ ?_
    rw [show 2 ^ hp_H p - 1 + 1 = 2 ^ hp_H p by omega]
    exact hk1 k (by omega) rfl hq.2 S2 he2 hr2 hQ2
  · simp only [hq, if_false, not_false_iff, not_true, if_true]
    exact hk2 hq
set_option maxHeartbeats 4000000 in
theorem sx_best {S : hd_S} {p : hp_P} {Q : hd_S → Prop} (hp : hp_ok p) (hx : hx_P 1 S p) (hr : hx_rs S p) (hQ : Q S) (hF : hx_FS p Q) (hQs : hx_QS Q) (kind kk ii : Int32) (post : Option hd_V → hd_S → Prop)
    (hk1 : ∀ k, k < 7 → kind = nI k → (-1 ≤ kk ∧ kk ≤ 7) → ¬ ii < 0 → ∀ S2, hd_eqv hx_cs S S2 → hx_rs S2 p → Q S2 → hp_at (hp_q p k kk) (hp_lo (hp_q p k kk) (2 ^ hp_H p)) ii (2 ^ hp_H p) = none → post (some (hd_vI (-1))) S2)
    (hk3 : ∀ k, k < 7 → kind = nI k → (-1 ≤ kk ∧ kk ≤ 7) → ¬ ii < 0 → ∀ S2, hd_eqv hx_cs S S2 → hx_rs S2 p → Q S2 → ∀ s, hp_at (hp_q p k kk) (hp_lo (hp_q p k kk) (2 ^ hp_H p)) ii (2 ^ hp_H p) = some s → post (some (hd_vI (nI s))) (hd_wI S2 0 8 (nI s)))
    (hk2 : ¬ (((0 ≤ kind ∧ kind ≤ 6) ∧ (-1 ≤ kk ∧ kk ≤ 7)) ∧ ¬ ii < 0) → post (some (hd_vI (-3))) S) : wm_X8_best [hd_vR 0, hd_vI kind, hd_vI kk, hd_vI ii] S post := by
  have hH : hp_H p ≤ 7 := hp.2.1
  have h128 : 2 ^ hp_H p ≤ 128 := Nat.pow_le_pow_right (n := 2) (by decide) hH
  simp only [wm_X8_best, wo_X8_best, hd_mth, hd_rho0, hd_args, hd_wide, hd_sQ, hd_s0, hd_sI, hd_sJ, hd_sR, hd_sP, hd_sF, hd_sZ, hd_sG, hd_sA, hd_sL, hd_sB, hd_sO, hd_sN, hd_sD, hd_sW, hd_sE, hd_sRI, hd_sRZ, hd_sRJ, hd_sRR, hd_sRV, hd_sSw, hd_sw, hd_sCI, hd_sCL, hd_iK, hd_iL, hd_iU, hd_iB, hd_iD, hd_iJ, hd_iG, hd_iA, hd_iQ, hd_iC, hd_iN, hd_iE, hd_jK, hd_jL, hd_jU, hd_jB, hd_jD, hd_jH, hd_jI, hd_jA, hd_jQ, hd_jN, hd_rL, hd_rG, hd_rA, hd_rN, hd_cI, hd_c0, hd_cJ, hd_cX, hd_cA, hd_cO, hd_v0, hd_pI, hd_pJ, hd_pR, hd_nV, hd_nS, hd_get, hd_st, hd_stW, hd_cut, List.replicate, List.length_cons, List.length_nil, List.nil_append, List.cons_append, Nat.reduceAdd, Nat.reduceSub, Nat.reduceLeDiff, true_and, and_true, if_true, if_false, Bool.false_eq_true, List.append_nil, hs_o_0, hs_r_0_0, hs_t_0_0, hs_r_0_1, hs_t_0_1, hs_r_0_2, hs_t_0_2, hs_r_0_3, hs_t_0_3, hs_r_0_4, hs_t_0_4, hs_r_0_5, hs_t_0_5, hs_r_0_6, hs_t_0_6, hs_r_0_7, hs_t_0_7, hs_f_0_8, hs_o_1, hs_f_1_0, hs_f_1_1, hs_r_1_2, hs_t_1_2, hs_r_1_3, hs_t_1_3, hs_r_1_4, hs_t_1_4, hs_r_1_5, hs_t_1_5, hs_r_1_6, hs_t_1_6, hs_r_1_7, hs_t_1_7, hs_r_1_8, hs_t_1_8, hs_r_1_9, hs_t_1_9, hs_i_2, hs_i_3, hs_i_4, hs_i_5, hs_i_6, hs_i_7, hs_i_8, hs_i_9, hs_o_82, hs_r_82_0, hs_t_82_0, hs_f_82_1, hs_i_83, hs_o_84, hs_r_84_0, hs_t_84_0, hs_r_84_1, hs_t_84_1, hs_r_84_2, hs_t_84_2, hs_r_84_3, hs_t_84_3, hs_f_84_4, hs_i_85, hs_i_86, hs_i_87, hs_o_88, hs_r_88_0, hs_t_88_0, hs_r_88_1, hs_t_88_1, hs_r_88_2, hs_t_88_2, hs_r_88_3, hs_t_88_3, hs_r_88_4, hs_t_88_4, hs_r_88_5, hs_t_88_5, hs_r_88_6, hs_t_88_6, hs_r_88_7, hs_t_88_7, hs_f_88_8, hs_f_88_9, hs_i_89, hs_i_90, hs_i_91, hs_i_92, hs_i_93, hs_i_94, hs_i_95, hs_i_96, hs_i_97, hs_i_98, hs_i_99, hs_i_100, hs_i_101, hs_i_102, hs_o_103, hs_r_103_0, hs_t_103_0, hs_r_103_1, hs_t_103_1, hs_r_103_2, hs_t_103_2, hs_r_103_3, hs_t_103_3, hs_f_103_4, hs_i_104, hs_o_105, hs_r_105_0, hs_t_105_0, hs_r_105_1, hs_t_105_1, hs_r_105_2, hs_t_105_2, hs_i_106, hs_i_107, hs_o_108, hs_r_108_0, hs_t_108_0, hs_r_108_1, hs_t_108_1, hs_r_108_2, hs_t_108_2, hs_r_108_3, hs_t_108_3, hs_f_108_4, hs_i_109, hs_i_110, hs_o_111, hs_r_111_0, hs_t_111_0, hs_r_111_1, hs_t_111_1, hs_f_111_2, hs_f_111_3, hs_f_111_4, hs_i_112, hs_o_113, hs_f_113_0, hs_f_113_1, hs_f_113_2, hs_r_113_3, hs_t_113_3, hs_r_113_4, hs_t_113_4, hs_r_113_5, hs_t_113_5, hs_r_113_6, hs_t_113_6, hs_r_113_7, hs_t_113_7, hs_r_113_8, hs_t_113_8, hs_r_113_9, hs_t_113_9, hs_r_113_10, hs_t_113_10, hs_r_113_11, hs_t_113_11, hs_f_113_12, hs_f_113_13, hs_f_113_14, hs_r_113_15, hs_t_113_15, hs_f_113_16, hs_r_113_17, hs_t_113_17, hs_r_113_18, hs_t_113_18, hs_r_113_19, hs_t_113_19, hs_r_113_20, hs_t_113_20, hs_f_113_21, hs_f_113_22, hs_f_113_23, hs_r_113_24, hs_t_113_24, hs_f_113_25, hs_r_113_26, hs_t_113_26, hs_f_113_27, hs_i_114, hs_i_115, hs_i_116, hs_i_117, hs_i_118, hs_i_119, hs_i_120, hs_i_121, hs_i_122, hs_i_123, hs_i_124, hs_i_125, hs_i_126, hs_i_127, hs_i_128, hs_i_129, sx_isQuestion, hd_t01, hd_dn1, decide_eq_true_eq]
  by_cases hq : (0 ≤ kind ∧ kind ≤ 6) ∧ (-1 ≤ kk ∧ kk ≤ 7)
  · by_cases hi : ii < 0
    · simp only [hq, and_self, not_true, if_false, hi, if_true]
      exact hk2 (fun q => q.2 hi)
    · obtain ⟨k, hk, rfl⟩ := hb_rng (m := 6) (by decide) hq.1.1 hq.1.2
      simp only [hq, and_self, not_true, if_false, hi]
      refine sx_fresh hp hx hr _ (fun S1 he hr1 hR1 => ?_)
      simp only [hs_o_103, true_and]
      refine sx_seek hp hx hr hQ hF hQs kk (show k < 7 by omega) (fun S2 he2 hr2 hQ2 hsk => ?_) S1 he hr1 hR1
      have hx2 : hx_P 1 S2 p := hx_P_eqv he2 (by decide) hx
      simp only [true_and]
      refine sx_bestAt hp hx2 (c := hp_q p k kk) (fun s v h => hp_q_lt hp h) (hp_lo_lt (fun s v h => hp_q_lt hp h) _) hsk.1 hsk.2 ii _ ?_
      cases ho : hp_at (hp_q p k kk) (hp_lo (hp_q p k kk) (2 ^ hp_H p)) ii (2 ^ hp_H p) with
      | none =>
        simp only [hp_oi, not_true, if_false]
        exact hk1 k (by omega) rfl hq.2 hi S2 he2 hr2 hQ2 ho
      | some s =>
        have hsl := hp_at_lt ho
        simp only [hp_oi, hp_ne1 (show s < 2 ^ 31 by omega), not_false_iff, if_true]
        exact hk3 k (by omega) rfl hq.2 hi S2 he2 hr2 hQ2 s ho
  · simp only [hq, not_false_iff, if_true]
    exact hk2 (fun q => hq q.1)
set_option maxHeartbeats 4000000 in
theorem sx_number {S : hd_S} {p : hp_P} {Q : hd_S → Prop} (hp : hp_ok p) (hx : hx_P 1 S p) (hr : hx_rs S p) (hQ : Q S) (hF : hx_FS p Q) (hQs : hx_QS Q) {hand : Nat} (hh : hand < 2 ^ hp_H p) (hs : S.1 0 8 = nI hand) (kind kk : Int32) (post : Option hd_V → hd_S → Prop)
    (hk1 : ∀ k, k < 7 → kind = nI k → (-1 ≤ kk ∧ kk ≤ 7) → ∀ S2, hd_eqv hx_cs S S2 → hx_rs S2 p → Q S2 → post (some (hd_vI (if hp_ib (hp_q p k kk) (hp_lo (hp_q p k kk) (2 ^ hp_H p)) hand = true then nI (fb_ct (hp_ib (hp_q p k kk) (hp_lo (hp_q p k kk) (2 ^ hp_H p))) hand) else -1))) S2)
    (hk2 : ¬ ((0 ≤ kind ∧ kind ≤ 6) ∧ (-1 ≤ kk ∧ kk ≤ 7)) → post (some (hd_vI (-3))) S) : wm_X8_number [hd_vR 0, hd_vI kind, hd_vI kk] S post := by
  have hH : hp_H p ≤ 7 := hp.2.1
  have h128 : 2 ^ hp_H p ≤ 128 := Nat.pow_le_pow_right (n := 2) (by decide) hH
  simp only [wm_X8_number, wo_X8_number, hd_mth, hd_rho0, hd_args, hd_wide, hd_sQ, hd_s0, hd_sI, hd_sJ, hd_sR, hd_sP, hd_sF, hd_sZ, hd_sG, hd_sA, hd_sL, hd_sB, hd_sO, hd_sN, hd_sD, hd_sW, hd_sE, hd_sRI, hd_sRZ, hd_sRJ, hd_sRR, hd_sRV, hd_sSw, hd_sw, hd_sCI, hd_sCL, hd_iK, hd_iL, hd_iU, hd_iB, hd_iD, hd_iJ, hd_iG, hd_iA, hd_iQ, hd_iC, hd_iN, hd_iE, hd_jK, hd_jL, hd_jU, hd_jB, hd_jD, hd_jH, hd_jI, hd_jA, hd_jQ, hd_jN, hd_rL, hd_rG, hd_rA, hd_rN, hd_cI, hd_c0, hd_cJ, hd_cX, hd_cA, hd_cO, hd_v0, hd_pI, hd_pJ, hd_pR, hd_nV, hd_nS, hd_get, hd_st, hd_stW, hd_cut, List.replicate, List.length_cons, List.length_nil, List.nil_append, List.cons_append, Nat.reduceAdd, Nat.reduceSub, Nat.reduceLeDiff, true_and, and_true, if_true, if_false, Bool.false_eq_true, List.append_nil, hs_o_0, hs_r_0_0, hs_t_0_0, hs_r_0_1, hs_t_0_1, hs_r_0_2, hs_t_0_2, hs_r_0_3, hs_t_0_3, hs_r_0_4, hs_t_0_4, hs_r_0_5, hs_t_0_5, hs_r_0_6, hs_t_0_6, hs_r_0_7, hs_t_0_7, hs_f_0_8, hs_o_1, hs_f_1_0, hs_f_1_1, hs_r_1_2, hs_t_1_2, hs_r_1_3, hs_t_1_3, hs_r_1_4, hs_t_1_4, hs_r_1_5, hs_t_1_5, hs_r_1_6, hs_t_1_6, hs_r_1_7, hs_t_1_7, hs_r_1_8, hs_t_1_8, hs_r_1_9, hs_t_1_9, hs_i_2, hs_i_3, hs_i_4, hs_i_5, hs_i_6, hs_i_7, hs_i_8, hs_i_9, hs_o_82, hs_r_82_0, hs_t_82_0, hs_f_82_1, hs_i_83, hs_o_84, hs_r_84_0, hs_t_84_0, hs_r_84_1, hs_t_84_1, hs_r_84_2, hs_t_84_2, hs_r_84_3, hs_t_84_3, hs_f_84_4, hs_i_85, hs_i_86, hs_i_87, hs_o_88, hs_r_88_0, hs_t_88_0, hs_r_88_1, hs_t_88_1, hs_r_88_2, hs_t_88_2, hs_r_88_3, hs_t_88_3, hs_r_88_4, hs_t_88_4, hs_r_88_5, hs_t_88_5, hs_r_88_6, hs_t_88_6, hs_r_88_7, hs_t_88_7, hs_f_88_8, hs_f_88_9, hs_i_89, hs_i_90, hs_i_91, hs_i_92, hs_i_93, hs_i_94, hs_i_95, hs_i_96, hs_i_97, hs_i_98, hs_i_99, hs_i_100, hs_i_101, hs_i_102, hs_o_103, hs_r_103_0, hs_t_103_0, hs_r_103_1, hs_t_103_1, hs_r_103_2, hs_t_103_2, hs_r_103_3, hs_t_103_3, hs_f_103_4, hs_i_104, hs_o_105, hs_r_105_0, hs_t_105_0, hs_r_105_1, hs_t_105_1, hs_r_105_2, hs_t_105_2, hs_i_106, hs_i_107, hs_o_108, hs_r_108_0, hs_t_108_0, hs_r_108_1, hs_t_108_1, hs_r_108_2, hs_t_108_2, hs_r_108_3, hs_t_108_3, hs_f_108_4, hs_i_109, hs_i_110, hs_o_111, hs_r_111_0, hs_t_111_0, hs_r_111_1, hs_t_111_1, hs_f_111_2, hs_f_111_3, hs_f_111_4, hs_i_112, hs_o_113, hs_f_113_0, hs_f_113_1, hs_f_113_2, hs_r_113_3, hs_t_113_3, hs_r_113_4, hs_t_113_4, hs_r_113_5, hs_t_113_5, hs_r_113_6, hs_t_113_6, hs_r_113_7, hs_t_113_7, hs_r_113_8, hs_t_113_8, hs_r_113_9, hs_t_113_9, hs_r_113_10, hs_t_113_10, hs_r_113_11, hs_t_113_11, hs_f_113_12, hs_f_113_13, hs_f_113_14, hs_r_113_15, hs_t_113_15, hs_f_113_16, hs_r_113_17, hs_t_113_17, hs_r_113_18, hs_t_113_18, hs_r_113_19, hs_t_113_19, hs_r_113_20, hs_t_113_20, hs_f_113_21, hs_f_113_22, hs_f_113_23, hs_r_113_24, hs_t_113_24, hs_f_113_25, hs_r_113_26, hs_t_113_26, hs_f_113_27, hs_i_114, hs_i_115, hs_i_116, hs_i_117, hs_i_118, hs_i_119, hs_i_120, hs_i_121, hs_i_122, hs_i_123, hs_i_124, hs_i_125, hs_i_126, hs_i_127, hs_i_128, hs_i_129, sx_isQuestion, hd_t01, hd_dn1, decide_eq_true_eq]
  by_cases hq : (0 ≤ kind ∧ kind ≤ 6) ∧ (-1 ≤ kk ∧ kk ≤ 7)
  · obtain ⟨k, hk, rfl⟩ := hb_rng (m := 6) (by decide) hq.1.1 hq.1.2
    simp only [hq, and_self, not_true, if_false]
    refine sx_fresh hp hx hr _ (fun S1 he hr1 hR1 => ?_)
    simp only [hs_o_103, true_and]
    refine sx_seek hp hx hr hQ hF hQs kk (show k < 7 by omega) (fun S2 he2 hr2 hQ2 hsk => ?_) S1 he hr1 hR1
    have hs2 : S2.1 0 8 = nI hand := by rw [he2.1 0 (by decide)]; exact hs
    have hk3 := hk1 k (by omega) rfl hq.2 S2 he2 hr2 hQ2
    simp only [true_and, hs2, sx_isBest (c := hp_q p k kk) (fun s v h => hp_q_lt hp h) (hp_lo_lt (fun s v h => hp_q_lt hp h) _) hsk.1 (show hand < 128 by omega) (hsk.2 hand hh), hd_t01, decide_eq_true_eq]
    by_cases hb : hp_ib (hp_q p k kk) (hp_lo (hp_q p k kk) (2 ^ hp_H p)) hand = true
    · simp only [hb, if_true] at hk3 ⊢
      refine sx_bestUpTo (c := hp_q p k kk) (fun s v h => hp_q_lt hp h) (hp_lo_lt (fun s v h => hp_q_lt hp h) _) hsk.1 (show hand < 128 by omega) (fun s hs => hsk.2 s (by omega)) _ ?_
      have e : nI (fb_ct (hp_ib (hp_q p k kk) (hp_lo (hp_q p k kk) (2 ^ hp_H p))) (hand + 1)) - 1 = nI (fb_ct (hp_ib (hp_q p k kk) (hp_lo (hp_q p k kk) (2 ^ hp_H p))) hand) := by
        rw [fb_ct_succ, if_pos hb, show (1 : Int32) = nI 1 from rfl, pk_sub (by omega)]
        rfl
      simp only [e]
      exact hk3
    · simp only [hb, if_false, Bool.false_eq_true] at hk3 ⊢
      exact hk3
  · simp only [hq, if_false, not_false_iff, not_true, if_true]
    exact hk2 hq
