/-! the simple calls, both sides -/
def hx_sm : List Nat := [0, 103, 104, 105, 106, 107, 110, 111, 112]
/-- what is left of the invariant when only small cells change -/
theorem hx_I_sm {S S2 : hd_S} {p : hp_P} {n : Nat} {q : Nat → hp_P} {hand hand2 : Nat} {cl cl2 : Nat → Nat} (hI : hx_I S p n q hand cl) (he : hd_eqv hx_sm S S2) (h1 : hand2 < 2 ^ hp_H p) (h2 : S2.1 0 8 = nI hand2) (h3 : ∀ t, cl2 t ≤ 1000000) (h4 : ∀ t, hp_T p ≤ t → cl2 t = 0) (h5 : ∀ t, t < 8 → S2.1 106 t = nI (cl2 t)) : hx_I S2 p n q hand2 cl2 ∧ hx_fr S S2 := by
  obtain ⟨⟨a1, a2, a3, a4, a5⟩, b1, b2, b3, b4, b5, b6, b7⟩ := hI
  have ne : ∀ c, c ∉ hx_sm → S2.1 c = S.1 c := he.1
  have nm : ∀ c, (1 ≤ c ∧ c ≤ 102) ∨ c = 108 ∨ c = 109 ∨ 113 ≤ c → c ∉ hx_sm := fun c hc r => by
    unfold hx_sm at r
    simp only [List.mem_cons, List.not_mem_nil, or_false] at r
    omega
  refine ⟨⟨⟨a1, a2, h1, h3, h4⟩, hx_P_cell (fun i hi => ne _ (nm _ (by omega))) b1, hx_past_eq (fun c c1 c2 => ne c (nm c (by omega))) (by rw [he.2.2]) b2, h2, h5, hx_rs_eqv he (by decide) (by decide) (by decide) (by decide) b5, hx_rm_eqv he (by decide) a1.2.1 b6, ?_⟩, fun c hc => ne c (nm c (by omega))⟩
  unfold hx_hp at b7 ⊢
  rw [ne 108 (by decide), ne 109 (by decide)]
  exact b7
theorem hx_I_cs {S S2 : hd_S} {p : hp_P} {n : Nat} {q : Nat → hp_P} {hand : Nat} {cl : Nat → Nat} (hI : hx_I S p n q hand cl) (he : hd_eqv (0 :: hx_cs) S S2) (hr : hx_rs S2 p) (hQ : hx_rm p S2) {hand2 : Nat} (h1 : hand2 < 2 ^ hp_H p) (h2 : S2.1 0 8 = nI hand2) : hx_I S2 p n q hand2 cl ∧ hx_fr S S2 := by
  obtain ⟨⟨a1, a2, a3, a4, a5⟩, b1, b2, b3, b4, b5, b6, b7⟩ := hI
  have nm : ∀ c, (1 ≤ c ∧ c ≤ 83) ∨ 105 ≤ c → c ∉ (0 :: hx_cs) := fun c hc r => by
    unfold hx_cs hx_rc at r
    simp only [List.mem_cons, List.not_mem_nil, or_false] at r
    omega
  refine ⟨⟨⟨a1, a2, h1, a4, a5⟩, hx_P_cell (fun i hi => he.1 _ (nm _ (by omega))) b1, hx_past_eq (fun c c1 c2 => he.1 c (nm c (by omega))) (by rw [he.2.2]) b2, h2, fun t ht => by rw [he.1 106 (nm 106 (by decide))]; exact b4 t ht, hr, hQ, ?_⟩, fun c hc => he.1 c (nm c (by omega))⟩
  unfold hx_hp at b7 ⊢
  rw [he.1 108 (nm 108 (by decide)), he.1 109 (nm 109 (by decide))]
  exact b7
set_option maxHeartbeats 4000000 in
theorem sx_far {S : hd_S} {p : hp_P} {n : Nat} {q : Nat → hp_P} {hand : Nat} {cl : Nat → Nat} (hI : hx_I S p n q hand cl) (hall town : Int32) (post : Option hd_V → hd_S → Prop)
    (hk1 : ∀ h t, h < hp_H p → hall = nI h → t < hp_T p → town = nI t → post (some (hd_vI (nI (hp_wy p h t)))) S)
    (hk2 : ¬ ((0 ≤ hall ∧ hall < nI (hp_H p)) ∧ (0 ≤ town ∧ town < nI (hp_T p))) → post (some (hd_vI (-3))) S) : wm_X8_far [hd_vR 0, hd_vI hall, hd_vI town] S post := by
  have hok := hI.1.1
  have hx := hI.2.1
  have hT : hp_T p ≤ 8 := hok.1
  have hH : hp_H p ≤ 7 := hok.2.1
  have hx0 : S.1 1 0 = nI (hp_T p) := hx.1
  have hx1 : S.1 1 1 = nI (hp_H p) := hx.2.1
  simp only [wm_X8_far, wo_X8_far, hd_mth, hd_rho0, hd_args, hd_wide, hq_sQ, hd_s0, hq_sI, hq_sJ, hd_sR, hd_sP, hd_sF, hd_sZ, hd_sG, hd_sA, hd_sL, hd_sB, hd_sO, hd_sN, hd_sD, hd_sW, hd_sE, hd_sRI, hd_sRZ, hd_sRJ, hd_sRR, hd_sRV, hd_sSw, hd_sw, hd_sCI, hd_sCL, hd_iK, hd_iL, hd_iU, hd_iB, hd_iD, hd_iJ, hd_iG, hd_iA, hd_iQ, hd_iC, hd_iN, hd_iE, hd_jK, hd_jL, hd_jU, hd_jB, hd_jD, hd_jH, hd_jI, hd_jA, hd_jQ, hd_jN, hd_rL, hd_rG, hd_rA, hd_rN, hd_cI, hd_c0, hd_cJ, hd_cX, hd_cA, hd_cO, hd_v0, hd_pI, hd_pJ, hd_pR, hd_nV, hd_nS, hd_get, hd_st, hd_stW, hd_cut, List.replicate, List.length_cons, List.length_nil, List.nil_append, List.cons_append, Nat.reduceAdd, Nat.reduceSub, Nat.reduceLeDiff, true_and, and_true, if_true, if_false, Bool.false_eq_true, List.append_nil, hs_o_0, hs_r_0_0, hs_t_0_0, hs_r_0_1, hs_t_0_1, hs_r_0_2, hs_t_0_2, hs_r_0_3, hs_t_0_3, hs_r_0_4, hs_t_0_4, hs_r_0_5, hs_t_0_5, hs_r_0_6, hs_t_0_6, hs_r_0_7, hs_t_0_7, hs_f_0_8, hs_o_1, hs_f_1_0, hs_f_1_1, hs_r_1_2, hs_t_1_2, hs_r_1_3, hs_t_1_3, hs_r_1_4, hs_t_1_4, hs_r_1_5, hs_t_1_5, hs_r_1_6, hs_t_1_6, hs_r_1_7, hs_t_1_7, hs_r_1_8, hs_t_1_8, hs_r_1_9, hs_t_1_9, hs_i_2, hs_i_3, hs_i_4, hs_i_5, hs_i_6, hs_i_7, hs_i_8, hs_i_9, hs_o_82, hs_r_82_0, hs_t_82_0, hs_f_82_1, hs_i_83, hs_o_84, hs_r_84_0, hs_t_84_0, hs_r_84_1, hs_t_84_1, hs_r_84_2, hs_t_84_2, hs_r_84_3, hs_t_84_3, hs_f_84_4, hs_i_85, hs_i_86, hs_i_87, hs_o_88, hs_r_88_0, hs_t_88_0, hs_r_88_1, hs_t_88_1, hs_r_88_2, hs_t_88_2, hs_r_88_3, hs_t_88_3, hs_r_88_4, hs_t_88_4, hs_r_88_5, hs_t_88_5, hs_r_88_6, hs_t_88_6, hs_r_88_7, hs_t_88_7, hs_f_88_8, hs_f_88_9, hs_i_89, hs_i_90, hs_i_91, hs_i_92, hs_i_93, hs_i_94, hs_i_95, hs_i_96, hs_i_97, hs_i_98, hs_i_99, hs_i_100, hs_i_101, hs_i_102, hs_o_103, hs_r_103_0, hs_t_103_0, hs_r_103_1, hs_t_103_1, hs_r_103_2, hs_t_103_2, hs_r_103_3, hs_t_103_3, hs_f_103_4, hs_i_104, hs_o_105, hs_r_105_0, hs_t_105_0, hs_r_105_1, hs_t_105_1, hs_r_105_2, hs_t_105_2, hs_i_106, hs_i_107, hs_o_108, hs_r_108_0, hs_t_108_0, hs_r_108_1, hs_t_108_1, hs_r_108_2, hs_t_108_2, hs_r_108_3, hs_t_108_3, hs_f_108_4, hs_i_109, hs_i_110, hs_o_111, hs_r_111_0, hs_t_111_0, hs_r_111_1, hs_t_111_1, hs_f_111_2, hs_f_111_3, hs_f_111_4, hs_i_112, hs_o_113, hs_f_113_0, hs_f_113_1, hs_f_113_2, hs_r_113_3, hs_t_113_3, hs_r_113_4, hs_t_113_4, hs_r_113_5, hs_t_113_5, hs_r_113_6, hs_t_113_6, hs_r_113_7, hs_t_113_7, hs_r_113_8, hs_t_113_8, hs_r_113_9, hs_t_113_9, hs_r_113_10, hs_t_113_10, hs_r_113_11, hs_t_113_11, hs_f_113_12, hs_f_113_13, hs_f_113_14, hs_r_113_15, hs_t_113_15, hs_f_113_16, hs_r_113_17, hs_t_113_17, hs_r_113_18, hs_t_113_18, hs_r_113_19, hs_t_113_19, hs_r_113_20, hs_t_113_20, hs_f_113_21, hs_f_113_22, hs_f_113_23, hs_r_113_24, hs_t_113_24, hs_f_113_25, hs_r_113_26, hs_t_113_26, hs_f_113_27, hs_i_114, hs_i_115, hs_i_116, hs_i_117, hs_i_118, hs_i_119, hs_i_120, hs_i_121, hs_i_122, hs_i_123, hs_i_124, hs_i_125, hs_i_126, hs_i_127, hs_i_128, hs_i_129, sp_X5_hasHall, sp_X5_hasTown, hx0, hx1, hd_t01, hd_dn1, decide_eq_true_eq]
  by_cases h1 : 0 ≤ hall ∧ hall < nI (hp_H p)
  · by_cases h2 : 0 ≤ town ∧ town < nI (hp_T p)
    · obtain ⟨h, hh, rfl⟩ := hb_rng2 (show hp_H p < 2 ^ 31 by omega) h1.1 h1.2
      obtain ⟨t, ht, rfl⟩ := hb_rng2 (show hp_T p < 2 ^ 31 by omega) h2.1 h2.2
      simp only [h1, h2, and_self, if_true, show ¬ ((1 : Int32) = 0) by decide, not_false_iff, not_true, if_false, true_and, sx_way hok hx hh (show t < 8 by omega)]
      exact hk1 h t hh rfl ht rfl
    · simp only [h1, h2, and_self, if_true, show ¬ ((1 : Int32) = 0) by decide, not_true, if_false, not_false_iff]
      exact hk2 (fun r => h2 r.2)
  · simp only [h1, if_false, not_true, not_false_iff, if_true]
    exact hk2 (fun r => h1 r.1)
set_option maxHeartbeats 4000000 in
theorem sp_far {S : hd_S} {p : hp_P} {n : Nat} {q : Nat → hp_P} {hand : Nat} {cl : Nat → Nat} (hI : hm_I S p n q hand cl) (hall town : Int32) (post : Option hd_V → hd_S → Prop)
    (hk1 : ∀ h t, h < hp_H p → hall = nI h → t < hp_T p → town = nI t → post (some (hd_vI (nI (hp_wy p h t)))) (hd_wI S 113 0 0))
    (hk2 : ¬ ((0 ≤ hall ∧ hall < nI (hp_H p)) ∧ (0 ≤ town ∧ town < nI (hp_T p))) → post (some (hd_vI (-3))) (hd_wI S 113 0 0)) : wm_X9_far [hd_vR 113, hd_vI hall, hd_vI town] S post := by
  have hok := hI.1.1
  have hm0 := (hm_I_0 hI).1.2.1
  have hT : hp_T p ≤ 8 := hok.1
  have hH : hp_H p ≤ 7 := hok.2.1
  simp only [wm_X9_far, wo_X9_far, hd_mth, hd_rho0, hd_args, hd_wide, hq_sQ, hd_s0, hq_sI, hq_sJ, hd_sR, hd_sP, hd_sF, hd_sZ, hd_sG, hd_sA, hd_sL, hd_sB, hd_sO, hd_sN, hd_sD, hd_sW, hd_sE, hd_sRI, hd_sRZ, hd_sRJ, hd_sRR, hd_sRV, hd_sSw, hd_sw, hd_sCI, hd_sCL, hd_iK, hd_iL, hd_iU, hd_iB, hd_iD, hd_iJ, hd_iG, hd_iA, hd_iQ, hd_iC, hd_iN, hd_iE, hd_jK, hd_jL, hd_jU, hd_jB, hd_jD, hd_jH, hd_jI, hd_jA, hd_jQ, hd_jN, hd_rL, hd_rG, hd_rA, hd_rN, hd_cI, hd_c0, hd_cJ, hd_cX, hd_cA, hd_cO, hd_v0, hd_pI, hd_pJ, hd_pR, hd_nV, hd_nS, hd_get, hd_st, hd_stW, hd_cut, List.replicate, List.length_cons, List.length_nil, List.nil_append, List.cons_append, Nat.reduceAdd, Nat.reduceSub, Nat.reduceLeDiff, true_and, and_true, if_true, if_false, Bool.false_eq_true, List.append_nil, hs_o_0, hs_r_0_0, hs_t_0_0, hs_r_0_1, hs_t_0_1, hs_r_0_2, hs_t_0_2, hs_r_0_3, hs_t_0_3, hs_r_0_4, hs_t_0_4, hs_r_0_5, hs_t_0_5, hs_r_0_6, hs_t_0_6, hs_r_0_7, hs_t_0_7, hs_f_0_8, hs_o_1, hs_f_1_0, hs_f_1_1, hs_r_1_2, hs_t_1_2, hs_r_1_3, hs_t_1_3, hs_r_1_4, hs_t_1_4, hs_r_1_5, hs_t_1_5, hs_r_1_6, hs_t_1_6, hs_r_1_7, hs_t_1_7, hs_r_1_8, hs_t_1_8, hs_r_1_9, hs_t_1_9, hs_i_2, hs_i_3, hs_i_4, hs_i_5, hs_i_6, hs_i_7, hs_i_8, hs_i_9, hs_o_82, hs_r_82_0, hs_t_82_0, hs_f_82_1, hs_i_83, hs_o_84, hs_r_84_0, hs_t_84_0, hs_r_84_1, hs_t_84_1, hs_r_84_2, hs_t_84_2, hs_r_84_3, hs_t_84_3, hs_f_84_4, hs_i_85, hs_i_86, hs_i_87, hs_o_88, hs_r_88_0, hs_t_88_0, hs_r_88_1, hs_t_88_1, hs_r_88_2, hs_t_88_2, hs_r_88_3, hs_t_88_3, hs_r_88_4, hs_t_88_4, hs_r_88_5, hs_t_88_5, hs_r_88_6, hs_t_88_6, hs_r_88_7, hs_t_88_7, hs_f_88_8, hs_f_88_9, hs_i_89, hs_i_90, hs_i_91, hs_i_92, hs_i_93, hs_i_94, hs_i_95, hs_i_96, hs_i_97, hs_i_98, hs_i_99, hs_i_100, hs_i_101, hs_i_102, hs_o_103, hs_r_103_0, hs_t_103_0, hs_r_103_1, hs_t_103_1, hs_r_103_2, hs_t_103_2, hs_r_103_3, hs_t_103_3, hs_f_103_4, hs_i_104, hs_o_105, hs_r_105_0, hs_t_105_0, hs_r_105_1, hs_t_105_1, hs_r_105_2, hs_t_105_2, hs_i_106, hs_i_107, hs_o_108, hs_r_108_0, hs_t_108_0, hs_r_108_1, hs_t_108_1, hs_r_108_2, hs_t_108_2, hs_r_108_3, hs_t_108_3, hs_f_108_4, hs_i_109, hs_i_110, hs_o_111, hs_r_111_0, hs_t_111_0, hs_r_111_1, hs_t_111_1, hs_f_111_2, hs_f_111_3, hs_f_111_4, hs_i_112, hs_o_113, hs_f_113_0, hs_f_113_1, hs_f_113_2, hs_r_113_3, hs_t_113_3, hs_r_113_4, hs_t_113_4, hs_r_113_5, hs_t_113_5, hs_r_113_6, hs_t_113_6, hs_r_113_7, hs_t_113_7, hs_r_113_8, hs_t_113_8, hs_r_113_9, hs_t_113_9, hs_r_113_10, hs_t_113_10, hs_r_113_11, hs_t_113_11, hs_f_113_12, hs_f_113_13, hs_f_113_14, hs_r_113_15, hs_t_113_15, hs_f_113_16, hs_r_113_17, hs_t_113_17, hs_r_113_18, hs_t_113_18, hs_r_113_19, hs_t_113_19, hs_r_113_20, hs_t_113_20, hs_f_113_21, hs_f_113_22, hs_f_113_23, hs_r_113_24, hs_t_113_24, hs_f_113_25, hs_r_113_26, hs_t_113_26, hs_f_113_27, hs_i_114, hs_i_115, hs_i_116, hs_i_117, hs_i_118, hs_i_119, hs_i_120, hs_i_121, hs_i_122, hs_i_123, hs_i_124, hs_i_125, hs_i_126, hs_i_127, hs_i_128, hs_i_129, sp_isHall hok hm0.2.1, sp_isTown hok hm0.1, hd_t01, hd_dn1, decide_eq_true_eq]
  by_cases h1 : 0 ≤ hall ∧ hall < nI (hp_H p)
  · by_cases h2 : 0 ≤ town ∧ town < nI (hp_T p)
    · obtain ⟨h, hh, rfl⟩ := hb_rng2 (show hp_H p < 2 ^ 31 by omega) h1.1 h1.2
      obtain ⟨t, ht, rfl⟩ := hb_rng2 (show hp_T p < 2 ^ 31 by omega) h2.1 h2.2
      simp only [h1, h2, and_self, if_true, show ¬ ((1 : Int32) = 0) by decide, not_false_iff, not_true, if_false, true_and, sp_X9_wayOf hok hm0 hh (show t < 8 by omega)]
      exact hk1 h t hh rfl ht rfl
    · simp only [h1, h2, and_self, if_true, if_false, show ¬ ((1 : Int32) = 0) by decide, not_true, not_false_iff]
      exact hk2 (fun r => h2 r.2)
  · simp only [h1, if_false, not_true, not_false_iff, if_true]
    exact hk2 (fun r => h1 r.1)
set_option maxHeartbeats 4000000 in
theorem sx_open {S : hd_S} {p : hp_P} {n : Nat} {q : Nat → hp_P} {hand : Nat} {cl : Nat → Nat} (hI : hx_I S p n q hand cl) (set_ : Int32) (post : Option hd_V → hd_S → Prop)
    (hk1 : ∀ s, s < 2 ^ hp_H p → set_ = nI s → ∀ S2, hx_I S2 p n q s cl → hx_fr S S2 → post (some (hd_vI (nI (hb_pc s 8)))) S2)
    (hk2 : ¬ (0 ≤ set_ ∧ set_ ≤ nI (2 ^ hp_H p - 1)) → post (some (hd_vI (-3))) S) : wm_X8_open [hd_vR 0, hd_vI set_] S post := by
  have hok := hI.1.1
  have hx := hI.2.1
  have hH : hp_H p ≤ 7 := hok.2.1
  have h128 : 2 ^ hp_H p ≤ 128 := Nat.pow_le_pow_right (n := 2) (by decide) hH
  have hpos : 0 < 2 ^ hp_H p := Nat.two_pow_pos _
  have hx1 : S.1 1 1 = nI (hp_H p) := hx.2.1
  simp only [wm_X8_open, wo_X8_open, hd_mth, hd_rho0, hd_args, hd_wide, hq_sQ, hd_s0, hq_sI, hq_sJ, hd_sR, hd_sP, hd_sF, hd_sZ, hd_sG, hd_sA, hd_sL, hd_sB, hd_sO, hd_sN, hd_sD, hd_sW, hd_sE, hd_sRI, hd_sRZ, hd_sRJ, hd_sRR, hd_sRV, hd_sSw, hd_sw, hd_sCI, hd_sCL, hd_iK, hd_iL, hd_iU, hd_iB, hd_iD, hd_iJ, hd_iG, hd_iA, hd_iQ, hd_iC, hd_iN, hd_iE, hd_jK, hd_jL, hd_jU, hd_jB, hd_jD, hd_jH, hd_jI, hd_jA, hd_jQ, hd_jN, hd_rL, hd_rG, hd_rA, hd_rN, hd_cI, hd_c0, hd_cJ, hd_cX, hd_cA, hd_cO, hd_v0, hd_pI, hd_pJ, hd_pR, hd_nV, hd_nS, hd_get, hd_st, hd_stW, hd_cut, List.replicate, List.length_cons, List.length_nil, List.nil_append, List.cons_append, Nat.reduceAdd, Nat.reduceSub, Nat.reduceLeDiff, true_and, and_true, if_true, if_false, Bool.false_eq_true, List.append_nil, hs_o_0, hs_r_0_0, hs_t_0_0, hs_r_0_1, hs_t_0_1, hs_r_0_2, hs_t_0_2, hs_r_0_3, hs_t_0_3, hs_r_0_4, hs_t_0_4, hs_r_0_5, hs_t_0_5, hs_r_0_6, hs_t_0_6, hs_r_0_7, hs_t_0_7, hs_f_0_8, hs_o_1, hs_f_1_0, hs_f_1_1, hs_r_1_2, hs_t_1_2, hs_r_1_3, hs_t_1_3, hs_r_1_4, hs_t_1_4, hs_r_1_5, hs_t_1_5, hs_r_1_6, hs_t_1_6, hs_r_1_7, hs_t_1_7, hs_r_1_8, hs_t_1_8, hs_r_1_9, hs_t_1_9, hs_i_2, hs_i_3, hs_i_4, hs_i_5, hs_i_6, hs_i_7, hs_i_8, hs_i_9, hs_o_82, hs_r_82_0, hs_t_82_0, hs_f_82_1, hs_i_83, hs_o_84, hs_r_84_0, hs_t_84_0, hs_r_84_1, hs_t_84_1, hs_r_84_2, hs_t_84_2, hs_r_84_3, hs_t_84_3, hs_f_84_4, hs_i_85, hs_i_86, hs_i_87, hs_o_88, hs_r_88_0, hs_t_88_0, hs_r_88_1, hs_t_88_1, hs_r_88_2, hs_t_88_2, hs_r_88_3, hs_t_88_3, hs_r_88_4, hs_t_88_4, hs_r_88_5, hs_t_88_5, hs_r_88_6, hs_t_88_6, hs_r_88_7, hs_t_88_7, hs_f_88_8, hs_f_88_9, hs_i_89, hs_i_90, hs_i_91, hs_i_92, hs_i_93, hs_i_94, hs_i_95, hs_i_96, hs_i_97, hs_i_98, hs_i_99, hs_i_100, hs_i_101, hs_i_102, hs_o_103, hs_r_103_0, hs_t_103_0, hs_r_103_1, hs_t_103_1, hs_r_103_2, hs_t_103_2, hs_r_103_3, hs_t_103_3, hs_f_103_4, hs_i_104, hs_o_105, hs_r_105_0, hs_t_105_0, hs_r_105_1, hs_t_105_1, hs_r_105_2, hs_t_105_2, hs_i_106, hs_i_107, hs_o_108, hs_r_108_0, hs_t_108_0, hs_r_108_1, hs_t_108_1, hs_r_108_2, hs_t_108_2, hs_r_108_3, hs_t_108_3, hs_f_108_4, hs_i_109, hs_i_110, hs_o_111, hs_r_111_0, hs_t_111_0, hs_r_111_1, hs_t_111_1, hs_f_111_2, hs_f_111_3, hs_f_111_4, hs_i_112, hs_o_113, hs_f_113_0, hs_f_113_1, hs_f_113_2, hs_r_113_3, hs_t_113_3, hs_r_113_4, hs_t_113_4, hs_r_113_5, hs_t_113_5, hs_r_113_6, hs_t_113_6, hs_r_113_7, hs_t_113_7, hs_r_113_8, hs_t_113_8, hs_r_113_9, hs_t_113_9, hs_r_113_10, hs_t_113_10, hs_r_113_11, hs_t_113_11, hs_f_113_12, hs_f_113_13, hs_f_113_14, hs_r_113_15, hs_t_113_15, hs_f_113_16, hs_r_113_17, hs_t_113_17, hs_r_113_18, hs_t_113_18, hs_r_113_19, hs_t_113_19, hs_r_113_20, hs_t_113_20, hs_f_113_21, hs_f_113_22, hs_f_113_23, hs_r_113_24, hs_t_113_24, hs_f_113_25, hs_r_113_26, hs_t_113_26, hs_f_113_27, hs_i_114, hs_i_115, hs_i_116, hs_i_117, hs_i_118, hs_i_119, hs_i_120, hs_i_121, hs_i_122, hs_i_123, hs_i_124, hs_i_125, hs_i_126, hs_i_127, hs_i_128, hs_i_129, sp_X5_everyHall, hx1, hb_all (show hp_H p < 31 by omega), sp_X8_within, hd_t01, hd_dn1, decide_eq_true_eq]
  by_cases h1 : 0 ≤ set_ ∧ set_ ≤ nI (2 ^ hp_H p - 1)
  · obtain ⟨s, hs, rfl⟩ := hb_rng (m := 2 ^ hp_H p - 1) (by omega) h1.1 h1.2
    simp only [h1, and_self, if_true, show ¬ ((1 : Int32) = 0) by decide, not_false_iff, not_true, if_false, sp_bitCount s (show s < 256 by omega)]
    obtain ⟨g1, g2⟩ := hx_I_sm (S2 := hd_wI S 0 8 (nI s)) (hand2 := s) (cl2 := cl) hI (hd_eqv_w (hd_eqv_rf _ _) (by decide)) (by omega) (by rw [hd_wI1, if_pos ⟨rfl, rfl⟩]) hI.1.2.2.2.1 hI.1.2.2.2.2 (fun t ht => by rw [hx_oth (by decide)]; exact hI.2.2.2.2.1 t ht)
    exact hk1 s (by omega) rfl _ g1 g2
  · simp only [h1, if_false, not_true, not_false_iff, if_true]
    exact hk2 h1
theorem hm_I_sm {S S2 : hd_S} {p : hp_P} {n : Nat} {q : Nat → hp_P} {hand hand2 : Nat} {cl cl2 : Nat → Nat} (hI : hm_I S p n q hand cl) (he : hd_eqx [113, 123, 124, 125, 126, 127, 128, 129] S S2) (hf : ∀ f, f = 1 ∨ f = 2 ∨ f = 12 ∨ f = 13 → S2.1 113 f = S.1 113 f) (hu : ∀ h, h < 7 → S2.1 127 h = S.1 127 h) (h1 : hand2 < 2 ^ hp_H p) (h2 : S2.1 113 14 = nI hand2) (h3 : ∀ t, cl2 t ≤ 1000000) (h4 : ∀ t, hp_T p ≤ t → cl2 t = 0) (h5 : ∀ t, t < 8 → S2.1 123 t = nI (cl2 t)) : hm_I S2 p n q hand2 cl2 ∧ hm_fr S S2 := by
  obtain ⟨⟨a1, a2, a3, a4, a5⟩, b1, ⟨c1, c2, e, c3, c4, c5⟩, b3, b4, b5⟩ := hI
  have ne : ∀ c, c < 113 ∨ (114 ≤ c ∧ c ≤ 122) → S2.1 c = S.1 c := fun c hc => he.1 c (by simp only [List.mem_cons, List.not_mem_nil, or_false]; omega)
  exact ⟨⟨⟨a1, a2, h1, h3, h4⟩, hm_P_fr (hf 1 (by decide)) (hf 2 (by decide)) (fun c d1 d2 => ne c (by omega)) b1, ⟨c1, by rw [hf 13 (by decide)]; exact c2, e, c3, by rw [hf 12 (by decide)]; exact c4, fun i hi => hm_B_eq (a2 i hi).2.1 (fun j _ _ => by rw [ne 122 (by decide)]) (c5 i hi)⟩, h2, h5, fun h hh => by rw [hu h hh]; exact b5 h hh⟩, ⟨fun c hc => ne c (Or.inl hc), he.2⟩⟩
theorem hm_I_N {S S2 : hd_S} {p : hp_P} {n : Nat} {q : Nat → hp_P} {hand hand2 : Nat} {cl : Nat → Nat} (hI : hm_I S p n q hand cl) (h : hm_N S S2) (h1 : hand2 < 2 ^ hp_H p) (h2 : S2.1 113 14 = nI hand2) : hm_I S2 p n q hand2 cl ∧ hm_fr S S2 := hm_I_sm hI (hd_eqx_sub h.1 (by decide)) h.2.1 h.2.2 h1 h2 hI.1.2.2.2.1 hI.1.2.2.2.2 (fun t ht => by rw [h.1.1 123 (by decide)]; exact hI.2.2.2.2.1 t ht)
set_option maxHeartbeats 4000000 in
theorem sp_open {S : hd_S} {p : hp_P} {n : Nat} {q : Nat → hp_P} {hand : Nat} {cl : Nat → Nat} (hI : hm_I S p n q hand cl) (set_ : Int32) (post : Option hd_V → hd_S → Prop)
    (hk1 : ∀ s, s < 2 ^ hp_H p → set_ = nI s → ∀ S2, hm_I S2 p n q s cl → hm_fr S S2 → post (some (hd_vI (nI (hb_pc s 8)))) S2)
    (hk2 : ¬ (0 ≤ set_ ∧ set_ ≤ nI (2 ^ hp_H p - 1)) → post (some (hd_vI (-3))) (hd_wI S 113 0 0)) : wm_X9_open [hd_vR 113, hd_vI set_] S post := by
  have hok := hI.1.1
  have hm0 := (hm_I_0 hI).1.2.1
  have hH : hp_H p ≤ 7 := hok.2.1
  have h128 : 2 ^ hp_H p ≤ 128 := Nat.pow_le_pow_right (n := 2) (by decide) hH
  have hpos : 0 < 2 ^ hp_H p := Nat.two_pow_pos _
  simp only [wm_X9_open, wo_X9_open, hd_mth, hd_rho0, hd_args, hd_wide, hq_sQ, hd_s0, hq_sI, hq_sJ, hd_sR, hd_sP, hd_sF, hd_sZ, hd_sG, hd_sA, hd_sL, hd_sB, hd_sO, hd_sN, hd_sD, hd_sW, hd_sE, hd_sRI, hd_sRZ, hd_sRJ, hd_sRR, hd_sRV, hd_sSw, hd_sw, hd_sCI, hd_sCL, hd_iK, hd_iL, hd_iU, hd_iB, hd_iD, hd_iJ, hd_iG, hd_iA, hd_iQ, hd_iC, hd_iN, hd_iE, hd_jK, hd_jL, hd_jU, hd_jB, hd_jD, hd_jH, hd_jI, hd_jA, hd_jQ, hd_jN, hd_rL, hd_rG, hd_rA, hd_rN, hd_cI, hd_c0, hd_cJ, hd_cX, hd_cA, hd_cO, hd_v0, hd_pI, hd_pJ, hd_pR, hd_nV, hd_nS, hd_get, hd_st, hd_stW, hd_cut, List.replicate, List.length_cons, List.length_nil, List.nil_append, List.cons_append, Nat.reduceAdd, Nat.reduceSub, Nat.reduceLeDiff, true_and, and_true, if_true, if_false, Bool.false_eq_true, List.append_nil, hs_o_0, hs_r_0_0, hs_t_0_0, hs_r_0_1, hs_t_0_1, hs_r_0_2, hs_t_0_2, hs_r_0_3, hs_t_0_3, hs_r_0_4, hs_t_0_4, hs_r_0_5, hs_t_0_5, hs_r_0_6, hs_t_0_6, hs_r_0_7, hs_t_0_7, hs_f_0_8, hs_o_1, hs_f_1_0, hs_f_1_1, hs_r_1_2, hs_t_1_2, hs_r_1_3, hs_t_1_3, hs_r_1_4, hs_t_1_4, hs_r_1_5, hs_t_1_5, hs_r_1_6, hs_t_1_6, hs_r_1_7, hs_t_1_7, hs_r_1_8, hs_t_1_8, hs_r_1_9, hs_t_1_9, hs_i_2, hs_i_3, hs_i_4, hs_i_5, hs_i_6, hs_i_7, hs_i_8, hs_i_9, hs_o_82, hs_r_82_0, hs_t_82_0, hs_f_82_1, hs_i_83, hs_o_84, hs_r_84_0, hs_t_84_0, hs_r_84_1, hs_t_84_1, hs_r_84_2, hs_t_84_2, hs_r_84_3, hs_t_84_3, hs_f_84_4, hs_i_85, hs_i_86, hs_i_87, hs_o_88, hs_r_88_0, hs_t_88_0, hs_r_88_1, hs_t_88_1, hs_r_88_2, hs_t_88_2, hs_r_88_3, hs_t_88_3, hs_r_88_4, hs_t_88_4, hs_r_88_5, hs_t_88_5, hs_r_88_6, hs_t_88_6, hs_r_88_7, hs_t_88_7, hs_f_88_8, hs_f_88_9, hs_i_89, hs_i_90, hs_i_91, hs_i_92, hs_i_93, hs_i_94, hs_i_95, hs_i_96, hs_i_97, hs_i_98, hs_i_99, hs_i_100, hs_i_101, hs_i_102, hs_o_103, hs_r_103_0, hs_t_103_0, hs_r_103_1, hs_t_103_1, hs_r_103_2, hs_t_103_2, hs_r_103_3, hs_t_103_3, hs_f_103_4, hs_i_104, hs_o_105, hs_r_105_0, hs_t_105_0, hs_r_105_1, hs_t_105_1, hs_r_105_2, hs_t_105_2, hs_i_106, hs_i_107, hs_o_108, hs_r_108_0, hs_t_108_0, hs_r_108_1, hs_t_108_1, hs_r_108_2, hs_t_108_2, hs_r_108_3, hs_t_108_3, hs_f_108_4, hs_i_109, hs_i_110, hs_o_111, hs_r_111_0, hs_t_111_0, hs_r_111_1, hs_t_111_1, hs_f_111_2, hs_f_111_3, hs_f_111_4, hs_i_112, hs_o_113, hs_f_113_0, hs_f_113_1, hs_f_113_2, hs_r_113_3, hs_t_113_3, hs_r_113_4, hs_t_113_4, hs_r_113_5, hs_t_113_5, hs_r_113_6, hs_t_113_6, hs_r_113_7, hs_t_113_7, hs_r_113_8, hs_t_113_8, hs_r_113_9, hs_t_113_9, hs_r_113_10, hs_t_113_10, hs_r_113_11, hs_t_113_11, hs_f_113_12, hs_f_113_13, hs_f_113_14, hs_r_113_15, hs_t_113_15, hs_f_113_16, hs_r_113_17, hs_t_113_17, hs_r_113_18, hs_t_113_18, hs_r_113_19, hs_t_113_19, hs_r_113_20, hs_t_113_20, hs_f_113_21, hs_f_113_22, hs_f_113_23, hs_r_113_24, hs_t_113_24, hs_f_113_25, hs_r_113_26, hs_t_113_26, hs_f_113_27, hs_i_114, hs_i_115, hs_i_116, hs_i_117, hs_i_118, hs_i_119, hs_i_120, hs_i_121, hs_i_122, hs_i_123, hs_i_124, hs_i_125, hs_i_126, hs_i_127, hs_i_128, hs_i_129, sp_X9_allHalls, hm0.2.1, hb_all (show hp_H p < 31 by omega), sp_X9_in, hd_t01, hd_dn1, decide_eq_true_eq]
  by_cases h1 : 0 ≤ set_ ∧ set_ ≤ nI (2 ^ hp_H p - 1)
  · obtain ⟨s, hs, rfl⟩ := hb_rng (m := 2 ^ hp_H p - 1) (by omega) h1.1 h1.2
    simp only [h1, and_self, if_true, show ¬ ((1 : Int32) = 0) by decide, not_false_iff, not_true, if_false]
    refine sp_X9_sizeOf s (by omega) _ _ ?_
    have hN : hm_N S (hd_wI (hd_wI S 113 0 0) 113 14 (nI s)) := hm_N_K (hm_K_14 _ (hm_K_0 0 (hm_K_rf S)))
    obtain ⟨g1, g2⟩ := hm_I_N (hand2 := s) hI hN (by omega) (by rw [hd_wI1, if_pos ⟨rfl, rfl⟩])
    exact hk1 s (by omega) rfl _ g1 g2
  · simp only [h1, if_false, not_true, not_false_iff, if_true]
    exact hk2 h1
set_option maxHeartbeats 4000000 in
theorem sx_claim {S : hd_S} {p : hp_P} {n : Nat} {q : Nat → hp_P} {hand : Nat} {cl : Nat → Nat} (hI : hx_I S p n q hand cl) (town v : Int32) (post : Option hd_V → hd_S → Prop)
    (hk1 : ∀ t k, t < hp_T p → town = nI t → k ≤ 1000000 → v = nI k → ∀ S2, hx_I S2 p n q hand (hp_rep cl t k) → hx_fr S S2 → post (some (hd_vI (nI (cl t)))) S2)
    (hk2 : ¬ ((0 ≤ town ∧ town < nI (hp_T p)) ∧ (0 ≤ v ∧ v ≤ 1000000)) → post (some (hd_vI (-3))) S) : wm_X8_claim [hd_vR 0, hd_vI town, hd_vI v] S post := by
  have hok := hI.1.1
  have hx := hI.2.1
  have hT : hp_T p ≤ 8 := hok.1
  have hx0 : S.1 1 0 = nI (hp_T p) := hx.1
  simp only [wm_X8_claim, wo_X8_claim, hd_mth, hd_rho0, hd_args, hd_wide, hq_sQ, hd_s0, hq_sI, hq_sJ, hd_sR, hd_sP, hd_sF, hd_sZ, hd_sG, hd_sA, hd_sL, hd_sB, hd_sO, hd_sN, hd_sD, hd_sW, hd_sE, hd_sRI, hd_sRZ, hd_sRJ, hd_sRR, hd_sRV, hd_sSw, hd_sw, hd_sCI, hd_sCL, hd_iK, hd_iL, hd_iU, hd_iB, hd_iD, hd_iJ, hd_iG, hd_iA, hd_iQ, hd_iC, hd_iN, hd_iE, hd_jK, hd_jL, hd_jU, hd_jB, hd_jD, hd_jH, hd_jI, hd_jA, hd_jQ, hd_jN, hd_rL, hd_rG, hd_rA, hd_rN, hd_cI, hd_c0, hd_cJ, hd_cX, hd_cA, hd_cO, hd_v0, hd_pI, hd_pJ, hd_pR, hd_nV, hd_nS, hd_get, hd_st, hd_stW, hd_cut, List.replicate, List.length_cons, List.length_nil, List.nil_append, List.cons_append, Nat.reduceAdd, Nat.reduceSub, Nat.reduceLeDiff, true_and, and_true, if_true, if_false, Bool.false_eq_true, List.append_nil, hs_o_0, hs_r_0_0, hs_t_0_0, hs_r_0_1, hs_t_0_1, hs_r_0_2, hs_t_0_2, hs_r_0_3, hs_t_0_3, hs_r_0_4, hs_t_0_4, hs_r_0_5, hs_t_0_5, hs_r_0_6, hs_t_0_6, hs_r_0_7, hs_t_0_7, hs_f_0_8, hs_o_1, hs_f_1_0, hs_f_1_1, hs_r_1_2, hs_t_1_2, hs_r_1_3, hs_t_1_3, hs_r_1_4, hs_t_1_4, hs_r_1_5, hs_t_1_5, hs_r_1_6, hs_t_1_6, hs_r_1_7, hs_t_1_7, hs_r_1_8, hs_t_1_8, hs_r_1_9, hs_t_1_9, hs_i_2, hs_i_3, hs_i_4, hs_i_5, hs_i_6, hs_i_7, hs_i_8, hs_i_9, hs_o_82, hs_r_82_0, hs_t_82_0, hs_f_82_1, hs_i_83, hs_o_84, hs_r_84_0, hs_t_84_0, hs_r_84_1, hs_t_84_1, hs_r_84_2, hs_t_84_2, hs_r_84_3, hs_t_84_3, hs_f_84_4, hs_i_85, hs_i_86, hs_i_87, hs_o_88, hs_r_88_0, hs_t_88_0, hs_r_88_1, hs_t_88_1, hs_r_88_2, hs_t_88_2, hs_r_88_3, hs_t_88_3, hs_r_88_4, hs_t_88_4, hs_r_88_5, hs_t_88_5, hs_r_88_6, hs_t_88_6, hs_r_88_7, hs_t_88_7, hs_f_88_8, hs_f_88_9, hs_i_89, hs_i_90, hs_i_91, hs_i_92, hs_i_93, hs_i_94, hs_i_95, hs_i_96, hs_i_97, hs_i_98, hs_i_99, hs_i_100, hs_i_101, hs_i_102, hs_o_103, hs_r_103_0, hs_t_103_0, hs_r_103_1, hs_t_103_1, hs_r_103_2, hs_t_103_2, hs_r_103_3, hs_t_103_3, hs_f_103_4, hs_i_104, hs_o_105, hs_r_105_0, hs_t_105_0, hs_r_105_1, hs_t_105_1, hs_r_105_2, hs_t_105_2, hs_i_106, hs_i_107, hs_o_108, hs_r_108_0, hs_t_108_0, hs_r_108_1, hs_t_108_1, hs_r_108_2, hs_t_108_2, hs_r_108_3, hs_t_108_3, hs_f_108_4, hs_i_109, hs_i_110, hs_o_111, hs_r_111_0, hs_t_111_0, hs_r_111_1, hs_t_111_1, hs_f_111_2, hs_f_111_3, hs_f_111_4, hs_i_112, hs_o_113, hs_f_113_0, hs_f_113_1, hs_f_113_2, hs_r_113_3, hs_t_113_3, hs_r_113_4, hs_t_113_4, hs_r_113_5, hs_t_113_5, hs_r_113_6, hs_t_113_6, hs_r_113_7, hs_t_113_7, hs_r_113_8, hs_t_113_8, hs_r_113_9, hs_t_113_9, hs_r_113_10, hs_t_113_10, hs_r_113_11, hs_t_113_11, hs_f_113_12, hs_f_113_13, hs_f_113_14, hs_r_113_15, hs_t_113_15, hs_f_113_16, hs_r_113_17, hs_t_113_17, hs_r_113_18, hs_t_113_18, hs_r_113_19, hs_t_113_19, hs_r_113_20, hs_t_113_20, hs_f_113_21, hs_f_113_22, hs_f_113_23, hs_r_113_24, hs_t_113_24, hs_f_113_25, hs_r_113_26, hs_t_113_26, hs_f_113_27, hs_i_114, hs_i_115, hs_i_116, hs_i_117, hs_i_118, hs_i_119, hs_i_120, hs_i_121, hs_i_122, hs_i_123, hs_i_124, hs_i_125, hs_i_126, hs_i_127, hs_i_128, hs_i_129, sp_X5_hasTown, hx0, sp_X8_within, hd_t01, hd_dn1, decide_eq_true_eq]
  by_cases h1 : 0 ≤ town ∧ town < nI (hp_T p)
  · by_cases h2 : (0 : Int32) ≤ v ∧ v ≤ 1000000
    · obtain ⟨t, ht, rfl⟩ := hb_rng2 (show hp_T p < 2 ^ 31 by omega) h1.1 h1.2
      obtain ⟨k, hk, rfl⟩ := hb_rng (m := 1000000) (by decide) h2.1 h2.2
      simp only [h1, h2, and_self, if_true, show ¬ ((1 : Int32) = 0) by decide, not_false_iff, not_true, if_false, vp_in_nI (show t < 8 by omega) (show 8 < 2 ^ 31 by decide), hd_cc (show t < 2147483648 by omega), hI.2.2.2.2.1 t (show t < 8 by omega), true_and]
      obtain ⟨g1, g2⟩ := hx_I_sm (S2 := hd_wI S 106 t (nI k)) (hand2 := hand) (cl2 := hp_rep cl t k) hI (hd_eqv_w (hd_eqv_rf _ _) (by decide)) hI.1.2.2.1 (by rw [hx_oth (by decide)]; exact hI.2.2.2.1) (fun i => by
        unfold hp_rep
        split
        · exact hk
        · exact hI.1.2.2.2.1 i) (fun i hi => by
        unfold hp_rep
        rw [if_neg (by omega)]
        exact hI.1.2.2.2.2 i hi) (hx_rep (e := fun x => nI x) hI.2.2.2.2.1)
      exact hk1 t k ht rfl hk rfl _ g1 g2
    · simp only [h1, h2, and_self, if_true, show ¬ ((1 : Int32) = 0) by decide, not_true, if_false, not_false_iff]
      exact hk2 (fun r => h2 r.2)
  · simp only [h1, if_false, not_true, not_false_iff, if_true]
    exact hk2 (fun r => h1 r.1)
