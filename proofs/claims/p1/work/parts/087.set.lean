/-! the class's calls that change a row -/
theorem hb_rng3 {x : Int32} {a b : Nat} (ha : a < 2 ^ 31) (hb : b < 2 ^ 31) (h0 : nI a ≤ x) (h1 : x ≤ nI b) : ∃ k, a ≤ k ∧ k ≤ b ∧ x = nI k := by
  rw [Int32.le_iff_toInt_le] at h0 h1
  rw [nI_toInt hb] at h1
  rw [nI_toInt ha] at h0
  refine ⟨x.toInt.toNat, by omega, by omega, ?_⟩
  rw [← Int32.toInt_inj, nI_toInt (by omega)]
  omega
set_option maxHeartbeats 4000000 in
theorem sx_people {S : hd_S} {p : hp_P} {n : Nat} {q : Nat → hp_P} {hand : Nat} {cl : Nat → Nat} (hI : hx_I S p n q hand cl) (at_ v : Int32) (post : Option hd_V → hd_S → Prop)
    (hk1 : ∀ t k, t < hp_T p → at_ = nI t → 1 ≤ k → k ≤ 20 → v = nI k → ∀ S2, hx_I S2 (hp_setcr p t k) (hp_kn n) (hp_kq n q p) hand cl → hx_fr S S2 → post (some (hd_vI (nI (hp_cr p t)))) S2)
    (hk2 : ¬ ((0 ≤ at_ ∧ at_ < nI (hp_T p)) ∧ (1 ≤ v ∧ v ≤ 20)) → post (some (hd_vI (-3))) S) : wm_X8_people [hd_vR 0, hd_vI at_, hd_vI v] S post := by
  have hok := hI.1.1
  have hx := hI.2.1
  have hT : hp_T p ≤ 8 := hok.1
  have hH : hp_H p ≤ 7 := hok.2.1
  have hx1 : S.1 1 0 = nI (hp_T p) := hx.1
  simp only [wm_X8_people, wo_X8_people, hd_mth, hd_rho0, hd_args, hd_wide, hq_sQ, hd_s0, hq_sI, hq_sJ, hd_sR, hd_sP, hd_sF, hd_sZ, hd_sG, hd_sA, hd_sL, hd_sB, hd_sO, hd_sN, hd_sD, hd_sW, hd_sE, hd_sRI, hd_sRZ, hd_sRJ, hd_sRR, hd_sRV, hd_sSw, hd_sw, hd_sCI, hd_sCL, hd_iK, hd_iL, hd_iU, hd_iB, hd_iD, hd_iJ, hd_iG, hd_iA, hd_iQ, hd_iC, hd_iN, hd_iE, hd_jK, hd_jL, hd_jU, hd_jB, hd_jD, hd_jH, hd_jI, hd_jA, hd_jQ, hd_jN, hd_rL, hd_rG, hd_rA, hd_rN, hd_cI, hd_c0, hd_cJ, hd_cX, hd_cA, hd_cO, hd_v0, hd_pI, hd_pJ, hd_pR, hd_nV, hd_nS, hd_get, hd_st, hd_stW, hd_cut, List.replicate, List.length_cons, List.length_nil, List.nil_append, List.cons_append, Nat.reduceAdd, Nat.reduceSub, Nat.reduceLeDiff, true_and, and_true, if_true, if_false, Bool.false_eq_true, List.append_nil, hs_o_0, hs_r_0_0, hs_t_0_0, hs_r_0_1, hs_t_0_1, hs_r_0_2, hs_t_0_2, hs_r_0_3, hs_t_0_3, hs_r_0_4, hs_t_0_4, hs_r_0_5, hs_t_0_5, hs_r_0_6, hs_t_0_6, hs_r_0_7, hs_t_0_7, hs_f_0_8, hs_o_1, hs_f_1_0, hs_f_1_1, hs_r_1_2, hs_t_1_2, hs_r_1_3, hs_t_1_3, hs_r_1_4, hs_t_1_4, hs_r_1_5, hs_t_1_5, hs_r_1_6, hs_t_1_6, hs_r_1_7, hs_t_1_7, hs_r_1_8, hs_t_1_8, hs_r_1_9, hs_t_1_9, hs_i_2, hs_i_3, hs_i_4, hs_i_5, hs_i_6, hs_i_7, hs_i_8, hs_i_9, hs_o_82, hs_r_82_0, hs_t_82_0, hs_f_82_1, hs_i_83, hs_o_84, hs_r_84_0, hs_t_84_0, hs_r_84_1, hs_t_84_1, hs_r_84_2, hs_t_84_2, hs_r_84_3, hs_t_84_3, hs_f_84_4, hs_i_85, hs_i_86, hs_i_87, hs_o_88, hs_r_88_0, hs_t_88_0, hs_r_88_1, hs_t_88_1, hs_r_88_2, hs_t_88_2, hs_r_88_3, hs_t_88_3, hs_r_88_4, hs_t_88_4, hs_r_88_5, hs_t_88_5, hs_r_88_6, hs_t_88_6, hs_r_88_7, hs_t_88_7, hs_f_88_8, hs_f_88_9, hs_i_89, hs_i_90, hs_i_91, hs_i_92, hs_i_93, hs_i_94, hs_i_95, hs_i_96, hs_i_97, hs_i_98, hs_i_99, hs_i_100, hs_i_101, hs_i_102, hs_o_103, hs_r_103_0, hs_t_103_0, hs_r_103_1, hs_t_103_1, hs_r_103_2, hs_t_103_2, hs_r_103_3, hs_t_103_3, hs_f_103_4, hs_i_104, hs_o_105, hs_r_105_0, hs_t_105_0, hs_r_105_1, hs_t_105_1, hs_r_105_2, hs_t_105_2, hs_i_106, hs_i_107, hs_o_108, hs_r_108_0, hs_t_108_0, hs_r_108_1, hs_t_108_1, hs_r_108_2, hs_t_108_2, hs_r_108_3, hs_t_108_3, hs_f_108_4, hs_i_109, hs_i_110, hs_o_111, hs_r_111_0, hs_t_111_0, hs_r_111_1, hs_t_111_1, hs_f_111_2, hs_f_111_3, hs_f_111_4, hs_i_112, hs_o_113, hs_f_113_0, hs_f_113_1, hs_f_113_2, hs_r_113_3, hs_t_113_3, hs_r_113_4, hs_t_113_4, hs_r_113_5, hs_t_113_5, hs_r_113_6, hs_t_113_6, hs_r_113_7, hs_t_113_7, hs_r_113_8, hs_t_113_8, hs_r_113_9, hs_t_113_9, hs_r_113_10, hs_t_113_10, hs_r_113_11, hs_t_113_11, hs_f_113_12, hs_f_113_13, hs_f_113_14, hs_r_113_15, hs_t_113_15, hs_f_113_16, hs_r_113_17, hs_t_113_17, hs_r_113_18, hs_t_113_18, hs_r_113_19, hs_t_113_19, hs_r_113_20, hs_t_113_20, hs_f_113_21, hs_f_113_22, hs_f_113_23, hs_r_113_24, hs_t_113_24, hs_f_113_25, hs_r_113_26, hs_t_113_26, hs_f_113_27, hs_i_114, hs_i_115, hs_i_116, hs_i_117, hs_i_118, hs_i_119, hs_i_120, hs_i_121, hs_i_122, hs_i_123, hs_i_124, hs_i_125, hs_i_126, hs_i_127, hs_i_128, hs_i_129, sp_X5_hasTown, sp_X8_within, hx1, hd_t01, hd_dn1, decide_eq_true_eq]
  by_cases h1 : 0 ≤ at_ ∧ at_ < nI (hp_T p)
  · by_cases h2 : (1 : Int32) ≤ v ∧ v ≤ 20
    · obtain ⟨t, ht, rfl⟩ := hb_rng2 (show hp_T p < 2 ^ 31 by omega) h1.1 h1.2
      obtain ⟨k, hk, hk9, rfl⟩ := hb_rng3 (a := 1) (b := 20) (by decide) (by decide) h2.1 h2.2
      simp only [h1, h2, and_self, not_true, if_false]
      have e : S.1 2 t = nI (hp_cr p t) := hx.2.2.1 t (by omega)
      refine sx_change hI (c := 2) (N := 8) (by decide) hs_i_2 (by decide) (by omega) (nI k) (p2 := hp_setcr p t k) (hp_ok_cr hok hk hk9) (Nat.le_refl _) (Nat.le_refl _) (fun S2 h => hx_P_cr h) _ (fun S2 hI2 hfr => ?_)
      rw [e]
      exact hk1 t k ht rfl hk hk9 rfl S2 hI2 hfr
    · simp only [h1, h2, and_self, not_true, if_false, not_false_iff, if_true]
      exact hk2 (fun r => h2 r.2)
  · simp only [h1, not_false_iff, if_true]
    exact hk2 (fun r => h1 r.1)
set_option maxHeartbeats 4000000 in
theorem sx_fine {S : hd_S} {p : hp_P} {n : Nat} {q : Nat → hp_P} {hand : Nat} {cl : Nat → Nat} (hI : hx_I S p n q hand cl) (at_ v : Int32) (post : Option hd_V → hd_S → Prop)
    (hk1 : ∀ t k, t < hp_T p → at_ = nI t → 0 ≤ k → k ≤ 100000 → v = nI k → ∀ S2, hx_I S2 (hp_setfi p t k) (hp_kn n) (hp_kq n q p) hand cl → hx_fr S S2 → post (some (hd_vI (nI (hp_fi p t)))) S2)
    (hk2 : ¬ ((0 ≤ at_ ∧ at_ < nI (hp_T p)) ∧ (0 ≤ v ∧ v ≤ 100000)) → post (some (hd_vI (-3))) S) : wm_X8_fine [hd_vR 0, hd_vI at_, hd_vI v] S post := by
  have hok := hI.1.1
  have hx := hI.2.1
  have hT : hp_T p ≤ 8 := hok.1
  have hH : hp_H p ≤ 7 := hok.2.1
  have hx1 : S.1 1 0 = nI (hp_T p) := hx.1
  simp only [wm_X8_fine, wo_X8_fine, hd_mth, hd_rho0, hd_args, hd_wide, hq_sQ, hd_s0, hq_sI, hq_sJ, hd_sR, hd_sP, hd_sF, hd_sZ, hd_sG, hd_sA, hd_sL, hd_sB, hd_sO, hd_sN, hd_sD, hd_sW, hd_sE, hd_sRI, hd_sRZ, hd_sRJ, hd_sRR, hd_sRV, hd_sSw, hd_sw, hd_sCI, hd_sCL, hd_iK, hd_iL, hd_iU, hd_iB, hd_iD, hd_iJ, hd_iG, hd_iA, hd_iQ, hd_iC, hd_iN, hd_iE, hd_jK, hd_jL, hd_jU, hd_jB, hd_jD, hd_jH, hd_jI, hd_jA, hd_jQ, hd_jN, hd_rL, hd_rG, hd_rA, hd_rN, hd_cI, hd_c0, hd_cJ, hd_cX, hd_cA, hd_cO, hd_v0, hd_pI, hd_pJ, hd_pR, hd_nV, hd_nS, hd_get, hd_st, hd_stW, hd_cut, List.replicate, List.length_cons, List.length_nil, List.nil_append, List.cons_append, Nat.reduceAdd, Nat.reduceSub, Nat.reduceLeDiff, true_and, and_true, if_true, if_false, Bool.false_eq_true, List.append_nil, hs_o_0, hs_r_0_0, hs_t_0_0, hs_r_0_1, hs_t_0_1, hs_r_0_2, hs_t_0_2, hs_r_0_3, hs_t_0_3, hs_r_0_4, hs_t_0_4, hs_r_0_5, hs_t_0_5, hs_r_0_6, hs_t_0_6, hs_r_0_7, hs_t_0_7, hs_f_0_8, hs_o_1, hs_f_1_0, hs_f_1_1, hs_r_1_2, hs_t_1_2, hs_r_1_3, hs_t_1_3, hs_r_1_4, hs_t_1_4, hs_r_1_5, hs_t_1_5, hs_r_1_6, hs_t_1_6, hs_r_1_7, hs_t_1_7, hs_r_1_8, hs_t_1_8, hs_r_1_9, hs_t_1_9, hs_i_2, hs_i_3, hs_i_4, hs_i_5, hs_i_6, hs_i_7, hs_i_8, hs_i_9, hs_o_82, hs_r_82_0, hs_t_82_0, hs_f_82_1, hs_i_83, hs_o_84, hs_r_84_0, hs_t_84_0, hs_r_84_1, hs_t_84_1, hs_r_84_2, hs_t_84_2, hs_r_84_3, hs_t_84_3, hs_f_84_4, hs_i_85, hs_i_86, hs_i_87, hs_o_88, hs_r_88_0, hs_t_88_0, hs_r_88_1, hs_t_88_1, hs_r_88_2, hs_t_88_2, hs_r_88_3, hs_t_88_3, hs_r_88_4, hs_t_88_4, hs_r_88_5, hs_t_88_5, hs_r_88_6, hs_t_88_6, hs_r_88_7, hs_t_88_7, hs_f_88_8, hs_f_88_9, hs_i_89, hs_i_90, hs_i_91, hs_i_92, hs_i_93, hs_i_94, hs_i_95, hs_i_96, hs_i_97, hs_i_98, hs_i_99, hs_i_100, hs_i_101, hs_i_102, hs_o_103, hs_r_103_0, hs_t_103_0, hs_r_103_1, hs_t_103_1, hs_r_103_2, hs_t_103_2, hs_r_103_3, hs_t_103_3, hs_f_103_4, hs_i_104, hs_o_105, hs_r_105_0, hs_t_105_0, hs_r_105_1, hs_t_105_1, hs_r_105_2, hs_t_105_2, hs_i_106, hs_i_107, hs_o_108, hs_r_108_0, hs_t_108_0, hs_r_108_1, hs_t_108_1, hs_r_108_2, hs_t_108_2, hs_r_108_3, hs_t_108_3, hs_f_108_4, hs_i_109, hs_i_110, hs_o_111, hs_r_111_0, hs_t_111_0, hs_r_111_1, hs_t_111_1, hs_f_111_2, hs_f_111_3, hs_f_111_4, hs_i_112, hs_o_113, hs_f_113_0, hs_f_113_1, hs_f_113_2, hs_r_113_3, hs_t_113_3, hs_r_113_4, hs_t_113_4, hs_r_113_5, hs_t_113_5, hs_r_113_6, hs_t_113_6, hs_r_113_7, hs_t_113_7, hs_r_113_8, hs_t_113_8, hs_r_113_9, hs_t_113_9, hs_r_113_10, hs_t_113_10, hs_r_113_11, hs_t_113_11, hs_f_113_12, hs_f_113_13, hs_f_113_14, hs_r_113_15, hs_t_113_15, hs_f_113_16, hs_r_113_17, hs_t_113_17, hs_r_113_18, hs_t_113_18, hs_r_113_19, hs_t_113_19, hs_r_113_20, hs_t_113_20, hs_f_113_21, hs_f_113_22, hs_f_113_23, hs_r_113_24, hs_t_113_24, hs_f_113_25, hs_r_113_26, hs_t_113_26, hs_f_113_27, hs_i_114, hs_i_115, hs_i_116, hs_i_117, hs_i_118, hs_i_119, hs_i_120, hs_i_121, hs_i_122, hs_i_123, hs_i_124, hs_i_125, hs_i_126, hs_i_127, hs_i_128, hs_i_129, sp_X5_hasTown, sp_X8_within, hx1, hd_t01, hd_dn1, decide_eq_true_eq]
  by_cases h1 : 0 ≤ at_ ∧ at_ < nI (hp_T p)
  · by_cases h2 : (0 : Int32) ≤ v ∧ v ≤ 100000
    · obtain ⟨t, ht, rfl⟩ := hb_rng2 (show hp_T p < 2 ^ 31 by omega) h1.1 h1.2
      obtain ⟨k, hk, hk9, rfl⟩ := hb_rng3 (a := 0) (b := 100000) (by decide) (by decide) h2.1 h2.2
      simp only [h1, h2, and_self, not_true, if_false]
      have e : S.1 3 t = nI (hp_fi p t) := hx.2.2.2.1 t (by omega)
      refine sx_change hI (c := 3) (N := 8) (by decide) hs_i_3 (by decide) (by omega) (nI k) (p2 := hp_setfi p t k) (hp_ok_fi hok hk9) (Nat.le_refl _) (Nat.le_refl _) (fun S2 h => hx_P_fi h) _ (fun S2 hI2 hfr => ?_)
      rw [e]
      exact hk1 t k ht rfl hk hk9 rfl S2 hI2 hfr
    · simp only [h1, h2, and_self, not_true, if_false, not_false_iff, if_true]
      exact hk2 (fun r => h2 r.2)
  · simp only [h1, not_false_iff, if_true]
    exact hk2 (fun r => h1 r.1)
set_option maxHeartbeats 4000000 in
theorem sx_price {S : hd_S} {p : hp_P} {n : Nat} {q : Nat → hp_P} {hand : Nat} {cl : Nat → Nat} (hI : hx_I S p n q hand cl) (at_ v : Int32) (post : Option hd_V → hd_S → Prop)
    (hk1 : ∀ t k, t < hp_H p → at_ = nI t → 0 ≤ k → k ≤ 100000 → v = nI k → ∀ S2, hx_I S2 (hp_setpr p t k) (hp_kn n) (hp_kq n q p) hand cl → hx_fr S S2 → post (some (hd_vI (nI (hp_pr p t)))) S2)
    (hk2 : ¬ ((0 ≤ at_ ∧ at_ < nI (hp_H p)) ∧ (0 ≤ v ∧ v ≤ 100000)) → post (some (hd_vI (-3))) S) : wm_X8_price [hd_vR 0, hd_vI at_, hd_vI v] S post := by
  have hok := hI.1.1
  have hx := hI.2.1
  have hT : hp_T p ≤ 8 := hok.1
  have hH : hp_H p ≤ 7 := hok.2.1
  have hx1 : S.1 1 1 = nI (hp_H p) := hx.2.1
  simp only [wm_X8_price, wo_X8_price, hd_mth, hd_rho0, hd_args, hd_wide, hq_sQ, hd_s0, hq_sI, hq_sJ, hd_sR, hd_sP, hd_sF, hd_sZ, hd_sG, hd_sA, hd_sL, hd_sB, hd_sO, hd_sN, hd_sD, hd_sW, hd_sE, hd_sRI, hd_sRZ, hd_sRJ, hd_sRR, hd_sRV, hd_sSw, hd_sw, hd_sCI, hd_sCL, hd_iK, hd_iL, hd_iU, hd_iB, hd_iD, hd_iJ, hd_iG, hd_iA, hd_iQ, hd_iC, hd_iN, hd_iE, hd_jK, hd_jL, hd_jU, hd_jB, hd_jD, hd_jH, hd_jI, hd_jA, hd_jQ, hd_jN, hd_rL, hd_rG, hd_rA, hd_rN, hd_cI, hd_c0, hd_cJ, hd_cX, hd_cA, hd_cO, hd_v0, hd_pI, hd_pJ, hd_pR, hd_nV, hd_nS, hd_get, hd_st, hd_stW, hd_cut, List.replicate, List.length_cons, List.length_nil, List.nil_append, List.cons_append, Nat.reduceAdd, Nat.reduceSub, Nat.reduceLeDiff, true_and, and_true, if_true, if_false, Bool.false_eq_true, List.append_nil, hs_o_0, hs_r_0_0, hs_t_0_0, hs_r_0_1, hs_t_0_1, hs_r_0_2, hs_t_0_2, hs_r_0_3, hs_t_0_3, hs_r_0_4, hs_t_0_4, hs_r_0_5, hs_t_0_5, hs_r_0_6, hs_t_0_6, hs_r_0_7, hs_t_0_7, hs_f_0_8, hs_o_1, hs_f_1_0, hs_f_1_1, hs_r_1_2, hs_t_1_2, hs_r_1_3, hs_t_1_3, hs_r_1_4, hs_t_1_4, hs_r_1_5, hs_t_1_5, hs_r_1_6, hs_t_1_6, hs_r_1_7, hs_t_1_7, hs_r_1_8, hs_t_1_8, hs_r_1_9, hs_t_1_9, hs_i_2, hs_i_3, hs_i_4, hs_i_5, hs_i_6, hs_i_7, hs_i_8, hs_i_9, hs_o_82, hs_r_82_0, hs_t_82_0, hs_f_82_1, hs_i_83, hs_o_84, hs_r_84_0, hs_t_84_0, hs_r_84_1, hs_t_84_1, hs_r_84_2, hs_t_84_2, hs_r_84_3, hs_t_84_3, hs_f_84_4, hs_i_85, hs_i_86, hs_i_87, hs_o_88, hs_r_88_0, hs_t_88_0, hs_r_88_1, hs_t_88_1, hs_r_88_2, hs_t_88_2, hs_r_88_3, hs_t_88_3, hs_r_88_4, hs_t_88_4, hs_r_88_5, hs_t_88_5, hs_r_88_6, hs_t_88_6, hs_r_88_7, hs_t_88_7, hs_f_88_8, hs_f_88_9, hs_i_89, hs_i_90, hs_i_91, hs_i_92, hs_i_93, hs_i_94, hs_i_95, hs_i_96, hs_i_97, hs_i_98, hs_i_99, hs_i_100, hs_i_101, hs_i_102, hs_o_103, hs_r_103_0, hs_t_103_0, hs_r_103_1, hs_t_103_1, hs_r_103_2, hs_t_103_2, hs_r_103_3, hs_t_103_3, hs_f_103_4, hs_i_104, hs_o_105, hs_r_105_0, hs_t_105_0, hs_r_105_1, hs_t_105_1, hs_r_105_2, hs_t_105_2, hs_i_106, hs_i_107, hs_o_108, hs_r_108_0, hs_t_108_0, hs_r_108_1, hs_t_108_1, hs_r_108_2, hs_t_108_2, hs_r_108_3, hs_t_108_3, hs_f_108_4, hs_i_109, hs_i_110, hs_o_111, hs_r_111_0, hs_t_111_0, hs_r_111_1, hs_t_111_1, hs_f_111_2, hs_f_111_3, hs_f_111_4, hs_i_112, hs_o_113, hs_f_113_0, hs_f_113_1, hs_f_113_2, hs_r_113_3, hs_t_113_3, hs_r_113_4, hs_t_113_4, hs_r_113_5, hs_t_113_5, hs_r_113_6, hs_t_113_6, hs_r_113_7, hs_t_113_7, hs_r_113_8, hs_t_113_8, hs_r_113_9, hs_t_113_9, hs_r_113_10, hs_t_113_10, hs_r_113_11, hs_t_113_11, hs_f_113_12, hs_f_113_13, hs_f_113_14, hs_r_113_15, hs_t_113_15, hs_f_113_16, hs_r_113_17, hs_t_113_17, hs_r_113_18, hs_t_113_18, hs_r_113_19, hs_t_113_19, hs_r_113_20, hs_t_113_20, hs_f_113_21, hs_f_113_22, hs_f_113_23, hs_r_113_24, hs_t_113_24, hs_f_113_25, hs_r_113_26, hs_t_113_26, hs_f_113_27, hs_i_114, hs_i_115, hs_i_116, hs_i_117, hs_i_118, hs_i_119, hs_i_120, hs_i_121, hs_i_122, hs_i_123, hs_i_124, hs_i_125, hs_i_126, hs_i_127, hs_i_128, hs_i_129, sp_X5_hasHall, sp_X8_within, hx1, hd_t01, hd_dn1, decide_eq_true_eq]
  by_cases h1 : 0 ≤ at_ ∧ at_ < nI (hp_H p)
  · by_cases h2 : (0 : Int32) ≤ v ∧ v ≤ 100000
    · obtain ⟨t, ht, rfl⟩ := hb_rng2 (show hp_H p < 2 ^ 31 by omega) h1.1 h1.2
      obtain ⟨k, hk, hk9, rfl⟩ := hb_rng3 (a := 0) (b := 100000) (by decide) (by decide) h2.1 h2.2
      simp only [h1, h2, and_self, not_true, if_false]
      have e : S.1 5 t = nI (hp_pr p t) := hx.2.2.2.2.2.1 t (by omega)
      refine sx_change hI (c := 5) (N := 7) (by decide) hs_i_5 (by decide) (by omega) (nI k) (p2 := hp_setpr p t k) (hp_ok_pr hok hk9) (Nat.le_refl _) (Nat.le_refl _) (fun S2 h => hx_P_pr h) _ (fun S2 hI2 hfr => ?_)
      rw [e]
      exact hk1 t k ht rfl hk hk9 rfl S2 hI2 hfr
    · simp only [h1, h2, and_self, not_true, if_false, not_false_iff, if_true]
      exact hk2 (fun r => h2 r.2)
  · simp only [h1, not_false_iff, if_true]
    exact hk2 (fun r => h1 r.1)
set_option maxHeartbeats 4000000 in
theorem sx_room {S : hd_S} {p : hp_P} {n : Nat} {q : Nat → hp_P} {hand : Nat} {cl : Nat → Nat} (hI : hx_I S p n q hand cl) (at_ v : Int32) (post : Option hd_V → hd_S → Prop)
    (hk1 : ∀ t k, t < hp_H p → at_ = nI t → 0 ≤ k → k ≤ 200 → v = nI k → ∀ S2, hx_I S2 (hp_setro p t k) (hp_kn n) (hp_kq n q p) hand cl → hx_fr S S2 → post (some (hd_vI (nI (hp_ro p t)))) S2)
    (hk2 : ¬ ((0 ≤ at_ ∧ at_ < nI (hp_H p)) ∧ (0 ≤ v ∧ v ≤ 200)) → post (some (hd_vI (-3))) S) : wm_X8_room [hd_vR 0, hd_vI at_, hd_vI v] S post := by
  have hok := hI.1.1
  have hx := hI.2.1
  have hT : hp_T p ≤ 8 := hok.1
  have hH : hp_H p ≤ 7 := hok.2.1
  have hx1 : S.1 1 1 = nI (hp_H p) := hx.2.1
  simp only [wm_X8_room, wo_X8_room, hd_mth, hd_rho0, hd_args, hd_wide, hq_sQ, hd_s0, hq_sI, hq_sJ, hd_sR, hd_sP, hd_sF, hd_sZ, hd_sG, hd_sA, hd_sL, hd_sB, hd_sO, hd_sN, hd_sD, hd_sW, hd_sE, hd_sRI, hd_sRZ, hd_sRJ, hd_sRR, hd_sRV, hd_sSw, hd_sw, hd_sCI, hd_sCL, hd_iK, hd_iL, hd_iU, hd_iB, hd_iD, hd_iJ, hd_iG, hd_iA, hd_iQ, hd_iC, hd_iN, hd_iE, hd_jK, hd_jL, hd_jU, hd_jB, hd_jD, hd_jH, hd_jI, hd_jA, hd_jQ, hd_jN, hd_rL, hd_rG, hd_rA, hd_rN, hd_cI, hd_c0, hd_cJ, hd_cX, hd_cA, hd_cO, hd_v0, hd_pI, hd_pJ, hd_pR, hd_nV, hd_nS, hd_get, hd_st, hd_stW, hd_cut, List.replicate, List.length_cons, List.length_nil, List.nil_append, List.cons_append, Nat.reduceAdd, Nat.reduceSub, Nat.reduceLeDiff, true_and, and_true, if_true, if_false, Bool.false_eq_true, List.append_nil, hs_o_0, hs_r_0_0, hs_t_0_0, hs_r_0_1, hs_t_0_1, hs_r_0_2, hs_t_0_2, hs_r_0_3, hs_t_0_3, hs_r_0_4, hs_t_0_4, hs_r_0_5, hs_t_0_5, hs_r_0_6, hs_t_0_6, hs_r_0_7, hs_t_0_7, hs_f_0_8, hs_o_1, hs_f_1_0, hs_f_1_1, hs_r_1_2, hs_t_1_2, hs_r_1_3, hs_t_1_3, hs_r_1_4, hs_t_1_4, hs_r_1_5, hs_t_1_5, hs_r_1_6, hs_t_1_6, hs_r_1_7, hs_t_1_7, hs_r_1_8, hs_t_1_8, hs_r_1_9, hs_t_1_9, hs_i_2, hs_i_3, hs_i_4, hs_i_5, hs_i_6, hs_i_7, hs_i_8, hs_i_9, hs_o_82, hs_r_82_0, hs_t_82_0, hs_f_82_1, hs_i_83, hs_o_84, hs_r_84_0, hs_t_84_0, hs_r_84_1, hs_t_84_1, hs_r_84_2, hs_t_84_2, hs_r_84_3, hs_t_84_3, hs_f_84_4, hs_i_85, hs_i_86, hs_i_87, hs_o_88, hs_r_88_0, hs_t_88_0, hs_r_88_1, hs_t_88_1, hs_r_88_2, hs_t_88_2, hs_r_88_3, hs_t_88_3, hs_r_88_4, hs_t_88_4, hs_r_88_5, hs_t_88_5, hs_r_88_6, hs_t_88_6, hs_r_88_7, hs_t_88_7, hs_f_88_8, hs_f_88_9, hs_i_89, hs_i_90, hs_i_91, hs_i_92, hs_i_93, hs_i_94, hs_i_95, hs_i_96, hs_i_97, hs_i_98, hs_i_99, hs_i_100, hs_i_101, hs_i_102, hs_o_103, hs_r_103_0, hs_t_103_0, hs_r_103_1, hs_t_103_1, hs_r_103_2, hs_t_103_2, hs_r_103_3, hs_t_103_3, hs_f_103_4, hs_i_104, hs_o_105, hs_r_105_0, hs_t_105_0, hs_r_105_1, hs_t_105_1, hs_r_105_2, hs_t_105_2, hs_i_106, hs_i_107, hs_o_108, hs_r_108_0, hs_t_108_0, hs_r_108_1, hs_t_108_1, hs_r_108_2, hs_t_108_2, hs_r_108_3, hs_t_108_3, hs_f_108_4, hs_i_109, hs_i_110, hs_o_111, hs_r_111_0, hs_t_111_0, hs_r_111_1, hs_t_111_1, hs_f_111_2, hs_f_111_3, hs_f_111_4, hs_i_112, hs_o_113, hs_f_113_0, hs_f_113_1, hs_f_113_2, hs_r_113_3, hs_t_113_3, hs_r_113_4, hs_t_113_4, hs_r_113_5, hs_t_113_5, hs_r_113_6, hs_t_113_6, hs_r_113_7, hs_t_113_7, hs_r_113_8, hs_t_113_8, hs_r_113_9, hs_t_113_9, hs_r_113_10, hs_t_113_10, hs_r_113_11, hs_t_113_11, hs_f_113_12, hs_f_113_13, hs_f_113_14, hs_r_113_15, hs_t_113_15, hs_f_113_16, hs_r_113_17, hs_t_113_17, hs_r_113_18, hs_t_113_18, hs_r_113_19, hs_t_113_19, hs_r_113_20, hs_t_113_20, hs_f_113_21, hs_f_113_22, hs_f_113_23, hs_r_113_24, hs_t_113_24, hs_f_113_25, hs_r_113_26, hs_t_113_26, hs_f_113_27, hs_i_114, hs_i_115, hs_i_116, hs_i_117, hs_i_118, hs_i_119, hs_i_120, hs_i_121, hs_i_122, hs_i_123, hs_i_124, hs_i_125, hs_i_126, hs_i_127, hs_i_128, hs_i_129, sp_X5_hasHall, sp_X8_within, hx1, hd_t01, hd_dn1, decide_eq_true_eq]
  by_cases h1 : 0 ≤ at_ ∧ at_ < nI (hp_H p)
  · by_cases h2 : (0 : Int32) ≤ v ∧ v ≤ 200
    · obtain ⟨t, ht, rfl⟩ := hb_rng2 (show hp_H p < 2 ^ 31 by omega) h1.1 h1.2
      obtain ⟨k, hk, hk9, rfl⟩ := hb_rng3 (a := 0) (b := 200) (by decide) (by decide) h2.1 h2.2
      simp only [h1, h2, and_self, not_true, if_false]
      have e : S.1 6 t = nI (hp_ro p t) := hx.2.2.2.2.2.2.1 t (by omega)
      refine sx_change hI (c := 6) (N := 7) (by decide) hs_i_6 (by decide) (by omega) (nI k) (p2 := hp_setro p t k) (hp_ok_ro hok hk9) (Nat.le_refl _) (Nat.le_refl _) (fun S2 h => hx_P_ro h) _ (fun S2 hI2 hfr => ?_)
      rw [e]
      exact hk1 t k ht rfl hk hk9 rfl S2 hI2 hfr
    · simp only [h1, h2, and_self, not_true, if_false, not_false_iff, if_true]
      exact hk2 (fun r => h2 r.2)
  · simp only [h1, not_false_iff, if_true]
    exact hk2 (fun r => h1 r.1)
set_option maxHeartbeats 4000000 in
theorem sx_place {S : hd_S} {p : hp_P} {n : Nat} {q : Nat → hp_P} {hand : Nat} {cl : Nat → Nat} (hI : hx_I S p n q hand cl) (at_ v : Int32) (post : Option hd_V → hd_S → Prop)
    (hk1 : ∀ t, t < hp_T p → at_ = nI t → -1000 ≤ v ∧ v ≤ 1000 → ∀ S2, hx_I S2 (hp_setsp p t v.toInt) (hp_kn n) (hp_kq n q p) hand cl → hx_fr S S2 → post (some (hd_vI 0)) S2)
    (hk2 : ¬ ((0 ≤ at_ ∧ at_ < nI (hp_T p)) ∧ (-1000 ≤ v ∧ v ≤ 1000)) → post (some (hd_vI (-3))) S) : wm_X8_place [hd_vR 0, hd_vI at_, hd_vI v] S post := by
  have hok := hI.1.1
  have hx := hI.2.1
  have hT : hp_T p ≤ 8 := hok.1
  have hx1 : S.1 1 0 = nI (hp_T p) := hx.1
  simp only [wm_X8_place, wo_X8_place, hd_mth, hd_rho0, hd_args, hd_wide, hq_sQ, hd_s0, hq_sI, hq_sJ, hd_sR, hd_sP, hd_sF, hd_sZ, hd_sG, hd_sA, hd_sL, hd_sB, hd_sO, hd_sN, hd_sD, hd_sW, hd_sE, hd_sRI, hd_sRZ, hd_sRJ, hd_sRR, hd_sRV, hd_sSw, hd_sw, hd_sCI, hd_sCL, hd_iK, hd_iL, hd_iU, hd_iB, hd_iD, hd_iJ, hd_iG, hd_iA, hd_iQ, hd_iC, hd_iN, hd_iE, hd_jK, hd_jL, hd_jU, hd_jB, hd_jD, hd_jH, hd_jI, hd_jA, hd_jQ, hd_jN, hd_rL, hd_rG, hd_rA, hd_rN, hd_cI, hd_c0, hd_cJ, hd_cX, hd_cA, hd_cO, hd_v0, hd_pI, hd_pJ, hd_pR, hd_nV, hd_nS, hd_get, hd_st, hd_stW, hd_cut, List.replicate, List.length_cons, List.length_nil, List.nil_append, List.cons_append, Nat.reduceAdd, Nat.reduceSub, Nat.reduceLeDiff, true_and, and_true, if_true, if_false, Bool.false_eq_true, List.append_nil, hs_o_0, hs_r_0_0, hs_t_0_0, hs_r_0_1, hs_t_0_1, hs_r_0_2, hs_t_0_2, hs_r_0_3, hs_t_0_3, hs_r_0_4, hs_t_0_4, hs_r_0_5, hs_t_0_5, hs_r_0_6, hs_t_0_6, hs_r_0_7, hs_t_0_7, hs_f_0_8, hs_o_1, hs_f_1_0, hs_f_1_1, hs_r_1_2, hs_t_1_2, hs_r_1_3, hs_t_1_3, hs_r_1_4, hs_t_1_4, hs_r_1_5, hs_t_1_5, hs_r_1_6, hs_t_1_6, hs_r_1_7, hs_t_1_7, hs_r_1_8, hs_t_1_8, hs_r_1_9, hs_t_1_9, hs_i_2, hs_i_3, hs_i_4, hs_i_5, hs_i_6, hs_i_7, hs_i_8, hs_i_9, hs_o_82, hs_r_82_0, hs_t_82_0, hs_f_82_1, hs_i_83, hs_o_84, hs_r_84_0, hs_t_84_0, hs_r_84_1, hs_t_84_1, hs_r_84_2, hs_t_84_2, hs_r_84_3, hs_t_84_3, hs_f_84_4, hs_i_85, hs_i_86, hs_i_87, hs_o_88, hs_r_88_0, hs_t_88_0, hs_r_88_1, hs_t_88_1, hs_r_88_2, hs_t_88_2, hs_r_88_3, hs_t_88_3, hs_r_88_4, hs_t_88_4, hs_r_88_5, hs_t_88_5, hs_r_88_6, hs_t_88_6, hs_r_88_7, hs_t_88_7, hs_f_88_8, hs_f_88_9, hs_i_89, hs_i_90, hs_i_91, hs_i_92, hs_i_93, hs_i_94, hs_i_95, hs_i_96, hs_i_97, hs_i_98, hs_i_99, hs_i_100, hs_i_101, hs_i_102, hs_o_103, hs_r_103_0, hs_t_103_0, hs_r_103_1, hs_t_103_1, hs_r_103_2, hs_t_103_2, hs_r_103_3, hs_t_103_3, hs_f_103_4, hs_i_104, hs_o_105, hs_r_105_0, hs_t_105_0, hs_r_105_1, hs_t_105_1, hs_r_105_2, hs_t_105_2, hs_i_106, hs_i_107, hs_o_108, hs_r_108_0, hs_t_108_0, hs_r_108_1, hs_t_108_1, hs_r_108_2, hs_t_108_2, hs_r_108_3, hs_t_108_3, hs_f_108_4, hs_i_109, hs_i_110, hs_o_111, hs_r_111_0, hs_t_111_0, hs_r_111_1, hs_t_111_1, hs_f_111_2, hs_f_111_3, hs_f_111_4, hs_i_112, hs_o_113, hs_f_113_0, hs_f_113_1, hs_f_113_2, hs_r_113_3, hs_t_113_3, hs_r_113_4, hs_t_113_4, hs_r_113_5, hs_t_113_5, hs_r_113_6, hs_t_113_6, hs_r_113_7, hs_t_113_7, hs_r_113_8, hs_t_113_8, hs_r_113_9, hs_t_113_9, hs_r_113_10, hs_t_113_10, hs_r_113_11, hs_t_113_11, hs_f_113_12, hs_f_113_13, hs_f_113_14, hs_r_113_15, hs_t_113_15, hs_f_113_16, hs_r_113_17, hs_t_113_17, hs_r_113_18, hs_t_113_18, hs_r_113_19, hs_t_113_19, hs_r_113_20, hs_t_113_20, hs_f_113_21, hs_f_113_22, hs_f_113_23, hs_r_113_24, hs_t_113_24, hs_f_113_25, hs_r_113_26, hs_t_113_26, hs_f_113_27, hs_i_114, hs_i_115, hs_i_116, hs_i_117, hs_i_118, hs_i_119, hs_i_120, hs_i_121, hs_i_122, hs_i_123, hs_i_124, hs_i_125, hs_i_126, hs_i_127, hs_i_128, hs_i_129, sp_X5_hasTown, sp_X8_within, hx1, hd_t01, hd_dn1, decide_eq_true_eq]
  by_cases h1 : 0 ≤ at_ ∧ at_ < nI (hp_T p)
  · by_cases h2 : (-1000 : Int32) ≤ v ∧ v ≤ 1000
    · obtain ⟨t, ht, rfl⟩ := hb_rng2 (show hp_T p < 2 ^ 31 by omega) h1.1 h1.2
      have hv1 : -1000 ≤ v.toInt := by
        have := h2.1
        rw [Int32.le_iff_toInt_le] at this
        have e : (-1000 : Int32).toInt = -1000 := by decide
        omega
      have hv2 : v.toInt ≤ 1000 := by
        have := h2.2
        rw [Int32.le_iff_toInt_le] at this
        have e : (1000 : Int32).toInt = 1000 := by decide
        omega
      simp only [h1, h2, and_self, not_true, if_false]
      refine sx_change hI (c := 4) (N := 8) (by decide) hs_i_4 (by decide) (by omega) v (p2 := hp_setsp p t v.toInt) (hp_ok_sp hok hv1 hv2) (Nat.le_refl _) (Nat.le_refl _) (fun S2 h => ?_) _ (fun S2 hI2 hfr => ?_)
      · have h9 := hx_P_sp (t := t) (v := v.toInt) h
        rw [fb_asI] at h9
        exact h9
      · exact hk1 t ht rfl h2 S2 hI2 hfr
    · simp only [h1, h2, and_self, not_true, if_false, not_false_iff, if_true]
      exact hk2 (fun r => h2 r.2)
  · simp only [h1, not_false_iff, if_true]
    exact hk2 (fun r => h1 r.1)
/-! a town more, a hall more, sheets -/
def hp_addT (p : hp_P) : hp_P := (p.1 + 1, p.2.1, hp_rep p.2.2.1 p.1 1, hp_rep p.2.2.2.1 p.1 0, hp_rep p.2.2.2.2.1 p.1 0, p.2.2.2.2.2)
def hp_sheet (p : hp_P) (h : Nat) (w : Int) (m : Nat) : hp_P := (p.1, p.2.1, p.2.2.1, p.2.2.2.1, p.2.2.2.2.1, p.2.2.2.2.2.1, p.2.2.2.2.2.2.1, hp_rep p.2.2.2.2.2.2.2.1 h w, hp_rep p.2.2.2.2.2.2.2.2.1 h m, hp_rep p.2.2.2.2.2.2.2.2.2 h (fun t => if t < m then 0 else 1000000))
def hp_addH (p : hp_P) : hp_P := hp_sheet (p.1, p.2.1 + 1, p.2.2.1, p.2.2.2.1, p.2.2.2.2.1, hp_rep p.2.2.2.2.2.1 p.2.1 0, hp_rep p.2.2.2.2.2.2.1 p.2.1 200, p.2.2.2.2.2.2.2) p.2.1 (-1) 0
theorem hp_ok_addT {p : hp_P} (h : hp_ok p) (h8 : hp_T p < 8) : hp_ok (hp_addT p) := by
  obtain ⟨o1, o2, o3, o4, o5, o6, o7, o8, o9, o10, o11⟩ := h
  refine ⟨h8, o2, fun i hi => ?_, fun i => ?_, fun i => ?_, fun i => ?_, o7, o8, o9, o10, o11⟩
  · show 1 ≤ hp_rep p.2.2.1 p.1 1 i
    unfold hp_rep
    split
    · exact Nat.le_refl _
    · refine o3 i ?_
      have : i < p.1 + 1 := hi
      show i < p.1
      omega
  · show hp_rep p.2.2.1 p.1 1 i ≤ 20
    unfold hp_rep
    split
    · decide
    · exact o4 i
  · show hp_rep p.2.2.2.1 p.1 0 i ≤ 100000
    unfold hp_rep
    split
    · decide
    · exact o5 i
  · show -1000 ≤ hp_rep p.2.2.2.2.1 p.1 0 i ∧ hp_rep p.2.2.2.2.1 p.1 0 i ≤ 1000
    unfold hp_rep
    split
    · decide
    · exact o6 i
set_option maxHeartbeats 4000000 in
theorem sx_town {S : hd_S} {p : hp_P} {n : Nat} {q : Nat → hp_P} {hand : Nat} {cl : Nat → Nat} (hI : hx_I S p n q hand cl) (post : Option hd_V → hd_S → Prop)
    (hk1 : hp_T p < 8 → ∀ S2, hx_I S2 (hp_addT p) (hp_kn n) (hp_kq n q p) hand cl → hx_fr S S2 → post (some (hd_vI (nI (hp_T p)))) S2)
    (hk2 : ¬ hp_T p < 8 → post (some (hd_vI (-5))) S) : wm_X8_town [hd_vR 0] S post := by
  have hok := hI.1.1
  have hx := hI.2.1
  have hT : hp_T p ≤ 8 := hok.1
  have hx1 : S.1 1 0 = nI (hp_T p) := hx.1
  simp only [wm_X8_town, wo_X8_town, hd_mth, hd_rho0, hd_args, hd_wide, hq_sQ, hd_s0, hq_sI, hq_sJ, hd_sR, hd_sP, hd_sF, hd_sZ, hd_sG, hd_sA, hd_sL, hd_sB, hd_sO, hd_sN, hd_sD, hd_sW, hd_sE, hd_sRI, hd_sRZ, hd_sRJ, hd_sRR, hd_sRV, hd_sSw, hd_sw, hd_sCI, hd_sCL, hd_iK, hd_iL, hd_iU, hd_iB, hd_iD, hd_iJ, hd_iG, hd_iA, hd_iQ, hd_iC, hd_iN, hd_iE, hd_jK, hd_jL, hd_jU, hd_jB, hd_jD, hd_jH, hd_jI, hd_jA, hd_jQ, hd_jN, hd_rL, hd_rG, hd_rA, hd_rN, hd_cI, hd_c0, hd_cJ, hd_cX, hd_cA, hd_cO, hd_v0, hd_pI, hd_pJ, hd_pR, hd_nV, hd_nS, hd_get, hd_st, hd_stW, hd_cut, List.replicate, List.length_cons, List.length_nil, List.nil_append, List.cons_append, Nat.reduceAdd, Nat.reduceSub, Nat.reduceLeDiff, true_and, and_true, if_true, if_false, Bool.false_eq_true, List.append_nil, hs_o_0, hs_r_0_0, hs_t_0_0, hs_r_0_1, hs_t_0_1, hs_r_0_2, hs_t_0_2, hs_r_0_3, hs_t_0_3, hs_r_0_4, hs_t_0_4, hs_r_0_5, hs_t_0_5, hs_r_0_6, hs_t_0_6, hs_r_0_7, hs_t_0_7, hs_f_0_8, hs_o_1, hs_f_1_0, hs_f_1_1, hs_r_1_2, hs_t_1_2, hs_r_1_3, hs_t_1_3, hs_r_1_4, hs_t_1_4, hs_r_1_5, hs_t_1_5, hs_r_1_6, hs_t_1_6, hs_r_1_7, hs_t_1_7, hs_r_1_8, hs_t_1_8, hs_r_1_9, hs_t_1_9, hs_i_2, hs_i_3, hs_i_4, hs_i_5, hs_i_6, hs_i_7, hs_i_8, hs_i_9, hs_o_82, hs_r_82_0, hs_t_82_0, hs_f_82_1, hs_i_83, hs_o_84, hs_r_84_0, hs_t_84_0, hs_r_84_1, hs_t_84_1, hs_r_84_2, hs_t_84_2, hs_r_84_3, hs_t_84_3, hs_f_84_4, hs_i_85, hs_i_86, hs_i_87, hs_o_88, hs_r_88_0, hs_t_88_0, hs_r_88_1, hs_t_88_1, hs_r_88_2, hs_t_88_2, hs_r_88_3, hs_t_88_3, hs_r_88_4, hs_t_88_4, hs_r_88_5, hs_t_88_5, hs_r_88_6, hs_t_88_6, hs_r_88_7, hs_t_88_7, hs_f_88_8, hs_f_88_9, hs_i_89, hs_i_90, hs_i_91, hs_i_92, hs_i_93, hs_i_94, hs_i_95, hs_i_96, hs_i_97, hs_i_98, hs_i_99, hs_i_100, hs_i_101, hs_i_102, hs_o_103, hs_r_103_0, hs_t_103_0, hs_r_103_1, hs_t_103_1, hs_r_103_2, hs_t_103_2, hs_r_103_3, hs_t_103_3, hs_f_103_4, hs_i_104, hs_o_105, hs_r_105_0, hs_t_105_0, hs_r_105_1, hs_t_105_1, hs_r_105_2, hs_t_105_2, hs_i_106, hs_i_107, hs_o_108, hs_r_108_0, hs_t_108_0, hs_r_108_1, hs_t_108_1, hs_r_108_2, hs_t_108_2, hs_r_108_3, hs_t_108_3, hs_f_108_4, hs_i_109, hs_i_110, hs_o_111, hs_r_111_0, hs_t_111_0, hs_r_111_1, hs_t_111_1, hs_f_111_2, hs_f_111_3, hs_f_111_4, hs_i_112, hs_o_113, hs_f_113_0, hs_f_113_1, hs_f_113_2, hs_r_113_3, hs_t_113_3, hs_r_113_4, hs_t_113_4, hs_r_113_5, hs_t_113_5, hs_r_113_6, hs_t_113_6, hs_r_113_7, hs_t_113_7, hs_r_113_8, hs_t_113_8, hs_r_113_9, hs_t_113_9, hs_r_113_10, hs_t_113_10, hs_r_113_11, hs_t_113_11, hs_f_113_12, hs_f_113_13, hs_f_113_14, hs_r_113_15, hs_t_113_15, hs_f_113_16, hs_r_113_17, hs_t_113_17, hs_r_113_18, hs_t_113_18, hs_r_113_19, hs_t_113_19, hs_r_113_20, hs_t_113_20, hs_f_113_21, hs_f_113_22, hs_f_113_23, hs_r_113_24, hs_t_113_24, hs_f_113_25, hs_r_113_26, hs_t_113_26, hs_f_113_27, hs_i_114, hs_i_115, hs_i_116, hs_i_117, hs_i_118, hs_i_119, hs_i_120, hs_i_121, hs_i_122, hs_i_123, hs_i_124, hs_i_125, hs_i_126, hs_i_127, hs_i_128, hs_i_129, hx1, show (8 : Int32) = nI 8 from rfl, hb_le (show 8 < 2 ^ 31 by omega) (show hp_T p < 2 ^ 31 by omega), decide_eq_true_eq]
  by_cases h8 : 8 ≤ hp_T p
  · simp only [h8, if_true]
    exact hk2 (by omega)
  · simp only [h8, if_false]
    refine sx_keepForUndo hok.2.1 hx hI.2.2.1 _ (fun S1 hkf hpa => ?_)
    have hxk := hx_kf_P hkf hx
    have hk0 : S1.1 1 0 = nI (hp_T p) := hxk.1
    simp only [wm_X5_addTown, wo_X5_addTown, hd_mth, hd_rho0, hd_args, hd_wide, hq_sQ, hd_s0, hq_sI, hq_sJ, hd_sR, hd_sP, hd_sF, hd_sZ, hd_sG, hd_sA, hd_sL, hd_sB, hd_sO, hd_sN, hd_sD, hd_sW, hd_sE, hd_sRI, hd_sRZ, hd_sRJ, hd_sRR, hd_sRV, hd_sSw, hd_sw, hd_sCI, hd_sCL, hd_iK, hd_iL, hd_iU, hd_iB, hd_iD, hd_iJ, hd_iG, hd_iA, hd_iQ, hd_iC, hd_iN, hd_iE, hd_jK, hd_jL, hd_jU, hd_jB, hd_jD, hd_jH, hd_jI, hd_jA, hd_jQ, hd_jN, hd_rL, hd_rG, hd_rA, hd_rN, hd_cI, hd_c0, hd_cJ, hd_cX, hd_cA, hd_cO, hd_v0, hd_pI, hd_pJ, hd_pR, hd_nV, hd_nS, hd_get, hd_st, hd_stW, hd_cut, List.replicate, List.length_cons, List.length_nil, List.nil_append, List.cons_append, Nat.reduceAdd, Nat.reduceSub, Nat.reduceLeDiff, true_and, and_true, if_true, if_false, Bool.false_eq_true, List.append_nil, hs_o_0, hs_r_0_0, hs_t_0_0, hs_r_0_1, hs_t_0_1, hs_r_0_2, hs_t_0_2, hs_r_0_3, hs_t_0_3, hs_r_0_4, hs_t_0_4, hs_r_0_5, hs_t_0_5, hs_r_0_6, hs_t_0_6, hs_r_0_7, hs_t_0_7, hs_f_0_8, hs_o_1, hs_f_1_0, hs_f_1_1, hs_r_1_2, hs_t_1_2, hs_r_1_3, hs_t_1_3, hs_r_1_4, hs_t_1_4, hs_r_1_5, hs_t_1_5, hs_r_1_6, hs_t_1_6, hs_r_1_7, hs_t_1_7, hs_r_1_8, hs_t_1_8, hs_r_1_9, hs_t_1_9, hs_i_2, hs_i_3, hs_i_4, hs_i_5, hs_i_6, hs_i_7, hs_i_8, hs_i_9, hs_o_82, hs_r_82_0, hs_t_82_0, hs_f_82_1, hs_i_83, hs_o_84, hs_r_84_0, hs_t_84_0, hs_r_84_1, hs_t_84_1, hs_r_84_2, hs_t_84_2, hs_r_84_3, hs_t_84_3, hs_f_84_4, hs_i_85, hs_i_86, hs_i_87, hs_o_88, hs_r_88_0, hs_t_88_0, hs_r_88_1, hs_t_88_1, hs_r_88_2, hs_t_88_2, hs_r_88_3, hs_t_88_3, hs_r_88_4, hs_t_88_4, hs_r_88_5, hs_t_88_5, hs_r_88_6, hs_t_88_6, hs_r_88_7, hs_t_88_7, hs_f_88_8, hs_f_88_9, hs_i_89, hs_i_90, hs_i_91, hs_i_92, hs_i_93, hs_i_94, hs_i_95, hs_i_96, hs_i_97, hs_i_98, hs_i_99, hs_i_100, hs_i_101, hs_i_102, hs_o_103, hs_r_103_0, hs_t_103_0, hs_r_103_1, hs_t_103_1, hs_r_103_2, hs_t_103_2, hs_r_103_3, hs_t_103_3, hs_f_103_4, hs_i_104, hs_o_105, hs_r_105_0, hs_t_105_0, hs_r_105_1, hs_t_105_1, hs_r_105_2, hs_t_105_2, hs_i_106, hs_i_107, hs_o_108, hs_r_108_0, hs_t_108_0, hs_r_108_1, hs_t_108_1, hs_r_108_2, hs_t_108_2, hs_r_108_3, hs_t_108_3, hs_f_108_4, hs_i_109, hs_i_110, hs_o_111, hs_r_111_0, hs_t_111_0, hs_r_111_1, hs_t_111_1, hs_f_111_2, hs_f_111_3, hs_f_111_4, hs_i_112, hs_o_113, hs_f_113_0, hs_f_113_1, hs_f_113_2, hs_r_113_3, hs_t_113_3, hs_r_113_4, hs_t_113_4, hs_r_113_5, hs_t_113_5, hs_r_113_6, hs_t_113_6, hs_r_113_7, hs_t_113_7, hs_r_113_8, hs_t_113_8, hs_r_113_9, hs_t_113_9, hs_r_113_10, hs_t_113_10, hs_r_113_11, hs_t_113_11, hs_f_113_12, hs_f_113_13, hs_f_113_14, hs_r_113_15, hs_t_113_15, hs_f_113_16, hs_r_113_17, hs_t_113_17, hs_r_113_18, hs_t_113_18, hs_r_113_19, hs_t_113_19, hs_r_113_20, hs_t_113_20, hs_f_113_21, hs_f_113_22, hs_f_113_23, hs_r_113_24, hs_t_113_24, hs_f_113_25, hs_r_113_26, hs_t_113_26, hs_f_113_27, hs_i_114, hs_i_115, hs_i_116, hs_i_117, hs_i_118, hs_i_119, hs_i_120, hs_i_121, hs_i_122, hs_i_123, hs_i_124, hs_i_125, hs_i_126, hs_i_127, hs_i_128, hs_i_129, true_and, hk0, vp_in_nI (show hp_T p < 8 by omega) (show 8 < 2 ^ 31 by decide), hd_cc (show hp_T p < 2147483648 by omega), nI_1]
    have h3 : ∀ d, d = 0 ∨ 10 ≤ d → (hd_wI (hd_wI (hd_wI (hd_wI S1 1 0 (nI (hp_T p + 1))) 2 (hp_T p) 1) 3 (hp_T p) 0) 4 (hp_T p) 0).1 d = S1.1 d := fun d hd => by
      funext j
      rw [hx_oth (by omega), hx_oth (by omega), hx_oth (by omega), hx_oth (by omega)]
    have hx3 : hx_P 1 (hd_wI (hd_wI (hd_wI (hd_wI S1 1 0 (nI (hp_T p + 1))) 2 (hp_T p) 1) 3 (hp_T p) 0) 4 (hp_T p) 0) (hp_addT p) := by
      obtain ⟨h1, h2, h3, h4, h5, h6, h7, h8, h9, h10⟩ := hxk
      refine ⟨?_, ?_, fun i hi => ?_, fun i hi => ?_, fun i hi => ?_, fun i hi => ?_, fun i hi => ?_, fun i hi => ?_, fun i hi => ?_, fun h hh i hi => ?_⟩
      · rw [hx_oth (by decide), hx_oth (by decide), hx_oth (by decide), hd_wI1, if_pos ⟨rfl, rfl⟩]
        rfl
      · rw [hx_oth (by decide), hx_oth (by decide), hx_oth (by decide), hd_wI1, if_neg (fun r => absurd r.2 (by decide))]
        exact h2
      · rw [hx_oth (by decide), hx_oth (by decide)]
        exact hx_rep (e := fun x => nI x) (v := 1) (fun i hi => (hx_oth (by decide)).trans (h3 i hi)) i hi
      · rw [hx_oth (by decide)]
        exact hx_rep (e := fun x => nI x) (v := 0) (fun i hi => (hx_oth (by decide)).trans ((hx_oth (by decide)).trans (h4 i hi))) i hi
      · have h5b : ∀ i, i < 8 → (hd_wI (hd_wI (hd_wI S1 1 0 (nI (hp_T p + 1))) 2 (hp_T p) 1) 3 (hp_T p) 0).1 (1 + 3) i = Int32.ofInt (hp_sp p i) := fun i hi => by
          rw [hx_oth (by decide), hx_oth (by decide), hx_oth (by decide)]
          exact h5 i hi
        exact hx_rep (e := fun x => Int32.ofInt x) (v := 0) h5b i hi
      · exact (hx_oth (by decide)).trans ((hx_oth (by decide)).trans ((hx_oth (by decide)).trans ((hx_oth (by decide)).trans (h6 i hi))))
      · exact (hx_oth (by decide)).trans ((hx_oth (by decide)).trans ((hx_oth (by decide)).trans ((hx_oth (by decide)).trans (h7 i hi))))
      · exact (hx_oth (by decide)).trans ((hx_oth (by decide)).trans ((hx_oth (by decide)).trans ((hx_oth (by decide)).trans (h8 i hi))))
      · exact (hx_oth (by decide)).trans ((hx_oth (by decide)).trans ((hx_oth (by decide)).trans ((hx_oth (by decide)).trans (h9 i hi))))
      · exact (hx_oth (by decide)).trans ((hx_oth (by decide)).trans ((hx_oth (by decide)).trans ((hx_oth (by decide)).trans (h10 h hh i hi))))
    obtain ⟨g1, g2⟩ := hx_I_new hI hkf hpa h3 rfl hx3 (hp_ok_addT hok (by omega)) (Nat.le_succ _) (Nat.le_refl _)
    exact hk1 (by omega) _ g1 g2
