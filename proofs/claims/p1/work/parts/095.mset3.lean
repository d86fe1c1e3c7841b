/-! sheet, lose, way: the reference -/
theorem hm_wdm {S : hd_S} {p : hp_P} (hok : hp_ok p) (hm : hm_P S p) {h : Nat} (hh : h < 7) : (S.1 119 h = -1) ↔ hp_wd p h = -1 := by
  rw [show S.1 119 h = Int32.ofInt (hp_wd p h) from hm.2.2.2.2.2.2.2.1 h hh]
  exact hp_wd1 (hok.2.2.2.2.2.2.2.2.1 h)
set_option maxHeartbeats 4000000 in
theorem sp_sheet {S : hd_S} {p : hp_P} {n : Nat} {q : Nat → hp_P} {hand : Nat} {cl : Nat → Nat} (hI : hm_I S p n q hand cl) (hall width m : Int32) (post : Option hd_V → hd_S → Prop)
    (hk1 : ∀ h w k, h < hp_H p → hall = nI h → w ≤ 2 → width = nI w → k ≤ 8 → m = nI k → ∀ S2, hm_I S2 (hp_sheet p h w k) (hp_kn n) (hp_kq n q p) hand cl → hm_fr S S2 → post (some (hd_vI m)) S2)
    (hk2 : ¬ (((0 ≤ hall ∧ hall < nI (hp_H p)) ∧ (0 ≤ width ∧ width ≤ 2)) ∧ ¬ 8 < m) → post (some (hd_vI (-3))) (hd_wI S 113 0 0))
    (hk3 : ((0 ≤ hall ∧ hall < nI (hp_H p)) ∧ (0 ≤ width ∧ width ≤ 2)) → ¬ 8 < m → m < 0 → post (some (hd_vI (-14))) (hd_wI S 113 0 0)) : wm_X9_sheet [hd_vR 113, hd_vI hall, hd_vI width, hd_vI m] S post := by
  have hok := hI.1.1
  have hm0 := (hm_I_0 hI).1.2.1
  have hH : hp_H p ≤ 7 := hok.2.1
  simp only [wm_X9_sheet, wo_X9_sheet, hd_mth, hd_rho0, hd_args, hd_wide, hq_sQ, hd_s0, hq_sI, hq_sJ, hd_sR, hd_sP, hd_sF, hd_sZ, hd_sG, hd_sA, hd_sL, hd_sB, hd_sO, hd_sN, hd_sD, hd_sW, hd_sE, hd_sRI, hd_sRZ, hd_sRJ, hd_sRR, hd_sRV, hd_sSw, hd_sw, hd_sCI, hd_sCL, hd_iK, hd_iL, hd_iU, hd_iB, hd_iD, hd_iJ, hd_iG, hd_iA, hd_iQ, hd_iC, hd_iN, hd_iE, hd_jK, hd_jL, hd_jU, hd_jB, hd_jD, hd_jH, hd_jI, hd_jA, hd_jQ, hd_jN, hd_rL, hd_rG, hd_rA, hd_rN, hd_cI, hd_c0, hd_cJ, hd_cX, hd_cA, hd_cO, hd_v0, hd_pI, hd_pJ, hd_pR, hd_nV, hd_nS, hd_get, hd_st, hd_stW, hd_cut, List.replicate, List.length_cons, List.length_nil, List.nil_append, List.cons_append, Nat.reduceAdd, Nat.reduceSub, Nat.reduceLeDiff, true_and, and_true, if_true, if_false, Bool.false_eq_true, List.append_nil, hs_o_0, hs_r_0_0, hs_t_0_0, hs_r_0_1, hs_t_0_1, hs_r_0_2, hs_t_0_2, hs_r_0_3, hs_t_0_3, hs_r_0_4, hs_t_0_4, hs_r_0_5, hs_t_0_5, hs_r_0_6, hs_t_0_6, hs_r_0_7, hs_t_0_7, hs_f_0_8, hs_o_1, hs_f_1_0, hs_f_1_1, hs_r_1_2, hs_t_1_2, hs_r_1_3, hs_t_1_3, hs_r_1_4, hs_t_1_4, hs_r_1_5, hs_t_1_5, hs_r_1_6, hs_t_1_6, hs_r_1_7, hs_t_1_7, hs_r_1_8, hs_t_1_8, hs_r_1_9, hs_t_1_9, hs_i_2, hs_i_3, hs_i_4, hs_i_5, hs_i_6, hs_i_7, hs_i_8, hs_i_9, hs_o_82, hs_r_82_0, hs_t_82_0, hs_f_82_1, hs_i_83, hs_o_84, hs_r_84_0, hs_t_84_0, hs_r_84_1, hs_t_84_1, hs_r_84_2, hs_t_84_2, hs_r_84_3, hs_t_84_3, hs_f_84_4, hs_i_85, hs_i_86, hs_i_87, hs_o_88, hs_r_88_0, hs_t_88_0, hs_r_88_1, hs_t_88_1, hs_r_88_2, hs_t_88_2, hs_r_88_3, hs_t_88_3, hs_r_88_4, hs_t_88_4, hs_r_88_5, hs_t_88_5, hs_r_88_6, hs_t_88_6, hs_r_88_7, hs_t_88_7, hs_f_88_8, hs_f_88_9, hs_i_89, hs_i_90, hs_i_91, hs_i_92, hs_i_93, hs_i_94, hs_i_95, hs_i_96, hs_i_97, hs_i_98, hs_i_99, hs_i_100, hs_i_101, hs_i_102, hs_o_103, hs_r_103_0, hs_t_103_0, hs_r_103_1, hs_t_103_1, hs_r_103_2, hs_t_103_2, hs_r_103_3, hs_t_103_3, hs_f_103_4, hs_i_104, hs_o_105, hs_r_105_0, hs_t_105_0, hs_r_105_1, hs_t_105_1, hs_r_105_2, hs_t_105_2, hs_i_106, hs_i_107, hs_o_108, hs_r_108_0, hs_t_108_0, hs_r_108_1, hs_t_108_1, hs_r_108_2, hs_t_108_2, hs_r_108_3, hs_t_108_3, hs_f_108_4, hs_i_109, hs_i_110, hs_o_111, hs_r_111_0, hs_t_111_0, hs_r_111_1, hs_t_111_1, hs_f_111_2, hs_f_111_3, hs_f_111_4, hs_i_112, hs_o_113, hs_f_113_0, hs_f_113_1, hs_f_113_2, hs_r_113_3, hs_t_113_3, hs_r_113_4, hs_t_113_4, hs_r_113_5, hs_t_113_5, hs_r_113_6, hs_t_113_6, hs_r_113_7, hs_t_113_7, hs_r_113_8, hs_t_113_8, hs_r_113_9, hs_t_113_9, hs_r_113_10, hs_t_113_10, hs_r_113_11, hs_t_113_11, hs_f_113_12, hs_f_113_13, hs_f_113_14, hs_r_113_15, hs_t_113_15, hs_f_113_16, hs_r_113_17, hs_t_113_17, hs_r_113_18, hs_t_113_18, hs_r_113_19, hs_t_113_19, hs_r_113_20, hs_t_113_20, hs_f_113_21, hs_f_113_22, hs_f_113_23, hs_r_113_24, hs_t_113_24, hs_f_113_25, hs_r_113_26, hs_t_113_26, hs_f_113_27, hs_i_114, hs_i_115, hs_i_116, hs_i_117, hs_i_118, hs_i_119, hs_i_120, hs_i_121, hs_i_122, hs_i_123, hs_i_124, hs_i_125, hs_i_126, hs_i_127, hs_i_128, hs_i_129, sp_isHall hok hm0.2.1, sp_X9_in, hd_t01, hd_dn1, decide_eq_true_eq]
  by_cases h1 : 0 ≤ hall ∧ hall < nI (hp_H p)
  · by_cases h2 : (0 : Int32) ≤ width ∧ width ≤ 2
    · by_cases h3 : (8 : Int32) < m
      · simp only [h1, h2, h3, and_self, if_true, show ¬ ((1 : Int32) = 0) by decide, not_false_iff, not_true, if_false]
        exact hk2 (fun r => r.2 h3)
      · by_cases h4 : m < 0
        · simp only [h1, h2, h3, h4, and_self, if_true, show ¬ ((1 : Int32) = 0) by decide, not_false_iff, not_true, if_false]
          exact hk3 ⟨h1, h2⟩ h3 h4
        · obtain ⟨h, hh, rfl⟩ := hb_rng2 (show hp_H p < 2 ^ 31 by omega) h1.1 h1.2
          obtain ⟨w, hw, rfl⟩ := hb_rng (m := 2) (by decide) h2.1 h2.2
          obtain ⟨k, hk, rfl⟩ := hb_rng (m := 8) (by decide) (fa_of_nlt h4) (fa_of_nlt h3)
          have e : (nI w : Int32) = Int32.ofInt (w : Int) := by
            rw [← Int32.toInt_inj, nI_toInt (by omega), fb_ofI (by omega) (by omega)]
          simp only [h1, h2, h3, h4, and_self, if_true, show ¬ ((1 : Int32) = 0) by decide, not_false_iff, not_true, if_false]
          refine sp_keep0 hI _ (fun S1 he hf hpa hm1 => ?_)
          simp only [true_and, vp_in_nI (show h < 7 by omega) (show 7 < 2 ^ 31 by decide), hd_cc (show h < 2147483648 by omega)]
          refine hd_up (S := hd_wI (hd_wI S1 119 h (nI w)) 120 h (nI k)) (fun i ρ S2 => (∀ c, c ≠ 119 → c ≠ 120 → c ≠ 121 → S2.1 c = S1.1 c) ∧ S2.2 = S1.2 ∧ (∀ j, S2.1 119 j = if j = h then nI w else S1.1 119 j) ∧ (∀ j, S2.1 120 j = if j = h then nI k else S1.1 120 j) ∧ (∀ j, S2.1 121 j = if h * 8 ≤ j ∧ j < h * 8 + i then nI 0 else S1.1 121 j) ∧ ρ = [hd_vR 113, hd_vI (nI h), hd_vI (nI w), hd_vI (nI k), hd_vI (nI i)]) 8 ?_ ?_ (Nat.zero_le _) ⟨fun c c1 c2 c3 => ?_, rfl, fun j => ?_, fun j => ?_, fun j => ?_, rfl⟩
          · rintro i ρ S2 K hi ⟨a1, a2, a3, a4, a5, rfl⟩ hK
            simp only [wc_X9_sheet_59, wb_X9_sheet_59, hd_mth, hd_rho0, hd_args, hd_wide, hq_sQ, hd_s0, hq_sI, hq_sJ, hd_sR, hd_sP, hd_sF, hd_sZ, hd_sG, hd_sA, hd_sL, hd_sB, hd_sO, hd_sN, hd_sD, hd_sW, hd_sE, hd_sRI, hd_sRZ, hd_sRJ, hd_sRR, hd_sRV, hd_sSw, hd_sw, hd_sCI, hd_sCL, hd_iK, hd_iL, hd_iU, hd_iB, hd_iD, hd_iJ, hd_iG, hd_iA, hd_iQ, hd_iC, hd_iN, hd_iE, hd_jK, hd_jL, hd_jU, hd_jB, hd_jD, hd_jH, hd_jI, hd_jA, hd_jQ, hd_jN, hd_rL, hd_rG, hd_rA, hd_rN, hd_cI, hd_c0, hd_cJ, hd_cX, hd_cA, hd_cO, hd_v0, hd_pI, hd_pJ, hd_pR, hd_nV, hd_nS, hd_get, hd_st, hd_stW, hd_cut, List.replicate, List.length_cons, List.length_nil, List.nil_append, List.cons_append, Nat.reduceAdd, Nat.reduceSub, Nat.reduceLeDiff, true_and, and_true, if_true, if_false, Bool.false_eq_true, List.append_nil, hs_o_0, hs_r_0_0, hs_t_0_0, hs_r_0_1, hs_t_0_1, hs_r_0_2, hs_t_0_2, hs_r_0_3, hs_t_0_3, hs_r_0_4, hs_t_0_4, hs_r_0_5, hs_t_0_5, hs_r_0_6, hs_t_0_6, hs_r_0_7, hs_t_0_7, hs_f_0_8, hs_o_1, hs_f_1_0, hs_f_1_1, hs_r_1_2, hs_t_1_2, hs_r_1_3, hs_t_1_3, hs_r_1_4, hs_t_1_4, hs_r_1_5, hs_t_1_5, hs_r_1_6, hs_t_1_6, hs_r_1_7, hs_t_1_7, hs_r_1_8, hs_t_1_8, hs_r_1_9, hs_t_1_9, hs_i_2, hs_i_3, hs_i_4, hs_i_5, hs_i_6, hs_i_7, hs_i_8, hs_i_9, hs_o_82, hs_r_82_0, hs_t_82_0, hs_f_82_1, hs_i_83, hs_o_84, hs_r_84_0, hs_t_84_0, hs_r_84_1, hs_t_84_1, hs_r_84_2, hs_t_84_2, hs_r_84_3, hs_t_84_3, hs_f_84_4, hs_i_85, hs_i_86, hs_i_87, hs_o_88, hs_r_88_0, hs_t_88_0, hs_r_88_1, hs_t_88_1, hs_r_88_2, hs_t_88_2, hs_r_88_3, hs_t_88_3, hs_r_88_4, hs_t_88_4, hs_r_88_5, hs_t_88_5, hs_r_88_6, hs_t_88_6, hs_r_88_7, hs_t_88_7, hs_f_88_8, hs_f_88_9, hs_i_89, hs_i_90, hs_i_91, hs_i_92, hs_i_93, hs_i_94, hs_i_95, hs_i_96, hs_i_97, hs_i_98, hs_i_99, hs_i_100, hs_i_101, hs_i_102, hs_o_103, hs_r_103_0, hs_t_103_0, hs_r_103_1, hs_t_103_1, hs_r_103_2, hs_t_103_2, hs_r_103_3, hs_t_103_3, hs_f_103_4, hs_i_104, hs_o_105, hs_r_105_0, hs_t_105_0, hs_r_105_1, hs_t_105_1, hs_r_105_2, hs_t_105_2, hs_i_106, hs_i_107, hs_o_108, hs_r_108_0, hs_t_108_0, hs_r_108_1, hs_t_108_1, hs_r_108_2, hs_t_108_2, hs_r_108_3, hs_t_108_3, hs_f_108_4, hs_i_109, hs_i_110, hs_o_111, hs_r_111_0, hs_t_111_0, hs_r_111_1, hs_t_111_1, hs_f_111_2, hs_f_111_3, hs_f_111_4, hs_i_112, hs_o_113, hs_f_113_0, hs_f_113_1, hs_f_113_2, hs_r_113_3, hs_t_113_3, hs_r_113_4, hs_t_113_4, hs_r_113_5, hs_t_113_5, hs_r_113_6, hs_t_113_6, hs_r_113_7, hs_t_113_7, hs_r_113_8, hs_t_113_8, hs_r_113_9, hs_t_113_9, hs_r_113_10, hs_t_113_10, hs_r_113_11, hs_t_113_11, hs_f_113_12, hs_f_113_13, hs_f_113_14, hs_r_113_15, hs_t_113_15, hs_f_113_16, hs_r_113_17, hs_t_113_17, hs_r_113_18, hs_t_113_18, hs_r_113_19, hs_t_113_19, hs_r_113_20, hs_t_113_20, hs_f_113_21, hs_f_113_22, hs_f_113_23, hs_r_113_24, hs_t_113_24, hs_f_113_25, hs_r_113_26, hs_t_113_26, hs_f_113_27, hs_i_114, hs_i_115, hs_i_116, hs_i_117, hs_i_118, hs_i_119, hs_i_120, hs_i_121, hs_i_122, hs_i_123, hs_i_124, hs_i_125, hs_i_126, hs_i_127, hs_i_128, hs_i_129, hd_lit8, nI_ltI (show i < 2 ^ 31 by omega) (show 8 < 2 ^ 31 by omega), hi, decide_true, pk_mul, nI_add, show 8 * h + i = h * 8 + i by omega, vp_in_nI (show h * 8 + i < 56 by omega) (show 56 < 2 ^ 31 by decide), hd_cc (show h * 8 + i < 2147483648 by omega), nI_1]
            refine hK _ _ ⟨fun c c1 c2 c3 => by rw [← a1 c c1 c2 c3]; funext j; rw [hx_oth c3], a2, fun j => by rw [hx_oth (by decide)]; exact a3 j, fun j => by rw [hx_oth (by decide)]; exact a4 j, fun j => ?_, rfl⟩
            rw [hd_wI1]
            by_cases hj : j = h * 8 + i
            · rw [if_pos ⟨rfl, hj⟩, if_pos (show h * 8 ≤ j ∧ j < h * 8 + (i + 1) by omega)]
              rfl
            · rw [if_neg (fun r => hj r.2), a5 j]
              by_cases hc : h * 8 ≤ j ∧ j < h * 8 + i
              · rw [if_pos hc, if_pos (show h * 8 ≤ j ∧ j < h * 8 + (i + 1) by omega)]
              · rw [if_neg hc, if_neg (show ¬ (h * 8 ≤ j ∧ j < h * 8 + (i + 1)) by omega)]
          · rintro ρ S2 K ⟨a1, a2, a3, a4, a5, rfl⟩
            simp only [wc_X9_sheet_59, hd_mth, hd_rho0, hd_args, hd_wide, hq_sQ, hd_s0, hq_sI, hq_sJ, hd_sR, hd_sP, hd_sF, hd_sZ, hd_sG, hd_sA, hd_sL, hd_sB, hd_sO, hd_sN, hd_sD, hd_sW, hd_sE, hd_sRI, hd_sRZ, hd_sRJ, hd_sRR, hd_sRV, hd_sSw, hd_sw, hd_sCI, hd_sCL, hd_iK, hd_iL, hd_iU, hd_iB, hd_iD, hd_iJ, hd_iG, hd_iA, hd_iQ, hd_iC, hd_iN, hd_iE, hd_jK, hd_jL, hd_jU, hd_jB, hd_jD, hd_jH, hd_jI, hd_jA, hd_jQ, hd_jN, hd_rL, hd_rG, hd_rA, hd_rN, hd_cI, hd_c0, hd_cJ, hd_cX, hd_cA, hd_cO, hd_v0, hd_pI, hd_pJ, hd_pR, hd_nV, hd_nS, hd_get, hd_st, hd_stW, hd_cut, List.replicate, List.length_cons, List.length_nil, List.nil_append, List.cons_append, Nat.reduceAdd, Nat.reduceSub, Nat.reduceLeDiff, true_and, and_true, if_true, if_false, Bool.false_eq_true, List.append_nil, hs_o_0, hs_r_0_0, hs_t_0_0, hs_r_0_1, hs_t_0_1, hs_r_0_2, hs_t_0_2, hs_r_0_3, hs_t_0_3, hs_r_0_4, hs_t_0_4, hs_r_0_5, hs_t_0_5, hs_r_0_6, hs_t_0_6, hs_r_0_7, hs_t_0_7, hs_f_0_8, hs_o_1, hs_f_1_0, hs_f_1_1, hs_r_1_2, hs_t_1_2, hs_r_1_3, hs_t_1_3, hs_r_1_4, hs_t_1_4, hs_r_1_5, hs_t_1_5, hs_r_1_6, hs_t_1_6, hs_r_1_7, hs_t_1_7, hs_r_1_8, hs_t_1_8, hs_r_1_9, hs_t_1_9, hs_i_2, hs_i_3, hs_i_4, hs_i_5, hs_i_6, hs_i_7, hs_i_8, hs_i_9, hs_o_82, hs_r_82_0, hs_t_82_0, hs_f_82_1, hs_i_83, hs_o_84, hs_r_84_0, hs_t_84_0, hs_r_84_1, hs_t_84_1, hs_r_84_2, hs_t_84_2, hs_r_84_3, hs_t_84_3, hs_f_84_4, hs_i_85, hs_i_86, hs_i_87, hs_o_88, hs_r_88_0, hs_t_88_0, hs_r_88_1, hs_t_88_1, hs_r_88_2, hs_t_88_2, hs_r_88_3, hs_t_88_3, hs_r_88_4, hs_t_88_4, hs_r_88_5, hs_t_88_5, hs_r_88_6, hs_t_88_6, hs_r_88_7, hs_t_88_7, hs_f_88_8, hs_f_88_9, hs_i_89, hs_i_90, hs_i_91, hs_i_92, hs_i_93, hs_i_94, hs_i_95, hs_i_96, hs_i_97, hs_i_98, hs_i_99, hs_i_100, hs_i_101, hs_i_102, hs_o_103, hs_r_103_0, hs_t_103_0, hs_r_103_1, hs_t_103_1, hs_r_103_2, hs_t_103_2, hs_r_103_3, hs_t_103_3, hs_f_103_4, hs_i_104, hs_o_105, hs_r_105_0, hs_t_105_0, hs_r_105_1, hs_t_105_1, hs_r_105_2, hs_t_105_2, hs_i_106, hs_i_107, hs_o_108, hs_r_108_0, hs_t_108_0, hs_r_108_1, hs_t_108_1, hs_r_108_2, hs_t_108_2, hs_r_108_3, hs_t_108_3, hs_f_108_4, hs_i_109, hs_i_110, hs_o_111, hs_r_111_0, hs_t_111_0, hs_r_111_1, hs_t_111_1, hs_f_111_2, hs_f_111_3, hs_f_111_4, hs_i_112, hs_o_113, hs_f_113_0, hs_f_113_1, hs_f_113_2, hs_r_113_3, hs_t_113_3, hs_r_113_4, hs_t_113_4, hs_r_113_5, hs_t_113_5, hs_r_113_6, hs_t_113_6, hs_r_113_7, hs_t_113_7, hs_r_113_8, hs_t_113_8, hs_r_113_9, hs_t_113_9, hs_r_113_10, hs_t_113_10, hs_r_113_11, hs_t_113_11, hs_f_113_12, hs_f_113_13, hs_f_113_14, hs_r_113_15, hs_t_113_15, hs_f_113_16, hs_r_113_17, hs_t_113_17, hs_r_113_18, hs_t_113_18, hs_r_113_19, hs_t_113_19, hs_r_113_20, hs_t_113_20, hs_f_113_21, hs_f_113_22, hs_f_113_23, hs_r_113_24, hs_t_113_24, hs_f_113_25, hs_r_113_26, hs_t_113_26, hs_f_113_27, hs_i_114, hs_i_115, hs_i_116, hs_i_117, hs_i_118, hs_i_119, hs_i_120, hs_i_121, hs_i_122, hs_i_123, hs_i_124, hs_i_125, hs_i_126, hs_i_127, hs_i_128, hs_i_129, hd_lit8, Int32.lt_irrefl, decide_false]
            have hm3 : hm_P S2 (hp_sheet p h (w : Int) k) := hm_P_sheet hm1 ⟨by rw [a1 113 (by decide) (by decide) (by decide)], by rw [a1 113 (by decide) (by decide) (by decide)]⟩ (fun c c1 c2 => a1 c (by omega) (by omega) (by omega)) (by rw [← e]; exact a3) a4 (fun j hj => by rw [a5 j, if_neg hj]) (fun _ t ht => by rw [a5, if_pos (by omega)])
            obtain ⟨g1, g2⟩ := hm_I_new hI he hf hpa (fun c hc => a1 c (by omega) (by omega) (by omega)) (fun f _ => by rw [a1 113 (by decide) (by decide) (by decide)]) a2 hm3 (hp_ok_sheet hok (by omega) hk (fun r => by omega)) (Nat.le_refl _) (Nat.le_refl _)
            exact hk1 h w k hh rfl hw rfl hk rfl S2 g1 g2
          · funext j
            rw [hx_oth c2, hx_oth c1]
          · rw [hx_oth (by decide), hd_wI1]
            by_cases hj : j = h <;> simp [hj]
          · rw [hd_wI1, hx_oth (by decide)]
            by_cases hj : j = h <;> simp [hj]
          · rw [if_neg (by omega), hx_oth (by decide), hx_oth (by decide)]
    · simp only [h1, h2, and_self, if_true, show ¬ ((1 : Int32) = 0) by decide, not_true, if_false, not_false_iff]
      exact hk2 (fun r => h2 r.1.2)
  · simp only [h1, if_false, not_true, not_false_iff, if_true]
    exact hk2 (fun r => h1 r.1.1)
set_option maxHeartbeats 4000000 in
theorem sp_lose {S : hd_S} {p : hp_P} {n : Nat} {q : Nat → hp_P} {hand : Nat} {cl : Nat → Nat} (hI : hm_I S p n q hand cl) (hall : Int32) (post : Option hd_V → hd_S → Prop)
    (hk1 : ∀ h, h < hp_H p → hall = nI h → hp_wd p h ≠ -1 → ∀ S2, hm_I S2 (hp_sheet p h (-1) 0) (hp_kn n) (hp_kq n q p) hand cl → hm_fr S S2 → post (some (hd_vI (nI (hp_ln p h)))) S2)
    (hk2 : ¬ (0 ≤ hall ∧ hall < nI (hp_H p)) → post (some (hd_vI (-3))) (hd_wI S 113 0 0))
    (hk3 : ∀ h, h < hp_H p → hall = nI h → hp_wd p h = -1 → post (some (hd_vI (-11))) (hd_wI S 113 0 0)) : wm_X9_lose [hd_vR 113, hd_vI hall] S post := by
  have hok := hI.1.1
  have hm0 := (hm_I_0 hI).1.2.1
  have hH : hp_H p ≤ 7 := hok.2.1
  simp only [wm_X9_lose, wo_X9_lose, hd_mth, hd_rho0, hd_args, hd_wide, hq_sQ, hd_s0, hq_sI, hq_sJ, hd_sR, hd_sP, hd_sF, hd_sZ, hd_sG, hd_sA, hd_sL, hd_sB, hd_sO, hd_sN, hd_sD, hd_sW, hd_sE, hd_sRI, hd_sRZ, hd_sRJ, hd_sRR, hd_sRV, hd_sSw, hd_sw, hd_sCI, hd_sCL, hd_iK, hd_iL, hd_iU, hd_iB, hd_iD, hd_iJ, hd_iG, hd_iA, hd_iQ, hd_iC, hd_iN, hd_iE, hd_jK, hd_jL, hd_jU, hd_jB, hd_jD, hd_jH, hd_jI, hd_jA, hd_jQ, hd_jN, hd_rL, hd_rG, hd_rA, hd_rN, hd_cI, hd_c0, hd_cJ, hd_cX, hd_cA, hd_cO, hd_v0, hd_pI, hd_pJ, hd_pR, hd_nV, hd_nS, hd_get, hd_st, hd_stW, hd_cut, List.replicate, List.length_cons, List.length_nil, List.nil_append, List.cons_append, Nat.reduceAdd, Nat.reduceSub, Nat.reduceLeDiff, true_and, and_true, if_true, if_false, Bool.false_eq_true, List.append_nil, hs_o_0, hs_r_0_0, hs_t_0_0, hs_r_0_1, hs_t_0_1, hs_r_0_2, hs_t_0_2, hs_r_0_3, hs_t_0_3, hs_r_0_4, hs_t_0_4, hs_r_0_5, hs_t_0_5, hs_r_0_6, hs_t_0_6, hs_r_0_7, hs_t_0_7, hs_f_0_8, hs_o_1, hs_f_1_0, hs_f_1_1, hs_r_1_2, hs_t_1_2, hs_r_1_3, hs_t_1_3, hs_r_1_4, hs_t_1_4, hs_r_1_5, hs_t_1_5, hs_r_1_6, hs_t_1_6, hs_r_1_7, hs_t_1_7, hs_r_1_8, hs_t_1_8, hs_r_1_9, hs_t_1_9, hs_i_2, hs_i_3, hs_i_4, hs_i_5, hs_i_6, hs_i_7, hs_i_8, hs_i_9, hs_o_82, hs_r_82_0, hs_t_82_0, hs_f_82_1, hs_i_83, hs_o_84, hs_r_84_0, hs_t_84_0, hs_r_84_1, hs_t_84_1, hs_r_84_2, hs_t_84_2, hs_r_84_3, hs_t_84_3, hs_f_84_4, hs_i_85, hs_i_86, hs_i_87, hs_o_88, hs_r_88_0, hs_t_88_0, hs_r_88_1, hs_t_88_1, hs_r_88_2, hs_t_88_2, hs_r_88_3, hs_t_88_3, hs_r_88_4, hs_t_88_4, hs_r_88_5, hs_t_88_5, hs_r_88_6, hs_t_88_6, hs_r_88_7, hs_t_88_7, hs_f_88_8, hs_f_88_9, hs_i_89, hs_i_90, hs_i_91, hs_i_92, hs_i_93, hs_i_94, hs_i_95, hs_i_96, hs_i_97, hs_i_98, hs_i_99, hs_i_100, hs_i_101, hs_i_102, hs_o_103, hs_r_103_0, hs_t_103_0, hs_r_103_1, hs_t_103_1, hs_r_103_2, hs_t_103_2, hs_r_103_3, hs_t_103_3, hs_f_103_4, hs_i_104, hs_o_105, hs_r_105_0, hs_t_105_0, hs_r_105_1, hs_t_105_1, hs_r_105_2, hs_t_105_2, hs_i_106, hs_i_107, hs_o_108, hs_r_108_0, hs_t_108_0, hs_r_108_1, hs_t_108_1, hs_r_108_2, hs_t_108_2, hs_r_108_3, hs_t_108_3, hs_f_108_4, hs_i_109, hs_i_110, hs_o_111, hs_r_111_0, hs_t_111_0, hs_r_111_1, hs_t_111_1, hs_f_111_2, hs_f_111_3, hs_f_111_4, hs_i_112, hs_o_113, hs_f_113_0, hs_f_113_1, hs_f_113_2, hs_r_113_3, hs_t_113_3, hs_r_113_4, hs_t_113_4, hs_r_113_5, hs_t_113_5, hs_r_113_6, hs_t_113_6, hs_r_113_7, hs_t_113_7, hs_r_113_8, hs_t_113_8, hs_r_113_9, hs_t_113_9, hs_r_113_10, hs_t_113_10, hs_r_113_11, hs_t_113_11, hs_f_113_12, hs_f_113_13, hs_f_113_14, hs_r_113_15, hs_t_113_15, hs_f_113_16, hs_r_113_17, hs_t_113_17, hs_r_113_18, hs_t_113_18, hs_r_113_19, hs_t_113_19, hs_r_113_20, hs_t_113_20, hs_f_113_21, hs_f_113_22, hs_f_113_23, hs_r_113_24, hs_t_113_24, hs_f_113_25, hs_r_113_26, hs_t_113_26, hs_f_113_27, hs_i_114, hs_i_115, hs_i_116, hs_i_117, hs_i_118, hs_i_119, hs_i_120, hs_i_121, hs_i_122, hs_i_123, hs_i_124, hs_i_125, hs_i_126, hs_i_127, hs_i_128, hs_i_129, sp_isHall hok hm0.2.1, hd_t01, hd_dn1, decide_eq_true_eq]
  by_cases h1 : 0 ≤ hall ∧ hall < nI (hp_H p)
  · obtain ⟨h, hh, rfl⟩ := hb_rng2 (show hp_H p < 2 ^ 31 by omega) h1.1 h1.2
    simp only [h1, and_self, if_true, show ¬ ((1 : Int32) = 0) by decide, not_false_iff, not_true, if_false, vp_in_nI (show h < 7 by omega) (show 7 < 2 ^ 31 by decide), hd_cc (show h < 2147483648 by omega), hm_wdm hok hm0 (show h < 7 by omega), decide_eq_true_eq, true_and]
    by_cases hw : hp_wd p h = -1
    · simp only [hw, if_true]
      exact hk3 h hh rfl hw
    · simp only [hw, if_false]
      refine sp_keep0 hI _ (fun S1 he hf hpa hm1 => ?_)
      have hln : S1.1 120 h = nI (hp_ln p h) := hm1.2.2.2.2.2.2.2.2.1 h (by omega)
      simp only [true_and, vp_in_nI (show h < 7 by omega) (show 7 < 2 ^ 31 by decide), hd_cc (show h < 2147483648 by omega), hln]
      have rc : ∀ c, c ≠ 119 → c ≠ 120 → (hd_wI (hd_wI S1 119 h (-1)) 120 h 0).1 c = S1.1 c := fun c c1 c2 => by
        funext j
        rw [hx_oth c2, hx_oth c1]
      have hm3 : hm_P (hd_wI (hd_wI S1 119 h (-1)) 120 h 0) (hp_sheet p h (-1) 0) := hm_P_sheet hm1 ⟨by rw [rc 113 (by decide) (by decide)], by rw [rc 113 (by decide) (by decide)]⟩ (fun c c1 c2 => rc c (by omega) (by omega)) (fun j => by
          rw [hx_oth (by decide), hd_wI1]
          by_cases hj : j = h <;> simp [hj] <;> rfl) (fun j => by
          rw [hd_wI1, hx_oth (by decide)]
          by_cases hj : j = h <;> simp [hj] <;> rfl) (fun j _ => by rw [rc 121 (by decide) (by decide)]) (fun r => absurd rfl r)
      obtain ⟨g1, g2⟩ := hm_I_new hI he hf hpa (fun c hc => rc c (by omega) (by omega)) (fun f _ => by rw [rc 113 (by decide) (by decide)]) rfl hm3 (hp_ok_sheet hok (by decide) (by decide) (fun _ => rfl)) (Nat.le_refl _) (Nat.le_refl _)
      exact hk1 h hh rfl hw _ g1 g2
  · simp only [h1, if_false, not_true, not_false_iff, if_true]
    exact hk2 h1
theorem hm_P_wy {S : hd_S} {p : hp_P} {h t v : Nat} (ht : t < 8) (hm : hm_P S p) : hm_P (hd_wI S 121 (h * 8 + t) (nI v)) (hp_setwy p h t v) := by
  obtain ⟨h1, h2, h3, h4, h5, h6, h7, h8, h9, h10⟩ := hm
  refine ⟨(hx_oth (by decide)).trans h1, (hx_oth (by decide)).trans h2, fun i hi => (hx_oth (by decide)).trans (h3 i hi), fun i hi => (hx_oth (by decide)).trans (h4 i hi), fun i hi => (hx_oth (by decide)).trans (h5 i hi), fun i hi => (hx_oth (by decide)).trans (h6 i hi), fun i hi => (hx_oth (by decide)).trans (h7 i hi), fun i hi => (hx_oth (by decide)).trans (h8 i hi), fun i hi => (hx_oth (by decide)).trans (h9 i hi), fun a ha s hs hv => ?_⟩
  show (hd_wI S 121 (h * 8 + t) (nI v)).1 121 (a * 8 + s) = nI (hp_rep (hp_wy p) h (hp_rep (hp_wy p h) t v) a s)
  rw [hd_wI1]
  unfold hp_rep
  by_cases hah : a = h
  · by_cases hst : s = t
    · rw [if_pos ⟨rfl, by omega⟩, if_pos hah, if_pos hst]
    · rw [if_neg (fun r => by have := r.2; omega), if_pos hah, if_neg hst, ← hah]
      exact h10 a ha s hs hv
  · rw [if_neg (fun r => by have := r.2; omega), if_neg hah]
    exact h10 a ha s hs hv
set_option maxHeartbeats 4000000 in
theorem sp_wayCall {S : hd_S} {p : hp_P} {n : Nat} {q : Nat → hp_P} {hand : Nat} {cl : Nat → Nat} (hI : hm_I S p n q hand cl) (hall pl v : Int32) (post : Option hd_V → hd_S → Prop)
    (hk1 : ∀ h t k, h < hp_H p → hall = nI h → hp_wd p h ≠ -1 → t < hp_ln p h → pl = nI t → k ≤ (if hp_wd p h = 0 then 127 else 1000) → v = nI k → ∀ S2, hm_I S2 (hp_setwy p h t k) (hp_kn n) (hp_kq n q p) hand cl → hm_fr S S2 → post (some (hd_vI (nI (hp_wy p h t)))) S2)
    (hk2 : ¬ (0 ≤ hall ∧ hall < nI (hp_H p)) → post (some (hd_vI (-3))) (hd_wI S 113 0 0))
    (hk3 : ∀ h, h < hp_H p → hall = nI h → hp_wd p h = -1 → post (some (hd_vI (-11))) (hd_wI S 113 0 0))
    (hk4 : ∀ h, h < hp_H p → hall = nI h → hp_wd p h ≠ -1 → ¬ (0 ≤ pl ∧ pl < nI (hp_ln p h)) → post (some (hd_vI (-13))) (hd_wI S 113 0 0))
    (hk5 : ∀ h, h < hp_H p → hall = nI h → hp_wd p h ≠ -1 → (0 ≤ pl ∧ pl < nI (hp_ln p h)) → ¬ (0 ≤ v ∧ v ≤ nI (if hp_wd p h = 0 then 127 else 1000)) → post (some (hd_vI (-3))) (hd_wI S 113 0 0)) : wm_X9_way [hd_vR 113, hd_vI hall, hd_vI pl, hd_vI v] S post := by
  have hok := hI.1.1
  have hm0 := (hm_I_0 hI).1.2.1
  have hH : hp_H p ≤ 7 := hok.2.1
  simp only [wm_X9_way, wo_X9_way, hd_mth, hd_rho0, hd_args, hd_wide, hq_sQ, hd_s0, hq_sI, hq_sJ, hd_sR, hd_sP, hd_sF, hd_sZ, hd_sG, hd_sA, hd_sL, hd_sB, hd_sO, hd_sN, hd_sD, hd_sW, hd_sE, hd_sRI, hd_sRZ, hd_sRJ, hd_sRR, hd_sRV, hd_sSw, hd_sw, hd_sCI, hd_sCL, hd_iK, hd_iL, hd_iU, hd_iB, hd_iD, hd_iJ, hd_iG, hd_iA, hd_iQ, hd_iC, hd_iN, hd_iE, hd_jK, hd_jL, hd_jU, hd_jB, hd_jD, hd_jH, hd_jI, hd_jA, hd_jQ, hd_jN, hd_rL, hd_rG, hd_rA, hd_rN, hd_cI, hd_c0, hd_cJ, hd_cX, hd_cA, hd_cO, hd_v0, hd_pI, hd_pJ, hd_pR, hd_nV, hd_nS, hd_get, hd_st, hd_stW, hd_cut, List.replicate, List.length_cons, List.length_nil, List.nil_append, List.cons_append, Nat.reduceAdd, Nat.reduceSub, Nat.reduceLeDiff, true_and, and_true, if_true, if_false, Bool.false_eq_true, List.append_nil, hs_o_0, hs_r_0_0, hs_t_0_0, hs_r_0_1, hs_t_0_1, hs_r_0_2, hs_t_0_2, hs_r_0_3, hs_t_0_3, hs_r_0_4, hs_t_0_4, hs_r_0_5, hs_t_0_5, hs_r_0_6, hs_t_0_6, hs_r_0_7, hs_t_0_7, hs_f_0_8, hs_o_1, hs_f_1_0, hs_f_1_1, hs_r_1_2, hs_t_1_2, hs_r_1_3, hs_t_1_3, hs_r_1_4, hs_t_1_4, hs_r_1_5, hs_t_1_5, hs_r_1_6, hs_t_1_6, hs_r_1_7, hs_t_1_7, hs_r_1_8, hs_t_1_8, hs_r_1_9, hs_t_1_9, hs_i_2, hs_i_3, hs_i_4, hs_i_5, hs_i_6, hs_i_7, hs_i_8, hs_i_9, hs_o_82, hs_r_82_0, hs_t_82_0, hs_f_82_1, hs_i_83, hs_o_84, hs_r_84_0, hs_t_84_0, hs_r_84_1, hs_t_84_1, hs_r_84_2, hs_t_84_2, hs_r_84_3, hs_t_84_3, hs_f_84_4, hs_i_85, hs_i_86, hs_i_87, hs_o_88, hs_r_88_0, hs_t_88_0, hs_r_88_1, hs_t_88_1, hs_r_88_2, hs_t_88_2, hs_r_88_3, hs_t_88_3, hs_r_88_4, hs_t_88_4, hs_r_88_5, hs_t_88_5, hs_r_88_6, hs_t_88_6, hs_r_88_7, hs_t_88_7, hs_f_88_8, hs_f_88_9, hs_i_89, hs_i_90, hs_i_91, hs_i_92, hs_i_93, hs_i_94, hs_i_95, hs_i_96, hs_i_97, hs_i_98, hs_i_99, hs_i_100, hs_i_101, hs_i_102, hs_o_103, hs_r_103_0, hs_t_103_0, hs_r_103_1, hs_t_103_1, hs_r_103_2, hs_t_103_2, hs_r_103_3, hs_t_103_3, hs_f_103_4, hs_i_104, hs_o_105, hs_r_105_0, hs_t_105_0, hs_r_105_1, hs_t_105_1, hs_r_105_2, hs_t_105_2, hs_i_106, hs_i_107, hs_o_108, hs_r_108_0, hs_t_108_0, hs_r_108_1, hs_t_108_1, hs_r_108_2, hs_t_108_2, hs_r_108_3, hs_t_108_3, hs_f_108_4, hs_i_109, hs_i_110, hs_o_111, hs_r_111_0, hs_t_111_0, hs_r_111_1, hs_t_111_1, hs_f_111_2, hs_f_111_3, hs_f_111_4, hs_i_112, hs_o_113, hs_f_113_0, hs_f_113_1, hs_f_113_2, hs_r_113_3, hs_t_113_3, hs_r_113_4, hs_t_113_4, hs_r_113_5, hs_t_113_5, hs_r_113_6, hs_t_113_6, hs_r_113_7, hs_t_113_7, hs_r_113_8, hs_t_113_8, hs_r_113_9, hs_t_113_9, hs_r_113_10, hs_t_113_10, hs_r_113_11, hs_t_113_11, hs_f_113_12, hs_f_113_13, hs_f_113_14, hs_r_113_15, hs_t_113_15, hs_f_113_16, hs_r_113_17, hs_t_113_17, hs_r_113_18, hs_t_113_18, hs_r_113_19, hs_t_113_19, hs_r_113_20, hs_t_113_20, hs_f_113_21, hs_f_113_22, hs_f_113_23, hs_r_113_24, hs_t_113_24, hs_f_113_25, hs_r_113_26, hs_t_113_26, hs_f_113_27, hs_i_114, hs_i_115, hs_i_116, hs_i_117, hs_i_118, hs_i_119, hs_i_120, hs_i_121, hs_i_122, hs_i_123, hs_i_124, hs_i_125, hs_i_126, hs_i_127, hs_i_128, hs_i_129, sp_isHall hok hm0.2.1, hd_t01, hd_dn1, decide_eq_true_eq]
  by_cases h1 : 0 ≤ hall ∧ hall < nI (hp_H p)
  · obtain ⟨h, hh, rfl⟩ := hb_rng2 (show hp_H p < 2 ^ 31 by omega) h1.1 h1.2
    have hl8 := hok.2.2.2.2.2.2.2.2.2.1 h
    have hln : (hd_wI S 113 0 0).1 120 h = nI (hp_ln p h) := hm0.2.2.2.2.2.2.2.2.1 h (by omega)
    have hwd : (hd_wI S 113 0 0).1 119 h = Int32.ofInt (hp_wd p h) := hm0.2.2.2.2.2.2.2.1 h (by omega)
    simp only [h1, and_self, if_true, show ¬ ((1 : Int32) = 0) by decide, not_false_iff, not_true, if_false, vp_in_nI (show h < 7 by omega) (show 7 < 2 ^ 31 by decide), hd_cc (show h < 2147483648 by omega), hwd, hln, hp_wd1 (hok.2.2.2.2.2.2.2.2.1 h), hp_wd0 (hok.2.2.2.2.2.2.2.2.1 h), sp_X9_in, hb_le1 (show hp_ln p h < 2 ^ 30 by omega), hd_t01, hd_dn1, decide_eq_true_eq, true_and]
    by_cases hw : hp_wd p h = -1
    · simp only [hw, if_true]
      exact hk3 h hh rfl hw
    · simp only [hw, if_false]
      by_cases h2 : 0 ≤ pl ∧ pl < nI (hp_ln p h)
      · simp only [h2, and_self, if_true, show ¬ ((1 : Int32) = 0) by decide, not_false_iff, not_true, if_false]
        have main : ∀ N : Nat, N = (if hp_wd p h = 0 then 127 else 1000) → (0 ≤ v ∧ v ≤ nI N) → wm_X9_keep [hd_vR 113] (hd_wI S 113 0 0) (fun r S => r = none ∧ vp_in (8 * nI h + pl) 56 ∧ (vp_in (8 * nI h + pl) 56 ∧ post (some (hd_vI (S.1 121 (8 * nI h + pl).toNatClampNeg))) (hd_wI S 121 (8 * nI h + pl).toNatClampNeg v))) := by
          intro N hN h3
          have hN1 : N ≤ 1000 := by
            rw [hN]
            split <;> decide
          obtain ⟨t, ht, rfl⟩ := hb_rng2 (show hp_ln p h < 2 ^ 31 by omega) h2.1 h2.2
          obtain ⟨k, hk, rfl⟩ := hb_rng (m := N) (by omega) h3.1 h3.2
          refine sp_keep0 hI _ (fun S1 he hf hpa hm1 => ⟨rfl, ?_⟩)
          have ei : (8 : Int32) * nI h + nI t = nI (h * 8 + t) := by
            rw [hd_lit8, pk_mul, nI_add, Nat.mul_comm]
          have ey : S1.1 121 (h * 8 + t) = nI (hp_wy p h t) := hm1.2.2.2.2.2.2.2.2.2 h hh t (by omega) ⟨hw, ht⟩
          rw [ei, hd_cc (show h * 8 + t < 2147483648 by omega), ey]
          refine ⟨vp_in_nI (by omega) (by decide), vp_in_nI (by omega) (by decide), ?_⟩
          obtain ⟨o1, o2⟩ := hm_out (S := S1) (c := 121) (t := h * 8 + t) (v := nI k) (by decide) (by decide)
          obtain ⟨g1, g2⟩ := hm_I_new (S3 := hd_wI S1 121 (h * 8 + t) (nI k)) hI he hf hpa o1 (fun f _ => o2 f) rfl (hm_P_wy (by omega) hm1) (hp_ok_wy hok ⟨hw, ht⟩ (by omega)) (Nat.le_refl _) (Nat.le_refl _)
          exact hk1 h t k hh rfl hw ht rfl (by omega) rfl _ g1 g2
        by_cases hw0 : hp_wd p h = 0
        · simp only [hw0, if_true]
          by_cases h3 : 0 ≤ v ∧ v ≤ (127 : Int32)
          · simp only [h3, and_self, if_true, show ¬ ((1 : Int32) = 0) by decide, not_false_iff, not_true, if_false]
            exact main 127 (by rw [if_pos hw0]) h3
          · simp only [h3, if_false, not_true, not_false_iff, if_true]
            refine hk5 h hh rfl hw h2 ?_
            rw [if_pos hw0]
            exact h3
        · simp only [hw0, if_false]
          by_cases h3 : 0 ≤ v ∧ v ≤ (1000 : Int32)
          · simp only [h3, and_self, if_true, show ¬ ((1 : Int32) = 0) by decide, not_false_iff, not_true, if_false]
            exact main 1000 (by rw [if_neg hw0]) h3
          · simp only [h3, if_false, not_true, not_false_iff, if_true]
            refine hk5 h hh rfl hw h2 ?_
            rw [if_neg hw0]
            exact h3
      · simp only [h2, if_false, not_true, not_false_iff, if_true]
        exact hk4 h hh rfl hw h2
  · simp only [h1, if_false, not_true, not_false_iff, if_true]
    exact hk2 h1
