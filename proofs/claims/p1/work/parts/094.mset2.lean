/-! place, town, hall, sheet, lose, way: the reference -/
theorem hm_out {S : hd_S} {c t : Nat} {v : Int32} (hc : 114 ≤ c) (hc2 : c ≤ 121) : (∀ d, d < 113 ∨ 122 ≤ d → (hd_wI S c t v).1 d = S.1 d) ∧ (∀ f, (hd_wI S c t v).1 113 f = S.1 113 f) := ⟨fun d hd => by funext j; rw [hx_oth (by omega)], fun f => hx_oth (by omega)⟩
set_option maxHeartbeats 4000000 in
theorem sp_place {S : hd_S} {p : hp_P} {n : Nat} {q : Nat → hp_P} {hand : Nat} {cl : Nat → Nat} (hI : hm_I S p n q hand cl) (at_ v : Int32) (post : Option hd_V → hd_S → Prop)
    (hk1 : ∀ t, t < hp_T p → at_ = nI t → -1000 ≤ v ∧ v ≤ 1000 → ∀ S2, hm_I S2 (hp_setsp p t v.toInt) (hp_kn n) (hp_kq n q p) hand cl → hm_fr S S2 → post (some (hd_vI 0)) S2)
    (hk2 : ¬ ((0 ≤ at_ ∧ at_ < nI (hp_T p)) ∧ (-1000 ≤ v ∧ v ≤ 1000)) → post (some (hd_vI (-3))) (hd_wI S 113 0 0)) : wm_X9_place [hd_vR 113, hd_vI at_, hd_vI v] S post := by
  have hok := hI.1.1
  have hm0 := (hm_I_0 hI).1.2.1
  have hT : hp_T p ≤ 8 := hok.1
  simp only [wm_X9_place, wo_X9_place, hd_mth, hd_rho0, hd_args, hd_wide, hq_sQ, hd_s0, hq_sI, hq_sJ, hd_sR, hd_sP, hd_sF, hd_sZ, hd_sG, hd_sA, hd_sL, hd_sB, hd_sO, hd_sN, hd_sD, hd_sW, hd_sE, hd_sRI, hd_sRZ, hd_sRJ, hd_sRR, hd_sRV, hd_sSw, hd_sw, hd_sCI, hd_sCL, hd_iK, hd_iL, hd_iU, hd_iB, hd_iD, hd_iJ, hd_iG, hd_iA, hd_iQ, hd_iC, hd_iN, hd_iE, hd_jK, hd_jL, hd_jU, hd_jB, hd_jD, hd_jH, hd_jI, hd_jA, hd_jQ, hd_jN, hd_rL, hd_rG, hd_rA, hd_rN, hd_cI, hd_c0, hd_cJ, hd_cX, hd_cA, hd_cO, hd_v0, hd_pI, hd_pJ, hd_pR, hd_nV, hd_nS, hd_get, hd_st, hd_stW, hd_cut, List.replicate, List.length_cons, List.length_nil, List.nil_append, List.cons_append, Nat.reduceAdd, Nat.reduceSub, Nat.reduceLeDiff, true_and, and_true, if_true, if_false, Bool.false_eq_true, List.append_nil, hs_o_0, hs_r_0_0, hs_t_0_0, hs_r_0_1, hs_t_0_1, hs_r_0_2, hs_t_0_2, hs_r_0_3, hs_t_0_3, hs_r_0_4, hs_t_0_4, hs_r_0_5, hs_t_0_5, hs_r_0_6, hs_t_0_6, hs_r_0_7, hs_t_0_7, hs_f_0_8, hs_o_1, hs_f_1_0, hs_f_1_1, hs_r_1_2, hs_t_1_2, hs_r_1_3, hs_t_1_3, hs_r_1_4, hs_t_1_4, hs_r_1_5, hs_t_1_5, hs_r_1_6, hs_t_1_6, hs_r_1_7, hs_t_1_7, hs_r_1_8, hs_t_1_8, hs_r_1_9, hs_t_1_9, hs_i_2, hs_i_3, hs_i_4, hs_i_5, hs_i_6, hs_i_7, hs_i_8, hs_i_9, hs_o_82, hs_r_82_0, hs_t_82_0, hs_f_82_1, hs_i_83, hs_o_84, hs_r_84_0, hs_t_84_0, hs_r_84_1, hs_t_84_1, hs_r_84_2, hs_t_84_2, hs_r_84_3, hs_t_84_3, hs_f_84_4, hs_i_85, hs_i_86, hs_i_87, hs_o_88, hs_r_88_0, hs_t_88_0, hs_r_88_1, hs_t_88_1, hs_r_88_2, hs_t_88_2, hs_r_88_3, hs_t_88_3, hs_r_88_4, hs_t_88_4, hs_r_88_5, hs_t_88_5, hs_r_88_6, hs_t_88_6, hs_r_88_7, hs_t_88_7, hs_f_88_8, hs_f_88_9, hs_i_89, hs_i_90, hs_i_91, hs_i_92, hs_i_93, hs_i_94, hs_i_95, hs_i_96, hs_i_97, hs_i_98, hs_i_99, hs_i_100, hs_i_101, hs_i_102, hs_o_103, hs_r_103_0, hs_t_103_0, hs_r_103_1, hs_t_103_1, hs_r_103_2, hs_t_103_2, hs_r_103_3, hs_t_103_3, hs_f_103_4, hs_i_104, hs_o_105, hs_r_105_0, hs_t_105_0, hs_r_105_1, hs_t_105_1, hs_r_105_2, hs_t_105_2, hs_i_106, hs_i_107, hs_o_108, hs_r_108_0, hs_t_108_0, hs_r_108_1, hs_t_108_1, hs_r_108_2, hs_t_108_2, hs_r_108_3, hs_t_108_3, hs_f_108_4, hs_i_109, hs_i_110, hs_o_111, hs_r_111_0, hs_t_111_0, hs_r_111_1, hs_t_111_1, hs_f_111_2, hs_f_111_3, hs_f_111_4, hs_i_112, hs_o_113, hs_f_113_0, hs_f_113_1, hs_f_113_2, hs_r_113_3, hs_t_113_3, hs_r_113_4, hs_t_113_4, hs_r_113_5, hs_t_113_5, hs_r_113_6, hs_t_113_6, hs_r_113_7, hs_t_113_7, hs_r_113_8, hs_t_113_8, hs_r_113_9, hs_t_113_9, hs_r_113_10, hs_t_113_10, hs_r_113_11, hs_t_113_11, hs_f_113_12, hs_f_113_13, hs_f_113_14, hs_r_113_15, hs_t_113_15, hs_f_113_16, hs_r_113_17, hs_t_113_17, hs_r_113_18, hs_t_113_18, hs_r_113_19, hs_t_113_19, hs_r_113_20, hs_t_113_20, hs_f_113_21, hs_f_113_22, hs_f_113_23, hs_r_113_24, hs_t_113_24, hs_f_113_25, hs_r_113_26, hs_t_113_26, hs_f_113_27, hs_i_114, hs_i_115, hs_i_116, hs_i_117, hs_i_118, hs_i_119, hs_i_120, hs_i_121, hs_i_122, hs_i_123, hs_i_124, hs_i_125, hs_i_126, hs_i_127, hs_i_128, hs_i_129, sp_isTown hok hm0.1, sp_X9_in, hd_t01, hd_dn1, decide_eq_true_eq]
  by_cases h1 : 0 ≤ at_ ∧ at_ < nI (hp_T p)
  · by_cases h2 : (-1000 : Int32) ≤ v ∧ v ≤ 1000
    · obtain ⟨t, ht, rfl⟩ := hb_rng2 (show hp_T p < 2 ^ 31 by omega) h1.1 h1.2
      have hv1 : -1000 ≤ v.toInt := by
        have := h2.1
        rw [Int32.le_iff_toInt_le] at this
        have e : (-1000 : Int32).toInt = -1000 := by decide
        omega
      have hv2 : v.toInt ≤ 1000 := by
        have := h2.2
        rw [Int32.le_iff_toInt_le] at this
        have e : (1000 : Int32).toInt = 1000 := by decide
        omega
      simp only [h1, h2, and_self, if_true, show ¬ ((1 : Int32) = 0) by decide, not_false_iff, not_true, if_false]
      refine sp_keep0 hI _ (fun S1 he hf hpa hm1 => ?_)
      simp only [true_and, vp_in_nI (show t < 8 by omega) (show 8 < 2 ^ 31 by decide), hd_cc (show t < 2147483648 by omega)]
      have h9 := hm_P_sp (t := t) (v := v.toInt) hm1
      rw [fb_asI] at h9
      obtain ⟨o1, o2⟩ := hm_out (S := S1) (c := 116) (t := t) (v := v) (by decide) (by decide)
      obtain ⟨g1, g2⟩ := hm_I_new (S3 := hd_wI S1 116 t v) hI he hf hpa o1 (fun f _ => o2 f) rfl h9 (hp_ok_sp hok hv1 hv2) (Nat.le_refl _) (Nat.le_refl _)
      exact hk1 t ht rfl h2 _ g1 g2
    · simp only [h1, h2, and_self, if_true, show ¬ ((1 : Int32) = 0) by decide, not_true, if_false, not_false_iff]
      exact hk2 (fun r => h2 r.2)
  · simp only [h1, if_false, not_true, not_false_iff, if_true]
    exact hk2 (fun r => h1 r.1)
set_option maxHeartbeats 4000000 in
theorem sp_town {S : hd_S} {p : hp_P} {n : Nat} {q : Nat → hp_P} {hand : Nat} {cl : Nat → Nat} (hI : hm_I S p n q hand cl) (post : Option hd_V → hd_S → Prop)
    (hk1 : hp_T p < 8 → ∀ S2, hm_I S2 (hp_addT p) (hp_kn n) (hp_kq n q p) hand cl → hm_fr S S2 → post (some (hd_vI (nI (hp_T p)))) S2)
    (hk2 : ¬ hp_T p < 8 → post (some (hd_vI (-5))) (hd_wI S 113 0 0)) : wm_X9_town [hd_vR 113] S post := by
  have hok := hI.1.1
  have hm0 := (hm_I_0 hI).1.2.1
  have hT : hp_T p ≤ 8 := hok.1
  simp only [wm_X9_town, wo_X9_town, hd_mth, hd_rho0, hd_args, hd_wide, hq_sQ, hd_s0, hq_sI, hq_sJ, hd_sR, hd_sP, hd_sF, hd_sZ, hd_sG, hd_sA, hd_sL, hd_sB, hd_sO, hd_sN, hd_sD, hd_sW, hd_sE, hd_sRI, hd_sRZ, hd_sRJ, hd_sRR, hd_sRV, hd_sSw, hd_sw, hd_sCI, hd_sCL, hd_iK, hd_iL, hd_iU, hd_iB, hd_iD, hd_iJ, hd_iG, hd_iA, hd_iQ, hd_iC, hd_iN, hd_iE, hd_jK, hd_jL, hd_jU, hd_jB, hd_jD, hd_jH, hd_jI, hd_jA, hd_jQ, hd_jN, hd_rL, hd_rG, hd_rA, hd_rN, hd_cI, hd_c0, hd_cJ, hd_cX, hd_cA, hd_cO, hd_v0, hd_pI, hd_pJ, hd_pR, hd_nV, hd_nS, hd_get, hd_st, hd_stW, hd_cut, List.replicate, List.length_cons, List.length_nil, List.nil_append, List.cons_append, Nat.reduceAdd, Nat.reduceSub, Nat.reduceLeDiff, true_and, and_true, if_true, if_false, Bool.false_eq_true, List.append_nil, hs_o_0, hs_r_0_0, hs_t_0_0, hs_r_0_1, hs_t_0_1, hs_r_0_2, hs_t_0_2, hs_r_0_3, hs_t_0_3, hs_r_0_4, hs_t_0_4, hs_r_0_5, hs_t_0_5, hs_r_0_6, hs_t_0_6, hs_r_0_7, hs_t_0_7, hs_f_0_8, hs_o_1, hs_f_1_0, hs_f_1_1, hs_r_1_2, hs_t_1_2, hs_r_1_3, hs_t_1_3, hs_r_1_4, hs_t_1_4, hs_r_1_5, hs_t_1_5, hs_r_1_6, hs_t_1_6, hs_r_1_7, hs_t_1_7, hs_r_1_8, hs_t_1_8, hs_r_1_9, hs_t_1_9, hs_i_2, hs_i_3, hs_i_4, hs_i_5, hs_i_6, hs_i_7, hs_i_8, hs_i_9, hs_o_82, hs_r_82_0, hs_t_82_0, hs_f_82_1, hs_i_83, hs_o_84, hs_r_84_0, hs_t_84_0, hs_r_84_1, hs_t_84_1, hs_r_84_2, hs_t_84_2, hs_r_84_3, hs_t_84_3, hs_f_84_4, hs_i_85, hs_i_86, hs_i_87, hs_o_88, hs_r_88_0, hs_t_88_0, hs_r_88_1, hs_t_88_1, hs_r_88_2, hs_t_88_2, hs_r_88_3, hs_t_88_3, hs_r_88_4, hs_t_88_4, hs_r_88_5, hs_t_88_5, hs_r_88_6, hs_t_88_6, hs_r_88_7, hs_t_88_7, hs_f_88_8, hs_f_88_9, hs_i_89, hs_i_90, hs_i_91, hs_i_92, hs_i_93, hs_i_94, hs_i_95, hs_i_96, hs_i_97, hs_i_98, hs_i_99, hs_i_100, hs_i_101, hs_i_102, hs_o_103, hs_r_103_0, hs_t_103_0, hs_r_103_1, hs_t_103_1, hs_r_103_2, hs_t_103_2, hs_r_103_3, hs_t_103_3, hs_f_103_4, hs_i_104, hs_o_105, hs_r_105_0, hs_t_105_0, hs_r_105_1, hs_t_105_1, hs_r_105_2, hs_t_105_2, hs_i_106, hs_i_107, hs_o_108, hs_r_108_0, hs_t_108_0, hs_r_108_1, hs_t_108_1, hs_r_108_2, hs_t_108_2, hs_r_108_3, hs_t_108_3, hs_f_108_4, hs_i_109, hs_i_110, hs_o_111, hs_r_111_0, hs_t_111_0, hs_r_111_1, hs_t_111_1, hs_f_111_2, hs_f_111_3, hs_f_111_4, hs_i_112, hs_o_113, hs_f_113_0, hs_f_113_1, hs_f_113_2, hs_r_113_3, hs_t_113_3, hs_r_113_4, hs_t_113_4, hs_r_113_5, hs_t_113_5, hs_r_113_6, hs_t_113_6, hs_r_113_7, hs_t_113_7, hs_r_113_8, hs_t_113_8, hs_r_113_9, hs_t_113_9, hs_r_113_10, hs_t_113_10, hs_r_113_11, hs_t_113_11, hs_f_113_12, hs_f_113_13, hs_f_113_14, hs_r_113_15, hs_t_113_15, hs_f_113_16, hs_r_113_17, hs_t_113_17, hs_r_113_18, hs_t_113_18, hs_r_113_19, hs_t_113_19, hs_r_113_20, hs_t_113_20, hs_f_113_21, hs_f_113_22, hs_f_113_23, hs_r_113_24, hs_t_113_24, hs_f_113_25, hs_r_113_26, hs_t_113_26, hs_f_113_27, hs_i_114, hs_i_115, hs_i_116, hs_i_117, hs_i_118, hs_i_119, hs_i_120, hs_i_121, hs_i_122, hs_i_123, hs_i_124, hs_i_125, hs_i_126, hs_i_127, hs_i_128, hs_i_129, hm0.1, show (8 : Int32) = nI 8 from rfl, nI_eq (show hp_T p < 2 ^ 31 by omega) (show 8 < 2 ^ 31 by omega), decide_eq_true_eq]
  by_cases h8 : hp_T p = 8
  · simp only [h8, if_true]
    exact hk2 (by omega)
  · simp only [h8, if_false, true_and]
    refine sp_keep0 hI _ (fun S1 he hf hpa hm1 => ?_)
    obtain ⟨m1, m2, m3, m4, m5, m6, m7, m8, m9, m10⟩ := hm1
    have e1 : nI (hp_T p + 1) - 1 = nI (hp_T p) := by
      rw [show (1 : Int32) = nI 1 from rfl, pk_sub (by omega)]
      rfl
    simp only [true_and, m1, hx_oth (show (113 : Nat) ≠ 114 by decide), hx_oth (show (113 : Nat) ≠ 115 by decide), hx_oth (show (113 : Nat) ≠ 116 by decide), vp_in_nI (show hp_T p < 8 by omega) (show 8 < 2 ^ 31 by decide), hd_cc (show hp_T p < 2147483648 by omega), nI_1, hd_wI1, and_self, if_true, e1]
    have rT : (hd_wI (hd_wI (hd_wI (hd_wI S1 114 (hp_T p) 1) 115 (hp_T p) 0) 116 (hp_T p) 0) 113 1 (nI (hp_T p + 1))).1 113 1 = nI (hp_T p + 1) := by rw [hd_wI1, if_pos ⟨rfl, rfl⟩]
    have rf : ∀ f, f ≠ 1 → (hd_wI (hd_wI (hd_wI (hd_wI S1 114 (hp_T p) 1) 115 (hp_T p) 0) 116 (hp_T p) 0) 113 1 (nI (hp_T p + 1))).1 113 f = S1.1 113 f := fun f hf1 => by
      rw [hd_wI1, if_neg (fun r => hf1 r.2), hx_oth (by decide), hx_oth (by decide), hx_oth (by decide)]
    have rc : ∀ c, c ≠ 113 → c ≠ 114 → c ≠ 115 → c ≠ 116 → (hd_wI (hd_wI (hd_wI (hd_wI S1 114 (hp_T p) 1) 115 (hp_T p) 0) 116 (hp_T p) 0) 113 1 (nI (hp_T p + 1))).1 c = S1.1 c := fun c h3 h4 h5 h6 => by
      funext j
      rw [hx_oth h3, hx_oth h6, hx_oth h5, hx_oth h4]
    have r4 : ∀ i, i < 8 → (hd_wI (hd_wI (hd_wI (hd_wI S1 114 (hp_T p) 1) 115 (hp_T p) 0) 116 (hp_T p) 0) 113 1 (nI (hp_T p + 1))).1 114 i = nI (hp_rep (hp_cr p) (hp_T p) 1 i) := fun i hi => by
      rw [hx_oth (by decide), hx_oth (by decide), hx_oth (by decide)]
      exact hx_rep (e := fun x => nI x) (v := 1) m3 i hi
    have r5 : ∀ i, i < 8 → (hd_wI (hd_wI (hd_wI (hd_wI S1 114 (hp_T p) 1) 115 (hp_T p) 0) 116 (hp_T p) 0) 113 1 (nI (hp_T p + 1))).1 115 i = nI (hp_rep (hp_fi p) (hp_T p) 0 i) := fun i hi => by
      rw [hx_oth (by decide), hx_oth (by decide)]
      exact hx_rep (e := fun x => nI x) (v := 0) (fun i hi => (hx_oth (by decide)).trans (m4 i hi)) i hi
    have r6 : ∀ i, i < 8 → (hd_wI (hd_wI (hd_wI (hd_wI S1 114 (hp_T p) 1) 115 (hp_T p) 0) 116 (hp_T p) 0) 113 1 (nI (hp_T p + 1))).1 116 i = Int32.ofInt (hp_rep (hp_sp p) (hp_T p) 0 i) := fun i hi => by
      rw [hx_oth (by decide)]
      have m5b : ∀ i, i < 8 → (hd_wI (hd_wI S1 114 (hp_T p) 1) 115 (hp_T p) 0).1 116 i = Int32.ofInt (hp_sp p i) := fun i hi => by
        rw [hx_oth (by decide), hx_oth (by decide)]
        exact m5 i hi
      exact hx_rep (e := fun x => Int32.ofInt x) (v := 0) m5b i hi
    have r2 : (hd_wI (hd_wI (hd_wI (hd_wI S1 114 (hp_T p) 1) 115 (hp_T p) 0) 116 (hp_T p) 0) 113 1 (nI (hp_T p + 1))).2 = S1.2 := rfl
    generalize hd_wI (hd_wI (hd_wI (hd_wI S1 114 (hp_T p) 1) 115 (hp_T p) 0) 116 (hp_T p) 0) 113 1 (nI (hp_T p + 1)) = S3 at rT rf rc r4 r5 r6 r2
    have hm3 : hm_P S3 (hp_addT p) := ⟨rT, by rw [rf 2 (by decide)]; exact m2, r4, r5, r6, fun i hi => by rw [rc 117 (by decide) (by decide) (by decide) (by decide)]; exact m6 i hi, fun i hi => by rw [rc 118 (by decide) (by decide) (by decide) (by decide)]; exact m7 i hi, fun i hi => by rw [rc 119 (by decide) (by decide) (by decide) (by decide)]; exact m8 i hi, fun i hi => by rw [rc 120 (by decide) (by decide) (by decide) (by decide)]; exact m9 i hi, fun h hh t ht hv => by rw [rc 121 (by decide) (by decide) (by decide) (by decide)]; exact m10 h hh t ht hv⟩
    obtain ⟨g1, g2⟩ := hm_I_new hI he hf hpa (fun c hc => rc c (by omega) (by omega) (by omega) (by omega)) (fun f hf3 => rf f (by omega)) r2 hm3 (hp_ok_addT hok (by omega)) (Nat.le_succ _) (Nat.le_refl _)
    exact hk1 (by omega) _ g1 g2
set_option maxHeartbeats 4000000 in
theorem sp_hall {S : hd_S} {p : hp_P} {n : Nat} {q : Nat → hp_P} {hand : Nat} {cl : Nat → Nat} (hI : hm_I S p n q hand cl) (post : Option hd_V → hd_S → Prop)
    (hk1 : hp_H p < 7 → ∀ S2, hm_I S2 (hp_addH p) (hp_kn n) (hp_kq n q p) hand cl → hm_fr S S2 → post (some (hd_vI (nI (hp_H p)))) S2)
    (hk2 : ¬ hp_H p < 7 → post (some (hd_vI (-5))) (hd_wI S 113 0 0)) : wm_X9_hall [hd_vR 113] S post := by
  have hok := hI.1.1
  have hm0 := (hm_I_0 hI).1.2.1
  have hH : hp_H p ≤ 7 := hok.2.1
  simp only [wm_X9_hall, wo_X9_hall, hd_mth, hd_rho0, hd_args, hd_wide, hq_sQ, hd_s0, hq_sI, hq_sJ, hd_sR, hd_sP, hd_sF, hd_sZ, hd_sG, hd_sA, hd_sL, hd_sB, hd_sO, hd_sN, hd_sD, hd_sW, hd_sE, hd_sRI, hd_sRZ, hd_sRJ, hd_sRR, hd_sRV, hd_sSw, hd_sw, hd_sCI, hd_sCL, hd_iK, hd_iL, hd_iU, hd_iB, hd_iD, hd_iJ, hd_iG, hd_iA, hd_iQ, hd_iC, hd_iN, hd_iE, hd_jK, hd_jL, hd_jU, hd_jB, hd_jD, hd_jH, hd_jI, hd_jA, hd_jQ, hd_jN, hd_rL, hd_rG, hd_rA, hd_rN, hd_cI, hd_c0, hd_cJ, hd_cX, hd_cA, hd_cO, hd_v0, hd_pI, hd_pJ, hd_pR, hd_nV, hd_nS, hd_get, hd_st, hd_stW, hd_cut, List.replicate, List.length_cons, List.length_nil, List.nil_append, List.cons_append, Nat.reduceAdd, Nat.reduceSub, Nat.reduceLeDiff, true_and, and_true, if_true, if_false, Bool.false_eq_true, List.append_nil, hs_o_0, hs_r_0_0, hs_t_0_0, hs_r_0_1, hs_t_0_1, hs_r_0_2, hs_t_0_2, hs_r_0_3, hs_t_0_3, hs_r_0_4, hs_t_0_4, hs_r_0_5, hs_t_0_5, hs_r_0_6, hs_t_0_6, hs_r_0_7, hs_t_0_7, hs_f_0_8, hs_o_1, hs_f_1_0, hs_f_1_1, hs_r_1_2, hs_t_1_2, hs_r_1_3, hs_t_1_3, hs_r_1_4, hs_t_1_4, hs_r_1_5, hs_t_1_5, hs_r_1_6, hs_t_1_6, hs_r_1_7, hs_t_1_7, hs_r_1_8, hs_t_1_8, hs_r_1_9, hs_t_1_9, hs_i_2, hs_i_3, hs_i_4, hs_i_5, hs_i_6, hs_i_7, hs_i_8, hs_i_9, hs_o_82, hs_r_82_0, hs_t_82_0, hs_f_82_1, hs_i_83, hs_o_84, hs_r_84_0, hs_t_84_0, hs_r_84_1, hs_t_84_1, hs_r_84_2, hs_t_84_2, hs_r_84_3, hs_t_84_3, hs_f_84_4, hs_i_85, hs_i_86, hs_i_87, hs_o_88, hs_r_88_0, hs_t_88_0, hs_r_88_1, hs_t_88_1, hs_r_88_2, hs_t_88_2, hs_r_88_3, hs_t_88_3, hs_r_88_4, hs_t_88_4, hs_r_88_5, hs_t_88_5, hs_r_88_6, hs_t_88_6, hs_r_88_7, hs_t_88_7, hs_f_88_8, hs_f_88_9, hs_i_89, hs_i_90, hs_i_91, hs_i_92, hs_i_93, hs_i_94, hs_i_95, hs_i_96, hs_i_97, hs_i_98, hs_i_99, hs_i_100, hs_i_101, hs_i_102, hs_o_103, hs_r_103_0, hs_t_103_0, hs_r_103_1, hs_t_103_1, hs_r_103_2, hs_t_103_2, hs_r_103_3, hs_t_103_3, hs_f_103_4, hs_i_104, hs_o_105, hs_r_105_0, hs_t_105_0, hs_r_105_1, hs_t_105_1, hs_r_105_2, hs_t_105_2, hs_i_106, hs_i_107, hs_o_108, hs_r_108_0, hs_t_108_0, hs_r_108_1, hs_t_108_1, hs_r_108_2, hs_t_108_2, hs_r_108_3, hs_t_108_3, hs_f_108_4, hs_i_109, hs_i_110, hs_o_111, hs_r_111_0, hs_t_111_0, hs_r_111_1, hs_t_111_1, hs_f_111_2, hs_f_111_3, hs_f_111_4, hs_i_112, hs_o_113, hs_f_113_0, hs_f_113_1, hs_f_113_2, hs_r_113_3, hs_t_113_3, hs_r_113_4, hs_t_113_4, hs_r_113_5, hs_t_113_5, hs_r_113_6, hs_t_113_6, hs_r_113_7, hs_t_113_7, hs_r_113_8, hs_t_113_8, hs_r_113_9, hs_t_113_9, hs_r_113_10, hs_t_113_10, hs_r_113_11, hs_t_113_11, hs_f_113_12, hs_f_113_13, hs_f_113_14, hs_r_113_15, hs_t_113_15, hs_f_113_16, hs_r_113_17, hs_t_113_17, hs_r_113_18, hs_t_113_18, hs_r_113_19, hs_t_113_19, hs_r_113_20, hs_t_113_20, hs_f_113_21, hs_f_113_22, hs_f_113_23, hs_r_113_24, hs_t_113_24, hs_f_113_25, hs_r_113_26, hs_t_113_26, hs_f_113_27, hs_i_114, hs_i_115, hs_i_116, hs_i_117, hs_i_118, hs_i_119, hs_i_120, hs_i_121, hs_i_122, hs_i_123, hs_i_124, hs_i_125, hs_i_126, hs_i_127, hs_i_128, hs_i_129, hm0.2.1, show (7 : Int32) = nI 7 from rfl, nI_eq (show hp_H p < 2 ^ 31 by omega) (show 7 < 2 ^ 31 by omega), decide_eq_true_eq]
  by_cases h8 : hp_H p = 7
  · simp only [h8, if_true]
    exact hk2 (by omega)
  · simp only [h8, if_false, true_and]
    refine sp_keep0 hI _ (fun S1 he hf hpa hm1 => ?_)
    obtain ⟨m1, m2, m3, m4, m5, m6, m7, m8, m9, m10⟩ := hm1
    have e1 : nI (hp_H p + 1) - 1 = nI (hp_H p) := by
      rw [show (1 : Int32) = nI 1 from rfl, pk_sub (by omega)]
      rfl
    simp only [true_and, m2, hx_oth (show (113 : Nat) ≠ 117 by decide), hx_oth (show (113 : Nat) ≠ 118 by decide), hx_oth (show (113 : Nat) ≠ 119 by decide), hx_oth (show (113 : Nat) ≠ 120 by decide), vp_in_nI (show hp_H p < 7 by omega) (show 7 < 2 ^ 31 by decide), hd_cc (show hp_H p < 2147483648 by omega), nI_1, hd_wI1, and_self, if_true, e1]
    generalize hS3 : hd_wI (hd_wI (hd_wI (hd_wI (hd_wI S1 117 (hp_H p) 0) 118 (hp_H p) 200) 119 (hp_H p) (-1)) 120 (hp_H p) 0) 113 2 (nI (hp_H p + 1)) = S3
    have rH : S3.1 113 2 = nI (hp_H p + 1) := by rw [← hS3, hd_wI1, if_pos ⟨rfl, rfl⟩]
    have rf : ∀ f, f ≠ 2 → S3.1 113 f = S1.1 113 f := fun f hf1 => by
      rw [← hS3, hd_wI1, if_neg (fun r => hf1 r.2), hx_oth (by decide), hx_oth (by decide), hx_oth (by decide), hx_oth (by decide)]
    have rc : ∀ c, c ≠ 113 → c ≠ 117 → c ≠ 118 → c ≠ 119 → c ≠ 120 → S3.1 c = S1.1 c := fun c h3 h4 h5 h6 h7 => by
      funext j
      rw [← hS3, hx_oth h3, hx_oth h7, hx_oth h6, hx_oth h5, hx_oth h4]
    have one : ∀ c v, c ≠ 113 → (∀ j, S3.1 c j = if j = hp_H p then v else S1.1 c j) → ∀ j, S3.1 c j = if j = hp_H p then v else S1.1 c j := fun _ _ _ h => h
    have r7 : ∀ j, S3.1 117 j = if j = hp_H p then nI 0 else S1.1 117 j := fun j => by
      rw [← hS3, hx_oth (by decide), hx_oth (by decide), hx_oth (by decide), hx_oth (by decide), hd_wI1]
      by_cases h : j = hp_H p <;> simp [h] <;> rfl
    have r8 : ∀ j, S3.1 118 j = if j = hp_H p then nI 200 else S1.1 118 j := fun j => by
      rw [← hS3, hx_oth (by decide), hx_oth (by decide), hx_oth (by decide), hd_wI1, hx_oth (by decide)]
      by_cases h : j = hp_H p <;> simp [h] <;> rfl
    have r9 : ∀ j, S3.1 119 j = if j = hp_H p then Int32.ofInt (-1) else S1.1 119 j := fun j => by
      rw [← hS3, hx_oth (by decide), hx_oth (by decide), hd_wI1, hx_oth (by decide), hx_oth (by decide)]
      by_cases h : j = hp_H p <;> simp [h] <;> rfl
    have r10 : ∀ j, S3.1 120 j = if j = hp_H p then nI 0 else S1.1 120 j := fun j => by
      rw [← hS3, hx_oth (by decide), hd_wI1, hx_oth (by decide), hx_oth (by decide), hx_oth (by decide)]
      by_cases h : j = hp_H p <;> simp [h] <;> rfl
    have r2 : S3.2 = S1.2 := by rw [← hS3]; rfl
    clear hS3 one
    have cse : ∀ {α : Type} (f : Nat → α) (v : α) (e : α → Int32) (c i : Nat), (∀ j, S3.1 c j = if j = hp_H p then e v else S1.1 c j) → S1.1 c i = e (f i) → S3.1 c i = e (hp_rep f (hp_H p) v i) := fun f v e c i h1 h2 => by
      rw [h1]
      unfold hp_rep
      split
      · rfl
      · exact h2
    have hm3 : hm_P S3 (hp_addH p) := by
      refine ⟨by rw [rf 1 (by decide)]; exact m1, rH, fun i hi => by rw [rc 114 (by decide) (by decide) (by decide) (by decide) (by decide)]; exact m3 i hi, fun i hi => by rw [rc 115 (by decide) (by decide) (by decide) (by decide) (by decide)]; exact m4 i hi, fun i hi => by rw [rc 116 (by decide) (by decide) (by decide) (by decide) (by decide)]; exact m5 i hi, fun i hi => cse (hp_pr p) 0 nI 117 i r7 (m6 i hi), fun i hi => cse (hp_ro p) 200 nI 118 i r8 (m7 i hi), fun i hi => cse (hp_wd p) (-1) Int32.ofInt 119 i r9 (m8 i hi), fun i hi => cse (hp_ln p) 0 nI 120 i r10 (m9 i hi), fun a ha t ht hv => ?_⟩
      have ha2 : a < hp_H p + 1 := ha
      have hah : a ≠ hp_H p := fun r => by
        refine hv.1 ?_
        show hp_rep (hp_wd p) (hp_H p) (-1) a = -1
        unfold hp_rep
        rw [if_pos r]
      have hv2 : hp_wd p a ≠ -1 ∧ t < hp_ln p a := by
        have h1 : hp_rep (hp_wd p) (hp_H p) (-1) a ≠ -1 := hv.1
        have h2 : t < hp_rep (hp_ln p) (hp_H p) 0 a := hv.2
        unfold hp_rep at h1 h2
        rw [if_neg hah] at h1 h2
        exact ⟨h1, h2⟩
      show S3.1 121 (a * 8 + t) = nI (hp_rep (hp_wy p) (hp_H p) (fun t => if t < 0 then 0 else 1000000) a t)
      unfold hp_rep
      rw [if_neg hah, rc 121 (by decide) (by decide) (by decide) (by decide) (by decide)]
      exact m10 a (by omega) t ht hv2
    obtain ⟨g1, g2⟩ := hm_I_new hI he hf hpa (fun c hc => rc c (by omega) (by omega) (by omega) (by omega) (by omega)) (fun f hf3 => rf f (by omega)) r2 hm3 (hp_ok_addH hok (by omega)) (Nat.le_refl _) (Nat.le_succ _)
    exact hk1 (by omega) _ g1 g2
/-- a sheet laid, in the reference's rows -/
theorem hm_P_sheet {S S3 : hd_S} {p : hp_P} {h m : Nat} {w : Int} (hm : hm_P S p) (rf : S3.1 113 1 = S.1 113 1 ∧ S3.1 113 2 = S.1 113 2) (rc : ∀ c, 114 ≤ c → c ≤ 118 → S3.1 c = S.1 c) (r9 : ∀ j, S3.1 119 j = if j = h then Int32.ofInt w else S.1 119 j) (r10 : ∀ j, S3.1 120 j = if j = h then nI m else S.1 120 j) (r1 : ∀ j, ¬ (h * 8 ≤ j ∧ j < h * 8 + 8) → S3.1 121 j = S.1 121 j) (r0 : w ≠ -1 → ∀ t, t < 8 → S3.1 121 (h * 8 + t) = nI 0) : hm_P S3 (hp_sheet p h w m) := by
  obtain ⟨m1, m2, m3, m4, m5, m6, m7, m8, m9, m10⟩ := hm
  refine ⟨rf.1.trans m1, rf.2.trans m2, fun i hi => by rw [rc 114 (by decide) (by decide)]; exact m3 i hi, fun i hi => by rw [rc 115 (by decide) (by decide)]; exact m4 i hi, fun i hi => by rw [rc 116 (by decide) (by decide)]; exact m5 i hi, fun i hi => by rw [rc 117 (by decide) (by decide)]; exact m6 i hi, fun i hi => by rw [rc 118 (by decide) (by decide)]; exact m7 i hi, fun i hi => ?_, fun i hi => ?_, fun a ha t ht hv => ?_⟩
  · show S3.1 119 i = Int32.ofInt (hp_rep (hp_wd p) h w i)
    rw [r9]
    unfold hp_rep
    split
    · rfl
    · exact m8 i hi
  · show S3.1 120 i = nI (hp_rep (hp_ln p) h m i)
    rw [r10]
    unfold hp_rep
    split
    · rfl
    · exact m9 i hi
  · have h1 : hp_rep (hp_wd p) h w a ≠ -1 := hv.1
    have h2 : t < hp_rep (hp_ln p) h m a := hv.2
    show S3.1 121 (a * 8 + t) = nI (hp_rep (hp_wy p) h (fun t => if t < m then 0 else 1000000) a t)
    unfold hp_rep at h1 h2 ⊢
    by_cases hah : a = h
    · rw [if_pos hah] at h1 h2 ⊢
      rw [if_pos h2, hah]
      exact r0 h1 t ht
    · rw [if_neg hah] at h1 h2 ⊢
      rw [r1 _ (by omega)]
      exact m10 a ha t ht ⟨h1, h2⟩
