/-! a hall more; copies; undo: the class -/
def hp_preH (p : hp_P) : hp_P := (p.1, p.2.1 + 1, p.2.2.1, p.2.2.2.1, p.2.2.2.2.1, hp_rep p.2.2.2.2.2.1 p.2.1 0, hp_rep p.2.2.2.2.2.2.1 p.2.1 200, p.2.2.2.2.2.2.2)
theorem hp_ok_addH {p : hp_P} (h : hp_ok p) (h7 : hp_H p < 7) : hp_ok (hp_addH p) := by
  obtain ⟨o1, o2, o3, o4, o5, o6, o7, o8, o9, o10, o11⟩ := h
  refine ⟨o1, h7, o3, o4, o5, o6, fun a => ?_, fun a => ?_, fun a => ?_, fun a => ?_, fun a ha t ht => ?_⟩
  · show hp_rep (hp_pr p) p.2.1 0 a ≤ 100000
    unfold hp_rep
    split
    · decide
    · exact o7 a
  · show hp_rep (hp_ro p) p.2.1 200 a ≤ 200
    unfold hp_rep
    split
    · decide
    · exact o8 a
  · show -1 ≤ hp_rep (hp_wd p) p.2.1 (-1) a ∧ hp_rep (hp_wd p) p.2.1 (-1) a ≤ 2
    unfold hp_rep
    split
    · decide
    · exact o9 a
  · show hp_rep (hp_ln p) p.2.1 0 a ≤ 8
    unfold hp_rep
    split
    · decide
    · exact o10 a
  · show (hp_rep (hp_wd p) p.2.1 (-1) a ≠ -1 ∧ t < hp_rep (hp_ln p) p.2.1 0 a → hp_rep (hp_wy p) p.2.1 (fun t => if t < 0 then 0 else 1000000) a t ≤ 1000) ∧ (¬ (hp_rep (hp_wd p) p.2.1 (-1) a ≠ -1 ∧ t < hp_rep (hp_ln p) p.2.1 0 a) → hp_rep (hp_wy p) p.2.1 (fun t => if t < 0 then 0 else 1000000) a t = 1000000)
    have ha2 : a < p.2.1 + 1 := ha
    unfold hp_rep
    by_cases hah : a = p.2.1
    · simp [hah]
    · simp only [hah, if_false]
      exact o11 a (show a < p.2.1 by omega) t ht
set_option maxHeartbeats 4000000 in
theorem sx_hall {S : hd_S} {p : hp_P} {n : Nat} {q : Nat → hp_P} {hand : Nat} {cl : Nat → Nat} (hI : hx_I S p n q hand cl) (post : Option hd_V → hd_S → Prop)
    (hk1 : hp_H p < 7 → ∀ S2, hx_I S2 (hp_addH p) (hp_kn n) (hp_kq n q p) hand cl → hx_fr S S2 → post (some (hd_vI (nI (hp_H p)))) S2)
    (hk2 : ¬ hp_H p < 7 → post (some (hd_vI (-5))) S) : wm_X8_hall [hd_vR 0] S post := by
  have hok := hI.1.1
  have hx := hI.2.1
  have hH : hp_H p ≤ 7 := hok.2.1
  have hx1 : S.1 1 1 = nI (hp_H p) := hx.2.1
  simp only [wm_X8_hall, wo_X8_hall, hd_mth, hd_rho0, hd_args, hd_wide, hq_sQ, hd_s0, hq_sI, hq_sJ, hd_sR, hd_sP, hd_sF, hd_sZ, hd_sG, hd_sA, hd_sL, hd_sB, hd_sO, hd_sN, hd_sD, hd_sW, hd_sE, hd_sRI, hd_sRZ, hd_sRJ, hd_sRR, hd_sRV, hd_sSw, hd_sw, hd_sCI, hd_sCL, hd_iK, hd_iL, hd_iU, hd_iB, hd_iD, hd_iJ, hd_iG, hd_iA, hd_iQ, hd_iC, hd_iN, hd_iE, hd_jK, hd_jL, hd_jU, hd_jB, hd_jD, hd_jH, hd_jI, hd_jA, hd_jQ, hd_jN, hd_rL, hd_rG, hd_rA, hd_rN, hd_cI, hd_c0, hd_cJ, hd_cX, hd_cA, hd_cO, hd_v0, hd_pI, hd_pJ, hd_pR, hd_nV, hd_nS, hd_get, hd_st, hd_stW, hd_cut, List.replicate, List.length_cons, List.length_nil, List.nil_append, List.cons_append, Nat.reduceAdd, Nat.reduceSub, Nat.reduceLeDiff, true_and, and_true, if_true, if_false, Bool.false_eq_true, List.append_nil, hs_o_0, hs_r_0_0, hs_t_0_0, hs_r_0_1, hs_t_0_1, hs_r_0_2, hs_t_0_2, hs_r_0_3, hs_t_0_3, hs_r_0_4, hs_t_0_4, hs_r_0_5, hs_t_0_5, hs_r_0_6, hs_t_0_6, hs_r_0_7, hs_t_0_7, hs_f_0_8, hs_o_1, hs_f_1_0, hs_f_1_1, hs_r_1_2, hs_t_1_2, hs_r_1_3, hs_t_1_3, hs_r_1_4, hs_t_1_4, hs_r_1_5, hs_t_1_5, hs_r_1_6, hs_t_1_6, hs_r_1_7, hs_t_1_7, hs_r_1_8, hs_t_1_8, hs_r_1_9, hs_t_1_9, hs_i_2, hs_i_3, hs_i_4, hs_i_5, hs_i_6, hs_i_7, hs_i_8, hs_i_9, hs_o_82, hs_r_82_0, hs_t_82_0, hs_f_82_1, hs_i_83, hs_o_84, hs_r_84_0, hs_t_84_0, hs_r_84_1, hs_t_84_1, hs_r_84_2, hs_t_84_2, hs_r_84_3, hs_t_84_3, hs_f_84_4, hs_i_85, hs_i_86, hs_i_87, hs_o_88, hs_r_88_0, hs_t_88_0, hs_r_88_1, hs_t_88_1, hs_r_88_2, hs_t_88_2, hs_r_88_3, hs_t_88_3, hs_r_88_4, hs_t_88_4, hs_r_88_5, hs_t_88_5, hs_r_88_6, hs_t_88_6, hs_r_88_7, hs_t_88_7, hs_f_88_8, hs_f_88_9, hs_i_89, hs_i_90, hs_i_91, hs_i_92, hs_i_93, hs_i_94, hs_i_95, hs_i_96, hs_i_97, hs_i_98, hs_i_99, hs_i_100, hs_i_101, hs_i_102, hs_o_103, hs_r_103_0, hs_t_103_0, hs_r_103_1, hs_t_103_1, hs_r_103_2, hs_t_103_2, hs_r_103_3, hs_t_103_3, hs_f_103_4, hs_i_104, hs_o_105, hs_r_105_0, hs_t_105_0, hs_r_105_1, hs_t_105_1, hs_r_105_2, hs_t_105_2, hs_i_106, hs_i_107, hs_o_108, hs_r_108_0, hs_t_108_0, hs_r_108_1, hs_t_108_1, hs_r_108_2, hs_t_108_2, hs_r_108_3, hs_t_108_3, hs_f_108_4, hs_i_109, hs_i_110, hs_o_111, hs_r_111_0, hs_t_111_0, hs_r_111_1, hs_t_111_1, hs_f_111_2, hs_f_111_3, hs_f_111_4, hs_i_112, hs_o_113, hs_f_113_0, hs_f_113_1, hs_f_113_2, hs_r_113_3, hs_t_113_3, hs_r_113_4, hs_t_113_4, hs_r_113_5, hs_t_113_5, hs_r_113_6, hs_t_113_6, hs_r_113_7, hs_t_113_7, hs_r_113_8, hs_t_113_8, hs_r_113_9, hs_t_113_9, hs_r_113_10, hs_t_113_10, hs_r_113_11, hs_t_113_11, hs_f_113_12, hs_f_113_13, hs_f_113_14, hs_r_113_15, hs_t_113_15, hs_f_113_16, hs_r_113_17, hs_t_113_17, hs_r_113_18, hs_t_113_18, hs_r_113_19, hs_t_113_19, hs_r_113_20, hs_t_113_20, hs_f_113_21, hs_f_113_22, hs_f_113_23, hs_r_113_24, hs_t_113_24, hs_f_113_25, hs_r_113_26, hs_t_113_26, hs_f_113_27, hs_i_114, hs_i_115, hs_i_116, hs_i_117, hs_i_118, hs_i_119, hs_i_120, hs_i_121, hs_i_122, hs_i_123, hs_i_124, hs_i_125, hs_i_126, hs_i_127, hs_i_128, hs_i_129, hx1, show (7 : Int32) = nI 7 from rfl, hb_le (show 7 < 2 ^ 31 by omega) (show hp_H p < 2 ^ 31 by omega), decide_eq_true_eq]
  by_cases h7 : 7 ≤ hp_H p
  · simp only [h7, if_true]
    exact hk2 (by omega)
  · simp only [h7, if_false, true_and]
    refine sx_keepForUndo hok.2.1 hx hI.2.2.1 _ (fun S1 hkf hpa => ?_)
    have hxk := hx_kf_P hkf hx
    have hk0 : S1.1 1 1 = nI (hp_H p) := hxk.2.1
    simp only [wm_X5_addHall, wo_X5_addHall, hd_mth, hd_rho0, hd_args, hd_wide, hq_sQ, hd_s0, hq_sI, hq_sJ, hd_sR, hd_sP, hd_sF, hd_sZ, hd_sG, hd_sA, hd_sL, hd_sB, hd_sO, hd_sN, hd_sD, hd_sW, hd_sE, hd_sRI, hd_sRZ, hd_sRJ, hd_sRR, hd_sRV, hd_sSw, hd_sw, hd_sCI, hd_sCL, hd_iK, hd_iL, hd_iU, hd_iB, hd_iD, hd_iJ, hd_iG, hd_iA, hd_iQ, hd_iC, hd_iN, hd_iE, hd_jK, hd_jL, hd_jU, hd_jB, hd_jD, hd_jH, hd_jI, hd_jA, hd_jQ, hd_jN, hd_rL, hd_rG, hd_rA, hd_rN, hd_cI, hd_c0, hd_cJ, hd_cX, hd_cA, hd_cO, hd_v0, hd_pI, hd_pJ, hd_pR, hd_nV, hd_nS, hd_get, hd_st, hd_stW, hd_cut, List.replicate, List.length_cons, List.length_nil, List.nil_append, List.cons_append, Nat.reduceAdd, Nat.reduceSub, Nat.reduceLeDiff, true_and, and_true, if_true, if_false, Bool.false_eq_true, List.append_nil, hs_o_0, hs_r_0_0, hs_t_0_0, hs_r_0_1, hs_t_0_1, hs_r_0_2, hs_t_0_2, hs_r_0_3, hs_t_0_3, hs_r_0_4, hs_t_0_4, hs_r_0_5, hs_t_0_5, hs_r_0_6, hs_t_0_6, hs_r_0_7, hs_t_0_7, hs_f_0_8, hs_o_1, hs_f_1_0, hs_f_1_1, hs_r_1_2, hs_t_1_2, hs_r_1_3, hs_t_1_3, hs_r_1_4, hs_t_1_4, hs_r_1_5, hs_t_1_5, hs_r_1_6, hs_t_1_6, hs_r_1_7, hs_t_1_7, hs_r_1_8, hs_t_1_8, hs_r_1_9, hs_t_1_9, hs_i_2, hs_i_3, hs_i_4, hs_i_5, hs_i_6, hs_i_7, hs_i_8, hs_i_9, hs_o_82, hs_r_82_0, hs_t_82_0, hs_f_82_1, hs_i_83, hs_o_84, hs_r_84_0, hs_t_84_0, hs_r_84_1, hs_t_84_1, hs_r_84_2, hs_t_84_2, hs_r_84_3, hs_t_84_3, hs_f_84_4, hs_i_85, hs_i_86, hs_i_87, hs_o_88, hs_r_88_0, hs_t_88_0, hs_r_88_1, hs_t_88_1, hs_r_88_2, hs_t_88_2, hs_r_88_3, hs_t_88_3, hs_r_88_4, hs_t_88_4, hs_r_88_5, hs_t_88_5, hs_r_88_6, hs_t_88_6, hs_r_88_7, hs_t_88_7, hs_f_88_8, hs_f_88_9, hs_i_89, hs_i_90, hs_i_91, hs_i_92, hs_i_93, hs_i_94, hs_i_95, hs_i_96, hs_i_97, hs_i_98, hs_i_99, hs_i_100, hs_i_101, hs_i_102, hs_o_103, hs_r_103_0, hs_t_103_0, hs_r_103_1, hs_t_103_1, hs_r_103_2, hs_t_103_2, hs_r_103_3, hs_t_103_3, hs_f_103_4, hs_i_104, hs_o_105, hs_r_105_0, hs_t_105_0, hs_r_105_1, hs_t_105_1, hs_r_105_2, hs_t_105_2, hs_i_106, hs_i_107, hs_o_108, hs_r_108_0, hs_t_108_0, hs_r_108_1, hs_t_108_1, hs_r_108_2, hs_t_108_2, hs_r_108_3, hs_t_108_3, hs_f_108_4, hs_i_109, hs_i_110, hs_o_111, hs_r_111_0, hs_t_111_0, hs_r_111_1, hs_t_111_1, hs_f_111_2, hs_f_111_3, hs_f_111_4, hs_i_112, hs_o_113, hs_f_113_0, hs_f_113_1, hs_f_113_2, hs_r_113_3, hs_t_113_3, hs_r_113_4, hs_t_113_4, hs_r_113_5, hs_t_113_5, hs_r_113_6, hs_t_113_6, hs_r_113_7, hs_t_113_7, hs_r_113_8, hs_t_113_8, hs_r_113_9, hs_t_113_9, hs_r_113_10, hs_t_113_10, hs_r_113_11, hs_t_113_11, hs_f_113_12, hs_f_113_13, hs_f_113_14, hs_r_113_15, hs_t_113_15, hs_f_113_16, hs_r_113_17, hs_t_113_17, hs_r_113_18, hs_t_113_18, hs_r_113_19, hs_t_113_19, hs_r_113_20, hs_t_113_20, hs_f_113_21, hs_f_113_22, hs_f_113_23, hs_r_113_24, hs_t_113_24, hs_f_113_25, hs_r_113_26, hs_t_113_26, hs_f_113_27, hs_i_114, hs_i_115, hs_i_116, hs_i_117, hs_i_118, hs_i_119, hs_i_120, hs_i_121, hs_i_122, hs_i_123, hs_i_124, hs_i_125, hs_i_126, hs_i_127, hs_i_128, hs_i_129, true_and, hk0, vp_in_nI (show hp_H p < 7 by omega) (show 7 < 2 ^ 31 by decide), hd_cc (show hp_H p < 2147483648 by omega), nI_1]
    have h3 : ∀ d, d = 0 ∨ 10 ≤ d → (hd_wI (hd_wI (hd_wI S1 1 1 (nI (hp_H p + 1))) 5 (hp_H p) 0) 6 (hp_H p) 200).1 d = S1.1 d := fun d hd => by
      funext j
      rw [hx_oth (by omega), hx_oth (by omega), hx_oth (by omega)]
    have hx3 : hx_P 1 S1 p → (S1.1 1 0 = nI (hp_T p)) := fun h => h.1
    have e32 : (hd_wI (hd_wI (hd_wI S1 1 1 (nI (hp_H p + 1))) 5 (hp_H p) 0) 6 (hp_H p) 200).2 = S1.2 := rfl
    have rows : (hd_wI (hd_wI (hd_wI S1 1 1 (nI (hp_H p + 1))) 5 (hp_H p) 0) 6 (hp_H p) 200).1 1 0 = nI (hp_T p) ∧ (hd_wI (hd_wI (hd_wI S1 1 1 (nI (hp_H p + 1))) 5 (hp_H p) 0) 6 (hp_H p) 200).1 1 1 = nI (hp_H p + 1) ∧ (∀ c, c ≠ 1 → c ≠ 5 → c ≠ 6 → (hd_wI (hd_wI (hd_wI S1 1 1 (nI (hp_H p + 1))) 5 (hp_H p) 0) 6 (hp_H p) 200).1 c = S1.1 c) ∧ (∀ i, i < 7 → (hd_wI (hd_wI (hd_wI S1 1 1 (nI (hp_H p + 1))) 5 (hp_H p) 0) 6 (hp_H p) 200).1 5 i = nI (hp_rep (hp_pr p) (hp_H p) 0 i)) ∧ (∀ i, i < 7 → (hd_wI (hd_wI (hd_wI S1 1 1 (nI (hp_H p + 1))) 5 (hp_H p) 0) 6 (hp_H p) 200).1 6 i = nI (hp_rep (hp_ro p) (hp_H p) 200 i)) := by
      refine ⟨?_, ?_, fun c c1 c5 c6 => ?_, fun i hi => ?_, ?_⟩
      · rw [hx_oth (by decide), hx_oth (by decide), hd_wI1, if_neg (fun r => absurd r.2 (by decide))]
        exact hxk.1
      · rw [hx_oth (by decide), hx_oth (by decide), hd_wI1, if_pos ⟨rfl, rfl⟩]
      · funext j
        rw [hx_oth c6, hx_oth c5, hx_oth c1]
      · rw [hx_oth (by decide)]
        exact hx_rep (e := fun x => nI x) (v := 0) (fun i hi => (hx_oth (by decide)).trans (hxk.2.2.2.2.2.1 i hi)) i hi
      · have h6b : ∀ i, i < 7 → (hd_wI (hd_wI S1 1 1 (nI (hp_H p + 1))) 5 (hp_H p) 0).1 6 i = nI (hp_ro p i) := fun i hi => by
          rw [hx_oth (by decide), hx_oth (by decide)]
          exact hxk.2.2.2.2.2.2.1 i hi
        exact hx_rep (e := fun x => nI x) (v := 200) h6b
    generalize hd_wI (hd_wI (hd_wI S1 1 1 (nI (hp_H p + 1))) 5 (hp_H p) 0) 6 (hp_H p) 200 = S2 at h3 e32 rows
    obtain ⟨w1, w2, w3, w4, w5⟩ := rows
    refine sx_laySheet (m := 0) (by omega) (by decide) (-1) _ (fun S3 he g7 g8 g9 => ?_)
    simp only [true_and]
    have h3b : ∀ d, d = 0 ∨ 10 ≤ d → S3.1 d = S1.1 d := fun d hd => by rw [hd_eqx_in he d hd, h3 d hd]
    have hxn : hx_P 1 S3 (hp_addH p) := by
      obtain ⟨x1, x2, x3, x4, x5, x6, x7, x8, x9, x10⟩ := hxk
      refine ⟨?_, ?_, fun i hi => ?_, fun i hi => ?_, fun i hi => ?_, fun i hi => ?_, fun i hi => ?_, fun i hi => ?_, fun i hi => ?_, fun a ha t ht => ?_⟩
      · rw [he.1 1 (by decide)]
        exact w1
      · rw [he.1 1 (by decide)]
        exact w2
      · rw [he.1 (1 + 1) (by decide), w3 (1 + 1) (by decide) (by decide) (by decide)]
        exact x3 i hi
      · rw [he.1 (1 + 2) (by decide), w3 (1 + 2) (by decide) (by decide) (by decide)]
        exact x4 i hi
      · rw [he.1 (1 + 3) (by decide), w3 (1 + 3) (by decide) (by decide) (by decide)]
        exact x5 i hi
      · rw [he.1 (1 + 4) (by decide)]
        exact w4 i hi
      · rw [he.1 (1 + 5) (by decide)]
        exact w5 i hi
      · show S3.1 7 i = Int32.ofInt (hp_rep (hp_wd p) (hp_H p) (-1) i)
        rw [g7]
        unfold hp_rep
        split
        · rfl
        · rw [w3 7 (by decide) (by decide) (by decide)]
          exact x8 i hi
      · show S3.1 8 i = nI (hp_rep (hp_ln p) (hp_H p) 0 i)
        rw [g8]
        unfold hp_rep
        split
        · rfl
        · rw [w3 8 (by decide) (by decide) (by decide)]
          exact x9 i hi
      · show S3.1 9 (a * 8 + t) = nI (hp_rep (hp_wy p) (hp_H p) (fun t => if t < 0 then 0 else 1000000) a t)
        have ha2 : a < hp_H p + 1 := ha
        rw [g9]
        unfold hp_rep
        by_cases hah : a = hp_H p
        · rw [if_pos (show hp_H p * 8 ≤ a * 8 + t ∧ a * 8 + t < hp_H p * 8 + 8 by omega), if_pos hah]
          rfl
        · rw [if_neg (show ¬ (hp_H p * 8 ≤ a * 8 + t ∧ a * 8 + t < hp_H p * 8 + 8) by omega), if_neg hah, w3 9 (by decide) (by decide) (by decide)]
          exact x10 a (by omega) t ht
    obtain ⟨g1, g2⟩ := hx_I_new hI hkf hpa h3b (by rw [he.2, e32]) hxn (hp_ok_addH hok (by omega)) (Nat.le_refl _) (Nat.le_succ _)
    exact hk1 (by omega) _ g1 g2
/-! undo -/
set_option maxHeartbeats 4000000 in
theorem sx_giveBack {S : hd_S} {n : Nat} {q : Nat → hp_P} (hpa : hx_past S (n + 1) q) (hpH : hp_H (q n) ≤ 7) (post : Option hd_V → hd_S → Prop)
    (hk : ∀ S2, (∀ c, c = 0 ∨ (10 ≤ c ∧ c ≠ 82) → S2.1 c = S.1 c) → S2.2 = S.2 → hx_P 1 S2 (q n) → hx_past S2 n q → post none S2) : wm_X4_giveBack [hd_vR 82, hd_vR 1] S post := by
  obtain ⟨hn8, h82, g, hg, hinj, hpl⟩ := hpa
  obtain ⟨g1, g2, g3⟩ := hg n (by omega)
  have e1 : nI (n + 1) - 1 = nI n := by
    rw [show (1 : Int32) = nI 1 from rfl, pk_sub (by omega)]
    rfl
  simp only [wm_X4_giveBack, wo_X4_giveBack, hd_mth, hd_rho0, hd_args, hd_wide, hq_sQ, hd_s0, hq_sI, hq_sJ, hd_sR, hd_sP, hd_sF, hd_sZ, hd_sG, hd_sA, hd_sL, hd_sB, hd_sO, hd_sN, hd_sD, hd_sW, hd_sE, hd_sRI, hd_sRZ, hd_sRJ, hd_sRR, hd_sRV, hd_sSw, hd_sw, hd_sCI, hd_sCL, hd_iK, hd_iL, hd_iU, hd_iB, hd_iD, hd_iJ, hd_iG, hd_iA, hd_iQ, hd_iC, hd_iN, hd_iE, hd_jK, hd_jL, hd_jU, hd_jB, hd_jD, hd_jH, hd_jI, hd_jA, hd_jQ, hd_jN, hd_rL, hd_rG, hd_rA, hd_rN, hd_cI, hd_c0, hd_cJ, hd_cX, hd_cA, hd_cO, hd_v0, hd_pI, hd_pJ, hd_pR, hd_nV, hd_nS, hd_get, hd_st, hd_stW, hd_cut, List.replicate, List.length_cons, List.length_nil, List.nil_append, List.cons_append, Nat.reduceAdd, Nat.reduceSub, Nat.reduceLeDiff, true_and, and_true, if_true, if_false, Bool.false_eq_true, List.append_nil, hs_o_0, hs_r_0_0, hs_t_0_0, hs_r_0_1, hs_t_0_1, hs_r_0_2, hs_t_0_2, hs_r_0_3, hs_t_0_3, hs_r_0_4, hs_t_0_4, hs_r_0_5, hs_t_0_5, hs_r_0_6, hs_t_0_6, hs_r_0_7, hs_t_0_7, hs_f_0_8, hs_o_1, hs_f_1_0, hs_f_1_1, hs_r_1_2, hs_t_1_2, hs_r_1_3, hs_t_1_3, hs_r_1_4, hs_t_1_4, hs_r_1_5, hs_t_1_5, hs_r_1_6, hs_t_1_6, hs_r_1_7, hs_t_1_7, hs_r_1_8, hs_t_1_8, hs_r_1_9, hs_t_1_9, hs_i_2, hs_i_3, hs_i_4, hs_i_5, hs_i_6, hs_i_7, hs_i_8, hs_i_9, hs_o_82, hs_r_82_0, hs_t_82_0, hs_f_82_1, hs_i_83, hs_o_84, hs_r_84_0, hs_t_84_0, hs_r_84_1, hs_t_84_1, hs_r_84_2, hs_t_84_2, hs_r_84_3, hs_t_84_3, hs_f_84_4, hs_i_85, hs_i_86, hs_i_87, hs_o_88, hs_r_88_0, hs_t_88_0, hs_r_88_1, hs_t_88_1, hs_r_88_2, hs_t_88_2, hs_r_88_3, hs_t_88_3, hs_r_88_4, hs_t_88_4, hs_r_88_5, hs_t_88_5, hs_r_88_6, hs_t_88_6, hs_r_88_7, hs_t_88_7, hs_f_88_8, hs_f_88_9, hs_i_89, hs_i_90, hs_i_91, hs_i_92, hs_i_93, hs_i_94, hs_i_95, hs_i_96, hs_i_97, hs_i_98, hs_i_99, hs_i_100, hs_i_101, hs_i_102, hs_o_103, hs_r_103_0, hs_t_103_0, hs_r_103_1, hs_t_103_1, hs_r_103_2, hs_t_103_2, hs_r_103_3, hs_t_103_3, hs_f_103_4, hs_i_104, hs_o_105, hs_r_105_0, hs_t_105_0, hs_r_105_1, hs_t_105_1, hs_r_105_2, hs_t_105_2, hs_i_106, hs_i_107, hs_o_108, hs_r_108_0, hs_t_108_0, hs_r_108_1, hs_t_108_1, hs_r_108_2, hs_t_108_2, hs_r_108_3, hs_t_108_3, hs_f_108_4, hs_i_109, hs_i_110, hs_o_111, hs_r_111_0, hs_t_111_0, hs_r_111_1, hs_t_111_1, hs_f_111_2, hs_f_111_3, hs_f_111_4, hs_i_112, hs_o_113, hs_f_113_0, hs_f_113_1, hs_f_113_2, hs_r_113_3, hs_t_113_3, hs_r_113_4, hs_t_113_4, hs_r_113_5, hs_t_113_5, hs_r_113_6, hs_t_113_6, hs_r_113_7, hs_t_113_7, hs_r_113_8, hs_t_113_8, hs_r_113_9, hs_t_113_9, hs_r_113_10, hs_t_113_10, hs_r_113_11, hs_t_113_11, hs_f_113_12, hs_f_113_13, hs_f_113_14, hs_r_113_15, hs_t_113_15, hs_f_113_16, hs_r_113_17, hs_t_113_17, hs_r_113_18, hs_t_113_18, hs_r_113_19, hs_t_113_19, hs_r_113_20, hs_t_113_20, hs_f_113_21, hs_f_113_22, hs_f_113_23, hs_r_113_24, hs_t_113_24, hs_f_113_25, hs_r_113_26, hs_t_113_26, hs_f_113_27, hs_i_114, hs_i_115, hs_i_116, hs_i_117, hs_i_118, hs_i_119, hs_i_120, hs_i_121, hs_i_122, hs_i_123, hs_i_124, hs_i_125, hs_i_126, hs_i_127, hs_i_128, hs_i_129, h82, hb_0lt (show n + 1 < 2 ^ 31 by omega), show 0 < n + 1 by omega, decide_true, e1, hd_wI1, and_self, if_true, vp_in_nI (show n < 8 by omega) (show 8 < 2 ^ 31 by decide), hd_cc (show n < 2147483648 by omega), hd_wI2, g1]
  have w : ∀ c, c ≠ 82 → (hd_wI S 82 1 (nI n)).1 c = S.1 c := fun c hc => by
    funext j
    rw [hx_oth hc]
  refine sx_takeFrom (ja := 0) (jb := g n) (by decide) (by omega) (by omega) hpH (hx_P_cell (fun i hi => w _ (by omega)) (hpl n (by omega))) _ (fun S2 he hx2 => ?_)
  simp only [true_and]
  have ne : ∀ c, c = 0 ∨ 10 ≤ c → S2.1 c = (hd_wI S 82 1 (nI n)).1 c := fun c hc => he.1 c (by simp only [List.mem_cons, List.not_mem_nil, or_false]; omega)
  refine hk S2 (fun c hc => by rw [ne c (by omega), w c (by omega)]) he.2 hx2 ⟨by omega, by rw [ne 82 (by decide), hd_wI1, if_pos ⟨rfl, rfl⟩], g, fun i hi => by rw [he.2]; exact hg i hi, hinj, fun i hi => ?_⟩
  have hgi := hg i (by omega)
  exact hx_P_cell (fun k hk8 => by rw [ne _ (by omega), w _ (by omega)]) (hpl i (by omega))
set_option maxHeartbeats 4000000 in
theorem sx_dropLost {S : hd_S} {T : Nat} (hT : T ≤ 8) (hx1 : S.1 1 0 = nI T) {cl : Nat → Nat} (hcl : ∀ t, t < 8 → S.1 106 t = nI (cl t)) (post : Option hd_V → hd_S → Prop)
    (hk : ∀ S2, hd_eqx [106] S S2 → (∀ t, t < 8 → S2.1 106 t = nI (if t < T then cl t else 0)) → post none S2) : wm_X0_dropLost [hd_vR 105] S post := by
  simp only [wm_X0_dropLost, wo_X0_dropLost, hd_mth, hd_rho0, hd_args, hd_wide, hq_sQ, hd_s0, hq_sI, hq_sJ, hd_sR, hd_sP, hd_sF, hd_sZ, hd_sG, hd_sA, hd_sL, hd_sB, hd_sO, hd_sN, hd_sD, hd_sW, hd_sE, hd_sRI, hd_sRZ, hd_sRJ, hd_sRR, hd_sRV, hd_sSw, hd_sw, hd_sCI, hd_sCL, hd_iK, hd_iL, hd_iU, hd_iB, hd_iD, hd_iJ, hd_iG, hd_iA, hd_iQ, hd_iC, hd_iN, hd_iE, hd_jK, hd_jL, hd_jU, hd_jB, hd_jD, hd_jH, hd_jI, hd_jA, hd_jQ, hd_jN, hd_rL, hd_rG, hd_rA, hd_rN, hd_cI, hd_c0, hd_cJ, hd_cX, hd_cA, hd_cO, hd_v0, hd_pI, hd_pJ, hd_pR, hd_nV, hd_nS, hd_get, hd_st, hd_stW, hd_cut, List.replicate, List.length_cons, List.length_nil, List.nil_append, List.cons_append, Nat.reduceAdd, Nat.reduceSub, Nat.reduceLeDiff, true_and, and_true, if_true, if_false, Bool.false_eq_true, List.append_nil, hs_o_0, hs_r_0_0, hs_t_0_0, hs_r_0_1, hs_t_0_1, hs_r_0_2, hs_t_0_2, hs_r_0_3, hs_t_0_3, hs_r_0_4, hs_t_0_4, hs_r_0_5, hs_t_0_5, hs_r_0_6, hs_t_0_6, hs_r_0_7, hs_t_0_7, hs_f_0_8, hs_o_1, hs_f_1_0, hs_f_1_1, hs_r_1_2, hs_t_1_2, hs_r_1_3, hs_t_1_3, hs_r_1_4, hs_t_1_4, hs_r_1_5, hs_t_1_5, hs_r_1_6, hs_t_1_6, hs_r_1_7, hs_t_1_7, hs_r_1_8, hs_t_1_8, hs_r_1_9, hs_t_1_9, hs_i_2, hs_i_3, hs_i_4, hs_i_5, hs_i_6, hs_i_7, hs_i_8, hs_i_9, hs_o_82, hs_r_82_0, hs_t_82_0, hs_f_82_1, hs_i_83, hs_o_84, hs_r_84_0, hs_t_84_0, hs_r_84_1, hs_t_84_1, hs_r_84_2, hs_t_84_2, hs_r_84_3, hs_t_84_3, hs_f_84_4, hs_i_85, hs_i_86, hs_i_87, hs_o_88, hs_r_88_0, hs_t_88_0, hs_r_88_1, hs_t_88_1, hs_r_88_2, hs_t_88_2, hs_r_88_3, hs_t_88_3, hs_r_88_4, hs_t_88_4, hs_r_88_5, hs_t_88_5, hs_r_88_6, hs_t_88_6, hs_r_88_7, hs_t_88_7, hs_f_88_8, hs_f_88_9, hs_i_89, hs_i_90, hs_i_91, hs_i_92, hs_i_93, hs_i_94, hs_i_95, hs_i_96, hs_i_97, hs_i_98, hs_i_99, hs_i_100, hs_i_101, hs_i_102, hs_o_103, hs_r_103_0, hs_t_103_0, hs_r_103_1, hs_t_103_1, hs_r_103_2, hs_t_103_2, hs_r_103_3, hs_t_103_3, hs_f_103_4, hs_i_104, hs_o_105, hs_r_105_0, hs_t_105_0, hs_r_105_1, hs_t_105_1, hs_r_105_2, hs_t_105_2, hs_i_106, hs_i_107, hs_o_108, hs_r_108_0, hs_t_108_0, hs_r_108_1, hs_t_108_1, hs_r_108_2, hs_t_108_2, hs_r_108_3, hs_t_108_3, hs_f_108_4, hs_i_109, hs_i_110, hs_o_111, hs_r_111_0, hs_t_111_0, hs_r_111_1, hs_t_111_1, hs_f_111_2, hs_f_111_3, hs_f_111_4, hs_i_112, hs_o_113, hs_f_113_0, hs_f_113_1, hs_f_113_2, hs_r_113_3, hs_t_113_3, hs_r_113_4, hs_t_113_4, hs_r_113_5, hs_t_113_5, hs_r_113_6, hs_t_113_6, hs_r_113_7, hs_t_113_7, hs_r_113_8, hs_t_113_8, hs_r_113_9, hs_t_113_9, hs_r_113_10, hs_t_113_10, hs_r_113_11, hs_t_113_11, hs_f_113_12, hs_f_113_13, hs_f_113_14, hs_r_113_15, hs_t_113_15, hs_f_113_16, hs_r_113_17, hs_t_113_17, hs_r_113_18, hs_t_113_18, hs_r_113_19, hs_t_113_19, hs_r_113_20, hs_t_113_20, hs_f_113_21, hs_f_113_22, hs_f_113_23, hs_r_113_24, hs_t_113_24, hs_f_113_25, hs_r_113_26, hs_t_113_26, hs_f_113_27, hs_i_114, hs_i_115, hs_i_116, hs_i_117, hs_i_118, hs_i_119, hs_i_120, hs_i_121, hs_i_122, hs_i_123, hs_i_124, hs_i_125, hs_i_126, hs_i_127, hs_i_128, hs_i_129, hx1]
  refine hd_up (fun i ρ S2 => T ≤ i ∧ hd_eqx [106] S S2 ∧ (∀ t, t < 8 → S2.1 106 t = nI (if t < T ∨ i ≤ t then cl t else 0)) ∧ ρ = [hd_vR 105, hd_vI (nI i)]) 8 ?_ ?_ hT ⟨Nat.le_refl _, hd_eqx_rf _ _, fun t ht => ?_, rfl⟩
  · rintro i ρ S2 K hi ⟨hTi, he, hw, rfl⟩ hK
    simp only [wc_X0_dropLost_8, wb_X0_dropLost_8, hd_mth, hd_rho0, hd_args, hd_wide, hq_sQ, hd_s0, hq_sI, hq_sJ, hd_sR, hd_sP, hd_sF, hd_sZ, hd_sG, hd_sA, hd_sL, hd_sB, hd_sO, hd_sN, hd_sD, hd_sW, hd_sE, hd_sRI, hd_sRZ, hd_sRJ, hd_sRR, hd_sRV, hd_sSw, hd_sw, hd_sCI, hd_sCL, hd_iK, hd_iL, hd_iU, hd_iB, hd_iD, hd_iJ, hd_iG, hd_iA, hd_iQ, hd_iC, hd_iN, hd_iE, hd_jK, hd_jL, hd_jU, hd_jB, hd_jD, hd_jH, hd_jI, hd_jA, hd_jQ, hd_jN, hd_rL, hd_rG, hd_rA, hd_rN, hd_cI, hd_c0, hd_cJ, hd_cX, hd_cA, hd_cO, hd_v0, hd_pI, hd_pJ, hd_pR, hd_nV, hd_nS, hd_get, hd_st, hd_stW, hd_cut, List.replicate, List.length_cons, List.length_nil, List.nil_append, List.cons_append, Nat.reduceAdd, Nat.reduceSub, Nat.reduceLeDiff, true_and, and_true, if_true, if_false, Bool.false_eq_true, List.append_nil, hs_o_0, hs_r_0_0, hs_t_0_0, hs_r_0_1, hs_t_0_1, hs_r_0_2, hs_t_0_2, hs_r_0_3, hs_t_0_3, hs_r_0_4, hs_t_0_4, hs_r_0_5, hs_t_0_5, hs_r_0_6, hs_t_0_6, hs_r_0_7, hs_t_0_7, hs_f_0_8, hs_o_1, hs_f_1_0, hs_f_1_1, hs_r_1_2, hs_t_1_2, hs_r_1_3, hs_t_1_3, hs_r_1_4, hs_t_1_4, hs_r_1_5, hs_t_1_5, hs_r_1_6, hs_t_1_6, hs_r_1_7, hs_t_1_7, hs_r_1_8, hs_t_1_8, hs_r_1_9, hs_t_1_9, hs_i_2, hs_i_3, hs_i_4, hs_i_5, hs_i_6, hs_i_7, hs_i_8, hs_i_9, hs_o_82, hs_r_82_0, hs_t_82_0, hs_f_82_1, hs_i_83, hs_o_84, hs_r_84_0, hs_t_84_0, hs_r_84_1, hs_t_84_1, hs_r_84_2, hs_t_84_2, hs_r_84_3, hs_t_84_3, hs_f_84_4, hs_i_85, hs_i_86, hs_i_87, hs_o_88, hs_r_88_0, hs_t_88_0, hs_r_88_1, hs_t_88_1, hs_r_88_2, hs_t_88_2, hs_r_88_3, hs_t_88_3, hs_r_88_4, hs_t_88_4, hs_r_88_5, hs_t_88_5, hs_r_88_6, hs_t_88_6, hs_r_88_7, hs_t_88_7, hs_f_88_8, hs_f_88_9, hs_i_89, hs_i_90, hs_i_91, hs_i_92, hs_i_93, hs_i_94, hs_i_95, hs_i_96, hs_i_97, hs_i_98, hs_i_99, hs_i_100, hs_i_101, hs_i_102, hs_o_103, hs_r_103_0, hs_t_103_0, hs_r_103_1, hs_t_103_1, hs_r_103_2, hs_t_103_2, hs_r_103_3, hs_t_103_3, hs_f_103_4, hs_i_104, hs_o_105, hs_r_105_0, hs_t_105_0, hs_r_105_1, hs_t_105_1, hs_r_105_2, hs_t_105_2, hs_i_106, hs_i_107, hs_o_108, hs_r_108_0, hs_t_108_0, hs_r_108_1, hs_t_108_1, hs_r_108_2, hs_t_108_2, hs_r_108_3, hs_t_108_3, hs_f_108_4, hs_i_109, hs_i_110, hs_o_111, hs_r_111_0, hs_t_111_0, hs_r_111_1, hs_t_111_1, hs_f_111_2, hs_f_111_3, hs_f_111_4, hs_i_112, hs_o_113, hs_f_113_0, hs_f_113_1, hs_f_113_2, hs_r_113_3, hs_t_113_3, hs_r_113_4, hs_t_113_4, hs_r_113_5, hs_t_113_5, hs_r_113_6, hs_t_113_6, hs_r_113_7, hs_t_113_7, hs_r_113_8, hs_t_113_8, hs_r_113_9, hs_t_113_9, hs_r_113_10, hs_t_113_10, hs_r_113_11, hs_t_113_11, hs_f_113_12, hs_f_113_13, hs_f_113_14, hs_r_113_15, hs_t_113_15, hs_f_113_16, hs_r_113_17, hs_t_113_17, hs_r_113_18, hs_t_113_18, hs_r_113_19, hs_t_113_19, hs_r_113_20, hs_t_113_20, hs_f_113_21, hs_f_113_22, hs_f_113_23, hs_r_113_24, hs_t_113_24, hs_f_113_25, hs_r_113_26, hs_t_113_26, hs_f_113_27, hs_i_114, hs_i_115, hs_i_116, hs_i_117, hs_i_118, hs_i_119, hs_i_120, hs_i_121, hs_i_122, hs_i_123, hs_i_124, hs_i_125, hs_i_126, hs_i_127, hs_i_128, hs_i_129, hd_lit8, nI_ltI (show i < 2 ^ 31 by omega) (show 8 < 2 ^ 31 by omega), hi, decide_true, vp_in_nI (show i < 8 by omega) (show 8 < 2 ^ 31 by decide), hd_cc (show i < 2147483648 by omega), nI_1]
    refine hK _ _ ⟨by omega, hd_eqx_w he (by decide), fun t ht => ?_, rfl⟩
    rw [hd_wI1]
    by_cases hti : t = i
    · rw [if_pos ⟨rfl, hti⟩, if_neg (by omega)]
      rfl
    · rw [if_neg (fun r => hti r.2), hw t ht]
      have : (t < T ∨ i ≤ t) = (t < T ∨ i + 1 ≤ t) := propext (by omega)
      simp only [this]
  · rintro ρ S2 K ⟨hTi, he, hw, rfl⟩
    simp only [wc_X0_dropLost_8, hd_mth, hd_rho0, hd_args, hd_wide, hq_sQ, hd_s0, hq_sI, hq_sJ, hd_sR, hd_sP, hd_sF, hd_sZ, hd_sG, hd_sA, hd_sL, hd_sB, hd_sO, hd_sN, hd_sD, hd_sW, hd_sE, hd_sRI, hd_sRZ, hd_sRJ, hd_sRR, hd_sRV, hd_sSw, hd_sw, hd_sCI, hd_sCL, hd_iK, hd_iL, hd_iU, hd_iB, hd_iD, hd_iJ, hd_iG, hd_iA, hd_iQ, hd_iC, hd_iN, hd_iE, hd_jK, hd_jL, hd_jU, hd_jB, hd_jD, hd_jH, hd_jI, hd_jA, hd_jQ, hd_jN, hd_rL, hd_rG, hd_rA, hd_rN, hd_cI, hd_c0, hd_cJ, hd_cX, hd_cA, hd_cO, hd_v0, hd_pI, hd_pJ, hd_pR, hd_nV, hd_nS, hd_get, hd_st, hd_stW, hd_cut, List.replicate, List.length_cons, List.length_nil, List.nil_append, List.cons_append, Nat.reduceAdd, Nat.reduceSub, Nat.reduceLeDiff, true_and, and_true, if_true, if_false, Bool.false_eq_true, List.append_nil, hs_o_0, hs_r_0_0, hs_t_0_0, hs_r_0_1, hs_t_0_1, hs_r_0_2, hs_t_0_2, hs_r_0_3, hs_t_0_3, hs_r_0_4, hs_t_0_4, hs_r_0_5, hs_t_0_5, hs_r_0_6, hs_t_0_6, hs_r_0_7, hs_t_0_7, hs_f_0_8, hs_o_1, hs_f_1_0, hs_f_1_1, hs_r_1_2, hs_t_1_2, hs_r_1_3, hs_t_1_3, hs_r_1_4, hs_t_1_4, hs_r_1_5, hs_t_1_5, hs_r_1_6, hs_t_1_6, hs_r_1_7, hs_t_1_7, hs_r_1_8, hs_t_1_8, hs_r_1_9, hs_t_1_9, hs_i_2, hs_i_3, hs_i_4, hs_i_5, hs_i_6, hs_i_7, hs_i_8, hs_i_9, hs_o_82, hs_r_82_0, hs_t_82_0, hs_f_82_1, hs_i_83, hs_o_84, hs_r_84_0, hs_t_84_0, hs_r_84_1, hs_t_84_1, hs_r_84_2, hs_t_84_2, hs_r_84_3, hs_t_84_3, hs_f_84_4, hs_i_85, hs_i_86, hs_i_87, hs_o_88, hs_r_88_0, hs_t_88_0, hs_r_88_1, hs_t_88_1, hs_r_88_2, hs_t_88_2, hs_r_88_3, hs_t_88_3, hs_r_88_4, hs_t_88_4, hs_r_88_5, hs_t_88_5, hs_r_88_6, hs_t_88_6, hs_r_88_7, hs_t_88_7, hs_f_88_8, hs_f_88_9, hs_i_89, hs_i_90, hs_i_91, hs_i_92, hs_i_93, hs_i_94, hs_i_95, hs_i_96, hs_i_97, hs_i_98, hs_i_99, hs_i_100, hs_i_101, hs_i_102, hs_o_103, hs_r_103_0, hs_t_103_0, hs_r_103_1, hs_t_103_1, hs_r_103_2, hs_t_103_2, hs_r_103_3, hs_t_103_3, hs_f_103_4, hs_i_104, hs_o_105, hs_r_105_0, hs_t_105_0, hs_r_105_1, hs_t_105_1, hs_r_105_2, hs_t_105_2, hs_i_106, hs_i_107, hs_o_108, hs_r_108_0, hs_t_108_0, hs_r_108_1, hs_t_108_1, hs_r_108_2, hs_t_108_2, hs_r_108_3, hs_t_108_3, hs_f_108_4, hs_i_109, hs_i_110, hs_o_111, hs_r_111_0, hs_t_111_0, hs_r_111_1, hs_t_111_1, hs_f_111_2, hs_f_111_3, hs_f_111_4, hs_i_112, hs_o_113, hs_f_113_0, hs_f_113_1, hs_f_113_2, hs_r_113_3, hs_t_113_3, hs_r_113_4, hs_t_113_4, hs_r_113_5, hs_t_113_5, hs_r_113_6, hs_t_113_6, hs_r_113_7, hs_t_113_7, hs_r_113_8, hs_t_113_8, hs_r_113_9, hs_t_113_9, hs_r_113_10, hs_t_113_10, hs_r_113_11, hs_t_113_11, hs_f_113_12, hs_f_113_13, hs_f_113_14, hs_r_113_15, hs_t_113_15, hs_f_113_16, hs_r_113_17, hs_t_113_17, hs_r_113_18, hs_t_113_18, hs_r_113_19, hs_t_113_19, hs_r_113_20, hs_t_113_20, hs_f_113_21, hs_f_113_22, hs_f_113_23, hs_r_113_24, hs_t_113_24, hs_f_113_25, hs_r_113_26, hs_t_113_26, hs_f_113_27, hs_i_114, hs_i_115, hs_i_116, hs_i_117, hs_i_118, hs_i_119, hs_i_120, hs_i_121, hs_i_122, hs_i_123, hs_i_124, hs_i_125, hs_i_126, hs_i_127, hs_i_128, hs_i_129, hd_lit8, Int32.lt_irrefl, decide_false]
    refine hk S2 he (fun t ht => ?_)
    rw [hw t ht]
    have : (t < T ∨ 8 ≤ t) = (t < T) := propext (by omega)
    simp only [this]
  · rw [hcl t ht, if_pos (by omega)]
set_option maxHeartbeats 4000000 in
theorem sx_undo {S : hd_S} {p : hp_P} {n : Nat} {q : Nat → hp_P} {hand : Nat} {cl : Nat → Nat} (hI : hx_I S p n q hand cl) (post : Option hd_V → hd_S → Prop)
    (hk1 : ∀ m, n = m + 1 → ∀ S2, hx_I S2 (q m) m q (hand &&& (2 ^ hp_H (q m) - 1)) (fun t => if t < hp_T (q m) then cl t else 0) → hx_fr S S2 → post (some (hd_vI (nI m))) S2)
    (hk2 : n = 0 → post (some (hd_vI (-4))) S) : wm_X8_undo [hd_vR 0] S post := by
  obtain ⟨⟨a1, a2, a3, a4, a5⟩, b1, b2, b3, b4, b5, b6, b7⟩ := hI
  have hn8 := b2.1
  have h82 := b2.2.1
  cases n with
  | zero =>
    simp only [wm_X8_undo, wo_X8_undo, hd_mth, hd_rho0, hd_args, hd_wide, hq_sQ, hd_s0, hq_sI, hq_sJ, hd_sR, hd_sP, hd_sF, hd_sZ, hd_sG, hd_sA, hd_sL, hd_sB, hd_sO, hd_sN, hd_sD, hd_sW, hd_sE, hd_sRI, hd_sRZ, hd_sRJ, hd_sRR, hd_sRV, hd_sSw, hd_sw, hd_sCI, hd_sCL, hd_iK, hd_iL, hd_iU, hd_iB, hd_iD, hd_iJ, hd_iG, hd_iA, hd_iQ, hd_iC, hd_iN, hd_iE, hd_jK, hd_jL, hd_jU, hd_jB, hd_jD, hd_jH, hd_jI, hd_jA, hd_jQ, hd_jN, hd_rL, hd_rG, hd_rA, hd_rN, hd_cI, hd_c0, hd_cJ, hd_cX, hd_cA, hd_cO, hd_v0, hd_pI, hd_pJ, hd_pR, hd_nV, hd_nS, hd_get, hd_st, hd_stW, hd_cut, List.replicate, List.length_cons, List.length_nil, List.nil_append, List.cons_append, Nat.reduceAdd, Nat.reduceSub, Nat.reduceLeDiff, true_and, and_true, if_true, if_false, Bool.false_eq_true, List.append_nil, hs_o_0, hs_r_0_0, hs_t_0_0, hs_r_0_1, hs_t_0_1, hs_r_0_2, hs_t_0_2, hs_r_0_3, hs_t_0_3, hs_r_0_4, hs_t_0_4, hs_r_0_5, hs_t_0_5, hs_r_0_6, hs_t_0_6, hs_r_0_7, hs_t_0_7, hs_f_0_8, hs_o_1, hs_f_1_0, hs_f_1_1, hs_r_1_2, hs_t_1_2, hs_r_1_3, hs_t_1_3, hs_r_1_4, hs_t_1_4, hs_r_1_5, hs_t_1_5, hs_r_1_6, hs_t_1_6, hs_r_1_7, hs_t_1_7, hs_r_1_8, hs_t_1_8, hs_r_1_9, hs_t_1_9, hs_i_2, hs_i_3, hs_i_4, hs_i_5, hs_i_6, hs_i_7, hs_i_8, hs_i_9, hs_o_82, hs_r_82_0, hs_t_82_0, hs_f_82_1, hs_i_83, hs_o_84, hs_r_84_0, hs_t_84_0, hs_r_84_1, hs_t_84_1, hs_r_84_2, hs_t_84_2, hs_r_84_3, hs_t_84_3, hs_f_84_4, hs_i_85, hs_i_86, hs_i_87, hs_o_88, hs_r_88_0, hs_t_88_0, hs_r_88_1, hs_t_88_1, hs_r_88_2, hs_t_88_2, hs_r_88_3, hs_t_88_3, hs_r_88_4, hs_t_88_4, hs_r_88_5, hs_t_88_5, hs_r_88_6, hs_t_88_6, hs_r_88_7, hs_t_88_7, hs_f_88_8, hs_f_88_9, hs_i_89, hs_i_90, hs_i_91, hs_i_92, hs_i_93, hs_i_94, hs_i_95, hs_i_96, hs_i_97, hs_i_98, hs_i_99, hs_i_100, hs_i_101, hs_i_102, hs_o_103, hs_r_103_0, hs_t_103_0, hs_r_103_1, hs_t_103_1, hs_r_103_2, hs_t_103_2, hs_r_103_3, hs_t_103_3, hs_f_103_4, hs_i_104, hs_o_105, hs_r_105_0, hs_t_105_0, hs_r_105_1, hs_t_105_1, hs_r_105_2, hs_t_105_2, hs_i_106, hs_i_107, hs_o_108, hs_r_108_0, hs_t_108_0, hs_r_108_1, hs_t_108_1, hs_r_108_2, hs_t_108_2, hs_r_108_3, hs_t_108_3, hs_f_108_4, hs_i_109, hs_i_110, hs_o_111, hs_r_111_0, hs_t_111_0, hs_r_111_1, hs_t_111_1, hs_f_111_2, hs_f_111_3, hs_f_111_4, hs_i_112, hs_o_113, hs_f_113_0, hs_f_113_1, hs_f_113_2, hs_r_113_3, hs_t_113_3, hs_r_113_4, hs_t_113_4, hs_r_113_5, hs_t_113_5, hs_r_113_6, hs_t_113_6, hs_r_113_7, hs_t_113_7, hs_r_113_8, hs_t_113_8, hs_r_113_9, hs_t_113_9, hs_r_113_10, hs_t_113_10, hs_r_113_11, hs_t_113_11, hs_f_113_12, hs_f_113_13, hs_f_113_14, hs_r_113_15, hs_t_113_15, hs_f_113_16, hs_r_113_17, hs_t_113_17, hs_r_113_18, hs_t_113_18, hs_r_113_19, hs_t_113_19, hs_r_113_20, hs_t_113_20, hs_f_113_21, hs_f_113_22, hs_f_113_23, hs_r_113_24, hs_t_113_24, hs_f_113_25, hs_r_113_26, hs_t_113_26, hs_f_113_27, hs_i_114, hs_i_115, hs_i_116, hs_i_117, hs_i_118, hs_i_119, hs_i_120, hs_i_121, hs_i_122, hs_i_123, hs_i_124, hs_i_125, hs_i_126, hs_i_127, hs_i_128, hs_i_129, h82, show (nI 0 ≤ (0 : Int32)) from by decide, decide_true, if_true]
    exact hk2 rfl
  | succ m =>
    have hle : ¬ (nI (m + 1) ≤ (0 : Int32)) := fun r => by
      have := (hb_le (a := m + 1) (b := 0) (by omega) (by decide)).mp r
      omega
    have hokm := a2 m (Nat.lt_succ_self _)
    have hTm : hp_T (q m) ≤ 8 := hokm.1
    have hHm : hp_H (q m) ≤ 7 := hokm.2.1
    have h128 : hand < 128 := Nat.lt_of_lt_of_le a3 (Nat.pow_le_pow_right (n := 2) (by decide) a1.2.1)
    simp only [wm_X8_undo, wo_X8_undo, hd_mth, hd_rho0, hd_args, hd_wide, hq_sQ, hd_s0, hq_sI, hq_sJ, hd_sR, hd_sP, hd_sF, hd_sZ, hd_sG, hd_sA, hd_sL, hd_sB, hd_sO, hd_sN, hd_sD, hd_sW, hd_sE, hd_sRI, hd_sRZ, hd_sRJ, hd_sRR, hd_sRV, hd_sSw, hd_sw, hd_sCI, hd_sCL, hd_iK, hd_iL, hd_iU, hd_iB, hd_iD, hd_iJ, hd_iG, hd_iA, hd_iQ, hd_iC, hd_iN, hd_iE, hd_jK, hd_jL, hd_jU, hd_jB, hd_jD, hd_jH, hd_jI, hd_jA, hd_jQ, hd_jN, hd_rL, hd_rG, hd_rA, hd_rN, hd_cI, hd_c0, hd_cJ, hd_cX, hd_cA, hd_cO, hd_v0, hd_pI, hd_pJ, hd_pR, hd_nV, hd_nS, hd_get, hd_st, hd_stW, hd_cut, List.replicate, List.length_cons, List.length_nil, List.nil_append, List.cons_append, Nat.reduceAdd, Nat.reduceSub, Nat.reduceLeDiff, true_and, and_true, if_true, if_false, Bool.false_eq_true, List.append_nil, hs_o_0, hs_r_0_0, hs_t_0_0, hs_r_0_1, hs_t_0_1, hs_r_0_2, hs_t_0_2, hs_r_0_3, hs_t_0_3, hs_r_0_4, hs_t_0_4, hs_r_0_5, hs_t_0_5, hs_r_0_6, hs_t_0_6, hs_r_0_7, hs_t_0_7, hs_f_0_8, hs_o_1, hs_f_1_0, hs_f_1_1, hs_r_1_2, hs_t_1_2, hs_r_1_3, hs_t_1_3, hs_r_1_4, hs_t_1_4, hs_r_1_5, hs_t_1_5, hs_r_1_6, hs_t_1_6, hs_r_1_7, hs_t_1_7, hs_r_1_8, hs_t_1_8, hs_r_1_9, hs_t_1_9, hs_i_2, hs_i_3, hs_i_4, hs_i_5, hs_i_6, hs_i_7, hs_i_8, hs_i_9, hs_o_82, hs_r_82_0, hs_t_82_0, hs_f_82_1, hs_i_83, hs_o_84, hs_r_84_0, hs_t_84_0, hs_r_84_1, hs_t_84_1, hs_r_84_2, hs_t_84_2, hs_r_84_3, hs_t_84_3, hs_f_84_4, hs_i_85, hs_i_86, hs_i_87, hs_o_88, hs_r_88_0, hs_t_88_0, hs_r_88_1, hs_t_88_1, hs_r_88_2, hs_t_88_2, hs_r_88_3, hs_t_88_3, hs_r_88_4, hs_t_88_4, hs_r_88_5, hs_t_88_5, hs_r_88_6, hs_t_88_6, hs_r_88_7, hs_t_88_7, hs_f_88_8, hs_f_88_9, hs_i_89, hs_i_90, hs_i_91, hs_i_92, hs_i_93, hs_i_94, hs_i_95, hs_i_96, hs_i_97, hs_i_98, hs_i_99, hs_i_100, hs_i_101, hs_i_102, hs_o_103, hs_r_103_0, hs_t_103_0, hs_r_103_1, hs_t_103_1, hs_r_103_2, hs_t_103_2, hs_r_103_3, hs_t_103_3, hs_f_103_4, hs_i_104, hs_o_105, hs_r_105_0, hs_t_105_0, hs_r_105_1, hs_t_105_1, hs_r_105_2, hs_t_105_2, hs_i_106, hs_i_107, hs_o_108, hs_r_108_0, hs_t_108_0, hs_r_108_1, hs_t_108_1, hs_r_108_2, hs_t_108_2, hs_r_108_3, hs_t_108_3, hs_f_108_4, hs_i_109, hs_i_110, hs_o_111, hs_r_111_0, hs_t_111_0, hs_r_111_1, hs_t_111_1, hs_f_111_2, hs_f_111_3, hs_f_111_4, hs_i_112, hs_o_113, hs_f_113_0, hs_f_113_1, hs_f_113_2, hs_r_113_3, hs_t_113_3, hs_r_113_4, hs_t_113_4, hs_r_113_5, hs_t_113_5, hs_r_113_6, hs_t_113_6, hs_r_113_7, hs_t_113_7, hs_r_113_8, hs_t_113_8, hs_r_113_9, hs_t_113_9, hs_r_113_10, hs_t_113_10, hs_r_113_11, hs_t_113_11, hs_f_113_12, hs_f_113_13, hs_f_113_14, hs_r_113_15, hs_t_113_15, hs_f_113_16, hs_r_113_17, hs_t_113_17, hs_r_113_18, hs_t_113_18, hs_r_113_19, hs_t_113_19, hs_r_113_20, hs_t_113_20, hs_f_113_21, hs_f_113_22, hs_f_113_23, hs_r_113_24, hs_t_113_24, hs_f_113_25, hs_r_113_26, hs_t_113_26, hs_f_113_27, hs_i_114, hs_i_115, hs_i_116, hs_i_117, hs_i_118, hs_i_119, hs_i_120, hs_i_121, hs_i_122, hs_i_123, hs_i_124, hs_i_125, hs_i_126, hs_i_127, hs_i_128, hs_i_129, h82, hle, decide_false, Bool.false_eq_true, if_false]
    refine sx_giveBack b2 hHm _ (fun S1 c1 c2 hx1 hp1 => ?_)
    simp only [true_and, sx_forgetAnswers]
    have rd : ∀ c j, (hd_wI (hd_wI (hd_wI S1 84 4 1) 88 9 1) 108 4 1).1 c j = if c = 108 ∧ j = 4 then 1 else if c = 88 ∧ j = 9 then 1 else if c = 84 ∧ j = 4 then 1 else S1.1 c j := fun c j => by
      rw [hd_wI1, hd_wI1, hd_wI1]
    have rc : ∀ c, c ≠ 84 → c ≠ 88 → c ≠ 108 → (hd_wI (hd_wI (hd_wI S1 84 4 1) 88 9 1) 108 4 1).1 c = S1.1 c := fun c h1 h2 h3 => by
      funext j
      rw [rd, if_neg (fun q => h3 q.1), if_neg (fun q => h2 q.1), if_neg (fun q => h1 q.1)]
    have s84 : (hd_wI (hd_wI (hd_wI S1 84 4 1) 88 9 1) 108 4 1).1 84 4 = 1 := by rw [rd]; rfl
    have s88 : (hd_wI (hd_wI (hd_wI S1 84 4 1) 88 9 1) 108 4 1).1 88 9 = 1 := by rw [rd]; rfl
    have s108 : (hd_wI (hd_wI (hd_wI S1 84 4 1) 88 9 1) 108 4 1).1 108 4 = 1 := by rw [rd]; rfl
    have s2 : (hd_wI (hd_wI (hd_wI S1 84 4 1) 88 9 1) 108 4 1).2 = S.2 := c2
    generalize hd_wI (hd_wI (hd_wI S1 84 4 1) 88 9 1) 108 4 1 = S2 at rc s84 s88 s108 s2
    clear rd
    have hx2 : hx_P 1 S2 (q m) := hx_P_cell (fun i hi => rc _ (by omega) (by omega) (by omega)) hx1
    have hp2 : hx_past S2 m q := hx_past_eq (fun c h1 h2 => rc c (by omega) (by omega) (by omega)) (by rw [s2, c2]) hp1
    refine sx_dropLost hTm hx2.1 (cl := cl) (fun t ht => by rw [rc 106 (by decide) (by decide) (by decide), c1 106 (by decide)]; exact b4 t ht) _ (fun S3 he h106 => ?_)
    have ne : ∀ c, c ≠ 106 → S3.1 c = S2.1 c := fun c hc => he.1 c (by simp [hc])
    have hx3 : hx_P 1 S3 (q m) := hx_P_cell (fun i hi => ne _ (by omega)) hx2
    have e08 : S3.1 0 8 = nI hand := by rw [ne 0 (by decide), rc 0 (by decide) (by decide) (by decide), c1 0 (by decide)]; exact b3
    have e82 : S3.1 82 1 = nI m := by rw [ne 82 (by decide)]; exact hp2.2.1
    have hal : 2 ^ hp_H (q m) - 1 < 128 := by
      have : 2 ^ hp_H (q m) ≤ 128 := Nat.pow_le_pow_right (n := 2) (by decide) hHm
      omega
    simp only [true_and, e08, sp_X5_everyHall, hx3.2.1, hb_all (show hp_H (q m) < 31 by omega), fa_and, hx_oth (show (82 : Nat) ≠ 0 by decide), e82]
    have w0 : ∀ c, c ≠ 0 → (hd_wI S3 0 8 (nI (hand &&& (2 ^ hp_H (q m) - 1)))).1 c = S3.1 c := fun c hc => by
      funext j
      rw [hx_oth hc]
    refine hk1 m rfl _ ⟨⟨hokm, fun i hi => a2 i (by omega), Nat.lt_of_le_of_lt Nat.and_le_right (by have : 0 < 2 ^ hp_H (q m) := Nat.two_pow_pos _; omega), fun t => ?_, fun t ht => by dsimp only; rw [if_neg (by omega)]⟩, hx_P_cell (fun i hi => w0 _ (by omega)) hx3, hx_past_eq (fun c h1 _ => by rw [w0 c (by omega), ne c (by omega)]) (by rw [hd_wI2, he.2]) hp2, by rw [hd_wI1, if_pos ⟨rfl, rfl⟩], fun t ht => by rw [w0 106 (by decide)]; exact h106 t ht, ⟨?_, fun r => ?_⟩, ⟨fun k hk8 => ?_, ?_, ?_, ?_, fun r => ?_⟩, ⟨?_, fun r => ?_⟩⟩ (fun c hc => ?_)
    · dsimp only
      split
      · exact a4 t
      · exact Nat.zero_le _
    · rw [w0 84 (by decide), ne 84 (by decide)]
      exact Or.inr s84
    · rw [w0 84 (by decide), ne 84 (by decide), s84] at r
      exact absurd r (by decide)
    · rw [hd_wI2, he.2, s2]
      exact b6.1 k hk8
    · rw [hd_wI2, he.2, s2]
      exact b6.2.1
    · rw [w0 93 (by decide), ne 93 (by decide), rc 93 (by decide) (by decide) (by decide), c1 93 (by decide)]
      exact b6.2.2.1
    · rw [w0 88 (by decide), ne 88 (by decide)]
      exact Or.inr s88
    · rw [w0 88 (by decide), ne 88 (by decide), s88] at r
      exact absurd r (by decide)
    · rw [w0 108 (by decide), ne 108 (by decide)]
      exact Or.inr s108
    · rw [w0 108 (by decide), ne 108 (by decide), s108] at r
      exact absurd r (by decide)
    · rw [w0 c (by omega), ne c (by omega), rc c (by omega) (by omega) (by omega), c1 c (by omega)]
