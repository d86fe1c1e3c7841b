/-! number and better: the reference -/
theorem hp_ow_q {p : hp_P} (hp : hp_ok p) {k : Nat} {kk : Int32} {s : Nat} (h : kk = -1 ∨ nI (hb_pc s 8) = kk) : hp_cost p k s = hp_q p k kk s := by
  unfold hp_q
  rw [if_pos h]
set_option maxHeartbeats 4000000 in
theorem sp_number {S : hd_S} {p : hp_P} (hp : hp_ok p) (hm : hm_P S p) (hR : hm_RS p) {hand : Nat} (hh : hand < 2 ^ hp_H p) (hs : S.1 113 14 = nI hand) (kind kk : Int32) (post : Option hd_V → hd_S → Prop)
    (hk1 : ∀ k, k < 7 → kind = nI k → (-1 ≤ kk ∧ kk ≤ 7) → ∀ S2, hm_K S S2 → S2.1 113 14 = nI hand → post (some (hd_vI (if hp_ib (hp_q p k kk) (hp_lo (hp_q p k kk) (2 ^ hp_H p)) hand = true then nI (fb_ct (hp_ib (hp_q p k kk) (hp_lo (hp_q p k kk) (2 ^ hp_H p))) hand) else -1))) S2)
    (hk2 : ¬ ((0 ≤ kind ∧ kind ≤ 6) ∧ (-1 ≤ kk ∧ kk ≤ 7)) → post (some (hd_vI (-3))) (hd_wI S 113 0 0)) : wm_X9_number [hd_vR 113, hd_vI kind, hd_vI kk] S post := by
  have h128 := hp_set128 hp hh
  have hpc := hb_pc_le hand 8
  simp only [wm_X9_number, wo_X9_number, hd_mth, hd_rho0, hd_args, hd_wide, hd_sQ, hd_s0, hd_sI, hd_sJ, hd_sR, hd_sP, hd_sF, hd_sZ, hd_sG, hd_sA, hd_sL, hd_sB, hd_sO, hd_sN, hd_sD, hd_sW, hd_sE, hd_sRI, hd_sRZ, hd_sRJ, hd_sRR, hd_sRV, hd_sSw, hd_sw, hd_sCI, hd_sCL, hd_iK, hd_iL, hd_iU, hd_iB, hd_iD, hd_iJ, hd_iG, hd_iA, hd_iQ, hd_iC, hd_iN, hd_iE, hd_jK, hd_jL, hd_jU, hd_jB, hd_jD, hd_jH, hd_jI, hd_jA, hd_jQ, hd_jN, hd_rL, hd_rG, hd_rA, hd_rN, hd_cI, hd_c0, hd_cJ, hd_cX, hd_cA, hd_cO, hd_v0, hd_pI, hd_pJ, hd_pR, hd_nV, hd_nS, hd_get, hd_st, hd_stW, hd_cut, List.replicate, List.length_cons, List.length_nil, List.nil_append, List.cons_append, Nat.reduceAdd, Nat.reduceSub, Nat.reduceLeDiff, true_and, and_true, if_true, if_false, Bool.false_eq_true, List.append_nil, hs_o_0, hs_r_0_0, hs_t_0_0, hs_r_0_1, hs_t_0_1, hs_r_0_2, hs_t_0_2, hs_r_0_3, hs_t_0_3, hs_r_0_4, hs_t_0_4, hs_r_0_5, hs_t_0_5, hs_r_0_6, hs_t_0_6, hs_r_0_7, hs_t_0_7, hs_f_0_8, hs_o_1, hs_f_1_0, hs_f_1_1, hs_r_1_2, hs_t_1_2, hs_r_1_3, hs_t_1_3, hs_r_1_4, hs_t_1_4, hs_r_1_5, hs_t_1_5, hs_r_1_6, hs_t_1_6, hs_r_1_7, hs_t_1_7, hs_r_1_8, hs_t_1_8, hs_r_1_9, hs_t_1_9, hs_i_2, hs_i_3, hs_i_4, hs_i_5, hs_i_6, hs_i_7, hs_i_8, hs_i_9, hs_o_82, hs_r_82_0, hs_t_82_0, hs_f_82_1, hs_i_83, hs_o_84, hs_r_84_0, hs_t_84_0, hs_r_84_1, hs_t_84_1, hs_r_84_2, hs_t_84_2, hs_r_84_3, hs_t_84_3, hs_f_84_4, hs_i_85, hs_i_86, hs_i_87, hs_o_88, hs_r_88_0, hs_t_88_0, hs_r_88_1, hs_t_88_1, hs_r_88_2, hs_t_88_2, hs_r_88_3, hs_t_88_3, hs_r_88_4, hs_t_88_4, hs_r_88_5, hs_t_88_5, hs_r_88_6, hs_t_88_6, hs_r_88_7, hs_t_88_7, hs_f_88_8, hs_f_88_9, hs_i_89, hs_i_90, hs_i_91, hs_i_92, hs_i_93, hs_i_94, hs_i_95, hs_i_96, hs_i_97, hs_i_98, hs_i_99, hs_i_100, hs_i_101, hs_i_102, hs_o_103, hs_r_103_0, hs_t_103_0, hs_r_103_1, hs_t_103_1, hs_r_103_2, hs_t_103_2, hs_r_103_3, hs_t_103_3, hs_f_103_4, hs_i_104, hs_o_105, hs_r_105_0, hs_t_105_0, hs_r_105_1, hs_t_105_1, hs_r_105_2, hs_t_105_2, hs_i_106, hs_i_107, hs_o_108, hs_r_108_0, hs_t_108_0, hs_r_108_1, hs_t_108_1, hs_r_108_2, hs_t_108_2, hs_r_108_3, hs_t_108_3, hs_f_108_4, hs_i_109, hs_i_110, hs_o_111, hs_r_111_0, hs_t_111_0, hs_r_111_1, hs_t_111_1, hs_f_111_2, hs_f_111_3, hs_f_111_4, hs_i_112, hs_o_113, hs_f_113_0, hs_f_113_1, hs_f_113_2, hs_r_113_3, hs_t_113_3, hs_r_113_4, hs_t_113_4, hs_r_113_5, hs_t_113_5, hs_r_113_6, hs_t_113_6, hs_r_113_7, hs_t_113_7, hs_r_113_8, hs_t_113_8, hs_r_113_9, hs_t_113_9, hs_r_113_10, hs_t_113_10, hs_r_113_11, hs_t_113_11, hs_f_113_12, hs_f_113_13, hs_f_113_14, hs_r_113_15, hs_t_113_15, hs_f_113_16, hs_r_113_17, hs_t_113_17, hs_r_113_18, hs_t_113_18, hs_r_113_19, hs_t_113_19, hs_r_113_20, hs_t_113_20, hs_f_113_21, hs_f_113_22, hs_f_113_23, hs_r_113_24, hs_t_113_24, hs_f_113_25, hs_r_113_26, hs_t_113_26, hs_f_113_27, hs_i_114, hs_i_115, hs_i_116, hs_i_117, hs_i_118, hs_i_119, hs_i_120, hs_i_121, hs_i_122, hs_i_123, hs_i_124, hs_i_125, hs_i_126, hs_i_127, hs_i_128, hs_i_129, sp_isAsked, hd_t01, hd_dn1, decide_eq_true_eq]
  by_cases hq : (0 ≤ kind ∧ kind ≤ 6) ∧ (-1 ≤ kk ∧ kk ≤ 7)
  · obtain ⟨k, hk, rfl⟩ := hb_rng (m := 6) (by decide) hq.1.1 hq.1.2
    simp only [hq, and_self, not_true, if_false]
    have h1 : hm_K S (hd_wI S 113 0 0) := hm_K_0 0 (hm_K_rf S)
    refine sp_search hp (hm_K_P h1 hm) hR kk (-1) (show k < 7 by omega) _ (fun S2 he hf h21 h22 h23 => ?_)
    have h2 := hm_K_tr h1 (hm_K_s he hf)
    have hm2 := hm_K_P h2 hm
    have hs2 : S2.1 113 14 = nI hand := by
      rw [hf 14 (by decide), hd_wI1, if_neg (fun q => absurd q.2 (by decide))]
      exact hs
    have hqlt : ∀ s v, hp_q p k kk s = some v → v < 2000000000 := fun s v h => hp_q_lt hp h
    have hlt := hp_lo_lt hqlt (2 ^ hp_H p)
    have hk3 := hk1 k (by omega) rfl hq.2
    clear hk1 hk2 h22 h23
    generalize hp_lo (hp_q p k kk) (2 ^ hp_H p) = o at h21 hlt hk3
    have no : ∀ S3, hm_K S S3 → S3.1 113 14 = nI hand → ¬ (hp_ib (hp_q p k kk) o hand = true) → post (some (hd_vI (-1))) S3 := by
      intro S3 h3 hs3 hb
      have := hk3 S3 h3 hs3
      rw [if_neg hb] at this
      exact this
    -- the count, where the hand is one of the best
    have count : ∀ S3, hm_K S S3 → S3.1 113 14 = nI hand → S3.1 113 21 = hp_ow o → hp_ib (hp_q p k kk) o hand = true → ∀ x : hd_V, hd_sH wc_X9_number_71 wb_X9_number_71 [hd_vR 113, hd_vI (nI k), hd_vI kk, hd_vI 0, hd_vI 0] S3 (fun ρ S => match hd_get ρ 3 with | Sum.inl x => post (some (hd_vI x)) S | x => False) post := by
      intro S3 h3 hs3 h213 hb _
      have hbo : ¬ o = none ∧ hp_q p k kk hand = o := by simpa [hp_ib] using hb
      refine hd_up (fun n ρ S4 => hm_K S S4 ∧ S4.1 113 14 = nI hand ∧ S4.1 113 21 = hp_ow o ∧ ρ = [hd_vR 113, hd_vI (nI k), hd_vI kk, hd_vI (nI (fb_ct (hp_ib (hp_q p k kk) o) n)), hd_vI (nI n)]) hand ?_ ?_ (Nat.zero_le _) ⟨h3, hs3, h213, rfl⟩
      · rintro n ρ S4 K hn ⟨h4, hs4, h214, rfl⟩ hK
        have hm4 := hm_K_P h4 hm
        have hpn := hb_pc_le n 8
        have hK1 := fun S5 a b c => hK _ S5 ⟨a, b, c, rfl⟩
        rw [fb_ct_succ] at hK1
        simp only [wc_X9_number_71, wb_X9_number_71, hd_mth, hd_rho0, hd_args, hd_wide, hd_sQ, hd_s0, hd_sI, hd_sJ, hd_sR, hd_sP, hd_sF, hd_sZ, hd_sG, hd_sA, hd_sL, hd_sB, hd_sO, hd_sN, hd_sD, hd_sW, hd_sE, hd_sRI, hd_sRZ, hd_sRJ, hd_sRR, hd_sRV, hd_sSw, hd_sw, hd_sCI, hd_sCL, hd_iK, hd_iL, hd_iU, hd_iB, hd_iD, hd_iJ, hd_iG, hd_iA, hd_iQ, hd_iC, hd_iN, hd_iE, hd_jK, hd_jL, hd_jU, hd_jB, hd_jD, hd_jH, hd_jI, hd_jA, hd_jQ, hd_jN, hd_rL, hd_rG, hd_rA, hd_rN, hd_cI, hd_c0, hd_cJ, hd_cX, hd_cA, hd_cO, hd_v0, hd_pI, hd_pJ, hd_pR, hd_nV, hd_nS, hd_get, hd_st, hd_stW, hd_cut, List.replicate, List.length_cons, List.length_nil, List.nil_append, List.cons_append, Nat.reduceAdd, Nat.reduceSub, Nat.reduceLeDiff, true_and, and_true, if_true, if_false, Bool.false_eq_true, List.append_nil, hs_o_0, hs_r_0_0, hs_t_0_0, hs_r_0_1, hs_t_0_1, hs_r_0_2, hs_t_0_2, hs_r_0_3, hs_t_0_3, hs_r_0_4, hs_t_0_4, hs_r_0_5, hs_t_0_5, hs_r_0_6, hs_t_0_6, hs_r_0_7, hs_t_0_7, hs_f_0_8, hs_o_1, hs_f_1_0, hs_f_1_1, hs_r_1_2, hs_t_1_2, hs_r_1_3, hs_t_1_3, hs_r_1_4, hs_t_1_4, hs_r_1_5, hs_t_1_5, hs_r_1_6, hs_t_1_6, hs_r_1_7, hs_t_1_7, hs_r_1_8, hs_t_1_8, hs_r_1_9, hs_t_1_9, hs_i_2, hs_i_3, hs_i_4, hs_i_5, hs_i_6, hs_i_7, hs_i_8, hs_i_9, hs_o_82, hs_r_82_0, hs_t_82_0, hs_f_82_1, hs_i_83, hs_o_84, hs_r_84_0, hs_t_84_0, hs_r_84_1, hs_t_84_1, hs_r_84_2, hs_t_84_2, hs_r_84_3, hs_t_84_3, hs_f_84_4, hs_i_85, hs_i_86, hs_i_87, hs_o_88, hs_r_88_0, hs_t_88_0, hs_r_88_1, hs_t_88_1, hs_r_88_2, hs_t_88_2, hs_r_88_3, hs_t_88_3, hs_r_88_4, hs_t_88_4, hs_r_88_5, hs_t_88_5, hs_r_88_6, hs_t_88_6, hs_r_88_7, hs_t_88_7, hs_f_88_8, hs_f_88_9, hs_i_89, hs_i_90, hs_i_91, hs_i_92, hs_i_93, hs_i_94, hs_i_95, hs_i_96, hs_i_97, hs_i_98, hs_i_99, hs_i_100, hs_i_101, hs_i_102, hs_o_103, hs_r_103_0, hs_t_103_0, hs_r_103_1, hs_t_103_1, hs_r_103_2, hs_t_103_2, hs_r_103_3, hs_t_103_3, hs_f_103_4, hs_i_104, hs_o_105, hs_r_105_0, hs_t_105_0, hs_r_105_1, hs_t_105_1, hs_r_105_2, hs_t_105_2, hs_i_106, hs_i_107, hs_o_108, hs_r_108_0, hs_t_108_0, hs_r_108_1, hs_t_108_1, hs_r_108_2, hs_t_108_2, hs_r_108_3, hs_t_108_3, hs_f_108_4, hs_i_109, hs_i_110, hs_o_111, hs_r_111_0, hs_t_111_0, hs_r_111_1, hs_t_111_1, hs_f_111_2, hs_f_111_3, hs_f_111_4, hs_i_112, hs_o_113, hs_f_113_0, hs_f_113_1, hs_f_113_2, hs_r_113_3, hs_t_113_3, hs_r_113_4, hs_t_113_4, hs_r_113_5, hs_t_113_5, hs_r_113_6, hs_t_113_6, hs_r_113_7, hs_t_113_7, hs_r_113_8, hs_t_113_8, hs_r_113_9, hs_t_113_9, hs_r_113_10, hs_t_113_10, hs_r_113_11, hs_t_113_11, hs_f_113_12, hs_f_113_13, hs_f_113_14, hs_r_113_15, hs_t_113_15, hs_f_113_16, hs_r_113_17, hs_t_113_17, hs_r_113_18, hs_t_113_18, hs_r_113_19, hs_t_113_19, hs_r_113_20, hs_t_113_20, hs_f_113_21, hs_f_113_22, hs_f_113_23, hs_r_113_24, hs_t_113_24, hs_f_113_25, hs_r_113_26, hs_t_113_26, hs_f_113_27, hs_i_114, hs_i_115, hs_i_116, hs_i_117, hs_i_118, hs_i_119, hs_i_120, hs_i_121, hs_i_122, hs_i_123, hs_i_124, hs_i_125, hs_i_126, hs_i_127, hs_i_128, hs_i_129, hs4, nI_ltI (show n < 2 ^ 31 by omega) (show hand < 2 ^ 31 by omega), hn, decide_true, decide_eq_true_eq, nI_1]
        have yes : (kk = -1 ∨ nI (hb_pc n 8) = kk) → wm_X9_costOf [hd_vR 113, hd_vI (nI k), hd_vI (nI n)] S4 (fun v S => match v with | some (Sum.inl x) => (if x = S.1 113 21 then K [hd_vR 113, hd_vI (nI k), hd_vI kk, hd_vI (nI (fb_ct (hp_ib (hp_q p k kk) o) n + 1)), hd_vI (nI (n + 1))] S else K [hd_vR 113, hd_vI (nI k), hd_vI kk, hd_vI (nI (fb_ct (hp_ib (hp_q p k kk) o) n) + 0), hd_vI (nI (n + 1))] S) | x => False) := by
          intro hc
          refine sp_costOf hp hm4 hR (show k < 7 by omega) (show n < 2 ^ hp_H p by omega) _ (fun S5 he5 => ?_)
          have h5 := hm_K_tr h4 (hm_K_c he5)
          have hs5 : S5.1 113 14 = nI hand := by rw [he5.1 113 (by decide)]; exact hs4
          have h215 : S5.1 113 21 = hp_ow o := by rw [he5.1 113 (by decide)]; exact h214
          simp only [h215, hp_ow_q hp hc, hp_ow_inj (hqlt n) hlt]
          by_cases hb2 : hp_q p k kk n = o
          · have hb3 : hp_ib (hp_q p k kk) o n = true := by simp [hp_ib, hb2, hbo.1]
            rw [if_pos hb2]
            have := hK1 S5 h5 hs5 h215
            rw [if_pos hb3] at this
            exact this
          · have hb3 : ¬ hp_ib (hp_q p k kk) o n = true := by simp [hp_ib, hb2]
            rw [if_neg hb2, show (0 : Int32) = nI 0 from rfl, nI_add]
            have := hK1 S5 h5 hs5 h215
            rw [if_neg hb3] at this
            exact this
        by_cases hkk : kk = -1
        · have h9 := yes (Or.inl hkk)
          simp only [hkk, if_true, nI_1] at h9 ⊢
          exact h9
        · simp only [hkk, if_false]
          refine sp_X9_sizeOf n (show n < 2 ^ 31 by omega) _ _ ?_
          by_cases hpk : nI (hb_pc n 8) = kk
          · have h9 := yes (Or.inr hpk)
            simp only [hpk, if_true, nI_1] at h9 ⊢
            exact h9
          · have hb3 : ¬ hp_ib (hp_q p k kk) o n = true := by
              have : hp_q p k kk n = none := by
                unfold hp_q
                rw [if_neg (by rintro (q | q); exact hkk q; exact hpk q)]
              have h8 : ¬ none = o := fun q => hbo.1 q.symm
              simp [hp_ib, this, h8]
            have := hK1 S4 h4 hs4 h214
            rw [if_neg hb3] at this
            simp only [hpk, if_false, show (0 : Int32) = nI 0 from rfl, nI_add]
            exact this
      · rintro ρ S4 K ⟨h4, hs4, h214, rfl⟩
        simp only [wc_X9_number_71, hd_mth, hd_rho0, hd_args, hd_wide, hd_sQ, hd_s0, hd_sI, hd_sJ, hd_sR, hd_sP, hd_sF, hd_sZ, hd_sG, hd_sA, hd_sL, hd_sB, hd_sO, hd_sN, hd_sD, hd_sW, hd_sE, hd_sRI, hd_sRZ, hd_sRJ, hd_sRR, hd_sRV, hd_sSw, hd_sw, hd_sCI, hd_sCL, hd_iK, hd_iL, hd_iU, hd_iB, hd_iD, hd_iJ, hd_iG, hd_iA, hd_iQ, hd_iC, hd_iN, hd_iE, hd_jK, hd_jL, hd_jU, hd_jB, hd_jD, hd_jH, hd_jI, hd_jA, hd_jQ, hd_jN, hd_rL, hd_rG, hd_rA, hd_rN, hd_cI, hd_c0, hd_cJ, hd_cX, hd_cA, hd_cO, hd_v0, hd_pI, hd_pJ, hd_pR, hd_nV, hd_nS, hd_get, hd_st, hd_stW, hd_cut, List.replicate, List.length_cons, List.length_nil, List.nil_append, List.cons_append, Nat.reduceAdd, Nat.reduceSub, Nat.reduceLeDiff, true_and, and_true, if_true, if_false, Bool.false_eq_true, List.append_nil, hs_o_0, hs_r_0_0, hs_t_0_0, hs_r_0_1, hs_t_0_1, hs_r_0_2, hs_t_0_2, hs_r_0_3, hs_t_0_3, hs_r_0_4, hs_t_0_4, hs_r_0_5, hs_t_0_5, hs_r_0_6, hs_t_0_6, hs_r_0_7, hs_t_0_7, hs_f_0_8, hs_o_1, hs_f_1_0, hs_f_1_1, hs_r_1_2, hs_t_1_2, hs_r_1_3, hs_t_1_3, hs_r_1_4, hs_t_1_4, hs_r_1_5, hs_t_1_5, hs_r_1_6, hs_t_1_6, hs_r_1_7, hs_t_1_7, hs_r_1_8, hs_t_1_8, hs_r_1_9, hs_t_1_9, hs_i_2, hs_i_3, hs_i_4, hs_i_5, hs_i_6, hs_i_7, hs_i_8, hs_i_9, hs_o_82, hs_r_82_0, hs_t_82_0, hs_f_82_1, hs_i_83, hs_o_84, hs_r_84_0, hs_t_84_0, hs_r_84_1, hs_t_84_1, hs_r_84_2, hs_t_84_2, hs_r_84_3, hs_t_84_3, hs_f_84_4, hs_i_85, hs_i_86, hs_i_87, hs_o_88, hs_r_88_0, hs_t_88_0, hs_r_88_1, hs_t_88_1, hs_r_88_2, hs_t_88_2, hs_r_88_3, hs_t_88_3, hs_r_88_4, hs_t_88_4, hs_r_88_5, hs_t_88_5, hs_r_88_6, hs_t_88_6, hs_r_88_7, hs_t_88_7, hs_f_88_8, hs_f_88_9, hs_i_89, hs_i_90, hs_i_91, hs_i_92, hs_i_93, hs_i_94, hs_i_95, hs_i_96, hs_i_97, hs_i_98, hs_i_99, hs_i_100, hs_i_101, hs_i_102, hs_o_103, hs_r_103_0, hs_t_103_0, hs_r_103_1, hs_t_103_1, hs_r_103_2, hs_t_103_2, hs_r_103_3, hs_t_103_3, hs_f_103_4, hs_i_104, hs_o_105, hs_r_105_0, hs_t_105_0, hs_r_105_1, hs_t_105_1, hs_r_105_2, hs_t_105_2, hs_i_106, hs_i_107, hs_o_108, hs_r_108_0, hs_t_108_0, hs_r_108_1, hs_t_108_1, hs_r_108_2, hs_t_108_2, hs_r_108_3, hs_t_108_3, hs_f_108_4, hs_i_109, hs_i_110, hs_o_111, hs_r_111_0, hs_t_111_0, hs_r_111_1, hs_t_111_1, hs_f_111_2, hs_f_111_3, hs_f_111_4, hs_i_112, hs_o_113, hs_f_113_0, hs_f_113_1, hs_f_113_2, hs_r_113_3, hs_t_113_3, hs_r_113_4, hs_t_113_4, hs_r_113_5, hs_t_113_5, hs_r_113_6, hs_t_113_6, hs_r_113_7, hs_t_113_7, hs_r_113_8, hs_t_113_8, hs_r_113_9, hs_t_113_9, hs_r_113_10, hs_t_113_10, hs_r_113_11, hs_t_113_11, hs_f_113_12, hs_f_113_13, hs_f_113_14, hs_r_113_15, hs_t_113_15, hs_f_113_16, hs_r_113_17, hs_t_113_17, hs_r_113_18, hs_t_113_18, hs_r_113_19, hs_t_113_19, hs_r_113_20, hs_t_113_20, hs_f_113_21, hs_f_113_22, hs_f_113_23, hs_r_113_24, hs_t_113_24, hs_f_113_25, hs_r_113_26, hs_t_113_26, hs_f_113_27, hs_i_114, hs_i_115, hs_i_116, hs_i_117, hs_i_118, hs_i_119, hs_i_120, hs_i_121, hs_i_122, hs_i_123, hs_i_124, hs_i_125, hs_i_126, hs_i_127, hs_i_128, hs_i_129, hs4, Int32.lt_irrefl, decide_false]
        have := hk3 S4 h4 hs4
        rw [if_pos hb] at this
        exact this
    -- whether it is one of the best
    have ask : (kk = -1 ∨ nI (hb_pc hand 8) = kk) → (if S2.1 113 21 = 2000000000 then post (some (hd_vI (-1))) S2 else wm_X9_costOf [hd_vR 113, hd_vI (nI k), hd_vI (nI hand)] S2 (fun v S => match v with | some (Sum.inl x) => (if ¬ x = S.1 113 21 then post (some (hd_vI (-1))) S else hd_sH wc_X9_number_71 wb_X9_number_71 [hd_vR 113, hd_vI (nI k), hd_vI kk, hd_vI 0, hd_vI 0] S (fun ρ S => match hd_get ρ 3 with | Sum.inl x => post (some (hd_vI x)) S | x => False) post) | x => False)) := by
      intro hc
      rw [h21]
      by_cases ho : o = none
      · rw [if_pos ((hp_ow_none hlt).mpr ho)]
        exact no S2 h2 hs2 (by simp [hp_ib, ho])
      · rw [if_neg (fun q => ho ((hp_ow_none hlt).mp q))]
        refine sp_costOf hp hm2 hR (show k < 7 by omega) hh _ (fun S5 he5 => ?_)
        have h5 := hm_K_tr h2 (hm_K_c he5)
        have hs5 : S5.1 113 14 = nI hand := by rw [he5.1 113 (by decide)]; exact hs2
        have h215 : S5.1 113 21 = hp_ow o := by rw [he5.1 113 (by decide)]; exact h21
        simp only [h215, hp_ow_q hp hc, hp_ow_inj (hqlt hand) hlt]
        by_cases hb2 : hp_q p k kk hand = o
        · have hb3 : hp_ib (hp_q p k kk) o hand = true := by simp [hp_ib, hb2, ho]
          rw [if_neg (fun q => q hb2)]
          exact count S5 h5 hs5 h215 hb3 hd_vN
        · rw [if_pos hb2]
          exact no S5 h5 hs5 (by simp [hp_ib, hb2])
    simp only [true_and, hs2]
    by_cases hkk : kk = -1
    · have h9 := ask (Or.inl hkk)
      simp only [hkk, not_true, if_false] at h9 ⊢
      exact h9
    · simp only [hkk, not_false_iff, if_true]
      refine sp_X9_sizeOf hand (by omega) _ _ ?_
      by_cases hpk : nI (hb_pc hand 8) = kk
      · have h9 := ask (Or.inr hpk)
        simp only [hpk, not_true, if_false, hs2] at h9 ⊢
        exact h9
      · simp only [hpk, not_false_iff, if_true]
        refine no S2 h2 hs2 ?_
        have : hp_q p k kk hand = none := by
          unfold hp_q
          rw [if_neg (by rintro (q | q); exact hkk q; exact hpk q)]
        intro q
        have h8 : ¬ o = none ∧ hp_q p k kk hand = o := by simpa [hp_ib] using q
        exact h8.1 (h8.2.symm.trans this)
  · simp only [hq, if_false, not_false_iff, not_true, if_true]
    exact hk2 hq
