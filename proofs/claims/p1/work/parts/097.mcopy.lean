/-! copies: the reference -/
theorem hm_P_copy {S S3 : hd_S} {p : hp_P} {h a t b m : Nat} (hok : hp_ok p) (hm : hm_P S p) (hh : h < hp_H p) (ht : t < hp_H p) (hw : hp_wd p h ≠ -1) (hwt : hp_wd p t ≠ -1) (ha : a + m ≤ hp_ln p h) (hb : b + m ≤ hp_ln p t) (rc : ∀ c, c ≠ 121 → S3.1 c = S.1 c) (r1 : ∀ j, S3.1 121 j = if t * 8 + b ≤ j ∧ j < t * 8 + b + m then S.1 121 (h * 8 + a + (j - (t * 8 + b))) else S.1 121 j) : hm_P S3 (hp_copy p h a t b m) := by
  obtain ⟨m1, m2, m3, m4, m5, m6, m7, m8, m9, m10⟩ := hm
  have l1 := hok.2.2.2.2.2.2.2.2.2.1 h
  have l2 := hok.2.2.2.2.2.2.2.2.2.1 t
  refine ⟨by rw [rc 113 (by decide)]; exact m1, by rw [rc 113 (by decide)]; exact m2, fun i hi => by rw [rc 114 (by decide)]; exact m3 i hi, fun i hi => by rw [rc 115 (by decide)]; exact m4 i hi, fun i hi => by rw [rc 116 (by decide)]; exact m5 i hi, fun i hi => by rw [rc 117 (by decide)]; exact m6 i hi, fun i hi => by rw [rc 118 (by decide)]; exact m7 i hi, fun i hi => by rw [rc 119 (by decide)]; exact m8 i hi, fun i hi => by rw [rc 120 (by decide)]; exact m9 i hi, fun c hc s hs hv => ?_⟩
  have hv2 : hp_wd p c ≠ -1 ∧ s < hp_ln p c := hv
  show S3.1 121 (c * 8 + s) = nI (hp_rep (hp_wy p) t (fun i => if b ≤ i ∧ i < b + m then hp_wy p h (a + (i - b)) else hp_wy p t i) c s)
  rw [r1]
  unfold hp_rep
  by_cases hct : c = t
  · subst hct
    simp only [if_true]
    by_cases hi : b ≤ s ∧ s < b + m
    · rw [if_pos hi, if_pos (by omega), show h * 8 + a + (c * 8 + s - (c * 8 + b)) = h * 8 + (a + (s - b)) by omega]
      exact m10 h hh (a + (s - b)) (by omega) ⟨hw, by omega⟩
    · rw [if_neg hi, if_neg (by omega)]
      exact m10 c hc s hs hv2
  · simp only [hct, if_false]
    rw [if_neg (by omega)]
    exact m10 c hc s hs hv2
set_option maxHeartbeats 8000000 in
theorem sp_copy {S : hd_S} {p : hp_P} {n : Nat} {q : Nat → hp_P} {hand : Nat} {cl : Nat → Nat} (hI : hm_I S p n q hand cl) (hall fr to at_ m : Int32) (post : Option hd_V → hd_S → Prop)
    (hk1 : ∀ h a t b k, h < hp_H p → hall = nI h → t < hp_H p → to = nI t → hp_wd p h ≠ -1 → hp_wd p t ≠ -1 → hp_wd p h = hp_wd p t → fr = nI a → at_ = nI b → m = nI k → a + k ≤ hp_ln p h → b + k ≤ hp_ln p t → ∀ S2, hm_I S2 (hp_copy p h a t b k) (hp_kn n) (hp_kq n q p) hand cl → hm_fr S S2 → post (some (hd_vI m)) S2)
    (hk2 : ¬ ((0 ≤ hall ∧ hall < nI (hp_H p)) ∧ (0 ≤ to ∧ to < nI (hp_H p))) → post (some (hd_vI (-3))) (hd_wI S 113 0 0))
    (hk3 : ∀ h t, h < hp_H p → hall = nI h → t < hp_H p → to = nI t → (hp_wd p h = -1 ∨ hp_wd p t = -1) → post (some (hd_vI (-11))) (hd_wI S 113 0 0))
    (hk4 : ∀ h t, h < hp_H p → hall = nI h → t < hp_H p → to = nI t → hp_wd p h ≠ -1 → hp_wd p t ≠ -1 → hp_wd p h ≠ hp_wd p t → post (some (hd_vI (-4))) (hd_wI S 113 0 0))
    (hk5 : ∀ h t, h < hp_H p → hall = nI h → t < hp_H p → to = nI t → hp_wd p h ≠ -1 → hp_wd p t ≠ -1 → hp_wd p h = hp_wd p t → ¬ (hp_in (hp_ln p h) fr m ∧ hp_in (hp_ln p t) at_ m) → post (some (hd_vI (-13))) (hd_wI S 113 0 0)) : wm_X9_copy [hd_vR 113, hd_vI hall, hd_vI fr, hd_vI to, hd_vI at_, hd_vI m] S post := by
  have hok := hI.1.1
  have hm0 := (hm_I_0 hI).1.2.1
  have hH : hp_H p ≤ 7 := hok.2.1
  have hz : (0 : Int32).toInt = 0 := by decide
  have h8 : (8 : Int32).toInt = 8 := by decide
  simp only [wm_X9_copy, wo_X9_copy, hd_mth, hd_rho0, hd_args, hd_wide, hq_sQ, hd_s0, hq_sI, hq_sJ, hd_sR, hd_sP, hd_sF, hd_sZ, hd_sG, hd_sA, hd_sL, hd_sB, hd_sO, hd_sN, hd_sD, hd_sW, hd_sE, hd_sRI, hd_sRZ, hd_sRJ, hd_sRR, hd_sRV, hd_sSw, hd_sw, hd_sCI, hd_sCL, hd_iK, hd_iL, hd_iU, hd_iB, hd_iD, hd_iJ, hd_iG, hd_iA, hd_iQ, hd_iC, hd_iN, hd_iE, hd_jK, hd_jL, hd_jU, hd_jB, hd_jD, hd_jH, hd_jI, hd_jA, hd_jQ, hd_jN, hd_rL, hd_rG, hd_rA, hd_rN, hd_cI, hd_c0, hd_cJ, hd_cX, hd_cA, hd_cO, hd_v0, hd_pI, hd_pJ, hd_pR, hd_nV, hd_nS, hd_get, hd_st, hd_stW, hd_cut, List.replicate, List.length_cons, List.length_nil, List.nil_append, List.cons_append, Nat.reduceAdd, Nat.reduceSub, Nat.reduceLeDiff, true_and, and_true, if_true, if_false, Bool.false_eq_true, List.append_nil, hs_o_0, hs_r_0_0, hs_t_0_0, hs_r_0_1, hs_t_0_1, hs_r_0_2, hs_t_0_2, hs_r_0_3, hs_t_0_3, hs_r_0_4, hs_t_0_4, hs_r_0_5, hs_t_0_5, hs_r_0_6, hs_t_0_6, hs_r_0_7, hs_t_0_7, hs_f_0_8, hs_o_1, hs_f_1_0, hs_f_1_1, hs_r_1_2, hs_t_1_2, hs_r_1_3, hs_t_1_3, hs_r_1_4, hs_t_1_4, hs_r_1_5, hs_t_1_5, hs_r_1_6, hs_t_1_6, hs_r_1_7, hs_t_1_7, hs_r_1_8, hs_t_1_8, hs_r_1_9, hs_t_1_9, hs_i_2, hs_i_3, hs_i_4, hs_i_5, hs_i_6, hs_i_7, hs_i_8, hs_i_9, hs_o_82, hs_r_82_0, hs_t_82_0, hs_f_82_1, hs_i_83, hs_o_84, hs_r_84_0, hs_t_84_0, hs_r_84_1, hs_t_84_1, hs_r_84_2, hs_t_84_2, hs_r_84_3, hs_t_84_3, hs_f_84_4, hs_i_85, hs_i_86, hs_i_87, hs_o_88, hs_r_88_0, hs_t_88_0, hs_r_88_1, hs_t_88_1, hs_r_88_2, hs_t_88_2, hs_r_88_3, hs_t_88_3, hs_r_88_4, hs_t_88_4, hs_r_88_5, hs_t_88_5, hs_r_88_6, hs_t_88_6, hs_r_88_7, hs_t_88_7, hs_f_88_8, hs_f_88_9, hs_i_89, hs_i_90, hs_i_91, hs_i_92, hs_i_93, hs_i_94, hs_i_95, hs_i_96, hs_i_97, hs_i_98, hs_i_99, hs_i_100, hs_i_101, hs_i_102, hs_o_103, hs_r_103_0, hs_t_103_0, hs_r_103_1, hs_t_103_1, hs_r_103_2, hs_t_103_2, hs_r_103_3, hs_t_103_3, hs_f_103_4, hs_i_104, hs_o_105, hs_r_105_0, hs_t_105_0, hs_r_105_1, hs_t_105_1, hs_r_105_2, hs_t_105_2, hs_i_106, hs_i_107, hs_o_108, hs_r_108_0, hs_t_108_0, hs_r_108_1, hs_t_108_1, hs_r_108_2, hs_t_108_2, hs_r_108_3, hs_t_108_3, hs_f_108_4, hs_i_109, hs_i_110, hs_o_111, hs_r_111_0, hs_t_111_0, hs_r_111_1, hs_t_111_1, hs_f_111_2, hs_f_111_3, hs_f_111_4, hs_i_112, hs_o_113, hs_f_113_0, hs_f_113_1, hs_f_113_2, hs_r_113_3, hs_t_113_3, hs_r_113_4, hs_t_113_4, hs_r_113_5, hs_t_113_5, hs_r_113_6, hs_t_113_6, hs_r_113_7, hs_t_113_7, hs_r_113_8, hs_t_113_8, hs_r_113_9, hs_t_113_9, hs_r_113_10, hs_t_113_10, hs_r_113_11, hs_t_113_11, hs_f_113_12, hs_f_113_13, hs_f_113_14, hs_r_113_15, hs_t_113_15, hs_f_113_16, hs_r_113_17, hs_t_113_17, hs_r_113_18, hs_t_113_18, hs_r_113_19, hs_t_113_19, hs_r_113_20, hs_t_113_20, hs_f_113_21, hs_f_113_22, hs_f_113_23, hs_r_113_24, hs_t_113_24, hs_f_113_25, hs_r_113_26, hs_t_113_26, hs_f_113_27, hs_i_114, hs_i_115, hs_i_116, hs_i_117, hs_i_118, hs_i_119, hs_i_120, hs_i_121, hs_i_122, hs_i_123, hs_i_124, hs_i_125, hs_i_126, hs_i_127, hs_i_128, hs_i_129, sp_isHall hok hm0.2.1, hd_t01, hd_dn1, decide_eq_true_eq]
  by_cases h1 : 0 ≤ hall ∧ hall < nI (hp_H p)
  · by_cases h2 : 0 ≤ to ∧ to < nI (hp_H p)
    · obtain ⟨h, hh, rfl⟩ := hb_rng2 (show hp_H p < 2 ^ 31 by omega) h1.1 h1.2
      obtain ⟨t, ht, rfl⟩ := hb_rng2 (show hp_H p < 2 ^ 31 by omega) h2.1 h2.2
      have o9 := hok.2.2.2.2.2.2.2.2.1
      have l1 := hok.2.2.2.2.2.2.2.2.2.1 h
      have l2 := hok.2.2.2.2.2.2.2.2.2.1 t
      have wh : (hd_wI S 113 0 0).1 119 h = Int32.ofInt (hp_wd p h) := hm0.2.2.2.2.2.2.2.1 h (by omega)
      have wt : (hd_wI S 113 0 0).1 119 t = Int32.ofInt (hp_wd p t) := hm0.2.2.2.2.2.2.2.1 t (by omega)
      have lh : (hd_wI S 113 0 0).1 120 h = nI (hp_ln p h) := hm0.2.2.2.2.2.2.2.2.1 h (by omega)
      have lt : (hd_wI S 113 0 0).1 120 t = nI (hp_ln p t) := hm0.2.2.2.2.2.2.2.2.1 t (by omega)
      have ew : (Int32.ofInt (hp_wd p h) = Int32.ofInt (hp_wd p t)) ↔ hp_wd p h = hp_wd p t := by
        have := o9 h
        have := o9 t
        rw [← Int32.toInt_inj, fb_ofI (by omega) (by omega), fb_ofI (by omega) (by omega)]
      simp only [h1, h2, and_self, if_true, show ¬ ((1 : Int32) = 0) by decide, not_false_iff, not_true, if_false, vp_in_nI (show h < 7 by omega) (show 7 < 2 ^ 31 by decide), hd_cc (show h < 2147483648 by omega), vp_in_nI (show t < 7 by omega) (show 7 < 2 ^ 31 by decide), hd_cc (show t < 2147483648 by omega), wh, wt, lh, lt, hp_wd1 (o9 h), hp_wd1 (o9 t), ew, decide_eq_true_eq, true_and]
      by_cases w1 : hp_wd p h = -1
      · simp only [w1, if_true]
        exact hk3 h t hh rfl ht rfl (Or.inl w1)
      · by_cases w2 : hp_wd p t = -1
        · simp only [w1, w2, if_true, if_false]
          exact hk3 h t hh rfl ht rfl (Or.inr w2)
        · simp only [w1, w2, if_false]
          by_cases w3 : hp_wd p h = hp_wd p t
          · simp only [w3, not_true, if_false]
            by_cases q9 : hp_in (hp_ln p h) fr m ∧ hp_in (hp_ln p t) at_ m
            · obtain ⟨⟨a, k, rfl, rfl, hak⟩, b, k2, rfl, hk9, hbk⟩ := q9
              have ek : k2 = k := by
                have := (nI_eq (show k < 2 ^ 31 by omega) (show k2 < 2 ^ 31 by omega)).mp hk9
                exact this.symm
              subst ek
              have g0 : ∀ z : Nat, z < 2 ^ 31 → ¬ (nI z < 0) := fun z hz2 r => by
                rw [Int32.lt_iff_toInt_lt, nI_toInt hz2] at r
                omega
              have g8 : ¬ ((8 : Int32) < nI k2) := fun r => by
                have := (nI_ltI (a := 8) (b := k2) (by decide) (by omega)).mp r
                omega
              have s1 : ¬ (nI (hp_ln p h) - nI k2 < nI a) := fun r => by
                rw [pk_sub (by omega), nI_ltI (by omega) (by omega)] at r
                omega
              have s2 : ¬ (nI (hp_ln p t) - nI k2 < nI b) := fun r => by
                rw [pk_sub (by omega), nI_ltI (by omega) (by omega)] at r
                omega
              simp only [g0 k2 (by omega), g0 a (by omega), g0 b (by omega), g8, s1, s2, if_false, decide_false, Bool.false_eq_true]
              refine sp_keep0 hI _ (fun S1 he hf hpa hm1 => ?_)
              simp only [true_and]
              refine hd_up (fun i ρ S2 => (∀ c, c ≠ 121 → S2.1 c = S1.1 c) ∧ S2.2 = S1.2 ∧ (∀ j, S2.1 121 j = if t * 8 + b ≤ j ∧ j < t * 8 + b + k2 ∧ (if a < b then k2 ≤ j - (t * 8 + b) + i else j - (t * 8 + b) < i) then S1.1 121 (h * 8 + a + (j - (t * 8 + b))) else S1.1 121 j) ∧ ∃ x : hd_V, ρ = [hd_vR 113, hd_vI (nI h), hd_vI (nI a), hd_vI (nI t), hd_vI (nI b), hd_vI (nI k2), hd_vI (nI i), x]) k2 ?_ ?_ (Nat.zero_le _) ⟨fun _ _ => rfl, rfl, fun j => ?_, _, rfl⟩
              · rintro i ρ S2 K hi ⟨c1, c2, c3, x, rfl⟩ hK
                simp only [wc_X9_copy_123, wb_X9_copy_123, hd_mth, hd_rho0, hd_args, hd_wide, hq_sQ, hd_s0, hq_sI, hq_sJ, hd_sR, hd_sP, hd_sF, hd_sZ, hd_sG, hd_sA, hd_sL, hd_sB, hd_sO, hd_sN, hd_sD, hd_sW, hd_sE, hd_sRI, hd_sRZ, hd_sRJ, hd_sRR, hd_sRV, hd_sSw, hd_sw, hd_sCI, hd_sCL, hd_iK, hd_iL, hd_iU, hd_iB, hd_iD, hd_iJ, hd_iG, hd_iA, hd_iQ, hd_iC, hd_iN, hd_iE, hd_jK, hd_jL, hd_jU, hd_jB, hd_jD, hd_jH, hd_jI, hd_jA, hd_jQ, hd_jN, hd_rL, hd_rG, hd_rA, hd_rN, hd_cI, hd_c0, hd_cJ, hd_cX, hd_cA, hd_cO, hd_v0, hd_pI, hd_pJ, hd_pR, hd_nV, hd_nS, hd_get, hd_st, hd_stW, hd_cut, List.replicate, List.length_cons, List.length_nil, List.nil_append, List.cons_append, Nat.reduceAdd, Nat.reduceSub, Nat.reduceLeDiff, true_and, and_true, if_true, if_false, Bool.false_eq_true, List.append_nil, hs_o_0, hs_r_0_0, hs_t_0_0, hs_r_0_1, hs_t_0_1, hs_r_0_2, hs_t_0_2, hs_r_0_3, hs_t_0_3, hs_r_0_4, hs_t_0_4, hs_r_0_5, hs_t_0_5, hs_r_0_6, hs_t_0_6, hs_r_0_7, hs_t_0_7, hs_f_0_8, hs_o_1, hs_f_1_0, hs_f_1_1, hs_r_1_2, hs_t_1_2, hs_r_1_3, hs_t_1_3, hs_r_1_4, hs_t_1_4, hs_r_1_5, hs_t_1_5, hs_r_1_6, hs_t_1_6, hs_r_1_7, hs_t_1_7, hs_r_1_8, hs_t_1_8, hs_r_1_9, hs_t_1_9, hs_i_2, hs_i_3, hs_i_4, hs_i_5, hs_i_6, hs_i_7, hs_i_8, hs_i_9, hs_o_82, hs_r_82_0, hs_t_82_0, hs_f_82_1, hs_i_83, hs_o_84, hs_r_84_0, hs_t_84_0, hs_r_84_1, hs_t_84_1, hs_r_84_2, hs_t_84_2, hs_r_84_3, hs_t_84_3, hs_f_84_4, hs_i_85, hs_i_86, hs_i_87, hs_o_88, hs_r_88_0, hs_t_88_0, hs_r_88_1, hs_t_88_1, hs_r_88_2, hs_t_88_2, hs_r_88_3, hs_t_88_3, hs_r_88_4, hs_t_88_4, hs_r_88_5, hs_t_88_5, hs_r_88_6, hs_t_88_6, hs_r_88_7, hs_t_88_7, hs_f_88_8, hs_f_88_9, hs_i_89, hs_i_90, hs_i_91, hs_i_92, hs_i_93, hs_i_94, hs_i_95, hs_i_96, hs_i_97, hs_i_98, hs_i_99, hs_i_100, hs_i_101, hs_i_102, hs_o_103, hs_r_103_0, hs_t_103_0, hs_r_103_1, hs_t_103_1, hs_r_103_2, hs_t_103_2, hs_r_103_3, hs_t_103_3, hs_f_103_4, hs_i_104, hs_o_105, hs_r_105_0, hs_t_105_0, hs_r_105_1, hs_t_105_1, hs_r_105_2, hs_t_105_2, hs_i_106, hs_i_107, hs_o_108, hs_r_108_0, hs_t_108_0, hs_r_108_1, hs_t_108_1, hs_r_108_2, hs_t_108_2, hs_r_108_3, hs_t_108_3, hs_f_108_4, hs_i_109, hs_i_110, hs_o_111, hs_r_111_0, hs_t_111_0, hs_r_111_1, hs_t_111_1, hs_f_111_2, hs_f_111_3, hs_f_111_4, hs_i_112, hs_o_113, hs_f_113_0, hs_f_113_1, hs_f_113_2, hs_r_113_3, hs_t_113_3, hs_r_113_4, hs_t_113_4, hs_r_113_5, hs_t_113_5, hs_r_113_6, hs_t_113_6, hs_r_113_7, hs_t_113_7, hs_r_113_8, hs_t_113_8, hs_r_113_9, hs_t_113_9, hs_r_113_10, hs_t_113_10, hs_r_113_11, hs_t_113_11, hs_f_113_12, hs_f_113_13, hs_f_113_14, hs_r_113_15, hs_t_113_15, hs_f_113_16, hs_r_113_17, hs_t_113_17, hs_r_113_18, hs_t_113_18, hs_r_113_19, hs_t_113_19, hs_r_113_20, hs_t_113_20, hs_f_113_21, hs_f_113_22, hs_f_113_23, hs_r_113_24, hs_t_113_24, hs_f_113_25, hs_r_113_26, hs_t_113_26, hs_f_113_27, hs_i_114, hs_i_115, hs_i_116, hs_i_117, hs_i_118, hs_i_119, hs_i_120, hs_i_121, hs_i_122, hs_i_123, hs_i_124, hs_i_125, hs_i_126, hs_i_127, hs_i_128, hs_i_129, nI_ltI (show i < 2 ^ 31 by omega) (show k2 < 2 ^ 31 by omega), hi, decide_true, nI_ltI (show a < 2 ^ 31 by omega) (show b < 2 ^ 31 by omega), decide_eq_true_eq]
                -- the place of this step
                have step : ∀ u, u < k2 → (if a < b then u = k2 - 1 - i else u = i) → (vp_in (8 * nI h + nI a + nI u) 56 ∧ (vp_in (8 * nI t + nI b + nI u) 56 ∧ K [hd_vR 113, hd_vI (nI h), hd_vI (nI a), hd_vI (nI t), hd_vI (nI b), hd_vI (nI k2), hd_vI (nI (i + 1)), hd_vI (nI u)] (hd_wI S2 121 (8 * nI t + nI b + nI u).toNatClampNeg (S2.1 121 (8 * nI h + nI a + nI u).toNatClampNeg)))) := by
                  intro u hu hui
                  have e1 : (8 : Int32) * nI h + nI a + nI u = nI (h * 8 + a + u) := by rw [hd_lit8, pk_mul, nI_add, nI_add, Nat.mul_comm]
                  have e2 : (8 : Int32) * nI t + nI b + nI u = nI (t * 8 + b + u) := by rw [hd_lit8, pk_mul, nI_add, nI_add, Nat.mul_comm]
                  rw [e1, e2, hd_cc (show h * 8 + a + u < 2147483648 by omega), hd_cc (show t * 8 + b + u < 2147483648 by omega)]
                  have e3 : S2.1 121 (h * 8 + a + u) = S1.1 121 (h * 8 + a + u) := by
                    rw [c3, if_neg]
                    rintro ⟨r1, r2, r3⟩
                    by_cases hab : a < b
                    · rw [if_pos hab] at r3 hui
                      omega
                    · rw [if_neg hab] at r3 hui
                      omega
                  rw [e3]
                  refine ⟨vp_in_nI (by omega) (by decide), vp_in_nI (by omega) (by decide), hK _ _ ⟨fun c hc => by rw [← c1 c hc]; funext j; rw [hx_oth hc], c2, fun j => ?_, _, rfl⟩⟩
                  rw [hd_wI1]
                  by_cases hj : j = t * 8 + b + u
                  · rw [if_pos ⟨rfl, hj⟩, if_pos ?_, hj, show t * 8 + b + u - (t * 8 + b) = u by omega]
                    refine ⟨by omega, by omega, ?_⟩
                    by_cases hab : a < b
                    · rw [if_pos hab] at hui ⊢
                      omega
                    · rw [if_neg hab] at hui ⊢
                      omega
                  · rw [if_neg (fun r => hj r.2), c3]
                    have hiff : (t * 8 + b ≤ j ∧ j < t * 8 + b + k2 ∧ (if a < b then k2 ≤ j - (t * 8 + b) + i else j - (t * 8 + b) < i)) ↔ (t * 8 + b ≤ j ∧ j < t * 8 + b + k2 ∧ (if a < b then k2 ≤ j - (t * 8 + b) + (i + 1) else j - (t * 8 + b) < i + 1)) := by
                      by_cases hab : a < b
                      · simp only [hab, if_true] at hui ⊢
                        omega
                      · simp only [hab, if_false] at hui ⊢
                        omega
                    simp only [hiff]
                by_cases hab : a < b
                · have e9 : nI k2 - 1 - nI i = nI (k2 - 1 - i) := by rw [show (1 : Int32) = nI 1 from rfl, pk_sub (by omega), pk_sub (by omega)]
                  simp only [hab, if_true, e9, nI_1]
                  exact step (k2 - 1 - i) (by omega) (by rw [if_pos hab])
                · simp only [hab, if_false, nI_1]
                  exact step i hi (by rw [if_neg hab])
              · rintro ρ S2 K ⟨c1, c2, c3, x, rfl⟩
                simp only [wc_X9_copy_123, hd_mth, hd_rho0, hd_args, hd_wide, hq_sQ, hd_s0, hq_sI, hq_sJ, hd_sR, hd_sP, hd_sF, hd_sZ, hd_sG, hd_sA, hd_sL, hd_sB, hd_sO, hd_sN, hd_sD, hd_sW, hd_sE, hd_sRI, hd_sRZ, hd_sRJ, hd_sRR, hd_sRV, hd_sSw, hd_sw, hd_sCI, hd_sCL, hd_iK, hd_iL, hd_iU, hd_iB, hd_iD, hd_iJ, hd_iG, hd_iA, hd_iQ, hd_iC, hd_iN, hd_iE, hd_jK, hd_jL, hd_jU, hd_jB, hd_jD, hd_jH, hd_jI, hd_jA, hd_jQ, hd_jN, hd_rL, hd_rG, hd_rA, hd_rN, hd_cI, hd_c0, hd_cJ, hd_cX, hd_cA, hd_cO, hd_v0, hd_pI, hd_pJ, hd_pR, hd_nV, hd_nS, hd_get, hd_st, hd_stW, hd_cut, List.replicate, List.length_cons, List.length_nil, List.nil_append, List.cons_append, Nat.reduceAdd, Nat.reduceSub, Nat.reduceLeDiff, true_and, and_true, if_true, if_false, Bool.false_eq_true, List.append_nil, hs_o_0, hs_r_0_0, hs_t_0_0, hs_r_0_1, hs_t_0_1, hs_r_0_2, hs_t_0_2, hs_r_0_3, hs_t_0_3, hs_r_0_4, hs_t_0_4, hs_r_0_5, hs_t_0_5, hs_r_0_6, hs_t_0_6, hs_r_0_7, hs_t_0_7, hs_f_0_8, hs_o_1, hs_f_1_0, hs_f_1_1, hs_r_1_2, hs_t_1_2, hs_r_1_3, hs_t_1_3, hs_r_1_4, hs_t_1_4, hs_r_1_5, hs_t_1_5, hs_r_1_6, hs_t_1_6, hs_r_1_7, hs_t_1_7, hs_r_1_8, hs_t_1_8, hs_r_1_9, hs_t_1_9, hs_i_2, hs_i_3, hs_i_4, hs_i_5, hs_i_6, hs_i_7, hs_i_8, hs_i_9, hs_o_82, hs_r_82_0, hs_t_82_0, hs_f_82_1, hs_i_83, hs_o_84, hs_r_84_0, hs_t_84_0, hs_r_84_1, hs_t_84_1, hs_r_84_2, hs_t_84_2, hs_r_84_3, hs_t_84_3, hs_f_84_4, hs_i_85, hs_i_86, hs_i_87, hs_o_88, hs_r_88_0, hs_t_88_0, hs_r_88_1, hs_t_88_1, hs_r_88_2, hs_t_88_2, hs_r_88_3, hs_t_88_3, hs_r_88_4, hs_t_88_4, hs_r_88_5, hs_t_88_5, hs_r_88_6, hs_t_88_6, hs_r_88_7, hs_t_88_7, hs_f_88_8, hs_f_88_9, hs_i_89, hs_i_90, hs_i_91, hs_i_92, hs_i_93, hs_i_94, hs_i_95, hs_i_96, hs_i_97, hs_i_98, hs_i_99, hs_i_100, hs_i_101, hs_i_102, hs_o_103, hs_r_103_0, hs_t_103_0, hs_r_103_1, hs_t_103_1, hs_r_103_2, hs_t_103_2, hs_r_103_3, hs_t_103_3, hs_f_103_4, hs_i_104, hs_o_105, hs_r_105_0, hs_t_105_0, hs_r_105_1, hs_t_105_1, hs_r_105_2, hs_t_105_2, hs_i_106, hs_i_107, hs_o_108, hs_r_108_0, hs_t_108_0, hs_r_108_1, hs_t_108_1, hs_r_108_2, hs_t_108_2, hs_r_108_3, hs_t_108_3, hs_f_108_4, hs_i_109, hs_i_110, hs_o_111, hs_r_111_0, hs_t_111_0, hs_r_111_1, hs_t_111_1, hs_f_111_2, hs_f_111_3, hs_f_111_4, hs_i_112, hs_o_113, hs_f_113_0, hs_f_113_1, hs_f_113_2, hs_r_113_3, hs_t_113_3, hs_r_113_4, hs_t_113_4, hs_r_113_5, hs_t_113_5, hs_r_113_6, hs_t_113_6, hs_r_113_7, hs_t_113_7, hs_r_113_8, hs_t_113_8, hs_r_113_9, hs_t_113_9, hs_r_113_10, hs_t_113_10, hs_r_113_11, hs_t_113_11, hs_f_113_12, hs_f_113_13, hs_f_113_14, hs_r_113_15, hs_t_113_15, hs_f_113_16, hs_r_113_17, hs_t_113_17, hs_r_113_18, hs_t_113_18, hs_r_113_19, hs_t_113_19, hs_r_113_20, hs_t_113_20, hs_f_113_21, hs_f_113_22, hs_f_113_23, hs_r_113_24, hs_t_113_24, hs_f_113_25, hs_r_113_26, hs_t_113_26, hs_f_113_27, hs_i_114, hs_i_115, hs_i_116, hs_i_117, hs_i_118, hs_i_119, hs_i_120, hs_i_121, hs_i_122, hs_i_123, hs_i_124, hs_i_125, hs_i_126, hs_i_127, hs_i_128, hs_i_129, Int32.lt_irrefl, decide_false]
                have hm3 : hm_P S2 (hp_copy p h a t b k2) := hm_P_copy hok hm1 hh ht w1 w2 hak hbk c1 (fun j => by
                  rw [c3]
                  have hiff : (t * 8 + b ≤ j ∧ j < t * 8 + b + k2 ∧ (if a < b then k2 ≤ j - (t * 8 + b) + k2 else j - (t * 8 + b) < k2)) ↔ (t * 8 + b ≤ j ∧ j < t * 8 + b + k2) := by
                    by_cases hab : a < b
                    · simp only [hab, if_true]
                      omega
                    · simp only [hab, if_false]
                      omega
                  simp only [hiff])
                obtain ⟨g1, g2⟩ := hm_I_new hI he hf hpa (fun c hc => c1 c (by omega)) (fun f _ => by rw [c1 113 (by decide)]) c2 hm3 (hp_ok_copy hok hh w1 w2 hak hbk) (Nat.le_refl _) (Nat.le_refl _)
                exact hk1 h a t b k2 hh rfl ht rfl w1 w2 w3 rfl rfl rfl hak hbk S2 g1 g2
              · rw [if_neg]
                rintro ⟨r1, r2, r3⟩
                by_cases hab : a < b
                · rw [if_pos hab] at r3
                  omega
                · rw [if_neg hab] at r3
                  omega
            · have no := hk5 h t hh rfl ht rfl w1 w2 w3 q9
              have key : ¬ m < 0 → ¬ fr < 0 → ¬ at_ < 0 → ¬ 8 < m → ¬ (nI (hp_ln p h) - m < fr) → (nI (hp_ln p t) - m < at_) := by
                intro n1 n2 n3 n4 n5
                by_cases n6 : nI (hp_ln p t) - m < at_
                · exact n6
                · exfalso
                  have z1 := fa_of_nlt n1
                  have z2 := fa_of_nlt n2
                  have z3 := fa_of_nlt n3
                  have z4 := fa_of_nlt n4
                  have z5 := fa_of_nlt n5
                  have z6 := fa_of_nlt n6
                  rw [Int32.le_iff_toInt_le] at z1 z2 z3 z4 z5 z6
                  have el : (nI (hp_ln p h)).toInt = (hp_ln p h : Int) := nI_toInt (by omega)
                  have et : (nI (hp_ln p t)).toInt = (hp_ln p t : Int) := nI_toInt (by omega)
                  rw [fb_subI (by rw [el]; omega) (by rw [el]; omega), el] at z5
                  rw [fb_subI (by rw [et]; omega) (by rw [et]; omega), et] at z6
                  refine q9 ⟨⟨fr.toInt.toNat, m.toInt.toNat, ?_, ?_, by omega⟩, ⟨at_.toInt.toNat, m.toInt.toNat, ?_, ?_, by omega⟩⟩
                  · rw [← Int32.toInt_inj, nI_toInt (by omega)]
                    omega
                  · rw [← Int32.toInt_inj, nI_toInt (by omega)]
                    omega
                  · rw [← Int32.toInt_inj, nI_toInt (by omega)]
                    omega
                  · rw [← Int32.toInt_inj, nI_toInt (by omega)]
                    omega
              by_cases n1 : m < 0
              · simp only [n1, if_true, decide_true]
                exact no
              · by_cases n2 : fr < 0
                · simp only [n1, n2, if_true, if_false, decide_true]
                  exact no
                · by_cases n3 : at_ < 0
                  · simp only [n1, n2, n3, if_true, if_false, decide_true]
                    exact no
                  · by_cases n4 : 8 < m
                    · simp only [n1, n2, n3, n4, if_true, if_false, decide_true]
                      exact no
                    · by_cases n5 : nI (hp_ln p h) - m < fr
                      · simp only [n1, n2, n3, n4, n5, if_true, if_false, decide_true]
                        exact no
                      · have n6 := key n1 n2 n3 n4 n5
                        simp only [n1, n2, n3, n4, n5, n6, if_true, if_false, decide_true]
                        exact no
          · simp only [w3, not_false_iff, if_true]
            exact hk4 h t hh rfl ht rfl w1 w2 w3
    · simp only [h1, h2, and_self, if_true, show ¬ ((1 : Int32) = 0) by decide, not_true, if_false, not_false_iff]
      exact hk2 (fun r => h2 r.2)
  · simp only [h1, if_false, not_true, not_false_iff, if_true]
    exact hk2 (fun r => h1 r.1)
