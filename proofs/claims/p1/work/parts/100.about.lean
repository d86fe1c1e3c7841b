/-! about and count, both sides -/
def hp_abT (p : hp_P) (t : Nat) (what : Int32) : Int32 := if what = 0 then nI (hp_cr p t) else if what = 1 then nI (hp_fi p t) else if what = 2 then Int32.ofInt (hp_sp p t) + 1000 else -3
def hp_abH (p : hp_P) (h : Nat) (what : Int32) : Int32 := if what = 0 then nI (hp_pr p h) else if what = 1 then nI (hp_ro p h) else if what = 2 then Int32.ofInt (hp_wd p h) else if what = 3 then nI (hp_ln p h) else -3
theorem hb_k0 : Int32.ofNat 0 = (0 : Int32) := rfl
theorem hb_k1 : Int32.ofNat 1 = (1 : Int32) := rfl
theorem hb_k2 : Int32.ofNat 2 = (2 : Int32) := rfl
theorem hb_k3 : Int32.ofNat 3 = (3 : Int32) := rfl
theorem hb_k4 : Int32.ofNat 4 = (4 : Int32) := rfl
theorem hb_k5 : Int32.ofNat 5 = (5 : Int32) := rfl
theorem hb_k6 : Int32.ofNat 6 = (6 : Int32) := rfl
theorem hb_3 {x : Int32} : (0 ≤ x ∧ x ≤ 2) ↔ (x = 0 ∨ x = 1 ∨ x = 2) := by
  constructor
  · rintro ⟨h0, h1⟩
    obtain ⟨k, hk, rfl⟩ := hb_rng (m := 2) (by decide) h0 h1
    have : k = 0 ∨ k = 1 ∨ k = 2 := by omega
    rcases this with rfl | rfl | rfl
    · exact Or.inl rfl
    · exact Or.inr (Or.inl rfl)
    · exact Or.inr (Or.inr rfl)
  · rintro (rfl | rfl | rfl) <;> decide
theorem hb_4 {x : Int32} : (0 ≤ x ∧ x ≤ 3) ↔ (x = 0 ∨ x = 1 ∨ x = 2 ∨ x = 3) := by
  constructor
  · rintro ⟨h0, h1⟩
    obtain ⟨k, hk, rfl⟩ := hb_rng (m := 3) (by decide) h0 h1
    have : k = 0 ∨ k = 1 ∨ k = 2 ∨ k = 3 := by omega
    rcases this with rfl | rfl | rfl | rfl
    · exact Or.inl rfl
    · exact Or.inr (Or.inl rfl)
    · exact Or.inr (Or.inr (Or.inl rfl))
    · exact Or.inr (Or.inr (Or.inr rfl))
  · rintro (rfl | rfl | rfl | rfl) <;> decide
set_option maxHeartbeats 4000000 in
theorem sx_aboutTown {S : hd_S} {p : hp_P} (hok : hp_ok p) (hx : hx_P 1 S p) {t : Nat} (ht : t < hp_T p) (what : Int32) (post : Option hd_V → hd_S → Prop) (hk : post (some (hd_vI (hp_abT p t what))) S) : wm_X8_aboutTown [hd_vR 0, hd_vI (nI t), hd_vI what] S post := by
  have hT : hp_T p ≤ 8 := hok.1
  have e1 : S.1 2 t = nI (hp_cr p t) := hx.2.2.1 t (by omega)
  have e2 : S.1 3 t = nI (hp_fi p t) := hx.2.2.2.1 t (by omega)
  have e3 : S.1 4 t = Int32.ofInt (hp_sp p t) := hx.2.2.2.2.1 t (by omega)
  simp only [wm_X8_aboutTown, wo_X8_aboutTown, hd_mth, hd_rho0, hd_args, hd_wide, hq_sQ, hd_s0, hq_sI, hq_sJ, hd_sR, hd_sP, hd_sF, hd_sZ, hd_sG, hd_sA, hd_sL, hd_sB, hd_sO, hd_sN, hd_sD, hd_sW, hd_sE, hd_sRI, hd_sRZ, hd_sRJ, hd_sRR, hd_sRV, hd_sSw, hd_sw, hd_sCI, hd_sCL, hd_iK, hd_iL, hd_iU, hd_iB, hd_iD, hd_iJ, hd_iG, hd_iA, hd_iQ, hd_iC, hd_iN, hd_iE, hd_jK, hd_jL, hd_jU, hd_jB, hd_jD, hd_jH, hd_jI, hd_jA, hd_jQ, hd_jN, hd_rL, hd_rG, hd_rA, hd_rN, hd_cI, hd_c0, hd_cJ, hd_cX, hd_cA, hd_cO, hd_v0, hd_pI, hd_pJ, hd_pR, hd_nV, hd_nS, hd_get, hd_st, hd_stW, hd_cut, List.replicate, List.length_cons, List.length_nil, List.nil_append, List.cons_append, Nat.reduceAdd, Nat.reduceSub, Nat.reduceLeDiff, true_and, and_true, if_true, if_false, Bool.false_eq_true, List.append_nil, hs_o_0, hs_r_0_0, hs_t_0_0, hs_r_0_1, hs_t_0_1, hs_r_0_2, hs_t_0_2, hs_r_0_3, hs_t_0_3, hs_r_0_4, hs_t_0_4, hs_r_0_5, hs_t_0_5, hs_r_0_6, hs_t_0_6, hs_r_0_7, hs_t_0_7, hs_f_0_8, hs_o_1, hs_f_1_0, hs_f_1_1, hs_r_1_2, hs_t_1_2, hs_r_1_3, hs_t_1_3, hs_r_1_4, hs_t_1_4, hs_r_1_5, hs_t_1_5, hs_r_1_6, hs_t_1_6, hs_r_1_7, hs_t_1_7, hs_r_1_8, hs_t_1_8, hs_r_1_9, hs_t_1_9, hs_i_2, hs_i_3, hs_i_4, hs_i_5, hs_i_6, hs_i_7, hs_i_8, hs_i_9, hs_o_82, hs_r_82_0, hs_t_82_0, hs_f_82_1, hs_i_83, hs_o_84, hs_r_84_0, hs_t_84_0, hs_r_84_1, hs_t_84_1, hs_r_84_2, hs_t_84_2, hs_r_84_3, hs_t_84_3, hs_f_84_4, hs_i_85, hs_i_86, hs_i_87, hs_o_88, hs_r_88_0, hs_t_88_0, hs_r_88_1, hs_t_88_1, hs_r_88_2, hs_t_88_2, hs_r_88_3, hs_t_88_3, hs_r_88_4, hs_t_88_4, hs_r_88_5, hs_t_88_5, hs_r_88_6, hs_t_88_6, hs_r_88_7, hs_t_88_7, hs_f_88_8, hs_f_88_9, hs_i_89, hs_i_90, hs_i_91, hs_i_92, hs_i_93, hs_i_94, hs_i_95, hs_i_96, hs_i_97, hs_i_98, hs_i_99, hs_i_100, hs_i_101, hs_i_102, hs_o_103, hs_r_103_0, hs_t_103_0, hs_r_103_1, hs_t_103_1, hs_r_103_2, hs_t_103_2, hs_r_103_3, hs_t_103_3, hs_f_103_4, hs_i_104, hs_o_105, hs_r_105_0, hs_t_105_0, hs_r_105_1, hs_t_105_1, hs_r_105_2, hs_t_105_2, hs_i_106, hs_i_107, hs_o_108, hs_r_108_0, hs_t_108_0, hs_r_108_1, hs_t_108_1, hs_r_108_2, hs_t_108_2, hs_r_108_3, hs_t_108_3, hs_f_108_4, hs_i_109, hs_i_110, hs_o_111, hs_r_111_0, hs_t_111_0, hs_r_111_1, hs_t_111_1, hs_f_111_2, hs_f_111_3, hs_f_111_4, hs_i_112, hs_o_113, hs_f_113_0, hs_f_113_1, hs_f_113_2, hs_r_113_3, hs_t_113_3, hs_r_113_4, hs_t_113_4, hs_r_113_5, hs_t_113_5, hs_r_113_6, hs_t_113_6, hs_r_113_7, hs_t_113_7, hs_r_113_8, hs_t_113_8, hs_r_113_9, hs_t_113_9, hs_r_113_10, hs_t_113_10, hs_r_113_11, hs_t_113_11, hs_f_113_12, hs_f_113_13, hs_f_113_14, hs_r_113_15, hs_t_113_15, hs_f_113_16, hs_r_113_17, hs_t_113_17, hs_r_113_18, hs_t_113_18, hs_r_113_19, hs_t_113_19, hs_r_113_20, hs_t_113_20, hs_f_113_21, hs_f_113_22, hs_f_113_23, hs_r_113_24, hs_t_113_24, hs_f_113_25, hs_r_113_26, hs_t_113_26, hs_f_113_27, hs_i_114, hs_i_115, hs_i_116, hs_i_117, hs_i_118, hs_i_119, hs_i_120, hs_i_121, hs_i_122, hs_i_123, hs_i_124, hs_i_125, hs_i_126, hs_i_127, hs_i_128, hs_i_129, vp_in_nI (show t < 8 by omega) (show 8 < 2 ^ 31 by decide), hd_cc (show t < 2147483648 by omega), e1, e2, e3, hb_k0, hb_k1, hb_k2, hb_k3, hb_k4, hb_k5, hb_k6]
  unfold hp_abT at hk
  by_cases h0 : what = 0
  · simp only [h0, if_true] at hk ⊢
    exact hk
  · by_cases h1 : what = 1
    · simp only [h1, if_true, show ¬ ((1 : Int32) = 0) by decide, if_false] at hk ⊢
      exact hk
    · by_cases h2 : what = 2
      · simp only [h2, if_true, show ¬ ((2 : Int32) = 0) by decide, show ¬ ((2 : Int32) = 1) by decide, if_false] at hk ⊢
        exact hk
      · simp only [h0, h1, h2, if_false] at hk ⊢
        exact hk
set_option maxHeartbeats 4000000 in
theorem sx_aboutHall {S : hd_S} {p : hp_P} (hok : hp_ok p) (hx : hx_P 1 S p) {t : Nat} (ht : t < hp_H p) (what : Int32) (post : Option hd_V → hd_S → Prop) (hk : post (some (hd_vI (hp_abH p t what))) S) : wm_X8_aboutHall [hd_vR 0, hd_vI (nI t), hd_vI what] S post := by
  have hT : hp_H p ≤ 7 := hok.2.1
  have e1 : S.1 5 t = nI (hp_pr p t) := hx.2.2.2.2.2.1 t (by omega)
  have e2 : S.1 6 t = nI (hp_ro p t) := hx.2.2.2.2.2.2.1 t (by omega)
  have e3 : S.1 7 t = Int32.ofInt (hp_wd p t) := hx.2.2.2.2.2.2.2.1 t (by omega)
  have e4 : S.1 8 t = nI (hp_ln p t) := hx.2.2.2.2.2.2.2.2.1 t (by omega)
  simp only [wm_X8_aboutHall, wo_X8_aboutHall, hd_mth, hd_rho0, hd_args, hd_wide, hq_sQ, hd_s0, hq_sI, hq_sJ, hd_sR, hd_sP, hd_sF, hd_sZ, hd_sG, hd_sA, hd_sL, hd_sB, hd_sO, hd_sN, hd_sD, hd_sW, hd_sE, hd_sRI, hd_sRZ, hd_sRJ, hd_sRR, hd_sRV, hd_sSw, hd_sw, hd_sCI, hd_sCL, hd_iK, hd_iL, hd_iU, hd_iB, hd_iD, hd_iJ, hd_iG, hd_iA, hd_iQ, hd_iC, hd_iN, hd_iE, hd_jK, hd_jL, hd_jU, hd_jB, hd_jD, hd_jH, hd_jI, hd_jA, hd_jQ, hd_jN, hd_rL, hd_rG, hd_rA, hd_rN, hd_cI, hd_c0, hd_cJ, hd_cX, hd_cA, hd_cO, hd_v0, hd_pI, hd_pJ, hd_pR, hd_nV, hd_nS, hd_get, hd_st, hd_stW, hd_cut, List.replicate, List.length_cons, List.length_nil, List.nil_append, List.cons_append, Nat.reduceAdd, Nat.reduceSub, Nat.reduceLeDiff, true_and, and_true, if_true, if_false, Bool.false_eq_true, List.append_nil, hs_o_0, hs_r_0_0, hs_t_0_0, hs_r_0_1, hs_t_0_1, hs_r_0_2, hs_t_0_2, hs_r_0_3, hs_t_0_3, hs_r_0_4, hs_t_0_4, hs_r_0_5, hs_t_0_5, hs_r_0_6, hs_t_0_6, hs_r_0_7, hs_t_0_7, hs_f_0_8, hs_o_1, hs_f_1_0, hs_f_1_1, hs_r_1_2, hs_t_1_2, hs_r_1_3, hs_t_1_3, hs_r_1_4, hs_t_1_4, hs_r_1_5, hs_t_1_5, hs_r_1_6, hs_t_1_6, hs_r_1_7, hs_t_1_7, hs_r_1_8, hs_t_1_8, hs_r_1_9, hs_t_1_9, hs_i_2, hs_i_3, hs_i_4, hs_i_5, hs_i_6, hs_i_7, hs_i_8, hs_i_9, hs_o_82, hs_r_82_0, hs_t_82_0, hs_f_82_1, hs_i_83, hs_o_84, hs_r_84_0, hs_t_84_0, hs_r_84_1, hs_t_84_1, hs_r_84_2, hs_t_84_2, hs_r_84_3, hs_t_84_3, hs_f_84_4, hs_i_85, hs_i_86, hs_i_87, hs_o_88, hs_r_88_0, hs_t_88_0, hs_r_88_1, hs_t_88_1, hs_r_88_2, hs_t_88_2, hs_r_88_3, hs_t_88_3, hs_r_88_4, hs_t_88_4, hs_r_88_5, hs_t_88_5, hs_r_88_6, hs_t_88_6, hs_r_88_7, hs_t_88_7, hs_f_88_8, hs_f_88_9, hs_i_89, hs_i_90, hs_i_91, hs_i_92, hs_i_93, hs_i_94, hs_i_95, hs_i_96, hs_i_97, hs_i_98, hs_i_99, hs_i_100, hs_i_101, hs_i_102, hs_o_103, hs_r_103_0, hs_t_103_0, hs_r_103_1, hs_t_103_1, hs_r_103_2, hs_t_103_2, hs_r_103_3, hs_t_103_3, hs_f_103_4, hs_i_104, hs_o_105, hs_r_105_0, hs_t_105_0, hs_r_105_1, hs_t_105_1, hs_r_105_2, hs_t_105_2, hs_i_106, hs_i_107, hs_o_108, hs_r_108_0, hs_t_108_0, hs_r_108_1, hs_t_108_1, hs_r_108_2, hs_t_108_2, hs_r_108_3, hs_t_108_3, hs_f_108_4, hs_i_109, hs_i_110, hs_o_111, hs_r_111_0, hs_t_111_0, hs_r_111_1, hs_t_111_1, hs_f_111_2, hs_f_111_3, hs_f_111_4, hs_i_112, hs_o_113, hs_f_113_0, hs_f_113_1, hs_f_113_2, hs_r_113_3, hs_t_113_3, hs_r_113_4, hs_t_113_4, hs_r_113_5, hs_t_113_5, hs_r_113_6, hs_t_113_6, hs_r_113_7, hs_t_113_7, hs_r_113_8, hs_t_113_8, hs_r_113_9, hs_t_113_9, hs_r_113_10, hs_t_113_10, hs_r_113_11, hs_t_113_11, hs_f_113_12, hs_f_113_13, hs_f_113_14, hs_r_113_15, hs_t_113_15, hs_f_113_16, hs_r_113_17, hs_t_113_17, hs_r_113_18, hs_t_113_18, hs_r_113_19, hs_t_113_19, hs_r_113_20, hs_t_113_20, hs_f_113_21, hs_f_113_22, hs_f_113_23, hs_r_113_24, hs_t_113_24, hs_f_113_25, hs_r_113_26, hs_t_113_26, hs_f_113_27, hs_i_114, hs_i_115, hs_i_116, hs_i_117, hs_i_118, hs_i_119, hs_i_120, hs_i_121, hs_i_122, hs_i_123, hs_i_124, hs_i_125, hs_i_126, hs_i_127, hs_i_128, hs_i_129, vp_in_nI (show t < 7 by omega) (show 7 < 2 ^ 31 by decide), hd_cc (show t < 2147483648 by omega), e1, e2, e3, e4, hb_k0, hb_k1, hb_k2, hb_k3, hb_k4, hb_k5, hb_k6]
  unfold hp_abH at hk
  by_cases h0 : what = 0
  · simp only [h0, if_true] at hk ⊢
    exact hk
  · by_cases h1 : what = 1
    · simp only [h1, if_true, show ¬ ((1 : Int32) = 0) by decide, if_false] at hk ⊢
      exact hk
    · by_cases h2 : what = 2
      · simp only [h2, if_true, show ¬ ((2 : Int32) = 0) by decide, show ¬ ((2 : Int32) = 1) by decide, if_false] at hk ⊢
        exact hk
      · by_cases h3 : what = 3
        · simp only [h3, if_true, show ¬ ((3 : Int32) = 0) by decide, show ¬ ((3 : Int32) = 1) by decide, show ¬ ((3 : Int32) = 2) by decide, if_false] at hk ⊢
          exact hk
        · simp only [h0, h1, h2, h3, if_false] at hk ⊢
          exact hk
set_option maxHeartbeats 4000000 in
theorem sx_about {S : hd_S} {p : hp_P} {n : Nat} {q : Nat → hp_P} {hand : Nat} {cl : Nat → Nat} (hI : hx_I S p n q hand cl) (of num what : Int32) (post : Option hd_V → hd_S → Prop)
    (hk1 : ∀ t, of = 0 → t < hp_T p → num = nI t → post (some (hd_vI (hp_abT p t what))) S)
    (hk2 : ∀ t, of = 1 → t < hp_H p → num = nI t → post (some (hd_vI (hp_abH p t what))) S)
    (hk3 : ¬ (of = 0 ∧ (0 ≤ num ∧ num < nI (hp_T p))) → ¬ (of = 1 ∧ (0 ≤ num ∧ num < nI (hp_H p))) → post (some (hd_vI (-3))) S) : wm_X8_about [hd_vR 0, hd_vI of, hd_vI num, hd_vI what] S post := by
  have hok := hI.1.1
  have hx := hI.2.1
  have hT : hp_T p ≤ 8 := hok.1
  have hH : hp_H p ≤ 7 := hok.2.1
  have hx0 : S.1 1 0 = nI (hp_T p) := hx.1
  have hx1 : S.1 1 1 = nI (hp_H p) := hx.2.1
  simp only [wm_X8_about, wo_X8_about, hd_mth, hd_rho0, hd_args, hd_wide, hq_sQ, hd_s0, hq_sI, hq_sJ, hd_sR, hd_sP, hd_sF, hd_sZ, hd_sG, hd_sA, hd_sL, hd_sB, hd_sO, hd_sN, hd_sD, hd_sW, hd_sE, hd_sRI, hd_sRZ, hd_sRJ, hd_sRR, hd_sRV, hd_sSw, hd_sw, hd_sCI, hd_sCL, hd_iK, hd_iL, hd_iU, hd_iB, hd_iD, hd_iJ, hd_iG, hd_iA, hd_iQ, hd_iC, hd_iN, hd_iE, hd_jK, hd_jL, hd_jU, hd_jB, hd_jD, hd_jH, hd_jI, hd_jA, hd_jQ, hd_jN, hd_rL, hd_rG, hd_rA, hd_rN, hd_cI, hd_c0, hd_cJ, hd_cX, hd_cA, hd_cO, hd_v0, hd_pI, hd_pJ, hd_pR, hd_nV, hd_nS, hd_get, hd_st, hd_stW, hd_cut, List.replicate, List.length_cons, List.length_nil, List.nil_append, List.cons_append, Nat.reduceAdd, Nat.reduceSub, Nat.reduceLeDiff, true_and, and_true, if_true, if_false, Bool.false_eq_true, List.append_nil, hs_o_0, hs_r_0_0, hs_t_0_0, hs_r_0_1, hs_t_0_1, hs_r_0_2, hs_t_0_2, hs_r_0_3, hs_t_0_3, hs_r_0_4, hs_t_0_4, hs_r_0_5, hs_t_0_5, hs_r_0_6, hs_t_0_6, hs_r_0_7, hs_t_0_7, hs_f_0_8, hs_o_1, hs_f_1_0, hs_f_1_1, hs_r_1_2, hs_t_1_2, hs_r_1_3, hs_t_1_3, hs_r_1_4, hs_t_1_4, hs_r_1_5, hs_t_1_5, hs_r_1_6, hs_t_1_6, hs_r_1_7, hs_t_1_7, hs_r_1_8, hs_t_1_8, hs_r_1_9, hs_t_1_9, hs_i_2, hs_i_3, hs_i_4, hs_i_5, hs_i_6, hs_i_7, hs_i_8, hs_i_9, hs_o_82, hs_r_82_0, hs_t_82_0, hs_f_82_1, hs_i_83, hs_o_84, hs_r_84_0, hs_t_84_0, hs_r_84_1, hs_t_84_1, hs_r_84_2, hs_t_84_2, hs_r_84_3, hs_t_84_3, hs_f_84_4, hs_i_85, hs_i_86, hs_i_87, hs_o_88, hs_r_88_0, hs_t_88_0, hs_r_88_1, hs_t_88_1, hs_r_88_2, hs_t_88_2, hs_r_88_3, hs_t_88_3, hs_r_88_4, hs_t_88_4, hs_r_88_5, hs_t_88_5, hs_r_88_6, hs_t_88_6, hs_r_88_7, hs_t_88_7, hs_f_88_8, hs_f_88_9, hs_i_89, hs_i_90, hs_i_91, hs_i_92, hs_i_93, hs_i_94, hs_i_95, hs_i_96, hs_i_97, hs_i_98, hs_i_99, hs_i_100, hs_i_101, hs_i_102, hs_o_103, hs_r_103_0, hs_t_103_0, hs_r_103_1, hs_t_103_1, hs_r_103_2, hs_t_103_2, hs_r_103_3, hs_t_103_3, hs_f_103_4, hs_i_104, hs_o_105, hs_r_105_0, hs_t_105_0, hs_r_105_1, hs_t_105_1, hs_r_105_2, hs_t_105_2, hs_i_106, hs_i_107, hs_o_108, hs_r_108_0, hs_t_108_0, hs_r_108_1, hs_t_108_1, hs_r_108_2, hs_t_108_2, hs_r_108_3, hs_t_108_3, hs_f_108_4, hs_i_109, hs_i_110, hs_o_111, hs_r_111_0, hs_t_111_0, hs_r_111_1, hs_t_111_1, hs_f_111_2, hs_f_111_3, hs_f_111_4, hs_i_112, hs_o_113, hs_f_113_0, hs_f_113_1, hs_f_113_2, hs_r_113_3, hs_t_113_3, hs_r_113_4, hs_t_113_4, hs_r_113_5, hs_t_113_5, hs_r_113_6, hs_t_113_6, hs_r_113_7, hs_t_113_7, hs_r_113_8, hs_t_113_8, hs_r_113_9, hs_t_113_9, hs_r_113_10, hs_t_113_10, hs_r_113_11, hs_t_113_11, hs_f_113_12, hs_f_113_13, hs_f_113_14, hs_r_113_15, hs_t_113_15, hs_f_113_16, hs_r_113_17, hs_t_113_17, hs_r_113_18, hs_t_113_18, hs_r_113_19, hs_t_113_19, hs_r_113_20, hs_t_113_20, hs_f_113_21, hs_f_113_22, hs_f_113_23, hs_r_113_24, hs_t_113_24, hs_f_113_25, hs_r_113_26, hs_t_113_26, hs_f_113_27, hs_i_114, hs_i_115, hs_i_116, hs_i_117, hs_i_118, hs_i_119, hs_i_120, hs_i_121, hs_i_122, hs_i_123, hs_i_124, hs_i_125, hs_i_126, hs_i_127, hs_i_128, hs_i_129, sp_X5_hasHall, sp_X5_hasTown, hx0, hx1, hd_t01, hd_dn1, decide_eq_true_eq]
  by_cases h0 : of = 0
  · by_cases h1 : 0 ≤ num ∧ num < nI (hp_T p)
    · obtain ⟨t, ht, rfl⟩ := hb_rng2 (show hp_T p < 2 ^ 31 by omega) h1.1 h1.2
      simp only [h0, h1, and_self, if_true]
      exact sx_aboutTown hok hx ht what _ (hk1 t h0 ht rfl)
    · simp only [h0, h1, if_true, if_false, show ¬ ((0 : Int32) = 1) by decide]
      exact hk3 (fun r => h1 r.2) (fun r => absurd (h0.symm.trans r.1) (by decide))
  · by_cases h3 : of = 1
    · by_cases h1 : 0 ≤ num ∧ num < nI (hp_H p)
      · obtain ⟨t, ht, rfl⟩ := hb_rng2 (show hp_H p < 2 ^ 31 by omega) h1.1 h1.2
        simp only [h3, show ¬ ((1 : Int32) = 0) by decide, h1, and_self, if_true, if_false]
        exact sx_aboutHall hok hx ht what _ (hk2 t h3 ht rfl)
      · simp only [h3, show ¬ ((1 : Int32) = 0) by decide, h1, if_true, if_false]
        exact hk3 (fun r => h0 r.1) (fun r => h1 r.2)
    · simp only [h0, h3, if_false]
      exact hk3 (fun r => h0 r.1) (fun r => h3 r.1)
set_option maxHeartbeats 4000000 in
theorem sp_about {S : hd_S} {p : hp_P} {n : Nat} {q : Nat → hp_P} {hand : Nat} {cl : Nat → Nat} (hI : hm_I S p n q hand cl) (of num what : Int32) (post : Option hd_V → hd_S → Prop)
    (hk1 : ∀ t, of = 0 → t < hp_T p → num = nI t → post (some (hd_vI (hp_abT p t what))) (hd_wI S 113 0 0))
    (hk2 : ∀ t, of = 1 → t < hp_H p → num = nI t → post (some (hd_vI (hp_abH p t what))) (hd_wI S 113 0 0))
    (hk3 : ¬ (of = 0 ∧ (0 ≤ num ∧ num < nI (hp_T p))) → ¬ (of = 1 ∧ (0 ≤ num ∧ num < nI (hp_H p))) → post (some (hd_vI (-3))) (hd_wI S 113 0 0)) : wm_X9_about [hd_vR 113, hd_vI of, hd_vI num, hd_vI what] S post := by
  have hok := hI.1.1
  obtain ⟨hI0, -⟩ := hm_I_0 hI
  have hm0 := hI0.2.1
  have hT : hp_T p ≤ 8 := hok.1
  have hH : hp_H p ≤ 7 := hok.2.1
  simp only [wm_X9_about, wo_X9_about, hd_mth, hd_rho0, hd_args, hd_wide, hq_sQ, hd_s0, hq_sI, hq_sJ, hd_sR, hd_sP, hd_sF, hd_sZ, hd_sG, hd_sA, hd_sL, hd_sB, hd_sO, hd_sN, hd_sD, hd_sW, hd_sE, hd_sRI, hd_sRZ, hd_sRJ, hd_sRR, hd_sRV, hd_sSw, hd_sw, hd_sCI, hd_sCL, hd_iK, hd_iL, hd_iU, hd_iB, hd_iD, hd_iJ, hd_iG, hd_iA, hd_iQ, hd_iC, hd_iN, hd_iE, hd_jK, hd_jL, hd_jU, hd_jB, hd_jD, hd_jH, hd_jI, hd_jA, hd_jQ, hd_jN, hd_rL, hd_rG, hd_rA, hd_rN, hd_cI, hd_c0, hd_cJ, hd_cX, hd_cA, hd_cO, hd_v0, hd_pI, hd_pJ, hd_pR, hd_nV, hd_nS, hd_get, hd_st, hd_stW, hd_cut, List.replicate, List.length_cons, List.length_nil, List.nil_append, List.cons_append, Nat.reduceAdd, Nat.reduceSub, Nat.reduceLeDiff, true_and, and_true, if_true, if_false, Bool.false_eq_true, List.append_nil, hs_o_0, hs_r_0_0, hs_t_0_0, hs_r_0_1, hs_t_0_1, hs_r_0_2, hs_t_0_2, hs_r_0_3, hs_t_0_3, hs_r_0_4, hs_t_0_4, hs_r_0_5, hs_t_0_5, hs_r_0_6, hs_t_0_6, hs_r_0_7, hs_t_0_7, hs_f_0_8, hs_o_1, hs_f_1_0, hs_f_1_1, hs_r_1_2, hs_t_1_2, hs_r_1_3, hs_t_1_3, hs_r_1_4, hs_t_1_4, hs_r_1_5, hs_t_1_5, hs_r_1_6, hs_t_1_6, hs_r_1_7, hs_t_1_7, hs_r_1_8, hs_t_1_8, hs_r_1_9, hs_t_1_9, hs_i_2, hs_i_3, hs_i_4, hs_i_5, hs_i_6, hs_i_7, hs_i_8, hs_i_9, hs_o_82, hs_r_82_0, hs_t_82_0, hs_f_82_1, hs_i_83, hs_o_84, hs_r_84_0, hs_t_84_0, hs_r_84_1, hs_t_84_1, hs_r_84_2, hs_t_84_2, hs_r_84_3, hs_t_84_3, hs_f_84_4, hs_i_85, hs_i_86, hs_i_87, hs_o_88, hs_r_88_0, hs_t_88_0, hs_r_88_1, hs_t_88_1, hs_r_88_2, hs_t_88_2, hs_r_88_3, hs_t_88_3, hs_r_88_4, hs_t_88_4, hs_r_88_5, hs_t_88_5, hs_r_88_6, hs_t_88_6, hs_r_88_7, hs_t_88_7, hs_f_88_8, hs_f_88_9, hs_i_89, hs_i_90, hs_i_91, hs_i_92, hs_i_93, hs_i_94, hs_i_95, hs_i_96, hs_i_97, hs_i_98, hs_i_99, hs_i_100, hs_i_101, hs_i_102, hs_o_103, hs_r_103_0, hs_t_103_0, hs_r_103_1, hs_t_103_1, hs_r_103_2, hs_t_103_2, hs_r_103_3, hs_t_103_3, hs_f_103_4, hs_i_104, hs_o_105, hs_r_105_0, hs_t_105_0, hs_r_105_1, hs_t_105_1, hs_r_105_2, hs_t_105_2, hs_i_106, hs_i_107, hs_o_108, hs_r_108_0, hs_t_108_0, hs_r_108_1, hs_t_108_1, hs_r_108_2, hs_t_108_2, hs_r_108_3, hs_t_108_3, hs_f_108_4, hs_i_109, hs_i_110, hs_o_111, hs_r_111_0, hs_t_111_0, hs_r_111_1, hs_t_111_1, hs_f_111_2, hs_f_111_3, hs_f_111_4, hs_i_112, hs_o_113, hs_f_113_0, hs_f_113_1, hs_f_113_2, hs_r_113_3, hs_t_113_3, hs_r_113_4, hs_t_113_4, hs_r_113_5, hs_t_113_5, hs_r_113_6, hs_t_113_6, hs_r_113_7, hs_t_113_7, hs_r_113_8, hs_t_113_8, hs_r_113_9, hs_t_113_9, hs_r_113_10, hs_t_113_10, hs_r_113_11, hs_t_113_11, hs_f_113_12, hs_f_113_13, hs_f_113_14, hs_r_113_15, hs_t_113_15, hs_f_113_16, hs_r_113_17, hs_t_113_17, hs_r_113_18, hs_t_113_18, hs_r_113_19, hs_t_113_19, hs_r_113_20, hs_t_113_20, hs_f_113_21, hs_f_113_22, hs_f_113_23, hs_r_113_24, hs_t_113_24, hs_f_113_25, hs_r_113_26, hs_t_113_26, hs_f_113_27, hs_i_114, hs_i_115, hs_i_116, hs_i_117, hs_i_118, hs_i_119, hs_i_120, hs_i_121, hs_i_122, hs_i_123, hs_i_124, hs_i_125, hs_i_126, hs_i_127, hs_i_128, hs_i_129]
  generalize hd_wI S 113 0 0 = S0 at hI0 hm0 hk1 hk2 hk3 ⊢
  simp only [sp_isTown hok hm0.1, sp_isHall hok hm0.2.1, sp_X9_in, hd_t01, hd_dn1, decide_eq_true_eq, hb_3, hb_4]
  by_cases h0 : of = 0
  · by_cases h1 : 0 ≤ num ∧ num < nI (hp_T p)
    · obtain ⟨t, ht, rfl⟩ := hb_rng2 (show hp_T p < 2 ^ 31 by omega) h1.1 h1.2
      have e1 := hm0.2.2.1 t (by omega)
      have e2 := hm0.2.2.2.1 t (by omega)
      have e3 := hm0.2.2.2.2.1 t (by omega)
      have hk := hk1 t h0 ht rfl
      unfold hp_abT at hk
      simp only [h0, h1, and_self, if_true, vp_in_nI (show t < 8 by omega) (show 8 < 2 ^ 31 by decide), hd_cc (show t < 2147483648 by omega), e1, e2, e3, true_and, show ¬ ((0 : Int32) = 1) by decide, if_false]
      by_cases w0 : what = 0
      · simp only [w0, true_or, if_true] at hk ⊢
        exact hk
      · by_cases w1 : what = 1
        · simp only [w1, true_or, or_true, if_true, show ¬ ((1 : Int32) = 0) by decide, if_false] at hk ⊢
          exact hk
        · by_cases w2 : what = 2
          · simp only [w2, or_true, if_true, show ¬ ((2 : Int32) = 0) by decide, show ¬ ((2 : Int32) = 1) by decide, if_false] at hk ⊢
            exact hk
          · simp only [w0, w1, w2, or_self, if_false] at hk ⊢
            exact hk
    · simp only [h0, h1, if_true, if_false, show ¬ ((0 : Int32) = 1) by decide, Bool.false_eq_true]
      exact hk3 (fun r => h1 r.2) (fun r => absurd (h0.symm.trans r.1) (by decide))
  · by_cases h3 : of = 1
    · by_cases h1 : 0 ≤ num ∧ num < nI (hp_H p)
      · obtain ⟨t, ht, rfl⟩ := hb_rng2 (show hp_H p < 2 ^ 31 by omega) h1.1 h1.2
        have e1 := hm0.2.2.2.2.2.1 t (by omega)
        have e2 := hm0.2.2.2.2.2.2.1 t (by omega)
        have e3 := hm0.2.2.2.2.2.2.2.1 t (by omega)
        have e4 := hm0.2.2.2.2.2.2.2.2.1 t (by omega)
        have hk := hk2 t h3 ht rfl
        unfold hp_abH at hk
        simp only [h3, show ¬ ((1 : Int32) = 0) by decide, h1, and_self, if_true, if_false, Bool.false_eq_true, vp_in_nI (show t < 7 by omega) (show 7 < 2 ^ 31 by decide), hd_cc (show t < 2147483648 by omega), e1, e2, e3, e4, true_and]
        by_cases w0 : what = 0
        · simp only [w0, true_or, if_true] at hk ⊢
          exact hk
        · by_cases w1 : what = 1
          · simp only [w1, true_or, or_true, if_true, show ¬ ((1 : Int32) = 0) by decide, if_false] at hk ⊢
            exact hk
          · by_cases w2 : what = 2
            · simp only [w2, true_or, or_true, if_true, show ¬ ((2 : Int32) = 0) by decide, show ¬ ((2 : Int32) = 1) by decide, if_false] at hk ⊢
              exact hk
            · by_cases w3 : what = 3
              · simp only [w3, or_true, if_true, show ¬ ((3 : Int32) = 0) by decide, show ¬ ((3 : Int32) = 1) by decide, show ¬ ((3 : Int32) = 2) by decide, if_false] at hk ⊢
                exact hk
              · simp only [w0, w1, w2, w3, or_self, if_false] at hk ⊢
                exact hk
      · simp only [h3, show ¬ ((1 : Int32) = 0) by decide, h1, if_true, if_false, Bool.false_eq_true]
        exact hk3 (fun r => h0 r.1) (fun r => h1 r.2)
    · simp only [h0, h3, if_false, Bool.false_eq_true]
      exact hk3 (fun r => h0 r.1) (fun r => h3 r.1)
/-! count -/
def hp_sc (p : hp_P) : Nat → Nat := fb_ct (fun h => decide (hp_wd p h ≠ -1))
def hp_cnt (p : hp_P) (n hand : Nat) (cl : Nat → Nat) (what : Int32) : Int32 := if what = 0 then nI (hp_T p) else if what = 1 then nI (hp_H p) else if what = 2 then nI (fb_sm (hp_cr p) (hp_T p)) else if what = 3 then nI (hp_sc p (hp_H p)) else if what = 4 then nI (hb_pc hand 8) else if what = 5 then nI n else if what = 6 then nI (hp_tg cl (2 ^ hp_T p - 1) (hp_T p)) else -3
set_option maxHeartbeats 4000000 in
theorem sx_allPeople {S : hd_S} {p : hp_P} (hok : hp_ok p) (hx : hx_P 1 S p) (post : Option hd_V → hd_S → Prop) (hk : post (some (hd_vI (nI (fb_sm (hp_cr p) (hp_T p))))) S) : wm_X5_allPeople [hd_vR 1] S post := by
  have hT : hp_T p ≤ 8 := hok.1
  have hx0 : S.1 1 0 = nI (hp_T p) := hx.1
  simp only [wm_X5_allPeople, wo_X5_allPeople, hd_mth, hd_rho0, hd_args, hd_wide, hq_sQ, hd_s0, hq_sI, hq_sJ, hd_sR, hd_sP, hd_sF, hd_sZ, hd_sG, hd_sA, hd_sL, hd_sB, hd_sO, hd_sN, hd_sD, hd_sW, hd_sE, hd_sRI, hd_sRZ, hd_sRJ, hd_sRR, hd_sRV, hd_sSw, hd_sw, hd_sCI, hd_sCL, hd_iK, hd_iL, hd_iU, hd_iB, hd_iD, hd_iJ, hd_iG, hd_iA, hd_iQ, hd_iC, hd_iN, hd_iE, hd_jK, hd_jL, hd_jU, hd_jB, hd_jD, hd_jH, hd_jI, hd_jA, hd_jQ, hd_jN, hd_rL, hd_rG, hd_rA, hd_rN, hd_cI, hd_c0, hd_cJ, hd_cX, hd_cA, hd_cO, hd_v0, hd_pI, hd_pJ, hd_pR, hd_nV, hd_nS, hd_get, hd_st, hd_stW, hd_cut, List.replicate, List.length_cons, List.length_nil, List.nil_append, List.cons_append, Nat.reduceAdd, Nat.reduceSub, Nat.reduceLeDiff, true_and, and_true, if_true, if_false, Bool.false_eq_true, List.append_nil]
  refine hd_up (fun i ρ S2 => S2 = S ∧ ρ = [hd_vR 1, hd_vI (nI (fb_sm (hp_cr p) i)), hd_vI (nI i)]) (hp_T p) ?_ ?_ (Nat.zero_le _) ⟨rfl, rfl⟩
  · rintro i ρ S2 K hi ⟨rfl, rfl⟩ hK
    have e1 : S2.1 2 i = nI (hp_cr p i) := hx.2.2.1 i (by omega)
    simp only [wc_X5_allPeople_4, wb_X5_allPeople_4, hd_mth, hd_rho0, hd_args, hd_wide, hq_sQ, hd_s0, hq_sI, hq_sJ, hd_sR, hd_sP, hd_sF, hd_sZ, hd_sG, hd_sA, hd_sL, hd_sB, hd_sO, hd_sN, hd_sD, hd_sW, hd_sE, hd_sRI, hd_sRZ, hd_sRJ, hd_sRR, hd_sRV, hd_sSw, hd_sw, hd_sCI, hd_sCL, hd_iK, hd_iL, hd_iU, hd_iB, hd_iD, hd_iJ, hd_iG, hd_iA, hd_iQ, hd_iC, hd_iN, hd_iE, hd_jK, hd_jL, hd_jU, hd_jB, hd_jD, hd_jH, hd_jI, hd_jA, hd_jQ, hd_jN, hd_rL, hd_rG, hd_rA, hd_rN, hd_cI, hd_c0, hd_cJ, hd_cX, hd_cA, hd_cO, hd_v0, hd_pI, hd_pJ, hd_pR, hd_nV, hd_nS, hd_get, hd_st, hd_stW, hd_cut, List.replicate, List.length_cons, List.length_nil, List.nil_append, List.cons_append, Nat.reduceAdd, Nat.reduceSub, Nat.reduceLeDiff, true_and, and_true, if_true, if_false, Bool.false_eq_true, List.append_nil, hs_o_0, hs_r_0_0, hs_t_0_0, hs_r_0_1, hs_t_0_1, hs_r_0_2, hs_t_0_2, hs_r_0_3, hs_t_0_3, hs_r_0_4, hs_t_0_4, hs_r_0_5, hs_t_0_5, hs_r_0_6, hs_t_0_6, hs_r_0_7, hs_t_0_7, hs_f_0_8, hs_o_1, hs_f_1_0, hs_f_1_1, hs_r_1_2, hs_t_1_2, hs_r_1_3, hs_t_1_3, hs_r_1_4, hs_t_1_4, hs_r_1_5, hs_t_1_5, hs_r_1_6, hs_t_1_6, hs_r_1_7, hs_t_1_7, hs_r_1_8, hs_t_1_8, hs_r_1_9, hs_t_1_9, hs_i_2, hs_i_3, hs_i_4, hs_i_5, hs_i_6, hs_i_7, hs_i_8, hs_i_9, hs_o_82, hs_r_82_0, hs_t_82_0, hs_f_82_1, hs_i_83, hs_o_84, hs_r_84_0, hs_t_84_0, hs_r_84_1, hs_t_84_1, hs_r_84_2, hs_t_84_2, hs_r_84_3, hs_t_84_3, hs_f_84_4, hs_i_85, hs_i_86, hs_i_87, hs_o_88, hs_r_88_0, hs_t_88_0, hs_r_88_1, hs_t_88_1, hs_r_88_2, hs_t_88_2, hs_r_88_3, hs_t_88_3, hs_r_88_4, hs_t_88_4, hs_r_88_5, hs_t_88_5, hs_r_88_6, hs_t_88_6, hs_r_88_7, hs_t_88_7, hs_f_88_8, hs_f_88_9, hs_i_89, hs_i_90, hs_i_91, hs_i_92, hs_i_93, hs_i_94, hs_i_95, hs_i_96, hs_i_97, hs_i_98, hs_i_99, hs_i_100, hs_i_101, hs_i_102, hs_o_103, hs_r_103_0, hs_t_103_0, hs_r_103_1, hs_t_103_1, hs_r_103_2, hs_t_103_2, hs_r_103_3, hs_t_103_3, hs_f_103_4, hs_i_104, hs_o_105, hs_r_105_0, hs_t_105_0, hs_r_105_1, hs_t_105_1, hs_r_105_2, hs_t_105_2, hs_i_106, hs_i_107, hs_o_108, hs_r_108_0, hs_t_108_0, hs_r_108_1, hs_t_108_1, hs_r_108_2, hs_t_108_2, hs_r_108_3, hs_t_108_3, hs_f_108_4, hs_i_109, hs_i_110, hs_o_111, hs_r_111_0, hs_t_111_0, hs_r_111_1, hs_t_111_1, hs_f_111_2, hs_f_111_3, hs_f_111_4, hs_i_112, hs_o_113, hs_f_113_0, hs_f_113_1, hs_f_113_2, hs_r_113_3, hs_t_113_3, hs_r_113_4, hs_t_113_4, hs_r_113_5, hs_t_113_5, hs_r_113_6, hs_t_113_6, hs_r_113_7, hs_t_113_7, hs_r_113_8, hs_t_113_8, hs_r_113_9, hs_t_113_9, hs_r_113_10, hs_t_113_10, hs_r_113_11, hs_t_113_11, hs_f_113_12, hs_f_113_13, hs_f_113_14, hs_r_113_15, hs_t_113_15, hs_f_113_16, hs_r_113_17, hs_t_113_17, hs_r_113_18, hs_t_113_18, hs_r_113_19, hs_t_113_19, hs_r_113_20, hs_t_113_20, hs_f_113_21, hs_f_113_22, hs_f_113_23, hs_r_113_24, hs_t_113_24, hs_f_113_25, hs_r_113_26, hs_t_113_26, hs_f_113_27, hs_i_114, hs_i_115, hs_i_116, hs_i_117, hs_i_118, hs_i_119, hs_i_120, hs_i_121, hs_i_122, hs_i_123, hs_i_124, hs_i_125, hs_i_126, hs_i_127, hs_i_128, hs_i_129, hx0, nI_ltI (show i < 2 ^ 31 by omega) (show hp_T p < 2 ^ 31 by omega), hi, decide_true, vp_in_nI (show i < 8 by omega) (show 8 < 2 ^ 31 by decide), hd_cc (show i < 2147483648 by omega), e1, nI_add, nI_1]
    exact hK _ _ ⟨rfl, rfl⟩
  · rintro ρ S2 K ⟨rfl, rfl⟩
    simp only [wc_X5_allPeople_4, hd_mth, hd_rho0, hd_args, hd_wide, hq_sQ, hd_s0, hq_sI, hq_sJ, hd_sR, hd_sP, hd_sF, hd_sZ, hd_sG, hd_sA, hd_sL, hd_sB, hd_sO, hd_sN, hd_sD, hd_sW, hd_sE, hd_sRI, hd_sRZ, hd_sRJ, hd_sRR, hd_sRV, hd_sSw, hd_sw, hd_sCI, hd_sCL, hd_iK, hd_iL, hd_iU, hd_iB, hd_iD, hd_iJ, hd_iG, hd_iA, hd_iQ, hd_iC, hd_iN, hd_iE, hd_jK, hd_jL, hd_jU, hd_jB, hd_jD, hd_jH, hd_jI, hd_jA, hd_jQ, hd_jN, hd_rL, hd_rG, hd_rA, hd_rN, hd_cI, hd_c0, hd_cJ, hd_cX, hd_cA, hd_cO, hd_v0, hd_pI, hd_pJ, hd_pR, hd_nV, hd_nS, hd_get, hd_st, hd_stW, hd_cut, List.replicate, List.length_cons, List.length_nil, List.nil_append, List.cons_append, Nat.reduceAdd, Nat.reduceSub, Nat.reduceLeDiff, true_and, and_true, if_true, if_false, Bool.false_eq_true, List.append_nil, hs_o_0, hs_r_0_0, hs_t_0_0, hs_r_0_1, hs_t_0_1, hs_r_0_2, hs_t_0_2, hs_r_0_3, hs_t_0_3, hs_r_0_4, hs_t_0_4, hs_r_0_5, hs_t_0_5, hs_r_0_6, hs_t_0_6, hs_r_0_7, hs_t_0_7, hs_f_0_8, hs_o_1, hs_f_1_0, hs_f_1_1, hs_r_1_2, hs_t_1_2, hs_r_1_3, hs_t_1_3, hs_r_1_4, hs_t_1_4, hs_r_1_5, hs_t_1_5, hs_r_1_6, hs_t_1_6, hs_r_1_7, hs_t_1_7, hs_r_1_8, hs_t_1_8, hs_r_1_9, hs_t_1_9, hs_i_2, hs_i_3, hs_i_4, hs_i_5, hs_i_6, hs_i_7, hs_i_8, hs_i_9, hs_o_82, hs_r_82_0, hs_t_82_0, hs_f_82_1, hs_i_83, hs_o_84, hs_r_84_0, hs_t_84_0, hs_r_84_1, hs_t_84_1, hs_r_84_2, hs_t_84_2, hs_r_84_3, hs_t_84_3, hs_f_84_4, hs_i_85, hs_i_86, hs_i_87, hs_o_88, hs_r_88_0, hs_t_88_0, hs_r_88_1, hs_t_88_1, hs_r_88_2, hs_t_88_2, hs_r_88_3, hs_t_88_3, hs_r_88_4, hs_t_88_4, hs_r_88_5, hs_t_88_5, hs_r_88_6, hs_t_88_6, hs_r_88_7, hs_t_88_7, hs_f_88_8, hs_f_88_9, hs_i_89, hs_i_90, hs_i_91, hs_i_92, hs_i_93, hs_i_94, hs_i_95, hs_i_96, hs_i_97, hs_i_98, hs_i_99, hs_i_100, hs_i_101, hs_i_102, hs_o_103, hs_r_103_0, hs_t_103_0, hs_r_103_1, hs_t_103_1, hs_r_103_2, hs_t_103_2, hs_r_103_3, hs_t_103_3, hs_f_103_4, hs_i_104, hs_o_105, hs_r_105_0, hs_t_105_0, hs_r_105_1, hs_t_105_1, hs_r_105_2, hs_t_105_2, hs_i_106, hs_i_107, hs_o_108, hs_r_108_0, hs_t_108_0, hs_r_108_1, hs_t_108_1, hs_r_108_2, hs_t_108_2, hs_r_108_3, hs_t_108_3, hs_f_108_4, hs_i_109, hs_i_110, hs_o_111, hs_r_111_0, hs_t_111_0, hs_r_111_1, hs_t_111_1, hs_f_111_2, hs_f_111_3, hs_f_111_4, hs_i_112, hs_o_113, hs_f_113_0, hs_f_113_1, hs_f_113_2, hs_r_113_3, hs_t_113_3, hs_r_113_4, hs_t_113_4, hs_r_113_5, hs_t_113_5, hs_r_113_6, hs_t_113_6, hs_r_113_7, hs_t_113_7, hs_r_113_8, hs_t_113_8, hs_r_113_9, hs_t_113_9, hs_r_113_10, hs_t_113_10, hs_r_113_11, hs_t_113_11, hs_f_113_12, hs_f_113_13, hs_f_113_14, hs_r_113_15, hs_t_113_15, hs_f_113_16, hs_r_113_17, hs_t_113_17, hs_r_113_18, hs_t_113_18, hs_r_113_19, hs_t_113_19, hs_r_113_20, hs_t_113_20, hs_f_113_21, hs_f_113_22, hs_f_113_23, hs_r_113_24, hs_t_113_24, hs_f_113_25, hs_r_113_26, hs_t_113_26, hs_f_113_27, hs_i_114, hs_i_115, hs_i_116, hs_i_117, hs_i_118, hs_i_119, hs_i_120, hs_i_121, hs_i_122, hs_i_123, hs_i_124, hs_i_125, hs_i_126, hs_i_127, hs_i_128, hs_i_129, hx0, Int32.lt_irrefl, decide_false]
    exact hk
set_option maxHeartbeats 4000000 in
theorem sx_sheets {S : hd_S} {p : hp_P} (hok : hp_ok p) (hx : hx_P 1 S p) (post : Option hd_V → hd_S → Prop) (hk : post (some (hd_vI (nI (hp_sc p (hp_H p))))) S) : wm_X5_sheets [hd_vR 1] S post := by
  have hH : hp_H p ≤ 7 := hok.2.1
  have hx1 : S.1 1 1 = nI (hp_H p) := hx.2.1
  simp only [wm_X5_sheets, wo_X5_sheets, hd_mth, hd_rho0, hd_args, hd_wide, hq_sQ, hd_s0, hq_sI, hq_sJ, hd_sR, hd_sP, hd_sF, hd_sZ, hd_sG, hd_sA, hd_sL, hd_sB, hd_sO, hd_sN, hd_sD, hd_sW, hd_sE, hd_sRI, hd_sRZ, hd_sRJ, hd_sRR, hd_sRV, hd_sSw, hd_sw, hd_sCI, hd_sCL, hd_iK, hd_iL, hd_iU, hd_iB, hd_iD, hd_iJ, hd_iG, hd_iA, hd_iQ, hd_iC, hd_iN, hd_iE, hd_jK, hd_jL, hd_jU, hd_jB, hd_jD, hd_jH, hd_jI, hd_jA, hd_jQ, hd_jN, hd_rL, hd_rG, hd_rA, hd_rN, hd_cI, hd_c0, hd_cJ, hd_cX, hd_cA, hd_cO, hd_v0, hd_pI, hd_pJ, hd_pR, hd_nV, hd_nS, hd_get, hd_st, hd_stW, hd_cut, List.replicate, List.length_cons, List.length_nil, List.nil_append, List.cons_append, Nat.reduceAdd, Nat.reduceSub, Nat.reduceLeDiff, true_and, and_true, if_true, if_false, Bool.false_eq_true, List.append_nil]
  refine hd_up (fun i ρ S2 => S2 = S ∧ ρ = [hd_vR 1, hd_vI (nI (hp_sc p i)), hd_vI (nI i)]) (hp_H p) ?_ ?_ (Nat.zero_le _) ⟨rfl, rfl⟩
  · rintro i ρ S2 K hi ⟨rfl, rfl⟩ hK
    have e1 : S2.1 7 i = Int32.ofInt (hp_wd p i) := hx.2.2.2.2.2.2.2.1 i (by omega)
    simp only [wc_X5_sheets_4, wb_X5_sheets_4, wm_X5_isMissing, wo_X5_isMissing, hd_mth, hd_rho0, hd_args, hd_wide, hq_sQ, hd_s0, hq_sI, hq_sJ, hd_sR, hd_sP, hd_sF, hd_sZ, hd_sG, hd_sA, hd_sL, hd_sB, hd_sO, hd_sN, hd_sD, hd_sW, hd_sE, hd_sRI, hd_sRZ, hd_sRJ, hd_sRR, hd_sRV, hd_sSw, hd_sw, hd_sCI, hd_sCL, hd_iK, hd_iL, hd_iU, hd_iB, hd_iD, hd_iJ, hd_iG, hd_iA, hd_iQ, hd_iC, hd_iN, hd_iE, hd_jK, hd_jL, hd_jU, hd_jB, hd_jD, hd_jH, hd_jI, hd_jA, hd_jQ, hd_jN, hd_rL, hd_rG, hd_rA, hd_rN, hd_cI, hd_c0, hd_cJ, hd_cX, hd_cA, hd_cO, hd_v0, hd_pI, hd_pJ, hd_pR, hd_nV, hd_nS, hd_get, hd_st, hd_stW, hd_cut, List.replicate, List.length_cons, List.length_nil, List.nil_append, List.cons_append, Nat.reduceAdd, Nat.reduceSub, Nat.reduceLeDiff, true_and, and_true, if_true, if_false, Bool.false_eq_true, List.append_nil, hs_o_0, hs_r_0_0, hs_t_0_0, hs_r_0_1, hs_t_0_1, hs_r_0_2, hs_t_0_2, hs_r_0_3, hs_t_0_3, hs_r_0_4, hs_t_0_4, hs_r_0_5, hs_t_0_5, hs_r_0_6, hs_t_0_6, hs_r_0_7, hs_t_0_7, hs_f_0_8, hs_o_1, hs_f_1_0, hs_f_1_1, hs_r_1_2, hs_t_1_2, hs_r_1_3, hs_t_1_3, hs_r_1_4, hs_t_1_4, hs_r_1_5, hs_t_1_5, hs_r_1_6, hs_t_1_6, hs_r_1_7, hs_t_1_7, hs_r_1_8, hs_t_1_8, hs_r_1_9, hs_t_1_9, hs_i_2, hs_i_3, hs_i_4, hs_i_5, hs_i_6, hs_i_7, hs_i_8, hs_i_9, hs_o_82, hs_r_82_0, hs_t_82_0, hs_f_82_1, hs_i_83, hs_o_84, hs_r_84_0, hs_t_84_0, hs_r_84_1, hs_t_84_1, hs_r_84_2, hs_t_84_2, hs_r_84_3, hs_t_84_3, hs_f_84_4, hs_i_85, hs_i_86, hs_i_87, hs_o_88, hs_r_88_0, hs_t_88_0, hs_r_88_1, hs_t_88_1, hs_r_88_2, hs_t_88_2, hs_r_88_3, hs_t_88_3, hs_r_88_4, hs_t_88_4, hs_r_88_5, hs_t_88_5, hs_r_88_6, hs_t_88_6, hs_r_88_7, hs_t_88_7, hs_f_88_8, hs_f_88_9, hs_i_89, hs_i_90, hs_i_91, hs_i_92, hs_i_93, hs_i_94, hs_i_95, hs_i_96, hs_i_97, hs_i_98, hs_i_99, hs_i_100, hs_i_101, hs_i_102, hs_o_103, hs_r_103_0, hs_t_103_0, hs_r_103_1, hs_t_103_1, hs_r_103_2, hs_t_103_2, hs_r_103_3, hs_t_103_3, hs_f_103_4, hs_i_104, hs_o_105, hs_r_105_0, hs_t_105_0, hs_r_105_1, hs_t_105_1, hs_r_105_2, hs_t_105_2, hs_i_106, hs_i_107, hs_o_108, hs_r_108_0, hs_t_108_0, hs_r_108_1, hs_t_108_1, hs_r_108_2, hs_t_108_2, hs_r_108_3, hs_t_108_3, hs_f_108_4, hs_i_109, hs_i_110, hs_o_111, hs_r_111_0, hs_t_111_0, hs_r_111_1, hs_t_111_1, hs_f_111_2, hs_f_111_3, hs_f_111_4, hs_i_112, hs_o_113, hs_f_113_0, hs_f_113_1, hs_f_113_2, hs_r_113_3, hs_t_113_3, hs_r_113_4, hs_t_113_4, hs_r_113_5, hs_t_113_5, hs_r_113_6, hs_t_113_6, hs_r_113_7, hs_t_113_7, hs_r_113_8, hs_t_113_8, hs_r_113_9, hs_t_113_9, hs_r_113_10, hs_t_113_10, hs_r_113_11, hs_t_113_11, hs_f_113_12, hs_f_113_13, hs_f_113_14, hs_r_113_15, hs_t_113_15, hs_f_113_16, hs_r_113_17, hs_t_113_17, hs_r_113_18, hs_t_113_18, hs_r_113_19, hs_t_113_19, hs_r_113_20, hs_t_113_20, hs_f_113_21, hs_f_113_22, hs_f_113_23, hs_r_113_24, hs_t_113_24, hs_f_113_25, hs_r_113_26, hs_t_113_26, hs_f_113_27, hs_i_114, hs_i_115, hs_i_116, hs_i_117, hs_i_118, hs_i_119, hs_i_120, hs_i_121, hs_i_122, hs_i_123, hs_i_124, hs_i_125, hs_i_126, hs_i_127, hs_i_128, hs_i_129, hx1, nI_ltI (show i < 2 ^ 31 by omega) (show hp_H p < 2 ^ 31 by omega), hi, decide_true, vp_in_nI (show i < 7 by omega) (show 7 < 2 ^ 31 by decide), hd_cc (show i < 2147483648 by omega), e1, hp_wd1 (hok.2.2.2.2.2.2.2.2.1 i), hd_b01, hd_t01, hd_dn1, decide_eq_true_eq, nI_1]
    have e2 : hp_sc p (i + 1) = hp_sc p i + (if hp_wd p i = -1 then 0 else 1) := by
      unfold hp_sc
      rw [fb_ct_succ]
      by_cases h : hp_wd p i = -1 <;> simp [h]
    by_cases h : hp_wd p i = -1
    · rw [if_pos h] at e2
      simp only [h, if_true]
      refine hK _ _ ⟨rfl, ?_⟩
      rw [e2]
      simp
    · rw [if_neg h] at e2
      simp only [h, if_false, nI_1]
      exact hK _ _ ⟨rfl, by rw [e2]⟩
  · rintro ρ S2 K ⟨rfl, rfl⟩
    simp only [wc_X5_sheets_4, hd_mth, hd_rho0, hd_args, hd_wide, hq_sQ, hd_s0, hq_sI, hq_sJ, hd_sR, hd_sP, hd_sF, hd_sZ, hd_sG, hd_sA, hd_sL, hd_sB, hd_sO, hd_sN, hd_sD, hd_sW, hd_sE, hd_sRI, hd_sRZ, hd_sRJ, hd_sRR, hd_sRV, hd_sSw, hd_sw, hd_sCI, hd_sCL, hd_iK, hd_iL, hd_iU, hd_iB, hd_iD, hd_iJ, hd_iG, hd_iA, hd_iQ, hd_iC, hd_iN, hd_iE, hd_jK, hd_jL, hd_jU, hd_jB, hd_jD, hd_jH, hd_jI, hd_jA, hd_jQ, hd_jN, hd_rL, hd_rG, hd_rA, hd_rN, hd_cI, hd_c0, hd_cJ, hd_cX, hd_cA, hd_cO, hd_v0, hd_pI, hd_pJ, hd_pR, hd_nV, hd_nS, hd_get, hd_st, hd_stW, hd_cut, List.replicate, List.length_cons, List.length_nil, List.nil_append, List.cons_append, Nat.reduceAdd, Nat.reduceSub, Nat.reduceLeDiff, true_and, and_true, if_true, if_false, Bool.false_eq_true, List.append_nil, hs_o_0, hs_r_0_0, hs_t_0_0, hs_r_0_1, hs_t_0_1, hs_r_0_2, hs_t_0_2, hs_r_0_3, hs_t_0_3, hs_r_0_4, hs_t_0_4, hs_r_0_5, hs_t_0_5, hs_r_0_6, hs_t_0_6, hs_r_0_7, hs_t_0_7, hs_f_0_8, hs_o_1, hs_f_1_0, hs_f_1_1, hs_r_1_2, hs_t_1_2, hs_r_1_3, hs_t_1_3, hs_r_1_4, hs_t_1_4, hs_r_1_5, hs_t_1_5, hs_r_1_6, hs_t_1_6, hs_r_1_7, hs_t_1_7, hs_r_1_8, hs_t_1_8, hs_r_1_9, hs_t_1_9, hs_i_2, hs_i_3, hs_i_4, hs_i_5, hs_i_6, hs_i_7, hs_i_8, hs_i_9, hs_o_82, hs_r_82_0, hs_t_82_0, hs_f_82_1, hs_i_83, hs_o_84, hs_r_84_0, hs_t_84_0, hs_r_84_1, hs_t_84_1, hs_r_84_2, hs_t_84_2, hs_r_84_3, hs_t_84_3, hs_f_84_4, hs_i_85, hs_i_86, hs_i_87, hs_o_88, hs_r_88_0, hs_t_88_0, hs_r_88_1, hs_t_88_1, hs_r_88_2, hs_t_88_2, hs_r_88_3, hs_t_88_3, hs_r_88_4, hs_t_88_4, hs_r_88_5, hs_t_88_5, hs_r_88_6, hs_t_88_6, hs_r_88_7, hs_t_88_7, hs_f_88_8, hs_f_88_9, hs_i_89, hs_i_90, hs_i_91, hs_i_92, hs_i_93, hs_i_94, hs_i_95, hs_i_96, hs_i_97, hs_i_98, hs_i_99, hs_i_100, hs_i_101, hs_i_102, hs_o_103, hs_r_103_0, hs_t_103_0, hs_r_103_1, hs_t_103_1, hs_r_103_2, hs_t_103_2, hs_r_103_3, hs_t_103_3, hs_f_103_4, hs_i_104, hs_o_105, hs_r_105_0, hs_t_105_0, hs_r_105_1, hs_t_105_1, hs_r_105_2, hs_t_105_2, hs_i_106, hs_i_107, hs_o_108, hs_r_108_0, hs_t_108_0, hs_r_108_1, hs_t_108_1, hs_r_108_2, hs_t_108_2, hs_r_108_3, hs_t_108_3, hs_f_108_4, hs_i_109, hs_i_110, hs_o_111, hs_r_111_0, hs_t_111_0, hs_r_111_1, hs_t_111_1, hs_f_111_2, hs_f_111_3, hs_f_111_4, hs_i_112, hs_o_113, hs_f_113_0, hs_f_113_1, hs_f_113_2, hs_r_113_3, hs_t_113_3, hs_r_113_4, hs_t_113_4, hs_r_113_5, hs_t_113_5, hs_r_113_6, hs_t_113_6, hs_r_113_7, hs_t_113_7, hs_r_113_8, hs_t_113_8, hs_r_113_9, hs_t_113_9, hs_r_113_10, hs_t_113_10, hs_r_113_11, hs_t_113_11, hs_f_113_12, hs_f_113_13, hs_f_113_14, hs_r_113_15, hs_t_113_15, hs_f_113_16, hs_r_113_17, hs_t_113_17, hs_r_113_18, hs_t_113_18, hs_r_113_19, hs_t_113_19, hs_r_113_20, hs_t_113_20, hs_f_113_21, hs_f_113_22, hs_f_113_23, hs_r_113_24, hs_t_113_24, hs_f_113_25, hs_r_113_26, hs_t_113_26, hs_f_113_27, hs_i_114, hs_i_115, hs_i_116, hs_i_117, hs_i_118, hs_i_119, hs_i_120, hs_i_121, hs_i_122, hs_i_123, hs_i_124, hs_i_125, hs_i_126, hs_i_127, hs_i_128, hs_i_129, hx1, Int32.lt_irrefl, decide_false]
    exact hk
set_option maxHeartbeats 4000000 in
theorem sx_count {S : hd_S} {p : hp_P} {n : Nat} {q : Nat → hp_P} {hand : Nat} {cl : Nat → Nat} (hI : hx_I S p n q hand cl) (what : Int32) (post : Option hd_V → hd_S → Prop) (hk : post (some (hd_vI (hp_cnt p n hand cl what))) S) : wm_X8_count [hd_vR 0, hd_vI what] S post := by
  have hok := hI.1.1
  have hx := hI.2.1
  have hT : hp_T p ≤ 8 := hok.1
  have hH : hp_H p ≤ 7 := hok.2.1
  have hx0 : S.1 1 0 = nI (hp_T p) := hx.1
  have hx1 : S.1 1 1 = nI (hp_H p) := hx.2.1
  have hh : hand < 256 := Nat.lt_of_lt_of_le hI.1.2.2.1 (Nat.le_trans (Nat.pow_le_pow_right (n := 2) (by decide) hH) (by decide))
  have h256 : 2 ^ hp_T p ≤ 256 := Nat.pow_le_pow_right (n := 2) (by decide) hT
  have hx5 : S.1 82 1 = nI n := hI.2.2.1.2.1
  have hx8 : S.1 0 8 = nI hand := hI.2.2.2.1
  simp only [wm_X8_count, wo_X8_count, hd_mth, hd_rho0, hd_args, hd_wide, hq_sQ, hd_s0, hq_sI, hq_sJ, hd_sR, hd_sP, hd_sF, hd_sZ, hd_sG, hd_sA, hd_sL, hd_sB, hd_sO, hd_sN, hd_sD, hd_sW, hd_sE, hd_sRI, hd_sRZ, hd_sRJ, hd_sRR, hd_sRV, hd_sSw, hd_sw, hd_sCI, hd_sCL, hd_iK, hd_iL, hd_iU, hd_iB, hd_iD, hd_iJ, hd_iG, hd_iA, hd_iQ, hd_iC, hd_iN, hd_iE, hd_jK, hd_jL, hd_jU, hd_jB, hd_jD, hd_jH, hd_jI, hd_jA, hd_jQ, hd_jN, hd_rL, hd_rG, hd_rA, hd_rN, hd_cI, hd_c0, hd_cJ, hd_cX, hd_cA, hd_cO, hd_v0, hd_pI, hd_pJ, hd_pR, hd_nV, hd_nS, hd_get, hd_st, hd_stW, hd_cut, List.replicate, List.length_cons, List.length_nil, List.nil_append, List.cons_append, Nat.reduceAdd, Nat.reduceSub, Nat.reduceLeDiff, true_and, and_true, if_true, if_false, Bool.false_eq_true, List.append_nil, hs_o_0, hs_r_0_0, hs_t_0_0, hs_r_0_1, hs_t_0_1, hs_r_0_2, hs_t_0_2, hs_r_0_3, hs_t_0_3, hs_r_0_4, hs_t_0_4, hs_r_0_5, hs_t_0_5, hs_r_0_6, hs_t_0_6, hs_r_0_7, hs_t_0_7, hs_f_0_8, hs_o_1, hs_f_1_0, hs_f_1_1, hs_r_1_2, hs_t_1_2, hs_r_1_3, hs_t_1_3, hs_r_1_4, hs_t_1_4, hs_r_1_5, hs_t_1_5, hs_r_1_6, hs_t_1_6, hs_r_1_7, hs_t_1_7, hs_r_1_8, hs_t_1_8, hs_r_1_9, hs_t_1_9, hs_i_2, hs_i_3, hs_i_4, hs_i_5, hs_i_6, hs_i_7, hs_i_8, hs_i_9, hs_o_82, hs_r_82_0, hs_t_82_0, hs_f_82_1, hs_i_83, hs_o_84, hs_r_84_0, hs_t_84_0, hs_r_84_1, hs_t_84_1, hs_r_84_2, hs_t_84_2, hs_r_84_3, hs_t_84_3, hs_f_84_4, hs_i_85, hs_i_86, hs_i_87, hs_o_88, hs_r_88_0, hs_t_88_0, hs_r_88_1, hs_t_88_1, hs_r_88_2, hs_t_88_2, hs_r_88_3, hs_t_88_3, hs_r_88_4, hs_t_88_4, hs_r_88_5, hs_t_88_5, hs_r_88_6, hs_t_88_6, hs_r_88_7, hs_t_88_7, hs_f_88_8, hs_f_88_9, hs_i_89, hs_i_90, hs_i_91, hs_i_92, hs_i_93, hs_i_94, hs_i_95, hs_i_96, hs_i_97, hs_i_98, hs_i_99, hs_i_100, hs_i_101, hs_i_102, hs_o_103, hs_r_103_0, hs_t_103_0, hs_r_103_1, hs_t_103_1, hs_r_103_2, hs_t_103_2, hs_r_103_3, hs_t_103_3, hs_f_103_4, hs_i_104, hs_o_105, hs_r_105_0, hs_t_105_0, hs_r_105_1, hs_t_105_1, hs_r_105_2, hs_t_105_2, hs_i_106, hs_i_107, hs_o_108, hs_r_108_0, hs_t_108_0, hs_r_108_1, hs_t_108_1, hs_r_108_2, hs_t_108_2, hs_r_108_3, hs_t_108_3, hs_f_108_4, hs_i_109, hs_i_110, hs_o_111, hs_r_111_0, hs_t_111_0, hs_r_111_1, hs_t_111_1, hs_f_111_2, hs_f_111_3, hs_f_111_4, hs_i_112, hs_o_113, hs_f_113_0, hs_f_113_1, hs_f_113_2, hs_r_113_3, hs_t_113_3, hs_r_113_4, hs_t_113_4, hs_r_113_5, hs_t_113_5, hs_r_113_6, hs_t_113_6, hs_r_113_7, hs_t_113_7, hs_r_113_8, hs_t_113_8, hs_r_113_9, hs_t_113_9, hs_r_113_10, hs_t_113_10, hs_r_113_11, hs_t_113_11, hs_f_113_12, hs_f_113_13, hs_f_113_14, hs_r_113_15, hs_t_113_15, hs_f_113_16, hs_r_113_17, hs_t_113_17, hs_r_113_18, hs_t_113_18, hs_r_113_19, hs_t_113_19, hs_r_113_20, hs_t_113_20, hs_f_113_21, hs_f_113_22, hs_f_113_23, hs_r_113_24, hs_t_113_24, hs_f_113_25, hs_r_113_26, hs_t_113_26, hs_f_113_27, hs_i_114, hs_i_115, hs_i_116, hs_i_117, hs_i_118, hs_i_119, hs_i_120, hs_i_121, hs_i_122, hs_i_123, hs_i_124, hs_i_125, hs_i_126, hs_i_127, hs_i_128, hs_i_129, hx0, hx1, hx5, hx8, sp_X5_everyTown, hb_all (show hp_T p < 31 by omega), sp_bitCount hand hh, hb_k0, hb_k1, hb_k2, hb_k3, hb_k4, hb_k5, hb_k6]
  unfold hp_cnt at hk
  by_cases h0 : what = 0
  · simp only [h0, if_true] at hk ⊢
    exact hk
  simp only [h0, if_false] at hk ⊢
  by_cases h1 : what = 1
  · simp only [h1, if_true] at hk ⊢
    exact hk
  simp only [h1, if_false] at hk ⊢
  by_cases h2 : what = 2
  · simp only [h2, if_true] at hk ⊢
    exact sx_allPeople hok hx _ hk
  simp only [h2, if_false] at hk ⊢
  by_cases h3 : what = 3
  · simp only [h3, if_true] at hk ⊢
    exact sx_sheets hok hx _ hk
  simp only [h3, if_false] at hk ⊢
  by_cases h4 : what = 4
  · simp only [h4, if_true] at hk ⊢
    exact hk
  simp only [h4, if_false] at hk ⊢
  by_cases h5 : what = 5
  · simp only [h5, if_true] at hk ⊢
    exact hk
  simp only [h5, if_false] at hk ⊢
  by_cases h6 : what = 6
  · simp only [h6, if_true] at hk ⊢
    exact sx_together hT hx0 hI.2.2.2.2.1 (show 2 ^ hp_T p - 1 < 2 ^ 31 by omega) _ hk
  simp only [h6, if_false] at hk ⊢
  exact hk
set_option maxHeartbeats 4000000 in
theorem sp_count {S : hd_S} {p : hp_P} {n : Nat} {q : Nat → hp_P} {hand : Nat} {cl : Nat → Nat} (hI : hm_I S p n q hand cl) (what : Int32) (post : Option hd_V → hd_S → Prop) (hk : post (some (hd_vI (hp_cnt p n hand cl what))) (hd_wI S 113 0 0)) : wm_X9_count [hd_vR 113, hd_vI what] S post := by
  have hok := hI.1.1
  obtain ⟨hI0, -⟩ := hm_I_0 hI
  have hm0 := hI0.2.1
  have hT : hp_T p ≤ 8 := hok.1
  have hH : hp_H p ≤ 7 := hok.2.1
  have hh : hand < 128 := Nat.lt_of_lt_of_le hI.1.2.2.1 (Nat.pow_le_pow_right (n := 2) (by decide) hH)
  have h256 : 2 ^ hp_T p ≤ 256 := Nat.pow_le_pow_right (n := 2) (by decide) hT
  simp only [wm_X9_count, wo_X9_count, hd_mth, hd_rho0, hd_args, hd_wide, hq_sQ, hd_s0, hq_sI, hq_sJ, hd_sR, hd_sP, hd_sF, hd_sZ, hd_sG, hd_sA, hd_sL, hd_sB, hd_sO, hd_sN, hd_sD, hd_sW, hd_sE, hd_sRI, hd_sRZ, hd_sRJ, hd_sRR, hd_sRV, hd_sSw, hd_sw, hd_sCI, hd_sCL, hd_iK, hd_iL, hd_iU, hd_iB, hd_iD, hd_iJ, hd_iG, hd_iA, hd_iQ, hd_iC, hd_iN, hd_iE, hd_jK, hd_jL, hd_jU, hd_jB, hd_jD, hd_jH, hd_jI, hd_jA, hd_jQ, hd_jN, hd_rL, hd_rG, hd_rA, hd_rN, hd_cI, hd_c0, hd_cJ, hd_cX, hd_cA, hd_cO, hd_v0, hd_pI, hd_pJ, hd_pR, hd_nV, hd_nS, hd_get, hd_st, hd_stW, hd_cut, List.replicate, List.length_cons, List.length_nil, List.nil_append, List.cons_append, Nat.reduceAdd, Nat.reduceSub, Nat.reduceLeDiff, true_and, and_true, if_true, if_false, Bool.false_eq_true, List.append_nil, hs_o_0, hs_r_0_0, hs_t_0_0, hs_r_0_1, hs_t_0_1, hs_r_0_2, hs_t_0_2, hs_r_0_3, hs_t_0_3, hs_r_0_4, hs_t_0_4, hs_r_0_5, hs_t_0_5, hs_r_0_6, hs_t_0_6, hs_r_0_7, hs_t_0_7, hs_f_0_8, hs_o_1, hs_f_1_0, hs_f_1_1, hs_r_1_2, hs_t_1_2, hs_r_1_3, hs_t_1_3, hs_r_1_4, hs_t_1_4, hs_r_1_5, hs_t_1_5, hs_r_1_6, hs_t_1_6, hs_r_1_7, hs_t_1_7, hs_r_1_8, hs_t_1_8, hs_r_1_9, hs_t_1_9, hs_i_2, hs_i_3, hs_i_4, hs_i_5, hs_i_6, hs_i_7, hs_i_8, hs_i_9, hs_o_82, hs_r_82_0, hs_t_82_0, hs_f_82_1, hs_i_83, hs_o_84, hs_r_84_0, hs_t_84_0, hs_r_84_1, hs_t_84_1, hs_r_84_2, hs_t_84_2, hs_r_84_3, hs_t_84_3, hs_f_84_4, hs_i_85, hs_i_86, hs_i_87, hs_o_88, hs_r_88_0, hs_t_88_0, hs_r_88_1, hs_t_88_1, hs_r_88_2, hs_t_88_2, hs_r_88_3, hs_t_88_3, hs_r_88_4, hs_t_88_4, hs_r_88_5, hs_t_88_5, hs_r_88_6, hs_t_88_6, hs_r_88_7, hs_t_88_7, hs_f_88_8, hs_f_88_9, hs_i_89, hs_i_90, hs_i_91, hs_i_92, hs_i_93, hs_i_94, hs_i_95, hs_i_96, hs_i_97, hs_i_98, hs_i_99, hs_i_100, hs_i_101, hs_i_102, hs_o_103, hs_r_103_0, hs_t_103_0, hs_r_103_1, hs_t_103_1, hs_r_103_2, hs_t_103_2, hs_r_103_3, hs_t_103_3, hs_f_103_4, hs_i_104, hs_o_105, hs_r_105_0, hs_t_105_0, hs_r_105_1, hs_t_105_1, hs_r_105_2, hs_t_105_2, hs_i_106, hs_i_107, hs_o_108, hs_r_108_0, hs_t_108_0, hs_r_108_1, hs_t_108_1, hs_r_108_2, hs_t_108_2, hs_r_108_3, hs_t_108_3, hs_f_108_4, hs_i_109, hs_i_110, hs_o_111, hs_r_111_0, hs_t_111_0, hs_r_111_1, hs_t_111_1, hs_f_111_2, hs_f_111_3, hs_f_111_4, hs_i_112, hs_o_113, hs_f_113_0, hs_f_113_1, hs_f_113_2, hs_r_113_3, hs_t_113_3, hs_r_113_4, hs_t_113_4, hs_r_113_5, hs_t_113_5, hs_r_113_6, hs_t_113_6, hs_r_113_7, hs_t_113_7, hs_r_113_8, hs_t_113_8, hs_r_113_9, hs_t_113_9, hs_r_113_10, hs_t_113_10, hs_r_113_11, hs_t_113_11, hs_f_113_12, hs_f_113_13, hs_f_113_14, hs_r_113_15, hs_t_113_15, hs_f_113_16, hs_r_113_17, hs_t_113_17, hs_r_113_18, hs_t_113_18, hs_r_113_19, hs_t_113_19, hs_r_113_20, hs_t_113_20, hs_f_113_21, hs_f_113_22, hs_f_113_23, hs_r_113_24, hs_t_113_24, hs_f_113_25, hs_r_113_26, hs_t_113_26, hs_f_113_27, hs_i_114, hs_i_115, hs_i_116, hs_i_117, hs_i_118, hs_i_119, hs_i_120, hs_i_121, hs_i_122, hs_i_123, hs_i_124, hs_i_125, hs_i_126, hs_i_127, hs_i_128, hs_i_129]
  generalize hd_wI S 113 0 0 = S0 at hI0 hm0 hk ⊢
  have hm5 : S0.1 113 13 = nI n := hI0.2.2.1.2.1
  have hm8 : S0.1 113 14 = nI hand := hI0.2.2.2.1
  simp only [hm0.1, hm0.2.1, hm5, hm8, sp_X9_allTowns, hb_all (show hp_T p < 31 by omega), hb_k0, hb_k1, hb_k2, hb_k3, hb_k4, hb_k5, hb_k6]
  unfold hp_cnt at hk
  by_cases h0 : what = 0
  · simp only [h0, if_true] at hk ⊢
    exact hk
  simp only [h0, if_false] at hk ⊢
  by_cases h1 : what = 1
  · simp only [h1, if_true] at hk ⊢
    exact hk
  simp only [h1, if_false] at hk ⊢
  by_cases h2 : what = 2
  · simp only [h2, if_true] at hk ⊢
    refine hd_up (fun i ρ S2 => S2 = S0 ∧ ρ = [hd_vR 113, hd_vI 2, hd_vI (nI (fb_sm (hp_cr p) i)), hd_vI (nI i)]) (hp_T p) ?_ ?_ (Nat.zero_le _) ⟨rfl, rfl⟩
    · rintro i ρ S2 K hi ⟨rfl, rfl⟩ hK
      have e1 : S2.1 114 i = nI (hp_cr p i) := hm0.2.2.1 i (by omega)
      simp only [wc_X9_count_64, wb_X9_count_64, hd_mth, hd_rho0, hd_args, hd_wide, hq_sQ, hd_s0, hq_sI, hq_sJ, hd_sR, hd_sP, hd_sF, hd_sZ, hd_sG, hd_sA, hd_sL, hd_sB, hd_sO, hd_sN, hd_sD, hd_sW, hd_sE, hd_sRI, hd_sRZ, hd_sRJ, hd_sRR, hd_sRV, hd_sSw, hd_sw, hd_sCI, hd_sCL, hd_iK, hd_iL, hd_iU, hd_iB, hd_iD, hd_iJ, hd_iG, hd_iA, hd_iQ, hd_iC, hd_iN, hd_iE, hd_jK, hd_jL, hd_jU, hd_jB, hd_jD, hd_jH, hd_jI, hd_jA, hd_jQ, hd_jN, hd_rL, hd_rG, hd_rA, hd_rN, hd_cI, hd_c0, hd_cJ, hd_cX, hd_cA, hd_cO, hd_v0, hd_pI, hd_pJ, hd_pR, hd_nV, hd_nS, hd_get, hd_st, hd_stW, hd_cut, List.replicate, List.length_cons, List.length_nil, List.nil_append, List.cons_append, Nat.reduceAdd, Nat.reduceSub, Nat.reduceLeDiff, true_and, and_true, if_true, if_false, Bool.false_eq_true, List.append_nil, hs_o_0, hs_r_0_0, hs_t_0_0, hs_r_0_1, hs_t_0_1, hs_r_0_2, hs_t_0_2, hs_r_0_3, hs_t_0_3, hs_r_0_4, hs_t_0_4, hs_r_0_5, hs_t_0_5, hs_r_0_6, hs_t_0_6, hs_r_0_7, hs_t_0_7, hs_f_0_8, hs_o_1, hs_f_1_0, hs_f_1_1, hs_r_1_2, hs_t_1_2, hs_r_1_3, hs_t_1_3, hs_r_1_4, hs_t_1_4, hs_r_1_5, hs_t_1_5, hs_r_1_6, hs_t_1_6, hs_r_1_7, hs_t_1_7, hs_r_1_8, hs_t_1_8, hs_r_1_9, hs_t_1_9, hs_i_2, hs_i_3, hs_i_4, hs_i_5, hs_i_6, hs_i_7, hs_i_8, hs_i_9, hs_o_82, hs_r_82_0, hs_t_82_0, hs_f_82_1, hs_i_83, hs_o_84, hs_r_84_0, hs_t_84_0, hs_r_84_1, hs_t_84_1, hs_r_84_2, hs_t_84_2, hs_r_84_3, hs_t_84_3, hs_f_84_4, hs_i_85, hs_i_86, hs_i_87, hs_o_88, hs_r_88_0, hs_t_88_0, hs_r_88_1, hs_t_88_1, hs_r_88_2, hs_t_88_2, hs_r_88_3, hs_t_88_3, hs_r_88_4, hs_t_88_4, hs_r_88_5, hs_t_88_5, hs_r_88_6, hs_t_88_6, hs_r_88_7, hs_t_88_7, hs_f_88_8, hs_f_88_9, hs_i_89, hs_i_90, hs_i_91, hs_i_92, hs_i_93, hs_i_94, hs_i_95, hs_i_96, hs_i_97, hs_i_98, hs_i_99, hs_i_100, hs_i_101, hs_i_102, hs_o_103, hs_r_103_0, hs_t_103_0, hs_r_103_1, hs_t_103_1, hs_r_103_2, hs_t_103_2, hs_r_103_3, hs_t_103_3, hs_f_103_4, hs_i_104, hs_o_105, hs_r_105_0, hs_t_105_0, hs_r_105_1, hs_t_105_1, hs_r_105_2, hs_t_105_2, hs_i_106, hs_i_107, hs_o_108, hs_r_108_0, hs_t_108_0, hs_r_108_1, hs_t_108_1, hs_r_108_2, hs_t_108_2, hs_r_108_3, hs_t_108_3, hs_f_108_4, hs_i_109, hs_i_110, hs_o_111, hs_r_111_0, hs_t_111_0, hs_r_111_1, hs_t_111_1, hs_f_111_2, hs_f_111_3, hs_f_111_4, hs_i_112, hs_o_113, hs_f_113_0, hs_f_113_1, hs_f_113_2, hs_r_113_3, hs_t_113_3, hs_r_113_4, hs_t_113_4, hs_r_113_5, hs_t_113_5, hs_r_113_6, hs_t_113_6, hs_r_113_7, hs_t_113_7, hs_r_113_8, hs_t_113_8, hs_r_113_9, hs_t_113_9, hs_r_113_10, hs_t_113_10, hs_r_113_11, hs_t_113_11, hs_f_113_12, hs_f_113_13, hs_f_113_14, hs_r_113_15, hs_t_113_15, hs_f_113_16, hs_r_113_17, hs_t_113_17, hs_r_113_18, hs_t_113_18, hs_r_113_19, hs_t_113_19, hs_r_113_20, hs_t_113_20, hs_f_113_21, hs_f_113_22, hs_f_113_23, hs_r_113_24, hs_t_113_24, hs_f_113_25, hs_r_113_26, hs_t_113_26, hs_f_113_27, hs_i_114, hs_i_115, hs_i_116, hs_i_117, hs_i_118, hs_i_119, hs_i_120, hs_i_121, hs_i_122, hs_i_123, hs_i_124, hs_i_125, hs_i_126, hs_i_127, hs_i_128, hs_i_129, hm0.1, nI_ltI (show i < 2 ^ 31 by omega) (show hp_T p < 2 ^ 31 by omega), hi, decide_true, vp_in_nI (show i < 8 by omega) (show 8 < 2 ^ 31 by decide), hd_cc (show i < 2147483648 by omega), e1, nI_add, nI_1]
      exact hK _ _ ⟨rfl, rfl⟩
    · rintro ρ S2 K ⟨rfl, rfl⟩
      simp only [wc_X9_count_64, hd_mth, hd_rho0, hd_args, hd_wide, hq_sQ, hd_s0, hq_sI, hq_sJ, hd_sR, hd_sP, hd_sF, hd_sZ, hd_sG, hd_sA, hd_sL, hd_sB, hd_sO, hd_sN, hd_sD, hd_sW, hd_sE, hd_sRI, hd_sRZ, hd_sRJ, hd_sRR, hd_sRV, hd_sSw, hd_sw, hd_sCI, hd_sCL, hd_iK, hd_iL, hd_iU, hd_iB, hd_iD, hd_iJ, hd_iG, hd_iA, hd_iQ, hd_iC, hd_iN, hd_iE, hd_jK, hd_jL, hd_jU, hd_jB, hd_jD, hd_jH, hd_jI, hd_jA, hd_jQ, hd_jN, hd_rL, hd_rG, hd_rA, hd_rN, hd_cI, hd_c0, hd_cJ, hd_cX, hd_cA, hd_cO, hd_v0, hd_pI, hd_pJ, hd_pR, hd_nV, hd_nS, hd_get, hd_st, hd_stW, hd_cut, List.replicate, List.length_cons, List.length_nil, List.nil_append, List.cons_append, Nat.reduceAdd, Nat.reduceSub, Nat.reduceLeDiff, true_and, and_true, if_true, if_false, Bool.false_eq_true, List.append_nil, hs_o_0, hs_r_0_0, hs_t_0_0, hs_r_0_1, hs_t_0_1, hs_r_0_2, hs_t_0_2, hs_r_0_3, hs_t_0_3, hs_r_0_4, hs_t_0_4, hs_r_0_5, hs_t_0_5, hs_r_0_6, hs_t_0_6, hs_r_0_7, hs_t_0_7, hs_f_0_8, hs_o_1, hs_f_1_0, hs_f_1_1, hs_r_1_2, hs_t_1_2, hs_r_1_3, hs_t_1_3, hs_r_1_4, hs_t_1_4, hs_r_1_5, hs_t_1_5, hs_r_1_6, hs_t_1_6, hs_r_1_7, hs_t_1_7, hs_r_1_8, hs_t_1_8, hs_r_1_9, hs_t_1_9, hs_i_2, hs_i_3, hs_i_4, hs_i_5, hs_i_6, hs_i_7, hs_i_8, hs_i_9, hs_o_82, hs_r_82_0, hs_t_82_0, hs_f_82_1, hs_i_83, hs_o_84, hs_r_84_0, hs_t_84_0, hs_r_84_1, hs_t_84_1, hs_r_84_2, hs_t_84_2, hs_r_84_3, hs_t_84_3, hs_f_84_4, hs_i_85, hs_i_86, hs_i_87, hs_o_88, hs_r_88_0, hs_t_88_0, hs_r_88_1, hs_t_88_1, hs_r_88_2, hs_t_88_2, hs_r_88_3, hs_t_88_3, hs_r_88_4, hs_t_88_4, hs_r_88_5, hs_t_88_5, hs_r_88_6, hs_t_88_6, hs_r_88_7, hs_t_88_7, hs_f_88_8, hs_f_88_9, hs_i_89, hs_i_90, hs_i_91, hs_i_92, hs_i_93, hs_i_94, hs_i_95, hs_i_96, hs_i_97, hs_i_98, hs_i_99, hs_i_100, hs_i_101, hs_i_102, hs_o_103, hs_r_103_0, hs_t_103_0, hs_r_103_1, hs_t_103_1, hs_r_103_2, hs_t_103_2, hs_r_103_3, hs_t_103_3, hs_f_103_4, hs_i_104, hs_o_105, hs_r_105_0, hs_t_105_0, hs_r_105_1, hs_t_105_1, hs_r_105_2, hs_t_105_2, hs_i_106, hs_i_107, hs_o_108, hs_r_108_0, hs_t_108_0, hs_r_108_1, hs_t_108_1, hs_r_108_2, hs_t_108_2, hs_r_108_3, hs_t_108_3, hs_f_108_4, hs_i_109, hs_i_110, hs_o_111, hs_r_111_0, hs_t_111_0, hs_r_111_1, hs_t_111_1, hs_f_111_2, hs_f_111_3, hs_f_111_4, hs_i_112, hs_o_113, hs_f_113_0, hs_f_113_1, hs_f_113_2, hs_r_113_3, hs_t_113_3, hs_r_113_4, hs_t_113_4, hs_r_113_5, hs_t_113_5, hs_r_113_6, hs_t_113_6, hs_r_113_7, hs_t_113_7, hs_r_113_8, hs_t_113_8, hs_r_113_9, hs_t_113_9, hs_r_113_10, hs_t_113_10, hs_r_113_11, hs_t_113_11, hs_f_113_12, hs_f_113_13, hs_f_113_14, hs_r_113_15, hs_t_113_15, hs_f_113_16, hs_r_113_17, hs_t_113_17, hs_r_113_18, hs_t_113_18, hs_r_113_19, hs_t_113_19, hs_r_113_20, hs_t_113_20, hs_f_113_21, hs_f_113_22, hs_f_113_23, hs_r_113_24, hs_t_113_24, hs_f_113_25, hs_r_113_26, hs_t_113_26, hs_f_113_27, hs_i_114, hs_i_115, hs_i_116, hs_i_117, hs_i_118, hs_i_119, hs_i_120, hs_i_121, hs_i_122, hs_i_123, hs_i_124, hs_i_125, hs_i_126, hs_i_127, hs_i_128, hs_i_129, hm0.1, Int32.lt_irrefl, decide_false]
      exact hk
  simp only [h2, if_false] at hk ⊢
  by_cases h3 : what = 3
  · simp only [h3, if_true] at hk ⊢
    refine hd_up (fun i ρ S2 => S2 = S0 ∧ ρ = [hd_vR 113, hd_vI 3, hd_vI (nI (hp_sc p i)), hd_vI (nI i)]) (hp_H p) ?_ ?_ (Nat.zero_le _) ⟨rfl, rfl⟩
    · rintro i ρ S2 K hi ⟨rfl, rfl⟩ hK
      have e1 : S2.1 119 i = Int32.ofInt (hp_wd p i) := hm0.2.2.2.2.2.2.2.1 i (by omega)
      simp only [wc_X9_count_91, wb_X9_count_91, hd_mth, hd_rho0, hd_args, hd_wide, hq_sQ, hd_s0, hq_sI, hq_sJ, hd_sR, hd_sP, hd_sF, hd_sZ, hd_sG, hd_sA, hd_sL, hd_sB, hd_sO, hd_sN, hd_sD, hd_sW, hd_sE, hd_sRI, hd_sRZ, hd_sRJ, hd_sRR, hd_sRV, hd_sSw, hd_sw, hd_sCI, hd_sCL, hd_iK, hd_iL, hd_iU, hd_iB, hd_iD, hd_iJ, hd_iG, hd_iA, hd_iQ, hd_iC, hd_iN, hd_iE, hd_jK, hd_jL, hd_jU, hd_jB, hd_jD, hd_jH, hd_jI, hd_jA, hd_jQ, hd_jN, hd_rL, hd_rG, hd_rA, hd_rN, hd_cI, hd_c0, hd_cJ, hd_cX, hd_cA, hd_cO, hd_v0, hd_pI, hd_pJ, hd_pR, hd_nV, hd_nS, hd_get, hd_st, hd_stW, hd_cut, List.replicate, List.length_cons, List.length_nil, List.nil_append, List.cons_append, Nat.reduceAdd, Nat.reduceSub, Nat.reduceLeDiff, true_and, and_true, if_true, if_false, Bool.false_eq_true, List.append_nil, hs_o_0, hs_r_0_0, hs_t_0_0, hs_r_0_1, hs_t_0_1, hs_r_0_2, hs_t_0_2, hs_r_0_3, hs_t_0_3, hs_r_0_4, hs_t_0_4, hs_r_0_5, hs_t_0_5, hs_r_0_6, hs_t_0_6, hs_r_0_7, hs_t_0_7, hs_f_0_8, hs_o_1, hs_f_1_0, hs_f_1_1, hs_r_1_2, hs_t_1_2, hs_r_1_3, hs_t_1_3, hs_r_1_4, hs_t_1_4, hs_r_1_5, hs_t_1_5, hs_r_1_6, hs_t_1_6, hs_r_1_7, hs_t_1_7, hs_r_1_8, hs_t_1_8, hs_r_1_9, hs_t_1_9, hs_i_2, hs_i_3, hs_i_4, hs_i_5, hs_i_6, hs_i_7, hs_i_8, hs_i_9, hs_o_82, hs_r_82_0, hs_t_82_0, hs_f_82_1, hs_i_83, hs_o_84, hs_r_84_0, hs_t_84_0, hs_r_84_1, hs_t_84_1, hs_r_84_2, hs_t_84_2, hs_r_84_3, hs_t_84_3, hs_f_84_4, hs_i_85, hs_i_86, hs_i_87, hs_o_88, hs_r_88_0, hs_t_88_0, hs_r_88_1, hs_t_88_1, hs_r_88_2, hs_t_88_2, hs_r_88_3, hs_t_88_3, hs_r_88_4, hs_t_88_4, hs_r_88_5, hs_t_88_5, hs_r_88_6, hs_t_88_6, hs_r_88_7, hs_t_88_7, hs_f_88_8, hs_f_88_9, hs_i_89, hs_i_90, hs_i_91, hs_i_92, hs_i_93, hs_i_94, hs_i_95, hs_i_96, hs_i_97, hs_i_98, hs_i_99, hs_i_100, hs_i_101, hs_i_102, hs_o_103, hs_r_103_0, hs_t_103_0, hs_r_103_1, hs_t_103_1, hs_r_103_2, hs_t_103_2, hs_r_103_3, hs_t_103_3, hs_f_103_4, hs_i_104, hs_o_105, hs_r_105_0, hs_t_105_0, hs_r_105_1, hs_t_105_1, hs_r_105_2, hs_t_105_2, hs_i_106, hs_i_107, hs_o_108, hs_r_108_0, hs_t_108_0, hs_r_108_1, hs_t_108_1, hs_r_108_2, hs_t_108_2, hs_r_108_3, hs_t_108_3, hs_f_108_4, hs_i_109, hs_i_110, hs_o_111, hs_r_111_0, hs_t_111_0, hs_r_111_1, hs_t_111_1, hs_f_111_2, hs_f_111_3, hs_f_111_4, hs_i_112, hs_o_113, hs_f_113_0, hs_f_113_1, hs_f_113_2, hs_r_113_3, hs_t_113_3, hs_r_113_4, hs_t_113_4, hs_r_113_5, hs_t_113_5, hs_r_113_6, hs_t_113_6, hs_r_113_7, hs_t_113_7, hs_r_113_8, hs_t_113_8, hs_r_113_9, hs_t_113_9, hs_r_113_10, hs_t_113_10, hs_r_113_11, hs_t_113_11, hs_f_113_12, hs_f_113_13, hs_f_113_14, hs_r_113_15, hs_t_113_15, hs_f_113_16, hs_r_113_17, hs_t_113_17, hs_r_113_18, hs_t_113_18, hs_r_113_19, hs_t_113_19, hs_r_113_20, hs_t_113_20, hs_f_113_21, hs_f_113_22, hs_f_113_23, hs_r_113_24, hs_t_113_24, hs_f_113_25, hs_r_113_26, hs_t_113_26, hs_f_113_27, hs_i_114, hs_i_115, hs_i_116, hs_i_117, hs_i_118, hs_i_119, hs_i_120, hs_i_121, hs_i_122, hs_i_123, hs_i_124, hs_i_125, hs_i_126, hs_i_127, hs_i_128, hs_i_129, hm0.2.1, nI_ltI (show i < 2 ^ 31 by omega) (show hp_H p < 2 ^ 31 by omega), hi, decide_true, vp_in_nI (show i < 7 by omega) (show 7 < 2 ^ 31 by decide), hd_cc (show i < 2147483648 by omega), e1, hp_wd1 (hok.2.2.2.2.2.2.2.2.1 i), hd_dn1, decide_eq_true_eq, nI_1]
      have e2 : hp_sc p (i + 1) = hp_sc p i + (if hp_wd p i = -1 then 0 else 1) := by
        unfold hp_sc
        rw [fb_ct_succ]
        by_cases h : hp_wd p i = -1 <;> simp [h]
      by_cases h : hp_wd p i = -1
      · rw [if_pos h] at e2
        simp only [h, not_true, if_false]
        refine hK _ _ ⟨rfl, ?_⟩
        rw [e2]
        simp
      · rw [if_neg h] at e2
        simp only [h, not_false_iff, if_true, nI_1]
        exact hK _ _ ⟨rfl, by rw [e2]⟩
    · rintro ρ S2 K ⟨rfl, rfl⟩
      simp only [wc_X9_count_91, hd_mth, hd_rho0, hd_args, hd_wide, hq_sQ, hd_s0, hq_sI, hq_sJ, hd_sR, hd_sP, hd_sF, hd_sZ, hd_sG, hd_sA, hd_sL, hd_sB, hd_sO, hd_sN, hd_sD, hd_sW, hd_sE, hd_sRI, hd_sRZ, hd_sRJ, hd_sRR, hd_sRV, hd_sSw, hd_sw, hd_sCI, hd_sCL, hd_iK, hd_iL, hd_iU, hd_iB, hd_iD, hd_iJ, hd_iG, hd_iA, hd_iQ, hd_iC, hd_iN, hd_iE, hd_jK, hd_jL, hd_jU, hd_jB, hd_jD, hd_jH, hd_jI, hd_jA, hd_jQ, hd_jN, hd_rL, hd_rG, hd_rA, hd_rN, hd_cI, hd_c0, hd_cJ, hd_cX, hd_cA, hd_cO, hd_v0, hd_pI, hd_pJ, hd_pR, hd_nV, hd_nS, hd_get, hd_st, hd_stW, hd_cut, List.replicate, List.length_cons, List.length_nil, List.nil_append, List.cons_append, Nat.reduceAdd, Nat.reduceSub, Nat.reduceLeDiff, true_and, and_true, if_true, if_false, Bool.false_eq_true, List.append_nil, hs_o_0, hs_r_0_0, hs_t_0_0, hs_r_0_1, hs_t_0_1, hs_r_0_2, hs_t_0_2, hs_r_0_3, hs_t_0_3, hs_r_0_4, hs_t_0_4, hs_r_0_5, hs_t_0_5, hs_r_0_6, hs_t_0_6, hs_r_0_7, hs_t_0_7, hs_f_0_8, hs_o_1, hs_f_1_0, hs_f_1_1, hs_r_1_2, hs_t_1_2, hs_r_1_3, hs_t_1_3, hs_r_1_4, hs_t_1_4, hs_r_1_5, hs_t_1_5, hs_r_1_6, hs_t_1_6, hs_r_1_7, hs_t_1_7, hs_r_1_8, hs_t_1_8, hs_r_1_9, hs_t_1_9, hs_i_2, hs_i_3, hs_i_4, hs_i_5, hs_i_6, hs_i_7, hs_i_8, hs_i_9, hs_o_82, hs_r_82_0, hs_t_82_0, hs_f_82_1, hs_i_83, hs_o_84, hs_r_84_0, hs_t_84_0, hs_r_84_1, hs_t_84_1, hs_r_84_2, hs_t_84_2, hs_r_84_3, hs_t_84_3, hs_f_84_4, hs_i_85, hs_i_86, hs_i_87, hs_o_88, hs_r_88_0, hs_t_88_0, hs_r_88_1, hs_t_88_1, hs_r_88_2, hs_t_88_2, hs_r_88_3, hs_t_88_3, hs_r_88_4, hs_t_88_4, hs_r_88_5, hs_t_88_5, hs_r_88_6, hs_t_88_6, hs_r_88_7, hs_t_88_7, hs_f_88_8, hs_f_88_9, hs_i_89, hs_i_90, hs_i_91, hs_i_92, hs_i_93, hs_i_94, hs_i_95, hs_i_96, hs_i_97, hs_i_98, hs_i_99, hs_i_100, hs_i_101, hs_i_102, hs_o_103, hs_r_103_0, hs_t_103_0, hs_r_103_1, hs_t_103_1, hs_r_103_2, hs_t_103_2, hs_r_103_3, hs_t_103_3, hs_f_103_4, hs_i_104, hs_o_105, hs_r_105_0, hs_t_105_0, hs_r_105_1, hs_t_105_1, hs_r_105_2, hs_t_105_2, hs_i_106, hs_i_107, hs_o_108, hs_r_108_0, hs_t_108_0, hs_r_108_1, hs_t_108_1, hs_r_108_2, hs_t_108_2, hs_r_108_3, hs_t_108_3, hs_f_108_4, hs_i_109, hs_i_110, hs_o_111, hs_r_111_0, hs_t_111_0, hs_r_111_1, hs_t_111_1, hs_f_111_2, hs_f_111_3, hs_f_111_4, hs_i_112, hs_o_113, hs_f_113_0, hs_f_113_1, hs_f_113_2, hs_r_113_3, hs_t_113_3, hs_r_113_4, hs_t_113_4, hs_r_113_5, hs_t_113_5, hs_r_113_6, hs_t_113_6, hs_r_113_7, hs_t_113_7, hs_r_113_8, hs_t_113_8, hs_r_113_9, hs_t_113_9, hs_r_113_10, hs_t_113_10, hs_r_113_11, hs_t_113_11, hs_f_113_12, hs_f_113_13, hs_f_113_14, hs_r_113_15, hs_t_113_15, hs_f_113_16, hs_r_113_17, hs_t_113_17, hs_r_113_18, hs_t_113_18, hs_r_113_19, hs_t_113_19, hs_r_113_20, hs_t_113_20, hs_f_113_21, hs_f_113_22, hs_f_113_23, hs_r_113_24, hs_t_113_24, hs_f_113_25, hs_r_113_26, hs_t_113_26, hs_f_113_27, hs_i_114, hs_i_115, hs_i_116, hs_i_117, hs_i_118, hs_i_119, hs_i_120, hs_i_121, hs_i_122, hs_i_123, hs_i_124, hs_i_125, hs_i_126, hs_i_127, hs_i_128, hs_i_129, hm0.2.1, Int32.lt_irrefl, decide_false]
      exact hk
  simp only [h3, if_false] at hk ⊢
  by_cases h4 : what = 4
  · simp only [h4, if_true] at hk ⊢
    exact sp_X9_sizeOf hand (by omega) _ _ hk
  simp only [h4, if_false] at hk ⊢
  by_cases h5 : what = 5
  · simp only [h5, if_true] at hk ⊢
    exact hk
  simp only [h5, if_false] at hk ⊢
  by_cases h6 : what = 6
  · simp only [h6, if_true] at hk ⊢
    exact sp_X9_together hT hm0.1 hI0.2.2.2.2.1 (show 2 ^ hp_T p - 1 < 2 ^ 31 by omega) _ hk
  simp only [h6, if_false] at hk ⊢
  exact hk
