/-! copies: the class -/
/-- m places from a on are on a sheet of length l -/
def hp_in (l : Nat) (f m : Int32) : Prop := ∃ a k : Nat, f = nI a ∧ m = nI k ∧ a + k ≤ l
theorem hp_in_iff {l : Nat} (hl : l ≤ 8) (f m : Int32) : hp_in l f m ↔ (0 ≤ f ∧ 0 ≤ m ∧ m ≤ nI l - f) := by
  have hz : (0 : Int32).toInt = 0 := by decide
  constructor
  · rintro ⟨a, k, rfl, rfl, h⟩
    refine ⟨hb_0le (by omega), hb_0le (by omega), ?_⟩
    rw [pk_sub (by omega), hb_le (by omega) (by omega)]
    omega
  · rintro ⟨h1, h2, h3⟩
    rw [Int32.le_iff_toInt_le] at h1 h2 h3
    rw [hz] at h1 h2
    have r1 := fb_rng f
    have el : (nI l).toInt = (l : Int) := nI_toInt (by omega)
    rw [fb_subI (by rw [el]; omega) (by rw [el]; omega), el] at h3
    refine ⟨f.toInt.toNat, m.toInt.toNat, ?_, ?_, by omega⟩
    · rw [← Int32.toInt_inj, nI_toInt (by omega)]
      omega
    · rw [← Int32.toInt_inj, nI_toInt (by omega)]
      omega
set_option maxHeartbeats 2000000 in
theorem sx_hasPlaces {S : hd_S} {p : hp_P} (hok : hp_ok p) (hx : hx_P 1 S p) {h : Nat} (hh : h < 7) (f m : Int32) (post : Option hd_V → hd_S → Prop) (hk1 : hp_in (hp_ln p h) f m → post (some (hd_vI 1)) S) (hk0 : ¬ hp_in (hp_ln p h) f m → post (some (hd_vI 0)) S) : wm_X5_hasPlaces [hd_vR 1, hd_vI (nI h), hd_vI f, hd_vI m] S post := by
  have hl := hok.2.2.2.2.2.2.2.2.2.1 h
  rw [hp_in_iff hl] at hk1 hk0
  simp only [wm_X5_hasPlaces, wo_X5_hasPlaces, hd_mth, hd_rho0, hd_args, hd_wide, hd_sQ, hd_s0, hd_sI, hd_sJ, hd_sR, hd_sP, hd_sF, hd_sZ, hd_sG, hd_sA, hd_sL, hd_sB, hd_sO, hd_sN, hd_sD, hd_sW, hd_sE, hd_sRI, hd_sRZ, hd_sRJ, hd_sRR, hd_sRV, hd_sSw, hd_sw, hd_sCI, hd_sCL, hd_iK, hd_iL, hd_iU, hd_iB, hd_iD, hd_iJ, hd_iG, hd_iA, hd_iQ, hd_iC, hd_iN, hd_iE, hd_jK, hd_jL, hd_jU, hd_jB, hd_jD, hd_jH, hd_jI, hd_jA, hd_jQ, hd_jN, hd_rL, hd_rG, hd_rA, hd_rN, hd_cI, hd_c0, hd_cJ, hd_cX, hd_cA, hd_cO, hd_v0, hd_pI, hd_pJ, hd_pR, hd_nV, hd_nS, hd_get, hd_st, hd_stW, hd_cut, List.replicate, List.length_cons, List.length_nil, List.nil_append, List.cons_append, Nat.reduceAdd, Nat.reduceSub, Nat.reduceLeDiff, true_and, and_true, if_true, if_false, Bool.false_eq_true, List.append_nil, hs_o_0, hs_r_0_0, hs_t_0_0, hs_r_0_1, hs_t_0_1, hs_r_0_2, hs_t_0_2, hs_r_0_3, hs_t_0_3, hs_r_0_4, hs_t_0_4, hs_r_0_5, hs_t_0_5, hs_r_0_6, hs_t_0_6, hs_r_0_7, hs_t_0_7, hs_f_0_8, hs_o_1, hs_f_1_0, hs_f_1_1, hs_r_1_2, hs_t_1_2, hs_r_1_3, hs_t_1_3, hs_r_1_4, hs_t_1_4, hs_r_1_5, hs_t_1_5, hs_r_1_6, hs_t_1_6, hs_r_1_7, hs_t_1_7, hs_r_1_8, hs_t_1_8, hs_r_1_9, hs_t_1_9, hs_i_2, hs_i_3, hs_i_4, hs_i_5, hs_i_6, hs_i_7, hs_i_8, hs_i_9, hs_o_82, hs_r_82_0, hs_t_82_0, hs_f_82_1, hs_i_83, hs_o_84, hs_r_84_0, hs_t_84_0, hs_r_84_1, hs_t_84_1, hs_r_84_2, hs_t_84_2, hs_r_84_3, hs_t_84_3, hs_f_84_4, hs_i_85, hs_i_86, hs_i_87, hs_o_88, hs_r_88_0, hs_t_88_0, hs_r_88_1, hs_t_88_1, hs_r_88_2, hs_t_88_2, hs_r_88_3, hs_t_88_3, hs_r_88_4, hs_t_88_4, hs_r_88_5, hs_t_88_5, hs_r_88_6, hs_t_88_6, hs_r_88_7, hs_t_88_7, hs_f_88_8, hs_f_88_9, hs_i_89, hs_i_90, hs_i_91, hs_i_92, hs_i_93, hs_i_94, hs_i_95, hs_i_96, hs_i_97, hs_i_98, hs_i_99, hs_i_100, hs_i_101, hs_i_102, hs_o_103, hs_r_103_0, hs_t_103_0, hs_r_103_1, hs_t_103_1, hs_r_103_2, hs_t_103_2, hs_r_103_3, hs_t_103_3, hs_f_103_4, hs_i_104, hs_o_105, hs_r_105_0, hs_t_105_0, hs_r_105_1, hs_t_105_1, hs_r_105_2, hs_t_105_2, hs_i_106, hs_i_107, hs_o_108, hs_r_108_0, hs_t_108_0, hs_r_108_1, hs_t_108_1, hs_r_108_2, hs_t_108_2, hs_r_108_3, hs_t_108_3, hs_f_108_4, hs_i_109, hs_i_110, hs_o_111, hs_r_111_0, hs_t_111_0, hs_r_111_1, hs_t_111_1, hs_f_111_2, hs_f_111_3, hs_f_111_4, hs_i_112, hs_o_113, hs_f_113_0, hs_f_113_1, hs_f_113_2, hs_r_113_3, hs_t_113_3, hs_r_113_4, hs_t_113_4, hs_r_113_5, hs_t_113_5, hs_r_113_6, hs_t_113_6, hs_r_113_7, hs_t_113_7, hs_r_113_8, hs_t_113_8, hs_r_113_9, hs_t_113_9, hs_r_113_10, hs_t_113_10, hs_r_113_11, hs_t_113_11, hs_f_113_12, hs_f_113_13, hs_f_113_14, hs_r_113_15, hs_t_113_15, hs_f_113_16, hs_r_113_17, hs_t_113_17, hs_r_113_18, hs_t_113_18, hs_r_113_19, hs_t_113_19, hs_r_113_20, hs_t_113_20, hs_f_113_21, hs_f_113_22, hs_f_113_23, hs_r_113_24, hs_t_113_24, hs_f_113_25, hs_r_113_26, hs_t_113_26, hs_f_113_27, hs_i_114, hs_i_115, hs_i_116, hs_i_117, hs_i_118, hs_i_119, hs_i_120, hs_i_121, hs_i_122, hs_i_123, hs_i_124, hs_i_125, hs_i_126, hs_i_127, hs_i_128, hs_i_129, vp_in_nI (show h < 7 by omega) (show 7 < 2 ^ 31 by decide), hd_cc (show h < 2147483648 by omega), hp_lnm hx hh, decide_eq_true_eq]
  by_cases h1 : 0 ≤ f
  · by_cases h2 : 0 ≤ m
    · by_cases h3 : m ≤ nI (hp_ln p h) - f
      · simp only [h1, h2, h3, if_true, decide_true]
        exact ⟨Or.inr trivial, hk1 ⟨h1, h2, h3⟩⟩
      · simp only [h1, h2, h3, if_true, if_false, decide_false, Bool.false_eq_true]
        exact ⟨Or.inl trivial, hk0 (fun r => h3 r.2.2)⟩
    · simp only [h1, h2, if_true, if_false, decide_false, Bool.false_eq_true]
      exact ⟨Or.inl trivial, hk0 (fun r => h2 r.2.1)⟩
  · simp only [h1, if_false, decide_false, Bool.false_eq_true]
    exact ⟨Or.inl trivial, hk0 (fun r => h1 r.1)⟩
def hp_copy (p : hp_P) (h a t b m : Nat) : hp_P := (p.1, p.2.1, p.2.2.1, p.2.2.2.1, p.2.2.2.2.1, p.2.2.2.2.2.1, p.2.2.2.2.2.2.1, p.2.2.2.2.2.2.2.1, p.2.2.2.2.2.2.2.2.1, hp_rep p.2.2.2.2.2.2.2.2.2 t (fun i => if b ≤ i ∧ i < b + m then p.2.2.2.2.2.2.2.2.2 h (a + (i - b)) else p.2.2.2.2.2.2.2.2.2 t i))
theorem hp_ok_copy {p : hp_P} (o : hp_ok p) {h a t b m : Nat} (hh : h < hp_H p) (hw : hp_wd p h ≠ -1) (hwt : hp_wd p t ≠ -1) (ha : a + m ≤ hp_ln p h) (hb : b + m ≤ hp_ln p t) : hp_ok (hp_copy p h a t b m) := by
  obtain ⟨o1, o2, o3, o4, o5, o6, o7, o8, o9, o10, o11⟩ := o
  refine ⟨o1, o2, o3, o4, o5, o6, o7, o8, o9, o10, fun c hc s hs => ?_⟩
  show (hp_wd p c ≠ -1 ∧ s < hp_ln p c → hp_rep (hp_wy p) t (fun i => if b ≤ i ∧ i < b + m then hp_wy p h (a + (i - b)) else hp_wy p t i) c s ≤ 1000) ∧ (¬ (hp_wd p c ≠ -1 ∧ s < hp_ln p c) → hp_rep (hp_wy p) t (fun i => if b ≤ i ∧ i < b + m then hp_wy p h (a + (i - b)) else hp_wy p t i) c s = 1000000)
  have h9 := o11 c hc s hs
  unfold hp_rep
  by_cases hct : c = t
  · subst hct
    simp only [if_true]
    by_cases hi : b ≤ s ∧ s < b + m
    · simp only [hi, and_self, if_true]
      have l1 := o10 h
      refine ⟨fun _ => (o11 h hh (a + (s - b)) (by omega)).1 ⟨hw, by omega⟩, fun r => ?_⟩
      exact absurd ⟨hwt, show s < hp_ln p c by omega⟩ r
    · simp only [hi, if_false]
      exact h9
  · simp only [hct, if_false]
    exact h9
set_option maxHeartbeats 4000000 in
theorem sx_copy {S : hd_S} {p : hp_P} {n : Nat} {q : Nat → hp_P} {hand : Nat} {cl : Nat → Nat} (hI : hx_I S p n q hand cl) (hall fr to at_ m : Int32) (post : Option hd_V → hd_S → Prop)
    (hk1 : ∀ h a t b k, h < hp_H p → hall = nI h → t < hp_H p → to = nI t → hp_wd p h ≠ -1 → hp_wd p t ≠ -1 → hp_wd p h = hp_wd p t → fr = nI a → at_ = nI b → m = nI k → a + k ≤ hp_ln p h → b + k ≤ hp_ln p t → ∀ S2, hx_I S2 (hp_copy p h a t b k) (hp_kn n) (hp_kq n q p) hand cl → hx_fr S S2 → post (some (hd_vI m)) S2)
    (hk2 : ¬ ((0 ≤ hall ∧ hall < nI (hp_H p)) ∧ (0 ≤ to ∧ to < nI (hp_H p))) → post (some (hd_vI (-3))) S)
    (hk3 : ∀ h t, h < hp_H p → hall = nI h → t < hp_H p → to = nI t → (hp_wd p h = -1 ∨ hp_wd p t = -1) → post (some (hd_vI (-11))) S)
    (hk4 : ∀ h t, h < hp_H p → hall = nI h → t < hp_H p → to = nI t → hp_wd p h ≠ -1 → hp_wd p t ≠ -1 → hp_wd p h ≠ hp_wd p t → post (some (hd_vI (-4))) S)
    (hk5 : ∀ h t, h < hp_H p → hall = nI h → t < hp_H p → to = nI t → hp_wd p h ≠ -1 → hp_wd p t ≠ -1 → hp_wd p h = hp_wd p t → ¬ (hp_in (hp_ln p h) fr m ∧ hp_in (hp_ln p t) at_ m) → post (some (hd_vI (-13))) S) : wm_X8_copy [hd_vR 0, hd_vI hall, hd_vI fr, hd_vI to, hd_vI at_, hd_vI m] S post := by
  have hok := hI.1.1
  have hx := hI.2.1
  have hH : hp_H p ≤ 7 := hok.2.1
  have hx1 : S.1 1 1 = nI (hp_H p) := hx.2.1
  simp only [wm_X8_copy, wo_X8_copy, hd_mth, hd_rho0, hd_args, hd_wide, hq_sQ, hd_s0, hq_sI, hq_sJ, hd_sR, hd_sP, hd_sF, hd_sZ, hd_sG, hd_sA, hd_sL, hd_sB, hd_sO, hd_sN, hd_sD, hd_sW, hd_sE, hd_sRI, hd_sRZ, hd_sRJ, hd_sRR, hd_sRV, hd_sSw, hd_sw, hd_sCI, hd_sCL, hd_iK, hd_iL, hd_iU, hd_iB, hd_iD, hd_iJ, hd_iG, hd_iA, hd_iQ, hd_iC, hd_iN, hd_iE, hd_jK, hd_jL, hd_jU, hd_jB, hd_jD, hd_jH, hd_jI, hd_jA, hd_jQ, hd_jN, hd_rL, hd_rG, hd_rA, hd_rN, hd_cI, hd_c0, hd_cJ, hd_cX, hd_cA, hd_cO, hd_v0, hd_pI, hd_pJ, hd_pR, hd_nV, hd_nS, hd_get, hd_st, hd_stW, hd_cut, List.replicate, List.length_cons, List.length_nil, List.nil_append, List.cons_append, Nat.reduceAdd, Nat.reduceSub, Nat.reduceLeDiff, true_and, and_true, if_true, if_false, Bool.false_eq_true, List.append_nil, hs_o_0, hs_r_0_0, hs_t_0_0, hs_r_0_1, hs_t_0_1, hs_r_0_2, hs_t_0_2, hs_r_0_3, hs_t_0_3, hs_r_0_4, hs_t_0_4, hs_r_0_5, hs_t_0_5, hs_r_0_6, hs_t_0_6, hs_r_0_7, hs_t_0_7, hs_f_0_8, hs_o_1, hs_f_1_0, hs_f_1_1, hs_r_1_2, hs_t_1_2, hs_r_1_3, hs_t_1_3, hs_r_1_4, hs_t_1_4, hs_r_1_5, hs_t_1_5, hs_r_1_6, hs_t_1_6, hs_r_1_7, hs_t_1_7, hs_r_1_8, hs_t_1_8, hs_r_1_9, hs_t_1_9, hs_i_2, hs_i_3, hs_i_4, hs_i_5, hs_i_6, hs_i_7, hs_i_8, hs_i_9, hs_o_82, hs_r_82_0, hs_t_82_0, hs_f_82_1, hs_i_83, hs_o_84, hs_r_84_0, hs_t_84_0, hs_r_84_1, hs_t_84_1, hs_r_84_2, hs_t_84_2, hs_r_84_3, hs_t_84_3, hs_f_84_4, hs_i_85, hs_i_86, hs_i_87, hs_o_88, hs_r_88_0, hs_t_88_0, hs_r_88_1, hs_t_88_1, hs_r_88_2, hs_t_88_2, hs_r_88_3, hs_t_88_3, hs_r_88_4, hs_t_88_4, hs_r_88_5, hs_t_88_5, hs_r_88_6, hs_t_88_6, hs_r_88_7, hs_t_88_7, hs_f_88_8, hs_f_88_9, hs_i_89, hs_i_90, hs_i_91, hs_i_92, hs_i_93, hs_i_94, hs_i_95, hs_i_96, hs_i_97, hs_i_98, hs_i_99, hs_i_100, hs_i_101, hs_i_102, hs_o_103, hs_r_103_0, hs_t_103_0, hs_r_103_1, hs_t_103_1, hs_r_103_2, hs_t_103_2, hs_r_103_3, hs_t_103_3, hs_f_103_4, hs_i_104, hs_o_105, hs_r_105_0, hs_t_105_0, hs_r_105_1, hs_t_105_1, hs_r_105_2, hs_t_105_2, hs_i_106, hs_i_107, hs_o_108, hs_r_108_0, hs_t_108_0, hs_r_108_1, hs_t_108_1, hs_r_108_2, hs_t_108_2, hs_r_108_3, hs_t_108_3, hs_f_108_4, hs_i_109, hs_i_110, hs_o_111, hs_r_111_0, hs_t_111_0, hs_r_111_1, hs_t_111_1, hs_f_111_2, hs_f_111_3, hs_f_111_4, hs_i_112, hs_o_113, hs_f_113_0, hs_f_113_1, hs_f_113_2, hs_r_113_3, hs_t_113_3, hs_r_113_4, hs_t_113_4, hs_r_113_5, hs_t_113_5, hs_r_113_6, hs_t_113_6, hs_r_113_7, hs_t_113_7, hs_r_113_8, hs_t_113_8, hs_r_113_9, hs_t_113_9, hs_r_113_10, hs_t_113_10, hs_r_113_11, hs_t_113_11, hs_f_113_12, hs_f_113_13, hs_f_113_14, hs_r_113_15, hs_t_113_15, hs_f_113_16, hs_r_113_17, hs_t_113_17, hs_r_113_18, hs_t_113_18, hs_r_113_19, hs_t_113_19, hs_r_113_20, hs_t_113_20, hs_f_113_21, hs_f_113_22, hs_f_113_23, hs_r_113_24, hs_t_113_24, hs_f_113_25, hs_r_113_26, hs_t_113_26, hs_f_113_27, hs_i_114, hs_i_115, hs_i_116, hs_i_117, hs_i_118, hs_i_119, hs_i_120, hs_i_121, hs_i_122, hs_i_123, hs_i_124, hs_i_125, hs_i_126, hs_i_127, hs_i_128, hs_i_129, sp_X5_hasHall, hx1, hd_t01, hd_dn1, decide_eq_true_eq]
  by_cases h1 : 0 ≤ hall ∧ hall < nI (hp_H p)
  · by_cases h2 : 0 ≤ to ∧ to < nI (hp_H p)
    · obtain ⟨h, hh, rfl⟩ := hb_rng2 (show hp_H p < 2 ^ 31 by omega) h1.1 h1.2
      obtain ⟨t, ht, rfl⟩ := hb_rng2 (show hp_H p < 2 ^ 31 by omega) h2.1 h2.2
      have hwh : S.1 7 h = Int32.ofInt (hp_wd p h) := hx.2.2.2.2.2.2.2.1 h (by omega)
      have hwt : S.1 7 t = Int32.ofInt (hp_wd p t) := hx.2.2.2.2.2.2.2.1 t (by omega)
      have o9 := hok.2.2.2.2.2.2.2.2.1
      have l1 := hok.2.2.2.2.2.2.2.2.2.1 h
      have l2 := hok.2.2.2.2.2.2.2.2.2.1 t
      have ew : (Int32.ofInt (hp_wd p h) = Int32.ofInt (hp_wd p t)) ↔ hp_wd p h = hp_wd p t := by
        have := o9 h
        have := o9 t
        rw [← Int32.toInt_inj, fb_ofI (by omega) (by omega), fb_ofI (by omega) (by omega)]
      simp only [h1, h2, and_self, if_true, show ¬ ((1 : Int32) = 0) by decide, not_false_iff, not_true, if_false, sx_isMissing hok hx (show h < 7 by omega), sx_isMissing hok hx (show t < 7 by omega), hd_t01, hd_dn1, decide_eq_true_eq]
      by_cases w1 : hp_wd p h = -1
      · simp only [w1, if_true, show ¬ ((1 : Int32) = 0) by decide, not_false_iff]
        exact hk3 h t hh rfl ht rfl (Or.inl w1)
      · by_cases w2 : hp_wd p t = -1
        · simp only [w1, w2, if_true, if_false, show ¬ ((1 : Int32) = 0) by decide, not_false_iff, not_true]
          exact hk3 h t hh rfl ht rfl (Or.inr w2)
        · simp only [w1, w2, if_false, not_true, vp_in_nI (show h < 7 by omega) (show 7 < 2 ^ 31 by decide), hd_cc (show h < 2147483648 by omega), vp_in_nI (show t < 7 by omega) (show 7 < 2 ^ 31 by decide), hd_cc (show t < 2147483648 by omega), hwh, hwt, ew, true_and]
          by_cases w3 : hp_wd p h = hp_wd p t
          · simp only [w3, not_true, if_false]
            have no : ¬ (hp_in (hp_ln p h) fr m ∧ hp_in (hp_ln p t) at_ m) → post (some (hd_vI (-13))) S := fun r => hk5 h t hh rfl ht rfl w1 w2 w3 r
            refine sx_hasPlaces hok hx (show h < 7 by omega) fr m _ (fun q1 => ?_) (fun q1 => ?_)
            · simp only [show ¬ ((1 : Int32) = 0) by decide, decide_false, Bool.not_false, Bool.not_true, Bool.false_eq_true, if_false, not_true, not_false_iff]
              refine sx_hasPlaces hok hx (show t < 7 by omega) at_ m _ (fun q2 => ?_) (fun q2 => ?_)
              · simp only [show ¬ ((1 : Int32) = 0) by decide, decide_false, Bool.not_false, Bool.not_true, Bool.false_eq_true, if_false, not_true, not_false_iff]
                obtain ⟨a, k, rfl, rfl, hak⟩ := q1
                obtain ⟨b, k2, rfl, hk9, hbk⟩ := q2
                have ek : k2 = k := by
                  have := (nI_eq (show k < 2 ^ 31 by omega) (show k2 < 2 ^ 31 by omega)).mp hk9
                  exact this.symm
                subst ek
                refine sx_keepForUndo hH hx hI.2.2.1 _ (fun S1 hkf hpa => ?_)
                have hxk := hx_kf_P hkf hx
                simp only [true_and, hd_lit8, pk_mul, nI_add]
                have g0 : ∀ z : Nat, z < 2 ^ 31 → ¬ (nI z < 0) := fun z hz r => by
                  rw [Int32.lt_iff_toInt_lt, nI_toInt hz] at r
                  have : (0 : Int32).toInt = 0 := by decide
                  omega
                refine ⟨⟨56, 56, hs_9, hs_9, g0 _ (by omega), g0 _ (by omega), g0 _ (by omega), ?_, ?_⟩, ?_⟩
                · rw [hd_cc (by omega), hd_cc (by omega)]
                  omega
                · rw [hd_cc (by omega), hd_cc (by omega)]
                  omega
                · rw [hd_cc (by omega), hd_cc (by omega), hd_cc (by omega)]
                  have h3 : ∀ d, d = 0 ∨ 10 ≤ d → (hd_rowI S1 9 (va_cpy (S1.1 9) (S1.1 9) (h * 8 + a) (t * 8 + b) k2)).1 d = S1.1 d := fun d hd => by
                    funext j
                    rw [hd_rI1, if_neg (by omega)]
                  have oth : ∀ d, d ≠ 9 → (hd_rowI S1 9 (va_cpy (S1.1 9) (S1.1 9) (h * 8 + a) (t * 8 + b) k2)).1 d = S1.1 d := fun d hd => by
                    funext j
                    rw [hd_rI1, if_neg hd]
                  have hx3 : hx_P 1 (hd_rowI S1 9 (va_cpy (S1.1 9) (S1.1 9) (h * 8 + a) (t * 8 + b) k2)) (hp_copy p h a t b k2) := by
                    obtain ⟨x1, x2, x3, x4, x5, x6, x7, x8, x9, x10⟩ := hxk
                    refine ⟨by rw [oth 1 (by decide)]; exact x1, by rw [oth 1 (by decide)]; exact x2, fun i hi => by rw [oth (1 + 1) (by decide)]; exact x3 i hi, fun i hi => by rw [oth (1 + 2) (by decide)]; exact x4 i hi, fun i hi => by rw [oth (1 + 3) (by decide)]; exact x5 i hi, fun i hi => by rw [oth (1 + 4) (by decide)]; exact x6 i hi, fun i hi => by rw [oth (1 + 5) (by decide)]; exact x7 i hi, fun i hi => by rw [oth (1 + 6) (by decide)]; exact x8 i hi, fun i hi => by rw [oth (1 + 7) (by decide)]; exact x9 i hi, fun c hc s hs => ?_⟩
                    show (hd_rowI S1 9 (va_cpy (S1.1 9) (S1.1 9) (h * 8 + a) (t * 8 + b) k2)).1 9 (c * 8 + s) = nI (hp_rep (hp_wy p) t (fun i => if b ≤ i ∧ i < b + k2 then hp_wy p h (a + (i - b)) else hp_wy p t i) c s)
                    rw [hd_rI1, if_pos rfl]
                    unfold hp_rep
                    by_cases hct : c = t
                    · subst hct
                      simp only [if_true]
                      by_cases hi : b ≤ s ∧ s < b + k2
                      · rw [if_pos hi, pk_cpy_in (by omega) (by omega), show h * 8 + a + (c * 8 + s - (c * 8 + b)) = h * 8 + (a + (s - b)) by omega]
                        exact x10 h hh (a + (s - b)) (by omega)
                      · rw [if_neg hi, pk_cpy_out (by omega)]
                        exact x10 c hc s hs
                    · simp only [hct, if_false]
                      rw [pk_cpy_out (by omega)]
                      exact x10 c hc s hs
                  obtain ⟨g1, g2⟩ := hx_I_new hI hkf hpa h3 rfl hx3 (hp_ok_copy hok hh w1 w2 hak hbk) (Nat.le_refl _) (Nat.le_refl _)
                  exact hk1 h a t b k2 hh rfl ht rfl w1 w2 w3 rfl rfl rfl hak hbk _ g1 g2
              · simp only [decide_true, Bool.not_true, Bool.not_false, if_true, not_true, not_false_iff]
                exact no (fun r => q2 r.2)
            · simp only [decide_true, Bool.not_true, Bool.not_false, if_true, not_true, not_false_iff]
              exact no (fun r => q1 r.1)
          · simp only [w3, not_false_iff, if_true]
            exact hk4 h t hh rfl ht rfl w1 w2 w3
    · simp only [h1, h2, and_self, not_true, if_false, not_false_iff, if_true]
      exact hk2 (fun r => h2 r.2)
  · simp only [h1, not_false_iff, if_true]
    exact hk2 (fun r => h1 r.1)
