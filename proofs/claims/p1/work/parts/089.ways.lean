/-! ways, copies, a hall more, undo: the class -/
def hp_setwy (p : hp_P) (h t v : Nat) : hp_P := (p.1, p.2.1, p.2.2.1, p.2.2.2.1, p.2.2.2.2.1, p.2.2.2.2.2.1, p.2.2.2.2.2.2.1, p.2.2.2.2.2.2.2.1, p.2.2.2.2.2.2.2.2.1, hp_rep p.2.2.2.2.2.2.2.2.2 h (hp_rep (p.2.2.2.2.2.2.2.2.2 h) t v))
theorem hp_ok_wy {p : hp_P} (o : hp_ok p) {h t v : Nat} (hw : hp_wd p h ≠ -1 ∧ t < hp_ln p h) (hv : v ≤ 1000) : hp_ok (hp_setwy p h t v) := by
  obtain ⟨o1, o2, o3, o4, o5, o6, o7, o8, o9, o10, o11⟩ := o
  refine ⟨o1, o2, o3, o4, o5, o6, o7, o8, o9, o10, fun a ha s hs => ?_⟩
  show (hp_wd p a ≠ -1 ∧ s < hp_ln p a → hp_rep (hp_wy p) h (hp_rep (hp_wy p h) t v) a s ≤ 1000) ∧ (¬ (hp_wd p a ≠ -1 ∧ s < hp_ln p a) → hp_rep (hp_wy p) h (hp_rep (hp_wy p h) t v) a s = 1000000)
  have := o11 a ha s hs
  unfold hp_rep
  by_cases hah : a = h
  · subst hah
    simp only [if_true]
    by_cases hst : s = t
    · subst hst
      simp only [if_true]
      exact ⟨fun _ => hv, fun r => absurd hw r⟩
    · simp only [hst, if_false]
      exact this
  · simp only [hah, if_false]
    exact this
theorem hx_P_wy {S : hd_S} {p : hp_P} {h t v : Nat} (ht : t < 8) (hx : hx_P 1 S p) : hx_P 1 (hd_wI S 9 (h * 8 + t) (nI v)) (hp_setwy p h t v) := by
  obtain ⟨h1, h2, h3, h4, h5, h6, h7, h8, h9, h10⟩ := hx
  refine ⟨(hx_oth (by decide)).trans h1, (hx_oth (by decide)).trans h2, fun i hi => (hx_oth (by decide)).trans (h3 i hi), fun i hi => (hx_oth (by decide)).trans (h4 i hi), fun i hi => (hx_oth (by decide)).trans (h5 i hi), fun i hi => (hx_oth (by decide)).trans (h6 i hi), fun i hi => (hx_oth (by decide)).trans (h7 i hi), fun i hi => (hx_oth (by decide)).trans (h8 i hi), fun i hi => (hx_oth (by decide)).trans (h9 i hi), fun a ha s hs => ?_⟩
  show (hd_wI S 9 (h * 8 + t) (nI v)).1 9 (a * 8 + s) = nI (hp_rep (hp_wy p) h (hp_rep (hp_wy p h) t v) a s)
  rw [hd_wI1]
  unfold hp_rep
  by_cases hah : a = h
  · by_cases hst : s = t
    · rw [if_pos ⟨rfl, by omega⟩, if_pos hah, if_pos hst]
    · rw [if_neg (fun r => by have := r.2; omega), if_pos hah, if_neg hst, ← hah]
      exact h10 a ha s hs
  · rw [if_neg (fun r => by have := r.2; omega), if_neg hah]
    exact h10 a ha s hs
theorem hp_lnm {S : hd_S} {p : hp_P} (hx : hx_P 1 S p) {h : Nat} (hh : h < 7) : S.1 8 h = nI (hp_ln p h) := hx.2.2.2.2.2.2.2.2.1 h hh
theorem hp_wd0 {z : Int} (h : -1 ≤ z ∧ z ≤ 2) : (Int32.ofInt z = 0) ↔ z = 0 := by
  rw [show (0 : Int32) = Int32.ofInt 0 from rfl, ← Int32.toInt_inj, fb_ofI (by omega) (by omega), fb_ofI (by omega) (by omega)]
set_option maxHeartbeats 4000000 in
theorem sx_wayCall {S : hd_S} {p : hp_P} {n : Nat} {q : Nat → hp_P} {hand : Nat} {cl : Nat → Nat} (hI : hx_I S p n q hand cl) (hall pl v : Int32) (post : Option hd_V → hd_S → Prop)
    (hk1 : ∀ h t k, h < hp_H p → hall = nI h → hp_wd p h ≠ -1 → t < hp_ln p h → pl = nI t → k ≤ (if hp_wd p h = 0 then 127 else 1000) → v = nI k → ∀ S2, hx_I S2 (hp_setwy p h t k) (hp_kn n) (hp_kq n q p) hand cl → hx_fr S S2 → post (some (hd_vI (nI (hp_wy p h t)))) S2)
    (hk2 : ¬ (0 ≤ hall ∧ hall < nI (hp_H p)) → post (some (hd_vI (-3))) S)
    (hk3 : ∀ h, h < hp_H p → hall = nI h → hp_wd p h = -1 → post (some (hd_vI (-11))) S)
    (hk4 : ∀ h, h < hp_H p → hall = nI h → hp_wd p h ≠ -1 → ¬ (0 ≤ pl ∧ pl < nI (hp_ln p h)) → post (some (hd_vI (-13))) S)
    (hk5 : ∀ h, h < hp_H p → hall = nI h → hp_wd p h ≠ -1 → (0 ≤ pl ∧ pl < nI (hp_ln p h)) → ¬ (0 ≤ v ∧ v ≤ nI (if hp_wd p h = 0 then 127 else 1000)) → post (some (hd_vI (-3))) S) : wm_X8_way [hd_vR 0, hd_vI hall, hd_vI pl, hd_vI v] S post := by
  have hok := hI.1.1
  have hx := hI.2.1
  have hH : hp_H p ≤ 7 := hok.2.1
  have hx1 : S.1 1 1 = nI (hp_H p) := hx.2.1
  simp only [wm_X8_way, wo_X8_way, hd_mth, hd_rho0, hd_args, hd_wide, hq_sQ, hd_s0, hq_sI, hq_sJ, hd_sR, hd_sP, hd_sF, hd_sZ, hd_sG, hd_sA, hd_sL, hd_sB, hd_sO, hd_sN, hd_sD, hd_sW, hd_sE, hd_sRI, hd_sRZ, hd_sRJ, hd_sRR, hd_sRV, hd_sSw, hd_sw, hd_sCI, hd_sCL, hd_iK, hd_iL, hd_iU, hd_iB, hd_iD, hd_iJ, hd_iG, hd_iA, hd_iQ, hd_iC, hd_iN, hd_iE, hd_jK, hd_jL, hd_jU, hd_jB, hd_jD, hd_jH, hd_jI, hd_jA, hd_jQ, hd_jN, hd_rL, hd_rG, hd_rA, hd_rN, hd_cI, hd_c0, hd_cJ, hd_cX, hd_cA, hd_cO, hd_v0, hd_pI, hd_pJ, hd_pR, hd_nV, hd_nS, hd_get, hd_st, hd_stW, hd_cut, List.replicate, List.length_cons, List.length_nil, List.nil_append, List.cons_append, Nat.reduceAdd, Nat.reduceSub, Nat.reduceLeDiff, true_and, and_true, if_true, if_false, Bool.false_eq_true, List.append_nil, hs_o_0, hs_r_0_0, hs_t_0_0, hs_r_0_1, hs_t_0_1, hs_r_0_2, hs_t_0_2, hs_r_0_3, hs_t_0_3, hs_r_0_4, hs_t_0_4, hs_r_0_5, hs_t_0_5, hs_r_0_6, hs_t_0_6, hs_r_0_7, hs_t_0_7, hs_f_0_8, hs_o_1, hs_f_1_0, hs_f_1_1, hs_r_1_2, hs_t_1_2, hs_r_1_3, hs_t_1_3, hs_r_1_4, hs_t_1_4, hs_r_1_5, hs_t_1_5, hs_r_1_6, hs_t_1_6, hs_r_1_7, hs_t_1_7, hs_r_1_8, hs_t_1_8, hs_r_1_9, hs_t_1_9, hs_i_2, hs_i_3, hs_i_4, hs_i_5, hs_i_6, hs_i_7, hs_i_8, hs_i_9, hs_o_82, hs_r_82_0, hs_t_82_0, hs_f_82_1, hs_i_83, hs_o_84, hs_r_84_0, hs_t_84_0, hs_r_84_1, hs_t_84_1, hs_r_84_2, hs_t_84_2, hs_r_84_3, hs_t_84_3, hs_f_84_4, hs_i_85, hs_i_86, hs_i_87, hs_o_88, hs_r_88_0, hs_t_88_0, hs_r_88_1, hs_t_88_1, hs_r_88_2, hs_t_88_2, hs_r_88_3, hs_t_88_3, hs_r_88_4, hs_t_88_4, hs_r_88_5, hs_t_88_5, hs_r_88_6, hs_t_88_6, hs_r_88_7, hs_t_88_7, hs_f_88_8, hs_f_88_9, hs_i_89, hs_i_90, hs_i_91, hs_i_92, hs_i_93, hs_i_94, hs_i_95, hs_i_96, hs_i_97, hs_i_98, hs_i_99, hs_i_100, hs_i_101, hs_i_102, hs_o_103, hs_r_103_0, hs_t_103_0, hs_r_103_1, hs_t_103_1, hs_r_103_2, hs_t_103_2, hs_r_103_3, hs_t_103_3, hs_f_103_4, hs_i_104, hs_o_105, hs_r_105_0, hs_t_105_0, hs_r_105_1, hs_t_105_1, hs_r_105_2, hs_t_105_2, hs_i_106, hs_i_107, hs_o_108, hs_r_108_0, hs_t_108_0, hs_r_108_1, hs_t_108_1, hs_r_108_2, hs_t_108_2, hs_r_108_3, hs_t_108_3, hs_f_108_4, hs_i_109, hs_i_110, hs_o_111, hs_r_111_0, hs_t_111_0, hs_r_111_1, hs_t_111_1, hs_f_111_2, hs_f_111_3, hs_f_111_4, hs_i_112, hs_o_113, hs_f_113_0, hs_f_113_1, hs_f_113_2, hs_r_113_3, hs_t_113_3, hs_r_113_4, hs_t_113_4, hs_r_113_5, hs_t_113_5, hs_r_113_6, hs_t_113_6, hs_r_113_7, hs_t_113_7, hs_r_113_8, hs_t_113_8, hs_r_113_9, hs_t_113_9, hs_r_113_10, hs_t_113_10, hs_r_113_11, hs_t_113_11, hs_f_113_12, hs_f_113_13, hs_f_113_14, hs_r_113_15, hs_t_113_15, hs_f_113_16, hs_r_113_17, hs_t_113_17, hs_r_113_18, hs_t_113_18, hs_r_113_19, hs_t_113_19, hs_r_113_20, hs_t_113_20, hs_f_113_21, hs_f_113_22, hs_f_113_23, hs_r_113_24, hs_t_113_24, hs_f_113_25, hs_r_113_26, hs_t_113_26, hs_f_113_27, hs_i_114, hs_i_115, hs_i_116, hs_i_117, hs_i_118, hs_i_119, hs_i_120, hs_i_121, hs_i_122, hs_i_123, hs_i_124, hs_i_125, hs_i_126, hs_i_127, hs_i_128, hs_i_129, sp_X5_hasHall, hx1, hd_t01, hd_dn1, decide_eq_true_eq]
  by_cases h1 : 0 ≤ hall ∧ hall < nI (hp_H p)
  · obtain ⟨h, hh, rfl⟩ := hb_rng2 (show hp_H p < 2 ^ 31 by omega) h1.1 h1.2
    have hln := hp_lnm hx (show h < 7 by omega)
    have hl8 := hok.2.2.2.2.2.2.2.2.2.1 h
    have hwd : S.1 7 h = Int32.ofInt (hp_wd p h) := hx.2.2.2.2.2.2.2.1 h (by omega)
    simp only [h1, and_self, if_true, show ¬ ((1 : Int32) = 0) by decide, not_false_iff, not_true, if_false, sx_isMissing hok hx (show h < 7 by omega), hd_t01, hd_dn1, decide_eq_true_eq]
    by_cases hw : hp_wd p h = -1
    · simp only [hw, if_true, show ¬ ((1 : Int32) = 0) by decide, not_false_iff]
      exact hk3 h hh rfl hw
    · simp only [hw, if_false, not_true, vp_in_nI (show h < 7 by omega) (show 7 < 2 ^ 31 by decide), hd_cc (show h < 2147483648 by omega), hln, hwd, true_and, sp_X8_within, hb_le1 (show hp_ln p h < 2 ^ 30 by omega), hp_wd0 (hok.2.2.2.2.2.2.2.2.1 h), hd_t01, hd_dn1, decide_eq_true_eq]
      by_cases h2 : 0 ≤ pl ∧ pl < nI (hp_ln p h)
      · simp only [h2, and_self, if_true, show ¬ ((1 : Int32) = 0) by decide, not_false_iff, not_true, if_false]
        have main : ∀ N : Nat, N = (if hp_wd p h = 0 then 127 else 1000) → (if ¬ (0 ≤ v ∧ v ≤ nI N) then post (some (hd_vI (-3))) S else wm_X8_change [hd_vR 0, hd_vR 9, hd_vI (nI h * nI 8 + pl), hd_vI v] S (fun v S => match v with | some (Sum.inl x) => post (some (hd_vI x)) S | x => False)) := by
          intro N hN
          have hN1 : N ≤ 1000 := by
            rw [hN]
            split <;> decide
          by_cases h3 : 0 ≤ v ∧ v ≤ nI N
          · obtain ⟨t, ht, rfl⟩ := hb_rng2 (show hp_ln p h < 2 ^ 31 by omega) h2.1 h2.2
            obtain ⟨k, hk, rfl⟩ := hb_rng (m := N) (by omega) h3.1 h3.2
            rw [if_neg (fun r => r h3), pk_mul, nI_add]
            have e : S.1 9 (h * 8 + t) = nI (hp_wy p h t) := hx.2.2.2.2.2.2.2.2.2 h hh t (by omega)
            refine sx_change hI (c := 9) (N := 56) (by decide) hs_i_9 (by decide) (by omega) (nI k) (p2 := hp_setwy p h t k) (hp_ok_wy hok ⟨hw, ht⟩ (by omega)) (Nat.le_refl _) (Nat.le_refl _) (fun S2 h9 => hx_P_wy (by omega) h9) _ (fun S2 hI2 hfr => ?_)
            rw [e]
            exact hk1 h t k hh rfl hw ht rfl (by omega) rfl S2 hI2 hfr
          · rw [if_pos h3]
            refine hk5 h hh rfl hw h2 ?_
            rw [← hN]
            exact h3
        by_cases hw0 : hp_wd p h = 0
        · have h9 := main 127 (by rw [if_pos hw0])
          simp only [hw0, if_true] at h9 ⊢
          by_cases h3 : 0 ≤ v ∧ v ≤ nI 127
          · rw [if_neg (fun r => r h3)] at h9
            have h3b : 0 ≤ v ∧ v ≤ (127 : Int32) := h3
            simp only [h3b, and_self, if_true, show ¬ ((1 : Int32) = 0) by decide, not_false_iff, not_true, if_false]
            exact h9
          · rw [if_pos h3] at h9
            have h3b : ¬ (0 ≤ v ∧ v ≤ (127 : Int32)) := h3
            simp only [h3b, if_false, not_true, not_false_iff, if_true]
            exact h9
        · have h9 := main 1000 (by rw [if_neg hw0])
          simp only [hw0, if_false] at h9 ⊢
          by_cases h3 : 0 ≤ v ∧ v ≤ nI 1000
          · rw [if_neg (fun r => r h3)] at h9
            have h3b : 0 ≤ v ∧ v ≤ (1000 : Int32) := h3
            simp only [h3b, and_self, if_true, show ¬ ((1 : Int32) = 0) by decide, not_false_iff, not_true, if_false]
            exact h9
          · rw [if_pos h3] at h9
            have h3b : ¬ (0 ≤ v ∧ v ≤ (1000 : Int32)) := h3
            simp only [h3b, if_false, not_true, not_false_iff, if_true]
            exact h9
      · simp only [h2, if_false, not_true, not_false_iff, if_true]
        exact hk4 h hh rfl hw h2
  · simp only [h1, not_false_iff, if_true]
    exact hk2 h1
