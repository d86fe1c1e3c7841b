/-! THE PLAN as numbers: towns, halls, crowds, fines, spots, prices, rooms, widths, lengths, ways (1000000 where a sheet doesn't reach) -/
abbrev hp_P : Type := Nat × Nat × (Nat → Nat) × (Nat → Nat) × (Nat → Int) × (Nat → Nat) × (Nat → Nat) × (Nat → Int) × (Nat → Nat) × (Nat → Nat → Nat)
abbrev hp_T (p : hp_P) : Nat := p.1
abbrev hp_H (p : hp_P) : Nat := p.2.1
abbrev hp_cr (p : hp_P) : Nat → Nat := p.2.2.1
abbrev hp_fi (p : hp_P) : Nat → Nat := p.2.2.2.1
abbrev hp_sp (p : hp_P) : Nat → Int := p.2.2.2.2.1
abbrev hp_pr (p : hp_P) : Nat → Nat := p.2.2.2.2.2.1
abbrev hp_ro (p : hp_P) : Nat → Nat := p.2.2.2.2.2.2.1
abbrev hp_wd (p : hp_P) : Nat → Int := p.2.2.2.2.2.2.2.1
abbrev hp_ln (p : hp_P) : Nat → Nat := p.2.2.2.2.2.2.2.2.1
abbrev hp_wy (p : hp_P) : Nat → Nat → Nat := p.2.2.2.2.2.2.2.2.2
/-- what always holds of a plan -/
def hp_ok (p : hp_P) : Prop := hp_T p ≤ 8 ∧ hp_H p ≤ 7 ∧ (∀ t, t < hp_T p → 1 ≤ hp_cr p t) ∧ (∀ t, hp_cr p t ≤ 20) ∧ (∀ t, hp_fi p t ≤ 100000) ∧ (∀ t, -1000 ≤ hp_sp p t ∧ hp_sp p t ≤ 1000) ∧ (∀ h, hp_pr p h ≤ 100000) ∧ (∀ h, hp_ro p h ≤ 200) ∧ (∀ h, -1 ≤ hp_wd p h ∧ hp_wd p h ≤ 2) ∧ (∀ h, hp_ln p h ≤ 8) ∧
  (∀ h, h < hp_H p → ∀ t, t < 8 → (hp_wd p h ≠ -1 ∧ t < hp_ln p h → hp_wy p h t ≤ 1000) ∧ (¬ (hp_wd p h ≠ -1 ∧ t < hp_ln p h) → hp_wy p h t = 1000000))
theorem hp_ok.way {p : hp_P} (h : hp_ok p) {a t : Nat} (ha : a < hp_H p) (ht : t < 8) : hp_wy p a t ≤ 1000000 := by
  obtain ⟨-, -, -, -, -, -, -, -, -, -, hw⟩ := h
  obtain ⟨h1, h2⟩ := hw a ha t ht
  by_cases hc : hp_wd p a ≠ -1 ∧ t < hp_ln p a
  · have := h1 hc; omega
  · have := h2 hc; omega
/-- the class's plan at the cell c -/
def hx_P (c : Nat) (S : hd_S) (p : hp_P) : Prop := S.1 c 0 = nI (hp_T p) ∧ S.1 c 1 = nI (hp_H p) ∧ (∀ t, t < 8 → S.1 (c + 1) t = nI (hp_cr p t)) ∧ (∀ t, t < 8 → S.1 (c + 2) t = nI (hp_fi p t)) ∧ (∀ t, t < 8 → S.1 (c + 3) t = Int32.ofInt (hp_sp p t)) ∧
  (∀ h, h < 7 → S.1 (c + 4) h = nI (hp_pr p h)) ∧ (∀ h, h < 7 → S.1 (c + 5) h = nI (hp_ro p h)) ∧ (∀ h, h < 7 → S.1 (c + 6) h = Int32.ofInt (hp_wd p h)) ∧ (∀ h, h < 7 → S.1 (c + 7) h = nI (hp_ln p h)) ∧ (∀ h, h < hp_H p → ∀ t, t < 8 → S.1 (c + 8) (h * 8 + t) = nI (hp_wy p h t))
/-- the reference's plan -/
def hm_P (S : hd_S) (p : hp_P) : Prop := S.1 113 1 = nI (hp_T p) ∧ S.1 113 2 = nI (hp_H p) ∧ (∀ t, t < 8 → S.1 114 t = nI (hp_cr p t)) ∧ (∀ t, t < 8 → S.1 115 t = nI (hp_fi p t)) ∧ (∀ t, t < 8 → S.1 116 t = Int32.ofInt (hp_sp p t)) ∧
  (∀ h, h < 7 → S.1 117 h = nI (hp_pr p h)) ∧ (∀ h, h < 7 → S.1 118 h = nI (hp_ro p h)) ∧ (∀ h, h < 7 → S.1 119 h = Int32.ofInt (hp_wd p h)) ∧ (∀ h, h < 7 → S.1 120 h = nI (hp_ln p h)) ∧ (∀ h, h < hp_H p → ∀ t, t < 8 → hp_wd p h ≠ -1 ∧ t < hp_ln p h → S.1 121 (h * 8 + t) = nI (hp_wy p h t))
theorem hp_wd1 {z : Int} (h : -1 ≤ z ∧ z ≤ 2) : (Int32.ofInt z = -1) ↔ z = -1 := by
  rw [show (-1 : Int32) = Int32.ofInt (-1) from rfl, ← Int32.toInt_inj, fb_ofI (by omega) (by omega), fb_ofI (by omega) (by omega)]
set_option maxHeartbeats 1000000 in
theorem sp_X9_wayOf {S : hd_S} {p : hp_P} (hp : hp_ok p) (hm : hm_P S p) {h t : Nat} (hh : h < hp_H p) (ht : t < 8) (post : Option hd_V → hd_S → Prop) : wm_X9_wayOf [hd_vR 113, hd_vI (nI h), hd_vI (nI t)] S post ↔ post (some (hd_vI (nI (hp_wy p h t)))) S := by
  obtain ⟨o1, o2, o3, o4, o5, o6, o7, o8, o9, o10, o11⟩ := hp
  obtain ⟨m1, m2, m3, m4, m5, m6, m7, m8, m9, m10⟩ := hm
  have h7 : h < 7 := by omega
  obtain ⟨w1, w2⟩ := o11 h hh t ht
  have hln := o10 h
  simp only [wm_X9_wayOf, wo_X9_wayOf, hd_mth, hd_rho0, hd_args, hd_wide, hd_sQ, hd_s0, hd_sI, hd_sJ, hd_sR, hd_sP, hd_sF, hd_sZ, hd_sG, hd_sA, hd_sL, hd_sB, hd_sO, hd_sN, hd_sD, hd_sW, hd_sE, hd_sRI, hd_sRZ, hd_sRJ, hd_sRR, hd_sRV, hd_sSw, hd_sw, hd_sCI, hd_sCL, hd_iK, hd_iL, hd_iU, hd_iB, hd_iD, hd_iJ, hd_iG, hd_iA, hd_iQ, hd_iC, hd_iN, hd_iE, hd_jK, hd_jL, hd_jU, hd_jB, hd_jD, hd_jH, hd_jI, hd_jA, hd_jQ, hd_jN, hd_rL, hd_rG, hd_rA, hd_rN, hd_cI, hd_c0, hd_cJ, hd_cX, hd_cA, hd_cO, hd_v0, hd_pI, hd_pJ, hd_pR, hd_nV, hd_nS, hd_get, hd_st, hd_stW, hd_cut, List.replicate, List.length_cons, List.length_nil, List.nil_append, List.cons_append, Nat.reduceAdd, Nat.reduceSub, Nat.reduceLeDiff, true_and, and_true, if_true, if_false, Bool.false_eq_true, List.append_nil, hs_o_0, hs_r_0_0, hs_t_0_0, hs_r_0_1, hs_t_0_1, hs_r_0_2, hs_t_0_2, hs_r_0_3, hs_t_0_3, hs_r_0_4, hs_t_0_4, hs_r_0_5, hs_t_0_5, hs_r_0_6, hs_t_0_6, hs_r_0_7, hs_t_0_7, hs_f_0_8, hs_o_1, hs_f_1_0, hs_f_1_1, hs_r_1_2, hs_t_1_2, hs_r_1_3, hs_t_1_3, hs_r_1_4, hs_t_1_4, hs_r_1_5, hs_t_1_5, hs_r_1_6, hs_t_1_6, hs_r_1_7, hs_t_1_7, hs_r_1_8, hs_t_1_8, hs_r_1_9, hs_t_1_9, hs_i_2, hs_i_3, hs_i_4, hs_i_5, hs_i_6, hs_i_7, hs_i_8, hs_i_9, hs_o_82, hs_r_82_0, hs_t_82_0, hs_f_82_1, hs_i_83, hs_o_84, hs_r_84_0, hs_t_84_0, hs_r_84_1, hs_t_84_1, hs_r_84_2, hs_t_84_2, hs_r_84_3, hs_t_84_3, hs_f_84_4, hs_i_85, hs_i_86, hs_i_87, hs_o_88, hs_r_88_0, hs_t_88_0, hs_r_88_1, hs_t_88_1, hs_r_88_2, hs_t_88_2, hs_r_88_3, hs_t_88_3, hs_r_88_4, hs_t_88_4, hs_r_88_5, hs_t_88_5, hs_r_88_6, hs_t_88_6, hs_r_88_7, hs_t_88_7, hs_f_88_8, hs_f_88_9, hs_i_89, hs_i_90, hs_i_91, hs_i_92, hs_i_93, hs_i_94, hs_i_95, hs_i_96, hs_i_97, hs_i_98, hs_i_99, hs_i_100, hs_i_101, hs_i_102, hs_o_103, hs_r_103_0, hs_t_103_0, hs_r_103_1, hs_t_103_1, hs_r_103_2, hs_t_103_2, hs_r_103_3, hs_t_103_3, hs_f_103_4, hs_i_104, hs_o_105, hs_r_105_0, hs_t_105_0, hs_r_105_1, hs_t_105_1, hs_r_105_2, hs_t_105_2, hs_i_106, hs_i_107, hs_o_108, hs_r_108_0, hs_t_108_0, hs_r_108_1, hs_t_108_1, hs_r_108_2, hs_t_108_2, hs_r_108_3, hs_t_108_3, hs_f_108_4, hs_i_109, hs_i_110, hs_o_111, hs_r_111_0, hs_t_111_0, hs_r_111_1, hs_t_111_1, hs_f_111_2, hs_f_111_3, hs_f_111_4, hs_i_112, hs_o_113, hs_f_113_0, hs_f_113_1, hs_f_113_2, hs_r_113_3, hs_t_113_3, hs_r_113_4, hs_t_113_4, hs_r_113_5, hs_t_113_5, hs_r_113_6, hs_t_113_6, hs_r_113_7, hs_t_113_7, hs_r_113_8, hs_t_113_8, hs_r_113_9, hs_t_113_9, hs_r_113_10, hs_t_113_10, hs_r_113_11, hs_t_113_11, hs_f_113_12, hs_f_113_13, hs_f_113_14, hs_r_113_15, hs_t_113_15, hs_f_113_16, hs_r_113_17, hs_t_113_17, hs_r_113_18, hs_t_113_18, hs_r_113_19, hs_t_113_19, hs_r_113_20, hs_t_113_20, hs_f_113_21, hs_f_113_22, hs_f_113_23, hs_r_113_24, hs_t_113_24, hs_f_113_25, hs_r_113_26, hs_t_113_26, hs_f_113_27, hs_i_114, hs_i_115, hs_i_116, hs_i_117, hs_i_118, hs_i_119, hs_i_120, hs_i_121, hs_i_122, hs_i_123, hs_i_124, hs_i_125, hs_i_126, hs_i_127, hs_i_128, hs_i_129, hd_lit8, pk_mul, nI_add, vp_in_nI h7 (by decide), hd_cc (show h < 2147483648 by omega), m8 h h7, m9 h h7, hp_wd1 (o9 h), decide_eq_true_eq, Bool.not_eq_true', decide_eq_false_iff_not, nI_ltI (show t < 2 ^ 31 by omega) (show hp_ln p h < 2 ^ 31 by omega)]
  by_cases hc : hp_wd p h = -1
  · rw [w2 (fun q => q.1 hc)]
    simp only [hc, not_true, if_false]
    exact Iff.rfl
  · by_cases hl : t < hp_ln p h
    · have e := m10 h hh t ht ⟨hc, hl⟩
      have ec : 8 * h + t = h * 8 + t := by omega
      simp only [hc, not_false_iff, if_true, hl, ec, vp_in_nI (show h * 8 + t < 56 by omega) (by decide), hd_cc (show h * 8 + t < 2147483648 by omega), e, true_and]
    · rw [w2 (fun q => hl q.2)]
      simp only [hc, hl, not_false_iff, if_true, if_false]
      exact Iff.rfl
/-- the class's small reads, of the present plan -/
theorem sx_way {S : hd_S} {p : hp_P} (hp : hp_ok p) (hx : hx_P 1 S p) {h t : Nat} (hh : h < hp_H p) (ht : t < 8) (post : Option hd_V → hd_S → Prop) : wm_X5_wayOf [hd_vR 1, hd_vI (nI h), hd_vI (nI t)] S post ↔ post (some (hd_vI (nI (hp_wy p h t)))) S := by
  have h7 : h < 7 := by have := hp.2.1; omega
  rw [sp_X5_wayOf S post h t h7 ht]
  rw [show S.1 9 (h * 8 + t) = nI (hp_wy p h t) from hx.2.2.2.2.2.2.2.2.2 h hh t ht]
theorem sx_trip {S : hd_S} {p : hp_P} (hp : hp_ok p) (hx : hx_P 1 S p) {h t : Nat} (hh : h < hp_H p) (ht : t < 8) (post : Option hd_V → hd_S → Prop) : wm_X5_tripOf [hd_vR 1, hd_vI (nI h), hd_vI (nI t)] S post ↔ post (some (hd_vI (nI (hp_cr p t * hp_wy p h t)))) S := by
  have h7 : h < 7 := by have := hp.2.1; omega
  rw [sp_X5_tripOf S post h t h7 ht]
  rw [show S.1 9 (h * 8 + t) = nI (hp_wy p h t) from hx.2.2.2.2.2.2.2.2.2 h hh t ht, show S.1 2 t = nI (hp_cr p t) from hx.2.2.1 t ht, pk_mul]
