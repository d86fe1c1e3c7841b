/-! raising: the class's loop and the reference's, to the same claims -/
theorem hp_st_yes {p : hp_P} {cl lf : Nat → Nat} {t : Nat} : hp_st p cl lf t = true ↔ ∃ h, h < hp_H p ∧ lf h = 0 ∧ hp_w2 p h t ≤ cl t := by
  unfold hp_st
  constructor
  · intro q
    have q2 : ¬ (∀ h, h < hp_H p → ¬ (lf h = 0 ∧ hp_w2 p h t ≤ cl t)) := by simpa using q
    by_cases hx : ∃ h, h < hp_H p ∧ lf h = 0 ∧ hp_w2 p h t ≤ cl t
    · exact hx
    · exact absurd (fun h hh hq => hx ⟨h, hh, hq⟩) q2
  · rintro ⟨h, hh, h1, h2⟩
    rw [decide_eq_false (fun q => q h hh ⟨h1, h2⟩)]
    rfl
theorem hr_alike_ab {tr : Nat → Nat → Nat} {pr : Nat → Nat} {F : Nat → Bool} {T H a : Nat} {cl : Nat → Nat}
    (hs : ∀ t, t < T → F t = false → ∃ h, h < H ∧ hr_ab tr T cl h = pr h ∧ tr h t ≤ cl t)
    (ha : ∀ t, t < T → F t = true → ∀ h, h < H → cl t < tr h t → a ≤ tr h t - cl t)
    (hb : ∀ h, h < H → hr_ab tr T cl h + a * fb_ct (hr_pay tr F cl h) T ≤ pr h) (hc : hr_held tr pr T H cl) (h0 : 0 < a) {h : Nat} (hh : h < H) : hr_ab tr T (hr_it tr pr T H cl a) h = hr_ab tr T cl h + a * fb_ct (hr_pay tr F cl h) T := by
  obtain ⟨b, rfl⟩ : ∃ b, a = b + 1 := ⟨a - 1, by omega⟩
  rw [hr_alike hs ha hb hc (b + 1) (Nat.le_refl _)]
  have e : hr_mid F T cl (b + 1) 0 = hr_mid F T cl b T := by
    funext t
    unfold hr_mid
    by_cases q : t < T ∧ F t = true
    · simp [q]
    · simp [q]
  rw [e, hr_mid_ab ha (by omega) (Nat.le_refl _) hh, Nat.add_mul, Nat.one_mul, Nat.add_assoc]
set_option maxHeartbeats 8000000 in
theorem sx_raiseSome {S : hd_S} {p : hp_P} (hp : hp_ok p) (hx : hx_P 1 S p) {cl : Nat → Nat} (hc : ∀ t, cl t ≤ 998000) (hheld : hr_held (hp_w2 p) (hp_pr p) (hp_T p) (hp_H p) cl) (hcl : ∀ t, t < 8 → S.1 106 t = nI (cl t)) (hlf : ∀ h, h < hp_H p → S.1 107 h = nI (hp_pr p h - hr_ab (hp_w2 p) (hp_T p) cl h)) {fr m : Nat} (hfr : fr = hb_mk (fun t => !hp_st p cl (fun h => hp_pr p h - hr_ab (hp_w2 p) (hp_T p) cl h) t) (hp_T p)) (hm : m ≤ 2000) (hm1 : 1 ≤ m) (post : Option hd_V → hd_S → Prop)
    (hk : ∀ S2 r, 1 ≤ r → r ≤ m → hd_eqx [106, 107] S S2 → (∀ t, t < 8 → S2.1 106 t = nI (hr_it (hp_w2 p) (hp_pr p) (hp_T p) (hp_H p) cl r t)) → (∀ h, h < hp_H p → S2.1 107 h = nI (hp_pr p h - hr_ab (hp_w2 p) (hp_T p) (hr_it (hp_w2 p) (hp_pr p) (hp_T p) (hp_H p) cl r) h)) → post (some (hd_vI (nI r))) S2) : wm_X0_raiseSome [hd_vR 105, hd_vI (nI fr), hd_vI (nI m)] S post := by
  have hT : hp_T p ≤ 8 := hp.1
  have hH : hp_H p ≤ 7 := hp.2.1
  have hx0 : S.1 1 0 = nI (hp_T p) := hx.1
  have hprl : ∀ h, hp_pr p h ≤ 100000 := hp.2.2.2.2.2.2.1
  have hfb : ∀ t, t < hp_T p → fr.testBit t = !hp_st p cl (fun h => hp_pr p h - hr_ab (hp_w2 p) (hp_T p) cl h) t := fun t ht => by rw [hfr, hb_mk_bit]; simp [ht]
  have h256 : 2 ^ hp_T p ≤ 256 := Nat.pow_le_pow_right (n := 2) (by decide) hT
  have hfl : fr < 256 := by
    have := hb_mk_lt (fun t => !hp_st p cl (fun h => hp_pr p h - hr_ab (hp_w2 p) (hp_T p) cl h) t) (hp_T p)
    rw [← hfr] at this
    omega
  have hs : ∀ t, t < hp_T p → fr.testBit t = false → ∃ h, h < hp_H p ∧ hr_ab (hp_w2 p) (hp_T p) cl h = hp_pr p h ∧ hp_w2 p h t ≤ cl t := by
    intro t ht hb
    rw [hfb t ht] at hb
    have hb2 : hp_st p cl (fun h => hp_pr p h - hr_ab (hp_w2 p) (hp_T p) cl h) t = true := by simpa using hb
    obtain ⟨h, hh, h1, h2⟩ := hp_st_yes.mp hb2
    have := hheld h hh
    exact ⟨h, hh, by omega, h2⟩
  simp only [wm_X0_raiseSome, wo_X0_raiseSome, hd_mth, hd_rho0, hd_args, hd_wide, hd_sQ, hd_s0, hd_sI, hd_sJ, hd_sR, hd_sP, hd_sF, hd_sZ, hd_sG, hd_sA, hd_sL, hd_sB, hd_sO, hd_sN, hd_sD, hd_sW, hd_sE, hd_sRI, hd_sRZ, hd_sRJ, hd_sRR, hd_sRV, hd_sSw, hd_sw, hd_sCI, hd_sCL, hd_iK, hd_iL, hd_iU, hd_iB, hd_iD, hd_iJ, hd_iG, hd_iA, hd_iQ, hd_iC, hd_iN, hd_iE, hd_jK, hd_jL, hd_jU, hd_jB, hd_jD, hd_jH, hd_jI, hd_jA, hd_jQ, hd_jN, hd_rL, hd_rG, hd_rA, hd_rN, hd_cI, hd_c0, hd_cJ, hd_cX, hd_cA, hd_cO, hd_v0, hd_pI, hd_pJ, hd_pR, hd_nV, hd_nS, hd_get, hd_st, hd_stW, hd_cut, List.replicate, List.length_cons, List.length_nil, List.nil_append, List.cons_append, Nat.reduceAdd, Nat.reduceSub, Nat.reduceLeDiff, true_and, and_true, if_true, if_false, Bool.false_eq_true, List.append_nil, hs_o_0, hs_r_0_0, hs_t_0_0, hs_r_0_1, hs_t_0_1, hs_r_0_2, hs_t_0_2, hs_r_0_3, hs_t_0_3, hs_r_0_4, hs_t_0_4, hs_r_0_5, hs_t_0_5, hs_r_0_6, hs_t_0_6, hs_r_0_7, hs_t_0_7, hs_f_0_8, hs_o_1, hs_f_1_0, hs_f_1_1, hs_r_1_2, hs_t_1_2, hs_r_1_3, hs_t_1_3, hs_r_1_4, hs_t_1_4, hs_r_1_5, hs_t_1_5, hs_r_1_6, hs_t_1_6, hs_r_1_7, hs_t_1_7, hs_r_1_8, hs_t_1_8, hs_r_1_9, hs_t_1_9, hs_i_2, hs_i_3, hs_i_4, hs_i_5, hs_i_6, hs_i_7, hs_i_8, hs_i_9, hs_o_82, hs_r_82_0, hs_t_82_0, hs_f_82_1, hs_i_83, hs_o_84, hs_r_84_0, hs_t_84_0, hs_r_84_1, hs_t_84_1, hs_r_84_2, hs_t_84_2, hs_r_84_3, hs_t_84_3, hs_f_84_4, hs_i_85, hs_i_86, hs_i_87, hs_o_88, hs_r_88_0, hs_t_88_0, hs_r_88_1, hs_t_88_1, hs_r_88_2, hs_t_88_2, hs_r_88_3, hs_t_88_3, hs_r_88_4, hs_t_88_4, hs_r_88_5, hs_t_88_5, hs_r_88_6, hs_t_88_6, hs_r_88_7, hs_t_88_7, hs_f_88_8, hs_f_88_9, hs_i_89, hs_i_90, hs_i_91, hs_i_92, hs_i_93, hs_i_94, hs_i_95, hs_i_96, hs_i_97, hs_i_98, hs_i_99, hs_i_100, hs_i_101, hs_i_102, hs_o_103, hs_r_103_0, hs_t_103_0, hs_r_103_1, hs_t_103_1, hs_r_103_2, hs_t_103_2, hs_r_103_3, hs_t_103_3, hs_f_103_4, hs_i_104, hs_o_105, hs_r_105_0, hs_t_105_0, hs_r_105_1, hs_t_105_1, hs_r_105_2, hs_t_105_2, hs_i_106, hs_i_107, hs_o_108, hs_r_108_0, hs_t_108_0, hs_r_108_1, hs_t_108_1, hs_r_108_2, hs_t_108_2, hs_r_108_3, hs_t_108_3, hs_f_108_4, hs_i_109, hs_i_110, hs_o_111, hs_r_111_0, hs_t_111_0, hs_r_111_1, hs_t_111_1, hs_f_111_2, hs_f_111_3, hs_f_111_4, hs_i_112, hs_o_113, hs_f_113_0, hs_f_113_1, hs_f_113_2, hs_r_113_3, hs_t_113_3, hs_r_113_4, hs_t_113_4, hs_r_113_5, hs_t_113_5, hs_r_113_6, hs_t_113_6, hs_r_113_7, hs_t_113_7, hs_r_113_8, hs_t_113_8, hs_r_113_9, hs_t_113_9, hs_r_113_10, hs_t_113_10, hs_r_113_11, hs_t_113_11, hs_f_113_12, hs_f_113_13, hs_f_113_14, hs_r_113_15, hs_t_113_15, hs_f_113_16, hs_r_113_17, hs_t_113_17, hs_r_113_18, hs_t_113_18, hs_r_113_19, hs_t_113_19, hs_r_113_20, hs_t_113_20, hs_f_113_21, hs_f_113_22, hs_f_113_23, hs_r_113_24, hs_t_113_24, hs_f_113_25, hs_r_113_26, hs_t_113_26, hs_f_113_27, hs_i_114, hs_i_115, hs_i_116, hs_i_117, hs_i_118, hs_i_119, hs_i_120, hs_i_121, hs_i_122, hs_i_123, hs_i_124, hs_i_125, hs_i_126, hs_i_127, hs_i_128, hs_i_129]
  refine sx_alikeRounds hp hx (fun t => by have := hc t; omega) (fun h _ => by have := hprl h; omega) hcl hlf hfl hm _ ?_
  have a1 := hp_al1_le p cl fr m (hp_T p)
  have a2 := hp_al2_le p cl (fun h => hp_pr p h - hr_ab (hp_w2 p) (hp_T p) cl h) fr (hp_al1 p cl fr m (hp_T p)) (hp_H p)
  generalize hp_al2 p cl (fun h => hp_pr p h - hr_ab (hp_w2 p) (hp_T p) cl h) fr (hp_al1 p cl fr m (hp_T p)) (hp_H p) = a at a2
  generalize hp_al1 p cl fr m (hp_T p) = b at a1 a2
  obtain ⟨a11, a12⟩ := a1
  obtain ⟨a21, a22⟩ := a2
  have ham : a ≤ m := by omega
  have hway : ∀ t, t < hp_T p → fr.testBit t = true → ∀ h, h < hp_H p → cl t < hp_w2 p h t → a ≤ hp_w2 p h t - cl t := fun t ht hb h hh hw => Nat.le_trans a21 (Nat.le_trans (a12 t ht hb) (hp_rt_way p cl t m (hp_H p) h hh hw))
  have hbud : ∀ h, h < hp_H p → hr_ab (hp_w2 p) (hp_T p) cl h + a * fb_ct (hr_pay (hp_w2 p) (fun t => fr.testBit t) cl h) (hp_T p) ≤ hp_pr p h := fun h hh => by
    have h1 := a22 h hh
    have h2 := hheld h hh
    omega
  have emax : (if (1 : Int32) < nI a then nI a else 1) = nI (max 1 a) := hp_imax (a := 1) (b := a) (by decide) (by omega)
  by_cases h0 : 0 < a
  · have hmx : max 1 a = a := by omega
    refine hd_up (fun i ρ S2 => hd_eqx [106, 107] S S2 ∧ (∀ t, t < 8 → S2.1 106 t = nI (if t < i ∧ fr.testBit t = true then cl t + a else cl t)) ∧ (∀ h, h < hp_H p → S2.1 107 h = nI (hp_pr p h - hr_ab (hp_w2 p) (hp_T p) cl h - a * fb_ct (hr_pay (hp_w2 p) (fun t => fr.testBit t) cl h) i)) ∧ ρ = [hd_vR 105, hd_vI (nI fr), hd_vI (nI m), hd_vI (nI a), hd_vI (nI i)]) (hp_T p) ?_ ?_ (Nat.zero_le _) ⟨hd_eqx_rf _ _, fun t ht => by rw [hcl t ht]; simp, fun h hh => by rw [hlf h hh]; simp [fb_ct], rfl⟩
    · rintro i ρ S2 K hi ⟨he, hc2, hl2, rfl⟩ hK
      have hx2 : hx_P 1 S2 p := hx_P_eqx he (by decide) hx
      have hx20 : S2.1 1 0 = nI (hp_T p) := hx2.1
      simp only [wc_X0_raiseSome_10, wb_X0_raiseSome_10, hd_mth, hd_rho0, hd_args, hd_wide, hd_sQ, hd_s0, hd_sI, hd_sJ, hd_sR, hd_sP, hd_sF, hd_sZ, hd_sG, hd_sA, hd_sL, hd_sB, hd_sO, hd_sN, hd_sD, hd_sW, hd_sE, hd_sRI, hd_sRZ, hd_sRJ, hd_sRR, hd_sRV, hd_sSw, hd_sw, hd_sCI, hd_sCL, hd_iK, hd_iL, hd_iU, hd_iB, hd_iD, hd_iJ, hd_iG, hd_iA, hd_iQ, hd_iC, hd_iN, hd_iE, hd_jK, hd_jL, hd_jU, hd_jB, hd_jD, hd_jH, hd_jI, hd_jA, hd_jQ, hd_jN, hd_rL, hd_rG, hd_rA, hd_rN, hd_cI, hd_c0, hd_cJ, hd_cX, hd_cA, hd_cO, hd_v0, hd_pI, hd_pJ, hd_pR, hd_nV, hd_nS, hd_get, hd_st, hd_stW, hd_cut, List.replicate, List.length_cons, List.length_nil, List.nil_append, List.cons_append, Nat.reduceAdd, Nat.reduceSub, Nat.reduceLeDiff, true_and, and_true, if_true, if_false, Bool.false_eq_true, List.append_nil, hs_o_0, hs_r_0_0, hs_t_0_0, hs_r_0_1, hs_t_0_1, hs_r_0_2, hs_t_0_2, hs_r_0_3, hs_t_0_3, hs_r_0_4, hs_t_0_4, hs_r_0_5, hs_t_0_5, hs_r_0_6, hs_t_0_6, hs_r_0_7, hs_t_0_7, hs_f_0_8, hs_o_1, hs_f_1_0, hs_f_1_1, hs_r_1_2, hs_t_1_2, hs_r_1_3, hs_t_1_3, hs_r_1_4, hs_t_1_4, hs_r_1_5, hs_t_1_5, hs_r_1_6, hs_t_1_6, hs_r_1_7, hs_t_1_7, hs_r_1_8, hs_t_1_8, hs_r_1_9, hs_t_1_9, hs_i_2, hs_i_3, hs_i_4, hs_i_5, hs_i_6, hs_i_7, hs_i_8, hs_i_9, hs_o_82, hs_r_82_0, hs_t_82_0, hs_f_82_1, hs_i_83, hs_o_84, hs_r_84_0, hs_t_84_0, hs_r_84_1, hs_t_84_1, hs_r_84_2, hs_t_84_2, hs_r_84_3, hs_t_84_3, hs_f_84_4, hs_i_85, hs_i_86, hs_i_87, hs_o_88, hs_r_88_0, hs_t_88_0, hs_r_88_1, hs_t_88_1, hs_r_88_2, hs_t_88_2, hs_r_88_3, hs_t_88_3, hs_r_88_4, hs_t_88_4, hs_r_88_5, hs_t_88_5, hs_r_88_6, hs_t_88_6, hs_r_88_7, hs_t_88_7, hs_f_88_8, hs_f_88_9, hs_i_89, hs_i_90, hs_i_91, hs_i_92, hs_i_93, hs_i_94, hs_i_95, hs_i_96, hs_i_97, hs_i_98, hs_i_99, hs_i_100, hs_i_101, hs_i_102, hs_o_103, hs_r_103_0, hs_t_103_0, hs_r_103_1, hs_t_103_1, hs_r_103_2, hs_t_103_2, hs_r_103_3, hs_t_103_3, hs_f_103_4, hs_i_104, hs_o_105, hs_r_105_0, hs_t_105_0, hs_r_105_1, hs_t_105_1, hs_r_105_2, hs_t_105_2, hs_i_106, hs_i_107, hs_o_108, hs_r_108_0, hs_t_108_0, hs_r_108_1, hs_t_108_1, hs_r_108_2, hs_t_108_2, hs_r_108_3, hs_t_108_3, hs_f_108_4, hs_i_109, hs_i_110, hs_o_111, hs_r_111_0, hs_t_111_0, hs_r_111_1, hs_t_111_1, hs_f_111_2, hs_f_111_3, hs_f_111_4, hs_i_112, hs_o_113, hs_f_113_0, hs_f_113_1, hs_f_113_2, hs_r_113_3, hs_t_113_3, hs_r_113_4, hs_t_113_4, hs_r_113_5, hs_t_113_5, hs_r_113_6, hs_t_113_6, hs_r_113_7, hs_t_113_7, hs_r_113_8, hs_t_113_8, hs_r_113_9, hs_t_113_9, hs_r_113_10, hs_t_113_10, hs_r_113_11, hs_t_113_11, hs_f_113_12, hs_f_113_13, hs_f_113_14, hs_r_113_15, hs_t_113_15, hs_f_113_16, hs_r_113_17, hs_t_113_17, hs_r_113_18, hs_t_113_18, hs_r_113_19, hs_t_113_19, hs_r_113_20, hs_t_113_20, hs_f_113_21, hs_f_113_22, hs_f_113_23, hs_r_113_24, hs_t_113_24, hs_f_113_25, hs_r_113_26, hs_t_113_26, hs_f_113_27, hs_i_114, hs_i_115, hs_i_116, hs_i_117, hs_i_118, hs_i_119, hs_i_120, hs_i_121, hs_i_122, hs_i_123, hs_i_124, hs_i_125, hs_i_126, hs_i_127, hs_i_128, hs_i_129, hx20, nI_ltI (show i < 2 ^ 31 by omega) (show hp_T p < 2 ^ 31 by omega), hi, decide_true, sp_X5_isIn, hb_f (show fr < 2 ^ 31 by omega) (show i < 31 by omega), Bool.not_eq_false, hd_t01, decide_eq_true_eq, hb_0lt (show a < 2 ^ 31 by omega), h0, emax, hmx, nI_1]
      by_cases hb : fr.testBit i = true
      · simp only [hb, if_true]
        have e0 : (if i < i ∧ fr.testBit i = true then cl i + a else cl i) = cl i := by simp
        refine sx_raiseBy hp hx2 (cl := fun t => if t < i ∧ fr.testBit t = true then cl t + a else cl t) (fun t => by have := hc t; split <;> omega) hc2 hl2 (show i < 8 by omega) (fun h hh hw => ?_) _ (fun S3 he3 hc3 hl3 => ?_)
        · simp only [Nat.lt_irrefl, false_and, if_false] at hw
          have hpay : hr_pay (hp_w2 p) (fun t => fr.testBit t) cl h i = true := by simp [hr_pay, hb, hw]
          have h3 := fb_ct_mono (hr_pay (hp_w2 p) (fun t => fr.testBit t) cl h) (show i + 1 ≤ hp_T p by omega)
          rw [fb_ct_succ, if_pos hpay] at h3
          have h4 := hbud h hh
          have h5 : a * (fb_ct (hr_pay (hp_w2 p) (fun t => fr.testBit t) cl h) i + 1) ≤ a * fb_ct (hr_pay (hp_w2 p) (fun t => fr.testBit t) cl h) (hp_T p) := Nat.mul_le_mul_left _ h3
          rw [Nat.mul_add, Nat.mul_one] at h5
          omega
        · simp only [true_and]
          refine hK _ _ ⟨hd_eqx_tr he he3, fun t ht => ?_, fun h hh => ?_, rfl⟩
          · rw [hc3 t ht]
            congr 1
            unfold hr_up
            by_cases hti : t = i
            · subst hti
              simp [hb]
            · simp only [hti, if_false]
              by_cases hfb2 : fr.testBit t = true
              · simp only [hfb2, and_true]
                by_cases hlt : t < i
                · simp [hlt, show t < i + 1 by omega]
                · simp [hlt, show ¬ t < i + 1 by omega]
              · simp [hfb2]
          · rw [hl3 h hh]
            congr 1
            simp only [Nat.lt_irrefl, false_and, if_false]
            rw [fb_ct_succ]
            by_cases hw : hp_w2 p h i ≤ cl i
            · have hpay : hr_pay (hp_w2 p) (fun t => fr.testBit t) cl h i = true := by simp [hr_pay, hb, hw]
              simp only [hw, if_true, hpay, Nat.mul_add, Nat.mul_one]
              omega
            · have hpay : hr_pay (hp_w2 p) (fun t => fr.testBit t) cl h i = false := by simp [hr_pay, hw]
              simp only [hw, if_false, hpay, Bool.false_eq_true, Nat.add_zero, Nat.sub_zero]
      · simp only [hb, if_false, Bool.false_eq_true]
        refine hK _ _ ⟨he, fun t ht => ?_, fun h hh => ?_, rfl⟩
        · rw [hc2 t ht]
          congr 1
          by_cases hti : t = i
          · subst hti
            simp [hb]
          · by_cases hlt : t < i
            · simp [hlt, show t < i + 1 by omega]
            · simp [hlt, show ¬ t < i + 1 by omega]
        · rw [hl2 h hh, fb_ct_succ]
          have hpay : hr_pay (hp_w2 p) (fun t => fr.testBit t) cl h i = false := by simp [hr_pay, hb]
          simp [hpay]
    · rintro ρ S2 K ⟨he, hc2, hl2, rfl⟩
      have hx2 : hx_P 1 S2 p := hx_P_eqx he (by decide) hx
      have hx20 : S2.1 1 0 = nI (hp_T p) := hx2.1
      simp only [wc_X0_raiseSome_10, hd_mth, hd_rho0, hd_args, hd_wide, hd_sQ, hd_s0, hd_sI, hd_sJ, hd_sR, hd_sP, hd_sF, hd_sZ, hd_sG, hd_sA, hd_sL, hd_sB, hd_sO, hd_sN, hd_sD, hd_sW, hd_sE, hd_sRI, hd_sRZ, hd_sRJ, hd_sRR, hd_sRV, hd_sSw, hd_sw, hd_sCI, hd_sCL, hd_iK, hd_iL, hd_iU, hd_iB, hd_iD, hd_iJ, hd_iG, hd_iA, hd_iQ, hd_iC, hd_iN, hd_iE, hd_jK, hd_jL, hd_jU, hd_jB, hd_jD, hd_jH, hd_jI, hd_jA, hd_jQ, hd_jN, hd_rL, hd_rG, hd_rA, hd_rN, hd_cI, hd_c0, hd_cJ, hd_cX, hd_cA, hd_cO, hd_v0, hd_pI, hd_pJ, hd_pR, hd_nV, hd_nS, hd_get, hd_st, hd_stW, hd_cut, List.replicate, List.length_cons, List.length_nil, List.nil_append, List.cons_append, Nat.reduceAdd, Nat.reduceSub, Nat.reduceLeDiff, true_and, and_true, if_true, if_false, Bool.false_eq_true, List.append_nil, hs_o_0, hs_r_0_0, hs_t_0_0, hs_r_0_1, hs_t_0_1, hs_r_0_2, hs_t_0_2, hs_r_0_3, hs_t_0_3, hs_r_0_4, hs_t_0_4, hs_r_0_5, hs_t_0_5, hs_r_0_6, hs_t_0_6, hs_r_0_7, hs_t_0_7, hs_f_0_8, hs_o_1, hs_f_1_0, hs_f_1_1, hs_r_1_2, hs_t_1_2, hs_r_1_3, hs_t_1_3, hs_r_1_4, hs_t_1_4, hs_r_1_5, hs_t_1_5, hs_r_1_6, hs_t_1_6, hs_r_1_7, hs_t_1_7, hs_r_1_8, hs_t_1_8, hs_r_1_9, hs_t_1_9, hs_i_2, hs_i_3, hs_i_4, hs_i_5, hs_i_6, hs_i_7, hs_i_8, hs_i_9, hs_o_82, hs_r_82_0, hs_t_82_0, hs_f_82_1, hs_i_83, hs_o_84, hs_r_84_0, hs_t_84_0, hs_r_84_1, hs_t_84_1, hs_r_84_2, hs_t_84_2, hs_r_84_3, hs_t_84_3, hs_f_84_4, hs_i_85, hs_i_86, hs_i_87, hs_o_88, hs_r_88_0, hs_t_88_0, hs_r_88_1, hs_t_88_1, hs_r_88_2, hs_t_88_2, hs_r_88_3, hs_t_88_3, hs_r_88_4, hs_t_88_4, hs_r_88_5, hs_t_88_5, hs_r_88_6, hs_t_88_6, hs_r_88_7, hs_t_88_7, hs_f_88_8, hs_f_88_9, hs_i_89, hs_i_90, hs_i_91, hs_i_92, hs_i_93, hs_i_94, hs_i_95, hs_i_96, hs_i_97, hs_i_98, hs_i_99, hs_i_100, hs_i_101, hs_i_102, hs_o_103, hs_r_103_0, hs_t_103_0, hs_r_103_1, hs_t_103_1, hs_r_103_2, hs_t_103_2, hs_r_103_3, hs_t_103_3, hs_f_103_4, hs_i_104, hs_o_105, hs_r_105_0, hs_t_105_0, hs_r_105_1, hs_t_105_1, hs_r_105_2, hs_t_105_2, hs_i_106, hs_i_107, hs_o_108, hs_r_108_0, hs_t_108_0, hs_r_108_1, hs_t_108_1, hs_r_108_2, hs_t_108_2, hs_r_108_3, hs_t_108_3, hs_f_108_4, hs_i_109, hs_i_110, hs_o_111, hs_r_111_0, hs_t_111_0, hs_r_111_1, hs_t_111_1, hs_f_111_2, hs_f_111_3, hs_f_111_4, hs_i_112, hs_o_113, hs_f_113_0, hs_f_113_1, hs_f_113_2, hs_r_113_3, hs_t_113_3, hs_r_113_4, hs_t_113_4, hs_r_113_5, hs_t_113_5, hs_r_113_6, hs_t_113_6, hs_r_113_7, hs_t_113_7, hs_r_113_8, hs_t_113_8, hs_r_113_9, hs_t_113_9, hs_r_113_10, hs_t_113_10, hs_r_113_11, hs_t_113_11, hs_f_113_12, hs_f_113_13, hs_f_113_14, hs_r_113_15, hs_t_113_15, hs_f_113_16, hs_r_113_17, hs_t_113_17, hs_r_113_18, hs_t_113_18, hs_r_113_19, hs_t_113_19, hs_r_113_20, hs_t_113_20, hs_f_113_21, hs_f_113_22, hs_f_113_23, hs_r_113_24, hs_t_113_24, hs_f_113_25, hs_r_113_26, hs_t_113_26, hs_f_113_27, hs_i_114, hs_i_115, hs_i_116, hs_i_117, hs_i_118, hs_i_119, hs_i_120, hs_i_121, hs_i_122, hs_i_123, hs_i_124, hs_i_125, hs_i_126, hs_i_127, hs_i_128, hs_i_129, hx20, Int32.lt_irrefl, decide_false, emax, hmx]
      refine hk S2 a (by omega) ham he (fun t ht => ?_) (fun h hh => ?_)
      · rw [hc2 t ht, hr_alike (F := fun t => fr.testBit t) hs hway hbud hheld a (Nat.le_refl _)]
        unfold hr_mid
        by_cases q : t < hp_T p ∧ fr.testBit t = true
        · simp [q]
        · simp [q]
      · rw [hl2 h hh, hr_alike_ab (F := fun t => fr.testBit t) hs hway hbud hheld h0 hh]
        congr 1
        omega
  · have ha0 : a = 0 := by omega
    have hmx : max 1 a = 1 := by omega
    refine hd_up (fun i ρ S2 => hd_eqx [106, 107] S S2 ∧ (∀ t, t < 8 → S2.1 106 t = nI (hr_rnd (hp_w2 p) (hp_pr p) (hp_T p) (hp_H p) cl i t)) ∧ (∀ h, h < hp_H p → S2.1 107 h = nI (hp_pr p h - hr_ab (hp_w2 p) (hp_T p) (hr_rnd (hp_w2 p) (hp_pr p) (hp_T p) (hp_H p) cl i) h)) ∧ ρ = [hd_vR 105, hd_vI (nI fr), hd_vI (nI m), hd_vI (nI a), hd_vI (nI i)]) (hp_T p) ?_ ?_ (Nat.zero_le _) ⟨hd_eqx_rf _ _, hcl, hlf, rfl⟩
    · rintro i ρ S2 K hi ⟨he, hc2, hl2, rfl⟩ hK
      have hx2 : hx_P 1 S2 p := hx_P_eqx he (by decide) hx
      have hx20 : S2.1 1 0 = nI (hp_T p) := hx2.1
      have hcb : ∀ t, hr_rnd (hp_w2 p) (hp_pr p) (hp_T p) (hp_H p) cl i t ≤ 1000000 := fun t => by
        have h1 := (hr_rnd_le (tr := hp_w2 p) (pr := hp_pr p) (T := hp_T p) (H := hp_H p) cl i t).2
        have h2 := hc t
        omega
      have hheld2 := hr_rnd_held hheld i
      simp only [wc_X0_raiseSome_10, wb_X0_raiseSome_10, hd_mth, hd_rho0, hd_args, hd_wide, hd_sQ, hd_s0, hd_sI, hd_sJ, hd_sR, hd_sP, hd_sF, hd_sZ, hd_sG, hd_sA, hd_sL, hd_sB, hd_sO, hd_sN, hd_sD, hd_sW, hd_sE, hd_sRI, hd_sRZ, hd_sRJ, hd_sRR, hd_sRV, hd_sSw, hd_sw, hd_sCI, hd_sCL, hd_iK, hd_iL, hd_iU, hd_iB, hd_iD, hd_iJ, hd_iG, hd_iA, hd_iQ, hd_iC, hd_iN, hd_iE, hd_jK, hd_jL, hd_jU, hd_jB, hd_jD, hd_jH, hd_jI, hd_jA, hd_jQ, hd_jN, hd_rL, hd_rG, hd_rA, hd_rN, hd_cI, hd_c0, hd_cJ, hd_cX, hd_cA, hd_cO, hd_v0, hd_pI, hd_pJ, hd_pR, hd_nV, hd_nS, hd_get, hd_st, hd_stW, hd_cut, List.replicate, List.length_cons, List.length_nil, List.nil_append, List.cons_append, Nat.reduceAdd, Nat.reduceSub, Nat.reduceLeDiff, true_and, and_true, if_true, if_false, Bool.false_eq_true, List.append_nil, hs_o_0, hs_r_0_0, hs_t_0_0, hs_r_0_1, hs_t_0_1, hs_r_0_2, hs_t_0_2, hs_r_0_3, hs_t_0_3, hs_r_0_4, hs_t_0_4, hs_r_0_5, hs_t_0_5, hs_r_0_6, hs_t_0_6, hs_r_0_7, hs_t_0_7, hs_f_0_8, hs_o_1, hs_f_1_0, hs_f_1_1, hs_r_1_2, hs_t_1_2, hs_r_1_3, hs_t_1_3, hs_r_1_4, hs_t_1_4, hs_r_1_5, hs_t_1_5, hs_r_1_6, hs_t_1_6, hs_r_1_7, hs_t_1_7, hs_r_1_8, hs_t_1_8, hs_r_1_9, hs_t_1_9, hs_i_2, hs_i_3, hs_i_4, hs_i_5, hs_i_6, hs_i_7, hs_i_8, hs_i_9, hs_o_82, hs_r_82_0, hs_t_82_0, hs_f_82_1, hs_i_83, hs_o_84, hs_r_84_0, hs_t_84_0, hs_r_84_1, hs_t_84_1, hs_r_84_2, hs_t_84_2, hs_r_84_3, hs_t_84_3, hs_f_84_4, hs_i_85, hs_i_86, hs_i_87, hs_o_88, hs_r_88_0, hs_t_88_0, hs_r_88_1, hs_t_88_1, hs_r_88_2, hs_t_88_2, hs_r_88_3, hs_t_88_3, hs_r_88_4, hs_t_88_4, hs_r_88_5, hs_t_88_5, hs_r_88_6, hs_t_88_6, hs_r_88_7, hs_t_88_7, hs_f_88_8, hs_f_88_9, hs_i_89, hs_i_90, hs_i_91, hs_i_92, hs_i_93, hs_i_94, hs_i_95, hs_i_96, hs_i_97, hs_i_98, hs_i_99, hs_i_100, hs_i_101, hs_i_102, hs_o_103, hs_r_103_0, hs_t_103_0, hs_r_103_1, hs_t_103_1, hs_r_103_2, hs_t_103_2, hs_r_103_3, hs_t_103_3, hs_f_103_4, hs_i_104, hs_o_105, hs_r_105_0, hs_t_105_0, hs_r_105_1, hs_t_105_1, hs_r_105_2, hs_t_105_2, hs_i_106, hs_i_107, hs_o_108, hs_r_108_0, hs_t_108_0, hs_r_108_1, hs_t_108_1, hs_r_108_2, hs_t_108_2, hs_r_108_3, hs_t_108_3, hs_f_108_4, hs_i_109, hs_i_110, hs_o_111, hs_r_111_0, hs_t_111_0, hs_r_111_1, hs_t_111_1, hs_f_111_2, hs_f_111_3, hs_f_111_4, hs_i_112, hs_o_113, hs_f_113_0, hs_f_113_1, hs_f_113_2, hs_r_113_3, hs_t_113_3, hs_r_113_4, hs_t_113_4, hs_r_113_5, hs_t_113_5, hs_r_113_6, hs_t_113_6, hs_r_113_7, hs_t_113_7, hs_r_113_8, hs_t_113_8, hs_r_113_9, hs_t_113_9, hs_r_113_10, hs_t_113_10, hs_r_113_11, hs_t_113_11, hs_f_113_12, hs_f_113_13, hs_f_113_14, hs_r_113_15, hs_t_113_15, hs_f_113_16, hs_r_113_17, hs_t_113_17, hs_r_113_18, hs_t_113_18, hs_r_113_19, hs_t_113_19, hs_r_113_20, hs_t_113_20, hs_f_113_21, hs_f_113_22, hs_f_113_23, hs_r_113_24, hs_t_113_24, hs_f_113_25, hs_r_113_26, hs_t_113_26, hs_f_113_27, hs_i_114, hs_i_115, hs_i_116, hs_i_117, hs_i_118, hs_i_119, hs_i_120, hs_i_121, hs_i_122, hs_i_123, hs_i_124, hs_i_125, hs_i_126, hs_i_127, hs_i_128, hs_i_129, hx20, nI_ltI (show i < 2 ^ 31 by omega) (show hp_T p < 2 ^ 31 by omega), hi, decide_true, sp_X5_isIn, hb_f (show fr < 2 ^ 31 by omega) (show i < 31 by omega), Bool.not_eq_false, hd_t01, decide_eq_true_eq, hb_0lt (show a < 2 ^ 31 by omega), h0, emax, hmx, nI_1]
      by_cases hb : fr.testBit i = true
      · simp only [hb, if_true, if_false]
        refine sx_isStopped hp hx2 hcb (fun h hh => by have := hprl h; omega) (hc2 i (by omega)) hl2 (show i < 8 by omega) _ ?_
        simp only [hd_t01]
        by_cases hst : hp_st p (hr_rnd (hp_w2 p) (hp_pr p) (hp_T p) (hp_H p) cl i) (fun h => hp_pr p h - hr_ab (hp_w2 p) (hp_T p) (hr_rnd (hp_w2 p) (hp_pr p) (hp_T p) (hp_H p) cl i) h) i = true
        · simp only [hst, decide_true, Bool.not_true, Bool.false_eq_true, if_false]
          obtain ⟨h, hh, h1, h2⟩ := hp_st_yes.mp hst
          have e : hr_rnd (hp_w2 p) (hp_pr p) (hp_T p) (hp_H p) cl (i + 1) = hr_rnd (hp_w2 p) (hp_pr p) (hp_T p) (hp_H p) cl i := hr_one_st hi hh (by have := hheld2 h hh; omega) h2
          refine hK _ _ ⟨he, fun t ht => by rw [e]; exact hc2 t ht, fun h hh => by rw [e]; exact hl2 h hh, rfl⟩
        · have hstf : hp_st p (hr_rnd (hp_w2 p) (hp_pr p) (hp_T p) (hp_H p) cl i) (fun h => hp_pr p h - hr_ab (hp_w2 p) (hp_T p) (hr_rnd (hp_w2 p) (hp_pr p) (hp_T p) (hp_H p) cl i) h) i = false := by simpa using hst
          simp only [hstf, Bool.false_eq_true, decide_false, Bool.not_false, if_true]
          have hgo : ∀ h, h < hp_H p → hp_w2 p h i ≤ hr_rnd (hp_w2 p) (hp_pr p) (hp_T p) (hp_H p) cl i i → hr_ab (hp_w2 p) (hp_T p) (hr_rnd (hp_w2 p) (hp_pr p) (hp_T p) (hp_H p) cl i) h < hp_pr p h := by
            intro h hh hw
            rcases Nat.lt_or_ge (hr_ab (hp_w2 p) (hp_T p) (hr_rnd (hp_w2 p) (hp_pr p) (hp_T p) (hp_H p) cl i) h) (hp_pr p h) with q | q
            · exact q
            · exact absurd (hp_st_yes.mpr ⟨h, hh, by omega, hw⟩) hst
          obtain ⟨g1, -⟩ := hr_one_go hi hheld2 hgo
          refine sx_raiseBy hp hx2 hcb hc2 hl2 (show i < 8 by omega) (fun h hh hw => by have := hgo h hh hw; omega) _ (fun S3 he3 hc3 hl3 => ?_)
          simp only [true_and]
          have e : hr_rnd (hp_w2 p) (hp_pr p) (hp_T p) (hp_H p) cl (i + 1) = hr_up (hr_rnd (hp_w2 p) (hp_pr p) (hp_T p) (hp_H p) cl i) i (hr_rnd (hp_w2 p) (hp_pr p) (hp_T p) (hp_H p) cl i i + 1) := g1
          refine hK _ _ ⟨hd_eqx_tr he he3, fun t ht => by rw [e]; exact hc3 t ht, fun h hh => ?_, rfl⟩
          rw [e, hl3 h hh, hr_ab_up (hp_w2 p) hi]
          congr 1
          split <;> omega
      · simp only [hb, if_false, Bool.false_eq_true]
        have hbf : fr.testBit i = false := by simpa using hb
        have e := hr_rnd_skip hheld hi (hs i hi hbf)
        refine hK _ _ ⟨he, fun t ht => by rw [e]; exact hc2 t ht, fun h hh => by rw [e]; exact hl2 h hh, rfl⟩
    · rintro ρ S2 K ⟨he, hc2, hl2, rfl⟩
      have hx2 : hx_P 1 S2 p := hx_P_eqx he (by decide) hx
      have hx20 : S2.1 1 0 = nI (hp_T p) := hx2.1
      simp only [wc_X0_raiseSome_10, hd_mth, hd_rho0, hd_args, hd_wide, hd_sQ, hd_s0, hd_sI, hd_sJ, hd_sR, hd_sP, hd_sF, hd_sZ, hd_sG, hd_sA, hd_sL, hd_sB, hd_sO, hd_sN, hd_sD, hd_sW, hd_sE, hd_sRI, hd_sRZ, hd_sRJ, hd_sRR, hd_sRV, hd_sSw, hd_sw, hd_sCI, hd_sCL, hd_iK, hd_iL, hd_iU, hd_iB, hd_iD, hd_iJ, hd_iG, hd_iA, hd_iQ, hd_iC, hd_iN, hd_iE, hd_jK, hd_jL, hd_jU, hd_jB, hd_jD, hd_jH, hd_jI, hd_jA, hd_jQ, hd_jN, hd_rL, hd_rG, hd_rA, hd_rN, hd_cI, hd_c0, hd_cJ, hd_cX, hd_cA, hd_cO, hd_v0, hd_pI, hd_pJ, hd_pR, hd_nV, hd_nS, hd_get, hd_st, hd_stW, hd_cut, List.replicate, List.length_cons, List.length_nil, List.nil_append, List.cons_append, Nat.reduceAdd, Nat.reduceSub, Nat.reduceLeDiff, true_and, and_true, if_true, if_false, Bool.false_eq_true, List.append_nil, hs_o_0, hs_r_0_0, hs_t_0_0, hs_r_0_1, hs_t_0_1, hs_r_0_2, hs_t_0_2, hs_r_0_3, hs_t_0_3, hs_r_0_4, hs_t_0_4, hs_r_0_5, hs_t_0_5, hs_r_0_6, hs_t_0_6, hs_r_0_7, hs_t_0_7, hs_f_0_8, hs_o_1, hs_f_1_0, hs_f_1_1, hs_r_1_2, hs_t_1_2, hs_r_1_3, hs_t_1_3, hs_r_1_4, hs_t_1_4, hs_r_1_5, hs_t_1_5, hs_r_1_6, hs_t_1_6, hs_r_1_7, hs_t_1_7, hs_r_1_8, hs_t_1_8, hs_r_1_9, hs_t_1_9, hs_i_2, hs_i_3, hs_i_4, hs_i_5, hs_i_6, hs_i_7, hs_i_8, hs_i_9, hs_o_82, hs_r_82_0, hs_t_82_0, hs_f_82_1, hs_i_83, hs_o_84, hs_r_84_0, hs_t_84_0, hs_r_84_1, hs_t_84_1, hs_r_84_2, hs_t_84_2, hs_r_84_3, hs_t_84_3, hs_f_84_4, hs_i_85, hs_i_86, hs_i_87, hs_o_88, hs_r_88_0, hs_t_88_0, hs_r_88_1, hs_t_88_1, hs_r_88_2, hs_t_88_2, hs_r_88_3, hs_t_88_3, hs_r_88_4, hs_t_88_4, hs_r_88_5, hs_t_88_5, hs_r_88_6, hs_t_88_6, hs_r_88_7, hs_t_88_7, hs_f_88_8, hs_f_88_9, hs_i_89, hs_i_90, hs_i_91, hs_i_92, hs_i_93, hs_i_94, hs_i_95, hs_i_96, hs_i_97, hs_i_98, hs_i_99, hs_i_100, hs_i_101, hs_i_102, hs_o_103, hs_r_103_0, hs_t_103_0, hs_r_103_1, hs_t_103_1, hs_r_103_2, hs_t_103_2, hs_r_103_3, hs_t_103_3, hs_f_103_4, hs_i_104, hs_o_105, hs_r_105_0, hs_t_105_0, hs_r_105_1, hs_t_105_1, hs_r_105_2, hs_t_105_2, hs_i_106, hs_i_107, hs_o_108, hs_r_108_0, hs_t_108_0, hs_r_108_1, hs_t_108_1, hs_r_108_2, hs_t_108_2, hs_r_108_3, hs_t_108_3, hs_f_108_4, hs_i_109, hs_i_110, hs_o_111, hs_r_111_0, hs_t_111_0, hs_r_111_1, hs_t_111_1, hs_f_111_2, hs_f_111_3, hs_f_111_4, hs_i_112, hs_o_113, hs_f_113_0, hs_f_113_1, hs_f_113_2, hs_r_113_3, hs_t_113_3, hs_r_113_4, hs_t_113_4, hs_r_113_5, hs_t_113_5, hs_r_113_6, hs_t_113_6, hs_r_113_7, hs_t_113_7, hs_r_113_8, hs_t_113_8, hs_r_113_9, hs_t_113_9, hs_r_113_10, hs_t_113_10, hs_r_113_11, hs_t_113_11, hs_f_113_12, hs_f_113_13, hs_f_113_14, hs_r_113_15, hs_t_113_15, hs_f_113_16, hs_r_113_17, hs_t_113_17, hs_r_113_18, hs_t_113_18, hs_r_113_19, hs_t_113_19, hs_r_113_20, hs_t_113_20, hs_f_113_21, hs_f_113_22, hs_f_113_23, hs_r_113_24, hs_t_113_24, hs_f_113_25, hs_r_113_26, hs_t_113_26, hs_f_113_27, hs_i_114, hs_i_115, hs_i_116, hs_i_117, hs_i_118, hs_i_119, hs_i_120, hs_i_121, hs_i_122, hs_i_123, hs_i_124, hs_i_125, hs_i_126, hs_i_127, hs_i_128, hs_i_129, hx20, Int32.lt_irrefl, decide_false, emax, hmx]
      exact hk S2 1 (Nat.le_refl _) hm1 he hc2 hl2
