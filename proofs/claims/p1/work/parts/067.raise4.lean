/-! raising to the end, on both sides -/
set_option maxHeartbeats 4000000 in
theorem sx_fill {c n : Nat} (hc : hs_sh[c]? = some (.inr (0, n))) (hl : hd_len hs_sh c = n) (hi : ∀ i, hd_in hs_sh 0 c i ↔ vp_in i n) (hn : n < 2 ^ 31) (v : Int32) (S : hd_S) (post : Option hd_V → hd_S → Prop) (hk : ∀ S2, hd_eqx [c] S S2 → (∀ j, j < n → S2.1 c j = v) → post none S2) : wm_J7_fill_53178 [hd_vR c, hd_vI v] S post := by
  simp only [wm_J7_fill_53178, wo_J7_fill_53178, hd_mth, hd_rho0, hd_args, hd_wide, hd_sQ, hd_s0, hd_sI, hd_sJ, hd_sR, hd_sP, hd_sF, hd_sZ, hd_sG, hd_sA, hd_sL, hd_sB, hd_sO, hd_sN, hd_sD, hd_sW, hd_sE, hd_sRI, hd_sRZ, hd_sRJ, hd_sRR, hd_sRV, hd_sSw, hd_sw, hd_sCI, hd_sCL, hd_iK, hd_iL, hd_iU, hd_iB, hd_iD, hd_iJ, hd_iG, hd_iA, hd_iQ, hd_iC, hd_iN, hd_iE, hd_jK, hd_jL, hd_jU, hd_jB, hd_jD, hd_jH, hd_jI, hd_jA, hd_jQ, hd_jN, hd_rL, hd_rG, hd_rA, hd_rN, hd_cI, hd_c0, hd_cJ, hd_cX, hd_cA, hd_cO, hd_v0, hd_pI, hd_pJ, hd_pR, hd_nV, hd_nS, hd_get, hd_st, hd_stW, hd_cut, List.replicate, List.length_cons, List.length_nil, List.nil_append, List.cons_append, Nat.reduceAdd, Nat.reduceSub, Nat.reduceLeDiff, true_and, and_true, if_true, if_false, Bool.false_eq_true, List.append_nil, hc, hl]
  refine ⟨⟨n, rfl⟩, ?_⟩
  refine hd_up (fun i ρ S2 => hd_eqx [c] S S2 ∧ (∀ j, j < i → S2.1 c j = v) ∧ ρ = [hd_vR c, hd_vI v, hd_vI (nI i), hd_vI (nI n)]) n ?_ ?_ (Nat.zero_le _) ⟨hd_eqx_rf _ _, fun j hj => by omega, rfl⟩
  · rintro i ρ S2 K hin ⟨he, hw, rfl⟩ hK
    simp only [wc_J7_fill_53178_5, wb_J7_fill_53178_5, hd_mth, hd_rho0, hd_args, hd_wide, hd_sQ, hd_s0, hd_sI, hd_sJ, hd_sR, hd_sP, hd_sF, hd_sZ, hd_sG, hd_sA, hd_sL, hd_sB, hd_sO, hd_sN, hd_sD, hd_sW, hd_sE, hd_sRI, hd_sRZ, hd_sRJ, hd_sRR, hd_sRV, hd_sSw, hd_sw, hd_sCI, hd_sCL, hd_iK, hd_iL, hd_iU, hd_iB, hd_iD, hd_iJ, hd_iG, hd_iA, hd_iQ, hd_iC, hd_iN, hd_iE, hd_jK, hd_jL, hd_jU, hd_jB, hd_jD, hd_jH, hd_jI, hd_jA, hd_jQ, hd_jN, hd_rL, hd_rG, hd_rA, hd_rN, hd_cI, hd_c0, hd_cJ, hd_cX, hd_cA, hd_cO, hd_v0, hd_pI, hd_pJ, hd_pR, hd_nV, hd_nS, hd_get, hd_st, hd_stW, hd_cut, List.replicate, List.length_cons, List.length_nil, List.nil_append, List.cons_append, Nat.reduceAdd, Nat.reduceSub, Nat.reduceLeDiff, true_and, and_true, if_true, if_false, Bool.false_eq_true, List.append_nil, hi, nI_ltI (show i < 2 ^ 31 by omega) (show n < 2 ^ 31 by omega), hin, decide_true, vp_in_nI hin hn, hd_cc (show i < 2147483648 by omega), nI_1]
    refine hK _ _ ⟨hd_eqx_w he (by simp), fun j hj => ?_, rfl⟩
    rw [hd_wI1]
    by_cases hji : j = i
    · rw [if_pos ⟨rfl, hji⟩]
    · rw [if_neg (fun q => hji q.2)]
      exact hw j (by omega)
  · rintro ρ S2 K ⟨he, hw, rfl⟩
    simp only [wc_J7_fill_53178_5, hd_mth, hd_rho0, hd_args, hd_wide, hd_sQ, hd_s0, hd_sI, hd_sJ, hd_sR, hd_sP, hd_sF, hd_sZ, hd_sG, hd_sA, hd_sL, hd_sB, hd_sO, hd_sN, hd_sD, hd_sW, hd_sE, hd_sRI, hd_sRZ, hd_sRJ, hd_sRR, hd_sRV, hd_sSw, hd_sw, hd_sCI, hd_sCL, hd_iK, hd_iL, hd_iU, hd_iB, hd_iD, hd_iJ, hd_iG, hd_iA, hd_iQ, hd_iC, hd_iN, hd_iE, hd_jK, hd_jL, hd_jU, hd_jB, hd_jD, hd_jH, hd_jI, hd_jA, hd_jQ, hd_jN, hd_rL, hd_rG, hd_rA, hd_rN, hd_cI, hd_c0, hd_cJ, hd_cX, hd_cA, hd_cO, hd_v0, hd_pI, hd_pJ, hd_pR, hd_nV, hd_nS, hd_get, hd_st, hd_stW, hd_cut, List.replicate, List.length_cons, List.length_nil, List.nil_append, List.cons_append, Nat.reduceAdd, Nat.reduceSub, Nat.reduceLeDiff, true_and, and_true, if_true, if_false, Bool.false_eq_true, List.append_nil, Int32.lt_irrefl, decide_false]
    exact hk S2 he hw
/-- the claims that 2000 rounds lead to -/
def hp_rs (p : hp_P) : Nat → Nat := hr_it (hp_w2 p) (hp_pr p) (hp_T p) (hp_H p) (fun _ => 0) 2000
theorem hp_rs_le (p : hp_P) (t : Nat) : hp_rs p t ≤ 2000 := by
  have := hr_it_le (tr := hp_w2 p) (pr := hp_pr p) (T := hp_T p) (H := hp_H p) (fun _ => 0) 2000 t
  unfold hp_rs
  omega
theorem hr_held0 (p : hp_P) : hr_held (hp_w2 p) (hp_pr p) (hp_T p) (hp_H p) (fun _ => 0) := by
  intro h _
  have : hr_ab (hp_w2 p) (hp_T p) (fun _ => 0) h = 0 := by
    unfold hr_ab
    rw [fb_sm_cong (g := fun _ => 0) (fun t _ => by simp), fb_sm_const, Nat.mul_zero]
  rw [this]
  exact Nat.zero_le _
/-- where nobody is free the rounds that are left do nothing -/
theorem hr_done {p : hp_P} {cl : Nat → Nat} (hheld : hr_held (hp_w2 p) (hp_pr p) (hp_T p) (hp_H p) cl) (h0 : hb_mk (fun t => !hp_st p cl (fun h => hp_pr p h - hr_ab (hp_w2 p) (hp_T p) cl h) t) (hp_T p) = 0) (n : Nat) : hr_it (hp_w2 p) (hp_pr p) (hp_T p) (hp_H p) cl n = cl := by
  refine hr_it_fix (hr_rnd_stop (fun t ht => ?_) _ (Nat.le_refl _)) n
  have hb := hb_mk_bit (fun t => !hp_st p cl (fun h => hp_pr p h - hr_ab (hp_w2 p) (hp_T p) cl h) t) (hp_T p) t
  rw [h0, Nat.zero_testBit] at hb
  have hst : hp_st p cl (fun h => hp_pr p h - hr_ab (hp_w2 p) (hp_T p) cl h) t = true := by simpa [ht] using hb
  obtain ⟨h, hh, h1, h2⟩ := hp_st_yes.mp hst
  have := hheld h hh
  exact ⟨h, hh, by omega, h2⟩
set_option maxHeartbeats 8000000 in
theorem sx_raiseAll {S : hd_S} {p : hp_P} (hp : hp_ok p) (hx : hx_P 1 S p) (post : Option hd_V → hd_S → Prop)
    (hk : ∀ S2, hd_eqx [106, 107] S S2 → (∀ t, t < 8 → S2.1 106 t = nI (hp_rs p t)) → post none S2) : wm_X0_raiseAll [hd_vR 105] S post := by
  have hT : hp_T p ≤ 8 := hp.1
  have hH : hp_H p ≤ 7 := hp.2.1
  have h256 : 2 ^ hp_T p ≤ 256 := Nat.pow_le_pow_right (n := 2) (by decide) hT
  have hprl : ∀ h, hp_pr p h ≤ 100000 := hp.2.2.2.2.2.2.1
  simp only [wm_X0_raiseAll, wo_X0_raiseAll, hd_mth, hd_rho0, hd_args, hd_wide, hd_sQ, hd_s0, hd_sI, hd_sJ, hd_sR, hd_sP, hd_sF, hd_sZ, hd_sG, hd_sA, hd_sL, hd_sB, hd_sO, hd_sN, hd_sD, hd_sW, hd_sE, hd_sRI, hd_sRZ, hd_sRJ, hd_sRR, hd_sRV, hd_sSw, hd_sw, hd_sCI, hd_sCL, hd_iK, hd_iL, hd_iU, hd_iB, hd_iD, hd_iJ, hd_iG, hd_iA, hd_iQ, hd_iC, hd_iN, hd_iE, hd_jK, hd_jL, hd_jU, hd_jB, hd_jD, hd_jH, hd_jI, hd_jA, hd_jQ, hd_jN, hd_rL, hd_rG, hd_rA, hd_rN, hd_cI, hd_c0, hd_cJ, hd_cX, hd_cA, hd_cO, hd_v0, hd_pI, hd_pJ, hd_pR, hd_nV, hd_nS, hd_get, hd_st, hd_stW, hd_cut, List.replicate, List.length_cons, List.length_nil, List.nil_append, List.cons_append, Nat.reduceAdd, Nat.reduceSub, Nat.reduceLeDiff, true_and, and_true, if_true, if_false, Bool.false_eq_true, List.append_nil, hs_o_0, hs_r_0_0, hs_t_0_0, hs_r_0_1, hs_t_0_1, hs_r_0_2, hs_t_0_2, hs_r_0_3, hs_t_0_3, hs_r_0_4, hs_t_0_4, hs_r_0_5, hs_t_0_5, hs_r_0_6, hs_t_0_6, hs_r_0_7, hs_t_0_7, hs_f_0_8, hs_o_1, hs_f_1_0, hs_f_1_1, hs_r_1_2, hs_t_1_2, hs_r_1_3, hs_t_1_3, hs_r_1_4, hs_t_1_4, hs_r_1_5, hs_t_1_5, hs_r_1_6, hs_t_1_6, hs_r_1_7, hs_t_1_7, hs_r_1_8, hs_t_1_8, hs_r_1_9, hs_t_1_9, hs_i_2, hs_i_3, hs_i_4, hs_i_5, hs_i_6, hs_i_7, hs_i_8, hs_i_9, hs_o_82, hs_r_82_0, hs_t_82_0, hs_f_82_1, hs_i_83, hs_o_84, hs_r_84_0, hs_t_84_0, hs_r_84_1, hs_t_84_1, hs_r_84_2, hs_t_84_2, hs_r_84_3, hs_t_84_3, hs_f_84_4, hs_i_85, hs_i_86, hs_i_87, hs_o_88, hs_r_88_0, hs_t_88_0, hs_r_88_1, hs_t_88_1, hs_r_88_2, hs_t_88_2, hs_r_88_3, hs_t_88_3, hs_r_88_4, hs_t_88_4, hs_r_88_5, hs_t_88_5, hs_r_88_6, hs_t_88_6, hs_r_88_7, hs_t_88_7, hs_f_88_8, hs_f_88_9, hs_i_89, hs_i_90, hs_i_91, hs_i_92, hs_i_93, hs_i_94, hs_i_95, hs_i_96, hs_i_97, hs_i_98, hs_i_99, hs_i_100, hs_i_101, hs_i_102, hs_o_103, hs_r_103_0, hs_t_103_0, hs_r_103_1, hs_t_103_1, hs_r_103_2, hs_t_103_2, hs_r_103_3, hs_t_103_3, hs_f_103_4, hs_i_104, hs_o_105, hs_r_105_0, hs_t_105_0, hs_r_105_1, hs_t_105_1, hs_r_105_2, hs_t_105_2, hs_i_106, hs_i_107, hs_o_108, hs_r_108_0, hs_t_108_0, hs_r_108_1, hs_t_108_1, hs_r_108_2, hs_t_108_2, hs_r_108_3, hs_t_108_3, hs_f_108_4, hs_i_109, hs_i_110, hs_o_111, hs_r_111_0, hs_t_111_0, hs_r_111_1, hs_t_111_1, hs_f_111_2, hs_f_111_3, hs_f_111_4, hs_i_112, hs_o_113, hs_f_113_0, hs_f_113_1, hs_f_113_2, hs_r_113_3, hs_t_113_3, hs_r_113_4, hs_t_113_4, hs_r_113_5, hs_t_113_5, hs_r_113_6, hs_t_113_6, hs_r_113_7, hs_t_113_7, hs_r_113_8, hs_t_113_8, hs_r_113_9, hs_t_113_9, hs_r_113_10, hs_t_113_10, hs_r_113_11, hs_t_113_11, hs_f_113_12, hs_f_113_13, hs_f_113_14, hs_r_113_15, hs_t_113_15, hs_f_113_16, hs_r_113_17, hs_t_113_17, hs_r_113_18, hs_t_113_18, hs_r_113_19, hs_t_113_19, hs_r_113_20, hs_t_113_20, hs_f_113_21, hs_f_113_22, hs_f_113_23, hs_r_113_24, hs_t_113_24, hs_f_113_25, hs_r_113_26, hs_t_113_26, hs_f_113_27, hs_i_114, hs_i_115, hs_i_116, hs_i_117, hs_i_118, hs_i_119, hs_i_120, hs_i_121, hs_i_122, hs_i_123, hs_i_124, hs_i_125, hs_i_126, hs_i_127, hs_i_128, hs_i_129]
  refine sx_fill hs_106 hs_l_106 hs_i_106 (by decide) 0 S _ (fun S1 he1 hz => ?_)
  have hx1 : hx_P 1 S1 p := hx_P_eqx he1 (by decide) hx
  have hx11 : S1.1 1 1 = nI (hp_H p) := hx1.2.1
  simp only [hx11, true_and]
  refine ⟨⟨7, 7, hs_5, hs_107, by decide, by decide, ?_, ?_, ?_⟩, ?_⟩
  · rw [Int32.lt_iff_toInt_lt, nI_toInt (by omega)]
    have : (0 : Int32).toInt = 0 := by decide
    omega
  · rw [hd_cc (show hp_H p < 2147483648 by omega)]
    have : (0 : Int32).toNatClampNeg = 0 := by decide
    omega
  · rw [hd_cc (show hp_H p < 2147483648 by omega)]
    have : (0 : Int32).toNatClampNeg = 0 := by decide
    omega
  rw [show (0 : Int32).toNatClampNeg = 0 from by decide, hd_cc (show hp_H p < 2147483648 by omega)]
  have he2 : hd_eqx [106, 107] S (hd_rowI S1 107 (va_cpy (S1.1 5) (S1.1 107) 0 0 (hp_H p))) := by
    refine ⟨fun c hc => ?_, he1.2⟩
    have h1 : c ≠ 106 := fun q => hc (by simp [q])
    have h2 : c ≠ 107 := fun q => hc (by simp [q])
    funext j
    rw [hd_rI1, if_neg h2, he1.1 c (by simp [h1])]
  have hx2 : hx_P 1 (hd_rowI S1 107 (va_cpy (S1.1 5) (S1.1 107) 0 0 (hp_H p))) p := hx_P_eqx he2 (by decide) hx
  have hc2 : ∀ t, t < 8 → (hd_rowI S1 107 (va_cpy (S1.1 5) (S1.1 107) 0 0 (hp_H p))).1 106 t = nI ((fun _ => 0) t : Nat) := fun t ht => by
    rw [hd_rI1, if_neg (by decide), hz t ht]
    rfl
  have hab0 : ∀ h, hr_ab (hp_w2 p) (hp_T p) (fun _ => 0) h = 0 := fun h => by
    unfold hr_ab
    rw [fb_sm_cong (g := fun _ => 0) (fun t _ => by simp), fb_sm_const, Nat.mul_zero]
  have hl2 : ∀ h, h < hp_H p → (hd_rowI S1 107 (va_cpy (S1.1 5) (S1.1 107) 0 0 (hp_H p))).1 107 h = nI (hp_pr p h - hr_ab (hp_w2 p) (hp_T p) (fun _ => 0) h) := fun h hh => by
    rw [hd_rI1, if_pos rfl, pk_cpy_in (Nat.zero_le _) (by omega), hab0]
    have : S1.1 5 (0 + (h - 0)) = nI (hp_pr p h) := by
      rw [show 0 + (h - 0) = h by omega]
      exact hx1.2.2.2.2.2.1 h (by omega)
    rw [this]
    rfl
  generalize hd_rowI S1 107 (va_cpy (S1.1 5) (S1.1 107) 0 0 (hp_H p)) = S2 at he2 hx2 hc2 hl2
  refine sx_freeTowns hp hx2 (fun t => by simp) (fun h _ => by have := hprl h; omega) hc2 hl2 _ ?_
  refine hd_up (fun i ρ S3 => hd_eqx [106, 107] S S3 ∧ ∃ r, r + i ≤ 2000 ∧ (∀ t, t < 8 → S3.1 106 t = nI (hr_it (hp_w2 p) (hp_pr p) (hp_T p) (hp_H p) (fun _ => 0) (2000 - r) t)) ∧ (∀ h, h < hp_H p → S3.1 107 h = nI (hp_pr p h - hr_ab (hp_w2 p) (hp_T p) (hr_it (hp_w2 p) (hp_pr p) (hp_T p) (hp_H p) (fun _ => 0) (2000 - r)) h)) ∧ ρ = [hd_vR 105, hd_vI (nI r), hd_vI (nI (hb_mk (fun t => !hp_st p (hr_it (hp_w2 p) (hp_pr p) (hp_T p) (hp_H p) (fun _ => 0) (2000 - r)) (fun h => hp_pr p h - hr_ab (hp_w2 p) (hp_T p) (hr_it (hp_w2 p) (hp_pr p) (hp_T p) (hp_H p) (fun _ => 0) (2000 - r)) h) t) (hp_T p))), hd_vI (nI i)]) 2000 ?_ ?_ (Nat.zero_le _) ⟨he2, 2000, by omega, hc2, hl2, rfl⟩
  · rintro i ρ S3 K hi ⟨he3, r, hr, hc3, hl3, rfl⟩ hK
    have hx3 : hx_P 1 S3 p := hx_P_eqx he3 (by decide) hx
    have hheld := hr_it_held (hr_held0 p) (2000 - r)
    have hcb : ∀ t, hr_it (hp_w2 p) (hp_pr p) (hp_T p) (hp_H p) (fun _ => 0) (2000 - r) t ≤ 998000 := fun t => by
      have := hr_it_le (tr := hp_w2 p) (pr := hp_pr p) (T := hp_T p) (H := hp_H p) (fun _ => 0) (2000 - r) t
      omega
    have hml := hb_mk_lt (fun t => !hp_st p (hr_it (hp_w2 p) (hp_pr p) (hp_T p) (hp_H p) (fun _ => 0) (2000 - r)) (fun h => hp_pr p h - hr_ab (hp_w2 p) (hp_T p) (hr_it (hp_w2 p) (hp_pr p) (hp_T p) (hp_H p) (fun _ => 0) (2000 - r)) h) t) (hp_T p)
    have hdone : (r = 0 ∨ hb_mk (fun t => !hp_st p (hr_it (hp_w2 p) (hp_pr p) (hp_T p) (hp_H p) (fun _ => 0) (2000 - r)) (fun h => hp_pr p h - hr_ab (hp_w2 p) (hp_T p) (hr_it (hp_w2 p) (hp_pr p) (hp_T p) (hp_H p) (fun _ => 0) (2000 - r)) h) t) (hp_T p) = 0) → post none S3 := by
      intro q
      refine hk S3 he3 (fun t ht => ?_)
      rw [hc3 t ht]
      congr 1
      unfold hp_rs
      rcases q with q | q
      · rw [q]
      · have e : 2000 = (2000 - r) + r := by omega
        have h1 := hr_it_add (tr := hp_w2 p) (pr := hp_pr p) (T := hp_T p) (H := hp_H p) (fun _ => 0) (2000 - r) r
        rw [← e] at h1
        rw [h1, hr_done hheld q r]
    by_cases h0 : 0 < r
    · by_cases hf : hb_mk (fun t => !hp_st p (hr_it (hp_w2 p) (hp_pr p) (hp_T p) (hp_H p) (fun _ => 0) (2000 - r)) (fun h => hp_pr p h - hr_ab (hp_w2 p) (hp_T p) (hr_it (hp_w2 p) (hp_pr p) (hp_T p) (hp_H p) (fun _ => 0) (2000 - r)) h) t) (hp_T p) = 0
      · simp only [wc_X0_raiseAll_42, hd_mth, hd_rho0, hd_args, hd_wide, hd_sQ, hd_s0, hd_sI, hd_sJ, hd_sR, hd_sP, hd_sF, hd_sZ, hd_sG, hd_sA, hd_sL, hd_sB, hd_sO, hd_sN, hd_sD, hd_sW, hd_sE, hd_sRI, hd_sRZ, hd_sRJ, hd_sRR, hd_sRV, hd_sSw, hd_sw, hd_sCI, hd_sCL, hd_iK, hd_iL, hd_iU, hd_iB, hd_iD, hd_iJ, hd_iG, hd_iA, hd_iQ, hd_iC, hd_iN, hd_iE, hd_jK, hd_jL, hd_jU, hd_jB, hd_jD, hd_jH, hd_jI, hd_jA, hd_jQ, hd_jN, hd_rL, hd_rG, hd_rA, hd_rN, hd_cI, hd_c0, hd_cJ, hd_cX, hd_cA, hd_cO, hd_v0, hd_pI, hd_pJ, hd_pR, hd_nV, hd_nS, hd_get, hd_st, hd_stW, hd_cut, List.replicate, List.length_cons, List.length_nil, List.nil_append, List.cons_append, Nat.reduceAdd, Nat.reduceSub, Nat.reduceLeDiff, true_and, and_true, if_true, if_false, Bool.false_eq_true, List.append_nil, show (2000 : Int32) = nI 2000 from rfl, nI_ltI (show i < 2 ^ 31 by omega) (show 2000 < 2 ^ 31 by omega), hi, decide_true, hb_0lt (show r < 2 ^ 31 by omega), h0, hf, show (nI 0 = (0 : Int32)) from rfl, Bool.not_true]
        exact hdone (Or.inr hf)
      · simp only [wc_X0_raiseAll_42, wb_X0_raiseAll_42, hd_mth, hd_rho0, hd_args, hd_wide, hd_sQ, hd_s0, hd_sI, hd_sJ, hd_sR, hd_sP, hd_sF, hd_sZ, hd_sG, hd_sA, hd_sL, hd_sB, hd_sO, hd_sN, hd_sD, hd_sW, hd_sE, hd_sRI, hd_sRZ, hd_sRJ, hd_sRR, hd_sRV, hd_sSw, hd_sw, hd_sCI, hd_sCL, hd_iK, hd_iL, hd_iU, hd_iB, hd_iD, hd_iJ, hd_iG, hd_iA, hd_iQ, hd_iC, hd_iN, hd_iE, hd_jK, hd_jL, hd_jU, hd_jB, hd_jD, hd_jH, hd_jI, hd_jA, hd_jQ, hd_jN, hd_rL, hd_rG, hd_rA, hd_rN, hd_cI, hd_c0, hd_cJ, hd_cX, hd_cA, hd_cO, hd_v0, hd_pI, hd_pJ, hd_pR, hd_nV, hd_nS, hd_get, hd_st, hd_stW, hd_cut, List.replicate, List.length_cons, List.length_nil, List.nil_append, List.cons_append, Nat.reduceAdd, Nat.reduceSub, Nat.reduceLeDiff, true_and, and_true, if_true, if_false, Bool.false_eq_true, List.append_nil, hs_o_0, hs_r_0_0, hs_t_0_0, hs_r_0_1, hs_t_0_1, hs_r_0_2, hs_t_0_2, hs_r_0_3, hs_t_0_3, hs_r_0_4, hs_t_0_4, hs_r_0_5, hs_t_0_5, hs_r_0_6, hs_t_0_6, hs_r_0_7, hs_t_0_7, hs_f_0_8, hs_o_1, hs_f_1_0, hs_f_1_1, hs_r_1_2, hs_t_1_2, hs_r_1_3, hs_t_1_3, hs_r_1_4, hs_t_1_4, hs_r_1_5, hs_t_1_5, hs_r_1_6, hs_t_1_6, hs_r_1_7, hs_t_1_7, hs_r_1_8, hs_t_1_8, hs_r_1_9, hs_t_1_9, hs_i_2, hs_i_3, hs_i_4, hs_i_5, hs_i_6, hs_i_7, hs_i_8, hs_i_9, hs_o_82, hs_r_82_0, hs_t_82_0, hs_f_82_1, hs_i_83, hs_o_84, hs_r_84_0, hs_t_84_0, hs_r_84_1, hs_t_84_1, hs_r_84_2, hs_t_84_2, hs_r_84_3, hs_t_84_3, hs_f_84_4, hs_i_85, hs_i_86, hs_i_87, hs_o_88, hs_r_88_0, hs_t_88_0, hs_r_88_1, hs_t_88_1, hs_r_88_2, hs_t_88_2, hs_r_88_3, hs_t_88_3, hs_r_88_4, hs_t_88_4, hs_r_88_5, hs_t_88_5, hs_r_88_6, hs_t_88_6, hs_r_88_7, hs_t_88_7, hs_f_88_8, hs_f_88_9, hs_i_89, hs_i_90, hs_i_91, hs_i_92, hs_i_93, hs_i_94, hs_i_95, hs_i_96, hs_i_97, hs_i_98, hs_i_99, hs_i_100, hs_i_101, hs_i_102, hs_o_103, hs_r_103_0, hs_t_103_0, hs_r_103_1, hs_t_103_1, hs_r_103_2, hs_t_103_2, hs_r_103_3, hs_t_103_3, hs_f_103_4, hs_i_104, hs_o_105, hs_r_105_0, hs_t_105_0, hs_r_105_1, hs_t_105_1, hs_r_105_2, hs_t_105_2, hs_i_106, hs_i_107, hs_o_108, hs_r_108_0, hs_t_108_0, hs_r_108_1, hs_t_108_1, hs_r_108_2, hs_t_108_2, hs_r_108_3, hs_t_108_3, hs_f_108_4, hs_i_109, hs_i_110, hs_o_111, hs_r_111_0, hs_t_111_0, hs_r_111_1, hs_t_111_1, hs_f_111_2, hs_f_111_3, hs_f_111_4, hs_i_112, hs_o_113, hs_f_113_0, hs_f_113_1, hs_f_113_2, hs_r_113_3, hs_t_113_3, hs_r_113_4, hs_t_113_4, hs_r_113_5, hs_t_113_5, hs_r_113_6, hs_t_113_6, hs_r_113_7, hs_t_113_7, hs_r_113_8, hs_t_113_8, hs_r_113_9, hs_t_113_9, hs_r_113_10, hs_t_113_10, hs_r_113_11, hs_t_113_11, hs_f_113_12, hs_f_113_13, hs_f_113_14, hs_r_113_15, hs_t_113_15, hs_f_113_16, hs_r_113_17, hs_t_113_17, hs_r_113_18, hs_t_113_18, hs_r_113_19, hs_t_113_19, hs_r_113_20, hs_t_113_20, hs_f_113_21, hs_f_113_22, hs_f_113_23, hs_r_113_24, hs_t_113_24, hs_f_113_25, hs_r_113_26, hs_t_113_26, hs_f_113_27, hs_i_114, hs_i_115, hs_i_116, hs_i_117, hs_i_118, hs_i_119, hs_i_120, hs_i_121, hs_i_122, hs_i_123, hs_i_124, hs_i_125, hs_i_126, hs_i_127, hs_i_128, hs_i_129, show (2000 : Int32) = nI 2000 from rfl, nI_ltI (show i < 2 ^ 31 by omega) (show 2000 < 2 ^ 31 by omega), hi, decide_true, hb_0lt (show r < 2 ^ 31 by omega), h0, hb_z (show hb_mk (fun t => !hp_st p (hr_it (hp_w2 p) (hp_pr p) (hp_T p) (hp_H p) (fun _ => 0) (2000 - r)) (fun h => hp_pr p h - hr_ab (hp_w2 p) (hp_T p) (hr_it (hp_w2 p) (hp_pr p) (hp_T p) (hp_H p) (fun _ => 0) (2000 - r)) h) t) (hp_T p) < 2 ^ 31 by omega), hf, decide_false, Bool.not_false, nI_1]
        refine sx_raiseSome hp hx3 hcb hheld hc3 hl3 rfl (show r ≤ 2000 by omega) h0 _ (fun S4 q hq1 hqr he4 hc4 hl4 => ?_)
        have he5 := hd_eqx_tr he3 he4
        have hx4 : hx_P 1 S4 p := hx_P_eqx he5 (by decide) hx
        have ei : hr_it (hp_w2 p) (hp_pr p) (hp_T p) (hp_H p) (hr_it (hp_w2 p) (hp_pr p) (hp_T p) (hp_H p) (fun _ => 0) (2000 - r)) q = hr_it (hp_w2 p) (hp_pr p) (hp_T p) (hp_H p) (fun _ => 0) (2000 - (r - q)) := by
          rw [← hr_it_add]
          congr 1
          omega
        rw [ei] at hc4 hl4
        simp only [pk_sub hqr]
        refine sx_freeTowns hp hx4 (fun t => by
          have := hr_it_le (tr := hp_w2 p) (pr := hp_pr p) (T := hp_T p) (H := hp_H p) (fun _ => 0) (2000 - (r - q)) t
          omega) (fun h _ => by have := hprl h; omega) hc4 hl4 _ ?_
        exact hK _ _ ⟨he5, r - q, by omega, hc4, hl4, rfl⟩
    · have hr0 : r = 0 := by omega
      simp only [wc_X0_raiseAll_42, hd_mth, hd_rho0, hd_args, hd_wide, hd_sQ, hd_s0, hd_sI, hd_sJ, hd_sR, hd_sP, hd_sF, hd_sZ, hd_sG, hd_sA, hd_sL, hd_sB, hd_sO, hd_sN, hd_sD, hd_sW, hd_sE, hd_sRI, hd_sRZ, hd_sRJ, hd_sRR, hd_sRV, hd_sSw, hd_sw, hd_sCI, hd_sCL, hd_iK, hd_iL, hd_iU, hd_iB, hd_iD, hd_iJ, hd_iG, hd_iA, hd_iQ, hd_iC, hd_iN, hd_iE, hd_jK, hd_jL, hd_jU, hd_jB, hd_jD, hd_jH, hd_jI, hd_jA, hd_jQ, hd_jN, hd_rL, hd_rG, hd_rA, hd_rN, hd_cI, hd_c0, hd_cJ, hd_cX, hd_cA, hd_cO, hd_v0, hd_pI, hd_pJ, hd_pR, hd_nV, hd_nS, hd_get, hd_st, hd_stW, hd_cut, List.replicate, List.length_cons, List.length_nil, List.nil_append, List.cons_append, Nat.reduceAdd, Nat.reduceSub, Nat.reduceLeDiff, true_and, and_true, if_true, if_false, Bool.false_eq_true, List.append_nil, show (2000 : Int32) = nI 2000 from rfl, nI_ltI (show i < 2 ^ 31 by omega) (show 2000 < 2 ^ 31 by omega), hi, decide_true, hb_0lt (show r < 2 ^ 31 by omega), h0, decide_false]
      exact hdone (Or.inl hr0)
  · rintro ρ S3 K ⟨he3, r, hr, hc3, hl3, rfl⟩
    have hr0 : r = 0 := by omega
    simp only [wc_X0_raiseAll_42, hd_mth, hd_rho0, hd_args, hd_wide, hd_sQ, hd_s0, hd_sI, hd_sJ, hd_sR, hd_sP, hd_sF, hd_sZ, hd_sG, hd_sA, hd_sL, hd_sB, hd_sO, hd_sN, hd_sD, hd_sW, hd_sE, hd_sRI, hd_sRZ, hd_sRJ, hd_sRR, hd_sRV, hd_sSw, hd_sw, hd_sCI, hd_sCL, hd_iK, hd_iL, hd_iU, hd_iB, hd_iD, hd_iJ, hd_iG, hd_iA, hd_iQ, hd_iC, hd_iN, hd_iE, hd_jK, hd_jL, hd_jU, hd_jB, hd_jD, hd_jH, hd_jI, hd_jA, hd_jQ, hd_jN, hd_rL, hd_rG, hd_rA, hd_rN, hd_cI, hd_c0, hd_cJ, hd_cX, hd_cA, hd_cO, hd_v0, hd_pI, hd_pJ, hd_pR, hd_nV, hd_nS, hd_get, hd_st, hd_stW, hd_cut, List.replicate, List.length_cons, List.length_nil, List.nil_append, List.cons_append, Nat.reduceAdd, Nat.reduceSub, Nat.reduceLeDiff, true_and, and_true, if_true, if_false, Bool.false_eq_true, List.append_nil, show (2000 : Int32) = nI 2000 from rfl, Int32.lt_irrefl, decide_false]
    refine hk S3 he3 (fun t ht => ?_)
    rw [hc3 t ht, hr0]
    rfl
