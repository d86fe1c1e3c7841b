/-! share -/
def hp_fk : Nat → Nat
  | 0 => 1
  | n + 1 => (n + 1) * hp_fk n
theorem hp_fk_fv : ∀ j, j < 9 → hd_fv j = nI (hp_fk j)
  | 0, _ => rfl
  | 1, _ => rfl
  | 2, _ => rfl
  | 3, _ => rfl
  | 4, _ => rfl
  | 5, _ => rfl
  | 6, _ => rfl
  | 7, _ => rfl
  | 8, _ => rfl
  | k + 9, h => by omega
theorem hp_fk_le : ∀ j, j < 8 → hp_fk j ≤ 5040 := by decide +kernel
theorem hp_fk_le9 : ∀ j, j < 9 → hp_fk j ≤ 40320 := by decide +kernel
theorem hp_fk_pos : ∀ n, 0 < hp_fk n
  | 0 => Nat.one_pos
  | n + 1 => Nat.mul_pos (Nat.succ_pos n) (hp_fk_pos n)
theorem hb_pc_hi {m T : Nat} (hm : m < 2 ^ T) : ∀ n, T ≤ n → hb_pc m n = hb_pc m T
  | 0, h => by rw [show T = 0 by omega]
  | n + 1, h => by
    by_cases hn : T = n + 1
    · rw [hn]
    · simp only [hb_pc]
      rw [hp_hi hm (show T ≤ n by omega), hb_pc_hi hm n (by omega)]
      rfl
theorem hb_pc_mis {m t : Nat} (hb : m.testBit t = false) : ∀ n, t < n → hb_pc m n + 1 ≤ n
  | 0, h => by omega
  | n + 1, h => by
    simp only [hb_pc]
    by_cases hn : t = n
    · have := hb_pc_le m n
      rw [← hn, hb]
      rw [← hn] at this
      show hb_pc m t + 0 + 1 ≤ t + 1
      omega
    · have := hb_pc_mis hb n (by omega)
      have h2 : (m.testBit n).toNat ≤ 1 := by cases m.testBit n <;> decide
      omega
theorem hp_sum_mono (p : hp_P) (s : Nat) {m m2 : Nat} (h : ∀ t, m.testBit t = true → m2.testBit t = true) : ∀ n, hp_sum p s m n ≤ hp_sum p s m2 n
  | 0 => Nat.le_refl _
  | n + 1 => by
    have := hp_sum_mono p s h n
    simp only [hp_sum]
    by_cases hb : m.testBit n = true
    · rw [if_pos hb, if_pos (h n hb)]
      omega
    · rw [if_neg hb]
      omega
theorem hp_hm_mono (p : hp_P) (N : Nat) {m m2 : Nat} (h : ∀ t, m.testBit t = true → m2.testBit t = true) : ∀ s, hp_hm p N m s ≤ hp_hm p N m2 s
  | 0 => Nat.le_refl _
  | s + 1 => by
    have h1 := hp_hm_mono p N h s
    have h2 := hp_sum_mono p (s + 1) h (hp_T p)
    simp only [hp_hm]
    omega
theorem hp_hc_mono (p : hp_P) (m t : Nat) : hp_hc p m ≤ hp_hc p (m ||| 2 ^ t) := by
  unfold hp_hc
  by_cases h0 : m = 0
  · rw [if_pos h0]
    exact Nat.zero_le _
  · have h1 : m ||| 2 ^ t ≠ 0 := fun q => h0 (Nat.eq_of_testBit_eq (fun i => by
      have := congrArg (fun x => Nat.testBit x i) q
      simp only [Nat.testBit_or, Nat.zero_testBit, Bool.or_eq_false_iff] at this
      rw [this.1, Nat.zero_testBit]))
    rw [if_neg h0, if_neg h1]
    exact hp_hm_mono p _ (fun i hi => by rw [Nat.testBit_or, hi]; rfl) _
theorem hp_hc_le2 {p : hp_P} (hp : hp_ok p) (hH : hp_H p ≠ 0) (m : Nat) : hp_hc p m ≤ 160700000 := by
  have h2 : 2 ^ 1 ≤ 2 ^ hp_H p := Nat.pow_le_pow_right (n := 2) (by decide) (show 1 ≤ hp_H p by omega)
  obtain ⟨k, hk2⟩ : ∃ k, 2 ^ hp_H p - 1 = k + 1 := ⟨2 ^ hp_H p - 2, by omega⟩
  have h3 := hp_hv_le hp (k + 1) m
  unfold hp_hv at h3
  unfold hp_hc
  split
  · omega
  · rw [hk2]
    simp only [hp_hm]
    omega
/-- what a town adds in all orders, over the heaps below k -/
def hp_avt (p : hp_P) (t m : Nat) : Nat := if m.testBit t then 0 else hp_fk (hb_pc m 8) * hp_fk (hp_T p - 1 - hb_pc m 8) * (hp_hc p (m ||| 2 ^ t) - hp_hc p m)
def hp_av (p : hp_P) (t : Nat) : Nat → Nat := fb_sm (hp_avt p t)
theorem hp_avt_le {p : hp_P} (hp : hp_ok p) (hH : hp_H p ≠ 0) {t m : Nat} (ht : t < hp_T p) (hm : m < 2 ^ hp_T p) : hp_avt p t m ≤ 4082037120000000 := by
  have hT := hp.1
  unfold hp_avt
  cases hb : m.testBit t with
  | true => simp
  | false =>
    have e : hb_pc m 8 = hb_pc m (hp_T p) := hb_pc_hi hm 8 hT
    have e2 := hb_pc_mis hb (hp_T p) ht
    have h1 := hp_fk_le (hb_pc m 8) (by omega)
    have h2 := hp_fk_le (hp_T p - 1 - hb_pc m 8) (by omega)
    have h3 := hp_hc_le2 hp hH (m ||| 2 ^ t)
    have h4 : hp_hc p (m ||| 2 ^ t) - hp_hc p m ≤ 160700000 := by omega
    rw [if_neg (by decide)]
    exact Nat.le_trans (Nat.mul_le_mul (Nat.mul_le_mul h1 h2) h4) (by decide)
theorem hp_av_63 {p : hp_P} (hp : hp_ok p) (hH : hp_H p ≠ 0) {t k : Nat} (ht : t < hp_T p) (hk : k ≤ 2 ^ hp_T p) : hp_av p t k < 2 ^ 62 := by
  have h1 : hp_av p t k ≤ k * 4082037120000000 := fb_sm_bound (fun m hm => hp_avt_le hp hH ht (Nat.lt_of_lt_of_le hm hk))
  have h256 : 2 ^ hp_T p ≤ 256 := Nat.pow_le_pow_right (n := 2) (by decide) hp.1
  exact Nat.lt_of_le_of_lt (Nat.le_trans h1 (Nat.mul_le_mul_right _ (Nat.le_trans hk h256))) (by decide)
/-- one step, in longs -/
theorem hp_av_step {p : hp_P} (hp : hp_ok p) (hH : hp_H p ≠ 0) {t m : Nat} (hb : m.testBit t = false) : lN (hp_av p t m) + lN (hp_fk (hb_pc m 8)) * lN (hp_fk (hp_T p - 1 - hb_pc m 8)) * (nI (hp_hc p (m ||| 2 ^ t)) - nI (hp_hc p m)).toInt64 = lN (hp_av p t (m + 1)) := by
  have h1 := hp_hc_mono p m t
  have h2 := hp_hc_le2 hp hH (m ||| 2 ^ t)
  rw [pk_sub h1, nI_l (by omega), lN_mul, lN_mul, lN_add]
  congr 1
  unfold hp_av
  rw [fb_sm_succ]
  unfold hp_avt
  rw [hb]
  rfl
theorem hp_av_skip {p : hp_P} {t m : Nat} (hb : m.testBit t = true) : hp_av p t (m + 1) = hp_av p t m := by
  unfold hp_av
  rw [fb_sm_succ]
  unfold hp_avt
  rw [if_pos hb]
  rfl
set_option maxHeartbeats 8000000 in
theorem sx_added {S : hd_S} {p : hp_P} (hp : hp_ok p) (hH0 : hp_H p ≠ 0) (hx : hx_P 1 S p) (tab : ∀ m, m < 2 ^ hp_T p → S.1 109 m = nI (hp_hc p m)) {t : Nat} (ht : t < hp_T p) (post : Option hd_V → hd_S → Prop) (hk : post (some (hd_vJ (lN (hp_av p t (2 ^ hp_T p))))) S) : wm_X2_addedInAllOrders [hd_vR 108, hd_vI (nI t)] S post := by
  have hT : hp_T p ≤ 8 := hp.1
  have h256 : 2 ^ hp_T p ≤ 256 := Nat.pow_le_pow_right (n := 2) (by decide) hT
  have hpos : 0 < 2 ^ hp_T p := Nat.two_pow_pos _
  have hx0 : S.1 1 0 = nI (hp_T p) := hx.1
  simp only [wm_X2_addedInAllOrders, wo_X2_addedInAllOrders, hd_mth, hd_rho0, hd_args, hd_wide, hq_sQ, hd_s0, hq_sI, hq_sJ, hd_sR, hd_sP, hd_sF, hd_sZ, hd_sG, hd_sA, hd_sL, hd_sB, hd_sO, hd_sN, hd_sD, hd_sW, hd_sE, hd_sRI, hd_sRZ, hd_sRJ, hd_sRR, hd_sRV, hd_sSw, hd_sw, hd_sCI, hd_sCL, hd_iK, hd_iL, hd_iU, hd_iB, hd_iD, hd_iJ, hd_iG, hd_iA, hd_iQ, hd_iC, hd_iN, hd_iE, hd_jK, hd_jL, hd_jU, hd_jB, hd_jD, hd_jH, hd_jI, hd_jA, hd_jQ, hd_jN, hd_rL, hd_rG, hd_rA, hd_rN, hd_cI, hd_c0, hd_cJ, hd_cX, hd_cA, hd_cO, hd_v0, hd_pI, hd_pJ, hd_pR, hd_nV, hd_nS, hd_get, hd_st, hd_stW, hd_cut, List.replicate, List.length_cons, List.length_nil, List.nil_append, List.cons_append, Nat.reduceAdd, Nat.reduceSub, Nat.reduceLeDiff, true_and, and_true, if_true, if_false, Bool.false_eq_true, List.append_nil, hd_iF, List.set_cons_succ, List.set_cons_zero]
  refine hd_up (fun m ρ S2 => S2 = S ∧ ∃ x y z w : hd_V, ρ = [hd_vR 108, hd_vI (nI t), hd_vJ (lN (hp_av p t m)), hd_vN, hd_vI (nI m), x, y, z, w]) (2 ^ hp_T p) ?_ ?_ (Nat.zero_le _) ⟨rfl, _, _, _, _, rfl⟩
  · rintro m ρ S2 K hm ⟨rfl, x, y, z, w, rfl⟩ hK
    have hle : m ≤ 2 ^ hp_T p - 1 := by omega
    simp only [wc_X2_addedInAllOrders_5, wb_X2_addedInAllOrders_5, hd_mth, hd_rho0, hd_args, hd_wide, hq_sQ, hd_s0, hq_sI, hq_sJ, hd_sR, hd_sP, hd_sF, hd_sZ, hd_sG, hd_sA, hd_sL, hd_sB, hd_sO, hd_sN, hd_sD, hd_sW, hd_sE, hd_sRI, hd_sRZ, hd_sRJ, hd_sRR, hd_sRV, hd_sSw, hd_sw, hd_sCI, hd_sCL, hd_iK, hd_iL, hd_iU, hd_iB, hd_iD, hd_iJ, hd_iG, hd_iA, hd_iQ, hd_iC, hd_iN, hd_iE, hd_jK, hd_jL, hd_jU, hd_jB, hd_jD, hd_jH, hd_jI, hd_jA, hd_jQ, hd_jN, hd_rL, hd_rG, hd_rA, hd_rN, hd_cI, hd_c0, hd_cJ, hd_cX, hd_cA, hd_cO, hd_v0, hd_pI, hd_pJ, hd_pR, hd_nV, hd_nS, hd_get, hd_st, hd_stW, hd_cut, List.replicate, List.length_cons, List.length_nil, List.nil_append, List.cons_append, Nat.reduceAdd, Nat.reduceSub, Nat.reduceLeDiff, true_and, and_true, if_true, if_false, Bool.false_eq_true, List.append_nil, hs_o_0, hs_r_0_0, hs_t_0_0, hs_r_0_1, hs_t_0_1, hs_r_0_2, hs_t_0_2, hs_r_0_3, hs_t_0_3, hs_r_0_4, hs_t_0_4, hs_r_0_5, hs_t_0_5, hs_r_0_6, hs_t_0_6, hs_r_0_7, hs_t_0_7, hs_f_0_8, hs_o_1, hs_f_1_0, hs_f_1_1, hs_r_1_2, hs_t_1_2, hs_r_1_3, hs_t_1_3, hs_r_1_4, hs_t_1_4, hs_r_1_5, hs_t_1_5, hs_r_1_6, hs_t_1_6, hs_r_1_7, hs_t_1_7, hs_r_1_8, hs_t_1_8, hs_r_1_9, hs_t_1_9, hs_i_2, hs_i_3, hs_i_4, hs_i_5, hs_i_6, hs_i_7, hs_i_8, hs_i_9, hs_o_82, hs_r_82_0, hs_t_82_0, hs_f_82_1, hs_i_83, hs_o_84, hs_r_84_0, hs_t_84_0, hs_r_84_1, hs_t_84_1, hs_r_84_2, hs_t_84_2, hs_r_84_3, hs_t_84_3, hs_f_84_4, hs_i_85, hs_i_86, hs_i_87, hs_o_88, hs_r_88_0, hs_t_88_0, hs_r_88_1, hs_t_88_1, hs_r_88_2, hs_t_88_2, hs_r_88_3, hs_t_88_3, hs_r_88_4, hs_t_88_4, hs_r_88_5, hs_t_88_5, hs_r_88_6, hs_t_88_6, hs_r_88_7, hs_t_88_7, hs_f_88_8, hs_f_88_9, hs_i_89, hs_i_90, hs_i_91, hs_i_92, hs_i_93, hs_i_94, hs_i_95, hs_i_96, hs_i_97, hs_i_98, hs_i_99, hs_i_100, hs_i_101, hs_i_102, hs_o_103, hs_r_103_0, hs_t_103_0, hs_r_103_1, hs_t_103_1, hs_r_103_2, hs_t_103_2, hs_r_103_3, hs_t_103_3, hs_f_103_4, hs_i_104, hs_o_105, hs_r_105_0, hs_t_105_0, hs_r_105_1, hs_t_105_1, hs_r_105_2, hs_t_105_2, hs_i_106, hs_i_107, hs_o_108, hs_r_108_0, hs_t_108_0, hs_r_108_1, hs_t_108_1, hs_r_108_2, hs_t_108_2, hs_r_108_3, hs_t_108_3, hs_f_108_4, hs_i_109, hs_i_110, hs_o_111, hs_r_111_0, hs_t_111_0, hs_r_111_1, hs_t_111_1, hs_f_111_2, hs_f_111_3, hs_f_111_4, hs_i_112, hs_o_113, hs_f_113_0, hs_f_113_1, hs_f_113_2, hs_r_113_3, hs_t_113_3, hs_r_113_4, hs_t_113_4, hs_r_113_5, hs_t_113_5, hs_r_113_6, hs_t_113_6, hs_r_113_7, hs_t_113_7, hs_r_113_8, hs_t_113_8, hs_r_113_9, hs_t_113_9, hs_r_113_10, hs_t_113_10, hs_r_113_11, hs_t_113_11, hs_f_113_12, hs_f_113_13, hs_f_113_14, hs_r_113_15, hs_t_113_15, hs_f_113_16, hs_r_113_17, hs_t_113_17, hs_r_113_18, hs_t_113_18, hs_r_113_19, hs_t_113_19, hs_r_113_20, hs_t_113_20, hs_f_113_21, hs_f_113_22, hs_f_113_23, hs_r_113_24, hs_t_113_24, hs_f_113_25, hs_r_113_26, hs_t_113_26, hs_f_113_27, hs_i_114, hs_i_115, hs_i_116, hs_i_117, hs_i_118, hs_i_119, hs_i_120, hs_i_121, hs_i_122, hs_i_123, hs_i_124, hs_i_125, hs_i_126, hs_i_127, hs_i_128, hs_i_129, hd_iF, List.set_cons_succ, List.set_cons_zero, sp_X5_everyTown, hx0, hb_all (show hp_T p < 31 by omega), hb_le (show m < 2 ^ 31 by omega) (show 2 ^ hp_T p - 1 < 2 ^ 31 by omega), hle, decide_true, sp_X5_isIn, hd_t01, hd_dn1, hb_f (show m < 2 ^ 31 by omega) (show t < 31 by omega), decide_eq_true_eq]
    cases hb : m.testBit t with
    | true =>
      simp only [Bool.true_eq_false, not_false_iff, not_true, if_false, nI_1]
      exact hK _ _ ⟨rfl, _, _, _, _, by rw [hp_av_skip hb]⟩
    | false =>
      have e : hb_pc m 8 = hb_pc m (hp_T p) := hb_pc_hi hm 8 hT
      have e2 := hb_pc_mis hb (hp_T p) ht
      have hm2 : m ||| 2 ^ t < 2 ^ hp_T p := Nat.or_lt_two_pow hm (Nat.pow_lt_pow_right (by decide) ht)
      have t1 := tab m hm
      have t2 := tab (m ||| 2 ^ t) hm2
      have f1 := hp_fk_fv (hb_pc m 8) (by omega)
      have f2 := hp_fk_fv (hp_T p - 1 - hb_pc m 8) (by omega)
      have f3 := hp_fk_le (hb_pc m 8) (by omega)
      have f4 := hp_fk_le (hp_T p - 1 - hb_pc m 8) (by omega)
      have e3 : nI (hp_T p) - 1 - nI (hb_pc m 8) = nI (hp_T p - 1 - hb_pc m 8) := by
        rw [show (1 : Int32) = nI 1 from rfl, pk_sub (show 1 ≤ hp_T p by omega), pk_sub (show hb_pc m 8 ≤ hp_T p - 1 by omega)]
      have st := hp_av_step hp hH0 hb
      simp only [if_false, eq_self, not_true, not_false_iff, if_true, hx0, sp_bitCount m (show m < 256 by omega), e3, vp_in_nI (show hb_pc m 8 < 9 by omega) (show 9 < 2 ^ 31 by decide), hd_cc (show hb_pc m 8 < 2147483648 by omega), vp_in_nI (show hp_T p - 1 - hb_pc m 8 < 9 by omega) (show 9 < 2 ^ 31 by decide), hd_cc (show hp_T p - 1 - hb_pc m 8 < 2147483648 by omega), f1, f2, nI_l (show hp_fk (hb_pc m 8) < 2 ^ 31 by omega), nI_l (show hp_fk (hp_T p - 1 - hb_pc m 8) < 2 ^ 31 by omega), hb_pow t (by omega), fa_or, vp_in_nI (show m ||| 2 ^ t < 256 by omega) (show 256 < 2 ^ 31 by decide), hd_cc (show m ||| 2 ^ t < 2147483648 by omega), vp_in_nI (show m < 256 by omega) (show 256 < 2 ^ 31 by decide), hd_cc (show m < 2147483648 by omega), t1, t2, st, true_and, nI_1]
      exact hK _ _ ⟨rfl, _, _, _, _, rfl⟩
  · rintro ρ S2 K ⟨rfl, x, y, z, w, rfl⟩
    have hle : ¬ 2 ^ hp_T p ≤ 2 ^ hp_T p - 1 := by omega
    simp only [wc_X2_addedInAllOrders_5, hd_mth, hd_rho0, hd_args, hd_wide, hq_sQ, hd_s0, hq_sI, hq_sJ, hd_sR, hd_sP, hd_sF, hd_sZ, hd_sG, hd_sA, hd_sL, hd_sB, hd_sO, hd_sN, hd_sD, hd_sW, hd_sE, hd_sRI, hd_sRZ, hd_sRJ, hd_sRR, hd_sRV, hd_sSw, hd_sw, hd_sCI, hd_sCL, hd_iK, hd_iL, hd_iU, hd_iB, hd_iD, hd_iJ, hd_iG, hd_iA, hd_iQ, hd_iC, hd_iN, hd_iE, hd_jK, hd_jL, hd_jU, hd_jB, hd_jD, hd_jH, hd_jI, hd_jA, hd_jQ, hd_jN, hd_rL, hd_rG, hd_rA, hd_rN, hd_cI, hd_c0, hd_cJ, hd_cX, hd_cA, hd_cO, hd_v0, hd_pI, hd_pJ, hd_pR, hd_nV, hd_nS, hd_get, hd_st, hd_stW, hd_cut, List.replicate, List.length_cons, List.length_nil, List.nil_append, List.cons_append, Nat.reduceAdd, Nat.reduceSub, Nat.reduceLeDiff, true_and, and_true, if_true, if_false, Bool.false_eq_true, List.append_nil, hs_o_0, hs_r_0_0, hs_t_0_0, hs_r_0_1, hs_t_0_1, hs_r_0_2, hs_t_0_2, hs_r_0_3, hs_t_0_3, hs_r_0_4, hs_t_0_4, hs_r_0_5, hs_t_0_5, hs_r_0_6, hs_t_0_6, hs_r_0_7, hs_t_0_7, hs_f_0_8, hs_o_1, hs_f_1_0, hs_f_1_1, hs_r_1_2, hs_t_1_2, hs_r_1_3, hs_t_1_3, hs_r_1_4, hs_t_1_4, hs_r_1_5, hs_t_1_5, hs_r_1_6, hs_t_1_6, hs_r_1_7, hs_t_1_7, hs_r_1_8, hs_t_1_8, hs_r_1_9, hs_t_1_9, hs_i_2, hs_i_3, hs_i_4, hs_i_5, hs_i_6, hs_i_7, hs_i_8, hs_i_9, hs_o_82, hs_r_82_0, hs_t_82_0, hs_f_82_1, hs_i_83, hs_o_84, hs_r_84_0, hs_t_84_0, hs_r_84_1, hs_t_84_1, hs_r_84_2, hs_t_84_2, hs_r_84_3, hs_t_84_3, hs_f_84_4, hs_i_85, hs_i_86, hs_i_87, hs_o_88, hs_r_88_0, hs_t_88_0, hs_r_88_1, hs_t_88_1, hs_r_88_2, hs_t_88_2, hs_r_88_3, hs_t_88_3, hs_r_88_4, hs_t_88_4, hs_r_88_5, hs_t_88_5, hs_r_88_6, hs_t_88_6, hs_r_88_7, hs_t_88_7, hs_f_88_8, hs_f_88_9, hs_i_89, hs_i_90, hs_i_91, hs_i_92, hs_i_93, hs_i_94, hs_i_95, hs_i_96, hs_i_97, hs_i_98, hs_i_99, hs_i_100, hs_i_101, hs_i_102, hs_o_103, hs_r_103_0, hs_t_103_0, hs_r_103_1, hs_t_103_1, hs_r_103_2, hs_t_103_2, hs_r_103_3, hs_t_103_3, hs_f_103_4, hs_i_104, hs_o_105, hs_r_105_0, hs_t_105_0, hs_r_105_1, hs_t_105_1, hs_r_105_2, hs_t_105_2, hs_i_106, hs_i_107, hs_o_108, hs_r_108_0, hs_t_108_0, hs_r_108_1, hs_t_108_1, hs_r_108_2, hs_t_108_2, hs_r_108_3, hs_t_108_3, hs_f_108_4, hs_i_109, hs_i_110, hs_o_111, hs_r_111_0, hs_t_111_0, hs_r_111_1, hs_t_111_1, hs_f_111_2, hs_f_111_3, hs_f_111_4, hs_i_112, hs_o_113, hs_f_113_0, hs_f_113_1, hs_f_113_2, hs_r_113_3, hs_t_113_3, hs_r_113_4, hs_t_113_4, hs_r_113_5, hs_t_113_5, hs_r_113_6, hs_t_113_6, hs_r_113_7, hs_t_113_7, hs_r_113_8, hs_t_113_8, hs_r_113_9, hs_t_113_9, hs_r_113_10, hs_t_113_10, hs_r_113_11, hs_t_113_11, hs_f_113_12, hs_f_113_13, hs_f_113_14, hs_r_113_15, hs_t_113_15, hs_f_113_16, hs_r_113_17, hs_t_113_17, hs_r_113_18, hs_t_113_18, hs_r_113_19, hs_t_113_19, hs_r_113_20, hs_t_113_20, hs_f_113_21, hs_f_113_22, hs_f_113_23, hs_r_113_24, hs_t_113_24, hs_f_113_25, hs_r_113_26, hs_t_113_26, hs_f_113_27, hs_i_114, hs_i_115, hs_i_116, hs_i_117, hs_i_118, hs_i_119, hs_i_120, hs_i_121, hs_i_122, hs_i_123, hs_i_124, hs_i_125, hs_i_126, hs_i_127, hs_i_128, hs_i_129, sp_X5_everyTown, hx0, hb_all (show hp_T p < 31 by omega), hb_le (show 2 ^ hp_T p < 2 ^ 31 by omega) (show 2 ^ hp_T p - 1 < 2 ^ 31 by omega), hle, decide_false]
    exact hk
/-! the greatest common divisor -/
def hp_E (i a b : Nat) : Prop := (i % 2 = 0 → b < 2 ^ (16 - i / 2)) ∧ (i % 2 = 1 → b < a ∧ a < 2 ^ (16 - i / 2))
theorem hp_E_lt {i a b : Nat} (h : hp_E i a b) (hb : b ≠ 0) : i ≤ 32 := by
  refine Classical.byContradiction fun hc => ?_
  have h9 : 16 - i / 2 = 0 := by omega
  rcases Nat.mod_two_eq_zero_or_one i with h0 | h1
  · have := h.1 h0
    rw [h9] at this
    omega
  · have := h.2 h1
    rw [h9] at this
    omega
theorem hp_E_step {i a b : Nat} (h : hp_E i a b) (hb : b ≠ 0) : hp_E (i + 1) b (a % b) := by
  have hm : a % b < b := Nat.mod_lt _ (by omega)
  refine ⟨fun h0 => ?_, fun h1 => ⟨hm, ?_⟩⟩
  · obtain ⟨h2, h3⟩ := h.2 (by omega)
    have h32 := hp_E_lt h hb
    have hd := Nat.div_add_mod a b
    have hq : 1 ≤ a / b := Nat.div_pos (by omega) (by omega)
    have hbq : b ≤ b * (a / b) := Nat.le_mul_of_pos_right b hq
    have hi : i / 2 ≤ 15 := by omega
    have e1 : 16 - i / 2 = (16 - (i + 1) / 2) + 1 := by omega
    rw [e1, Nat.pow_succ] at h3
    omega
  · have := h.1 (by omega)
    have e1 : (i + 1) / 2 = i / 2 := by omega
    rw [e1]
    exact this
theorem hp_0L : (0 : Int64) = lN 0 := rfl
theorem hp_1L : (1 : Int64) = lN 1 := rfl
theorem hp_lne0 {b : Nat} (h : b < 2 ^ 63) : (lN b = 0) ↔ b = 0 := pk_lEQ h (by decide)
theorem hp_m1 {G : Nat} (h0 : 0 < G) (h : G < 2 ^ 63) : (if (if (0 : Int64) < lN G then lN G else -lN G) < 1 then (1 : Int64) else (if (0 : Int64) < lN G then lN G else -lN G)) = lN G := by
  have e1 : (0 : Int64) < lN G := (pk_lLT (a := 0) (by decide) h).mpr h0
  have e2 : ¬ lN G < 1 := fun q => by
    have := (pk_lLT (b := 1) h (by decide)).mp q
    omega
  rw [if_pos e1, if_neg e2]
set_option maxHeartbeats 8000000 in
theorem sx_gcd {A B : Nat} (hA : A < 2 ^ 63) (hB : B < 65536) (hB0 : 0 < B) (S : hd_S) (post : Option hd_V → hd_S → Prop) (hk : post (some (hd_vJ (lN (Nat.gcd A B)))) S) : wm_X8_commonDivisor [hd_vJ (lN A), hd_vJ (lN B)] S post := by
  simp only [wm_X8_commonDivisor, wo_X8_commonDivisor, hd_mth, hd_rho0, hd_args, hd_wide, hq_sQ, hd_s0, hq_sI, hq_sJ, hd_sR, hd_sP, hd_sF, hd_sZ, hd_sG, hd_sA, hd_sL, hd_sB, hd_sO, hd_sN, hd_sD, hd_sW, hd_sE, hd_sRI, hd_sRZ, hd_sRJ, hd_sRR, hd_sRV, hd_sSw, hd_sw, hd_sCI, hd_sCL, hd_iK, hd_iL, hd_iU, hd_iB, hd_iD, hd_iJ, hd_iG, hd_iA, hd_iQ, hd_iC, hd_iN, hd_iE, hd_jK, hd_jL, hd_jU, hd_jB, hd_jD, hd_jH, hd_jI, hd_jA, hd_jQ, hd_jN, hd_rL, hd_rG, hd_rA, hd_rN, hd_cI, hd_c0, hd_cJ, hd_cX, hd_cA, hd_cO, hd_v0, hd_pI, hd_pJ, hd_pR, hd_nV, hd_nS, hd_get, hd_st, hd_stW, hd_cut, List.replicate, List.length_cons, List.length_nil, List.nil_append, List.cons_append, Nat.reduceAdd, Nat.reduceSub, Nat.reduceLeDiff, true_and, and_true, if_true, if_false, Bool.false_eq_true, List.append_nil, List.set_cons_succ, List.set_cons_zero]
  refine hd_dn (fun j ρ S2 => S2 = S ∧ ∃ i a b : Nat, i + j = 40 ∧ hp_E i a b ∧ a < 2 ^ 63 ∧ b < 65536 ∧ 0 < a + b ∧ Nat.gcd a b = Nat.gcd A B ∧ ∃ x y : hd_V, ρ = [hd_vJ (lN A), hd_vN, hd_vJ (lN B), hd_vN, hd_vJ (lN a), hd_vN, hd_vJ (lN b), hd_vN, hd_vI (nI i), x, y]) ?_ (i0 := 40) ⟨rfl, 0, A, B, rfl, ⟨fun _ => hB, fun h => by omega⟩, hA, hB, by omega, rfl, _, _, rfl⟩
  rintro j ρ S2 K ⟨rfl, i, a, b, hij, hE, ha, hb, hab, hg, x, y, rfl⟩ hK
  by_cases h0 : b = 0
  · have hG : 0 < a := by omega
    have hga : Nat.gcd A B = a := by rw [← hg, h0, Nat.gcd_zero_right]
    have hz : (lN b = (0 : Int64)) = True := eq_true (by rw [h0]; rfl)
    simp only [wc_X8_commonDivisor_9, hd_mth, hd_rho0, hd_args, hd_wide, hq_sQ, hd_s0, hq_sI, hq_sJ, hd_sR, hd_sP, hd_sF, hd_sZ, hd_sG, hd_sA, hd_sL, hd_sB, hd_sO, hd_sN, hd_sD, hd_sW, hd_sE, hd_sRI, hd_sRZ, hd_sRJ, hd_sRR, hd_sRV, hd_sSw, hd_sw, hd_sCI, hd_sCL, hd_iK, hd_iL, hd_iU, hd_iB, hd_iD, hd_iJ, hd_iG, hd_iA, hd_iQ, hd_iC, hd_iN, hd_iE, hd_jK, hd_jL, hd_jU, hd_jB, hd_jD, hd_jH, hd_jI, hd_jA, hd_jQ, hd_jN, hd_rL, hd_rG, hd_rA, hd_rN, hd_cI, hd_c0, hd_cJ, hd_cX, hd_cA, hd_cO, hd_v0, hd_pI, hd_pJ, hd_pR, hd_nV, hd_nS, hd_get, hd_st, hd_stW, hd_cut, List.replicate, List.length_cons, List.length_nil, List.nil_append, List.cons_append, Nat.reduceAdd, Nat.reduceSub, Nat.reduceLeDiff, true_and, and_true, if_true, if_false, Bool.false_eq_true, List.append_nil, hz, decide_true, Bool.not_true, Bool.false_eq_true, ite_self, if_false, hp_m1 hG ha]
    rw [hga] at hk
    exact hk
  · have hi := hp_E_lt hE h0
    have hlt : i < 200 := by omega
    simp only [wc_X8_commonDivisor_9, wb_X8_commonDivisor_9, hd_mth, hd_rho0, hd_args, hd_wide, hq_sQ, hd_s0, hq_sI, hq_sJ, hd_sR, hd_sP, hd_sF, hd_sZ, hd_sG, hd_sA, hd_sL, hd_sB, hd_sO, hd_sN, hd_sD, hd_sW, hd_sE, hd_sRI, hd_sRZ, hd_sRJ, hd_sRR, hd_sRV, hd_sSw, hd_sw, hd_sCI, hd_sCL, hd_iK, hd_iL, hd_iU, hd_iB, hd_iD, hd_iJ, hd_iG, hd_iA, hd_iQ, hd_iC, hd_iN, hd_iE, hd_jK, hd_jL, hd_jU, hd_jB, hd_jD, hd_jH, hd_jI, hd_jA, hd_jQ, hd_jN, hd_rL, hd_rG, hd_rA, hd_rN, hd_cI, hd_c0, hd_cJ, hd_cX, hd_cA, hd_cO, hd_v0, hd_pI, hd_pJ, hd_pR, hd_nV, hd_nS, hd_get, hd_st, hd_stW, hd_cut, List.replicate, List.length_cons, List.length_nil, List.nil_append, List.cons_append, Nat.reduceAdd, Nat.reduceSub, Nat.reduceLeDiff, true_and, and_true, if_true, if_false, Bool.false_eq_true, List.append_nil, List.set_cons_succ, List.set_cons_zero, show (200 : Int32) = nI 200 from rfl, nI_ltI (show i < 2 ^ 31 by omega) (show 200 < 2 ^ 31 by omega), hlt, decide_true, hp_lne0 (show b < 2 ^ 63 by omega), h0, decide_false, Bool.not_false, not_false_iff, pk_lRem ha (show 0 < b by omega) (show b < 2 ^ 63 by omega), nI_1]
    have hm : a % b < b := Nat.mod_lt _ (by omega)
    exact hK (j - 1) _ _ (by omega) ⟨rfl, i + 1, b, a % b, by omega, hp_E_step hE h0, by omega, by omega, by omega, by rw [← hg, Nat.gcd_comm a b, Nat.gcd_rec b a, Nat.gcd_comm], _, _, rfl⟩
set_option maxHeartbeats 8000000 in
theorem sp_orders (n : Nat) (hn : n < 9) (S : hd_S) (post : Option hd_V → hd_S → Prop) (hk : post (some (hd_vJ (lN (hp_fk n)))) S) : wm_X9_orders [hd_vI (nI n)] S post := by
  simp only [wm_X9_orders, wo_X9_orders, hd_mth, hd_rho0, hd_args, hd_wide, hq_sQ, hd_s0, hq_sI, hq_sJ, hd_sR, hd_sP, hd_sF, hd_sZ, hd_sG, hd_sA, hd_sL, hd_sB, hd_sO, hd_sN, hd_sD, hd_sW, hd_sE, hd_sRI, hd_sRZ, hd_sRJ, hd_sRR, hd_sRV, hd_sSw, hd_sw, hd_sCI, hd_sCL, hd_iK, hd_iL, hd_iU, hd_iB, hd_iD, hd_iJ, hd_iG, hd_iA, hd_iQ, hd_iC, hd_iN, hd_iE, hd_jK, hd_jL, hd_jU, hd_jB, hd_jD, hd_jH, hd_jI, hd_jA, hd_jQ, hd_jN, hd_rL, hd_rG, hd_rA, hd_rN, hd_cI, hd_c0, hd_cJ, hd_cX, hd_cA, hd_cO, hd_v0, hd_pI, hd_pJ, hd_pR, hd_nV, hd_nS, hd_get, hd_st, hd_stW, hd_cut, List.replicate, List.length_cons, List.length_nil, List.nil_append, List.cons_append, Nat.reduceAdd, Nat.reduceSub, Nat.reduceLeDiff, true_and, and_true, if_true, if_false, Bool.false_eq_true, List.append_nil, List.set_cons_succ, List.set_cons_zero]
  refine hd_up (fun i ρ S2 => S2 = S ∧ ρ = [hd_vI (nI n), hd_vJ (lN (hp_fk (i + 1))), hd_vN, hd_vI (nI (i + 2))]) (n - 1) ?_ ?_ (Nat.zero_le _) ⟨rfl, rfl⟩
  · rintro i ρ S2 K hi ⟨rfl, rfl⟩ hK
    have hle : i + 2 ≤ n := by omega
    simp only [wc_X9_orders_4, wb_X9_orders_4, hd_mth, hd_rho0, hd_args, hd_wide, hq_sQ, hd_s0, hq_sI, hq_sJ, hd_sR, hd_sP, hd_sF, hd_sZ, hd_sG, hd_sA, hd_sL, hd_sB, hd_sO, hd_sN, hd_sD, hd_sW, hd_sE, hd_sRI, hd_sRZ, hd_sRJ, hd_sRR, hd_sRV, hd_sSw, hd_sw, hd_sCI, hd_sCL, hd_iK, hd_iL, hd_iU, hd_iB, hd_iD, hd_iJ, hd_iG, hd_iA, hd_iQ, hd_iC, hd_iN, hd_iE, hd_jK, hd_jL, hd_jU, hd_jB, hd_jD, hd_jH, hd_jI, hd_jA, hd_jQ, hd_jN, hd_rL, hd_rG, hd_rA, hd_rN, hd_cI, hd_c0, hd_cJ, hd_cX, hd_cA, hd_cO, hd_v0, hd_pI, hd_pJ, hd_pR, hd_nV, hd_nS, hd_get, hd_st, hd_stW, hd_cut, List.replicate, List.length_cons, List.length_nil, List.nil_append, List.cons_append, Nat.reduceAdd, Nat.reduceSub, Nat.reduceLeDiff, true_and, and_true, if_true, if_false, Bool.false_eq_true, List.append_nil, List.set_cons_succ, List.set_cons_zero, hb_le (show i + 2 < 2 ^ 31 by omega) (show n < 2 ^ 31 by omega), hle, decide_true, nI_l (show i + 2 < 2 ^ 31 by omega), lN_mul, nI_1]
    refine hK _ _ ⟨rfl, ?_⟩
    rw [show hp_fk (i + 1 + 1) = hp_fk (i + 1) * (i + 2) from Nat.mul_comm _ _]
  · rintro ρ S2 K ⟨rfl, rfl⟩
    have hle : ¬ (n - 1 + 2 ≤ n) := by omega
    simp only [wc_X9_orders_4, hd_mth, hd_rho0, hd_args, hd_wide, hq_sQ, hd_s0, hq_sI, hq_sJ, hd_sR, hd_sP, hd_sF, hd_sZ, hd_sG, hd_sA, hd_sL, hd_sB, hd_sO, hd_sN, hd_sD, hd_sW, hd_sE, hd_sRI, hd_sRZ, hd_sRJ, hd_sRR, hd_sRV, hd_sSw, hd_sw, hd_sCI, hd_sCL, hd_iK, hd_iL, hd_iU, hd_iB, hd_iD, hd_iJ, hd_iG, hd_iA, hd_iQ, hd_iC, hd_iN, hd_iE, hd_jK, hd_jL, hd_jU, hd_jB, hd_jD, hd_jH, hd_jI, hd_jA, hd_jQ, hd_jN, hd_rL, hd_rG, hd_rA, hd_rN, hd_cI, hd_c0, hd_cJ, hd_cX, hd_cA, hd_cO, hd_v0, hd_pI, hd_pJ, hd_pR, hd_nV, hd_nS, hd_get, hd_st, hd_stW, hd_cut, List.replicate, List.length_cons, List.length_nil, List.nil_append, List.cons_append, Nat.reduceAdd, Nat.reduceSub, Nat.reduceLeDiff, true_and, and_true, if_true, if_false, Bool.false_eq_true, List.append_nil, hb_le (show n - 1 + 2 < 2 ^ 31 by omega) (show n < 2 ^ 31 by omega), hle, decide_false]
    by_cases h0 : n = 0
    · subst h0
      exact hk
    · rw [show n - 1 + 1 = n by omega]
      exact hk
/-- what share answers -/
def hp_sh (p : hp_P) (t : Nat) (part : Int32) : Int64 := lN ((if part = 0 then hp_av p t (2 ^ hp_T p) else hp_fk (hp_T p)) / Nat.gcd (hp_av p t (2 ^ hp_T p)) (hp_fk (hp_T p)))
set_option maxHeartbeats 8000000 in
theorem sx_share {S : hd_S} {p : hp_P} {n : Nat} {q : Nat → hp_P} {hand : Nat} {cl : Nat → Nat} (hI : hx_I S p n q hand cl) (town part : Int32) (post : Option hd_V → hd_S → Prop)
    (hk1 : ¬ ((0 ≤ town ∧ town < nI (hp_T p)) ∧ (0 ≤ part ∧ part ≤ 1)) → post (some (hd_vJ (-3))) S)
    (hk2 : ((0 ≤ town ∧ town < nI (hp_T p)) ∧ (0 ≤ part ∧ part ≤ 1)) → hp_H p = 0 → post (some (hd_vJ (-1))) S)
    (hk3 : ((0 ≤ town ∧ town < nI (hp_T p)) ∧ (0 ≤ part ∧ part ≤ 1)) → hp_H p ≠ 0 → ∀ t, t < hp_T p → town = nI t → ∀ S2, hx_I S2 p n q hand cl → hx_fr S S2 → post (some (hd_vJ (hp_sh p t part))) S2) : wm_X8_share [hd_vR 0, hd_vI town, hd_vI part] S post := by
  have hok := hI.1.1
  have hx := hI.2.1
  have hT : hp_T p ≤ 8 := hok.1
  have hH : hp_H p ≤ 7 := hok.2.1
  have hx0 : S.1 1 0 = nI (hp_T p) := hx.1
  have hx1 : S.1 1 1 = nI (hp_H p) := hx.2.1
  simp only [wm_X8_share, wo_X8_share, hd_mth, hd_rho0, hd_args, hd_wide, hq_sQ, hd_s0, hq_sI, hq_sJ, hd_sR, hd_sP, hd_sF, hd_sZ, hd_sG, hd_sA, hd_sL, hd_sB, hd_sO, hd_sN, hd_sD, hd_sW, hd_sE, hd_sRI, hd_sRZ, hd_sRJ, hd_sRR, hd_sRV, hd_sSw, hd_sw, hd_sCI, hd_sCL, hd_iK, hd_iL, hd_iU, hd_iB, hd_iD, hd_iJ, hd_iG, hd_iA, hd_iQ, hd_iC, hd_iN, hd_iE, hd_jK, hd_jL, hd_jU, hd_jB, hd_jD, hd_jH, hd_jI, hd_jA, hd_jQ, hd_jN, hd_rL, hd_rG, hd_rA, hd_rN, hd_cI, hd_c0, hd_cJ, hd_cX, hd_cA, hd_cO, hd_v0, hd_pI, hd_pJ, hd_pR, hd_nV, hd_nS, hd_get, hd_st, hd_stW, hd_cut, List.replicate, List.length_cons, List.length_nil, List.nil_append, List.cons_append, Nat.reduceAdd, Nat.reduceSub, Nat.reduceLeDiff, true_and, and_true, if_true, if_false, Bool.false_eq_true, List.append_nil, hs_o_0, hs_r_0_0, hs_t_0_0, hs_r_0_1, hs_t_0_1, hs_r_0_2, hs_t_0_2, hs_r_0_3, hs_t_0_3, hs_r_0_4, hs_t_0_4, hs_r_0_5, hs_t_0_5, hs_r_0_6, hs_t_0_6, hs_r_0_7, hs_t_0_7, hs_f_0_8, hs_o_1, hs_f_1_0, hs_f_1_1, hs_r_1_2, hs_t_1_2, hs_r_1_3, hs_t_1_3, hs_r_1_4, hs_t_1_4, hs_r_1_5, hs_t_1_5, hs_r_1_6, hs_t_1_6, hs_r_1_7, hs_t_1_7, hs_r_1_8, hs_t_1_8, hs_r_1_9, hs_t_1_9, hs_i_2, hs_i_3, hs_i_4, hs_i_5, hs_i_6, hs_i_7, hs_i_8, hs_i_9, hs_o_82, hs_r_82_0, hs_t_82_0, hs_f_82_1, hs_i_83, hs_o_84, hs_r_84_0, hs_t_84_0, hs_r_84_1, hs_t_84_1, hs_r_84_2, hs_t_84_2, hs_r_84_3, hs_t_84_3, hs_f_84_4, hs_i_85, hs_i_86, hs_i_87, hs_o_88, hs_r_88_0, hs_t_88_0, hs_r_88_1, hs_t_88_1, hs_r_88_2, hs_t_88_2, hs_r_88_3, hs_t_88_3, hs_r_88_4, hs_t_88_4, hs_r_88_5, hs_t_88_5, hs_r_88_6, hs_t_88_6, hs_r_88_7, hs_t_88_7, hs_f_88_8, hs_f_88_9, hs_i_89, hs_i_90, hs_i_91, hs_i_92, hs_i_93, hs_i_94, hs_i_95, hs_i_96, hs_i_97, hs_i_98, hs_i_99, hs_i_100, hs_i_101, hs_i_102, hs_o_103, hs_r_103_0, hs_t_103_0, hs_r_103_1, hs_t_103_1, hs_r_103_2, hs_t_103_2, hs_r_103_3, hs_t_103_3, hs_f_103_4, hs_i_104, hs_o_105, hs_r_105_0, hs_t_105_0, hs_r_105_1, hs_t_105_1, hs_r_105_2, hs_t_105_2, hs_i_106, hs_i_107, hs_o_108, hs_r_108_0, hs_t_108_0, hs_r_108_1, hs_t_108_1, hs_r_108_2, hs_t_108_2, hs_r_108_3, hs_t_108_3, hs_f_108_4, hs_i_109, hs_i_110, hs_o_111, hs_r_111_0, hs_t_111_0, hs_r_111_1, hs_t_111_1, hs_f_111_2, hs_f_111_3, hs_f_111_4, hs_i_112, hs_o_113, hs_f_113_0, hs_f_113_1, hs_f_113_2, hs_r_113_3, hs_t_113_3, hs_r_113_4, hs_t_113_4, hs_r_113_5, hs_t_113_5, hs_r_113_6, hs_t_113_6, hs_r_113_7, hs_t_113_7, hs_r_113_8, hs_t_113_8, hs_r_113_9, hs_t_113_9, hs_r_113_10, hs_t_113_10, hs_r_113_11, hs_t_113_11, hs_f_113_12, hs_f_113_13, hs_f_113_14, hs_r_113_15, hs_t_113_15, hs_f_113_16, hs_r_113_17, hs_t_113_17, hs_r_113_18, hs_t_113_18, hs_r_113_19, hs_t_113_19, hs_r_113_20, hs_t_113_20, hs_f_113_21, hs_f_113_22, hs_f_113_23, hs_r_113_24, hs_t_113_24, hs_f_113_25, hs_r_113_26, hs_t_113_26, hs_f_113_27, hs_i_114, hs_i_115, hs_i_116, hs_i_117, hs_i_118, hs_i_119, hs_i_120, hs_i_121, hs_i_122, hs_i_123, hs_i_124, hs_i_125, hs_i_126, hs_i_127, hs_i_128, hs_i_129, hd_iF, List.set_cons_succ, List.set_cons_zero, sp_X5_hasTown, hx0, hx1, sp_X8_within, hd_t01, hd_dn1, decide_eq_true_eq, hb_z (show hp_H p < 2 ^ 31 by omega)]
  by_cases h1 : 0 ≤ town ∧ town < nI (hp_T p)
  · by_cases h2 : (0 : Int32) ≤ part ∧ part ≤ 1
    · obtain ⟨t, ht, rfl⟩ := hb_rng2 (show hp_T p < 2 ^ 31 by omega) h1.1 h1.2
      simp only [h1, h2, and_self, not_true, if_false]
      by_cases h0 : hp_H p = 0
      · simp only [h0, if_true]
        exact hk2 ⟨h1, h2⟩ h0
      · simp only [h0, if_false]
        refine sx_heaps hok h0 hx hI.2.2.2.2.2.1 hI.2.2.2.2.2.2.2 _ (fun S2 he hrs hhp tab => ?_)
        obtain ⟨g1, g2⟩ := hx_I_hp hI he hrs hhp
        have hk := hk3 ⟨h1, h2⟩ h0 t ht rfl S2 g1 g2
        have hx20 : S2.1 1 0 = nI (hp_T p) := g1.2.1.1
        have hav := hp_av_63 hok h0 ht (Nat.le_refl (2 ^ hp_T p))
        have hfk := hp_fk_le9 (hp_T p) (by omega)
        have hfp := hp_fk_pos (hp_T p)
        have hgp : 0 < Nat.gcd (hp_av p t (2 ^ hp_T p)) (hp_fk (hp_T p)) := Nat.gcd_pos_of_pos_right _ hfp
        have hgl : Nat.gcd (hp_av p t (2 ^ hp_T p)) (hp_fk (hp_T p)) ≤ hp_fk (hp_T p) := Nat.gcd_le_right _ hfp
        simp only [true_and]
        refine sx_added hok h0 g1.2.1 tab ht _ ?_
        simp only [hx20, vp_in_nI (show hp_T p < 9 by omega) (show 9 < 2 ^ 31 by decide), hd_cc (show hp_T p < 2147483648 by omega), hp_fk_fv (hp_T p) (by omega), nI_l (show hp_fk (hp_T p) < 2 ^ 31 by omega), true_and]
        refine sx_gcd (show hp_av p t (2 ^ hp_T p) < 2 ^ 63 by omega) (by omega) hfp _ _ ?_
        unfold hp_sh at hk
        simp only [hp_lne0 (show Nat.gcd (hp_av p t (2 ^ hp_T p)) (hp_fk (hp_T p)) < 2 ^ 63 by omega), show ¬ Nat.gcd (hp_av p t (2 ^ hp_T p)) (hp_fk (hp_T p)) = 0 by omega, not_false_iff, true_and]
        by_cases hp0 : part = 0
        · simp only [hp0, if_true, pk_lDiv (show hp_av p t (2 ^ hp_T p) < 2 ^ 63 by omega) hgp (show Nat.gcd (hp_av p t (2 ^ hp_T p)) (hp_fk (hp_T p)) < 2 ^ 63 by omega), hp_lne0 (show Nat.gcd (hp_av p t (2 ^ hp_T p)) (hp_fk (hp_T p)) < 2 ^ 63 by omega), show ¬ Nat.gcd (hp_av p t (2 ^ hp_T p)) (hp_fk (hp_T p)) = 0 by omega, not_false_iff, true_and] at hk ⊢
          exact hk
        · simp only [hp0, if_false, pk_lDiv (show hp_fk (hp_T p) < 2 ^ 63 by omega) hgp (show Nat.gcd (hp_av p t (2 ^ hp_T p)) (hp_fk (hp_T p)) < 2 ^ 63 by omega), hp_lne0 (show Nat.gcd (hp_av p t (2 ^ hp_T p)) (hp_fk (hp_T p)) < 2 ^ 63 by omega), show ¬ Nat.gcd (hp_av p t (2 ^ hp_T p)) (hp_fk (hp_T p)) = 0 by omega, not_false_iff, true_and] at hk ⊢
          exact hk
    · simp only [h1, h2, and_self, not_true, not_false_iff, if_true, if_false]
      exact hk1 (fun r => h2 r.2)
  · simp only [h1, not_false_iff, if_true]
    exact hk1 (fun r => h1 r.1)
set_option maxHeartbeats 8000000 in
theorem sp_share {S : hd_S} {p : hp_P} {n : Nat} {q : Nat → hp_P} {hand : Nat} {cl : Nat → Nat} (hI : hm_I S p n q hand cl) (town part : Int32) (post : Option hd_V → hd_S → Prop)
    (hk1 : ¬ ((0 ≤ town ∧ town < nI (hp_T p)) ∧ (0 ≤ part ∧ part ≤ 1)) → post (some (hd_vJ (-3))) (hd_wI S 113 0 0))
    (hk2 : ((0 ≤ town ∧ town < nI (hp_T p)) ∧ (0 ≤ part ∧ part ≤ 1)) → hp_H p = 0 → post (some (hd_vJ (-1))) (hd_wI S 113 0 0))
    (hk3 : ((0 ≤ town ∧ town < nI (hp_T p)) ∧ (0 ≤ part ∧ part ≤ 1)) → hp_H p ≠ 0 → ∀ t, t < hp_T p → town = nI t → ∀ S2, hm_I S2 p n q hand cl → hm_fr S S2 → post (some (hd_vJ (hp_sh p t part))) S2) : wm_X9_share [hd_vR 113, hd_vI town, hd_vI part] S post := by
  have hok := hI.1.1
  obtain ⟨hI0, hfr0⟩ := hm_I_0 hI
  have hT : hp_T p ≤ 8 := hok.1
  have hH : hp_H p ≤ 7 := hok.2.1
  have h256 : 2 ^ hp_T p ≤ 256 := Nat.pow_le_pow_right (n := 2) (by decide) hT
  have hpos : 0 < 2 ^ hp_T p := Nat.two_pow_pos _
  simp only [wm_X9_share, wo_X9_share, hd_mth, hd_rho0, hd_args, hd_wide, hq_sQ, hd_s0, hq_sI, hq_sJ, hd_sR, hd_sP, hd_sF, hd_sZ, hd_sG, hd_sA, hd_sL, hd_sB, hd_sO, hd_sN, hd_sD, hd_sW, hd_sE, hd_sRI, hd_sRZ, hd_sRJ, hd_sRR, hd_sRV, hd_sSw, hd_sw, hd_sCI, hd_sCL, hd_iK, hd_iL, hd_iU, hd_iB, hd_iD, hd_iJ, hd_iG, hd_iA, hd_iQ, hd_iC, hd_iN, hd_iE, hd_jK, hd_jL, hd_jU, hd_jB, hd_jD, hd_jH, hd_jI, hd_jA, hd_jQ, hd_jN, hd_rL, hd_rG, hd_rA, hd_rN, hd_cI, hd_c0, hd_cJ, hd_cX, hd_cA, hd_cO, hd_v0, hd_pI, hd_pJ, hd_pR, hd_nV, hd_nS, hd_get, hd_st, hd_stW, hd_cut, List.replicate, List.length_cons, List.length_nil, List.nil_append, List.cons_append, Nat.reduceAdd, Nat.reduceSub, Nat.reduceLeDiff, true_and, and_true, if_true, if_false, Bool.false_eq_true, List.append_nil, hs_o_0, hs_r_0_0, hs_t_0_0, hs_r_0_1, hs_t_0_1, hs_r_0_2, hs_t_0_2, hs_r_0_3, hs_t_0_3, hs_r_0_4, hs_t_0_4, hs_r_0_5, hs_t_0_5, hs_r_0_6, hs_t_0_6, hs_r_0_7, hs_t_0_7, hs_f_0_8, hs_o_1, hs_f_1_0, hs_f_1_1, hs_r_1_2, hs_t_1_2, hs_r_1_3, hs_t_1_3, hs_r_1_4, hs_t_1_4, hs_r_1_5, hs_t_1_5, hs_r_1_6, hs_t_1_6, hs_r_1_7, hs_t_1_7, hs_r_1_8, hs_t_1_8, hs_r_1_9, hs_t_1_9, hs_i_2, hs_i_3, hs_i_4, hs_i_5, hs_i_6, hs_i_7, hs_i_8, hs_i_9, hs_o_82, hs_r_82_0, hs_t_82_0, hs_f_82_1, hs_i_83, hs_o_84, hs_r_84_0, hs_t_84_0, hs_r_84_1, hs_t_84_1, hs_r_84_2, hs_t_84_2, hs_r_84_3, hs_t_84_3, hs_f_84_4, hs_i_85, hs_i_86, hs_i_87, hs_o_88, hs_r_88_0, hs_t_88_0, hs_r_88_1, hs_t_88_1, hs_r_88_2, hs_t_88_2, hs_r_88_3, hs_t_88_3, hs_r_88_4, hs_t_88_4, hs_r_88_5, hs_t_88_5, hs_r_88_6, hs_t_88_6, hs_r_88_7, hs_t_88_7, hs_f_88_8, hs_f_88_9, hs_i_89, hs_i_90, hs_i_91, hs_i_92, hs_i_93, hs_i_94, hs_i_95, hs_i_96, hs_i_97, hs_i_98, hs_i_99, hs_i_100, hs_i_101, hs_i_102, hs_o_103, hs_r_103_0, hs_t_103_0, hs_r_103_1, hs_t_103_1, hs_r_103_2, hs_t_103_2, hs_r_103_3, hs_t_103_3, hs_f_103_4, hs_i_104, hs_o_105, hs_r_105_0, hs_t_105_0, hs_r_105_1, hs_t_105_1, hs_r_105_2, hs_t_105_2, hs_i_106, hs_i_107, hs_o_108, hs_r_108_0, hs_t_108_0, hs_r_108_1, hs_t_108_1, hs_r_108_2, hs_t_108_2, hs_r_108_3, hs_t_108_3, hs_f_108_4, hs_i_109, hs_i_110, hs_o_111, hs_r_111_0, hs_t_111_0, hs_r_111_1, hs_t_111_1, hs_f_111_2, hs_f_111_3, hs_f_111_4, hs_i_112, hs_o_113, hs_f_113_0, hs_f_113_1, hs_f_113_2, hs_r_113_3, hs_t_113_3, hs_r_113_4, hs_t_113_4, hs_r_113_5, hs_t_113_5, hs_r_113_6, hs_t_113_6, hs_r_113_7, hs_t_113_7, hs_r_113_8, hs_t_113_8, hs_r_113_9, hs_t_113_9, hs_r_113_10, hs_t_113_10, hs_r_113_11, hs_t_113_11, hs_f_113_12, hs_f_113_13, hs_f_113_14, hs_r_113_15, hs_t_113_15, hs_f_113_16, hs_r_113_17, hs_t_113_17, hs_r_113_18, hs_t_113_18, hs_r_113_19, hs_t_113_19, hs_r_113_20, hs_t_113_20, hs_f_113_21, hs_f_113_22, hs_f_113_23, hs_r_113_24, hs_t_113_24, hs_f_113_25, hs_r_113_26, hs_t_113_26, hs_f_113_27, hs_i_114, hs_i_115, hs_i_116, hs_i_117, hs_i_118, hs_i_119, hs_i_120, hs_i_121, hs_i_122, hs_i_123, hs_i_124, hs_i_125, hs_i_126, hs_i_127, hs_i_128, hs_i_129, List.set_cons_succ, List.set_cons_zero]
  generalize hd_wI S 113 0 0 = S0 at hI0 hfr0 hk1 hk2 ⊢
  have hm0 := hI0.2.1
  simp only [sp_isTown hok hm0.1, sp_X9_in, hd_t01, hd_dn1, decide_eq_true_eq, hm0.2.1, hb_z (show hp_H p < 2 ^ 31 by omega)]
  by_cases h1 : 0 ≤ town ∧ town < nI (hp_T p)
  · by_cases h2 : (0 : Int32) ≤ part ∧ part ≤ 1
    · obtain ⟨t, ht, rfl⟩ := hb_rng2 (show hp_T p < 2 ^ 31 by omega) h1.1 h1.2
      simp only [h1, h2, and_self, not_true, if_false]
      by_cases h0 : hp_H p = 0
      · simp only [h0, if_true]
        exact hk2 ⟨h1, h2⟩ h0
      · simp only [h0, if_false]
        refine sp_findHeaps hok hm0 _ (fun S2 he tab => ?_)
        obtain ⟨g1, g2⟩ := hm_I_sm (S2 := S2) (hand2 := hand) (cl2 := cl) hI0 (hd_eqx_sub he (by decide)) (fun f _ => by rw [he.1 113 (by decide)]) (fun h _ => by rw [he.1 127 (by decide)]) hI.1.2.2.1 (by rw [he.1 113 (by decide)]; exact hI0.2.2.2.1) hI.1.2.2.2.1 hI.1.2.2.2.2 (fun t ht => by rw [he.1 123 (by decide)]; exact hI0.2.2.2.2.1 t ht)
        have hk := hk3 ⟨h1, h2⟩ h0 t ht rfl S2 g1 ⟨fun c hc => (g2.1 c hc).trans (hfr0.1 c hc), g2.2.trans hfr0.2⟩
        have hx20 : S2.1 113 1 = nI (hp_T p) := g1.2.1.1
        have hav := hp_av_63 hok h0 ht (Nat.le_refl (2 ^ hp_T p))
        have hfk := hp_fk_le9 (hp_T p) (by omega)
        have hfp := hp_fk_pos (hp_T p)
        have hgp : 0 < Nat.gcd (hp_av p t (2 ^ hp_T p)) (hp_fk (hp_T p)) := Nat.gcd_pos_of_pos_right _ hfp
        have hgl : Nat.gcd (hp_av p t (2 ^ hp_T p)) (hp_fk (hp_T p)) ≤ hp_fk (hp_T p) := Nat.gcd_le_right _ hfp
        simp only [true_and, hx20]
        refine sp_orders (hp_T p) (by omega) _ _ ?_
        simp only []
        refine hd_up (fun m ρ S3 => S3 = S2 ∧ ∃ x : hd_V, ρ = [hd_vR 113, hd_vI (nI t), hd_vI part, hd_vJ (lN (hp_av p t m)), hd_vN, hd_vJ (lN (hp_fk (hp_T p))), hd_vN, hd_vI (nI m), x, hd_vN, hd_vN, hd_vN, hd_vN]) (2 ^ hp_T p) ?_ ?_ (Nat.zero_le _) ⟨rfl, _, rfl⟩
        · rintro m ρ S3 K hm ⟨rfl, x, rfl⟩ hK
          have hle : m ≤ 2 ^ hp_T p - 1 := by omega
          simp only [wc_X9_share_55, wb_X9_share_55, hd_mth, hd_rho0, hd_args, hd_wide, hq_sQ, hd_s0, hq_sI, hq_sJ, hd_sR, hd_sP, hd_sF, hd_sZ, hd_sG, hd_sA, hd_sL, hd_sB, hd_sO, hd_sN, hd_sD, hd_sW, hd_sE, hd_sRI, hd_sRZ, hd_sRJ, hd_sRR, hd_sRV, hd_sSw, hd_sw, hd_sCI, hd_sCL, hd_iK, hd_iL, hd_iU, hd_iB, hd_iD, hd_iJ, hd_iG, hd_iA, hd_iQ, hd_iC, hd_iN, hd_iE, hd_jK, hd_jL, hd_jU, hd_jB, hd_jD, hd_jH, hd_jI, hd_jA, hd_jQ, hd_jN, hd_rL, hd_rG, hd_rA, hd_rN, hd_cI, hd_c0, hd_cJ, hd_cX, hd_cA, hd_cO, hd_v0, hd_pI, hd_pJ, hd_pR, hd_nV, hd_nS, hd_get, hd_st, hd_stW, hd_cut, List.replicate, List.length_cons, List.length_nil, List.nil_append, List.cons_append, Nat.reduceAdd, Nat.reduceSub, Nat.reduceLeDiff, true_and, and_true, if_true, if_false, Bool.false_eq_true, List.append_nil, hs_o_0, hs_r_0_0, hs_t_0_0, hs_r_0_1, hs_t_0_1, hs_r_0_2, hs_t_0_2, hs_r_0_3, hs_t_0_3, hs_r_0_4, hs_t_0_4, hs_r_0_5, hs_t_0_5, hs_r_0_6, hs_t_0_6, hs_r_0_7, hs_t_0_7, hs_f_0_8, hs_o_1, hs_f_1_0, hs_f_1_1, hs_r_1_2, hs_t_1_2, hs_r_1_3, hs_t_1_3, hs_r_1_4, hs_t_1_4, hs_r_1_5, hs_t_1_5, hs_r_1_6, hs_t_1_6, hs_r_1_7, hs_t_1_7, hs_r_1_8, hs_t_1_8, hs_r_1_9, hs_t_1_9, hs_i_2, hs_i_3, hs_i_4, hs_i_5, hs_i_6, hs_i_7, hs_i_8, hs_i_9, hs_o_82, hs_r_82_0, hs_t_82_0, hs_f_82_1, hs_i_83, hs_o_84, hs_r_84_0, hs_t_84_0, hs_r_84_1, hs_t_84_1, hs_r_84_2, hs_t_84_2, hs_r_84_3, hs_t_84_3, hs_f_84_4, hs_i_85, hs_i_86, hs_i_87, hs_o_88, hs_r_88_0, hs_t_88_0, hs_r_88_1, hs_t_88_1, hs_r_88_2, hs_t_88_2, hs_r_88_3, hs_t_88_3, hs_r_88_4, hs_t_88_4, hs_r_88_5, hs_t_88_5, hs_r_88_6, hs_t_88_6, hs_r_88_7, hs_t_88_7, hs_f_88_8, hs_f_88_9, hs_i_89, hs_i_90, hs_i_91, hs_i_92, hs_i_93, hs_i_94, hs_i_95, hs_i_96, hs_i_97, hs_i_98, hs_i_99, hs_i_100, hs_i_101, hs_i_102, hs_o_103, hs_r_103_0, hs_t_103_0, hs_r_103_1, hs_t_103_1, hs_r_103_2, hs_t_103_2, hs_r_103_3, hs_t_103_3, hs_f_103_4, hs_i_104, hs_o_105, hs_r_105_0, hs_t_105_0, hs_r_105_1, hs_t_105_1, hs_r_105_2, hs_t_105_2, hs_i_106, hs_i_107, hs_o_108, hs_r_108_0, hs_t_108_0, hs_r_108_1, hs_t_108_1, hs_r_108_2, hs_t_108_2, hs_r_108_3, hs_t_108_3, hs_f_108_4, hs_i_109, hs_i_110, hs_o_111, hs_r_111_0, hs_t_111_0, hs_r_111_1, hs_t_111_1, hs_f_111_2, hs_f_111_3, hs_f_111_4, hs_i_112, hs_o_113, hs_f_113_0, hs_f_113_1, hs_f_113_2, hs_r_113_3, hs_t_113_3, hs_r_113_4, hs_t_113_4, hs_r_113_5, hs_t_113_5, hs_r_113_6, hs_t_113_6, hs_r_113_7, hs_t_113_7, hs_r_113_8, hs_t_113_8, hs_r_113_9, hs_t_113_9, hs_r_113_10, hs_t_113_10, hs_r_113_11, hs_t_113_11, hs_f_113_12, hs_f_113_13, hs_f_113_14, hs_r_113_15, hs_t_113_15, hs_f_113_16, hs_r_113_17, hs_t_113_17, hs_r_113_18, hs_t_113_18, hs_r_113_19, hs_t_113_19, hs_r_113_20, hs_t_113_20, hs_f_113_21, hs_f_113_22, hs_f_113_23, hs_r_113_24, hs_t_113_24, hs_f_113_25, hs_r_113_26, hs_t_113_26, hs_f_113_27, hs_i_114, hs_i_115, hs_i_116, hs_i_117, hs_i_118, hs_i_119, hs_i_120, hs_i_121, hs_i_122, hs_i_123, hs_i_124, hs_i_125, hs_i_126, hs_i_127, hs_i_128, hs_i_129, List.set_cons_succ, List.set_cons_zero, sp_X9_allTowns, hx20, hb_all (show hp_T p < 31 by omega), hb_le (show m < 2 ^ 31 by omega) (show 2 ^ hp_T p - 1 < 2 ^ 31 by omega), hle, decide_true, sp_X9_has, hd_t01, hd_dn1, hb_t (show m < 2 ^ 31 by omega) (show t < 31 by omega), decide_eq_true_eq]
          cases hb : m.testBit t with
          | true =>
            simp only [not_true, if_false, nI_1]
            exact hK _ _ ⟨rfl, _, by rw [hp_av_skip hb]⟩
          | false =>
            have e : hb_pc m 8 = hb_pc m (hp_T p) := hb_pc_hi hm 8 hT
            have e2 := hb_pc_mis hb (hp_T p) ht
            have hm2 : m ||| 2 ^ t < 2 ^ hp_T p := Nat.or_lt_two_pow hm (Nat.pow_lt_pow_right (by decide) ht)
            have t1 := tab m hm
            have t2 := tab (m ||| 2 ^ t) hm2
            have e3 : nI (hp_T p) - 1 - nI (hb_pc m 8) = nI (hp_T p - 1 - hb_pc m 8) := by
              rw [show (1 : Int32) = nI 1 from rfl, pk_sub (show 1 ≤ hp_T p by omega), pk_sub (show hb_pc m 8 ≤ hp_T p - 1 by omega)]
            have st := hp_av_step hok h0 hb
            simp only [Bool.false_eq_true, not_false_iff, if_true]
            refine sp_X9_sizeOf m (by omega) _ _ ?_
            simp only []
            refine sp_orders (hb_pc m 8) (by omega) _ _ ?_
            simp only [hx20, e3]
            refine sp_orders (hp_T p - 1 - hb_pc m 8) (by omega) _ _ ?_
            simp only [hb_pow t (by omega), fa_or, vp_in_nI (show m ||| 2 ^ t < 256 by omega) (show 256 < 2 ^ 31 by decide), hd_cc (show m ||| 2 ^ t < 2147483648 by omega), vp_in_nI (show m < 256 by omega) (show 256 < 2 ^ 31 by decide), hd_cc (show m < 2147483648 by omega), t1, t2, st, true_and, nI_1]
            exact hK _ _ ⟨rfl, _, rfl⟩
        · rintro ρ S3 K ⟨rfl, x, rfl⟩
          have hle : ¬ 2 ^ hp_T p ≤ 2 ^ hp_T p - 1 := by omega
          have hn0 : ¬ lN (hp_av p t (2 ^ hp_T p)) < 0 := fun r => by
            have := (pk_lLT (b := 0) (show hp_av p t (2 ^ hp_T p) < 2 ^ 63 by omega) (by decide)).mp r
            omega
          simp only [wc_X9_share_55, hd_mth, hd_rho0, hd_args, hd_wide, hq_sQ, hd_s0, hq_sI, hq_sJ, hd_sR, hd_sP, hd_sF, hd_sZ, hd_sG, hd_sA, hd_sL, hd_sB, hd_sO, hd_sN, hd_sD, hd_sW, hd_sE, hd_sRI, hd_sRZ, hd_sRJ, hd_sRR, hd_sRV, hd_sSw, hd_sw, hd_sCI, hd_sCL, hd_iK, hd_iL, hd_iU, hd_iB, hd_iD, hd_iJ, hd_iG, hd_iA, hd_iQ, hd_iC, hd_iN, hd_iE, hd_jK, hd_jL, hd_jU, hd_jB, hd_jD, hd_jH, hd_jI, hd_jA, hd_jQ, hd_jN, hd_rL, hd_rG, hd_rA, hd_rN, hd_cI, hd_c0, hd_cJ, hd_cX, hd_cA, hd_cO, hd_v0, hd_pI, hd_pJ, hd_pR, hd_nV, hd_nS, hd_get, hd_st, hd_stW, hd_cut, List.replicate, List.length_cons, List.length_nil, List.nil_append, List.cons_append, Nat.reduceAdd, Nat.reduceSub, Nat.reduceLeDiff, true_and, and_true, if_true, if_false, Bool.false_eq_true, List.append_nil, hs_o_0, hs_r_0_0, hs_t_0_0, hs_r_0_1, hs_t_0_1, hs_r_0_2, hs_t_0_2, hs_r_0_3, hs_t_0_3, hs_r_0_4, hs_t_0_4, hs_r_0_5, hs_t_0_5, hs_r_0_6, hs_t_0_6, hs_r_0_7, hs_t_0_7, hs_f_0_8, hs_o_1, hs_f_1_0, hs_f_1_1, hs_r_1_2, hs_t_1_2, hs_r_1_3, hs_t_1_3, hs_r_1_4, hs_t_1_4, hs_r_1_5, hs_t_1_5, hs_r_1_6, hs_t_1_6, hs_r_1_7, hs_t_1_7, hs_r_1_8, hs_t_1_8, hs_r_1_9, hs_t_1_9, hs_i_2, hs_i_3, hs_i_4, hs_i_5, hs_i_6, hs_i_7, hs_i_8, hs_i_9, hs_o_82, hs_r_82_0, hs_t_82_0, hs_f_82_1, hs_i_83, hs_o_84, hs_r_84_0, hs_t_84_0, hs_r_84_1, hs_t_84_1, hs_r_84_2, hs_t_84_2, hs_r_84_3, hs_t_84_3, hs_f_84_4, hs_i_85, hs_i_86, hs_i_87, hs_o_88, hs_r_88_0, hs_t_88_0, hs_r_88_1, hs_t_88_1, hs_r_88_2, hs_t_88_2, hs_r_88_3, hs_t_88_3, hs_r_88_4, hs_t_88_4, hs_r_88_5, hs_t_88_5, hs_r_88_6, hs_t_88_6, hs_r_88_7, hs_t_88_7, hs_f_88_8, hs_f_88_9, hs_i_89, hs_i_90, hs_i_91, hs_i_92, hs_i_93, hs_i_94, hs_i_95, hs_i_96, hs_i_97, hs_i_98, hs_i_99, hs_i_100, hs_i_101, hs_i_102, hs_o_103, hs_r_103_0, hs_t_103_0, hs_r_103_1, hs_t_103_1, hs_r_103_2, hs_t_103_2, hs_r_103_3, hs_t_103_3, hs_f_103_4, hs_i_104, hs_o_105, hs_r_105_0, hs_t_105_0, hs_r_105_1, hs_t_105_1, hs_r_105_2, hs_t_105_2, hs_i_106, hs_i_107, hs_o_108, hs_r_108_0, hs_t_108_0, hs_r_108_1, hs_t_108_1, hs_r_108_2, hs_t_108_2, hs_r_108_3, hs_t_108_3, hs_f_108_4, hs_i_109, hs_i_110, hs_o_111, hs_r_111_0, hs_t_111_0, hs_r_111_1, hs_t_111_1, hs_f_111_2, hs_f_111_3, hs_f_111_4, hs_i_112, hs_o_113, hs_f_113_0, hs_f_113_1, hs_f_113_2, hs_r_113_3, hs_t_113_3, hs_r_113_4, hs_t_113_4, hs_r_113_5, hs_t_113_5, hs_r_113_6, hs_t_113_6, hs_r_113_7, hs_t_113_7, hs_r_113_8, hs_t_113_8, hs_r_113_9, hs_t_113_9, hs_r_113_10, hs_t_113_10, hs_r_113_11, hs_t_113_11, hs_f_113_12, hs_f_113_13, hs_f_113_14, hs_r_113_15, hs_t_113_15, hs_f_113_16, hs_r_113_17, hs_t_113_17, hs_r_113_18, hs_t_113_18, hs_r_113_19, hs_t_113_19, hs_r_113_20, hs_t_113_20, hs_f_113_21, hs_f_113_22, hs_f_113_23, hs_r_113_24, hs_t_113_24, hs_f_113_25, hs_r_113_26, hs_t_113_26, hs_f_113_27, hs_i_114, hs_i_115, hs_i_116, hs_i_117, hs_i_118, hs_i_119, hs_i_120, hs_i_121, hs_i_122, hs_i_123, hs_i_124, hs_i_125, hs_i_126, hs_i_127, hs_i_128, hs_i_129, List.set_cons_succ, List.set_cons_zero, sp_X9_allTowns, hx20, hb_all (show hp_T p < 31 by omega), hb_le (show 2 ^ hp_T p < 2 ^ 31 by omega) (show 2 ^ hp_T p - 1 < 2 ^ 31 by omega), hle, decide_false, hn0]
          refine hd_dn (fun j ρ S4 => S4 = S3 ∧ ∃ a b : Nat, b = j ∧ a < 2 ^ 63 ∧ b < 2 ^ 63 ∧ 0 < a + b ∧ Nat.gcd a b = Nat.gcd (hp_av p t (2 ^ hp_T p)) (hp_fk (hp_T p)) ∧ ∃ x y : hd_V, ρ = [hd_vR 113, hd_vI (nI t), hd_vI part, hd_vJ (lN (hp_av p t (2 ^ hp_T p))), hd_vN, hd_vJ (lN (hp_fk (hp_T p))), hd_vN, hd_vJ (lN a), hd_vN, hd_vJ (lN b), hd_vN, x, y]) ?_ (i0 := hp_fk (hp_T p)) ⟨rfl, _, _, rfl, by omega, by omega, by omega, rfl, _, _, rfl⟩
          rintro j ρ S4 K2 ⟨rfl, a, b, rfl, ha, hb, hab, hg, x, y, rfl⟩ hK2
          by_cases hb0 : b = 0
          · have hga : Nat.gcd (hp_av p t (2 ^ hp_T p)) (hp_fk (hp_T p)) = a := by rw [← hg, hb0, Nat.gcd_zero_right]
            unfold hp_sh at hk
            rw [hga] at hk
            have ha0 : ¬ a = 0 := by omega
            have hz : (lN b = (0 : Int64)) = True := eq_true (by rw [hb0]; rfl)
            simp only [wc_X9_share_146, hd_mth, hd_rho0, hd_args, hd_wide, hq_sQ, hd_s0, hq_sI, hq_sJ, hd_sR, hd_sP, hd_sF, hd_sZ, hd_sG, hd_sA, hd_sL, hd_sB, hd_sO, hd_sN, hd_sD, hd_sW, hd_sE, hd_sRI, hd_sRZ, hd_sRJ, hd_sRR, hd_sRV, hd_sSw, hd_sw, hd_sCI, hd_sCL, hd_iK, hd_iL, hd_iU, hd_iB, hd_iD, hd_iJ, hd_iG, hd_iA, hd_iQ, hd_iC, hd_iN, hd_iE, hd_jK, hd_jL, hd_jU, hd_jB, hd_jD, hd_jH, hd_jI, hd_jA, hd_jQ, hd_jN, hd_rL, hd_rG, hd_rA, hd_rN, hd_cI, hd_c0, hd_cJ, hd_cX, hd_cA, hd_cO, hd_v0, hd_pI, hd_pJ, hd_pR, hd_nV, hd_nS, hd_get, hd_st, hd_stW, hd_cut, List.replicate, List.length_cons, List.length_nil, List.nil_append, List.cons_append, Nat.reduceAdd, Nat.reduceSub, Nat.reduceLeDiff, true_and, and_true, if_true, if_false, Bool.false_eq_true, List.append_nil, hz, decide_true, Bool.not_true, Bool.false_eq_true, if_false, hp_lne0 ha, ha0, not_false_iff, true_and, pk_lDiv (show hp_av p t (2 ^ hp_T p) < 2 ^ 63 by omega) (show 0 < a by omega) ha, pk_lDiv (show hp_fk (hp_T p) < 2 ^ 63 by omega) (show 0 < a by omega) ha, decide_eq_true_eq]
            by_cases hp0 : part = 0
            · simp only [hp0, if_true] at hk ⊢
              exact hk
            · simp only [hp0, if_false] at hk ⊢
              exact hk
          · simp only [wc_X9_share_146, wb_X9_share_146, hd_mth, hd_rho0, hd_args, hd_wide, hq_sQ, hd_s0, hq_sI, hq_sJ, hd_sR, hd_sP, hd_sF, hd_sZ, hd_sG, hd_sA, hd_sL, hd_sB, hd_sO, hd_sN, hd_sD, hd_sW, hd_sE, hd_sRI, hd_sRZ, hd_sRJ, hd_sRR, hd_sRV, hd_sSw, hd_sw, hd_sCI, hd_sCL, hd_iK, hd_iL, hd_iU, hd_iB, hd_iD, hd_iJ, hd_iG, hd_iA, hd_iQ, hd_iC, hd_iN, hd_iE, hd_jK, hd_jL, hd_jU, hd_jB, hd_jD, hd_jH, hd_jI, hd_jA, hd_jQ, hd_jN, hd_rL, hd_rG, hd_rA, hd_rN, hd_cI, hd_c0, hd_cJ, hd_cX, hd_cA, hd_cO, hd_v0, hd_pI, hd_pJ, hd_pR, hd_nV, hd_nS, hd_get, hd_st, hd_stW, hd_cut, List.replicate, List.length_cons, List.length_nil, List.nil_append, List.cons_append, Nat.reduceAdd, Nat.reduceSub, Nat.reduceLeDiff, true_and, and_true, if_true, if_false, Bool.false_eq_true, List.append_nil, List.set_cons_succ, List.set_cons_zero, hp_lne0 hb, hb0, decide_false, Bool.not_false, if_true, not_false_iff, true_and, pk_lRem ha (show 0 < b by omega) hb]
            have hm : a % b < b := Nat.mod_lt _ (by omega)
            exact hK2 (a % b) _ _ hm ⟨rfl, b, a % b, rfl, hb, by omega, by omega, by rw [← hg, Nat.gcd_comm a b, Nat.gcd_rec b a, Nat.gcd_comm], _, _, rfl⟩
    · simp only [h1, h2, and_self, not_true, not_false_iff, if_true, if_false]
      exact hk1 (fun r => h2 r.2)
  · simp only [h1, not_false_iff, if_true]
    exact hk1 (fun r => h1 r.1)
