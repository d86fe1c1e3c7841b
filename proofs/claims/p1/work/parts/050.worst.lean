/-! the first of the greatest; the worst hall to close, the worst rival -/
def hp_bm (q : Nat → Bool) (f : Nat → Nat) : Nat → Option Nat
  | 0 => none
  | n + 1 => match hp_bm q f n with
    | none => if q n then some n else none
    | some b => if q n = true ∧ f b < f n then some n else some b
theorem hp_bm_lt {q : Nat → Bool} {f : Nat → Nat} : ∀ {n b : Nat}, hp_bm q f n = some b → b < n ∧ q b = true
  | 0, b, h => by simp [hp_bm] at h
  | n + 1, b, h => by
    simp only [hp_bm] at h
    cases hq : hp_bm q f n with
    | none =>
      rw [hq] at h
      by_cases hb : q n = true
      · simp [hb] at h
        subst h
        exact ⟨by omega, hb⟩
      · simp [hb] at h
    | some c =>
      rw [hq] at h
      have := hp_bm_lt hq
      by_cases hb : q n = true ∧ f c < f n
      · simp only [hb, and_self, if_true] at h
        cases h
        exact ⟨by omega, hb.1⟩
      · simp only [hb, if_false] at h
        cases h
        exact ⟨by omega, this.2⟩
theorem hp_bm_none {q : Nat → Bool} {f : Nat → Nat} : ∀ {n : Nat}, hp_bm q f n = none → ∀ k, k < n → q k = false
  | 0, _, k, hk => by omega
  | n + 1, h, k, hk => by
    simp only [hp_bm] at h
    cases hq : hp_bm q f n with
    | none =>
      rw [hq] at h
      by_cases hb : q n = true
      · simp [hb] at h
      · by_cases hkn : k = n
        · subst hkn
          simpa using hb
        · exact hp_bm_none hq k (by omega)
    | some c =>
      rw [hq] at h
      by_cases hb : q n = true ∧ f c < f n
      · simp [hb] at h
      · simp [hb] at h
/-- the greatest so far: -1 for none -/
def hp_bv (q : Nat → Bool) (f : Nat → Nat) (n : Nat) : Int32 := match hp_bm q f n with
  | none => -1
  | some b => nI (f b)
theorem hp_m1lt {a : Nat} (h : a < 2 ^ 31) : (-1 : Int32) < nI a := by
  rw [Int32.lt_iff_toInt_lt, nI_toInt h]
  have : (-1 : Int32).toInt = -1 := by decide
  omega
/-- a bit taken out -/
def hb_clr (s h : Nat) : Nat := s &&& (127 - 2 ^ h)
set_option maxRecDepth 100000 in
theorem hb_clr_val : ∀ s, s < 128 → ∀ h, h < 7 → nI s &&& (nI (2 ^ h) ^^^ (-1)) = nI (hb_clr s h) := by decide +kernel
theorem hb_clr_mask : ∀ h, h < 7 → ∀ k, k < 7 → (127 - 2 ^ h).testBit k = !decide (k = h) := by decide +kernel
theorem hb_clr_bit {s h k : Nat} (hh : h < 7) (hk : k < 7) : (hb_clr s h).testBit k = (s.testBit k && !decide (k = h)) := by
  unfold hb_clr
  rw [Nat.testBit_and, hb_clr_mask h hh k hk]
theorem hb_clr_le (s h : Nat) : hb_clr s h ≤ s := Nat.and_le_left
theorem hp_sum_all (p : hp_P) (s : Nat) {T : Nat} : ∀ n, n ≤ T → hp_sum p s (2 ^ T - 1) n = hp_sa p s n
  | 0, _ => rfl
  | n + 1, h => by
    simp only [hp_sum, hp_sa]
    rw [hp_sum_all p s n (by omega), Nat.testBit_two_pow_sub_one]
    simp [show n < T by omega]
set_option maxHeartbeats 4000000 in
theorem sp_X9_worstClosed {S : hd_S} {p : hp_P} (hp : hp_ok p) (hm : hm_P S p) {s : Nat} (hs : s < 2 ^ hp_H p) (hne : ∀ h, h < hp_H p → s.testBit h = true → (∃ k, k < hp_H p ∧ (hb_clr s h).testBit k = true) ∨ hp_T p = 0) (post : Option hd_V → hd_S → Prop)
    (hk : post (some (hd_vI (hp_oi (hp_bm (fun h => s.testBit h) (fun h => hp_sa p (hb_clr s h) (hp_T p)) (hp_H p))))) S) : wm_X9_worstClosed [hd_vR 113, hd_vI (nI s)] S post := by
  have hH : hp_H p ≤ 7 := hp.2.1
  have hT : hp_T p ≤ 8 := hp.1
  have h128 := hp_set128 hp hs
  have hm1 : S.1 113 1 = nI (hp_T p) := hm.1
  have hm2 : S.1 113 2 = nI (hp_H p) := hm.2.1
  have h256 : 2 ^ hp_T p ≤ 256 := Nat.pow_le_pow_right (n := 2) (by decide) hT
  simp only [wm_X9_worstClosed, wo_X9_worstClosed, hd_mth, hd_rho0, hd_args, hd_wide, hd_sQ, hd_s0, hd_sI, hd_sJ, hd_sR, hd_sP, hd_sF, hd_sZ, hd_sG, hd_sA, hd_sL, hd_sB, hd_sO, hd_sN, hd_sD, hd_sW, hd_sE, hd_sRI, hd_sRZ, hd_sRJ, hd_sRR, hd_sRV, hd_sSw, hd_sw, hd_sCI, hd_sCL, hd_iK, hd_iL, hd_iU, hd_iB, hd_iD, hd_iJ, hd_iG, hd_iA, hd_iQ, hd_iC, hd_iN, hd_iE, hd_jK, hd_jL, hd_jU, hd_jB, hd_jD, hd_jH, hd_jI, hd_jA, hd_jQ, hd_jN, hd_rL, hd_rG, hd_rA, hd_rN, hd_cI, hd_c0, hd_cJ, hd_cX, hd_cA, hd_cO, hd_v0, hd_pI, hd_pJ, hd_pR, hd_nV, hd_nS, hd_get, hd_st, hd_stW, hd_cut, List.replicate, List.length_cons, List.length_nil, List.nil_append, List.cons_append, Nat.reduceAdd, Nat.reduceSub, Nat.reduceLeDiff, true_and, and_true, if_true, if_false, Bool.false_eq_true, List.append_nil]
  refine hd_up (fun i ρ S2 => S2 = S ∧ ∃ x : hd_V, ρ = [hd_vR 113, hd_vI (nI s), hd_vI (hp_oi (hp_bm (fun h => s.testBit h) (fun h => hp_sa p (hb_clr s h) (hp_T p)) i)), hd_vI (hp_bv (fun h => s.testBit h) (fun h => hp_sa p (hb_clr s h) (hp_T p)) i), hd_vI (nI i), x]) (hp_H p) ?_ ?_ (Nat.zero_le _) ⟨rfl, _, rfl⟩
  · rintro i ρ S2 K hi ⟨rfl, x, rfl⟩ hK
    simp only [wc_X9_worstClosed_7, wb_X9_worstClosed_7, hd_mth, hd_rho0, hd_args, hd_wide, hd_sQ, hd_s0, hd_sI, hd_sJ, hd_sR, hd_sP, hd_sF, hd_sZ, hd_sG, hd_sA, hd_sL, hd_sB, hd_sO, hd_sN, hd_sD, hd_sW, hd_sE, hd_sRI, hd_sRZ, hd_sRJ, hd_sRR, hd_sRV, hd_sSw, hd_sw, hd_sCI, hd_sCL, hd_iK, hd_iL, hd_iU, hd_iB, hd_iD, hd_iJ, hd_iG, hd_iA, hd_iQ, hd_iC, hd_iN, hd_iE, hd_jK, hd_jL, hd_jU, hd_jB, hd_jD, hd_jH, hd_jI, hd_jA, hd_jQ, hd_jN, hd_rL, hd_rG, hd_rA, hd_rN, hd_cI, hd_c0, hd_cJ, hd_cX, hd_cA, hd_cO, hd_v0, hd_pI, hd_pJ, hd_pR, hd_nV, hd_nS, hd_get, hd_st, hd_stW, hd_cut, List.replicate, List.length_cons, List.length_nil, List.nil_append, List.cons_append, Nat.reduceAdd, Nat.reduceSub, Nat.reduceLeDiff, true_and, and_true, if_true, if_false, Bool.false_eq_true, List.append_nil, hs_o_0, hs_r_0_0, hs_t_0_0, hs_r_0_1, hs_t_0_1, hs_r_0_2, hs_t_0_2, hs_r_0_3, hs_t_0_3, hs_r_0_4, hs_t_0_4, hs_r_0_5, hs_t_0_5, hs_r_0_6, hs_t_0_6, hs_r_0_7, hs_t_0_7, hs_f_0_8, hs_o_1, hs_f_1_0, hs_f_1_1, hs_r_1_2, hs_t_1_2, hs_r_1_3, hs_t_1_3, hs_r_1_4, hs_t_1_4, hs_r_1_5, hs_t_1_5, hs_r_1_6, hs_t_1_6, hs_r_1_7, hs_t_1_7, hs_r_1_8, hs_t_1_8, hs_r_1_9, hs_t_1_9, hs_i_2, hs_i_3, hs_i_4, hs_i_5, hs_i_6, hs_i_7, hs_i_8, hs_i_9, hs_o_82, hs_r_82_0, hs_t_82_0, hs_f_82_1, hs_i_83, hs_o_84, hs_r_84_0, hs_t_84_0, hs_r_84_1, hs_t_84_1, hs_r_84_2, hs_t_84_2, hs_r_84_3, hs_t_84_3, hs_f_84_4, hs_i_85, hs_i_86, hs_i_87, hs_o_88, hs_r_88_0, hs_t_88_0, hs_r_88_1, hs_t_88_1, hs_r_88_2, hs_t_88_2, hs_r_88_3, hs_t_88_3, hs_r_88_4, hs_t_88_4, hs_r_88_5, hs_t_88_5, hs_r_88_6, hs_t_88_6, hs_r_88_7, hs_t_88_7, hs_f_88_8, hs_f_88_9, hs_i_89, hs_i_90, hs_i_91, hs_i_92, hs_i_93, hs_i_94, hs_i_95, hs_i_96, hs_i_97, hs_i_98, hs_i_99, hs_i_100, hs_i_101, hs_i_102, hs_o_103, hs_r_103_0, hs_t_103_0, hs_r_103_1, hs_t_103_1, hs_r_103_2, hs_t_103_2, hs_r_103_3, hs_t_103_3, hs_f_103_4, hs_i_104, hs_o_105, hs_r_105_0, hs_t_105_0, hs_r_105_1, hs_t_105_1, hs_r_105_2, hs_t_105_2, hs_i_106, hs_i_107, hs_o_108, hs_r_108_0, hs_t_108_0, hs_r_108_1, hs_t_108_1, hs_r_108_2, hs_t_108_2, hs_r_108_3, hs_t_108_3, hs_f_108_4, hs_i_109, hs_i_110, hs_o_111, hs_r_111_0, hs_t_111_0, hs_r_111_1, hs_t_111_1, hs_f_111_2, hs_f_111_3, hs_f_111_4, hs_i_112, hs_o_113, hs_f_113_0, hs_f_113_1, hs_f_113_2, hs_r_113_3, hs_t_113_3, hs_r_113_4, hs_t_113_4, hs_r_113_5, hs_t_113_5, hs_r_113_6, hs_t_113_6, hs_r_113_7, hs_t_113_7, hs_r_113_8, hs_t_113_8, hs_r_113_9, hs_t_113_9, hs_r_113_10, hs_t_113_10, hs_r_113_11, hs_t_113_11, hs_f_113_12, hs_f_113_13, hs_f_113_14, hs_r_113_15, hs_t_113_15, hs_f_113_16, hs_r_113_17, hs_t_113_17, hs_r_113_18, hs_t_113_18, hs_r_113_19, hs_t_113_19, hs_r_113_20, hs_t_113_20, hs_f_113_21, hs_f_113_22, hs_f_113_23, hs_r_113_24, hs_t_113_24, hs_f_113_25, hs_r_113_26, hs_t_113_26, hs_f_113_27, hs_i_114, hs_i_115, hs_i_116, hs_i_117, hs_i_118, hs_i_119, hs_i_120, hs_i_121, hs_i_122, hs_i_123, hs_i_124, hs_i_125, hs_i_126, hs_i_127, hs_i_128, hs_i_129, hm2, nI_ltI (show i < 2 ^ 31 by omega) (show hp_H p < 2 ^ 31 by omega), hi, decide_true, sp_X9_has, hd_t01, decide_eq_true_eq, hb_t (show s < 2 ^ 31 by omega) (show i < 31 by omega), nI_1, sp_X9_allTowns, hm1, hb_all (show hp_T p < 31 by omega), hb_pow i (by omega), hb_clr_val s h128 i (by omega)]
    by_cases hb : s.testBit i = true
    · simp only [hb, if_true]
      refine sp_X9_sumOf hp hm (show hb_clr s i < 2 ^ 31 by have := hb_clr_le s i; omega) (show 2 ^ hp_T p - 1 < 2 ^ 31 by omega) (hne i hi hb) _ ?_
      rw [hp_sum_all p _ _ (Nat.le_refl _)]
      have hK1 := fun y => hK _ _ ⟨rfl, y, rfl⟩
      have f1 := hp_sa_lt hp (hb_clr s i)
      cases hq : hp_bm (fun h => s.testBit h) (fun h => hp_sa p (hb_clr s h) (hp_T p)) i with
      | none =>
        simp only [hp_bm, hp_bv, hq, hb, if_true, hp_oi, hp_m1lt f1] at hK1 ⊢
        exact hK1 _
      | some b =>
        have f2 := hp_sa_lt hp (hb_clr s b)
        simp only [hp_bm, hp_bv, hq, hb, true_and, hp_oi, nI_ltI f2 f1] at hK1 ⊢
        by_cases hc : hp_sa p (hb_clr s b) (hp_T p) < hp_sa p (hb_clr s i) (hp_T p)
        · simp only [hc, if_true] at hK1 ⊢
          exact hK1 _
        · simp only [hc, if_false] at hK1 ⊢
          exact hK1 _
    · simp only [hb, if_false, Bool.false_eq_true]
      have hK1 := hK _ _ ⟨rfl, x, rfl⟩
      cases hq : hp_bm (fun h => s.testBit h) (fun h => hp_sa p (hb_clr s h) (hp_T p)) i with
      | none =>
        simp only [hp_bm, hp_bv, hq, hb, if_false, Bool.false_eq_true] at hK1 ⊢
        exact hK1
      | some b =>
        simp only [hp_bm, hp_bv, hq, hb, false_and, if_false, Bool.false_eq_true] at hK1 ⊢
        exact hK1
  · rintro ρ S2 K ⟨rfl, x, rfl⟩
    simp only [wc_X9_worstClosed_7, hd_mth, hd_rho0, hd_args, hd_wide, hd_sQ, hd_s0, hd_sI, hd_sJ, hd_sR, hd_sP, hd_sF, hd_sZ, hd_sG, hd_sA, hd_sL, hd_sB, hd_sO, hd_sN, hd_sD, hd_sW, hd_sE, hd_sRI, hd_sRZ, hd_sRJ, hd_sRR, hd_sRV, hd_sSw, hd_sw, hd_sCI, hd_sCL, hd_iK, hd_iL, hd_iU, hd_iB, hd_iD, hd_iJ, hd_iG, hd_iA, hd_iQ, hd_iC, hd_iN, hd_iE, hd_jK, hd_jL, hd_jU, hd_jB, hd_jD, hd_jH, hd_jI, hd_jA, hd_jQ, hd_jN, hd_rL, hd_rG, hd_rA, hd_rN, hd_cI, hd_c0, hd_cJ, hd_cX, hd_cA, hd_cO, hd_v0, hd_pI, hd_pJ, hd_pR, hd_nV, hd_nS, hd_get, hd_st, hd_stW, hd_cut, List.replicate, List.length_cons, List.length_nil, List.nil_append, List.cons_append, Nat.reduceAdd, Nat.reduceSub, Nat.reduceLeDiff, true_and, and_true, if_true, if_false, Bool.false_eq_true, List.append_nil, hs_o_0, hs_r_0_0, hs_t_0_0, hs_r_0_1, hs_t_0_1, hs_r_0_2, hs_t_0_2, hs_r_0_3, hs_t_0_3, hs_r_0_4, hs_t_0_4, hs_r_0_5, hs_t_0_5, hs_r_0_6, hs_t_0_6, hs_r_0_7, hs_t_0_7, hs_f_0_8, hs_o_1, hs_f_1_0, hs_f_1_1, hs_r_1_2, hs_t_1_2, hs_r_1_3, hs_t_1_3, hs_r_1_4, hs_t_1_4, hs_r_1_5, hs_t_1_5, hs_r_1_6, hs_t_1_6, hs_r_1_7, hs_t_1_7, hs_r_1_8, hs_t_1_8, hs_r_1_9, hs_t_1_9, hs_i_2, hs_i_3, hs_i_4, hs_i_5, hs_i_6, hs_i_7, hs_i_8, hs_i_9, hs_o_82, hs_r_82_0, hs_t_82_0, hs_f_82_1, hs_i_83, hs_o_84, hs_r_84_0, hs_t_84_0, hs_r_84_1, hs_t_84_1, hs_r_84_2, hs_t_84_2, hs_r_84_3, hs_t_84_3, hs_f_84_4, hs_i_85, hs_i_86, hs_i_87, hs_o_88, hs_r_88_0, hs_t_88_0, hs_r_88_1, hs_t_88_1, hs_r_88_2, hs_t_88_2, hs_r_88_3, hs_t_88_3, hs_r_88_4, hs_t_88_4, hs_r_88_5, hs_t_88_5, hs_r_88_6, hs_t_88_6, hs_r_88_7, hs_t_88_7, hs_f_88_8, hs_f_88_9, hs_i_89, hs_i_90, hs_i_91, hs_i_92, hs_i_93, hs_i_94, hs_i_95, hs_i_96, hs_i_97, hs_i_98, hs_i_99, hs_i_100, hs_i_101, hs_i_102, hs_o_103, hs_r_103_0, hs_t_103_0, hs_r_103_1, hs_t_103_1, hs_r_103_2, hs_t_103_2, hs_r_103_3, hs_t_103_3, hs_f_103_4, hs_i_104, hs_o_105, hs_r_105_0, hs_t_105_0, hs_r_105_1, hs_t_105_1, hs_r_105_2, hs_t_105_2, hs_i_106, hs_i_107, hs_o_108, hs_r_108_0, hs_t_108_0, hs_r_108_1, hs_t_108_1, hs_r_108_2, hs_t_108_2, hs_r_108_3, hs_t_108_3, hs_f_108_4, hs_i_109, hs_i_110, hs_o_111, hs_r_111_0, hs_t_111_0, hs_r_111_1, hs_t_111_1, hs_f_111_2, hs_f_111_3, hs_f_111_4, hs_i_112, hs_o_113, hs_f_113_0, hs_f_113_1, hs_f_113_2, hs_r_113_3, hs_t_113_3, hs_r_113_4, hs_t_113_4, hs_r_113_5, hs_t_113_5, hs_r_113_6, hs_t_113_6, hs_r_113_7, hs_t_113_7, hs_r_113_8, hs_t_113_8, hs_r_113_9, hs_t_113_9, hs_r_113_10, hs_t_113_10, hs_r_113_11, hs_t_113_11, hs_f_113_12, hs_f_113_13, hs_f_113_14, hs_r_113_15, hs_t_113_15, hs_f_113_16, hs_r_113_17, hs_t_113_17, hs_r_113_18, hs_t_113_18, hs_r_113_19, hs_t_113_19, hs_r_113_20, hs_t_113_20, hs_f_113_21, hs_f_113_22, hs_f_113_23, hs_r_113_24, hs_t_113_24, hs_f_113_25, hs_r_113_26, hs_t_113_26, hs_f_113_27, hs_i_114, hs_i_115, hs_i_116, hs_i_117, hs_i_118, hs_i_119, hs_i_120, hs_i_121, hs_i_122, hs_i_123, hs_i_124, hs_i_125, hs_i_126, hs_i_127, hs_i_128, hs_i_129, hm2, Int32.lt_irrefl, decide_false]
    exact hk
