/-! halls on a line: the reference -/
def hm_sp (S : hd_S) (u : Nat) (f : Nat → Int) : Prop := S.1 113 25 = nI u ∧ ∀ i, i < u → S.1 129 i = Int32.ofInt (f i)
/-- what the line's search leaves -/
def hm_lf (S S2 : hd_S) : Prop := hd_eqx [113, 129] S S2 ∧ ∀ k, k ≠ 25 → k ≠ 27 → S2.1 113 k = S.1 113 k
theorem hm_lf_P {S S2 : hd_S} {p : hp_P} (h : hm_lf S S2) (hm : hm_P S p) : hm_P S2 p := hm_P_fr (h.2 1 (by decide) (by decide)) (h.2 2 (by decide) (by decide)) (fun c h1 h2 => h.1.1 c (by simp only [List.mem_cons, List.not_mem_nil, or_false]; omega)) hm
theorem hm_lf_rf (S : hd_S) : hm_lf S S := ⟨hd_eqx_rf _ _, fun _ _ _ => rfl⟩
theorem hm_lf_25 {S S2 : hd_S} (v : Int32) (h : hm_lf S S2) : hm_lf S (hd_wI S2 113 25 v) := ⟨hd_eqx_w h.1 (by decide), fun k h1 h2 => by rw [hd_wI1, if_neg (fun r => h1 r.2)]; exact h.2 k h1 h2⟩
theorem hm_lf_27 {S S2 : hd_S} (v : Int32) (h : hm_lf S S2) : hm_lf S (hd_wI S2 113 27 v) := ⟨hd_eqx_w h.1 (by decide), fun k h1 h2 => by rw [hd_wI1, if_neg (fun r => h2 r.2)]; exact h.2 k h1 h2⟩
theorem hm_lf_129 {S S2 : hd_S} (i : Nat) (v : Int32) (h : hm_lf S S2) : hm_lf S (hd_wI S2 129 i v) := ⟨hd_eqx_w h.1 (by decide), fun k h1 h2 => by rw [hx_oth (by decide)]; exact h.2 k h1 h2⟩
def hp_ex (q : Nat → Bool) : Nat → Bool
  | 0 => false
  | n + 1 => hp_ex q n || q n
theorem hp_ex_iff {q : Nat → Bool} : ∀ {n : Nat}, hp_ex q n = true ↔ ∃ i, i < n ∧ q i = true
  | 0 => ⟨fun h => absurd h (fun r => nomatch (show false = true from r)), fun ⟨i, hi, _⟩ => absurd hi (by omega)⟩
  | n + 1 => by
    have ih := hp_ex_iff (q := q) (n := n)
    simp only [hp_ex, Bool.or_eq_true]
    constructor
    · rintro (h | h)
      · obtain ⟨i, hi, e⟩ := ih.mp h
        exact ⟨i, by omega, e⟩
      · exact ⟨n, by omega, h⟩
    · rintro ⟨i, hi, e⟩
      by_cases hin : i = n
      · rw [hin] at e
        exact Or.inr e
      · exact Or.inl (ih.mpr ⟨i, by omega, e⟩)
set_option maxHeartbeats 8000000 in
theorem sp_findSpots {S : hd_S} {p : hp_P} (hp : hp_ok p) (hm : hm_P S p) (post : Option hd_V → hd_S → Prop)
    (hk : ∀ S2 u f, hm_lf S S2 → hp_SP (hp_sp p) (hp_T p) u f → u ≤ hp_T p → hm_sp S2 u f → post none S2) : wm_X9_findSpots [hd_vR 113] S post := by
  have hT : hp_T p ≤ 8 := hp.1
  have hsb := hp.2.2.2.2.2.1
  simp only [wm_X9_findSpots, wo_X9_findSpots, hd_mth, hd_rho0, hd_args, hd_wide, hq_sQ, hd_s0, hq_sI, hq_sJ, hd_sR, hd_sP, hd_sF, hd_sZ, hd_sG, hd_sA, hd_sL, hd_sB, hd_sO, hd_sN, hd_sD, hd_sW, hd_sE, hd_sRI, hd_sRZ, hd_sRJ, hd_sRR, hd_sRV, hd_sSw, hd_sw, hd_sCI, hd_sCL, hd_iK, hd_iL, hd_iU, hd_iB, hd_iD, hd_iJ, hd_iG, hd_iA, hd_iQ, hd_iC, hd_iN, hd_iE, hd_jK, hd_jL, hd_jU, hd_jB, hd_jD, hd_jH, hd_jI, hd_jA, hd_jQ, hd_jN, hd_rL, hd_rG, hd_rA, hd_rN, hd_cI, hd_c0, hd_cJ, hd_cX, hd_cA, hd_cO, hd_v0, hd_pI, hd_pJ, hd_pR, hd_nV, hd_nS, hd_get, hd_st, hd_stW, hd_cut, List.replicate, List.length_cons, List.length_nil, List.nil_append, List.cons_append, Nat.reduceAdd, Nat.reduceSub, Nat.reduceLeDiff, true_and, and_true, if_true, if_false, Bool.false_eq_true, List.append_nil, hs_o_0, hs_r_0_0, hs_t_0_0, hs_r_0_1, hs_t_0_1, hs_r_0_2, hs_t_0_2, hs_r_0_3, hs_t_0_3, hs_r_0_4, hs_t_0_4, hs_r_0_5, hs_t_0_5, hs_r_0_6, hs_t_0_6, hs_r_0_7, hs_t_0_7, hs_f_0_8, hs_o_1, hs_f_1_0, hs_f_1_1, hs_r_1_2, hs_t_1_2, hs_r_1_3, hs_t_1_3, hs_r_1_4, hs_t_1_4, hs_r_1_5, hs_t_1_5, hs_r_1_6, hs_t_1_6, hs_r_1_7, hs_t_1_7, hs_r_1_8, hs_t_1_8, hs_r_1_9, hs_t_1_9, hs_i_2, hs_i_3, hs_i_4, hs_i_5, hs_i_6, hs_i_7, hs_i_8, hs_i_9, hs_o_82, hs_r_82_0, hs_t_82_0, hs_f_82_1, hs_i_83, hs_o_84, hs_r_84_0, hs_t_84_0, hs_r_84_1, hs_t_84_1, hs_r_84_2, hs_t_84_2, hs_r_84_3, hs_t_84_3, hs_f_84_4, hs_i_85, hs_i_86, hs_i_87, hs_o_88, hs_r_88_0, hs_t_88_0, hs_r_88_1, hs_t_88_1, hs_r_88_2, hs_t_88_2, hs_r_88_3, hs_t_88_3, hs_r_88_4, hs_t_88_4, hs_r_88_5, hs_t_88_5, hs_r_88_6, hs_t_88_6, hs_r_88_7, hs_t_88_7, hs_f_88_8, hs_f_88_9, hs_i_89, hs_i_90, hs_i_91, hs_i_92, hs_i_93, hs_i_94, hs_i_95, hs_i_96, hs_i_97, hs_i_98, hs_i_99, hs_i_100, hs_i_101, hs_i_102, hs_o_103, hs_r_103_0, hs_t_103_0, hs_r_103_1, hs_t_103_1, hs_r_103_2, hs_t_103_2, hs_r_103_3, hs_t_103_3, hs_f_103_4, hs_i_104, hs_o_105, hs_r_105_0, hs_t_105_0, hs_r_105_1, hs_t_105_1, hs_r_105_2, hs_t_105_2, hs_i_106, hs_i_107, hs_o_108, hs_r_108_0, hs_t_108_0, hs_r_108_1, hs_t_108_1, hs_r_108_2, hs_t_108_2, hs_r_108_3, hs_t_108_3, hs_f_108_4, hs_i_109, hs_i_110, hs_o_111, hs_r_111_0, hs_t_111_0, hs_r_111_1, hs_t_111_1, hs_f_111_2, hs_f_111_3, hs_f_111_4, hs_i_112, hs_o_113, hs_f_113_0, hs_f_113_1, hs_f_113_2, hs_r_113_3, hs_t_113_3, hs_r_113_4, hs_t_113_4, hs_r_113_5, hs_t_113_5, hs_r_113_6, hs_t_113_6, hs_r_113_7, hs_t_113_7, hs_r_113_8, hs_t_113_8, hs_r_113_9, hs_t_113_9, hs_r_113_10, hs_t_113_10, hs_r_113_11, hs_t_113_11, hs_f_113_12, hs_f_113_13, hs_f_113_14, hs_r_113_15, hs_t_113_15, hs_f_113_16, hs_r_113_17, hs_t_113_17, hs_r_113_18, hs_t_113_18, hs_r_113_19, hs_t_113_19, hs_r_113_20, hs_t_113_20, hs_f_113_21, hs_f_113_22, hs_f_113_23, hs_r_113_24, hs_t_113_24, hs_f_113_25, hs_r_113_26, hs_t_113_26, hs_f_113_27, hs_i_114, hs_i_115, hs_i_116, hs_i_117, hs_i_118, hs_i_119, hs_i_120, hs_i_121, hs_i_122, hs_i_123, hs_i_124, hs_i_125, hs_i_126, hs_i_127, hs_i_128, hs_i_129, true_and]
  refine hd_up (fun i ρ S2 => hm_lf S S2 ∧ ∃ u f, hm_sp S2 u f ∧ hp_inc u f ∧ (∀ j, j < u → ∃ t, t < hp_T p ∧ f j = hp_sp p t) ∧ (∀ j, j < u → f j < (i : Int) - 1000) ∧ (∀ t, t < hp_T p → hp_sp p t < (i : Int) - 1000 → ∃ j, j < u ∧ f j = hp_sp p t) ∧ ∃ x y : hd_V, ρ = [hd_vR 113, hd_vI (Int32.ofInt ((i : Int) - 1000)), x, y]) 2001 ?_ ?_ (Nat.zero_le _) ⟨hm_lf_25 0 (hm_lf_rf S), 0, fun _ => 0, ⟨by rw [hd_wI1, if_pos ⟨rfl, rfl⟩]; rfl, fun i hi => by omega⟩, fun i j _ hj => by omega, fun j hj => by omega, fun j hj => by omega, fun t ht hl => by have := (hsb t).1; omega, _, _, rfl⟩
  · rintro i ρ S2 K hi ⟨hl, u, f, hs, hinc, hmem, hlt, hall, x, y, rfl⟩ hK
    have hm2 : hm_P S2 p := hm_lf_P hl hm
    have hle : (i : Int) - 1000 ≤ 1000 := by omega
    have hX : -100000 ≤ (i : Int) - 1000 ∧ (i : Int) - 1000 ≤ 100000 := by omega
    have e1000 : (1000 : Int32) = Int32.ofInt 1000 := rfl
    have hnx : Int32.ofInt ((i : Int) - 1000) + 1 = Int32.ofInt (((i + 1 : Nat) : Int) - 1000) := by
      rw [show (1 : Int32) = Int32.ofInt 1 from rfl, ← Int32.ofInt_add]
      congr 1
      omega
    simp only [wc_X9_findSpots_9, wb_X9_findSpots_9, hd_mth, hd_rho0, hd_args, hd_wide, hq_sQ, hd_s0, hq_sI, hq_sJ, hd_sR, hd_sP, hd_sF, hd_sZ, hd_sG, hd_sA, hd_sL, hd_sB, hd_sO, hd_sN, hd_sD, hd_sW, hd_sE, hd_sRI, hd_sRZ, hd_sRJ, hd_sRR, hd_sRV, hd_sSw, hd_sw, hd_sCI, hd_sCL, hd_iK, hd_iL, hd_iU, hd_iB, hd_iD, hd_iJ, hd_iG, hd_iA, hd_iQ, hd_iC, hd_iN, hd_iE, hd_jK, hd_jL, hd_jU, hd_jB, hd_jD, hd_jH, hd_jI, hd_jA, hd_jQ, hd_jN, hd_rL, hd_rG, hd_rA, hd_rN, hd_cI, hd_c0, hd_cJ, hd_cX, hd_cA, hd_cO, hd_v0, hd_pI, hd_pJ, hd_pR, hd_nV, hd_nS, hd_get, hd_st, hd_stW, hd_cut, List.replicate, List.length_cons, List.length_nil, List.nil_append, List.cons_append, Nat.reduceAdd, Nat.reduceSub, Nat.reduceLeDiff, true_and, and_true, if_true, if_false, Bool.false_eq_true, List.append_nil, e1000, hz_le hX (show -100000 ≤ (1000 : Int) ∧ (1000 : Int) ≤ 100000 by decide), hle, decide_true, if_true]
    refine hd_up (fun t ρ S3 => S3 = S2 ∧ ρ = [hd_vR 113, hd_vI (Int32.ofInt ((i : Int) - 1000)), hd_vI (if hp_ex (fun s => decide (hp_sp p s = (i : Int) - 1000)) t = true then 1 else 0), hd_vI (nI t)]) (hp_T p) ?_ ?_ (Nat.zero_le _) ⟨rfl, rfl⟩
    · rintro t ρ S3 K2 ht ⟨rfl, rfl⟩ hK2
      have e1 : S3.1 116 t = Int32.ofInt (hp_sp p t) := hm2.2.2.2.2.1 t (by omega)
      have hst := hsb t
      simp only [wc_X9_findSpots_20, wb_X9_findSpots_20, hd_mth, hd_rho0, hd_args, hd_wide, hq_sQ, hd_s0, hq_sI, hq_sJ, hd_sR, hd_sP, hd_sF, hd_sZ, hd_sG, hd_sA, hd_sL, hd_sB, hd_sO, hd_sN, hd_sD, hd_sW, hd_sE, hd_sRI, hd_sRZ, hd_sRJ, hd_sRR, hd_sRV, hd_sSw, hd_sw, hd_sCI, hd_sCL, hd_iK, hd_iL, hd_iU, hd_iB, hd_iD, hd_iJ, hd_iG, hd_iA, hd_iQ, hd_iC, hd_iN, hd_iE, hd_jK, hd_jL, hd_jU, hd_jB, hd_jD, hd_jH, hd_jI, hd_jA, hd_jQ, hd_jN, hd_rL, hd_rG, hd_rA, hd_rN, hd_cI, hd_c0, hd_cJ, hd_cX, hd_cA, hd_cO, hd_v0, hd_pI, hd_pJ, hd_pR, hd_nV, hd_nS, hd_get, hd_st, hd_stW, hd_cut, List.replicate, List.length_cons, List.length_nil, List.nil_append, List.cons_append, Nat.reduceAdd, Nat.reduceSub, Nat.reduceLeDiff, true_and, and_true, if_true, if_false, Bool.false_eq_true, List.append_nil, hs_o_0, hs_r_0_0, hs_t_0_0, hs_r_0_1, hs_t_0_1, hs_r_0_2, hs_t_0_2, hs_r_0_3, hs_t_0_3, hs_r_0_4, hs_t_0_4, hs_r_0_5, hs_t_0_5, hs_r_0_6, hs_t_0_6, hs_r_0_7, hs_t_0_7, hs_f_0_8, hs_o_1, hs_f_1_0, hs_f_1_1, hs_r_1_2, hs_t_1_2, hs_r_1_3, hs_t_1_3, hs_r_1_4, hs_t_1_4, hs_r_1_5, hs_t_1_5, hs_r_1_6, hs_t_1_6, hs_r_1_7, hs_t_1_7, hs_r_1_8, hs_t_1_8, hs_r_1_9, hs_t_1_9, hs_i_2, hs_i_3, hs_i_4, hs_i_5, hs_i_6, hs_i_7, hs_i_8, hs_i_9, hs_o_82, hs_r_82_0, hs_t_82_0, hs_f_82_1, hs_i_83, hs_o_84, hs_r_84_0, hs_t_84_0, hs_r_84_1, hs_t_84_1, hs_r_84_2, hs_t_84_2, hs_r_84_3, hs_t_84_3, hs_f_84_4, hs_i_85, hs_i_86, hs_i_87, hs_o_88, hs_r_88_0, hs_t_88_0, hs_r_88_1, hs_t_88_1, hs_r_88_2, hs_t_88_2, hs_r_88_3, hs_t_88_3, hs_r_88_4, hs_t_88_4, hs_r_88_5, hs_t_88_5, hs_r_88_6, hs_t_88_6, hs_r_88_7, hs_t_88_7, hs_f_88_8, hs_f_88_9, hs_i_89, hs_i_90, hs_i_91, hs_i_92, hs_i_93, hs_i_94, hs_i_95, hs_i_96, hs_i_97, hs_i_98, hs_i_99, hs_i_100, hs_i_101, hs_i_102, hs_o_103, hs_r_103_0, hs_t_103_0, hs_r_103_1, hs_t_103_1, hs_r_103_2, hs_t_103_2, hs_r_103_3, hs_t_103_3, hs_f_103_4, hs_i_104, hs_o_105, hs_r_105_0, hs_t_105_0, hs_r_105_1, hs_t_105_1, hs_r_105_2, hs_t_105_2, hs_i_106, hs_i_107, hs_o_108, hs_r_108_0, hs_t_108_0, hs_r_108_1, hs_t_108_1, hs_r_108_2, hs_t_108_2, hs_r_108_3, hs_t_108_3, hs_f_108_4, hs_i_109, hs_i_110, hs_o_111, hs_r_111_0, hs_t_111_0, hs_r_111_1, hs_t_111_1, hs_f_111_2, hs_f_111_3, hs_f_111_4, hs_i_112, hs_o_113, hs_f_113_0, hs_f_113_1, hs_f_113_2, hs_r_113_3, hs_t_113_3, hs_r_113_4, hs_t_113_4, hs_r_113_5, hs_t_113_5, hs_r_113_6, hs_t_113_6, hs_r_113_7, hs_t_113_7, hs_r_113_8, hs_t_113_8, hs_r_113_9, hs_t_113_9, hs_r_113_10, hs_t_113_10, hs_r_113_11, hs_t_113_11, hs_f_113_12, hs_f_113_13, hs_f_113_14, hs_r_113_15, hs_t_113_15, hs_f_113_16, hs_r_113_17, hs_t_113_17, hs_r_113_18, hs_t_113_18, hs_r_113_19, hs_t_113_19, hs_r_113_20, hs_t_113_20, hs_f_113_21, hs_f_113_22, hs_f_113_23, hs_r_113_24, hs_t_113_24, hs_f_113_25, hs_r_113_26, hs_t_113_26, hs_f_113_27, hs_i_114, hs_i_115, hs_i_116, hs_i_117, hs_i_118, hs_i_119, hs_i_120, hs_i_121, hs_i_122, hs_i_123, hs_i_124, hs_i_125, hs_i_126, hs_i_127, hs_i_128, hs_i_129, hm2.1, nI_ltI (show t < 2 ^ 31 by omega) (show hp_T p < 2 ^ 31 by omega), ht, decide_true, if_true, hd_t01, decide_eq_true_eq, vp_in_nI (show t < 8 by omega) (show 8 < 2 ^ 31 by decide), hd_cc (show t < 2147483648 by omega), e1, hz_eq (show -100000 ≤ hp_sp p t ∧ hp_sp p t ≤ 100000 by omega) hX, true_and, nI_1]
      by_cases hq : hp_ex (fun s => decide (hp_sp p s = (i : Int) - 1000)) t = true
      · simp only [hq, if_true]
        exact hK2 _ _ ⟨rfl, by simp only [hp_ex, hq, Bool.true_or, if_true]⟩
      · simp only [hq, if_false]
        by_cases hq2 : hp_sp p t = (i : Int) - 1000
        · simp only [hq2, decide_true, if_true]
          exact hK2 _ _ ⟨rfl, by simp only [hp_ex, hq2, decide_true, Bool.or_true, if_true]⟩
        · simp only [hq2, decide_false, Bool.false_eq_true, if_false]
          exact hK2 _ _ ⟨rfl, by simp only [hp_ex, hq2, decide_false, Bool.or_false, hq, if_false, Bool.false_eq_true]⟩
    · rintro ρ S3 K2 ⟨rfl, rfl⟩
      simp only [wc_X9_findSpots_20, hd_mth, hd_rho0, hd_args, hd_wide, hq_sQ, hd_s0, hq_sI, hq_sJ, hd_sR, hd_sP, hd_sF, hd_sZ, hd_sG, hd_sA, hd_sL, hd_sB, hd_sO, hd_sN, hd_sD, hd_sW, hd_sE, hd_sRI, hd_sRZ, hd_sRJ, hd_sRR, hd_sRV, hd_sSw, hd_sw, hd_sCI, hd_sCL, hd_iK, hd_iL, hd_iU, hd_iB, hd_iD, hd_iJ, hd_iG, hd_iA, hd_iQ, hd_iC, hd_iN, hd_iE, hd_jK, hd_jL, hd_jU, hd_jB, hd_jD, hd_jH, hd_jI, hd_jA, hd_jQ, hd_jN, hd_rL, hd_rG, hd_rA, hd_rN, hd_cI, hd_c0, hd_cJ, hd_cX, hd_cA, hd_cO, hd_v0, hd_pI, hd_pJ, hd_pR, hd_nV, hd_nS, hd_get, hd_st, hd_stW, hd_cut, List.replicate, List.length_cons, List.length_nil, List.nil_append, List.cons_append, Nat.reduceAdd, Nat.reduceSub, Nat.reduceLeDiff, true_and, and_true, if_true, if_false, Bool.false_eq_true, List.append_nil, hs_o_0, hs_r_0_0, hs_t_0_0, hs_r_0_1, hs_t_0_1, hs_r_0_2, hs_t_0_2, hs_r_0_3, hs_t_0_3, hs_r_0_4, hs_t_0_4, hs_r_0_5, hs_t_0_5, hs_r_0_6, hs_t_0_6, hs_r_0_7, hs_t_0_7, hs_f_0_8, hs_o_1, hs_f_1_0, hs_f_1_1, hs_r_1_2, hs_t_1_2, hs_r_1_3, hs_t_1_3, hs_r_1_4, hs_t_1_4, hs_r_1_5, hs_t_1_5, hs_r_1_6, hs_t_1_6, hs_r_1_7, hs_t_1_7, hs_r_1_8, hs_t_1_8, hs_r_1_9, hs_t_1_9, hs_i_2, hs_i_3, hs_i_4, hs_i_5, hs_i_6, hs_i_7, hs_i_8, hs_i_9, hs_o_82, hs_r_82_0, hs_t_82_0, hs_f_82_1, hs_i_83, hs_o_84, hs_r_84_0, hs_t_84_0, hs_r_84_1, hs_t_84_1, hs_r_84_2, hs_t_84_2, hs_r_84_3, hs_t_84_3, hs_f_84_4, hs_i_85, hs_i_86, hs_i_87, hs_o_88, hs_r_88_0, hs_t_88_0, hs_r_88_1, hs_t_88_1, hs_r_88_2, hs_t_88_2, hs_r_88_3, hs_t_88_3, hs_r_88_4, hs_t_88_4, hs_r_88_5, hs_t_88_5, hs_r_88_6, hs_t_88_6, hs_r_88_7, hs_t_88_7, hs_f_88_8, hs_f_88_9, hs_i_89, hs_i_90, hs_i_91, hs_i_92, hs_i_93, hs_i_94, hs_i_95, hs_i_96, hs_i_97, hs_i_98, hs_i_99, hs_i_100, hs_i_101, hs_i_102, hs_o_103, hs_r_103_0, hs_t_103_0, hs_r_103_1, hs_t_103_1, hs_r_103_2, hs_t_103_2, hs_r_103_3, hs_t_103_3, hs_f_103_4, hs_i_104, hs_o_105, hs_r_105_0, hs_t_105_0, hs_r_105_1, hs_t_105_1, hs_r_105_2, hs_t_105_2, hs_i_106, hs_i_107, hs_o_108, hs_r_108_0, hs_t_108_0, hs_r_108_1, hs_t_108_1, hs_r_108_2, hs_t_108_2, hs_r_108_3, hs_t_108_3, hs_f_108_4, hs_i_109, hs_i_110, hs_o_111, hs_r_111_0, hs_t_111_0, hs_r_111_1, hs_t_111_1, hs_f_111_2, hs_f_111_3, hs_f_111_4, hs_i_112, hs_o_113, hs_f_113_0, hs_f_113_1, hs_f_113_2, hs_r_113_3, hs_t_113_3, hs_r_113_4, hs_t_113_4, hs_r_113_5, hs_t_113_5, hs_r_113_6, hs_t_113_6, hs_r_113_7, hs_t_113_7, hs_r_113_8, hs_t_113_8, hs_r_113_9, hs_t_113_9, hs_r_113_10, hs_t_113_10, hs_r_113_11, hs_t_113_11, hs_f_113_12, hs_f_113_13, hs_f_113_14, hs_r_113_15, hs_t_113_15, hs_f_113_16, hs_r_113_17, hs_t_113_17, hs_r_113_18, hs_t_113_18, hs_r_113_19, hs_t_113_19, hs_r_113_20, hs_t_113_20, hs_f_113_21, hs_f_113_22, hs_f_113_23, hs_r_113_24, hs_t_113_24, hs_f_113_25, hs_r_113_26, hs_t_113_26, hs_f_113_27, hs_i_114, hs_i_115, hs_i_116, hs_i_117, hs_i_118, hs_i_119, hs_i_120, hs_i_121, hs_i_122, hs_i_123, hs_i_124, hs_i_125, hs_i_126, hs_i_127, hs_i_128, hs_i_129, hm2.1, Int32.lt_irrefl, decide_false, Bool.false_eq_true, if_false, hd_t01, decide_eq_true_eq, hs.1, hnx]
      by_cases hq : hp_ex (fun s => decide (hp_sp p s = (i : Int) - 1000)) (hp_T p) = true
      · obtain ⟨t0, ht0, et0⟩ := hp_ex_iff.mp hq
        have et0 : hp_sp p t0 = (i : Int) - 1000 := of_decide_eq_true et0
        have inc2 : hp_inc (u + 1) (fun j => if j = u then (i : Int) - 1000 else f j) := fun a b hab hb => by
          show (if a = u then (i : Int) - 1000 else f a) < (if b = u then (i : Int) - 1000 else f b)
          rw [if_neg (by omega)]
          by_cases hbu : b = u
          · rw [if_pos hbu]
            exact hlt a (by omega)
          · rw [if_neg hbu]
            exact hinc a b hab (by omega)
        have mem2 : ∀ j, j < u + 1 → ∃ t, t < hp_T p ∧ (fun j => if j = u then (i : Int) - 1000 else f j) j = hp_sp p t := fun j hj => by
          by_cases hju : j = u
          · exact ⟨t0, ht0, by show (if j = u then (i : Int) - 1000 else f j) = _; rw [if_pos hju, et0]⟩
          · obtain ⟨t, ht, e⟩ := hmem j (by omega)
            exact ⟨t, ht, by show (if j = u then (i : Int) - 1000 else f j) = _; rw [if_neg hju, e]⟩
        have hu8 : u + 1 ≤ hp_T p := hp_inc_le inc2 mem2
        have e25 : (hd_wI S3 129 u (Int32.ofInt ((i : Int) - 1000))).1 113 25 = nI u := by rw [hx_oth (by decide)]; exact hs.1
        simp only [hq, if_true, vp_in_nI (show u < 8 by omega) (show 8 < 2 ^ 31 by decide), hd_cc (show u < 2147483648 by omega), true_and, e25, nI_1]
        refine hK _ _ ⟨hm_lf_25 _ (hm_lf_129 _ _ hl), u + 1, fun j => if j = u then (i : Int) - 1000 else f j, ⟨by rw [hd_wI1, if_pos ⟨rfl, rfl⟩], fun j hj => ?_⟩, inc2, mem2, fun j hj => ?_, fun t ht hl2 => ?_, _, _, rfl⟩
        · rw [hx_oth (by decide), hd_wI1]
          show (if 129 = 129 ∧ j = u then Int32.ofInt ((i : Int) - 1000) else S3.1 129 j) = Int32.ofInt (if j = u then (i : Int) - 1000 else f j)
          by_cases hju : j = u
          · rw [if_pos ⟨rfl, hju⟩, if_pos hju]
          · rw [if_neg (fun r => hju r.2), if_neg hju]
            exact hs.2 j (by omega)
        · show (if j = u then (i : Int) - 1000 else f j) < _
          by_cases hju : j = u
          · rw [if_pos hju]
            omega
          · rw [if_neg hju]
            have := hlt j (by omega)
            omega
        · by_cases hsx : hp_sp p t = (i : Int) - 1000
          · exact ⟨u, by omega, by show (if u = u then (i : Int) - 1000 else f u) = _; rw [if_pos rfl, hsx]⟩
          · obtain ⟨j, hj, e⟩ := hall t ht (by omega)
            exact ⟨j, by omega, by show (if j = u then (i : Int) - 1000 else f j) = _; rw [if_neg (by omega), e]⟩
      · simp only [hq, if_false]
        refine hK _ _ ⟨hl, u, f, hs, hinc, hmem, fun j hj => by have := hlt j hj; omega, fun t ht hl2 => ?_, _, _, rfl⟩
        by_cases hsx : hp_sp p t = (i : Int) - 1000
        · exact absurd (hp_ex_iff.mpr ⟨t, ht, decide_eq_true hsx⟩) hq
        · exact hall t ht (by omega)
  · rintro ρ S2 K ⟨hl, u, f, hs, hinc, hmem, hlt, hall, x, y, rfl⟩
    have e1000 : (1000 : Int32) = Int32.ofInt 1000 := rfl
    have hle : ¬ (((2001 : Nat) : Int) - 1000 ≤ 1000) := by omega
    simp only [wc_X9_findSpots_9, hd_mth, hd_rho0, hd_args, hd_wide, hq_sQ, hd_s0, hq_sI, hq_sJ, hd_sR, hd_sP, hd_sF, hd_sZ, hd_sG, hd_sA, hd_sL, hd_sB, hd_sO, hd_sN, hd_sD, hd_sW, hd_sE, hd_sRI, hd_sRZ, hd_sRJ, hd_sRR, hd_sRV, hd_sSw, hd_sw, hd_sCI, hd_sCL, hd_iK, hd_iL, hd_iU, hd_iB, hd_iD, hd_iJ, hd_iG, hd_iA, hd_iQ, hd_iC, hd_iN, hd_iE, hd_jK, hd_jL, hd_jU, hd_jB, hd_jD, hd_jH, hd_jI, hd_jA, hd_jQ, hd_jN, hd_rL, hd_rG, hd_rA, hd_rN, hd_cI, hd_c0, hd_cJ, hd_cX, hd_cA, hd_cO, hd_v0, hd_pI, hd_pJ, hd_pR, hd_nV, hd_nS, hd_get, hd_st, hd_stW, hd_cut, List.replicate, List.length_cons, List.length_nil, List.nil_append, List.cons_append, Nat.reduceAdd, Nat.reduceSub, Nat.reduceLeDiff, true_and, and_true, if_true, if_false, Bool.false_eq_true, List.append_nil, e1000, hz_le (show -100000 ≤ ((2001 : Nat) : Int) - 1000 ∧ ((2001 : Nat) : Int) - 1000 ≤ 100000 by omega) (show -100000 ≤ (1000 : Int) ∧ (1000 : Int) ≤ 100000 by decide), hle, decide_false, Bool.false_eq_true, if_false]
    exact hk S2 u f hl ⟨hinc, hmem, fun t ht => hall t ht (by have := (hsb t).2; omega)⟩ (hp_inc_le hinc hmem) hs
/-- the reference's choice as a row -/
def hp_ga (a : Nat) : Nat → Bool := fun i => a.testBit i
theorem hz_ab1 (x y : Int) : Int32.ofInt (y - x) = nI (x - y).natAbs ∨ x ≥ y := by
  by_cases h : x ≥ y
  · exact Or.inr h
  · left
    rw [hz_nat]
    congr 1
    omega
set_option maxHeartbeats 8000000 in
theorem sp_lineCost {S : hd_S} {p : hp_P} (hp : hp_ok p) (hm : hm_P S p) {u : Nat} {f : Nat → Int} (hu : u ≤ 8) (hs : hm_sp S u f) (hb : hp_fb u f) (kind : Int32) {a : Nat} (ha : a < 2 ^ 31) (hne : ∃ i, i < u ∧ a.testBit i = true) (post : Option hd_V → hd_S → Prop) (hk : post (some (hd_vI (nI (hp_ld p u f kind (hp_ga a))))) S) : wm_X9_lineCost [hd_vR 113, hd_vI kind, hd_vI (nI a)] S post := by
  have hT : hp_T p ≤ 8 := hp.1
  have hsb := hp.2.2.2.2.2.1
  have hN : ∀ t, hp_nd f (hp_ga a) (hp_sp p t) 10000 u = hp_nd f (hp_ga a) (hp_sp p t) 2000 u := fun t => by
    have h1 := hsb t
    rcases hp_nd_N (f := f) (g := hp_ga a) (x := hp_sp p t) u (fun i hi => by have := hb i hi; omega) with ⟨e, -⟩ | ⟨-, -, e⟩
    · exact e
    · obtain ⟨i, hi, hbi⟩ := hne
      have := e i hi
      unfold hp_ga at this
      rw [hbi] at this
      cases this
  simp only [wm_X9_lineCost, wo_X9_lineCost, hd_mth, hd_rho0, hd_args, hd_wide, hq_sQ, hd_s0, hq_sI, hq_sJ, hd_sR, hd_sP, hd_sF, hd_sZ, hd_sG, hd_sA, hd_sL, hd_sB, hd_sO, hd_sN, hd_sD, hd_sW, hd_sE, hd_sRI, hd_sRZ, hd_sRJ, hd_sRR, hd_sRV, hd_sSw, hd_sw, hd_sCI, hd_sCL, hd_iK, hd_iL, hd_iU, hd_iB, hd_iD, hd_iJ, hd_iG, hd_iA, hd_iQ, hd_iC, hd_iN, hd_iE, hd_jK, hd_jL, hd_jU, hd_jB, hd_jD, hd_jH, hd_jI, hd_jA, hd_jQ, hd_jN, hd_rL, hd_rG, hd_rA, hd_rN, hd_cI, hd_c0, hd_cJ, hd_cX, hd_cA, hd_cO, hd_v0, hd_pI, hd_pJ, hd_pR, hd_nV, hd_nS, hd_get, hd_st, hd_stW, hd_cut, List.replicate, List.length_cons, List.length_nil, List.nil_append, List.cons_append, Nat.reduceAdd, Nat.reduceSub, Nat.reduceLeDiff, true_and, and_true, if_true, if_false, Bool.false_eq_true, List.append_nil]
  refine hd_up (fun t ρ S2 => S2 = S ∧ ∃ x y z : hd_V, ρ = [hd_vR 113, hd_vI kind, hd_vI (nI a), hd_vI (nI (fb_sm (fun t => hp_cr p t * hp_nd f (hp_ga a) (hp_sp p t) 2000 u) t)), hd_vI (nI (hp_mxn (fun t => hp_nd f (hp_ga a) (hp_sp p t) 2000 u) t)), hd_vI (nI t), x, y, z]) (hp_T p) ?_ ?_ (Nat.zero_le _) ⟨rfl, _, _, _, rfl⟩
  · rintro t ρ S2 K ht ⟨rfl, x, y, z, rfl⟩ hK
    have e1 : S2.1 116 t = Int32.ofInt (hp_sp p t) := hm.2.2.2.2.1 t (by omega)
    have e2 : S2.1 114 t = nI (hp_cr p t) := hm.2.2.1 t (by omega)
    have hst := hsb t
    simp only [wc_X9_lineCost_8, wb_X9_lineCost_8, hd_mth, hd_rho0, hd_args, hd_wide, hq_sQ, hd_s0, hq_sI, hq_sJ, hd_sR, hd_sP, hd_sF, hd_sZ, hd_sG, hd_sA, hd_sL, hd_sB, hd_sO, hd_sN, hd_sD, hd_sW, hd_sE, hd_sRI, hd_sRZ, hd_sRJ, hd_sRR, hd_sRV, hd_sSw, hd_sw, hd_sCI, hd_sCL, hd_iK, hd_iL, hd_iU, hd_iB, hd_iD, hd_iJ, hd_iG, hd_iA, hd_iQ, hd_iC, hd_iN, hd_iE, hd_jK, hd_jL, hd_jU, hd_jB, hd_jD, hd_jH, hd_jI, hd_jA, hd_jQ, hd_jN, hd_rL, hd_rG, hd_rA, hd_rN, hd_cI, hd_c0, hd_cJ, hd_cX, hd_cA, hd_cO, hd_v0, hd_pI, hd_pJ, hd_pR, hd_nV, hd_nS, hd_get, hd_st, hd_stW, hd_cut, List.replicate, List.length_cons, List.length_nil, List.nil_append, List.cons_append, Nat.reduceAdd, Nat.reduceSub, Nat.reduceLeDiff, true_and, and_true, if_true, if_false, Bool.false_eq_true, List.append_nil, hs_o_0, hs_r_0_0, hs_t_0_0, hs_r_0_1, hs_t_0_1, hs_r_0_2, hs_t_0_2, hs_r_0_3, hs_t_0_3, hs_r_0_4, hs_t_0_4, hs_r_0_5, hs_t_0_5, hs_r_0_6, hs_t_0_6, hs_r_0_7, hs_t_0_7, hs_f_0_8, hs_o_1, hs_f_1_0, hs_f_1_1, hs_r_1_2, hs_t_1_2, hs_r_1_3, hs_t_1_3, hs_r_1_4, hs_t_1_4, hs_r_1_5, hs_t_1_5, hs_r_1_6, hs_t_1_6, hs_r_1_7, hs_t_1_7, hs_r_1_8, hs_t_1_8, hs_r_1_9, hs_t_1_9, hs_i_2, hs_i_3, hs_i_4, hs_i_5, hs_i_6, hs_i_7, hs_i_8, hs_i_9, hs_o_82, hs_r_82_0, hs_t_82_0, hs_f_82_1, hs_i_83, hs_o_84, hs_r_84_0, hs_t_84_0, hs_r_84_1, hs_t_84_1, hs_r_84_2, hs_t_84_2, hs_r_84_3, hs_t_84_3, hs_f_84_4, hs_i_85, hs_i_86, hs_i_87, hs_o_88, hs_r_88_0, hs_t_88_0, hs_r_88_1, hs_t_88_1, hs_r_88_2, hs_t_88_2, hs_r_88_3, hs_t_88_3, hs_r_88_4, hs_t_88_4, hs_r_88_5, hs_t_88_5, hs_r_88_6, hs_t_88_6, hs_r_88_7, hs_t_88_7, hs_f_88_8, hs_f_88_9, hs_i_89, hs_i_90, hs_i_91, hs_i_92, hs_i_93, hs_i_94, hs_i_95, hs_i_96, hs_i_97, hs_i_98, hs_i_99, hs_i_100, hs_i_101, hs_i_102, hs_o_103, hs_r_103_0, hs_t_103_0, hs_r_103_1, hs_t_103_1, hs_r_103_2, hs_t_103_2, hs_r_103_3, hs_t_103_3, hs_f_103_4, hs_i_104, hs_o_105, hs_r_105_0, hs_t_105_0, hs_r_105_1, hs_t_105_1, hs_r_105_2, hs_t_105_2, hs_i_106, hs_i_107, hs_o_108, hs_r_108_0, hs_t_108_0, hs_r_108_1, hs_t_108_1, hs_r_108_2, hs_t_108_2, hs_r_108_3, hs_t_108_3, hs_f_108_4, hs_i_109, hs_i_110, hs_o_111, hs_r_111_0, hs_t_111_0, hs_r_111_1, hs_t_111_1, hs_f_111_2, hs_f_111_3, hs_f_111_4, hs_i_112, hs_o_113, hs_f_113_0, hs_f_113_1, hs_f_113_2, hs_r_113_3, hs_t_113_3, hs_r_113_4, hs_t_113_4, hs_r_113_5, hs_t_113_5, hs_r_113_6, hs_t_113_6, hs_r_113_7, hs_t_113_7, hs_r_113_8, hs_t_113_8, hs_r_113_9, hs_t_113_9, hs_r_113_10, hs_t_113_10, hs_r_113_11, hs_t_113_11, hs_f_113_12, hs_f_113_13, hs_f_113_14, hs_r_113_15, hs_t_113_15, hs_f_113_16, hs_r_113_17, hs_t_113_17, hs_r_113_18, hs_t_113_18, hs_r_113_19, hs_t_113_19, hs_r_113_20, hs_t_113_20, hs_f_113_21, hs_f_113_22, hs_f_113_23, hs_r_113_24, hs_t_113_24, hs_f_113_25, hs_r_113_26, hs_t_113_26, hs_f_113_27, hs_i_114, hs_i_115, hs_i_116, hs_i_117, hs_i_118, hs_i_119, hs_i_120, hs_i_121, hs_i_122, hs_i_123, hs_i_124, hs_i_125, hs_i_126, hs_i_127, hs_i_128, hs_i_129, hm.1, nI_ltI (show t < 2 ^ 31 by omega) (show hp_T p < 2 ^ 31 by omega), ht, decide_true, if_true]
    refine hd_up (fun k ρ S3 => S3 = S2 ∧ ∃ z : hd_V, ρ = [hd_vR 113, hd_vI kind, hd_vI (nI a), hd_vI (nI (fb_sm (fun t => hp_cr p t * hp_nd f (hp_ga a) (hp_sp p t) 2000 u) t)), hd_vI (nI (hp_mxn (fun t => hp_nd f (hp_ga a) (hp_sp p t) 2000 u) t)), hd_vI (nI t), hd_vI (nI (hp_nd f (hp_ga a) (hp_sp p t) 10000 k)), hd_vI (nI k), z]) u ?_ ?_ (Nat.zero_le _) ⟨rfl, _, rfl⟩
    · rintro k ρ S3 K2 hk2 ⟨rfl, z, rfl⟩ hK2
      have hbk := hb k hk2
      have r := hs.2 k hk2
      have hnd := hp_nd_le f (hp_ga a) (hp_sp p t) 10000 k
      have hab : (f k - hp_sp p t).natAbs < 2 ^ 31 := by omega
      simp only [wc_X9_lineCost_25, wb_X9_lineCost_25, hd_mth, hd_rho0, hd_args, hd_wide, hq_sQ, hd_s0, hq_sI, hq_sJ, hd_sR, hd_sP, hd_sF, hd_sZ, hd_sG, hd_sA, hd_sL, hd_sB, hd_sO, hd_sN, hd_sD, hd_sW, hd_sE, hd_sRI, hd_sRZ, hd_sRJ, hd_sRR, hd_sRV, hd_sSw, hd_sw, hd_sCI, hd_sCL, hd_iK, hd_iL, hd_iU, hd_iB, hd_iD, hd_iJ, hd_iG, hd_iA, hd_iQ, hd_iC, hd_iN, hd_iE, hd_jK, hd_jL, hd_jU, hd_jB, hd_jD, hd_jH, hd_jI, hd_jA, hd_jQ, hd_jN, hd_rL, hd_rG, hd_rA, hd_rN, hd_cI, hd_c0, hd_cJ, hd_cX, hd_cA, hd_cO, hd_v0, hd_pI, hd_pJ, hd_pR, hd_nV, hd_nS, hd_get, hd_st, hd_stW, hd_cut, List.replicate, List.length_cons, List.length_nil, List.nil_append, List.cons_append, Nat.reduceAdd, Nat.reduceSub, Nat.reduceLeDiff, true_and, and_true, if_true, if_false, Bool.false_eq_true, List.append_nil, hs_o_0, hs_r_0_0, hs_t_0_0, hs_r_0_1, hs_t_0_1, hs_r_0_2, hs_t_0_2, hs_r_0_3, hs_t_0_3, hs_r_0_4, hs_t_0_4, hs_r_0_5, hs_t_0_5, hs_r_0_6, hs_t_0_6, hs_r_0_7, hs_t_0_7, hs_f_0_8, hs_o_1, hs_f_1_0, hs_f_1_1, hs_r_1_2, hs_t_1_2, hs_r_1_3, hs_t_1_3, hs_r_1_4, hs_t_1_4, hs_r_1_5, hs_t_1_5, hs_r_1_6, hs_t_1_6, hs_r_1_7, hs_t_1_7, hs_r_1_8, hs_t_1_8, hs_r_1_9, hs_t_1_9, hs_i_2, hs_i_3, hs_i_4, hs_i_5, hs_i_6, hs_i_7, hs_i_8, hs_i_9, hs_o_82, hs_r_82_0, hs_t_82_0, hs_f_82_1, hs_i_83, hs_o_84, hs_r_84_0, hs_t_84_0, hs_r_84_1, hs_t_84_1, hs_r_84_2, hs_t_84_2, hs_r_84_3, hs_t_84_3, hs_f_84_4, hs_i_85, hs_i_86, hs_i_87, hs_o_88, hs_r_88_0, hs_t_88_0, hs_r_88_1, hs_t_88_1, hs_r_88_2, hs_t_88_2, hs_r_88_3, hs_t_88_3, hs_r_88_4, hs_t_88_4, hs_r_88_5, hs_t_88_5, hs_r_88_6, hs_t_88_6, hs_r_88_7, hs_t_88_7, hs_f_88_8, hs_f_88_9, hs_i_89, hs_i_90, hs_i_91, hs_i_92, hs_i_93, hs_i_94, hs_i_95, hs_i_96, hs_i_97, hs_i_98, hs_i_99, hs_i_100, hs_i_101, hs_i_102, hs_o_103, hs_r_103_0, hs_t_103_0, hs_r_103_1, hs_t_103_1, hs_r_103_2, hs_t_103_2, hs_r_103_3, hs_t_103_3, hs_f_103_4, hs_i_104, hs_o_105, hs_r_105_0, hs_t_105_0, hs_r_105_1, hs_t_105_1, hs_r_105_2, hs_t_105_2, hs_i_106, hs_i_107, hs_o_108, hs_r_108_0, hs_t_108_0, hs_r_108_1, hs_t_108_1, hs_r_108_2, hs_t_108_2, hs_r_108_3, hs_t_108_3, hs_f_108_4, hs_i_109, hs_i_110, hs_o_111, hs_r_111_0, hs_t_111_0, hs_r_111_1, hs_t_111_1, hs_f_111_2, hs_f_111_3, hs_f_111_4, hs_i_112, hs_o_113, hs_f_113_0, hs_f_113_1, hs_f_113_2, hs_r_113_3, hs_t_113_3, hs_r_113_4, hs_t_113_4, hs_r_113_5, hs_t_113_5, hs_r_113_6, hs_t_113_6, hs_r_113_7, hs_t_113_7, hs_r_113_8, hs_t_113_8, hs_r_113_9, hs_t_113_9, hs_r_113_10, hs_t_113_10, hs_r_113_11, hs_t_113_11, hs_f_113_12, hs_f_113_13, hs_f_113_14, hs_r_113_15, hs_t_113_15, hs_f_113_16, hs_r_113_17, hs_t_113_17, hs_r_113_18, hs_t_113_18, hs_r_113_19, hs_t_113_19, hs_r_113_20, hs_t_113_20, hs_f_113_21, hs_f_113_22, hs_f_113_23, hs_r_113_24, hs_t_113_24, hs_f_113_25, hs_r_113_26, hs_t_113_26, hs_f_113_27, hs_i_114, hs_i_115, hs_i_116, hs_i_117, hs_i_118, hs_i_119, hs_i_120, hs_i_121, hs_i_122, hs_i_123, hs_i_124, hs_i_125, hs_i_126, hs_i_127, hs_i_128, hs_i_129, hs.1, nI_ltI (show k < 2 ^ 31 by omega) (show u < 2 ^ 31 by omega), hk2, decide_true, if_true, vp_in_nI (show t < 8 by omega) (show 8 < 2 ^ 31 by decide), hd_cc (show t < 2147483648 by omega), vp_in_nI (show k < 8 by omega) (show 8 < 2 ^ 31 by decide), hd_cc (show k < 2147483648 by omega), e1, r, hz_lt (show -100000 ≤ f k ∧ f k ≤ 100000 by omega) (show -100000 ≤ hp_sp p t ∧ hp_sp p t ≤ 100000 by omega), decide_eq_true_eq, hz_sub, true_and, sp_X9_has, hd_t01, hb_t ha (show k < 31 by omega), nI_1]
      have fin : ∀ d : Int32, d = nI (f k - hp_sp p t).natAbs → (if a.testBit k = true then (if decide (d < nI (hp_nd f (hp_ga a) (hp_sp p t) 10000 k)) = true then K2 [hd_vR 113, hd_vI kind, hd_vI (nI a), hd_vI (nI (fb_sm (fun t => hp_cr p t * hp_nd f (hp_ga a) (hp_sp p t) 2000 u) t)), hd_vI (nI (hp_mxn (fun t => hp_nd f (hp_ga a) (hp_sp p t) 2000 u) t)), hd_vI (nI t), hd_vI d, hd_vI (nI (k + 1)), hd_vI d] S3 else K2 [hd_vR 113, hd_vI kind, hd_vI (nI a), hd_vI (nI (fb_sm (fun t => hp_cr p t * hp_nd f (hp_ga a) (hp_sp p t) 2000 u) t)), hd_vI (nI (hp_mxn (fun t => hp_nd f (hp_ga a) (hp_sp p t) 2000 u) t)), hd_vI (nI t), hd_vI (nI (hp_nd f (hp_ga a) (hp_sp p t) 10000 k)), hd_vI (nI (k + 1)), hd_vI d] S3) else K2 [hd_vR 113, hd_vI kind, hd_vI (nI a), hd_vI (nI (fb_sm (fun t => hp_cr p t * hp_nd f (hp_ga a) (hp_sp p t) 2000 u) t)), hd_vI (nI (hp_mxn (fun t => hp_nd f (hp_ga a) (hp_sp p t) 2000 u) t)), hd_vI (nI t), hd_vI (nI (hp_nd f (hp_ga a) (hp_sp p t) 10000 k)), hd_vI (nI (k + 1)), hd_vI d] S3) := by
        rintro d rfl
        have hlt := nI_ltI hab (show hp_nd f (hp_ga a) (hp_sp p t) 10000 k < 2 ^ 31 by omega)
        have es : hp_nd f (hp_ga a) (hp_sp p t) 10000 (k + 1) = if a.testBit k = true then min (hp_nd f (hp_ga a) (hp_sp p t) 10000 k) (f k - hp_sp p t).natAbs else hp_nd f (hp_ga a) (hp_sp p t) 10000 k := rfl
        by_cases hg : a.testBit k = true
        · rw [if_pos hg] at es ⊢
          by_cases hc : (f k - hp_sp p t).natAbs < hp_nd f (hp_ga a) (hp_sp p t) 10000 k
          · rw [if_pos (decide_eq_true (hlt.mpr hc))]
            exact hK2 _ _ ⟨rfl, _, by rw [es, Nat.min_eq_right (by omega)]⟩
          · rw [if_neg (by rw [decide_eq_false (fun r => hc (hlt.mp r))]; decide)]
            exact hK2 _ _ ⟨rfl, _, by rw [es, Nat.min_eq_left (by omega)]⟩
        · rw [if_neg hg] at es ⊢
          exact hK2 _ _ ⟨rfl, _, by rw [es]⟩
      by_cases hc : f k < hp_sp p t
      · simp only [hc, if_true]
        have := fin (Int32.ofInt (hp_sp p t - f k)) (by rw [hz_nat]; congr 1; omega)
        simpa only [decide_eq_true_eq] using this
      · simp only [hc, if_false]
        have := fin (Int32.ofInt (f k - hp_sp p t)) (by rw [hz_nat]; congr 1; omega)
        simpa only [decide_eq_true_eq] using this
    · rintro ρ S3 K2 ⟨rfl, z, rfl⟩
      have b1 := hp_mxn_le (h := fun t => hp_nd f (hp_ga a) (hp_sp p t) 2000 u) (B := 2000) (fun t => hp_nd_le f (hp_ga a) (hp_sp p t) 2000 u) t
      have b2 := hp_nd_le f (hp_ga a) (hp_sp p t) 2000 u
      have es : hp_mxn (fun t => hp_nd f (hp_ga a) (hp_sp p t) 2000 u) (t + 1) = max (hp_mxn (fun t => hp_nd f (hp_ga a) (hp_sp p t) 2000 u) t) (hp_nd f (hp_ga a) (hp_sp p t) 2000 u) := rfl
      simp only [wc_X9_lineCost_25, hd_mth, hd_rho0, hd_args, hd_wide, hq_sQ, hd_s0, hq_sI, hq_sJ, hd_sR, hd_sP, hd_sF, hd_sZ, hd_sG, hd_sA, hd_sL, hd_sB, hd_sO, hd_sN, hd_sD, hd_sW, hd_sE, hd_sRI, hd_sRZ, hd_sRJ, hd_sRR, hd_sRV, hd_sSw, hd_sw, hd_sCI, hd_sCL, hd_iK, hd_iL, hd_iU, hd_iB, hd_iD, hd_iJ, hd_iG, hd_iA, hd_iQ, hd_iC, hd_iN, hd_iE, hd_jK, hd_jL, hd_jU, hd_jB, hd_jD, hd_jH, hd_jI, hd_jA, hd_jQ, hd_jN, hd_rL, hd_rG, hd_rA, hd_rN, hd_cI, hd_c0, hd_cJ, hd_cX, hd_cA, hd_cO, hd_v0, hd_pI, hd_pJ, hd_pR, hd_nV, hd_nS, hd_get, hd_st, hd_stW, hd_cut, List.replicate, List.length_cons, List.length_nil, List.nil_append, List.cons_append, Nat.reduceAdd, Nat.reduceSub, Nat.reduceLeDiff, true_and, and_true, if_true, if_false, Bool.false_eq_true, List.append_nil, hs_o_0, hs_r_0_0, hs_t_0_0, hs_r_0_1, hs_t_0_1, hs_r_0_2, hs_t_0_2, hs_r_0_3, hs_t_0_3, hs_r_0_4, hs_t_0_4, hs_r_0_5, hs_t_0_5, hs_r_0_6, hs_t_0_6, hs_r_0_7, hs_t_0_7, hs_f_0_8, hs_o_1, hs_f_1_0, hs_f_1_1, hs_r_1_2, hs_t_1_2, hs_r_1_3, hs_t_1_3, hs_r_1_4, hs_t_1_4, hs_r_1_5, hs_t_1_5, hs_r_1_6, hs_t_1_6, hs_r_1_7, hs_t_1_7, hs_r_1_8, hs_t_1_8, hs_r_1_9, hs_t_1_9, hs_i_2, hs_i_3, hs_i_4, hs_i_5, hs_i_6, hs_i_7, hs_i_8, hs_i_9, hs_o_82, hs_r_82_0, hs_t_82_0, hs_f_82_1, hs_i_83, hs_o_84, hs_r_84_0, hs_t_84_0, hs_r_84_1, hs_t_84_1, hs_r_84_2, hs_t_84_2, hs_r_84_3, hs_t_84_3, hs_f_84_4, hs_i_85, hs_i_86, hs_i_87, hs_o_88, hs_r_88_0, hs_t_88_0, hs_r_88_1, hs_t_88_1, hs_r_88_2, hs_t_88_2, hs_r_88_3, hs_t_88_3, hs_r_88_4, hs_t_88_4, hs_r_88_5, hs_t_88_5, hs_r_88_6, hs_t_88_6, hs_r_88_7, hs_t_88_7, hs_f_88_8, hs_f_88_9, hs_i_89, hs_i_90, hs_i_91, hs_i_92, hs_i_93, hs_i_94, hs_i_95, hs_i_96, hs_i_97, hs_i_98, hs_i_99, hs_i_100, hs_i_101, hs_i_102, hs_o_103, hs_r_103_0, hs_t_103_0, hs_r_103_1, hs_t_103_1, hs_r_103_2, hs_t_103_2, hs_r_103_3, hs_t_103_3, hs_f_103_4, hs_i_104, hs_o_105, hs_r_105_0, hs_t_105_0, hs_r_105_1, hs_t_105_1, hs_r_105_2, hs_t_105_2, hs_i_106, hs_i_107, hs_o_108, hs_r_108_0, hs_t_108_0, hs_r_108_1, hs_t_108_1, hs_r_108_2, hs_t_108_2, hs_r_108_3, hs_t_108_3, hs_f_108_4, hs_i_109, hs_i_110, hs_o_111, hs_r_111_0, hs_t_111_0, hs_r_111_1, hs_t_111_1, hs_f_111_2, hs_f_111_3, hs_f_111_4, hs_i_112, hs_o_113, hs_f_113_0, hs_f_113_1, hs_f_113_2, hs_r_113_3, hs_t_113_3, hs_r_113_4, hs_t_113_4, hs_r_113_5, hs_t_113_5, hs_r_113_6, hs_t_113_6, hs_r_113_7, hs_t_113_7, hs_r_113_8, hs_t_113_8, hs_r_113_9, hs_t_113_9, hs_r_113_10, hs_t_113_10, hs_r_113_11, hs_t_113_11, hs_f_113_12, hs_f_113_13, hs_f_113_14, hs_r_113_15, hs_t_113_15, hs_f_113_16, hs_r_113_17, hs_t_113_17, hs_r_113_18, hs_t_113_18, hs_r_113_19, hs_t_113_19, hs_r_113_20, hs_t_113_20, hs_f_113_21, hs_f_113_22, hs_f_113_23, hs_r_113_24, hs_t_113_24, hs_f_113_25, hs_r_113_26, hs_t_113_26, hs_f_113_27, hs_i_114, hs_i_115, hs_i_116, hs_i_117, hs_i_118, hs_i_119, hs_i_120, hs_i_121, hs_i_122, hs_i_123, hs_i_124, hs_i_125, hs_i_126, hs_i_127, hs_i_128, hs_i_129, hs.1, Int32.lt_irrefl, decide_false, Bool.false_eq_true, if_false, vp_in_nI (show t < 8 by omega) (show 8 < 2 ^ 31 by decide), hd_cc (show t < 2147483648 by omega), e2, true_and, pk_mul, nI_add, hN t, nI_1]
      have hlt := nI_ltI (show hp_mxn (fun t => hp_nd f (hp_ga a) (hp_sp p t) 2000 u) t < 2 ^ 31 by omega) (show hp_nd f (hp_ga a) (hp_sp p t) 2000 u < 2 ^ 31 by omega)
      simp only [hlt, decide_eq_true_eq]
      by_cases hc : hp_mxn (fun t => hp_nd f (hp_ga a) (hp_sp p t) 2000 u) t < hp_nd f (hp_ga a) (hp_sp p t) 2000 u
      · rw [if_pos hc]
        exact hK _ _ ⟨rfl, _, _, _, by rw [es, Nat.max_eq_right (by omega)]; rfl⟩
      · rw [if_neg hc]
        exact hK _ _ ⟨rfl, _, _, _, by rw [es, Nat.max_eq_left (by omega)]; rfl⟩
  · rintro ρ S2 K ⟨rfl, x, y, z, rfl⟩
    simp only [wc_X9_lineCost_8, hd_mth, hd_rho0, hd_args, hd_wide, hq_sQ, hd_s0, hq_sI, hq_sJ, hd_sR, hd_sP, hd_sF, hd_sZ, hd_sG, hd_sA, hd_sL, hd_sB, hd_sO, hd_sN, hd_sD, hd_sW, hd_sE, hd_sRI, hd_sRZ, hd_sRJ, hd_sRR, hd_sRV, hd_sSw, hd_sw, hd_sCI, hd_sCL, hd_iK, hd_iL, hd_iU, hd_iB, hd_iD, hd_iJ, hd_iG, hd_iA, hd_iQ, hd_iC, hd_iN, hd_iE, hd_jK, hd_jL, hd_jU, hd_jB, hd_jD, hd_jH, hd_jI, hd_jA, hd_jQ, hd_jN, hd_rL, hd_rG, hd_rA, hd_rN, hd_cI, hd_c0, hd_cJ, hd_cX, hd_cA, hd_cO, hd_v0, hd_pI, hd_pJ, hd_pR, hd_nV, hd_nS, hd_get, hd_st, hd_stW, hd_cut, List.replicate, List.length_cons, List.length_nil, List.nil_append, List.cons_append, Nat.reduceAdd, Nat.reduceSub, Nat.reduceLeDiff, true_and, and_true, if_true, if_false, Bool.false_eq_true, List.append_nil, hs_o_0, hs_r_0_0, hs_t_0_0, hs_r_0_1, hs_t_0_1, hs_r_0_2, hs_t_0_2, hs_r_0_3, hs_t_0_3, hs_r_0_4, hs_t_0_4, hs_r_0_5, hs_t_0_5, hs_r_0_6, hs_t_0_6, hs_r_0_7, hs_t_0_7, hs_f_0_8, hs_o_1, hs_f_1_0, hs_f_1_1, hs_r_1_2, hs_t_1_2, hs_r_1_3, hs_t_1_3, hs_r_1_4, hs_t_1_4, hs_r_1_5, hs_t_1_5, hs_r_1_6, hs_t_1_6, hs_r_1_7, hs_t_1_7, hs_r_1_8, hs_t_1_8, hs_r_1_9, hs_t_1_9, hs_i_2, hs_i_3, hs_i_4, hs_i_5, hs_i_6, hs_i_7, hs_i_8, hs_i_9, hs_o_82, hs_r_82_0, hs_t_82_0, hs_f_82_1, hs_i_83, hs_o_84, hs_r_84_0, hs_t_84_0, hs_r_84_1, hs_t_84_1, hs_r_84_2, hs_t_84_2, hs_r_84_3, hs_t_84_3, hs_f_84_4, hs_i_85, hs_i_86, hs_i_87, hs_o_88, hs_r_88_0, hs_t_88_0, hs_r_88_1, hs_t_88_1, hs_r_88_2, hs_t_88_2, hs_r_88_3, hs_t_88_3, hs_r_88_4, hs_t_88_4, hs_r_88_5, hs_t_88_5, hs_r_88_6, hs_t_88_6, hs_r_88_7, hs_t_88_7, hs_f_88_8, hs_f_88_9, hs_i_89, hs_i_90, hs_i_91, hs_i_92, hs_i_93, hs_i_94, hs_i_95, hs_i_96, hs_i_97, hs_i_98, hs_i_99, hs_i_100, hs_i_101, hs_i_102, hs_o_103, hs_r_103_0, hs_t_103_0, hs_r_103_1, hs_t_103_1, hs_r_103_2, hs_t_103_2, hs_r_103_3, hs_t_103_3, hs_f_103_4, hs_i_104, hs_o_105, hs_r_105_0, hs_t_105_0, hs_r_105_1, hs_t_105_1, hs_r_105_2, hs_t_105_2, hs_i_106, hs_i_107, hs_o_108, hs_r_108_0, hs_t_108_0, hs_r_108_1, hs_t_108_1, hs_r_108_2, hs_t_108_2, hs_r_108_3, hs_t_108_3, hs_f_108_4, hs_i_109, hs_i_110, hs_o_111, hs_r_111_0, hs_t_111_0, hs_r_111_1, hs_t_111_1, hs_f_111_2, hs_f_111_3, hs_f_111_4, hs_i_112, hs_o_113, hs_f_113_0, hs_f_113_1, hs_f_113_2, hs_r_113_3, hs_t_113_3, hs_r_113_4, hs_t_113_4, hs_r_113_5, hs_t_113_5, hs_r_113_6, hs_t_113_6, hs_r_113_7, hs_t_113_7, hs_r_113_8, hs_t_113_8, hs_r_113_9, hs_t_113_9, hs_r_113_10, hs_t_113_10, hs_r_113_11, hs_t_113_11, hs_f_113_12, hs_f_113_13, hs_f_113_14, hs_r_113_15, hs_t_113_15, hs_f_113_16, hs_r_113_17, hs_t_113_17, hs_r_113_18, hs_t_113_18, hs_r_113_19, hs_t_113_19, hs_r_113_20, hs_t_113_20, hs_f_113_21, hs_f_113_22, hs_f_113_23, hs_r_113_24, hs_t_113_24, hs_f_113_25, hs_r_113_26, hs_t_113_26, hs_f_113_27, hs_i_114, hs_i_115, hs_i_116, hs_i_117, hs_i_118, hs_i_119, hs_i_120, hs_i_121, hs_i_122, hs_i_123, hs_i_124, hs_i_125, hs_i_126, hs_i_127, hs_i_128, hs_i_129, hm.1, Int32.lt_irrefl, decide_false, Bool.false_eq_true, if_false, decide_eq_true_eq]
    unfold hp_ld at hk
    by_cases hkd : kind = 0
    · rw [if_pos hkd] at hk ⊢
      exact hk
    · rw [if_neg hkd] at hk ⊢
      exact hk
set_option maxHeartbeats 4000000 in
theorem sp_isAhead (a b : Int32) (S : hd_S) (post : Option hd_V → hd_S → Prop) : wm_X9_isAhead [hd_vI a, hd_vI b] S post ↔ post (some (hd_vI (if ¬ (a &&& (a ^^^ b) &&& -(a ^^^ b) = 0) then 1 else 0))) S := by
  simp only [wm_X9_isAhead, wo_X9_isAhead, hd_mth, hd_rho0, hd_args, hd_wide, hq_sQ, hd_s0, hq_sI, hq_sJ, hd_sR, hd_sP, hd_sF, hd_sZ, hd_sG, hd_sA, hd_sL, hd_sB, hd_sO, hd_sN, hd_sD, hd_sW, hd_sE, hd_sRI, hd_sRZ, hd_sRJ, hd_sRR, hd_sRV, hd_sSw, hd_sw, hd_sCI, hd_sCL, hd_iK, hd_iL, hd_iU, hd_iB, hd_iD, hd_iJ, hd_iG, hd_iA, hd_iQ, hd_iC, hd_iN, hd_iE, hd_jK, hd_jL, hd_jU, hd_jB, hd_jD, hd_jH, hd_jI, hd_jA, hd_jQ, hd_jN, hd_rL, hd_rG, hd_rA, hd_rN, hd_cI, hd_c0, hd_cJ, hd_cX, hd_cA, hd_cO, hd_v0, hd_pI, hd_pJ, hd_pR, hd_nV, hd_nS, hd_get, hd_st, hd_stW, hd_cut, List.replicate, List.length_cons, List.length_nil, List.nil_append, List.cons_append, Nat.reduceAdd, Nat.reduceSub, Nat.reduceLeDiff, true_and, and_true, if_true, if_false, Bool.false_eq_true, List.append_nil, hd_dn1, decide_eq_true_eq, hd_b01]
def hp_Da (p : hp_P) (u : Nat) (f : Nat → Int) (kind : Int32) (a : Nat) : Nat := hp_ld p u f kind (hp_ga a)
theorem hb_pc0 {a u : Nat} (ha : a < 2 ^ u) (hu : u ≤ 8) (h : 1 ≤ hb_pc a 8) : ∃ i, i < u ∧ a.testBit i = true := by
  have h0 : a ≠ 0 := fun q => by
    rw [q] at h
    have : hb_pc 0 8 = 0 := by decide
    omega
  exact hb_some ha h0
set_option maxHeartbeats 8000000 in
theorem sp_findLine {S : hd_S} {p : hp_P} (hp : hp_ok p) (hm : hm_P S p) (hT0 : hp_T p ≠ 0) (kind : Int32) {kk : Nat} (hk1 : 1 ≤ kk) (hk8 : kk ≤ 8) (post : Option hd_V → hd_S → Prop)
    (hk : ∀ S2 u f a, hm_lf S S2 → hp_SP (hp_sp p) (hp_T p) u f → u ≤ hp_T p → hm_sp S2 u f → hp_br u (2 ^ u) (min kk u) (hp_Da p u f kind) a → S2.1 113 27 = nI a → post (some (hd_vI (nI (hp_Da p u f kind a)))) S2) : wm_X9_findLine [hd_vR 113, hd_vI kind, hd_vI (nI kk)] S post := by
  have hT : hp_T p ≤ 8 := hp.1
  simp only [wm_X9_findLine, wo_X9_findLine, hd_mth, hd_rho0, hd_args, hd_wide, hq_sQ, hd_s0, hq_sI, hq_sJ, hd_sR, hd_sP, hd_sF, hd_sZ, hd_sG, hd_sA, hd_sL, hd_sB, hd_sO, hd_sN, hd_sD, hd_sW, hd_sE, hd_sRI, hd_sRZ, hd_sRJ, hd_sRR, hd_sRV, hd_sSw, hd_sw, hd_sCI, hd_sCL, hd_iK, hd_iL, hd_iU, hd_iB, hd_iD, hd_iJ, hd_iG, hd_iA, hd_iQ, hd_iC, hd_iN, hd_iE, hd_jK, hd_jL, hd_jU, hd_jB, hd_jD, hd_jH, hd_jI, hd_jA, hd_jQ, hd_jN, hd_rL, hd_rG, hd_rA, hd_rN, hd_cI, hd_c0, hd_cJ, hd_cX, hd_cA, hd_cO, hd_v0, hd_pI, hd_pJ, hd_pR, hd_nV, hd_nS, hd_get, hd_st, hd_stW, hd_cut, List.replicate, List.length_cons, List.length_nil, List.nil_append, List.cons_append, Nat.reduceAdd, Nat.reduceSub, Nat.reduceLeDiff, true_and, and_true, if_true, if_false, Bool.false_eq_true, List.append_nil, hs_o_0, hs_r_0_0, hs_t_0_0, hs_r_0_1, hs_t_0_1, hs_r_0_2, hs_t_0_2, hs_r_0_3, hs_t_0_3, hs_r_0_4, hs_t_0_4, hs_r_0_5, hs_t_0_5, hs_r_0_6, hs_t_0_6, hs_r_0_7, hs_t_0_7, hs_f_0_8, hs_o_1, hs_f_1_0, hs_f_1_1, hs_r_1_2, hs_t_1_2, hs_r_1_3, hs_t_1_3, hs_r_1_4, hs_t_1_4, hs_r_1_5, hs_t_1_5, hs_r_1_6, hs_t_1_6, hs_r_1_7, hs_t_1_7, hs_r_1_8, hs_t_1_8, hs_r_1_9, hs_t_1_9, hs_i_2, hs_i_3, hs_i_4, hs_i_5, hs_i_6, hs_i_7, hs_i_8, hs_i_9, hs_o_82, hs_r_82_0, hs_t_82_0, hs_f_82_1, hs_i_83, hs_o_84, hs_r_84_0, hs_t_84_0, hs_r_84_1, hs_t_84_1, hs_r_84_2, hs_t_84_2, hs_r_84_3, hs_t_84_3, hs_f_84_4, hs_i_85, hs_i_86, hs_i_87, hs_o_88, hs_r_88_0, hs_t_88_0, hs_r_88_1, hs_t_88_1, hs_r_88_2, hs_t_88_2, hs_r_88_3, hs_t_88_3, hs_r_88_4, hs_t_88_4, hs_r_88_5, hs_t_88_5, hs_r_88_6, hs_t_88_6, hs_r_88_7, hs_t_88_7, hs_f_88_8, hs_f_88_9, hs_i_89, hs_i_90, hs_i_91, hs_i_92, hs_i_93, hs_i_94, hs_i_95, hs_i_96, hs_i_97, hs_i_98, hs_i_99, hs_i_100, hs_i_101, hs_i_102, hs_o_103, hs_r_103_0, hs_t_103_0, hs_r_103_1, hs_t_103_1, hs_r_103_2, hs_t_103_2, hs_r_103_3, hs_t_103_3, hs_f_103_4, hs_i_104, hs_o_105, hs_r_105_0, hs_t_105_0, hs_r_105_1, hs_t_105_1, hs_r_105_2, hs_t_105_2, hs_i_106, hs_i_107, hs_o_108, hs_r_108_0, hs_t_108_0, hs_r_108_1, hs_t_108_1, hs_r_108_2, hs_t_108_2, hs_r_108_3, hs_t_108_3, hs_f_108_4, hs_i_109, hs_i_110, hs_o_111, hs_r_111_0, hs_t_111_0, hs_r_111_1, hs_t_111_1, hs_f_111_2, hs_f_111_3, hs_f_111_4, hs_i_112, hs_o_113, hs_f_113_0, hs_f_113_1, hs_f_113_2, hs_r_113_3, hs_t_113_3, hs_r_113_4, hs_t_113_4, hs_r_113_5, hs_t_113_5, hs_r_113_6, hs_t_113_6, hs_r_113_7, hs_t_113_7, hs_r_113_8, hs_t_113_8, hs_r_113_9, hs_t_113_9, hs_r_113_10, hs_t_113_10, hs_r_113_11, hs_t_113_11, hs_f_113_12, hs_f_113_13, hs_f_113_14, hs_r_113_15, hs_t_113_15, hs_f_113_16, hs_r_113_17, hs_t_113_17, hs_r_113_18, hs_t_113_18, hs_r_113_19, hs_t_113_19, hs_r_113_20, hs_t_113_20, hs_f_113_21, hs_f_113_22, hs_f_113_23, hs_r_113_24, hs_t_113_24, hs_f_113_25, hs_r_113_26, hs_t_113_26, hs_f_113_27, hs_i_114, hs_i_115, hs_i_116, hs_i_117, hs_i_118, hs_i_119, hs_i_120, hs_i_121, hs_i_122, hs_i_123, hs_i_124, hs_i_125, hs_i_126, hs_i_127, hs_i_128, hs_i_129, true_and]
  refine sp_findSpots hp hm _ (fun S1 u f hl1 hsp hut hs1 => ?_)
  have hu : u ≤ 8 := by omega
  have hu1 : 1 ≤ u := by
    obtain ⟨i, hi, -⟩ := hsp.2.2 0 (by omega)
    omega
  have h256 : 2 ^ u ≤ 256 := Nat.pow_le_pow_right (n := 2) (by decide) hu
  have hpos : 0 < 2 ^ u := Nat.two_pow_pos _
  have hfb := hp_SP_fb hp hsp
  have hle : ∀ a, hp_Da p u f kind a ≤ 320000 := fun a => hp_ld_le hp u f kind _
  have ss : ∀ (S2 : hd_S) (v : Int32), hm_sp S2 u f → hm_sp (hd_wI S2 113 27 v) u f := fun S2 v h => ⟨by rw [hd_wI1, if_neg (fun r => absurd r.2 (by decide))]; exact h.1, fun i hi => by rw [hx_oth (by decide)]; exact h.2 i hi⟩
  have main : ∀ ρ, ρ = [hd_vR 113, hd_vI kind, hd_vI (nI kk), hd_vI (nI (min kk u)), hd_vI 2000000000, hd_vI (nI 0), hd_vN] → hd_sH wc_X9_findLine_33 wb_X9_findLine_33 ρ (hd_wI S1 113 27 0) (fun ρ S => hd_sRI (hd_iL 4) ρ S (fun _ _ => False) post) post := by
    rintro ρ rfl
    refine hd_up (fun i ρ S2 => hm_lf S S2 ∧ hm_sp S2 u f ∧ ∃ best : Int32, ((best = 2000000000 ∧ ∀ d, d < i → hb_pc d 8 ≠ min kk u) ∨ (∃ b, b < i ∧ hb_pc b 8 = min kk u ∧ best = nI (hp_Da p u f kind b) ∧ S2.1 113 27 = nI b ∧ ∀ d, d < i → hb_pc d 8 = min kk u → hp_Da p u f kind b ≤ hp_Da p u f kind d ∧ (hp_Da p u f kind d = hp_Da p u f kind b → hb_rv u d ≤ hb_rv u b))) ∧ ∃ x : hd_V, ρ = [hd_vR 113, hd_vI kind, hd_vI (nI kk), hd_vI (nI (min kk u)), hd_vI best, hd_vI (nI i), x]) (2 ^ u) ?_ ?_ (Nat.zero_le _) ⟨hm_lf_27 _ hl1, ss _ _ hs1, _, Or.inl ⟨rfl, fun d hd => by omega⟩, _, rfl⟩
    · rintro i ρ S2 K hi ⟨hl, hss, best, hst, x, rfl⟩ hK
      have hm2 : hm_P S2 p := hm_lf_P hl hm
      have hpc := hb_pc_le i 8
      have hil := hle i
      simp only [wc_X9_findLine_33, wb_X9_findLine_33, hd_mth, hd_rho0, hd_args, hd_wide, hq_sQ, hd_s0, hq_sI, hq_sJ, hd_sR, hd_sP, hd_sF, hd_sZ, hd_sG, hd_sA, hd_sL, hd_sB, hd_sO, hd_sN, hd_sD, hd_sW, hd_sE, hd_sRI, hd_sRZ, hd_sRJ, hd_sRR, hd_sRV, hd_sSw, hd_sw, hd_sCI, hd_sCL, hd_iK, hd_iL, hd_iU, hd_iB, hd_iD, hd_iJ, hd_iG, hd_iA, hd_iQ, hd_iC, hd_iN, hd_iE, hd_jK, hd_jL, hd_jU, hd_jB, hd_jD, hd_jH, hd_jI, hd_jA, hd_jQ, hd_jN, hd_rL, hd_rG, hd_rA, hd_rN, hd_cI, hd_c0, hd_cJ, hd_cX, hd_cA, hd_cO, hd_v0, hd_pI, hd_pJ, hd_pR, hd_nV, hd_nS, hd_get, hd_st, hd_stW, hd_cut, List.replicate, List.length_cons, List.length_nil, List.nil_append, List.cons_append, Nat.reduceAdd, Nat.reduceSub, Nat.reduceLeDiff, true_and, and_true, if_true, if_false, Bool.false_eq_true, List.append_nil, hs_o_0, hs_r_0_0, hs_t_0_0, hs_r_0_1, hs_t_0_1, hs_r_0_2, hs_t_0_2, hs_r_0_3, hs_t_0_3, hs_r_0_4, hs_t_0_4, hs_r_0_5, hs_t_0_5, hs_r_0_6, hs_t_0_6, hs_r_0_7, hs_t_0_7, hs_f_0_8, hs_o_1, hs_f_1_0, hs_f_1_1, hs_r_1_2, hs_t_1_2, hs_r_1_3, hs_t_1_3, hs_r_1_4, hs_t_1_4, hs_r_1_5, hs_t_1_5, hs_r_1_6, hs_t_1_6, hs_r_1_7, hs_t_1_7, hs_r_1_8, hs_t_1_8, hs_r_1_9, hs_t_1_9, hs_i_2, hs_i_3, hs_i_4, hs_i_5, hs_i_6, hs_i_7, hs_i_8, hs_i_9, hs_o_82, hs_r_82_0, hs_t_82_0, hs_f_82_1, hs_i_83, hs_o_84, hs_r_84_0, hs_t_84_0, hs_r_84_1, hs_t_84_1, hs_r_84_2, hs_t_84_2, hs_r_84_3, hs_t_84_3, hs_f_84_4, hs_i_85, hs_i_86, hs_i_87, hs_o_88, hs_r_88_0, hs_t_88_0, hs_r_88_1, hs_t_88_1, hs_r_88_2, hs_t_88_2, hs_r_88_3, hs_t_88_3, hs_r_88_4, hs_t_88_4, hs_r_88_5, hs_t_88_5, hs_r_88_6, hs_t_88_6, hs_r_88_7, hs_t_88_7, hs_f_88_8, hs_f_88_9, hs_i_89, hs_i_90, hs_i_91, hs_i_92, hs_i_93, hs_i_94, hs_i_95, hs_i_96, hs_i_97, hs_i_98, hs_i_99, hs_i_100, hs_i_101, hs_i_102, hs_o_103, hs_r_103_0, hs_t_103_0, hs_r_103_1, hs_t_103_1, hs_r_103_2, hs_t_103_2, hs_r_103_3, hs_t_103_3, hs_f_103_4, hs_i_104, hs_o_105, hs_r_105_0, hs_t_105_0, hs_r_105_1, hs_t_105_1, hs_r_105_2, hs_t_105_2, hs_i_106, hs_i_107, hs_o_108, hs_r_108_0, hs_t_108_0, hs_r_108_1, hs_t_108_1, hs_r_108_2, hs_t_108_2, hs_r_108_3, hs_t_108_3, hs_f_108_4, hs_i_109, hs_i_110, hs_o_111, hs_r_111_0, hs_t_111_0, hs_r_111_1, hs_t_111_1, hs_f_111_2, hs_f_111_3, hs_f_111_4, hs_i_112, hs_o_113, hs_f_113_0, hs_f_113_1, hs_f_113_2, hs_r_113_3, hs_t_113_3, hs_r_113_4, hs_t_113_4, hs_r_113_5, hs_t_113_5, hs_r_113_6, hs_t_113_6, hs_r_113_7, hs_t_113_7, hs_r_113_8, hs_t_113_8, hs_r_113_9, hs_t_113_9, hs_r_113_10, hs_t_113_10, hs_r_113_11, hs_t_113_11, hs_f_113_12, hs_f_113_13, hs_f_113_14, hs_r_113_15, hs_t_113_15, hs_f_113_16, hs_r_113_17, hs_t_113_17, hs_r_113_18, hs_t_113_18, hs_r_113_19, hs_t_113_19, hs_r_113_20, hs_t_113_20, hs_f_113_21, hs_f_113_22, hs_f_113_23, hs_r_113_24, hs_t_113_24, hs_f_113_25, hs_r_113_26, hs_t_113_26, hs_f_113_27, hs_i_114, hs_i_115, hs_i_116, hs_i_117, hs_i_118, hs_i_119, hs_i_120, hs_i_121, hs_i_122, hs_i_123, hs_i_124, hs_i_125, hs_i_126, hs_i_127, hs_i_128, hs_i_129, hss.1, hb_pow u (by omega), nI_ltI (show i < 2 ^ 31 by omega) (show 2 ^ u < 2 ^ 31 by omega), hi, decide_true, if_true]
      refine sp_X9_sizeOf i (by omega) _ _ ?_
      simp only [nI_eq (show hb_pc i 8 < 2 ^ 31 by omega) (show min kk u < 2 ^ 31 by omega), decide_eq_true_eq, true_and]
      by_cases hc : hb_pc i 8 = min kk u
      · simp only [hc, if_true]
        refine sp_lineCost hp hm2 hu hss hfb kind (show i < 2 ^ 31 by omega) (hb_pc0 hi hu (by omega)) _ ?_
        have tail : hp_ld p u f kind (hp_ga i) = hp_Da p u f kind i := rfl
        rw [tail]
        have set_ : (∀ b, b < i → hb_pc b 8 = min kk u → best = nI (hp_Da p u f kind b) → (∀ d, d < i → hb_pc d 8 = min kk u → hp_Da p u f kind b ≤ hp_Da p u f kind d ∧ (hp_Da p u f kind d = hp_Da p u f kind b → hb_rv u d ≤ hb_rv u b)) → hp_Da p u f kind i < hp_Da p u f kind b ∨ (hp_Da p u f kind i = hp_Da p u f kind b ∧ hb_rv u b < hb_rv u i)) → K [hd_vR 113, hd_vI kind, hd_vI (nI kk), hd_vI (nI (min kk u)), hd_vI (nI (hp_Da p u f kind i)), hd_vI (nI (i + 1)), hd_vI (nI (hp_Da p u f kind i))] (hd_wI S2 113 27 (nI i)) := by
          intro hw
          refine hK _ _ ⟨hm_lf_27 _ hl, ss _ _ hss, _, Or.inr ⟨i, by omega, hc, rfl, by rw [hd_wI1, if_pos ⟨rfl, rfl⟩], fun d h1 h2 => ?_⟩, _, rfl⟩
          by_cases hdi : d = i
          · rw [hdi]
            exact ⟨Nat.le_refl _, fun _ => Nat.le_refl _⟩
          · rcases hst with ⟨-, a2⟩ | ⟨b, b1, b2, b3, b4, b5⟩
            · exact absurd h2 (a2 d (by omega))
            · obtain ⟨c1, c2⟩ := b5 d (by omega) h2
              rcases hw b b1 b2 b3 b5 with q | ⟨q1, q2⟩
              · exact ⟨by omega, fun r => by omega⟩
              · exact ⟨by omega, fun r => by
                  have := c2 (by omega)
                  omega⟩
        have keep : ∀ b, b < i → hb_pc b 8 = min kk u → best = nI (hp_Da p u f kind b) → S2.1 113 27 = nI b → (∀ d, d < i → hb_pc d 8 = min kk u → hp_Da p u f kind b ≤ hp_Da p u f kind d ∧ (hp_Da p u f kind d = hp_Da p u f kind b → hb_rv u d ≤ hb_rv u b)) → ¬ hp_Da p u f kind i < hp_Da p u f kind b → (hp_Da p u f kind i = hp_Da p u f kind b → ¬ hb_rv u b < hb_rv u i) → K [hd_vR 113, hd_vI kind, hd_vI (nI kk), hd_vI (nI (min kk u)), hd_vI best, hd_vI (nI (i + 1)), hd_vI (nI (hp_Da p u f kind i))] S2 := by
          intro b b1 b2 b3 b4 b5 n1 n2
          refine hK _ _ ⟨hl, hss, _, Or.inr ⟨b, by omega, b2, b3, b4, fun d h1 h2 => ?_⟩, _, rfl⟩
          by_cases hdi : d = i
          · rw [hdi]
            exact ⟨by omega, fun r => by
              have := n2 r
              omega⟩
          · exact b5 d (by omega) h2
        rcases hst with ⟨a1, a2⟩ | ⟨b, b1, b2, b3, b4, b5⟩
        · have hlt : nI (hp_Da p u f kind i) < 2000000000 := (nI_ltI (b := 2000000000) (show hp_Da p u f kind i < 2 ^ 31 by omega) (by decide)).mpr (by omega)
          rw [a1]
          simp only [hlt, decide_true, if_true, true_and, nI_1]
          have := set_ (fun b hb h2 _ _ => absurd h2 (a2 b hb))
          exact this
        · have hbl := hle b
          rw [b3]
          simp only [nI_ltI (show hp_Da p u f kind i < 2 ^ 31 by omega) (show hp_Da p u f kind b < 2 ^ 31 by omega), nI_eq (show hp_Da p u f kind i < 2 ^ 31 by omega) (show hp_Da p u f kind b < 2 ^ 31 by omega), decide_eq_true_eq, true_and, nI_1, b4, sp_isAhead, hd_t01]
          by_cases q1 : hp_Da p u f kind i < hp_Da p u f kind b
          · simp only [q1, if_true]
            exact set_ (fun b' hb' h2' e' _ => by
              have e9 : hp_Da p u f kind b' = hp_Da p u f kind b := by
                rw [b3] at e'
                exact ((nI_eq (show hp_Da p u f kind b < 2 ^ 31 by omega) (show hp_Da p u f kind b' < 2 ^ 31 by have := hle b'; omega)).mp e').symm
              exact Or.inl (by omega))
          · simp only [q1, if_false]
            by_cases q2 : hp_Da p u f kind i = hp_Da p u f kind b
            · have hah := hb_ahead hu hi (show b < 2 ^ u by omega) (show i ≠ b by omega)
              by_cases q3 : hb_rv u b < hb_rv u i
              · rw [if_pos q2, if_pos (hah.mpr q3)]
                refine hK _ _ ⟨hm_lf_27 _ hl, ss _ _ hss, _, Or.inr ⟨i, by omega, hc, rfl, by rw [hd_wI1, if_pos ⟨rfl, rfl⟩], fun d h1 h2 => ?_⟩, _, rfl⟩
                by_cases hdi : d = i
                · rw [hdi]
                  exact ⟨Nat.le_refl _, fun _ => Nat.le_refl _⟩
                · obtain ⟨c1, c2⟩ := b5 d (by omega) h2
                  exact ⟨by omega, fun r => by
                    have := c2 (by omega)
                    omega⟩
              · rw [if_pos q2, if_neg (fun r => q3 (hah.mp r))]
                have := keep b b1 b2 b3 b4 b5 q1 (fun _ => q3)
                rw [b3] at this
                exact this
            · simp only [q2, if_false]
              have := keep b b1 b2 b3 b4 b5 q1 (fun r => absurd r q2)
              rw [b3] at this
              exact this
      · simp only [hc, if_false, nI_1]
        refine hK _ _ ⟨hl, hss, _, ?_, _, rfl⟩
        rcases hst with ⟨a1, a2⟩ | ⟨b, b1, b2, b3, b4, b5⟩
        · refine Or.inl ⟨a1, fun d h1 => ?_⟩
          by_cases hdi : d = i
          · rw [hdi]
            exact hc
          · exact a2 d (by omega)
        · refine Or.inr ⟨b, by omega, b2, b3, b4, fun d h1 h2 => ?_⟩
          by_cases hdi : d = i
          · rw [hdi] at h2
            exact absurd h2 hc
          · exact b5 d (by omega) h2
    · rintro ρ S2 K ⟨hl, hss, best, hst, x, rfl⟩
      simp only [wc_X9_findLine_33, hd_mth, hd_rho0, hd_args, hd_wide, hq_sQ, hd_s0, hq_sI, hq_sJ, hd_sR, hd_sP, hd_sF, hd_sZ, hd_sG, hd_sA, hd_sL, hd_sB, hd_sO, hd_sN, hd_sD, hd_sW, hd_sE, hd_sRI, hd_sRZ, hd_sRJ, hd_sRR, hd_sRV, hd_sSw, hd_sw, hd_sCI, hd_sCL, hd_iK, hd_iL, hd_iU, hd_iB, hd_iD, hd_iJ, hd_iG, hd_iA, hd_iQ, hd_iC, hd_iN, hd_iE, hd_jK, hd_jL, hd_jU, hd_jB, hd_jD, hd_jH, hd_jI, hd_jA, hd_jQ, hd_jN, hd_rL, hd_rG, hd_rA, hd_rN, hd_cI, hd_c0, hd_cJ, hd_cX, hd_cA, hd_cO, hd_v0, hd_pI, hd_pJ, hd_pR, hd_nV, hd_nS, hd_get, hd_st, hd_stW, hd_cut, List.replicate, List.length_cons, List.length_nil, List.nil_append, List.cons_append, Nat.reduceAdd, Nat.reduceSub, Nat.reduceLeDiff, true_and, and_true, if_true, if_false, Bool.false_eq_true, List.append_nil, hs_o_0, hs_r_0_0, hs_t_0_0, hs_r_0_1, hs_t_0_1, hs_r_0_2, hs_t_0_2, hs_r_0_3, hs_t_0_3, hs_r_0_4, hs_t_0_4, hs_r_0_5, hs_t_0_5, hs_r_0_6, hs_t_0_6, hs_r_0_7, hs_t_0_7, hs_f_0_8, hs_o_1, hs_f_1_0, hs_f_1_1, hs_r_1_2, hs_t_1_2, hs_r_1_3, hs_t_1_3, hs_r_1_4, hs_t_1_4, hs_r_1_5, hs_t_1_5, hs_r_1_6, hs_t_1_6, hs_r_1_7, hs_t_1_7, hs_r_1_8, hs_t_1_8, hs_r_1_9, hs_t_1_9, hs_i_2, hs_i_3, hs_i_4, hs_i_5, hs_i_6, hs_i_7, hs_i_8, hs_i_9, hs_o_82, hs_r_82_0, hs_t_82_0, hs_f_82_1, hs_i_83, hs_o_84, hs_r_84_0, hs_t_84_0, hs_r_84_1, hs_t_84_1, hs_r_84_2, hs_t_84_2, hs_r_84_3, hs_t_84_3, hs_f_84_4, hs_i_85, hs_i_86, hs_i_87, hs_o_88, hs_r_88_0, hs_t_88_0, hs_r_88_1, hs_t_88_1, hs_r_88_2, hs_t_88_2, hs_r_88_3, hs_t_88_3, hs_r_88_4, hs_t_88_4, hs_r_88_5, hs_t_88_5, hs_r_88_6, hs_t_88_6, hs_r_88_7, hs_t_88_7, hs_f_88_8, hs_f_88_9, hs_i_89, hs_i_90, hs_i_91, hs_i_92, hs_i_93, hs_i_94, hs_i_95, hs_i_96, hs_i_97, hs_i_98, hs_i_99, hs_i_100, hs_i_101, hs_i_102, hs_o_103, hs_r_103_0, hs_t_103_0, hs_r_103_1, hs_t_103_1, hs_r_103_2, hs_t_103_2, hs_r_103_3, hs_t_103_3, hs_f_103_4, hs_i_104, hs_o_105, hs_r_105_0, hs_t_105_0, hs_r_105_1, hs_t_105_1, hs_r_105_2, hs_t_105_2, hs_i_106, hs_i_107, hs_o_108, hs_r_108_0, hs_t_108_0, hs_r_108_1, hs_t_108_1, hs_r_108_2, hs_t_108_2, hs_r_108_3, hs_t_108_3, hs_f_108_4, hs_i_109, hs_i_110, hs_o_111, hs_r_111_0, hs_t_111_0, hs_r_111_1, hs_t_111_1, hs_f_111_2, hs_f_111_3, hs_f_111_4, hs_i_112, hs_o_113, hs_f_113_0, hs_f_113_1, hs_f_113_2, hs_r_113_3, hs_t_113_3, hs_r_113_4, hs_t_113_4, hs_r_113_5, hs_t_113_5, hs_r_113_6, hs_t_113_6, hs_r_113_7, hs_t_113_7, hs_r_113_8, hs_t_113_8, hs_r_113_9, hs_t_113_9, hs_r_113_10, hs_t_113_10, hs_r_113_11, hs_t_113_11, hs_f_113_12, hs_f_113_13, hs_f_113_14, hs_r_113_15, hs_t_113_15, hs_f_113_16, hs_r_113_17, hs_t_113_17, hs_r_113_18, hs_t_113_18, hs_r_113_19, hs_t_113_19, hs_r_113_20, hs_t_113_20, hs_f_113_21, hs_f_113_22, hs_f_113_23, hs_r_113_24, hs_t_113_24, hs_f_113_25, hs_r_113_26, hs_t_113_26, hs_f_113_27, hs_i_114, hs_i_115, hs_i_116, hs_i_117, hs_i_118, hs_i_119, hs_i_120, hs_i_121, hs_i_122, hs_i_123, hs_i_124, hs_i_125, hs_i_126, hs_i_127, hs_i_128, hs_i_129, hss.1, hb_pow u (by omega), Int32.lt_irrefl, decide_false, Bool.false_eq_true, if_false]
      rcases hst with ⟨-, a2⟩ | ⟨b, b1, b2, b3, b4, b5⟩
      · have c2 : 2 ^ (min kk u) ≤ 2 ^ u := Nat.pow_le_pow_right (n := 2) (by decide) (by omega)
        exact absurd (hb_pc_full (min kk u) (by omega)) (a2 (2 ^ (min kk u) - 1) (by omega))
      · rw [b3]
        exact hk S2 u f b hl hsp hut hss ⟨b1, b2, b5⟩ b4
  have main := main _ rfl
  simp only [hd_mth, hd_rho0, hd_args, hd_wide, hq_sQ, hd_s0, hq_sI, hq_sJ, hd_sR, hd_sP, hd_sF, hd_sZ, hd_sG, hd_sA, hd_sL, hd_sB, hd_sO, hd_sN, hd_sD, hd_sW, hd_sE, hd_sRI, hd_sRZ, hd_sRJ, hd_sRR, hd_sRV, hd_sSw, hd_sw, hd_sCI, hd_sCL, hd_iK, hd_iL, hd_iU, hd_iB, hd_iD, hd_iJ, hd_iG, hd_iA, hd_iQ, hd_iC, hd_iN, hd_iE, hd_jK, hd_jL, hd_jU, hd_jB, hd_jD, hd_jH, hd_jI, hd_jA, hd_jQ, hd_jN, hd_rL, hd_rG, hd_rA, hd_rN, hd_cI, hd_c0, hd_cJ, hd_cX, hd_cA, hd_cO, hd_v0, hd_pI, hd_pJ, hd_pR, hd_nV, hd_nS, hd_get, hd_st, hd_stW, hd_cut, List.replicate, List.length_cons, List.length_nil, List.nil_append, List.cons_append, Nat.reduceAdd, Nat.reduceSub, Nat.reduceLeDiff, true_and, and_true, if_true, if_false, Bool.false_eq_true, List.append_nil] at main
  simp only [true_and, hs1.1, nI_ltI (show kk < 2 ^ 31 by omega) (show u < 2 ^ 31 by omega), decide_eq_true_eq]
  by_cases hku : kk < u
  · rw [Nat.min_eq_left (by omega)] at main
    simp only [hku, if_true]
    exact main
  · rw [Nat.min_eq_right (by omega)] at main
    simp only [hku, if_false, hs1.1]
    exact main
set_option maxHeartbeats 4000000 in
theorem sp_isLine (kind k : Int32) (S : hd_S) (post : Option hd_V → hd_S → Prop) : wm_X9_isLine [hd_vI kind, hd_vI k] S post ↔ post (some (hd_vI (if (0 ≤ kind ∧ kind ≤ 1) ∧ (1 ≤ k ∧ k ≤ 8) then 1 else 0))) S := by
  simp only [wm_X9_isLine, wo_X9_isLine, hd_mth, hd_rho0, hd_args, hd_wide, hq_sQ, hd_s0, hq_sI, hq_sJ, hd_sR, hd_sP, hd_sF, hd_sZ, hd_sG, hd_sA, hd_sL, hd_sB, hd_sO, hd_sN, hd_sD, hd_sW, hd_sE, hd_sRI, hd_sRZ, hd_sRJ, hd_sRR, hd_sRV, hd_sSw, hd_sw, hd_sCI, hd_sCL, hd_iK, hd_iL, hd_iU, hd_iB, hd_iD, hd_iJ, hd_iG, hd_iA, hd_iQ, hd_iC, hd_iN, hd_iE, hd_jK, hd_jL, hd_jU, hd_jB, hd_jD, hd_jH, hd_jI, hd_jA, hd_jQ, hd_jN, hd_rL, hd_rG, hd_rA, hd_rN, hd_cI, hd_c0, hd_cJ, hd_cX, hd_cA, hd_cO, hd_v0, hd_pI, hd_pJ, hd_pR, hd_nV, hd_nS, hd_get, hd_st, hd_stW, hd_cut, List.replicate, List.length_cons, List.length_nil, List.nil_append, List.cons_append, Nat.reduceAdd, Nat.reduceSub, Nat.reduceLeDiff, true_and, and_true, if_true, if_false, Bool.false_eq_true, List.append_nil, hs_o_0, hs_r_0_0, hs_t_0_0, hs_r_0_1, hs_t_0_1, hs_r_0_2, hs_t_0_2, hs_r_0_3, hs_t_0_3, hs_r_0_4, hs_t_0_4, hs_r_0_5, hs_t_0_5, hs_r_0_6, hs_t_0_6, hs_r_0_7, hs_t_0_7, hs_f_0_8, hs_o_1, hs_f_1_0, hs_f_1_1, hs_r_1_2, hs_t_1_2, hs_r_1_3, hs_t_1_3, hs_r_1_4, hs_t_1_4, hs_r_1_5, hs_t_1_5, hs_r_1_6, hs_t_1_6, hs_r_1_7, hs_t_1_7, hs_r_1_8, hs_t_1_8, hs_r_1_9, hs_t_1_9, hs_i_2, hs_i_3, hs_i_4, hs_i_5, hs_i_6, hs_i_7, hs_i_8, hs_i_9, hs_o_82, hs_r_82_0, hs_t_82_0, hs_f_82_1, hs_i_83, hs_o_84, hs_r_84_0, hs_t_84_0, hs_r_84_1, hs_t_84_1, hs_r_84_2, hs_t_84_2, hs_r_84_3, hs_t_84_3, hs_f_84_4, hs_i_85, hs_i_86, hs_i_87, hs_o_88, hs_r_88_0, hs_t_88_0, hs_r_88_1, hs_t_88_1, hs_r_88_2, hs_t_88_2, hs_r_88_3, hs_t_88_3, hs_r_88_4, hs_t_88_4, hs_r_88_5, hs_t_88_5, hs_r_88_6, hs_t_88_6, hs_r_88_7, hs_t_88_7, hs_f_88_8, hs_f_88_9, hs_i_89, hs_i_90, hs_i_91, hs_i_92, hs_i_93, hs_i_94, hs_i_95, hs_i_96, hs_i_97, hs_i_98, hs_i_99, hs_i_100, hs_i_101, hs_i_102, hs_o_103, hs_r_103_0, hs_t_103_0, hs_r_103_1, hs_t_103_1, hs_r_103_2, hs_t_103_2, hs_r_103_3, hs_t_103_3, hs_f_103_4, hs_i_104, hs_o_105, hs_r_105_0, hs_t_105_0, hs_r_105_1, hs_t_105_1, hs_r_105_2, hs_t_105_2, hs_i_106, hs_i_107, hs_o_108, hs_r_108_0, hs_t_108_0, hs_r_108_1, hs_t_108_1, hs_r_108_2, hs_t_108_2, hs_r_108_3, hs_t_108_3, hs_f_108_4, hs_i_109, hs_i_110, hs_o_111, hs_r_111_0, hs_t_111_0, hs_r_111_1, hs_t_111_1, hs_f_111_2, hs_f_111_3, hs_f_111_4, hs_i_112, hs_o_113, hs_f_113_0, hs_f_113_1, hs_f_113_2, hs_r_113_3, hs_t_113_3, hs_r_113_4, hs_t_113_4, hs_r_113_5, hs_t_113_5, hs_r_113_6, hs_t_113_6, hs_r_113_7, hs_t_113_7, hs_r_113_8, hs_t_113_8, hs_r_113_9, hs_t_113_9, hs_r_113_10, hs_t_113_10, hs_r_113_11, hs_t_113_11, hs_f_113_12, hs_f_113_13, hs_f_113_14, hs_r_113_15, hs_t_113_15, hs_f_113_16, hs_r_113_17, hs_t_113_17, hs_r_113_18, hs_t_113_18, hs_r_113_19, hs_t_113_19, hs_r_113_20, hs_t_113_20, hs_f_113_21, hs_f_113_22, hs_f_113_23, hs_r_113_24, hs_t_113_24, hs_f_113_25, hs_r_113_26, hs_t_113_26, hs_f_113_27, hs_i_114, hs_i_115, hs_i_116, hs_i_117, hs_i_118, hs_i_119, hs_i_120, hs_i_121, hs_i_122, hs_i_123, hs_i_124, hs_i_125, hs_i_126, hs_i_127, hs_i_128, hs_i_129, sp_X9_in, hd_t01, decide_eq_true_eq]
  by_cases h1 : (0 : Int32) ≤ kind ∧ kind ≤ 1
  · by_cases h2 : (1 : Int32) ≤ k ∧ k ≤ 8
    · simp [h1, h2]
    · simp [h1, h2]
  · simp [h1]
theorem hm_I_lf {S S2 : hd_S} {p : hp_P} {n : Nat} {q : Nat → hp_P} {hand : Nat} {cl : Nat → Nat} (hI : hm_I S p n q hand cl) (h : hm_lf S S2) : hm_I S2 p n q hand cl ∧ hm_fr S S2 :=
  hm_I_sm hI (hd_eqx_sub h.1 (by decide)) (fun f hf => h.2 f (by omega) (by omega)) (fun h9 _ => by rw [h.1.1 127 (by decide)]) hI.1.2.2.1 (by rw [h.2 14 (by decide) (by decide)]; exact hI.2.2.2.1) hI.1.2.2.2.1 hI.1.2.2.2.2 (fun t ht => by rw [h.1.1 123 (by decide)]; exact hI.2.2.2.2.1 t ht)
set_option maxHeartbeats 8000000 in
theorem sp_line {S : hd_S} {p : hp_P} {n : Nat} {q : Nat → hp_P} {hand : Nat} {cl : Nat → Nat} (hI : hm_I S p n q hand cl) (kind k : Int32) (post : Option hd_V → hd_S → Prop)
    (hk0 : ¬ ((0 ≤ kind ∧ kind ≤ 1) ∧ (1 ≤ k ∧ k ≤ 8)) → post (some (hd_vI (-3))) (hd_wI S 113 0 0))
    (hk1 : (0 ≤ kind ∧ kind ≤ 1) ∧ (1 ≤ k ∧ k ≤ 8) → hp_T p = 0 → ∀ S2, hm_I S2 p n q hand cl → hm_fr S S2 → post (some (hd_vI (-1))) S2)
    (hk2 : (0 ≤ kind ∧ kind ≤ 1) ∧ (1 ≤ k ∧ k ≤ 8) → hp_T p ≠ 0 → ∀ kk u f a, k = nI kk → 1 ≤ kk → kk ≤ 8 → hp_SP (hp_sp p) (hp_T p) u f → u ≤ hp_T p → hp_br u (2 ^ u) (min kk u) (hp_Da p u f kind) a → ∀ S2, hm_I S2 p n q hand cl → hm_fr S S2 → post (some (hd_vI (nI (hp_Da p u f kind a)))) S2) : wm_X9_line [hd_vR 113, hd_vI kind, hd_vI k] S post := by
  have hok := hI.1.1
  have hT8 : hp_T p ≤ 8 := hok.1
  obtain ⟨hI0, hfr0⟩ := hm_I_0 hI
  simp only [wm_X9_line, wo_X9_line, hd_mth, hd_rho0, hd_args, hd_wide, hq_sQ, hd_s0, hq_sI, hq_sJ, hd_sR, hd_sP, hd_sF, hd_sZ, hd_sG, hd_sA, hd_sL, hd_sB, hd_sO, hd_sN, hd_sD, hd_sW, hd_sE, hd_sRI, hd_sRZ, hd_sRJ, hd_sRR, hd_sRV, hd_sSw, hd_sw, hd_sCI, hd_sCL, hd_iK, hd_iL, hd_iU, hd_iB, hd_iD, hd_iJ, hd_iG, hd_iA, hd_iQ, hd_iC, hd_iN, hd_iE, hd_jK, hd_jL, hd_jU, hd_jB, hd_jD, hd_jH, hd_jI, hd_jA, hd_jQ, hd_jN, hd_rL, hd_rG, hd_rA, hd_rN, hd_cI, hd_c0, hd_cJ, hd_cX, hd_cA, hd_cO, hd_v0, hd_pI, hd_pJ, hd_pR, hd_nV, hd_nS, hd_get, hd_st, hd_stW, hd_cut, List.replicate, List.length_cons, List.length_nil, List.nil_append, List.cons_append, Nat.reduceAdd, Nat.reduceSub, Nat.reduceLeDiff, true_and, and_true, if_true, if_false, Bool.false_eq_true, List.append_nil, hs_o_0, hs_r_0_0, hs_t_0_0, hs_r_0_1, hs_t_0_1, hs_r_0_2, hs_t_0_2, hs_r_0_3, hs_t_0_3, hs_r_0_4, hs_t_0_4, hs_r_0_5, hs_t_0_5, hs_r_0_6, hs_t_0_6, hs_r_0_7, hs_t_0_7, hs_f_0_8, hs_o_1, hs_f_1_0, hs_f_1_1, hs_r_1_2, hs_t_1_2, hs_r_1_3, hs_t_1_3, hs_r_1_4, hs_t_1_4, hs_r_1_5, hs_t_1_5, hs_r_1_6, hs_t_1_6, hs_r_1_7, hs_t_1_7, hs_r_1_8, hs_t_1_8, hs_r_1_9, hs_t_1_9, hs_i_2, hs_i_3, hs_i_4, hs_i_5, hs_i_6, hs_i_7, hs_i_8, hs_i_9, hs_o_82, hs_r_82_0, hs_t_82_0, hs_f_82_1, hs_i_83, hs_o_84, hs_r_84_0, hs_t_84_0, hs_r_84_1, hs_t_84_1, hs_r_84_2, hs_t_84_2, hs_r_84_3, hs_t_84_3, hs_f_84_4, hs_i_85, hs_i_86, hs_i_87, hs_o_88, hs_r_88_0, hs_t_88_0, hs_r_88_1, hs_t_88_1, hs_r_88_2, hs_t_88_2, hs_r_88_3, hs_t_88_3, hs_r_88_4, hs_t_88_4, hs_r_88_5, hs_t_88_5, hs_r_88_6, hs_t_88_6, hs_r_88_7, hs_t_88_7, hs_f_88_8, hs_f_88_9, hs_i_89, hs_i_90, hs_i_91, hs_i_92, hs_i_93, hs_i_94, hs_i_95, hs_i_96, hs_i_97, hs_i_98, hs_i_99, hs_i_100, hs_i_101, hs_i_102, hs_o_103, hs_r_103_0, hs_t_103_0, hs_r_103_1, hs_t_103_1, hs_r_103_2, hs_t_103_2, hs_r_103_3, hs_t_103_3, hs_f_103_4, hs_i_104, hs_o_105, hs_r_105_0, hs_t_105_0, hs_r_105_1, hs_t_105_1, hs_r_105_2, hs_t_105_2, hs_i_106, hs_i_107, hs_o_108, hs_r_108_0, hs_t_108_0, hs_r_108_1, hs_t_108_1, hs_r_108_2, hs_t_108_2, hs_r_108_3, hs_t_108_3, hs_f_108_4, hs_i_109, hs_i_110, hs_o_111, hs_r_111_0, hs_t_111_0, hs_r_111_1, hs_t_111_1, hs_f_111_2, hs_f_111_3, hs_f_111_4, hs_i_112, hs_o_113, hs_f_113_0, hs_f_113_1, hs_f_113_2, hs_r_113_3, hs_t_113_3, hs_r_113_4, hs_t_113_4, hs_r_113_5, hs_t_113_5, hs_r_113_6, hs_t_113_6, hs_r_113_7, hs_t_113_7, hs_r_113_8, hs_t_113_8, hs_r_113_9, hs_t_113_9, hs_r_113_10, hs_t_113_10, hs_r_113_11, hs_t_113_11, hs_f_113_12, hs_f_113_13, hs_f_113_14, hs_r_113_15, hs_t_113_15, hs_f_113_16, hs_r_113_17, hs_t_113_17, hs_r_113_18, hs_t_113_18, hs_r_113_19, hs_t_113_19, hs_r_113_20, hs_t_113_20, hs_f_113_21, hs_f_113_22, hs_f_113_23, hs_r_113_24, hs_t_113_24, hs_f_113_25, hs_r_113_26, hs_t_113_26, hs_f_113_27, hs_i_114, hs_i_115, hs_i_116, hs_i_117, hs_i_118, hs_i_119, hs_i_120, hs_i_121, hs_i_122, hs_i_123, hs_i_124, hs_i_125, hs_i_126, hs_i_127, hs_i_128, hs_i_129]
  generalize hd_wI S 113 0 0 = S0 at hI0 hfr0 hk0 ⊢
  have hm0 := hI0.2.1
  simp only [sp_isLine, hd_t01, hd_dn1, decide_eq_true_eq, hm0.1, hb_z (show hp_T p < 2 ^ 31 by omega), true_and]
  by_cases h1 : ((0 : Int32) ≤ kind ∧ kind ≤ 1) ∧ ((1 : Int32) ≤ k ∧ k ≤ 8)
  · obtain ⟨kk, hka, hkb, rfl⟩ := hb_rng3 (a := 1) (b := 8) (by decide) (by decide) h1.2.1 h1.2.2
    simp only [h1, and_self, not_true, if_false]
    by_cases hT0 : hp_T p = 0
    · simp only [hT0, if_true]
      exact hk1 h1 hT0 S0 hI0 hfr0
    · simp only [hT0, if_false]
      refine sp_findLine hok hm0 hT0 kind hka hkb _ (fun S2 u f a hl hsp hut hss hbr e27 => ?_)
      obtain ⟨g1, g2⟩ := hm_I_lf hI0 hl
      exact hk2 h1 hT0 kk u f a rfl hka hkb hsp hut hbr S2 g1 ⟨fun c hc => (g2.1 c hc).trans (hfr0.1 c hc), g2.2.trans hfr0.2⟩
  · simp only [h1, not_false_iff, if_true]
    exact hk0 h1
set_option maxHeartbeats 8000000 in
theorem sp_lineAt {S : hd_S} {p : hp_P} {n : Nat} {q : Nat → hp_P} {hand : Nat} {cl : Nat → Nat} (hI : hm_I S p n q hand cl) (kind k i : Int32) (post : Option hd_V → hd_S → Prop)
    (hk0 : ¬ (((0 ≤ kind ∧ kind ≤ 1) ∧ (1 ≤ k ∧ k ≤ 8)) ∧ ¬ i < 0) → post (some (hd_vI (-3))) (hd_wI S 113 0 0))
    (hk1 : ((0 ≤ kind ∧ kind ≤ 1) ∧ (1 ≤ k ∧ k ≤ 8)) ∧ ¬ i < 0 → hp_T p = 0 → ∀ S2, hm_I S2 p n q hand cl → hm_fr S S2 → post (some (hd_vI (-1))) S2)
    (hk2 : ((0 ≤ kind ∧ kind ≤ 1) ∧ (1 ≤ k ∧ k ≤ 8)) ∧ ¬ i < 0 → hp_T p ≠ 0 → ∀ kk u f a m, k = nI kk → 1 ≤ kk → kk ≤ 8 → m < 2 ^ 31 → i = nI m → hp_SP (hp_sp p) (hp_T p) u f → u ≤ hp_T p → hp_br u (2 ^ u) (min kk u) (hp_Da p u f kind) a → ∀ S2, hm_I S2 p n q hand cl → hm_fr S S2 → post (some (hd_vI (hp_cv f (hp_ci (hp_ga a) m u)))) S2) : wm_X9_lineAt [hd_vR 113, hd_vI kind, hd_vI k, hd_vI i] S post := by
  have hok := hI.1.1
  have hT8 : hp_T p ≤ 8 := hok.1
  obtain ⟨hI0, hfr0⟩ := hm_I_0 hI
  simp only [wm_X9_lineAt, wo_X9_lineAt, hd_mth, hd_rho0, hd_args, hd_wide, hq_sQ, hd_s0, hq_sI, hq_sJ, hd_sR, hd_sP, hd_sF, hd_sZ, hd_sG, hd_sA, hd_sL, hd_sB, hd_sO, hd_sN, hd_sD, hd_sW, hd_sE, hd_sRI, hd_sRZ, hd_sRJ, hd_sRR, hd_sRV, hd_sSw, hd_sw, hd_sCI, hd_sCL, hd_iK, hd_iL, hd_iU, hd_iB, hd_iD, hd_iJ, hd_iG, hd_iA, hd_iQ, hd_iC, hd_iN, hd_iE, hd_jK, hd_jL, hd_jU, hd_jB, hd_jD, hd_jH, hd_jI, hd_jA, hd_jQ, hd_jN, hd_rL, hd_rG, hd_rA, hd_rN, hd_cI, hd_c0, hd_cJ, hd_cX, hd_cA, hd_cO, hd_v0, hd_pI, hd_pJ, hd_pR, hd_nV, hd_nS, hd_get, hd_st, hd_stW, hd_cut, List.replicate, List.length_cons, List.length_nil, List.nil_append, List.cons_append, Nat.reduceAdd, Nat.reduceSub, Nat.reduceLeDiff, true_and, and_true, if_true, if_false, Bool.false_eq_true, List.append_nil, hs_o_0, hs_r_0_0, hs_t_0_0, hs_r_0_1, hs_t_0_1, hs_r_0_2, hs_t_0_2, hs_r_0_3, hs_t_0_3, hs_r_0_4, hs_t_0_4, hs_r_0_5, hs_t_0_5, hs_r_0_6, hs_t_0_6, hs_r_0_7, hs_t_0_7, hs_f_0_8, hs_o_1, hs_f_1_0, hs_f_1_1, hs_r_1_2, hs_t_1_2, hs_r_1_3, hs_t_1_3, hs_r_1_4, hs_t_1_4, hs_r_1_5, hs_t_1_5, hs_r_1_6, hs_t_1_6, hs_r_1_7, hs_t_1_7, hs_r_1_8, hs_t_1_8, hs_r_1_9, hs_t_1_9, hs_i_2, hs_i_3, hs_i_4, hs_i_5, hs_i_6, hs_i_7, hs_i_8, hs_i_9, hs_o_82, hs_r_82_0, hs_t_82_0, hs_f_82_1, hs_i_83, hs_o_84, hs_r_84_0, hs_t_84_0, hs_r_84_1, hs_t_84_1, hs_r_84_2, hs_t_84_2, hs_r_84_3, hs_t_84_3, hs_f_84_4, hs_i_85, hs_i_86, hs_i_87, hs_o_88, hs_r_88_0, hs_t_88_0, hs_r_88_1, hs_t_88_1, hs_r_88_2, hs_t_88_2, hs_r_88_3, hs_t_88_3, hs_r_88_4, hs_t_88_4, hs_r_88_5, hs_t_88_5, hs_r_88_6, hs_t_88_6, hs_r_88_7, hs_t_88_7, hs_f_88_8, hs_f_88_9, hs_i_89, hs_i_90, hs_i_91, hs_i_92, hs_i_93, hs_i_94, hs_i_95, hs_i_96, hs_i_97, hs_i_98, hs_i_99, hs_i_100, hs_i_101, hs_i_102, hs_o_103, hs_r_103_0, hs_t_103_0, hs_r_103_1, hs_t_103_1, hs_r_103_2, hs_t_103_2, hs_r_103_3, hs_t_103_3, hs_f_103_4, hs_i_104, hs_o_105, hs_r_105_0, hs_t_105_0, hs_r_105_1, hs_t_105_1, hs_r_105_2, hs_t_105_2, hs_i_106, hs_i_107, hs_o_108, hs_r_108_0, hs_t_108_0, hs_r_108_1, hs_t_108_1, hs_r_108_2, hs_t_108_2, hs_r_108_3, hs_t_108_3, hs_f_108_4, hs_i_109, hs_i_110, hs_o_111, hs_r_111_0, hs_t_111_0, hs_r_111_1, hs_t_111_1, hs_f_111_2, hs_f_111_3, hs_f_111_4, hs_i_112, hs_o_113, hs_f_113_0, hs_f_113_1, hs_f_113_2, hs_r_113_3, hs_t_113_3, hs_r_113_4, hs_t_113_4, hs_r_113_5, hs_t_113_5, hs_r_113_6, hs_t_113_6, hs_r_113_7, hs_t_113_7, hs_r_113_8, hs_t_113_8, hs_r_113_9, hs_t_113_9, hs_r_113_10, hs_t_113_10, hs_r_113_11, hs_t_113_11, hs_f_113_12, hs_f_113_13, hs_f_113_14, hs_r_113_15, hs_t_113_15, hs_f_113_16, hs_r_113_17, hs_t_113_17, hs_r_113_18, hs_t_113_18, hs_r_113_19, hs_t_113_19, hs_r_113_20, hs_t_113_20, hs_f_113_21, hs_f_113_22, hs_f_113_23, hs_r_113_24, hs_t_113_24, hs_f_113_25, hs_r_113_26, hs_t_113_26, hs_f_113_27, hs_i_114, hs_i_115, hs_i_116, hs_i_117, hs_i_118, hs_i_119, hs_i_120, hs_i_121, hs_i_122, hs_i_123, hs_i_124, hs_i_125, hs_i_126, hs_i_127, hs_i_128, hs_i_129]
  generalize hd_wI S 113 0 0 = S0 at hI0 hfr0 hk0 ⊢
  have hm0 := hI0.2.1
  simp only [sp_isLine, hd_t01, hd_dn1, decide_eq_true_eq, hm0.1, hb_z (show hp_T p < 2 ^ 31 by omega), true_and]
  by_cases h1 : ((0 : Int32) ≤ kind ∧ kind ≤ 1) ∧ ((1 : Int32) ≤ k ∧ k ≤ 8)
  · by_cases h2 : i < 0
    · simp only [h1, h2, and_self, not_true, if_false, if_true]
      exact hk0 (fun r => r.2 h2)
    · obtain ⟨kk, hka, hkb, rfl⟩ := hb_rng3 (a := 1) (b := 8) (by decide) (by decide) h1.2.1 h1.2.2
      obtain ⟨m, hm, rfl⟩ : ∃ m, m < 2 ^ 31 ∧ i = nI m := by
        have h0 : (0 : Int32) ≤ i := Int32.not_lt.mp h2
        obtain ⟨m, hm, e⟩ := hb_rng (x := i) (m := 2147483647) (by decide) h0 (by
          rw [Int32.le_iff_toInt_le]
          exact Int32.toInt_le i)
        exact ⟨m, by omega, e⟩
      simp only [h1, h2, and_self, not_true, if_false]
      by_cases hT0 : hp_T p = 0
      · simp only [hT0, if_true]
        exact hk1 ⟨h1, h2⟩ hT0 S0 hI0 hfr0
      · simp only [hT0, if_false]
        refine sp_findLine hok hm0 hT0 kind hka hkb _ (fun S2 u f a hl hsp hut hss hbr e27 => ?_)
        obtain ⟨g1, g2⟩ := hm_I_lf hI0 hl
        have h256 : 2 ^ u ≤ 256 := Nat.pow_le_pow_right (n := 2) (by decide) (show u ≤ 8 by omega)
        have hal := hbr.1
        have hk := hk2 ⟨h1, h2⟩ hT0 kk u f a m rfl hka hkb hm rfl hsp hut hbr S2 g1 ⟨fun c hc => (g2.1 c hc).trans (hfr0.1 c hc), g2.2.trans hfr0.2⟩
        refine hd_up (fun s ρ S3 => S3 = S2 ∧ (∀ j, j < s → (hp_ga a j && decide (fb_ct (hp_ga a) j = m)) = false) ∧ fb_ct (hp_ga a) s ≤ m ∧ ∃ x : hd_V, ρ = [hd_vR 113, hd_vI kind, hd_vI (nI kk), hd_vI (nI m), x, hd_vI (nI (m - fb_ct (hp_ga a) s)), hd_vI (nI s)]) u ?_ ?_ (Nat.zero_le _) ⟨rfl, fun j hj => by omega, Nat.zero_le _, _, rfl⟩
        · rintro s ρ S3 K hsu ⟨rfl, hno, hct, x, rfl⟩ hK
          simp only [wc_X9_lineAt_43, wb_X9_lineAt_43, hd_mth, hd_rho0, hd_args, hd_wide, hq_sQ, hd_s0, hq_sI, hq_sJ, hd_sR, hd_sP, hd_sF, hd_sZ, hd_sG, hd_sA, hd_sL, hd_sB, hd_sO, hd_sN, hd_sD, hd_sW, hd_sE, hd_sRI, hd_sRZ, hd_sRJ, hd_sRR, hd_sRV, hd_sSw, hd_sw, hd_sCI, hd_sCL, hd_iK, hd_iL, hd_iU, hd_iB, hd_iD, hd_iJ, hd_iG, hd_iA, hd_iQ, hd_iC, hd_iN, hd_iE, hd_jK, hd_jL, hd_jU, hd_jB, hd_jD, hd_jH, hd_jI, hd_jA, hd_jQ, hd_jN, hd_rL, hd_rG, hd_rA, hd_rN, hd_cI, hd_c0, hd_cJ, hd_cX, hd_cA, hd_cO, hd_v0, hd_pI, hd_pJ, hd_pR, hd_nV, hd_nS, hd_get, hd_st, hd_stW, hd_cut, List.replicate, List.length_cons, List.length_nil, List.nil_append, List.cons_append, Nat.reduceAdd, Nat.reduceSub, Nat.reduceLeDiff, true_and, and_true, if_true, if_false, Bool.false_eq_true, List.append_nil, hs_o_0, hs_r_0_0, hs_t_0_0, hs_r_0_1, hs_t_0_1, hs_r_0_2, hs_t_0_2, hs_r_0_3, hs_t_0_3, hs_r_0_4, hs_t_0_4, hs_r_0_5, hs_t_0_5, hs_r_0_6, hs_t_0_6, hs_r_0_7, hs_t_0_7, hs_f_0_8, hs_o_1, hs_f_1_0, hs_f_1_1, hs_r_1_2, hs_t_1_2, hs_r_1_3, hs_t_1_3, hs_r_1_4, hs_t_1_4, hs_r_1_5, hs_t_1_5, hs_r_1_6, hs_t_1_6, hs_r_1_7, hs_t_1_7, hs_r_1_8, hs_t_1_8, hs_r_1_9, hs_t_1_9, hs_i_2, hs_i_3, hs_i_4, hs_i_5, hs_i_6, hs_i_7, hs_i_8, hs_i_9, hs_o_82, hs_r_82_0, hs_t_82_0, hs_f_82_1, hs_i_83, hs_o_84, hs_r_84_0, hs_t_84_0, hs_r_84_1, hs_t_84_1, hs_r_84_2, hs_t_84_2, hs_r_84_3, hs_t_84_3, hs_f_84_4, hs_i_85, hs_i_86, hs_i_87, hs_o_88, hs_r_88_0, hs_t_88_0, hs_r_88_1, hs_t_88_1, hs_r_88_2, hs_t_88_2, hs_r_88_3, hs_t_88_3, hs_r_88_4, hs_t_88_4, hs_r_88_5, hs_t_88_5, hs_r_88_6, hs_t_88_6, hs_r_88_7, hs_t_88_7, hs_f_88_8, hs_f_88_9, hs_i_89, hs_i_90, hs_i_91, hs_i_92, hs_i_93, hs_i_94, hs_i_95, hs_i_96, hs_i_97, hs_i_98, hs_i_99, hs_i_100, hs_i_101, hs_i_102, hs_o_103, hs_r_103_0, hs_t_103_0, hs_r_103_1, hs_t_103_1, hs_r_103_2, hs_t_103_2, hs_r_103_3, hs_t_103_3, hs_f_103_4, hs_i_104, hs_o_105, hs_r_105_0, hs_t_105_0, hs_r_105_1, hs_t_105_1, hs_r_105_2, hs_t_105_2, hs_i_106, hs_i_107, hs_o_108, hs_r_108_0, hs_t_108_0, hs_r_108_1, hs_t_108_1, hs_r_108_2, hs_t_108_2, hs_r_108_3, hs_t_108_3, hs_f_108_4, hs_i_109, hs_i_110, hs_o_111, hs_r_111_0, hs_t_111_0, hs_r_111_1, hs_t_111_1, hs_f_111_2, hs_f_111_3, hs_f_111_4, hs_i_112, hs_o_113, hs_f_113_0, hs_f_113_1, hs_f_113_2, hs_r_113_3, hs_t_113_3, hs_r_113_4, hs_t_113_4, hs_r_113_5, hs_t_113_5, hs_r_113_6, hs_t_113_6, hs_r_113_7, hs_t_113_7, hs_r_113_8, hs_t_113_8, hs_r_113_9, hs_t_113_9, hs_r_113_10, hs_t_113_10, hs_r_113_11, hs_t_113_11, hs_f_113_12, hs_f_113_13, hs_f_113_14, hs_r_113_15, hs_t_113_15, hs_f_113_16, hs_r_113_17, hs_t_113_17, hs_r_113_18, hs_t_113_18, hs_r_113_19, hs_t_113_19, hs_r_113_20, hs_t_113_20, hs_f_113_21, hs_f_113_22, hs_f_113_23, hs_r_113_24, hs_t_113_24, hs_f_113_25, hs_r_113_26, hs_t_113_26, hs_f_113_27, hs_i_114, hs_i_115, hs_i_116, hs_i_117, hs_i_118, hs_i_119, hs_i_120, hs_i_121, hs_i_122, hs_i_123, hs_i_124, hs_i_125, hs_i_126, hs_i_127, hs_i_128, hs_i_129, hss.1, nI_ltI (show s < 2 ^ 31 by omega) (show u < 2 ^ 31 by omega), hsu, decide_true, if_true, e27, sp_X9_has, hd_t01, hb_t (show a < 2 ^ 31 by omega) (show s < 31 by omega), decide_eq_true_eq, hb_z (show m - fb_ct (hp_ga a) s < 2 ^ 31 by omega), vp_in_nI (show s < 8 by omega) (show 8 < 2 ^ 31 by decide), hd_cc (show s < 2147483648 by omega), hss.2 s hsu, true_and, nI_1]
          cases hg : a.testBit s with
          | true =>
            have hg2 : hp_ga a s = true := hg
            simp only [if_true]
            by_cases he : m - fb_ct (hp_ga a) s = 0
            · simp only [he, if_true]
              have e : hp_ci (hp_ga a) m u = some s := hp_brk_some (by show (hp_ga a s && decide (fb_ct (hp_ga a) s = m)) = true; rw [hg2, decide_eq_true (show fb_ct (hp_ga a) s = m by omega)]; rfl) hno hsu
              rw [e] at hk
              exact hk
            · have e1 : nI (m - fb_ct (hp_ga a) s) + (-1) = nI (m - fb_ct (hp_ga a) (s + 1)) := by
                rw [← Int32.sub_eq_add_neg, show (1 : Int32) = nI 1 from rfl, pk_sub (by omega), fb_ct_succ, hg2]
                rfl
              simp only [he, if_false, e1]
              refine hK _ _ ⟨rfl, fun j hj => ?_, ?_, _, rfl⟩
              · by_cases hjs : j = s
                · rw [hjs, hg2, decide_eq_false (show ¬ fb_ct (hp_ga a) s = m by omega)]
                  rfl
                · exact hno j (by omega)
              · rw [fb_ct_succ, hg2]
                show fb_ct (hp_ga a) s + 1 ≤ m
                omega
          | false =>
            have hg2 : hp_ga a s = false := hg
            have e1 : fb_ct (hp_ga a) (s + 1) = fb_ct (hp_ga a) s := by
              rw [fb_ct_succ, hg2]
              rfl
            simp only [Bool.false_eq_true, if_false]
            refine hK _ _ ⟨rfl, fun j hj => ?_, by omega, _, by rw [e1]⟩
            by_cases hjs : j = s
            · rw [hjs, hg2]
              rfl
            · exact hno j (by omega)
        · rintro ρ S3 K ⟨rfl, hno, hct, x, rfl⟩
          simp only [wc_X9_lineAt_43, hd_mth, hd_rho0, hd_args, hd_wide, hq_sQ, hd_s0, hq_sI, hq_sJ, hd_sR, hd_sP, hd_sF, hd_sZ, hd_sG, hd_sA, hd_sL, hd_sB, hd_sO, hd_sN, hd_sD, hd_sW, hd_sE, hd_sRI, hd_sRZ, hd_sRJ, hd_sRR, hd_sRV, hd_sSw, hd_sw, hd_sCI, hd_sCL, hd_iK, hd_iL, hd_iU, hd_iB, hd_iD, hd_iJ, hd_iG, hd_iA, hd_iQ, hd_iC, hd_iN, hd_iE, hd_jK, hd_jL, hd_jU, hd_jB, hd_jD, hd_jH, hd_jI, hd_jA, hd_jQ, hd_jN, hd_rL, hd_rG, hd_rA, hd_rN, hd_cI, hd_c0, hd_cJ, hd_cX, hd_cA, hd_cO, hd_v0, hd_pI, hd_pJ, hd_pR, hd_nV, hd_nS, hd_get, hd_st, hd_stW, hd_cut, List.replicate, List.length_cons, List.length_nil, List.nil_append, List.cons_append, Nat.reduceAdd, Nat.reduceSub, Nat.reduceLeDiff, true_and, and_true, if_true, if_false, Bool.false_eq_true, List.append_nil, hs_o_0, hs_r_0_0, hs_t_0_0, hs_r_0_1, hs_t_0_1, hs_r_0_2, hs_t_0_2, hs_r_0_3, hs_t_0_3, hs_r_0_4, hs_t_0_4, hs_r_0_5, hs_t_0_5, hs_r_0_6, hs_t_0_6, hs_r_0_7, hs_t_0_7, hs_f_0_8, hs_o_1, hs_f_1_0, hs_f_1_1, hs_r_1_2, hs_t_1_2, hs_r_1_3, hs_t_1_3, hs_r_1_4, hs_t_1_4, hs_r_1_5, hs_t_1_5, hs_r_1_6, hs_t_1_6, hs_r_1_7, hs_t_1_7, hs_r_1_8, hs_t_1_8, hs_r_1_9, hs_t_1_9, hs_i_2, hs_i_3, hs_i_4, hs_i_5, hs_i_6, hs_i_7, hs_i_8, hs_i_9, hs_o_82, hs_r_82_0, hs_t_82_0, hs_f_82_1, hs_i_83, hs_o_84, hs_r_84_0, hs_t_84_0, hs_r_84_1, hs_t_84_1, hs_r_84_2, hs_t_84_2, hs_r_84_3, hs_t_84_3, hs_f_84_4, hs_i_85, hs_i_86, hs_i_87, hs_o_88, hs_r_88_0, hs_t_88_0, hs_r_88_1, hs_t_88_1, hs_r_88_2, hs_t_88_2, hs_r_88_3, hs_t_88_3, hs_r_88_4, hs_t_88_4, hs_r_88_5, hs_t_88_5, hs_r_88_6, hs_t_88_6, hs_r_88_7, hs_t_88_7, hs_f_88_8, hs_f_88_9, hs_i_89, hs_i_90, hs_i_91, hs_i_92, hs_i_93, hs_i_94, hs_i_95, hs_i_96, hs_i_97, hs_i_98, hs_i_99, hs_i_100, hs_i_101, hs_i_102, hs_o_103, hs_r_103_0, hs_t_103_0, hs_r_103_1, hs_t_103_1, hs_r_103_2, hs_t_103_2, hs_r_103_3, hs_t_103_3, hs_f_103_4, hs_i_104, hs_o_105, hs_r_105_0, hs_t_105_0, hs_r_105_1, hs_t_105_1, hs_r_105_2, hs_t_105_2, hs_i_106, hs_i_107, hs_o_108, hs_r_108_0, hs_t_108_0, hs_r_108_1, hs_t_108_1, hs_r_108_2, hs_t_108_2, hs_r_108_3, hs_t_108_3, hs_f_108_4, hs_i_109, hs_i_110, hs_o_111, hs_r_111_0, hs_t_111_0, hs_r_111_1, hs_t_111_1, hs_f_111_2, hs_f_111_3, hs_f_111_4, hs_i_112, hs_o_113, hs_f_113_0, hs_f_113_1, hs_f_113_2, hs_r_113_3, hs_t_113_3, hs_r_113_4, hs_t_113_4, hs_r_113_5, hs_t_113_5, hs_r_113_6, hs_t_113_6, hs_r_113_7, hs_t_113_7, hs_r_113_8, hs_t_113_8, hs_r_113_9, hs_t_113_9, hs_r_113_10, hs_t_113_10, hs_r_113_11, hs_t_113_11, hs_f_113_12, hs_f_113_13, hs_f_113_14, hs_r_113_15, hs_t_113_15, hs_f_113_16, hs_r_113_17, hs_t_113_17, hs_r_113_18, hs_t_113_18, hs_r_113_19, hs_t_113_19, hs_r_113_20, hs_t_113_20, hs_f_113_21, hs_f_113_22, hs_f_113_23, hs_r_113_24, hs_t_113_24, hs_f_113_25, hs_r_113_26, hs_t_113_26, hs_f_113_27, hs_i_114, hs_i_115, hs_i_116, hs_i_117, hs_i_118, hs_i_119, hs_i_120, hs_i_121, hs_i_122, hs_i_123, hs_i_124, hs_i_125, hs_i_126, hs_i_127, hs_i_128, hs_i_129, hss.1, Int32.lt_irrefl, decide_false, Bool.false_eq_true, if_false]
          have e : hp_ci (hp_ga a) m u = none := hp_brk_none hno
          rw [e] at hk
          exact hk
  · simp only [h1, not_false_iff, if_true]
    exact hk0 (fun r => h1 r.1)
