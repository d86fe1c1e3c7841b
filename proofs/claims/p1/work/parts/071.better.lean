/-! better: step by step to the cheapest beside -/
/-- from a, at most n steps: where it ends, how many steps -/
def hp_bt (c : Nat → Option Nat) (N : Nat) (a : Nat) : Nat → Nat × Nat
  | 0 => (a, 0)
  | n + 1 => if hp_cb c (hp_bt c N a n).1 N = (hp_bt c N a n).1 then hp_bt c N a n else (hp_cb c (hp_bt c N a n).1 N, (hp_bt c N a n).2 + 1)
theorem hp_bt_lt (c : Nat → Option Nat) {N a : Nat} (ha : a < N) : ∀ n, (hp_bt c N a n).1 < N ∧ (hp_bt c N a n).2 ≤ n
  | 0 => ⟨ha, Nat.le_refl _⟩
  | n + 1 => by
    obtain ⟨h1, h2⟩ := hp_bt_lt c ha n
    simp only [hp_bt]
    split
    · exact ⟨h1, by omega⟩
    · exact ⟨hp_cb_lt c h1 (Nat.le_refl _), by simp only; omega⟩
/-- where it stands still it stays -/
theorem hp_bt_fix (c : Nat → Option Nat) {N a m : Nat} (h : hp_cb c (hp_bt c N a m).1 N = (hp_bt c N a m).1) : ∀ n, hp_bt c N a (m + n) = hp_bt c N a m
  | 0 => rfl
  | n + 1 => by
    show hp_bt c N a (m + n + 1) = _
    simp only [hp_bt]
    rw [hp_bt_fix c h n, if_pos h]
theorem hp_bt_go (c : Nat → Option Nat) {N a : Nat} : ∀ m, (∀ j, j < m → ¬ hp_cb c (hp_bt c N a j).1 N = (hp_bt c N a j).1) → (hp_bt c N a m).2 = m
  | 0, _ => rfl
  | m + 1, h => by
    simp only [hp_bt]
    rw [if_neg (h m (by omega))]
    show (hp_bt c N a m).2 + 1 = m + 1
    rw [hp_bt_go c m (fun j hj => h j (by omega))]
set_option maxHeartbeats 4000000 in
theorem sx_better {S : hd_S} {p : hp_P} {Q : hd_S → Prop} (hp : hp_ok p) (hx : hx_P 1 S p) (hr : hx_rs S p) (hQ : Q S) (hF : hx_FS p Q) (hQs : hx_QS Q) {hand : Nat} (hh : hand < 2 ^ hp_H p) (hs : S.1 0 8 = nI hand) (kind nn : Int32) (post : Option hd_V → hd_S → Prop)
    (hk1 : ∀ k n, k < 7 → kind = nI k → nn = nI n → 1 ≤ n → n ≤ 60 → ∀ S2, hd_eqv (0 :: hx_cs) S S2 → hx_rs S2 p → Q S2 → S2.1 0 8 = nI (hp_bt (hp_q p k (-1)) (2 ^ hp_H p) hand n).1 → post (some (hd_vI (nI (hp_bt (hp_q p k (-1)) (2 ^ hp_H p) hand n).2))) S2)
    (hk2 : ¬ ((0 ≤ kind ∧ kind ≤ 6) ∧ (1 ≤ nn ∧ nn ≤ 60)) → post (some (hd_vI (-3))) S) : wm_X8_better [hd_vR 0, hd_vI kind, hd_vI nn] S post := by
  have hH : hp_H p ≤ 7 := hp.2.1
  have h128 : 2 ^ hp_H p ≤ 128 := Nat.pow_le_pow_right (n := 2) (by decide) hH
  simp only [wm_X8_better, wo_X8_better, hd_mth, hd_rho0, hd_args, hd_wide, hd_sQ, hd_s0, hd_sI, hd_sJ, hd_sR, hd_sP, hd_sF, hd_sZ, hd_sG, hd_sA, hd_sL, hd_sB, hd_sO, hd_sN, hd_sD, hd_sW, hd_sE, hd_sRI, hd_sRZ, hd_sRJ, hd_sRR, hd_sRV, hd_sSw, hd_sw, hd_sCI, hd_sCL, hd_iK, hd_iL, hd_iU, hd_iB, hd_iD, hd_iJ, hd_iG, hd_iA, hd_iQ, hd_iC, hd_iN, hd_iE, hd_jK, hd_jL, hd_jU, hd_jB, hd_jD, hd_jH, hd_jI, hd_jA, hd_jQ, hd_jN, hd_rL, hd_rG, hd_rA, hd_rN, hd_cI, hd_c0, hd_cJ, hd_cX, hd_cA, hd_cO, hd_v0, hd_pI, hd_pJ, hd_pR, hd_nV, hd_nS, hd_get, hd_st, hd_stW, hd_cut, List.replicate, List.length_cons, List.length_nil, List.nil_append, List.cons_append, Nat.reduceAdd, Nat.reduceSub, Nat.reduceLeDiff, true_and, and_true, if_true, if_false, Bool.false_eq_true, List.append_nil, hs_o_0, hs_r_0_0, hs_t_0_0, hs_r_0_1, hs_t_0_1, hs_r_0_2, hs_t_0_2, hs_r_0_3, hs_t_0_3, hs_r_0_4, hs_t_0_4, hs_r_0_5, hs_t_0_5, hs_r_0_6, hs_t_0_6, hs_r_0_7, hs_t_0_7, hs_f_0_8, hs_o_1, hs_f_1_0, hs_f_1_1, hs_r_1_2, hs_t_1_2, hs_r_1_3, hs_t_1_3, hs_r_1_4, hs_t_1_4, hs_r_1_5, hs_t_1_5, hs_r_1_6, hs_t_1_6, hs_r_1_7, hs_t_1_7, hs_r_1_8, hs_t_1_8, hs_r_1_9, hs_t_1_9, hs_i_2, hs_i_3, hs_i_4, hs_i_5, hs_i_6, hs_i_7, hs_i_8, hs_i_9, hs_o_82, hs_r_82_0, hs_t_82_0, hs_f_82_1, hs_i_83, hs_o_84, hs_r_84_0, hs_t_84_0, hs_r_84_1, hs_t_84_1, hs_r_84_2, hs_t_84_2, hs_r_84_3, hs_t_84_3, hs_f_84_4, hs_i_85, hs_i_86, hs_i_87, hs_o_88, hs_r_88_0, hs_t_88_0, hs_r_88_1, hs_t_88_1, hs_r_88_2, hs_t_88_2, hs_r_88_3, hs_t_88_3, hs_r_88_4, hs_t_88_4, hs_r_88_5, hs_t_88_5, hs_r_88_6, hs_t_88_6, hs_r_88_7, hs_t_88_7, hs_f_88_8, hs_f_88_9, hs_i_89, hs_i_90, hs_i_91, hs_i_92, hs_i_93, hs_i_94, hs_i_95, hs_i_96, hs_i_97, hs_i_98, hs_i_99, hs_i_100, hs_i_101, hs_i_102, hs_o_103, hs_r_103_0, hs_t_103_0, hs_r_103_1, hs_t_103_1, hs_r_103_2, hs_t_103_2, hs_r_103_3, hs_t_103_3, hs_f_103_4, hs_i_104, hs_o_105, hs_r_105_0, hs_t_105_0, hs_r_105_1, hs_t_105_1, hs_r_105_2, hs_t_105_2, hs_i_106, hs_i_107, hs_o_108, hs_r_108_0, hs_t_108_0, hs_r_108_1, hs_t_108_1, hs_r_108_2, hs_t_108_2, hs_r_108_3, hs_t_108_3, hs_f_108_4, hs_i_109, hs_i_110, hs_o_111, hs_r_111_0, hs_t_111_0, hs_r_111_1, hs_t_111_1, hs_f_111_2, hs_f_111_3, hs_f_111_4, hs_i_112, hs_o_113, hs_f_113_0, hs_f_113_1, hs_f_113_2, hs_r_113_3, hs_t_113_3, hs_r_113_4, hs_t_113_4, hs_r_113_5, hs_t_113_5, hs_r_113_6, hs_t_113_6, hs_r_113_7, hs_t_113_7, hs_r_113_8, hs_t_113_8, hs_r_113_9, hs_t_113_9, hs_r_113_10, hs_t_113_10, hs_r_113_11, hs_t_113_11, hs_f_113_12, hs_f_113_13, hs_f_113_14, hs_r_113_15, hs_t_113_15, hs_f_113_16, hs_r_113_17, hs_t_113_17, hs_r_113_18, hs_t_113_18, hs_r_113_19, hs_t_113_19, hs_r_113_20, hs_t_113_20, hs_f_113_21, hs_f_113_22, hs_f_113_23, hs_r_113_24, hs_t_113_24, hs_f_113_25, hs_r_113_26, hs_t_113_26, hs_f_113_27, hs_i_114, hs_i_115, hs_i_116, hs_i_117, hs_i_118, hs_i_119, hs_i_120, hs_i_121, hs_i_122, hs_i_123, hs_i_124, hs_i_125, hs_i_126, hs_i_127, hs_i_128, hs_i_129, sx_isKind, sp_X8_within, hd_t01, hd_dn1, decide_eq_true_eq]
  by_cases hq : 0 ≤ kind ∧ kind ≤ 6
  · by_cases hq2 : 1 ≤ nn ∧ nn ≤ 60
    · obtain ⟨k, hk, rfl⟩ := hb_rng (m := 6) (by decide) hq.1 hq.2
      have h0n : (0 : Int32) ≤ nn := by
        have h1 := hq2.1
        rw [Int32.le_iff_toInt_le] at h1 ⊢
        have e1 : (1 : Int32).toInt = 1 := by decide
        have e0 : (0 : Int32).toInt = 0 := by decide
        omega
      obtain ⟨n, hn, rfl⟩ := hb_rng (m := 60) (by decide) h0n hq2.2
      have hn1 : 1 ≤ n := (hb_le (a := 1) (b := n) (by decide) (by omega)).mp hq2.1
      simp only [hq, hq2, and_self, not_true, if_false]
      refine sx_fresh hp hx hr _ (fun S1 he hr1 hR1 => ?_)
      simp only [hs_o_103, true_and]
      refine sx_seek hp hx hr hQ hF hQs (-1) (show k < 7 by omega) (fun S2 he2 hr2 hQ2 hsk => ?_) S1 he hr1 hR1
      simp only [true_and]
      have hc : ∀ s v, hp_q p k (-1) s = some v → v < 2000000000 := fun s v h => hp_q_lt hp h
      have hs2 : S2.1 0 8 = nI hand := by rw [he2.1 0 (by decide)]; exact hs
      refine hd_up (fun i ρ S3 => hd_eqv [0] S2 S3 ∧ S3.1 0 8 = nI (hp_bt (hp_q p k (-1)) (2 ^ hp_H p) hand i).1 ∧ (∀ j, j < i → ¬ hp_cb (hp_q p k (-1)) (hp_bt (hp_q p k (-1)) (2 ^ hp_H p) hand j).1 (2 ^ hp_H p) = (hp_bt (hp_q p k (-1)) (2 ^ hp_H p) hand j).1) ∧ ∃ x : hd_V, ρ = [hd_vR 0, hd_vI (nI k), hd_vI (nI n), hd_vI (nI i), x]) n ?_ ?_ (Nat.zero_le _) ⟨hd_eqv_rf _ _, hs2, fun j hj => by omega, _, rfl⟩
      · rintro i ρ S3 K hi ⟨he3, hs3, hgo, x, rfl⟩ hK
        have he4 : hd_eqv (0 :: hx_cs) S S3 := hd_eqv_tr (hd_eqv_sub he2 (by decide)) (hd_eqv_sub he3 (by decide))
        have hx3 : hx_P 1 S3 p := by
          have h9 := hx_P_eqv he2 (by decide) hx
          unfold hx_P at h9 ⊢
          rw [he3.1 1 (by decide), he3.1 (1 + 1) (by decide), he3.1 (1 + 2) (by decide), he3.1 (1 + 3) (by decide), he3.1 (1 + 4) (by decide), he3.1 (1 + 5) (by decide), he3.1 (1 + 6) (by decide), he3.1 (1 + 7) (by decide), he3.1 (1 + 8) (by decide)]
          exact h9
        obtain ⟨hbl, hb2⟩ := hp_bt_lt (hp_q p k (-1)) hh i
        simp only [wc_X8_better_31, wb_X8_better_31, hd_mth, hd_rho0, hd_args, hd_wide, hd_sQ, hd_s0, hd_sI, hd_sJ, hd_sR, hd_sP, hd_sF, hd_sZ, hd_sG, hd_sA, hd_sL, hd_sB, hd_sO, hd_sN, hd_sD, hd_sW, hd_sE, hd_sRI, hd_sRZ, hd_sRJ, hd_sRR, hd_sRV, hd_sSw, hd_sw, hd_sCI, hd_sCL, hd_iK, hd_iL, hd_iU, hd_iB, hd_iD, hd_iJ, hd_iG, hd_iA, hd_iQ, hd_iC, hd_iN, hd_iE, hd_jK, hd_jL, hd_jU, hd_jB, hd_jD, hd_jH, hd_jI, hd_jA, hd_jQ, hd_jN, hd_rL, hd_rG, hd_rA, hd_rN, hd_cI, hd_c0, hd_cJ, hd_cX, hd_cA, hd_cO, hd_v0, hd_pI, hd_pJ, hd_pR, hd_nV, hd_nS, hd_get, hd_st, hd_stW, hd_cut, List.replicate, List.length_cons, List.length_nil, List.nil_append, List.cons_append, Nat.reduceAdd, Nat.reduceSub, Nat.reduceLeDiff, true_and, and_true, if_true, if_false, Bool.false_eq_true, List.append_nil, hs_o_0, hs_r_0_0, hs_t_0_0, hs_r_0_1, hs_t_0_1, hs_r_0_2, hs_t_0_2, hs_r_0_3, hs_t_0_3, hs_r_0_4, hs_t_0_4, hs_r_0_5, hs_t_0_5, hs_r_0_6, hs_t_0_6, hs_r_0_7, hs_t_0_7, hs_f_0_8, hs_o_1, hs_f_1_0, hs_f_1_1, hs_r_1_2, hs_t_1_2, hs_r_1_3, hs_t_1_3, hs_r_1_4, hs_t_1_4, hs_r_1_5, hs_t_1_5, hs_r_1_6, hs_t_1_6, hs_r_1_7, hs_t_1_7, hs_r_1_8, hs_t_1_8, hs_r_1_9, hs_t_1_9, hs_i_2, hs_i_3, hs_i_4, hs_i_5, hs_i_6, hs_i_7, hs_i_8, hs_i_9, hs_o_82, hs_r_82_0, hs_t_82_0, hs_f_82_1, hs_i_83, hs_o_84, hs_r_84_0, hs_t_84_0, hs_r_84_1, hs_t_84_1, hs_r_84_2, hs_t_84_2, hs_r_84_3, hs_t_84_3, hs_f_84_4, hs_i_85, hs_i_86, hs_i_87, hs_o_88, hs_r_88_0, hs_t_88_0, hs_r_88_1, hs_t_88_1, hs_r_88_2, hs_t_88_2, hs_r_88_3, hs_t_88_3, hs_r_88_4, hs_t_88_4, hs_r_88_5, hs_t_88_5, hs_r_88_6, hs_t_88_6, hs_r_88_7, hs_t_88_7, hs_f_88_8, hs_f_88_9, hs_i_89, hs_i_90, hs_i_91, hs_i_92, hs_i_93, hs_i_94, hs_i_95, hs_i_96, hs_i_97, hs_i_98, hs_i_99, hs_i_100, hs_i_101, hs_i_102, hs_o_103, hs_r_103_0, hs_t_103_0, hs_r_103_1, hs_t_103_1, hs_r_103_2, hs_t_103_2, hs_r_103_3, hs_t_103_3, hs_f_103_4, hs_i_104, hs_o_105, hs_r_105_0, hs_t_105_0, hs_r_105_1, hs_t_105_1, hs_r_105_2, hs_t_105_2, hs_i_106, hs_i_107, hs_o_108, hs_r_108_0, hs_t_108_0, hs_r_108_1, hs_t_108_1, hs_r_108_2, hs_t_108_2, hs_r_108_3, hs_t_108_3, hs_f_108_4, hs_i_109, hs_i_110, hs_o_111, hs_r_111_0, hs_t_111_0, hs_r_111_1, hs_t_111_1, hs_f_111_2, hs_f_111_3, hs_f_111_4, hs_i_112, hs_o_113, hs_f_113_0, hs_f_113_1, hs_f_113_2, hs_r_113_3, hs_t_113_3, hs_r_113_4, hs_t_113_4, hs_r_113_5, hs_t_113_5, hs_r_113_6, hs_t_113_6, hs_r_113_7, hs_t_113_7, hs_r_113_8, hs_t_113_8, hs_r_113_9, hs_t_113_9, hs_r_113_10, hs_t_113_10, hs_r_113_11, hs_t_113_11, hs_f_113_12, hs_f_113_13, hs_f_113_14, hs_r_113_15, hs_t_113_15, hs_f_113_16, hs_r_113_17, hs_t_113_17, hs_r_113_18, hs_t_113_18, hs_r_113_19, hs_t_113_19, hs_r_113_20, hs_t_113_20, hs_f_113_21, hs_f_113_22, hs_f_113_23, hs_r_113_24, hs_t_113_24, hs_f_113_25, hs_r_113_26, hs_t_113_26, hs_f_113_27, hs_i_114, hs_i_115, hs_i_116, hs_i_117, hs_i_118, hs_i_119, hs_i_120, hs_i_121, hs_i_122, hs_i_123, hs_i_124, hs_i_125, hs_i_126, hs_i_127, hs_i_128, hs_i_129, nI_ltI (show i < 2 ^ 31 by omega) (show n < 2 ^ 31 by omega), hi, decide_true, hs3, nI_1]
        refine sx_cheapestBeside hp hx3 hc (fun s hs4 => by rw [he3.1 104 (by decide)]; exact hsk.2 s hs4) hbl _ ?_
        have hcl := hp_cb_lt (hp_q p k (-1)) hbl (Nat.le_refl _)
        simp only [hs3, nI_eq (show hp_cb (hp_q p k (-1)) (hp_bt (hp_q p k (-1)) (2 ^ hp_H p) hand i).1 (2 ^ hp_H p) < 2 ^ 31 by omega) (show (hp_bt (hp_q p k (-1)) (2 ^ hp_H p) hand i).1 < 2 ^ 31 by omega), decide_eq_true_eq]
        by_cases hst : hp_cb (hp_q p k (-1)) (hp_bt (hp_q p k (-1)) (2 ^ hp_H p) hand i).1 (2 ^ hp_H p) = (hp_bt (hp_q p k (-1)) (2 ^ hp_H p) hand i).1
        · rw [if_pos hst]
          have e := hp_bt_fix (hp_q p k (-1)) hst (n - i)
          rw [show i + (n - i) = n by omega] at e
          have e2 := hp_bt_go (hp_q p k (-1)) i hgo
          have hk3 := hk1 k n (by omega) rfl rfl hn1 hn S3 he4 (hx_rs_eqv he3 (by decide) (by decide) (by decide) (by decide) hr2) (hQs S2 S3 (hd_eqv_sub he3 (by decide)) hQ2)
          rw [e, e2] at hk3
          exact hk3 hs3
        · rw [if_neg hst]
          refine hK _ _ ⟨hd_eqv_w he3 (by decide), ?_, fun j hj => ?_, _, rfl⟩
          · rw [hd_wI1, if_pos ⟨rfl, rfl⟩]
            simp only [hp_bt]
            rw [if_neg hst]
          · by_cases hji : j = i
            · subst hji
              exact hst
            · exact hgo j (by omega)
      · rintro ρ S3 K ⟨he3, hs3, hgo, x, rfl⟩
        have he4 : hd_eqv (0 :: hx_cs) S S3 := hd_eqv_tr (hd_eqv_sub he2 (by decide)) (hd_eqv_sub he3 (by decide))
        simp only [wc_X8_better_31, hd_mth, hd_rho0, hd_args, hd_wide, hd_sQ, hd_s0, hd_sI, hd_sJ, hd_sR, hd_sP, hd_sF, hd_sZ, hd_sG, hd_sA, hd_sL, hd_sB, hd_sO, hd_sN, hd_sD, hd_sW, hd_sE, hd_sRI, hd_sRZ, hd_sRJ, hd_sRR, hd_sRV, hd_sSw, hd_sw, hd_sCI, hd_sCL, hd_iK, hd_iL, hd_iU, hd_iB, hd_iD, hd_iJ, hd_iG, hd_iA, hd_iQ, hd_iC, hd_iN, hd_iE, hd_jK, hd_jL, hd_jU, hd_jB, hd_jD, hd_jH, hd_jI, hd_jA, hd_jQ, hd_jN, hd_rL, hd_rG, hd_rA, hd_rN, hd_cI, hd_c0, hd_cJ, hd_cX, hd_cA, hd_cO, hd_v0, hd_pI, hd_pJ, hd_pR, hd_nV, hd_nS, hd_get, hd_st, hd_stW, hd_cut, List.replicate, List.length_cons, List.length_nil, List.nil_append, List.cons_append, Nat.reduceAdd, Nat.reduceSub, Nat.reduceLeDiff, true_and, and_true, if_true, if_false, Bool.false_eq_true, List.append_nil, hs_o_0, hs_r_0_0, hs_t_0_0, hs_r_0_1, hs_t_0_1, hs_r_0_2, hs_t_0_2, hs_r_0_3, hs_t_0_3, hs_r_0_4, hs_t_0_4, hs_r_0_5, hs_t_0_5, hs_r_0_6, hs_t_0_6, hs_r_0_7, hs_t_0_7, hs_f_0_8, hs_o_1, hs_f_1_0, hs_f_1_1, hs_r_1_2, hs_t_1_2, hs_r_1_3, hs_t_1_3, hs_r_1_4, hs_t_1_4, hs_r_1_5, hs_t_1_5, hs_r_1_6, hs_t_1_6, hs_r_1_7, hs_t_1_7, hs_r_1_8, hs_t_1_8, hs_r_1_9, hs_t_1_9, hs_i_2, hs_i_3, hs_i_4, hs_i_5, hs_i_6, hs_i_7, hs_i_8, hs_i_9, hs_o_82, hs_r_82_0, hs_t_82_0, hs_f_82_1, hs_i_83, hs_o_84, hs_r_84_0, hs_t_84_0, hs_r_84_1, hs_t_84_1, hs_r_84_2, hs_t_84_2, hs_r_84_3, hs_t_84_3, hs_f_84_4, hs_i_85, hs_i_86, hs_i_87, hs_o_88, hs_r_88_0, hs_t_88_0, hs_r_88_1, hs_t_88_1, hs_r_88_2, hs_t_88_2, hs_r_88_3, hs_t_88_3, hs_r_88_4, hs_t_88_4, hs_r_88_5, hs_t_88_5, hs_r_88_6, hs_t_88_6, hs_r_88_7, hs_t_88_7, hs_f_88_8, hs_f_88_9, hs_i_89, hs_i_90, hs_i_91, hs_i_92, hs_i_93, hs_i_94, hs_i_95, hs_i_96, hs_i_97, hs_i_98, hs_i_99, hs_i_100, hs_i_101, hs_i_102, hs_o_103, hs_r_103_0, hs_t_103_0, hs_r_103_1, hs_t_103_1, hs_r_103_2, hs_t_103_2, hs_r_103_3, hs_t_103_3, hs_f_103_4, hs_i_104, hs_o_105, hs_r_105_0, hs_t_105_0, hs_r_105_1, hs_t_105_1, hs_r_105_2, hs_t_105_2, hs_i_106, hs_i_107, hs_o_108, hs_r_108_0, hs_t_108_0, hs_r_108_1, hs_t_108_1, hs_r_108_2, hs_t_108_2, hs_r_108_3, hs_t_108_3, hs_f_108_4, hs_i_109, hs_i_110, hs_o_111, hs_r_111_0, hs_t_111_0, hs_r_111_1, hs_t_111_1, hs_f_111_2, hs_f_111_3, hs_f_111_4, hs_i_112, hs_o_113, hs_f_113_0, hs_f_113_1, hs_f_113_2, hs_r_113_3, hs_t_113_3, hs_r_113_4, hs_t_113_4, hs_r_113_5, hs_t_113_5, hs_r_113_6, hs_t_113_6, hs_r_113_7, hs_t_113_7, hs_r_113_8, hs_t_113_8, hs_r_113_9, hs_t_113_9, hs_r_113_10, hs_t_113_10, hs_r_113_11, hs_t_113_11, hs_f_113_12, hs_f_113_13, hs_f_113_14, hs_r_113_15, hs_t_113_15, hs_f_113_16, hs_r_113_17, hs_t_113_17, hs_r_113_18, hs_t_113_18, hs_r_113_19, hs_t_113_19, hs_r_113_20, hs_t_113_20, hs_f_113_21, hs_f_113_22, hs_f_113_23, hs_r_113_24, hs_t_113_24, hs_f_113_25, hs_r_113_26, hs_t_113_26, hs_f_113_27, hs_i_114, hs_i_115, hs_i_116, hs_i_117, hs_i_118, hs_i_119, hs_i_120, hs_i_121, hs_i_122, hs_i_123, hs_i_124, hs_i_125, hs_i_126, hs_i_127, hs_i_128, hs_i_129, Int32.lt_irrefl, decide_false]
        have hk3 := hk1 k n (by omega) rfl rfl hn1 hn S3 he4 (hx_rs_eqv he3 (by decide) (by decide) (by decide) (by decide) hr2) (hQs S2 S3 (hd_eqv_sub he3 (by decide)) hQ2) hs3
        rw [hp_bt_go (hp_q p k (-1)) n hgo] at hk3
        exact hk3
    · simp only [hq, hq2, and_self, not_true, if_false, not_false_iff, if_true]
      exact hk2 (fun q => hq2 q.2)
  · simp only [hq, not_false_iff, if_true]
    exact hk2 (fun q => hq q.1)
