/-! the reference's rooms: the least sums -/
def hp_Dl (s h : Nat) : Nat → Bool := fun a => decide (a < h) && s.testBit a
theorem hg_tb_low {p : hp_P} (hp : hp_ok p) {s h m v : Nat} (hh : h ≤ hp_H p) (ht : hg_tb (hp_T p) (hp_cr p) (hp_ro p) (hp_w2 p) 2000000000 (hp_Dl s h) m v) : v = 2000000000 ∨ v ≤ 160000000 := by
  rcases ht.2.1 with q | ⟨f, hf, hw⟩
  · exact Or.inl q
  · refine Or.inr ?_
    rw [← hw]
    have h1 : hg_w (hp_T p) (hp_w2 p) m f ≤ hp_T p * 20000000 := by
      refine fb_sm_bound (fun t ht => ?_)
      by_cases hb : m.testBit t = true
      · have hD := hf.1 t ht hb
        have : f t < h ∧ s.testBit (f t) = true := by simpa [hp_Dl] using hD
        simp only [hb, if_true]
        exact hp_w2_le hp (show f t < hp_H p by omega) (by have := hp.1; omega)
      · simp [hb]
    exact Nat.le_trans h1 (Nat.le_trans (Nat.mul_le_mul_right _ hp.1) (by decide))
theorem hp_w2_sum {p : hp_P} (hp : hp_ok p) {h : Nat} (hh : h < hp_H p) (m : Nat) : ∀ n, n ≤ 8 → fb_sm (fun t => if m.testBit t = true then hp_w2 p h t else 0) n ≤ n * 20000000 := fun n hn => by
  refine fb_sm_bound (fun t ht => ?_)
  split
  · exact hp_w2_le hp hh (by omega)
  · exact Nat.zero_le _
/-- a heap's way to a hall, or none for want of room -/
def hp_hw (p : hp_P) (h u : Nat) : Nat := if hg_pp (hp_T p) (hp_cr p) u ≤ hp_ro p h then hg_w (hp_T p) (hp_w2 p) u (fun _ => h) else 2000000000
theorem hp_hw_le {p : hp_P} (hp : hp_ok p) {h : Nat} (hh : h < hp_H p) (u : Nat) : hp_hw p h u ≤ 2000000000 ∧ (hp_hw p h u < 2000000000 → hp_hw p h u ≤ 160000000 ∧ hg_pp (hp_T p) (hp_cr p) u ≤ hp_ro p h ∧ hp_hw p h u = hg_w (hp_T p) (hp_w2 p) u (fun _ => h)) := by
  have h1 : hg_w (hp_T p) (hp_w2 p) u (fun _ => h) ≤ 160000000 := Nat.le_trans (hp_w2_sum hp hh u (hp_T p) hp.1) (Nat.le_trans (Nat.mul_le_mul_right _ hp.1) (by decide))
  unfold hp_hw
  by_cases q : hg_pp (hp_T p) (hp_cr p) u ≤ hp_ro p h
  · rw [if_pos q]
    exact ⟨by omega, fun _ => ⟨h1, q, rfl⟩⟩
  · rw [if_neg q]
    exact ⟨Nat.le_refl _, fun r => absurd r (Nat.lt_irrefl _)⟩
theorem hb_lt2e9 {n : Nat} (h : n < 2 ^ 31) : (nI n < (2000000000 : Int32)) ↔ n < 2000000000 := nI_ltI h (by decide)
theorem hb_andn {T m s : Nat} (hm : m < 2 ^ T) (hT : T ≤ 8) (hs : s &&& m = s) : nI m &&& (nI s ^^^ (-1)) = nI (m ^^^ s) := by
  rw [show (-1 : Int32) = nI 4294967295 from rfl, fb_xorI, fa_and]
  congr 1
  apply Nat.eq_of_testBit_eq
  intro i
  have h1 : (s &&& m).testBit i = s.testBit i := by rw [hs]
  rw [Nat.testBit_and] at h1
  rw [Nat.testBit_and, Nat.testBit_xor m]
  by_cases hi : i < T
  · rw [hb_nbit s (by omega)]
    cases hq : m.testBit i <;> cases hq2 : s.testBit i <;> simp [hq, hq2] at h1 ⊢
  · have hmi := hp_hi hm (show T ≤ i by omega)
    rw [hmi] at h1 ⊢
    simp at h1
    simp [h1]
set_option maxHeartbeats 16000000 in
/-- one hall's heaps -/
theorem sp_heapWay {S : hd_S} {p : hp_P} (hp : hp_ok p) (hm : hm_P S p) {h : Nat} (hh : h < hp_H p) (a b : Int32) (x y z : hd_V) {nrm : List hd_V → hd_S → Prop} {ret : Option hd_V → hd_S → Prop}
    (hk : ∀ S2, hd_eqx [125] S S2 → (∀ u, u < 2 ^ hp_T p → S2.1 125 u = nI (hp_hw p h u)) → ∀ x y z, nrm [hd_vR 113, hd_vI a, hd_vI (nI (2 ^ hp_T p - 1)), hd_vI (nI h), hd_vI (nI (2 ^ hp_T p)), x, y, z] S2) : hd_sH wc_X9_roomedOf_55 wb_X9_roomedOf_55 [hd_vR 113, hd_vI a, hd_vI (nI (2 ^ hp_T p - 1)), hd_vI (nI h), hd_vI (nI 0), x, y, z] S nrm ret := by
  have hT : hp_T p ≤ 8 := hp.1
  have hH : hp_H p ≤ 7 := hp.2.1
  have h256 : 2 ^ hp_T p ≤ 256 := Nat.pow_le_pow_right (n := 2) (by decide) hT
  have hpos : 0 < 2 ^ hp_T p := Nat.two_pow_pos _
  refine hd_up (fun n ρ S2 => hd_eqx [125] S S2 ∧ (∀ u, u < n → S2.1 125 u = nI (hp_hw p h u)) ∧ ∃ x y z : hd_V, ρ = [hd_vR 113, hd_vI a, hd_vI (nI (2 ^ hp_T p - 1)), hd_vI (nI h), hd_vI (nI n), x, y, z]) (2 ^ hp_T p) ?_ ?_ (Nat.zero_le _) ⟨hd_eqx_rf _ _, fun u hu => by omega, x, y, z, rfl⟩
  · rintro n ρ S2 K hn ⟨he, hw, x2, y2, z2, rfl⟩ hK
    have hm2 : hm_P S2 p := hm_P_eqx he (by decide) hm
    have hm21 : S2.1 113 1 = nI (hp_T p) := hm2.1
    have hro : S2.1 118 h = nI (hp_ro p h) := hm2.2.2.2.2.2.2.1 h (by omega)
    have l2 := hp.2.2.2.2.2.2.2.1 h
    simp only [wc_X9_roomedOf_55, wb_X9_roomedOf_55, hd_mth, hd_rho0, hd_args, hd_wide, hq_sQ, hd_s0, hq_sI, hq_sJ, hd_sR, hd_sP, hd_sF, hd_sZ, hd_sG, hd_sA, hd_sL, hd_sB, hd_sO, hd_sN, hd_sD, hd_sW, hd_sE, hd_sRI, hd_sRZ, hd_sRJ, hd_sRR, hd_sRV, hd_sSw, hd_sw, hd_sCI, hd_sCL, hd_iK, hd_iL, hd_iU, hd_iB, hd_iD, hd_iJ, hd_iG, hd_iA, hd_iQ, hd_iC, hd_iN, hd_iE, hd_jK, hd_jL, hd_jU, hd_jB, hd_jD, hd_jH, hd_jI, hd_jA, hd_jQ, hd_jN, hd_rL, hd_rG, hd_rA, hd_rN, hd_cI, hd_c0, hd_cJ, hd_cX, hd_cA, hd_cO, hd_v0, hd_pI, hd_pJ, hd_pR, hd_nV, hd_nS, hd_get, hd_st, hd_stW, hd_cut, List.replicate, List.length_cons, List.length_nil, List.nil_append, List.cons_append, Nat.reduceAdd, Nat.reduceSub, Nat.reduceLeDiff, true_and, and_true, if_true, if_false, Bool.false_eq_true, List.append_nil, hs_o_0, hs_r_0_0, hs_t_0_0, hs_r_0_1, hs_t_0_1, hs_r_0_2, hs_t_0_2, hs_r_0_3, hs_t_0_3, hs_r_0_4, hs_t_0_4, hs_r_0_5, hs_t_0_5, hs_r_0_6, hs_t_0_6, hs_r_0_7, hs_t_0_7, hs_f_0_8, hs_o_1, hs_f_1_0, hs_f_1_1, hs_r_1_2, hs_t_1_2, hs_r_1_3, hs_t_1_3, hs_r_1_4, hs_t_1_4, hs_r_1_5, hs_t_1_5, hs_r_1_6, hs_t_1_6, hs_r_1_7, hs_t_1_7, hs_r_1_8, hs_t_1_8, hs_r_1_9, hs_t_1_9, hs_i_2, hs_i_3, hs_i_4, hs_i_5, hs_i_6, hs_i_7, hs_i_8, hs_i_9, hs_o_82, hs_r_82_0, hs_t_82_0, hs_f_82_1, hs_i_83, hs_o_84, hs_r_84_0, hs_t_84_0, hs_r_84_1, hs_t_84_1, hs_r_84_2, hs_t_84_2, hs_r_84_3, hs_t_84_3, hs_f_84_4, hs_i_85, hs_i_86, hs_i_87, hs_o_88, hs_r_88_0, hs_t_88_0, hs_r_88_1, hs_t_88_1, hs_r_88_2, hs_t_88_2, hs_r_88_3, hs_t_88_3, hs_r_88_4, hs_t_88_4, hs_r_88_5, hs_t_88_5, hs_r_88_6, hs_t_88_6, hs_r_88_7, hs_t_88_7, hs_f_88_8, hs_f_88_9, hs_i_89, hs_i_90, hs_i_91, hs_i_92, hs_i_93, hs_i_94, hs_i_95, hs_i_96, hs_i_97, hs_i_98, hs_i_99, hs_i_100, hs_i_101, hs_i_102, hs_o_103, hs_r_103_0, hs_t_103_0, hs_r_103_1, hs_t_103_1, hs_r_103_2, hs_t_103_2, hs_r_103_3, hs_t_103_3, hs_f_103_4, hs_i_104, hs_o_105, hs_r_105_0, hs_t_105_0, hs_r_105_1, hs_t_105_1, hs_r_105_2, hs_t_105_2, hs_i_106, hs_i_107, hs_o_108, hs_r_108_0, hs_t_108_0, hs_r_108_1, hs_t_108_1, hs_r_108_2, hs_t_108_2, hs_r_108_3, hs_t_108_3, hs_f_108_4, hs_i_109, hs_i_110, hs_o_111, hs_r_111_0, hs_t_111_0, hs_r_111_1, hs_t_111_1, hs_f_111_2, hs_f_111_3, hs_f_111_4, hs_i_112, hs_o_113, hs_f_113_0, hs_f_113_1, hs_f_113_2, hs_r_113_3, hs_t_113_3, hs_r_113_4, hs_t_113_4, hs_r_113_5, hs_t_113_5, hs_r_113_6, hs_t_113_6, hs_r_113_7, hs_t_113_7, hs_r_113_8, hs_t_113_8, hs_r_113_9, hs_t_113_9, hs_r_113_10, hs_t_113_10, hs_r_113_11, hs_t_113_11, hs_f_113_12, hs_f_113_13, hs_f_113_14, hs_r_113_15, hs_t_113_15, hs_f_113_16, hs_r_113_17, hs_t_113_17, hs_r_113_18, hs_t_113_18, hs_r_113_19, hs_t_113_19, hs_r_113_20, hs_t_113_20, hs_f_113_21, hs_f_113_22, hs_f_113_23, hs_r_113_24, hs_t_113_24, hs_f_113_25, hs_r_113_26, hs_t_113_26, hs_f_113_27, hs_i_114, hs_i_115, hs_i_116, hs_i_117, hs_i_118, hs_i_119, hs_i_120, hs_i_121, hs_i_122, hs_i_123, hs_i_124, hs_i_125, hs_i_126, hs_i_127, hs_i_128, hs_i_129, hb_le (show n < 2 ^ 31 by omega) (show 2 ^ hp_T p - 1 < 2 ^ 31 by omega), show n ≤ 2 ^ hp_T p - 1 by omega, decide_true]
    refine hd_up (fun i ρ S3 => S3 = S2 ∧ ρ = [hd_vR 113, hd_vI a, hd_vI (nI (2 ^ hp_T p - 1)), hd_vI (nI h), hd_vI (nI n), hd_vI (nI (fb_sm (fun t => if n.testBit t = true then hp_cr p t else 0) i)), hd_vI (nI (fb_sm (fun t => if n.testBit t = true then hp_w2 p h t else 0) i)), hd_vI (nI i)]) (hp_T p) ?_ ?_ (Nat.zero_le _) ⟨rfl, rfl⟩
    · rintro i ρ S3 K2 hi ⟨rfl, rfl⟩ hK2
      have hK3 := hK2 _ _ ⟨rfl, rfl⟩
      rw [fb_sm_succ, fb_sm_succ] at hK3
      have hcr : S3.1 114 i = nI (hp_cr p i) := hm2.2.2.1 i (by omega)
      simp only [wc_X9_roomedOf_70, wb_X9_roomedOf_70, hd_mth, hd_rho0, hd_args, hd_wide, hq_sQ, hd_s0, hq_sI, hq_sJ, hd_sR, hd_sP, hd_sF, hd_sZ, hd_sG, hd_sA, hd_sL, hd_sB, hd_sO, hd_sN, hd_sD, hd_sW, hd_sE, hd_sRI, hd_sRZ, hd_sRJ, hd_sRR, hd_sRV, hd_sSw, hd_sw, hd_sCI, hd_sCL, hd_iK, hd_iL, hd_iU, hd_iB, hd_iD, hd_iJ, hd_iG, hd_iA, hd_iQ, hd_iC, hd_iN, hd_iE, hd_jK, hd_jL, hd_jU, hd_jB, hd_jD, hd_jH, hd_jI, hd_jA, hd_jQ, hd_jN, hd_rL, hd_rG, hd_rA, hd_rN, hd_cI, hd_c0, hd_cJ, hd_cX, hd_cA, hd_cO, hd_v0, hd_pI, hd_pJ, hd_pR, hd_nV, hd_nS, hd_get, hd_st, hd_stW, hd_cut, List.replicate, List.length_cons, List.length_nil, List.nil_append, List.cons_append, Nat.reduceAdd, Nat.reduceSub, Nat.reduceLeDiff, true_and, and_true, if_true, if_false, Bool.false_eq_true, List.append_nil, hs_o_0, hs_r_0_0, hs_t_0_0, hs_r_0_1, hs_t_0_1, hs_r_0_2, hs_t_0_2, hs_r_0_3, hs_t_0_3, hs_r_0_4, hs_t_0_4, hs_r_0_5, hs_t_0_5, hs_r_0_6, hs_t_0_6, hs_r_0_7, hs_t_0_7, hs_f_0_8, hs_o_1, hs_f_1_0, hs_f_1_1, hs_r_1_2, hs_t_1_2, hs_r_1_3, hs_t_1_3, hs_r_1_4, hs_t_1_4, hs_r_1_5, hs_t_1_5, hs_r_1_6, hs_t_1_6, hs_r_1_7, hs_t_1_7, hs_r_1_8, hs_t_1_8, hs_r_1_9, hs_t_1_9, hs_i_2, hs_i_3, hs_i_4, hs_i_5, hs_i_6, hs_i_7, hs_i_8, hs_i_9, hs_o_82, hs_r_82_0, hs_t_82_0, hs_f_82_1, hs_i_83, hs_o_84, hs_r_84_0, hs_t_84_0, hs_r_84_1, hs_t_84_1, hs_r_84_2, hs_t_84_2, hs_r_84_3, hs_t_84_3, hs_f_84_4, hs_i_85, hs_i_86, hs_i_87, hs_o_88, hs_r_88_0, hs_t_88_0, hs_r_88_1, hs_t_88_1, hs_r_88_2, hs_t_88_2, hs_r_88_3, hs_t_88_3, hs_r_88_4, hs_t_88_4, hs_r_88_5, hs_t_88_5, hs_r_88_6, hs_t_88_6, hs_r_88_7, hs_t_88_7, hs_f_88_8, hs_f_88_9, hs_i_89, hs_i_90, hs_i_91, hs_i_92, hs_i_93, hs_i_94, hs_i_95, hs_i_96, hs_i_97, hs_i_98, hs_i_99, hs_i_100, hs_i_101, hs_i_102, hs_o_103, hs_r_103_0, hs_t_103_0, hs_r_103_1, hs_t_103_1, hs_r_103_2, hs_t_103_2, hs_r_103_3, hs_t_103_3, hs_f_103_4, hs_i_104, hs_o_105, hs_r_105_0, hs_t_105_0, hs_r_105_1, hs_t_105_1, hs_r_105_2, hs_t_105_2, hs_i_106, hs_i_107, hs_o_108, hs_r_108_0, hs_t_108_0, hs_r_108_1, hs_t_108_1, hs_r_108_2, hs_t_108_2, hs_r_108_3, hs_t_108_3, hs_f_108_4, hs_i_109, hs_i_110, hs_o_111, hs_r_111_0, hs_t_111_0, hs_r_111_1, hs_t_111_1, hs_f_111_2, hs_f_111_3, hs_f_111_4, hs_i_112, hs_o_113, hs_f_113_0, hs_f_113_1, hs_f_113_2, hs_r_113_3, hs_t_113_3, hs_r_113_4, hs_t_113_4, hs_r_113_5, hs_t_113_5, hs_r_113_6, hs_t_113_6, hs_r_113_7, hs_t_113_7, hs_r_113_8, hs_t_113_8, hs_r_113_9, hs_t_113_9, hs_r_113_10, hs_t_113_10, hs_r_113_11, hs_t_113_11, hs_f_113_12, hs_f_113_13, hs_f_113_14, hs_r_113_15, hs_t_113_15, hs_f_113_16, hs_r_113_17, hs_t_113_17, hs_r_113_18, hs_t_113_18, hs_r_113_19, hs_t_113_19, hs_r_113_20, hs_t_113_20, hs_f_113_21, hs_f_113_22, hs_f_113_23, hs_r_113_24, hs_t_113_24, hs_f_113_25, hs_r_113_26, hs_t_113_26, hs_f_113_27, hs_i_114, hs_i_115, hs_i_116, hs_i_117, hs_i_118, hs_i_119, hs_i_120, hs_i_121, hs_i_122, hs_i_123, hs_i_124, hs_i_125, hs_i_126, hs_i_127, hs_i_128, hs_i_129, hm21, nI_ltI (show i < 2 ^ 31 by omega) (show hp_T p < 2 ^ 31 by omega), hi, decide_true, sp_X9_has, hb_t (show n < 2 ^ 31 by omega) (show i < 31 by omega), hd_t01, decide_eq_true_eq, vp_in_nI (show i < 8 by omega) (show 8 < 2 ^ 31 by decide), hd_cc (show i < 2147483648 by omega), hcr, nI_1]
      by_cases hb : n.testBit i = true
      · simp only [hb, if_true, sp_X9_wayOf hp hm2 hh (show i < 8 by omega), pk_mul, nI_add, true_and] at hK3 ⊢
        exact hK3
      · simp only [hb, if_false, Bool.false_eq_true, show (0 : Int32) = nI 0 from rfl, nI_add] at hK3 ⊢
        exact hK3
    · rintro ρ S3 K2 ⟨rfl, rfl⟩
      have l1 := hg_pp_le hp n
      have e1 : fb_sm (fun t => if n.testBit t = true then hp_cr p t else 0) (hp_T p) = hg_pp (hp_T p) (hp_cr p) n := rfl
      have e2 : fb_sm (fun t => if n.testBit t = true then hp_w2 p h t else 0) (hp_T p) = hg_w (hp_T p) (hp_w2 p) n (fun _ => h) := rfl
      rw [e1, e2]
      simp only [wc_X9_roomedOf_70, hd_mth, hd_rho0, hd_args, hd_wide, hq_sQ, hd_s0, hq_sI, hq_sJ, hd_sR, hd_sP, hd_sF, hd_sZ, hd_sG, hd_sA, hd_sL, hd_sB, hd_sO, hd_sN, hd_sD, hd_sW, hd_sE, hd_sRI, hd_sRZ, hd_sRJ, hd_sRR, hd_sRV, hd_sSw, hd_sw, hd_sCI, hd_sCL, hd_iK, hd_iL, hd_iU, hd_iB, hd_iD, hd_iJ, hd_iG, hd_iA, hd_iQ, hd_iC, hd_iN, hd_iE, hd_jK, hd_jL, hd_jU, hd_jB, hd_jD, hd_jH, hd_jI, hd_jA, hd_jQ, hd_jN, hd_rL, hd_rG, hd_rA, hd_rN, hd_cI, hd_c0, hd_cJ, hd_cX, hd_cA, hd_cO, hd_v0, hd_pI, hd_pJ, hd_pR, hd_nV, hd_nS, hd_get, hd_st, hd_stW, hd_cut, List.replicate, List.length_cons, List.length_nil, List.nil_append, List.cons_append, Nat.reduceAdd, Nat.reduceSub, Nat.reduceLeDiff, true_and, and_true, if_true, if_false, Bool.false_eq_true, List.append_nil, hs_o_0, hs_r_0_0, hs_t_0_0, hs_r_0_1, hs_t_0_1, hs_r_0_2, hs_t_0_2, hs_r_0_3, hs_t_0_3, hs_r_0_4, hs_t_0_4, hs_r_0_5, hs_t_0_5, hs_r_0_6, hs_t_0_6, hs_r_0_7, hs_t_0_7, hs_f_0_8, hs_o_1, hs_f_1_0, hs_f_1_1, hs_r_1_2, hs_t_1_2, hs_r_1_3, hs_t_1_3, hs_r_1_4, hs_t_1_4, hs_r_1_5, hs_t_1_5, hs_r_1_6, hs_t_1_6, hs_r_1_7, hs_t_1_7, hs_r_1_8, hs_t_1_8, hs_r_1_9, hs_t_1_9, hs_i_2, hs_i_3, hs_i_4, hs_i_5, hs_i_6, hs_i_7, hs_i_8, hs_i_9, hs_o_82, hs_r_82_0, hs_t_82_0, hs_f_82_1, hs_i_83, hs_o_84, hs_r_84_0, hs_t_84_0, hs_r_84_1, hs_t_84_1, hs_r_84_2, hs_t_84_2, hs_r_84_3, hs_t_84_3, hs_f_84_4, hs_i_85, hs_i_86, hs_i_87, hs_o_88, hs_r_88_0, hs_t_88_0, hs_r_88_1, hs_t_88_1, hs_r_88_2, hs_t_88_2, hs_r_88_3, hs_t_88_3, hs_r_88_4, hs_t_88_4, hs_r_88_5, hs_t_88_5, hs_r_88_6, hs_t_88_6, hs_r_88_7, hs_t_88_7, hs_f_88_8, hs_f_88_9, hs_i_89, hs_i_90, hs_i_91, hs_i_92, hs_i_93, hs_i_94, hs_i_95, hs_i_96, hs_i_97, hs_i_98, hs_i_99, hs_i_100, hs_i_101, hs_i_102, hs_o_103, hs_r_103_0, hs_t_103_0, hs_r_103_1, hs_t_103_1, hs_r_103_2, hs_t_103_2, hs_r_103_3, hs_t_103_3, hs_f_103_4, hs_i_104, hs_o_105, hs_r_105_0, hs_t_105_0, hs_r_105_1, hs_t_105_1, hs_r_105_2, hs_t_105_2, hs_i_106, hs_i_107, hs_o_108, hs_r_108_0, hs_t_108_0, hs_r_108_1, hs_t_108_1, hs_r_108_2, hs_t_108_2, hs_r_108_3, hs_t_108_3, hs_f_108_4, hs_i_109, hs_i_110, hs_o_111, hs_r_111_0, hs_t_111_0, hs_r_111_1, hs_t_111_1, hs_f_111_2, hs_f_111_3, hs_f_111_4, hs_i_112, hs_o_113, hs_f_113_0, hs_f_113_1, hs_f_113_2, hs_r_113_3, hs_t_113_3, hs_r_113_4, hs_t_113_4, hs_r_113_5, hs_t_113_5, hs_r_113_6, hs_t_113_6, hs_r_113_7, hs_t_113_7, hs_r_113_8, hs_t_113_8, hs_r_113_9, hs_t_113_9, hs_r_113_10, hs_t_113_10, hs_r_113_11, hs_t_113_11, hs_f_113_12, hs_f_113_13, hs_f_113_14, hs_r_113_15, hs_t_113_15, hs_f_113_16, hs_r_113_17, hs_t_113_17, hs_r_113_18, hs_t_113_18, hs_r_113_19, hs_t_113_19, hs_r_113_20, hs_t_113_20, hs_f_113_21, hs_f_113_22, hs_f_113_23, hs_r_113_24, hs_t_113_24, hs_f_113_25, hs_r_113_26, hs_t_113_26, hs_f_113_27, hs_i_114, hs_i_115, hs_i_116, hs_i_117, hs_i_118, hs_i_119, hs_i_120, hs_i_121, hs_i_122, hs_i_123, hs_i_124, hs_i_125, hs_i_126, hs_i_127, hs_i_128, hs_i_129, hm21, Int32.lt_irrefl, decide_false, vp_in_nI (show h < 7 by omega) (show 7 < 2 ^ 31 by decide), hd_cc (show h < 2147483648 by omega), hro, vp_in_nI (show n < 256 by omega) (show 256 < 2 ^ 31 by decide), hd_cc (show n < 2147483648 by omega), hb_le (show hg_pp (hp_T p) (hp_cr p) n < 2 ^ 31 by omega) (show hp_ro p h < 2 ^ 31 by omega), decide_eq_true_eq, nI_1]
      have fin : ∀ v : Nat, v = hp_hw p h n → K [hd_vR 113, hd_vI a, hd_vI (nI (2 ^ hp_T p - 1)), hd_vI (nI h), hd_vI (nI (n + 1)), hd_vI (nI (hg_pp (hp_T p) (hp_cr p) n)), hd_vI (nI (hg_w (hp_T p) (hp_w2 p) n (fun _ => h))), hd_vI (nI (hp_T p))] (hd_wI S3 125 n (nI v)) := by
        intro v hv
        refine hK _ _ ⟨hd_eqx_w he (by decide), fun u hu => ?_, _, _, _, rfl⟩
        rw [hd_wI1]
        by_cases hun : u = n
        · rw [if_pos ⟨rfl, hun⟩, hun, hv]
        · rw [if_neg (fun q => hun q.2)]
          exact hw u (by omega)
      by_cases hf : hg_pp (hp_T p) (hp_cr p) n ≤ hp_ro p h
      · simp only [hf, if_true]
        exact fin _ (by unfold hp_hw; rw [if_pos hf])
      · simp only [hf, if_false]
        exact fin 2000000000 (by unfold hp_hw; rw [if_neg hf])
  · rintro ρ S2 K ⟨he, hw, x2, y2, z2, rfl⟩
    simp only [wc_X9_roomedOf_55, hd_mth, hd_rho0, hd_args, hd_wide, hq_sQ, hd_s0, hq_sI, hq_sJ, hd_sR, hd_sP, hd_sF, hd_sZ, hd_sG, hd_sA, hd_sL, hd_sB, hd_sO, hd_sN, hd_sD, hd_sW, hd_sE, hd_sRI, hd_sRZ, hd_sRJ, hd_sRR, hd_sRV, hd_sSw, hd_sw, hd_sCI, hd_sCL, hd_iK, hd_iL, hd_iU, hd_iB, hd_iD, hd_iJ, hd_iG, hd_iA, hd_iQ, hd_iC, hd_iN, hd_iE, hd_jK, hd_jL, hd_jU, hd_jB, hd_jD, hd_jH, hd_jI, hd_jA, hd_jQ, hd_jN, hd_rL, hd_rG, hd_rA, hd_rN, hd_cI, hd_c0, hd_cJ, hd_cX, hd_cA, hd_cO, hd_v0, hd_pI, hd_pJ, hd_pR, hd_nV, hd_nS, hd_get, hd_st, hd_stW, hd_cut, List.replicate, List.length_cons, List.length_nil, List.nil_append, List.cons_append, Nat.reduceAdd, Nat.reduceSub, Nat.reduceLeDiff, true_and, and_true, if_true, if_false, Bool.false_eq_true, List.append_nil, hs_o_0, hs_r_0_0, hs_t_0_0, hs_r_0_1, hs_t_0_1, hs_r_0_2, hs_t_0_2, hs_r_0_3, hs_t_0_3, hs_r_0_4, hs_t_0_4, hs_r_0_5, hs_t_0_5, hs_r_0_6, hs_t_0_6, hs_r_0_7, hs_t_0_7, hs_f_0_8, hs_o_1, hs_f_1_0, hs_f_1_1, hs_r_1_2, hs_t_1_2, hs_r_1_3, hs_t_1_3, hs_r_1_4, hs_t_1_4, hs_r_1_5, hs_t_1_5, hs_r_1_6, hs_t_1_6, hs_r_1_7, hs_t_1_7, hs_r_1_8, hs_t_1_8, hs_r_1_9, hs_t_1_9, hs_i_2, hs_i_3, hs_i_4, hs_i_5, hs_i_6, hs_i_7, hs_i_8, hs_i_9, hs_o_82, hs_r_82_0, hs_t_82_0, hs_f_82_1, hs_i_83, hs_o_84, hs_r_84_0, hs_t_84_0, hs_r_84_1, hs_t_84_1, hs_r_84_2, hs_t_84_2, hs_r_84_3, hs_t_84_3, hs_f_84_4, hs_i_85, hs_i_86, hs_i_87, hs_o_88, hs_r_88_0, hs_t_88_0, hs_r_88_1, hs_t_88_1, hs_r_88_2, hs_t_88_2, hs_r_88_3, hs_t_88_3, hs_r_88_4, hs_t_88_4, hs_r_88_5, hs_t_88_5, hs_r_88_6, hs_t_88_6, hs_r_88_7, hs_t_88_7, hs_f_88_8, hs_f_88_9, hs_i_89, hs_i_90, hs_i_91, hs_i_92, hs_i_93, hs_i_94, hs_i_95, hs_i_96, hs_i_97, hs_i_98, hs_i_99, hs_i_100, hs_i_101, hs_i_102, hs_o_103, hs_r_103_0, hs_t_103_0, hs_r_103_1, hs_t_103_1, hs_r_103_2, hs_t_103_2, hs_r_103_3, hs_t_103_3, hs_f_103_4, hs_i_104, hs_o_105, hs_r_105_0, hs_t_105_0, hs_r_105_1, hs_t_105_1, hs_r_105_2, hs_t_105_2, hs_i_106, hs_i_107, hs_o_108, hs_r_108_0, hs_t_108_0, hs_r_108_1, hs_t_108_1, hs_r_108_2, hs_t_108_2, hs_r_108_3, hs_t_108_3, hs_f_108_4, hs_i_109, hs_i_110, hs_o_111, hs_r_111_0, hs_t_111_0, hs_r_111_1, hs_t_111_1, hs_f_111_2, hs_f_111_3, hs_f_111_4, hs_i_112, hs_o_113, hs_f_113_0, hs_f_113_1, hs_f_113_2, hs_r_113_3, hs_t_113_3, hs_r_113_4, hs_t_113_4, hs_r_113_5, hs_t_113_5, hs_r_113_6, hs_t_113_6, hs_r_113_7, hs_t_113_7, hs_r_113_8, hs_t_113_8, hs_r_113_9, hs_t_113_9, hs_r_113_10, hs_t_113_10, hs_r_113_11, hs_t_113_11, hs_f_113_12, hs_f_113_13, hs_f_113_14, hs_r_113_15, hs_t_113_15, hs_f_113_16, hs_r_113_17, hs_t_113_17, hs_r_113_18, hs_t_113_18, hs_r_113_19, hs_t_113_19, hs_r_113_20, hs_t_113_20, hs_f_113_21, hs_f_113_22, hs_f_113_23, hs_r_113_24, hs_t_113_24, hs_f_113_25, hs_r_113_26, hs_t_113_26, hs_f_113_27, hs_i_114, hs_i_115, hs_i_116, hs_i_117, hs_i_118, hs_i_119, hs_i_120, hs_i_121, hs_i_122, hs_i_123, hs_i_124, hs_i_125, hs_i_126, hs_i_127, hs_i_128, hs_i_129, hb_le (show 2 ^ hp_T p < 2 ^ 31 by omega) (show 2 ^ hp_T p - 1 < 2 ^ 31 by omega), show ¬ (2 ^ hp_T p ≤ 2 ^ hp_T p - 1) by omega, decide_false]
    exact hk S2 he hw _ _ _
set_option maxHeartbeats 16000000 in
/-- one hall's update of all heaps, from the greatest down -/
theorem sp_housed {S : hd_S} {p : hp_P} (hp : hp_ok p) {h s : Nat} (hh : h < hp_H p) (hb : s.testBit h = true) {B : Nat → Nat} (hB : ∀ m, m < 2 ^ hp_T p → S.1 124 m = nI (B m) ∧ hg_tb (hp_T p) (hp_cr p) (hp_ro p) (hp_w2 p) 2000000000 (hp_Dl s h) m (B m)) (hw : ∀ u, u < 2 ^ hp_T p → S.1 125 u = nI (hp_hw p h u)) (a b : Int32) (x y z : hd_V) {nrm : List hd_V → hd_S → Prop} {ret : Option hd_V → hd_S → Prop}
    (hk : ∀ S2, hd_eqx [124] S S2 → (∀ m, m < 2 ^ hp_T p → ∃ v, S2.1 124 m = nI v ∧ hg_tb (hp_T p) (hp_cr p) (hp_ro p) (hp_w2 p) 2000000000 (hp_Dl s (h + 1)) m v) → ∀ w x y z, nrm [hd_vR 113, hd_vI a, hd_vI b, hd_vI (nI h), w, x, y, z] S2) : hd_sH wc_X9_roomedOf_179 wb_X9_roomedOf_179 [hd_vR 113, hd_vI a, hd_vI b, hd_vI (nI h), hd_vI (nI (2 ^ hp_T p - 1)), x, y, z] S nrm ret := by
  have hT : hp_T p ≤ 8 := hp.1
  have hH : hp_H p ≤ 7 := hp.2.1
  have h256 : 2 ^ hp_T p ≤ 256 := Nat.pow_le_pow_right (n := 2) (by decide) hT
  have hpos : 0 < 2 ^ hp_T p := Nat.two_pow_pos _
  have hBl : ∀ m, m < 2 ^ hp_T p → B m = 2000000000 ∨ B m ≤ 160000000 := fun m hm => hg_tb_low hp (by omega) (hB m hm).2
  have hBW : ∀ m, m < 2 ^ hp_T p → B m ≤ 2000000000 := fun m hm => (hB m hm).2.1
  have hDh : hp_Dl s h h = false := by
    unfold hp_Dl
    rw [decide_eq_false (Nat.lt_irrefl h)]
    rfl
  have hE : ∀ c, hp_Dl s (h + 1) c = (hp_Dl s h c || decide (c = h)) := by
    intro c
    unfold hp_Dl
    by_cases hc : c = h
    · subst hc
      simp [hb]
    · have : (c < h + 1) = (c < h) := propext (by omega)
      simp [hc, this]
  -- m: those above are done
  refine hd_dn (fun m ρ S2 => m < 2 ^ hp_T p ∧ hd_eqx [124] S S2 ∧ (∀ q, q < 2 ^ hp_T p → q ≤ m → S2.1 124 q = nI (B q)) ∧ (∀ q, q < 2 ^ hp_T p → m < q → ∃ v, S2.1 124 q = nI v ∧ hg_tb (hp_T p) (hp_cr p) (hp_ro p) (hp_w2 p) 2000000000 (hp_Dl s (h + 1)) q v) ∧ ∃ x y z : hd_V, ρ = [hd_vR 113, hd_vI a, hd_vI b, hd_vI (nI h), hd_vI (nI m), x, y, z]) ?_ (i0 := 2 ^ hp_T p - 1) ⟨by omega, hd_eqx_rf _ _, fun q hq _ => (hB q hq).1, fun q hq h1 => by omega, x, y, z, rfl⟩
  rintro m ρ S2 K ⟨hmT, he, hlow, hup, x2, y2, z2, rfl⟩ hK
  by_cases hm0 : 0 < m
  · simp only [wc_X9_roomedOf_179, wb_X9_roomedOf_179, hd_mth, hd_rho0, hd_args, hd_wide, hq_sQ, hd_s0, hq_sI, hq_sJ, hd_sR, hd_sP, hd_sF, hd_sZ, hd_sG, hd_sA, hd_sL, hd_sB, hd_sO, hd_sN, hd_sD, hd_sW, hd_sE, hd_sRI, hd_sRZ, hd_sRJ, hd_sRR, hd_sRV, hd_sSw, hd_sw, hd_sCI, hd_sCL, hd_iK, hd_iL, hd_iU, hd_iB, hd_iD, hd_iJ, hd_iG, hd_iA, hd_iQ, hd_iC, hd_iN, hd_iE, hd_jK, hd_jL, hd_jU, hd_jB, hd_jD, hd_jH, hd_jI, hd_jA, hd_jQ, hd_jN, hd_rL, hd_rG, hd_rA, hd_rN, hd_cI, hd_c0, hd_cJ, hd_cX, hd_cA, hd_cO, hd_v0, hd_pI, hd_pJ, hd_pR, hd_nV, hd_nS, hd_get, hd_st, hd_stW, hd_cut, List.replicate, List.length_cons, List.length_nil, List.nil_append, List.cons_append, Nat.reduceAdd, Nat.reduceSub, Nat.reduceLeDiff, true_and, and_true, if_true, if_false, Bool.false_eq_true, List.append_nil, hs_o_0, hs_r_0_0, hs_t_0_0, hs_r_0_1, hs_t_0_1, hs_r_0_2, hs_t_0_2, hs_r_0_3, hs_t_0_3, hs_r_0_4, hs_t_0_4, hs_r_0_5, hs_t_0_5, hs_r_0_6, hs_t_0_6, hs_r_0_7, hs_t_0_7, hs_f_0_8, hs_o_1, hs_f_1_0, hs_f_1_1, hs_r_1_2, hs_t_1_2, hs_r_1_3, hs_t_1_3, hs_r_1_4, hs_t_1_4, hs_r_1_5, hs_t_1_5, hs_r_1_6, hs_t_1_6, hs_r_1_7, hs_t_1_7, hs_r_1_8, hs_t_1_8, hs_r_1_9, hs_t_1_9, hs_i_2, hs_i_3, hs_i_4, hs_i_5, hs_i_6, hs_i_7, hs_i_8, hs_i_9, hs_o_82, hs_r_82_0, hs_t_82_0, hs_f_82_1, hs_i_83, hs_o_84, hs_r_84_0, hs_t_84_0, hs_r_84_1, hs_t_84_1, hs_r_84_2, hs_t_84_2, hs_r_84_3, hs_t_84_3, hs_f_84_4, hs_i_85, hs_i_86, hs_i_87, hs_o_88, hs_r_88_0, hs_t_88_0, hs_r_88_1, hs_t_88_1, hs_r_88_2, hs_t_88_2, hs_r_88_3, hs_t_88_3, hs_r_88_4, hs_t_88_4, hs_r_88_5, hs_t_88_5, hs_r_88_6, hs_t_88_6, hs_r_88_7, hs_t_88_7, hs_f_88_8, hs_f_88_9, hs_i_89, hs_i_90, hs_i_91, hs_i_92, hs_i_93, hs_i_94, hs_i_95, hs_i_96, hs_i_97, hs_i_98, hs_i_99, hs_i_100, hs_i_101, hs_i_102, hs_o_103, hs_r_103_0, hs_t_103_0, hs_r_103_1, hs_t_103_1, hs_r_103_2, hs_t_103_2, hs_r_103_3, hs_t_103_3, hs_f_103_4, hs_i_104, hs_o_105, hs_r_105_0, hs_t_105_0, hs_r_105_1, hs_t_105_1, hs_r_105_2, hs_t_105_2, hs_i_106, hs_i_107, hs_o_108, hs_r_108_0, hs_t_108_0, hs_r_108_1, hs_t_108_1, hs_r_108_2, hs_t_108_2, hs_r_108_3, hs_t_108_3, hs_f_108_4, hs_i_109, hs_i_110, hs_o_111, hs_r_111_0, hs_t_111_0, hs_r_111_1, hs_t_111_1, hs_f_111_2, hs_f_111_3, hs_f_111_4, hs_i_112, hs_o_113, hs_f_113_0, hs_f_113_1, hs_f_113_2, hs_r_113_3, hs_t_113_3, hs_r_113_4, hs_t_113_4, hs_r_113_5, hs_t_113_5, hs_r_113_6, hs_t_113_6, hs_r_113_7, hs_t_113_7, hs_r_113_8, hs_t_113_8, hs_r_113_9, hs_t_113_9, hs_r_113_10, hs_t_113_10, hs_r_113_11, hs_t_113_11, hs_f_113_12, hs_f_113_13, hs_f_113_14, hs_r_113_15, hs_t_113_15, hs_f_113_16, hs_r_113_17, hs_t_113_17, hs_r_113_18, hs_t_113_18, hs_r_113_19, hs_t_113_19, hs_r_113_20, hs_t_113_20, hs_f_113_21, hs_f_113_22, hs_f_113_23, hs_r_113_24, hs_t_113_24, hs_f_113_25, hs_r_113_26, hs_t_113_26, hs_f_113_27, hs_i_114, hs_i_115, hs_i_116, hs_i_117, hs_i_118, hs_i_119, hs_i_120, hs_i_121, hs_i_122, hs_i_123, hs_i_124, hs_i_125, hs_i_126, hs_i_127, hs_i_128, hs_i_129, hb_0lt (show m < 2 ^ 31 by omega), hm0, decide_true]
    refine hd_dn (fun u ρ S3 => u &&& m = u ∧ hd_eqx [124] S S3 ∧ (∀ q, q < 2 ^ hp_T p → q ≠ m → S3.1 124 q = S2.1 124 q) ∧ (∃ v, S3.1 124 m = nI v ∧ v ≤ B m ∧ (∀ w r, u < w → w < 2 ^ hp_T p → r < 2 ^ hp_T p → w ≠ 0 → hg_pt (hp_T p) m w r → hg_pp (hp_T p) (hp_cr p) w ≤ hp_ro p h → v ≤ hg_w (hp_T p) (hp_w2 p) w (fun _ => h) + B r) ∧ (v = B m ∨ ∃ w r, r < 2 ^ hp_T p ∧ hg_pt (hp_T p) m w r ∧ hg_pp (hp_T p) (hp_cr p) w ≤ hp_ro p h ∧ v = hg_w (hp_T p) (hp_w2 p) w (fun _ => h) + B r)) ∧ ∃ y z : hd_V, ρ = [hd_vR 113, hd_vI a, hd_vI b, hd_vI (nI h), hd_vI (nI m), hd_vI (nI u), y, z]) ?_ (i0 := m) ⟨Nat.and_self _, he, fun _ _ _ => rfl, ⟨B m, hlow m hmT (Nat.le_refl _), Nat.le_refl _, fun w r hw hwT hrT _ hpt => by
        have := (hg_pt_un hmT hwT hrT hpt).1
        have h9 : m &&& w ≤ m := Nat.and_le_left
        omega, Or.inl rfl⟩, _, _, rfl⟩
    rintro u ρ S3 K2 ⟨hus, he3, hoth, ⟨v, hv, hvB, hmin, hor⟩, y3, z3, rfl⟩ hK2
    have hum : u ≤ m := by rw [← hus]; exact Nat.and_le_right
    have hvW := hBW m hmT
    by_cases hu0 : 0 < u
    · have huT : u < 2 ^ hp_T p := by omega
      have hmu : m &&& u = u := by rw [Nat.and_comm]; exact hus
      obtain ⟨r1, r2, r3, r4⟩ := hb_rest huT hmT hmu
      have hrm : m ^^^ u ≠ m := by
        intro q
        have : u = 0 := by
          have e : m ^^^ (m ^^^ u) = u := by rw [← Nat.xor_assoc, Nat.xor_self, Nat.zero_xor]
          rw [q, Nat.xor_self] at e
          exact e.symm
        omega
      have hrle : m ^^^ u ≤ m := by
        have h9 : m ^^^ u ≤ u ||| (m ^^^ u) := Nat.right_le_or
        rw [r2] at h9
        exact h9
      have e124 : S3.1 124 (m ^^^ u) = nI (B (m ^^^ u)) := by rw [hoth _ r4 hrm]; exact hlow _ r4 hrle
      have e125 : S3.1 125 u = nI (hp_hw p h u) := by rw [he3.1 125 (by decide)]; exact hw u huT
      obtain ⟨w1, w2⟩ := hp_hw_le hp hh u
      have hBr := hBW _ r4
      have e1 : nI u - 1 = nI (u - 1) := by rw [show (1 : Int32) = nI 1 from rfl, pk_sub (by omega)]
      have nx1 := hb_sub_is m (u - 1)
      have nx2 := hb_sub_lt (o := m) hu0
      have hptu := hg_pt_xor hmT huT hmu
      -- what holds after u is tried
      have next : ∀ v2 S4, hd_eqx [124] S S4 → (∀ q, q < 2 ^ hp_T p → q ≠ m → S4.1 124 q = S2.1 124 q) → S4.1 124 m = nI v2 → v2 ≤ v → (hg_pp (hp_T p) (hp_cr p) u ≤ hp_ro p h → v2 ≤ hg_w (hp_T p) (hp_w2 p) u (fun _ => h) + B (m ^^^ u)) → (v2 = v ∨ (hg_pp (hp_T p) (hp_cr p) u ≤ hp_ro p h ∧ v2 = hg_w (hp_T p) (hp_w2 p) u (fun _ => h) + B (m ^^^ u))) → ∀ y z, K2 [hd_vR 113, hd_vI a, hd_vI b, hd_vI (nI h), hd_vI (nI m), hd_vI (nI ((u - 1) &&& m)), y, z] S4 := by
        intro v2 S4 he4 ho4 hv4 hle hfit hor2 y z
        refine hK2 _ _ _ nx2 ⟨nx1, he4, ho4, ⟨v2, hv4, by omega, fun w r hw hwT hrT hw0 hpt hfw => ?_, ?_⟩, y, z, rfl⟩
        · obtain ⟨q1, q2⟩ := hg_pt_un hmT hwT hrT hpt
          by_cases hwu : w = u
          · subst hwu
            rw [q2]
            exact hfit hfw
          · have hwu2 : u < w := by
              rcases Nat.lt_or_ge w u with q | q
              · have := hb_sub_next (hp_T p) m u w huT hus (by rw [Nat.and_comm]; exact q1) q
                omega
              · omega
            have := hmin w r hwu2 hwT hrT hw0 hpt hfw
            omega
        · rcases hor2 with q | ⟨q1, q2⟩
          · rw [q]
            exact hor
          · exact Or.inr ⟨u, m ^^^ u, r4, hptu, q1, q2⟩
      simp only [wc_X9_roomedOf_188, wb_X9_roomedOf_188, hd_mth, hd_rho0, hd_args, hd_wide, hq_sQ, hd_s0, hq_sI, hq_sJ, hd_sR, hd_sP, hd_sF, hd_sZ, hd_sG, hd_sA, hd_sL, hd_sB, hd_sO, hd_sN, hd_sD, hd_sW, hd_sE, hd_sRI, hd_sRZ, hd_sRJ, hd_sRR, hd_sRV, hd_sSw, hd_sw, hd_sCI, hd_sCL, hd_iK, hd_iL, hd_iU, hd_iB, hd_iD, hd_iJ, hd_iG, hd_iA, hd_iQ, hd_iC, hd_iN, hd_iE, hd_jK, hd_jL, hd_jU, hd_jB, hd_jD, hd_jH, hd_jI, hd_jA, hd_jQ, hd_jN, hd_rL, hd_rG, hd_rA, hd_rN, hd_cI, hd_c0, hd_cJ, hd_cX, hd_cA, hd_cO, hd_v0, hd_pI, hd_pJ, hd_pR, hd_nV, hd_nS, hd_get, hd_st, hd_stW, hd_cut, List.replicate, List.length_cons, List.length_nil, List.nil_append, List.cons_append, Nat.reduceAdd, Nat.reduceSub, Nat.reduceLeDiff, true_and, and_true, if_true, if_false, Bool.false_eq_true, List.append_nil, hs_o_0, hs_r_0_0, hs_t_0_0, hs_r_0_1, hs_t_0_1, hs_r_0_2, hs_t_0_2, hs_r_0_3, hs_t_0_3, hs_r_0_4, hs_t_0_4, hs_r_0_5, hs_t_0_5, hs_r_0_6, hs_t_0_6, hs_r_0_7, hs_t_0_7, hs_f_0_8, hs_o_1, hs_f_1_0, hs_f_1_1, hs_r_1_2, hs_t_1_2, hs_r_1_3, hs_t_1_3, hs_r_1_4, hs_t_1_4, hs_r_1_5, hs_t_1_5, hs_r_1_6, hs_t_1_6, hs_r_1_7, hs_t_1_7, hs_r_1_8, hs_t_1_8, hs_r_1_9, hs_t_1_9, hs_i_2, hs_i_3, hs_i_4, hs_i_5, hs_i_6, hs_i_7, hs_i_8, hs_i_9, hs_o_82, hs_r_82_0, hs_t_82_0, hs_f_82_1, hs_i_83, hs_o_84, hs_r_84_0, hs_t_84_0, hs_r_84_1, hs_t_84_1, hs_r_84_2, hs_t_84_2, hs_r_84_3, hs_t_84_3, hs_f_84_4, hs_i_85, hs_i_86, hs_i_87, hs_o_88, hs_r_88_0, hs_t_88_0, hs_r_88_1, hs_t_88_1, hs_r_88_2, hs_t_88_2, hs_r_88_3, hs_t_88_3, hs_r_88_4, hs_t_88_4, hs_r_88_5, hs_t_88_5, hs_r_88_6, hs_t_88_6, hs_r_88_7, hs_t_88_7, hs_f_88_8, hs_f_88_9, hs_i_89, hs_i_90, hs_i_91, hs_i_92, hs_i_93, hs_i_94, hs_i_95, hs_i_96, hs_i_97, hs_i_98, hs_i_99, hs_i_100, hs_i_101, hs_i_102, hs_o_103, hs_r_103_0, hs_t_103_0, hs_r_103_1, hs_t_103_1, hs_r_103_2, hs_t_103_2, hs_r_103_3, hs_t_103_3, hs_f_103_4, hs_i_104, hs_o_105, hs_r_105_0, hs_t_105_0, hs_r_105_1, hs_t_105_1, hs_r_105_2, hs_t_105_2, hs_i_106, hs_i_107, hs_o_108, hs_r_108_0, hs_t_108_0, hs_r_108_1, hs_t_108_1, hs_r_108_2, hs_t_108_2, hs_r_108_3, hs_t_108_3, hs_f_108_4, hs_i_109, hs_i_110, hs_o_111, hs_r_111_0, hs_t_111_0, hs_r_111_1, hs_t_111_1, hs_f_111_2, hs_f_111_3, hs_f_111_4, hs_i_112, hs_o_113, hs_f_113_0, hs_f_113_1, hs_f_113_2, hs_r_113_3, hs_t_113_3, hs_r_113_4, hs_t_113_4, hs_r_113_5, hs_t_113_5, hs_r_113_6, hs_t_113_6, hs_r_113_7, hs_t_113_7, hs_r_113_8, hs_t_113_8, hs_r_113_9, hs_t_113_9, hs_r_113_10, hs_t_113_10, hs_r_113_11, hs_t_113_11, hs_f_113_12, hs_f_113_13, hs_f_113_14, hs_r_113_15, hs_t_113_15, hs_f_113_16, hs_r_113_17, hs_t_113_17, hs_r_113_18, hs_t_113_18, hs_r_113_19, hs_t_113_19, hs_r_113_20, hs_t_113_20, hs_f_113_21, hs_f_113_22, hs_f_113_23, hs_r_113_24, hs_t_113_24, hs_f_113_25, hs_r_113_26, hs_t_113_26, hs_f_113_27, hs_i_114, hs_i_115, hs_i_116, hs_i_117, hs_i_118, hs_i_119, hs_i_120, hs_i_121, hs_i_122, hs_i_123, hs_i_124, hs_i_125, hs_i_126, hs_i_127, hs_i_128, hs_i_129, hb_0lt (show u < 2 ^ 31 by omega), hu0, decide_true, vp_in_nI (show u < 256 by omega) (show 256 < 2 ^ 31 by decide), hd_cc (show u < 2147483648 by omega), e125, hb_lt2e9 (show hp_hw p h u < 2 ^ 31 by omega), hb_andn hmT hT hus, vp_in_nI (show m ^^^ u < 256 by omega) (show 256 < 2 ^ 31 by decide), hd_cc (show m ^^^ u < 2147483648 by omega), e124, hb_lt2e9 (show B (m ^^^ u) < 2 ^ 31 by omega), vp_in_nI (show m < 256 by omega) (show 256 < 2 ^ 31 by decide), hd_cc (show m < 2147483648 by omega), hv, e1, fa_and, decide_eq_true_eq]
      by_cases c1 : hp_hw p h u < 2000000000
      · obtain ⟨g1, g2, g3⟩ := w2 c1
        by_cases c2 : B (m ^^^ u) < 2000000000
        · have g4 : B (m ^^^ u) ≤ 160000000 := by
            rcases hBl _ r4 with q | q
            · omega
            · exact q
          simp only [c1, c2, if_true, nI_add, nI_ltI (show hp_hw p h u + B (m ^^^ u) < 2 ^ 31 by omega) (show v < 2 ^ 31 by omega)]
          by_cases c3 : hp_hw p h u + B (m ^^^ u) < v
          · simp only [c3, if_true]
            refine next (hp_hw p h u + B (m ^^^ u)) _ (hd_eqx_w he3 (by decide)) (fun q hq hqm => by rw [hd_wI1, if_neg (fun r => hqm r.2)]; exact hoth q hq hqm) (by rw [hd_wI1, if_pos ⟨rfl, rfl⟩]) (by omega) (fun _ => by omega) (Or.inr ⟨g2, by omega⟩) _ _
          · simp only [c3, if_false]
            refine next v _ (hd_eqx_w he3 (by decide)) (fun q hq hqm => by rw [hd_wI1, if_neg (fun r => hqm r.2)]; exact hoth q hq hqm) (by rw [hd_wI1, if_pos ⟨rfl, rfl⟩]) (Nat.le_refl _) (fun _ => by omega) (Or.inl rfl) _ _
        · simp only [c1, c2, if_true, if_false]
          exact next v S3 he3 hoth hv (Nat.le_refl _) (fun _ => by omega) (Or.inl rfl) _ _
      · have hnf : ¬ hg_pp (hp_T p) (hp_cr p) u ≤ hp_ro p h := by
          intro q
          have h9 : hg_w (hp_T p) (hp_w2 p) u (fun _ => h) ≤ 160000000 := Nat.le_trans (hp_w2_sum hp hh u (hp_T p) hT) (Nat.le_trans (Nat.mul_le_mul_right _ hT) (by decide))
          unfold hp_hw at c1
          rw [if_pos q] at c1
          omega
        simp only [c1, if_false]
        exact next v S3 he3 hoth hv (Nat.le_refl _) (fun q => absurd q hnf) (Or.inl rfl) _ _
    · have hu9 : u = 0 := by omega
      have em1 : nI m + -1 = nI (m - 1) := by
        rw [show (-1 : Int32) = -(1 : Int32) from rfl, ← Int32.sub_eq_add_neg, show (1 : Int32) = nI 1 from rfl, pk_sub (by omega)]
      simp only [wc_X9_roomedOf_188, hd_mth, hd_rho0, hd_args, hd_wide, hq_sQ, hd_s0, hq_sI, hq_sJ, hd_sR, hd_sP, hd_sF, hd_sZ, hd_sG, hd_sA, hd_sL, hd_sB, hd_sO, hd_sN, hd_sD, hd_sW, hd_sE, hd_sRI, hd_sRZ, hd_sRJ, hd_sRR, hd_sRV, hd_sSw, hd_sw, hd_sCI, hd_sCL, hd_iK, hd_iL, hd_iU, hd_iB, hd_iD, hd_iJ, hd_iG, hd_iA, hd_iQ, hd_iC, hd_iN, hd_iE, hd_jK, hd_jL, hd_jU, hd_jB, hd_jD, hd_jH, hd_jI, hd_jA, hd_jQ, hd_jN, hd_rL, hd_rG, hd_rA, hd_rN, hd_cI, hd_c0, hd_cJ, hd_cX, hd_cA, hd_cO, hd_v0, hd_pI, hd_pJ, hd_pR, hd_nV, hd_nS, hd_get, hd_st, hd_stW, hd_cut, List.replicate, List.length_cons, List.length_nil, List.nil_append, List.cons_append, Nat.reduceAdd, Nat.reduceSub, Nat.reduceLeDiff, true_and, and_true, if_true, if_false, Bool.false_eq_true, List.append_nil, hs_o_0, hs_r_0_0, hs_t_0_0, hs_r_0_1, hs_t_0_1, hs_r_0_2, hs_t_0_2, hs_r_0_3, hs_t_0_3, hs_r_0_4, hs_t_0_4, hs_r_0_5, hs_t_0_5, hs_r_0_6, hs_t_0_6, hs_r_0_7, hs_t_0_7, hs_f_0_8, hs_o_1, hs_f_1_0, hs_f_1_1, hs_r_1_2, hs_t_1_2, hs_r_1_3, hs_t_1_3, hs_r_1_4, hs_t_1_4, hs_r_1_5, hs_t_1_5, hs_r_1_6, hs_t_1_6, hs_r_1_7, hs_t_1_7, hs_r_1_8, hs_t_1_8, hs_r_1_9, hs_t_1_9, hs_i_2, hs_i_3, hs_i_4, hs_i_5, hs_i_6, hs_i_7, hs_i_8, hs_i_9, hs_o_82, hs_r_82_0, hs_t_82_0, hs_f_82_1, hs_i_83, hs_o_84, hs_r_84_0, hs_t_84_0, hs_r_84_1, hs_t_84_1, hs_r_84_2, hs_t_84_2, hs_r_84_3, hs_t_84_3, hs_f_84_4, hs_i_85, hs_i_86, hs_i_87, hs_o_88, hs_r_88_0, hs_t_88_0, hs_r_88_1, hs_t_88_1, hs_r_88_2, hs_t_88_2, hs_r_88_3, hs_t_88_3, hs_r_88_4, hs_t_88_4, hs_r_88_5, hs_t_88_5, hs_r_88_6, hs_t_88_6, hs_r_88_7, hs_t_88_7, hs_f_88_8, hs_f_88_9, hs_i_89, hs_i_90, hs_i_91, hs_i_92, hs_i_93, hs_i_94, hs_i_95, hs_i_96, hs_i_97, hs_i_98, hs_i_99, hs_i_100, hs_i_101, hs_i_102, hs_o_103, hs_r_103_0, hs_t_103_0, hs_r_103_1, hs_t_103_1, hs_r_103_2, hs_t_103_2, hs_r_103_3, hs_t_103_3, hs_f_103_4, hs_i_104, hs_o_105, hs_r_105_0, hs_t_105_0, hs_r_105_1, hs_t_105_1, hs_r_105_2, hs_t_105_2, hs_i_106, hs_i_107, hs_o_108, hs_r_108_0, hs_t_108_0, hs_r_108_1, hs_t_108_1, hs_r_108_2, hs_t_108_2, hs_r_108_3, hs_t_108_3, hs_f_108_4, hs_i_109, hs_i_110, hs_o_111, hs_r_111_0, hs_t_111_0, hs_r_111_1, hs_t_111_1, hs_f_111_2, hs_f_111_3, hs_f_111_4, hs_i_112, hs_o_113, hs_f_113_0, hs_f_113_1, hs_f_113_2, hs_r_113_3, hs_t_113_3, hs_r_113_4, hs_t_113_4, hs_r_113_5, hs_t_113_5, hs_r_113_6, hs_t_113_6, hs_r_113_7, hs_t_113_7, hs_r_113_8, hs_t_113_8, hs_r_113_9, hs_t_113_9, hs_r_113_10, hs_t_113_10, hs_r_113_11, hs_t_113_11, hs_f_113_12, hs_f_113_13, hs_f_113_14, hs_r_113_15, hs_t_113_15, hs_f_113_16, hs_r_113_17, hs_t_113_17, hs_r_113_18, hs_t_113_18, hs_r_113_19, hs_t_113_19, hs_r_113_20, hs_t_113_20, hs_f_113_21, hs_f_113_22, hs_f_113_23, hs_r_113_24, hs_t_113_24, hs_f_113_25, hs_r_113_26, hs_t_113_26, hs_f_113_27, hs_i_114, hs_i_115, hs_i_116, hs_i_117, hs_i_118, hs_i_119, hs_i_120, hs_i_121, hs_i_122, hs_i_123, hs_i_124, hs_i_125, hs_i_126, hs_i_127, hs_i_128, hs_i_129, hb_0lt (show u < 2 ^ 31 by omega), hu0, decide_false, em1]
      refine hK (m - 1) _ _ (by omega) ⟨by omega, he3, fun q hq hqm => ?_, fun q hq hqm => ?_, _, _, _, rfl⟩
      · rw [hoth q hq (by omega)]
        exact hlow q hq (by omega)
      · by_cases hqm2 : q = m
        · rw [hqm2]
          refine ⟨v, hv, hg_tb_step (h := h) hDh hE (fun m hm => (hB m hm).2) hmT hvB (fun w r hwT hrT hw0 hpt hfw => hmin w r (by omega) hwT hrT hw0 hpt hfw) hor⟩
        · rw [hoth q hq hqm2]
          exact hup q hq (by omega)
  · have hm9 : m = 0 := by omega
    simp only [wc_X9_roomedOf_179, hd_mth, hd_rho0, hd_args, hd_wide, hq_sQ, hd_s0, hq_sI, hq_sJ, hd_sR, hd_sP, hd_sF, hd_sZ, hd_sG, hd_sA, hd_sL, hd_sB, hd_sO, hd_sN, hd_sD, hd_sW, hd_sE, hd_sRI, hd_sRZ, hd_sRJ, hd_sRR, hd_sRV, hd_sSw, hd_sw, hd_sCI, hd_sCL, hd_iK, hd_iL, hd_iU, hd_iB, hd_iD, hd_iJ, hd_iG, hd_iA, hd_iQ, hd_iC, hd_iN, hd_iE, hd_jK, hd_jL, hd_jU, hd_jB, hd_jD, hd_jH, hd_jI, hd_jA, hd_jQ, hd_jN, hd_rL, hd_rG, hd_rA, hd_rN, hd_cI, hd_c0, hd_cJ, hd_cX, hd_cA, hd_cO, hd_v0, hd_pI, hd_pJ, hd_pR, hd_nV, hd_nS, hd_get, hd_st, hd_stW, hd_cut, List.replicate, List.length_cons, List.length_nil, List.nil_append, List.cons_append, Nat.reduceAdd, Nat.reduceSub, Nat.reduceLeDiff, true_and, and_true, if_true, if_false, Bool.false_eq_true, List.append_nil, hs_o_0, hs_r_0_0, hs_t_0_0, hs_r_0_1, hs_t_0_1, hs_r_0_2, hs_t_0_2, hs_r_0_3, hs_t_0_3, hs_r_0_4, hs_t_0_4, hs_r_0_5, hs_t_0_5, hs_r_0_6, hs_t_0_6, hs_r_0_7, hs_t_0_7, hs_f_0_8, hs_o_1, hs_f_1_0, hs_f_1_1, hs_r_1_2, hs_t_1_2, hs_r_1_3, hs_t_1_3, hs_r_1_4, hs_t_1_4, hs_r_1_5, hs_t_1_5, hs_r_1_6, hs_t_1_6, hs_r_1_7, hs_t_1_7, hs_r_1_8, hs_t_1_8, hs_r_1_9, hs_t_1_9, hs_i_2, hs_i_3, hs_i_4, hs_i_5, hs_i_6, hs_i_7, hs_i_8, hs_i_9, hs_o_82, hs_r_82_0, hs_t_82_0, hs_f_82_1, hs_i_83, hs_o_84, hs_r_84_0, hs_t_84_0, hs_r_84_1, hs_t_84_1, hs_r_84_2, hs_t_84_2, hs_r_84_3, hs_t_84_3, hs_f_84_4, hs_i_85, hs_i_86, hs_i_87, hs_o_88, hs_r_88_0, hs_t_88_0, hs_r_88_1, hs_t_88_1, hs_r_88_2, hs_t_88_2, hs_r_88_3, hs_t_88_3, hs_r_88_4, hs_t_88_4, hs_r_88_5, hs_t_88_5, hs_r_88_6, hs_t_88_6, hs_r_88_7, hs_t_88_7, hs_f_88_8, hs_f_88_9, hs_i_89, hs_i_90, hs_i_91, hs_i_92, hs_i_93, hs_i_94, hs_i_95, hs_i_96, hs_i_97, hs_i_98, hs_i_99, hs_i_100, hs_i_101, hs_i_102, hs_o_103, hs_r_103_0, hs_t_103_0, hs_r_103_1, hs_t_103_1, hs_r_103_2, hs_t_103_2, hs_r_103_3, hs_t_103_3, hs_f_103_4, hs_i_104, hs_o_105, hs_r_105_0, hs_t_105_0, hs_r_105_1, hs_t_105_1, hs_r_105_2, hs_t_105_2, hs_i_106, hs_i_107, hs_o_108, hs_r_108_0, hs_t_108_0, hs_r_108_1, hs_t_108_1, hs_r_108_2, hs_t_108_2, hs_r_108_3, hs_t_108_3, hs_f_108_4, hs_i_109, hs_i_110, hs_o_111, hs_r_111_0, hs_t_111_0, hs_r_111_1, hs_t_111_1, hs_f_111_2, hs_f_111_3, hs_f_111_4, hs_i_112, hs_o_113, hs_f_113_0, hs_f_113_1, hs_f_113_2, hs_r_113_3, hs_t_113_3, hs_r_113_4, hs_t_113_4, hs_r_113_5, hs_t_113_5, hs_r_113_6, hs_t_113_6, hs_r_113_7, hs_t_113_7, hs_r_113_8, hs_t_113_8, hs_r_113_9, hs_t_113_9, hs_r_113_10, hs_t_113_10, hs_r_113_11, hs_t_113_11, hs_f_113_12, hs_f_113_13, hs_f_113_14, hs_r_113_15, hs_t_113_15, hs_f_113_16, hs_r_113_17, hs_t_113_17, hs_r_113_18, hs_t_113_18, hs_r_113_19, hs_t_113_19, hs_r_113_20, hs_t_113_20, hs_f_113_21, hs_f_113_22, hs_f_113_23, hs_r_113_24, hs_t_113_24, hs_f_113_25, hs_r_113_26, hs_t_113_26, hs_f_113_27, hs_i_114, hs_i_115, hs_i_116, hs_i_117, hs_i_118, hs_i_119, hs_i_120, hs_i_121, hs_i_122, hs_i_123, hs_i_124, hs_i_125, hs_i_126, hs_i_127, hs_i_128, hs_i_129, hb_0lt (show m < 2 ^ 31 by omega), hm0, decide_false]
    refine hk S2 he (fun q hq => ?_) _ _ _ _
    by_cases hq0 : q = 0
    · rw [hq0, hm9] at *
      refine ⟨B 0, hlow 0 hpos (Nat.zero_le _), hg_tb_step (h := h) hDh hE (fun m hm => (hB m hm).2) hpos (Nat.le_refl _) (fun w r hwT hrT hw0 hpt _ => ?_) (Or.inl rfl)⟩
      have h9 := (hg_pt_un hpos hwT hrT hpt).1
      rw [Nat.zero_and] at h9
      exact absurd h9.symm hw0
    · exact hup q hq (by omega)
