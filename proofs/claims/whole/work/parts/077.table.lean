/-! one hall's table -/
theorem hs_tab {h : Nat} (hh : h < 8) : hs_sh[95 + h]? = some (.inr (1, 256)) := by
  have c8 : h = 0 ∨ h = 1 ∨ h = 2 ∨ h = 3 ∨ h = 4 ∨ h = 5 ∨ h = 6 ∨ h = 7 := by omega
  rcases c8 with rfl | rfl | rfl | rfl | rfl | rfl | rfl | rfl
  · exact hs_95
  · exact hs_96
  · exact hs_97
  · exact hs_98
  · exact hs_99
  · exact hs_100
  · exact hs_101
  · exact hs_102
def hp_Dh (p : hp_P) (b h : Nat) : Nat → Bool := fun a => decide (h ≤ a) && (decide (a < hp_H p) && b.testBit a)
/-- the table of hall h is right for the set b; hall 0's only for all towns -/
def hx_tb (S : hd_S) (p : hp_P) (b h : Nat) : Prop := ∀ m, m < 2 ^ hp_T p → (h = 0 → m = 2 ^ hp_T p - 1) → ∃ v, S.2.1 (95 + h) m = lN v ∧ hg_tb (hp_T p) (hp_cr p) (hp_ro p) (hp_w1 p) 1152921504606846976 (hp_Dh p b h) m v
theorem hg_w_bit {T : Nat} {w : Nat → Nat → Nat} {i j h : Nat} (hi : i < T) (hj : j < 2 ^ i) : hg_w T w (2 ^ i + j) (fun _ => h) = hg_w T w j (fun _ => h) + w h i := by
  have hu := fb_sm_upd (fun t => if j.testBit t = true then w h t else 0) (w h i) hi
  have hji : j.testBit i = false := hp_hi hj (Nat.le_refl _)
  have e : (fun k => if k = i then w h i else if j.testBit k = true then w h k else 0) = fun t => if (2 ^ i + j).testBit t = true then w h t else 0 := by
    funext t
    rw [← hb_or_sum hj, fb_bit_set]
    by_cases ht : t = i
    · subst ht
      simp
    · simp [ht]
  rw [e] at hu
  simp only [hji, Bool.false_eq_true, if_false, Nat.add_zero] at hu
  exact hu
theorem hg_pp_bit {T : Nat} {cr : Nat → Nat} {i j : Nat} (hi : i < T) (hj : j < 2 ^ i) : hg_pp T cr (2 ^ i + j) = hg_pp T cr j + cr i := by
  have hu := fb_sm_upd (fun t => if j.testBit t = true then cr t else 0) (cr i) hi
  have hji : j.testBit i = false := hp_hi hj (Nat.le_refl _)
  have e : (fun k => if k = i then cr i else if j.testBit k = true then cr k else 0) = fun t => if (2 ^ i + j).testBit t = true then cr t else 0 := by
    funext t
    rw [← hb_or_sum hj, fb_bit_set]
    by_cases ht : t = i
    · subst ht
      simp
    · simp [ht]
  rw [e] at hu
  simp only [hji, Bool.false_eq_true, if_false, Nat.add_zero] at hu
  exact hu
theorem hg_w_0 {T : Nat} {w : Nat → Nat → Nat} {f : Nat → Nat} : hg_w T w 0 f = 0 := by
  unfold hg_w
  simp only [Nat.zero_testBit, Bool.false_eq_true, if_false]
  rw [fb_sm_const, Nat.mul_zero]
theorem hg_pp_0 {T : Nat} {cr : Nat → Nat} : hg_pp T cr 0 = 0 := by
  unfold hg_pp
  simp only [Nat.zero_testBit, Bool.false_eq_true, if_false]
  rw [fb_sm_const, Nat.mul_zero]
theorem hp_w1_lt {p : hp_P} (hp : hp_ok p) {h : Nat} (hh : h < hp_H p) (m : Nat) : hg_w (hp_T p) (hp_w1 p) m (fun _ => h) < 2 ^ 53 := by
  have hT := hp.1
  have hH := hp.2.1
  have h1 : hg_w (hp_T p) (hp_w1 p) m (fun _ => h) ≤ hp_T p * (335544320000000 + 14680064) := by
    refine fb_sm_bound (fun t ht => ?_)
    split
    · exact hp_cd_le (f := fun _ => h) hp ht hh
    · exact Nat.zero_le _
  have h2 : hp_T p * (335544320000000 + 14680064) ≤ 8 * (335544320000000 + 14680064) := Nat.mul_le_mul_right _ hT
  exact Nat.lt_of_le_of_lt (Nat.le_trans h1 h2) (by decide)
theorem hg_pp_le {p : hp_P} (hp : hp_ok p) (m : Nat) : hg_pp (hp_T p) (hp_cr p) m ≤ 160 := by
  have h1 : hg_pp (hp_T p) (hp_cr p) m ≤ hp_T p * 20 := by
    refine fb_sm_bound (fun t _ => ?_)
    split
    · exact hp.2.2.2.1 t
    · exact Nat.zero_le _
  have := hp.1
  omega
theorem hb_allbut {T n : Nat} (hT : T ≤ 8) (hn : n < 2 ^ T) : nI (2 ^ T - 1) &&& (nI n ^^^ (-1)) = nI ((2 ^ T - 1) ^^^ n) := by
  rw [show (-1 : Int32) = nI 4294967295 from rfl, fb_xorI, fa_and]
  congr 1
  apply Nat.eq_of_testBit_eq
  intro i
  rw [Nat.testBit_and, Nat.testBit_xor (2 ^ T - 1), Nat.testBit_two_pow_sub_one]
  by_cases hi : i < T
  · rw [hb_nbit n (by omega)]
    simp [hi]
  · rw [hp_hi hn (by omega)]
    simp [hi]
/-- which rest a heap leaves -/
theorem hg_pt_un {T m u r : Nat} (hm : m < 2 ^ T) (hu : u < 2 ^ T) (hr : r < 2 ^ T) (h : hg_pt T m u r) : m &&& u = u ∧ r = m ^^^ u := by
  have hz : ∀ i x, x < 2 ^ T → ¬ i < T → x.testBit i = false := fun i x hx hi => hp_hi hx (by omega)
  constructor
  · apply Nat.eq_of_testBit_eq
    intro i
    rw [Nat.testBit_and]
    by_cases hi : i < T
    · rw [(h i hi).1]
      cases u.testBit i <;> simp
    · rw [hz i m hm hi, hz i u hu hi]
      rfl
  · apply Nat.eq_of_testBit_eq
    intro i
    rw [Nat.testBit_xor]
    by_cases hi : i < T
    · obtain ⟨h1, h2⟩ := h i hi
      rw [h1]
      cases hq : u.testBit i <;> cases hq2 : r.testBit i <;> simp [hq, hq2] at h2 ⊢
    · rw [hz i m hm hi, hz i u hu hi, hz i r hr hi]
      rfl
theorem hg_pt_xor {T m u : Nat} (hm : m < 2 ^ T) (hu : u < 2 ^ T) (h : m &&& u = u) : hg_pt T m u (m ^^^ u) := by
  obtain ⟨k1, k2, k3, k4⟩ := hb_rest hu hm h
  intro t _
  constructor
  · have : (u ||| (m ^^^ u)).testBit t = m.testBit t := by rw [k2]
    rw [Nat.testBit_or] at this
    exact this.symm
  · intro q
    have : (u &&& (m ^^^ u)).testBit t = false := by rw [k3, Nat.zero_testBit]
    rw [Nat.testBit_and, q.1, q.2] at this
    cases this
set_option maxHeartbeats 16000000 in
theorem sx_layTable {S : hd_S} {p : hp_P} (hp : hp_ok p) (hx : hx_P 1 S p) {h b : Nat} (hh : h < hp_H p) (hrf : ∀ k, k < 8 → S.2.2 90 k = 95 + k)
    (htr : ∀ t, t < hp_T p → S.2.1 91 (h * 8 + t) = lN (hp_w1 p h t)) (hpp : ∀ m, m < 2 ^ hp_T p → S.1 93 m = nI (hg_pp (hp_T p) (hp_cr p) m)) (hal : S.2.1 92 0 = lN 0) (hbf : hx_tb S p b (h + 1)) (post : Option hd_V → hd_S → Prop)
    (hk : ∀ S2, hd_eqv [92, 95 + h] S S2 → S2.2.1 92 0 = lN 0 → hx_tb S2 p b h → post none S2) : wm_X7_layTable [hd_vR 88, hd_vI (nI h), hd_vI (if b.testBit h = true then 1 else 0)] S post := by
  have hT : hp_T p ≤ 8 := hp.1
  have hH : hp_H p ≤ 7 := hp.2.1
  have h256 : 2 ^ hp_T p ≤ 256 := Nat.pow_le_pow_right (n := 2) (by decide) hT
  have hpos : 0 < 2 ^ hp_T p := Nat.two_pow_pos _
  -- what the hall above leaves
  have hB0 : ∃ B : Nat → Nat, ∀ m, m < 2 ^ hp_T p → S.2.1 (95 + (h + 1)) m = lN (B m) ∧ hg_tb (hp_T p) (hp_cr p) (hp_ro p) (hp_w1 p) 1152921504606846976 (hp_Dh p b (h + 1)) m (B m) := by
    refine ⟨fun m => if hm : m < 2 ^ hp_T p then Classical.choose (hbf m hm (fun q => by omega)) else 0, fun m hm => ?_⟩
    simp only [hm, dif_pos]
    exact Classical.choose_spec (hbf m hm (fun q => by omega))
  obtain ⟨B, hB⟩ := hB0
  have r4 := hrf (h + 1) (by omega)
  have r5 := hrf h (by omega)
  have hx0 : S.1 1 0 = nI (hp_T p) := hx.1
  simp only [wm_X7_layTable, wo_X7_layTable, hd_mth, hd_rho0, hd_args, hd_wide, hq_sQ, hd_s0, hq_sI, hq_sJ, hd_sR, hd_sP, hd_sF, hd_sZ, hd_sG, hd_sA, hd_sL, hd_sB, hd_sO, hd_sN, hd_sD, hd_sW, hd_sE, hd_sRI, hd_sRZ, hd_sRJ, hd_sRR, hd_sRV, hd_sSw, hd_sw, hd_sCI, hd_sCL, hd_iK, hd_iL, hd_iU, hd_iB, hd_iD, hd_iJ, hd_iG, hd_iA, hd_iQ, hd_iC, hd_iN, hd_iE, hd_jK, hd_jL, hd_jU, hd_jB, hd_jD, hd_jH, hd_jI, hd_jA, hd_jQ, hd_jN, hd_rL, hd_rG, hd_rA, hd_rN, hd_cI, hd_c0, hd_cJ, hd_cX, hd_cA, hd_cO, hd_v0, hd_pI, hd_pJ, hd_pR, hd_nV, hd_nS, hd_get, hd_st, hd_stW, hd_cut, List.replicate, List.length_cons, List.length_nil, List.nil_append, List.cons_append, Nat.reduceAdd, Nat.reduceSub, Nat.reduceLeDiff, true_and, and_true, if_true, if_false, Bool.false_eq_true, List.append_nil, hs_o_0, hs_r_0_0, hs_t_0_0, hs_r_0_1, hs_t_0_1, hs_r_0_2, hs_t_0_2, hs_r_0_3, hs_t_0_3, hs_r_0_4, hs_t_0_4, hs_r_0_5, hs_t_0_5, hs_r_0_6, hs_t_0_6, hs_r_0_7, hs_t_0_7, hs_f_0_8, hs_o_1, hs_f_1_0, hs_f_1_1, hs_r_1_2, hs_t_1_2, hs_r_1_3, hs_t_1_3, hs_r_1_4, hs_t_1_4, hs_r_1_5, hs_t_1_5, hs_r_1_6, hs_t_1_6, hs_r_1_7, hs_t_1_7, hs_r_1_8, hs_t_1_8, hs_r_1_9, hs_t_1_9, hs_i_2, hs_i_3, hs_i_4, hs_i_5, hs_i_6, hs_i_7, hs_i_8, hs_i_9, hs_o_82, hs_r_82_0, hs_t_82_0, hs_f_82_1, hs_i_83, hs_o_84, hs_r_84_0, hs_t_84_0, hs_r_84_1, hs_t_84_1, hs_r_84_2, hs_t_84_2, hs_r_84_3, hs_t_84_3, hs_f_84_4, hs_i_85, hs_i_86, hs_i_87, hs_o_88, hs_r_88_0, hs_t_88_0, hs_r_88_1, hs_t_88_1, hs_r_88_2, hs_t_88_2, hs_r_88_3, hs_t_88_3, hs_r_88_4, hs_t_88_4, hs_r_88_5, hs_t_88_5, hs_r_88_6, hs_t_88_6, hs_r_88_7, hs_t_88_7, hs_f_88_8, hs_f_88_9, hs_i_89, hs_i_90, hs_i_91, hs_i_92, hs_i_93, hs_i_94, hs_i_95, hs_i_96, hs_i_97, hs_i_98, hs_i_99, hs_i_100, hs_i_101, hs_i_102, hs_o_103, hs_r_103_0, hs_t_103_0, hs_r_103_1, hs_t_103_1, hs_r_103_2, hs_t_103_2, hs_r_103_3, hs_t_103_3, hs_f_103_4, hs_i_104, hs_o_105, hs_r_105_0, hs_t_105_0, hs_r_105_1, hs_t_105_1, hs_r_105_2, hs_t_105_2, hs_i_106, hs_i_107, hs_o_108, hs_r_108_0, hs_t_108_0, hs_r_108_1, hs_t_108_1, hs_r_108_2, hs_t_108_2, hs_r_108_3, hs_t_108_3, hs_f_108_4, hs_i_109, hs_i_110, hs_o_111, hs_r_111_0, hs_t_111_0, hs_r_111_1, hs_t_111_1, hs_f_111_2, hs_f_111_3, hs_f_111_4, hs_i_112, hs_o_113, hs_f_113_0, hs_f_113_1, hs_f_113_2, hs_r_113_3, hs_t_113_3, hs_r_113_4, hs_t_113_4, hs_r_113_5, hs_t_113_5, hs_r_113_6, hs_t_113_6, hs_r_113_7, hs_t_113_7, hs_r_113_8, hs_t_113_8, hs_r_113_9, hs_t_113_9, hs_r_113_10, hs_t_113_10, hs_r_113_11, hs_t_113_11, hs_f_113_12, hs_f_113_13, hs_f_113_14, hs_r_113_15, hs_t_113_15, hs_f_113_16, hs_r_113_17, hs_t_113_17, hs_r_113_18, hs_t_113_18, hs_r_113_19, hs_t_113_19, hs_r_113_20, hs_t_113_20, hs_f_113_21, hs_f_113_22, hs_f_113_23, hs_r_113_24, hs_t_113_24, hs_f_113_25, hs_r_113_26, hs_t_113_26, hs_f_113_27, hs_i_114, hs_i_115, hs_i_116, hs_i_117, hs_i_118, hs_i_119, hs_i_120, hs_i_121, hs_i_122, hs_i_123, hs_i_124, hs_i_125, hs_i_126, hs_i_127, hs_i_128, hs_i_129, nI_1, vp_in_nI (show h + 1 < 8 by omega) (show 8 < 2 ^ 31 by decide), hd_cc (show h + 1 < 2147483648 by omega), vp_in_nI (show h < 8 by omega) (show 8 < 2 ^ 31 by decide), hd_cc (show h < 2147483648 by omega), r4, r5]
  refine ⟨⟨256, 256, hs_tab (by omega), hs_tab (by omega), by decide, by decide, by decide, by decide, by decide⟩, ?_⟩
  have e256 : (256 : Int32).toNatClampNeg = 256 := by decide
  have e0 : (0 : Int32).toNatClampNeg = 0 := by decide
  rw [e256, e0]
  have he1 : hd_eqv [92, 95 + h] S (hd_rowL S (95 + h) (va_cpy (S.2.1 (95 + (h + 1))) (S.2.1 (95 + h)) 0 0 256)) := by
    refine ⟨fun c hc => rfl, fun c hc => ?_, rfl⟩
    have h2 : c ≠ 95 + h := fun q => hc (by simp [q])
    funext j
    rw [hd_rL2, if_neg h2]
  have hA1 : ∀ m, m < 2 ^ hp_T p → (hd_rowL S (95 + h) (va_cpy (S.2.1 (95 + (h + 1))) (S.2.1 (95 + h)) 0 0 256)).2.1 (95 + h) m = lN (B m) := fun m hm => by
    rw [hd_rL2, if_pos rfl, pk_cpy_in (Nat.zero_le _) (by omega), show 0 + (m - 0) = m by omega]
    exact (hB m hm).1
  have hal1 : (hd_rowL S (95 + h) (va_cpy (S.2.1 (95 + (h + 1))) (S.2.1 (95 + h)) 0 0 256)).2.1 92 0 = lN 0 := by
    rw [hd_rL2, if_neg (by omega)]
    exact hal
  generalize hd_rowL S (95 + h) (va_cpy (S.2.1 (95 + (h + 1))) (S.2.1 (95 + h)) 0 0 256) = S1 at he1 hA1 hal1
  by_cases hb : b.testBit h = true
  · simp only [hb, if_true, show ¬ ((1 : Int32) = 0) by decide, decide_false, Bool.not_false, Bool.not_true, Bool.false_eq_true, if_false]
    -- what a heap's trips to this hall cost
    refine hd_up (fun i ρ S2 => hd_eqv [92, 95 + h] S S2 ∧ S2.2.1 (95 + h) = S1.2.1 (95 + h) ∧ (∀ m, m < 2 ^ i → S2.2.1 92 m = lN (hg_w (hp_T p) (hp_w1 p) m (fun _ => h))) ∧ ∃ x : hd_V, ρ = [hd_vR 88, hd_vI (nI h), hd_vI 1, hd_vI (nI i), x]) (hp_T p) ?_ ?_ (Nat.zero_le _) ⟨he1, rfl, fun m hm => by rw [show m = 0 by (have h9 := hm; rw [Nat.pow_zero] at h9; omega), hal1, hg_w_0], _, rfl⟩
    · rintro i ρ S2 K hi ⟨he2, ht2, hw2, x, rfl⟩ hK
      have hx2 : hx_P 1 S2 p := hx_P_eqv he2 (by intro c hc; simp only [List.mem_cons, List.not_mem_nil, or_false] at hc; omega) hx
      have hx20 : S2.1 1 0 = nI (hp_T p) := hx2.1
      have h2i : 2 ^ i ≤ 128 := Nat.pow_le_pow_right (n := 2) (by decide) (show i ≤ 7 by omega)
      simp only [wc_X7_layTable_29, wb_X7_layTable_29, hd_mth, hd_rho0, hd_args, hd_wide, hq_sQ, hd_s0, hq_sI, hq_sJ, hd_sR, hd_sP, hd_sF, hd_sZ, hd_sG, hd_sA, hd_sL, hd_sB, hd_sO, hd_sN, hd_sD, hd_sW, hd_sE, hd_sRI, hd_sRZ, hd_sRJ, hd_sRR, hd_sRV, hd_sSw, hd_sw, hd_sCI, hd_sCL, hd_iK, hd_iL, hd_iU, hd_iB, hd_iD, hd_iJ, hd_iG, hd_iA, hd_iQ, hd_iC, hd_iN, hd_iE, hd_jK, hd_jL, hd_jU, hd_jB, hd_jD, hd_jH, hd_jI, hd_jA, hd_jQ, hd_jN, hd_rL, hd_rG, hd_rA, hd_rN, hd_cI, hd_c0, hd_cJ, hd_cX, hd_cA, hd_cO, hd_v0, hd_pI, hd_pJ, hd_pR, hd_nV, hd_nS, hd_get, hd_st, hd_stW, hd_cut, List.replicate, List.length_cons, List.length_nil, List.nil_append, List.cons_append, Nat.reduceAdd, Nat.reduceSub, Nat.reduceLeDiff, true_and, and_true, if_true, if_false, Bool.false_eq_true, List.append_nil, hs_o_0, hs_r_0_0, hs_t_0_0, hs_r_0_1, hs_t_0_1, hs_r_0_2, hs_t_0_2, hs_r_0_3, hs_t_0_3, hs_r_0_4, hs_t_0_4, hs_r_0_5, hs_t_0_5, hs_r_0_6, hs_t_0_6, hs_r_0_7, hs_t_0_7, hs_f_0_8, hs_o_1, hs_f_1_0, hs_f_1_1, hs_r_1_2, hs_t_1_2, hs_r_1_3, hs_t_1_3, hs_r_1_4, hs_t_1_4, hs_r_1_5, hs_t_1_5, hs_r_1_6, hs_t_1_6, hs_r_1_7, hs_t_1_7, hs_r_1_8, hs_t_1_8, hs_r_1_9, hs_t_1_9, hs_i_2, hs_i_3, hs_i_4, hs_i_5, hs_i_6, hs_i_7, hs_i_8, hs_i_9, hs_o_82, hs_r_82_0, hs_t_82_0, hs_f_82_1, hs_i_83, hs_o_84, hs_r_84_0, hs_t_84_0, hs_r_84_1, hs_t_84_1, hs_r_84_2, hs_t_84_2, hs_r_84_3, hs_t_84_3, hs_f_84_4, hs_i_85, hs_i_86, hs_i_87, hs_o_88, hs_r_88_0, hs_t_88_0, hs_r_88_1, hs_t_88_1, hs_r_88_2, hs_t_88_2, hs_r_88_3, hs_t_88_3, hs_r_88_4, hs_t_88_4, hs_r_88_5, hs_t_88_5, hs_r_88_6, hs_t_88_6, hs_r_88_7, hs_t_88_7, hs_f_88_8, hs_f_88_9, hs_i_89, hs_i_90, hs_i_91, hs_i_92, hs_i_93, hs_i_94, hs_i_95, hs_i_96, hs_i_97, hs_i_98, hs_i_99, hs_i_100, hs_i_101, hs_i_102, hs_o_103, hs_r_103_0, hs_t_103_0, hs_r_103_1, hs_t_103_1, hs_r_103_2, hs_t_103_2, hs_r_103_3, hs_t_103_3, hs_f_103_4, hs_i_104, hs_o_105, hs_r_105_0, hs_t_105_0, hs_r_105_1, hs_t_105_1, hs_r_105_2, hs_t_105_2, hs_i_106, hs_i_107, hs_o_108, hs_r_108_0, hs_t_108_0, hs_r_108_1, hs_t_108_1, hs_r_108_2, hs_t_108_2, hs_r_108_3, hs_t_108_3, hs_f_108_4, hs_i_109, hs_i_110, hs_o_111, hs_r_111_0, hs_t_111_0, hs_r_111_1, hs_t_111_1, hs_f_111_2, hs_f_111_3, hs_f_111_4, hs_i_112, hs_o_113, hs_f_113_0, hs_f_113_1, hs_f_113_2, hs_r_113_3, hs_t_113_3, hs_r_113_4, hs_t_113_4, hs_r_113_5, hs_t_113_5, hs_r_113_6, hs_t_113_6, hs_r_113_7, hs_t_113_7, hs_r_113_8, hs_t_113_8, hs_r_113_9, hs_t_113_9, hs_r_113_10, hs_t_113_10, hs_r_113_11, hs_t_113_11, hs_f_113_12, hs_f_113_13, hs_f_113_14, hs_r_113_15, hs_t_113_15, hs_f_113_16, hs_r_113_17, hs_t_113_17, hs_r_113_18, hs_t_113_18, hs_r_113_19, hs_t_113_19, hs_r_113_20, hs_t_113_20, hs_f_113_21, hs_f_113_22, hs_f_113_23, hs_r_113_24, hs_t_113_24, hs_f_113_25, hs_r_113_26, hs_t_113_26, hs_f_113_27, hs_i_114, hs_i_115, hs_i_116, hs_i_117, hs_i_118, hs_i_119, hs_i_120, hs_i_121, hs_i_122, hs_i_123, hs_i_124, hs_i_125, hs_i_126, hs_i_127, hs_i_128, hs_i_129, hx20, nI_ltI (show i < 2 ^ 31 by omega) (show hp_T p < 2 ^ 31 by omega), hi, decide_true]
      refine hd_up (fun j ρ S3 => hd_eqv [92, 95 + h] S S3 ∧ S3.2.1 (95 + h) = S1.2.1 (95 + h) ∧ (∀ m, m < 2 ^ i + j → S3.2.1 92 m = lN (hg_w (hp_T p) (hp_w1 p) m (fun _ => h))) ∧ ρ = [hd_vR 88, hd_vI (nI h), hd_vI 1, hd_vI (nI i), hd_vI (nI j)]) (2 ^ i) ?_ ?_ (Nat.zero_le _) ⟨he2, ht2, fun m hm => hw2 m (by omega), rfl⟩
      · rintro j ρ S3 K2 hj ⟨he3, ht3, hw3, rfl⟩ hK2
        have e91 : S3.2.1 91 (h * 8 + i) = lN (hp_w1 p h i) := by
          rw [he3.2.1 91 (by simp only [List.mem_cons, List.not_mem_nil, or_false]; omega)]
          exact htr i hi
        simp only [wc_X7_layTable_43, wb_X7_layTable_43, hd_mth, hd_rho0, hd_args, hd_wide, hq_sQ, hd_s0, hq_sI, hq_sJ, hd_sR, hd_sP, hd_sF, hd_sZ, hd_sG, hd_sA, hd_sL, hd_sB, hd_sO, hd_sN, hd_sD, hd_sW, hd_sE, hd_sRI, hd_sRZ, hd_sRJ, hd_sRR, hd_sRV, hd_sSw, hd_sw, hd_sCI, hd_sCL, hd_iK, hd_iL, hd_iU, hd_iB, hd_iD, hd_iJ, hd_iG, hd_iA, hd_iQ, hd_iC, hd_iN, hd_iE, hd_jK, hd_jL, hd_jU, hd_jB, hd_jD, hd_jH, hd_jI, hd_jA, hd_jQ, hd_jN, hd_rL, hd_rG, hd_rA, hd_rN, hd_cI, hd_c0, hd_cJ, hd_cX, hd_cA, hd_cO, hd_v0, hd_pI, hd_pJ, hd_pR, hd_nV, hd_nS, hd_get, hd_st, hd_stW, hd_cut, List.replicate, List.length_cons, List.length_nil, List.nil_append, List.cons_append, Nat.reduceAdd, Nat.reduceSub, Nat.reduceLeDiff, true_and, and_true, if_true, if_false, Bool.false_eq_true, List.append_nil, hs_o_0, hs_r_0_0, hs_t_0_0, hs_r_0_1, hs_t_0_1, hs_r_0_2, hs_t_0_2, hs_r_0_3, hs_t_0_3, hs_r_0_4, hs_t_0_4, hs_r_0_5, hs_t_0_5, hs_r_0_6, hs_t_0_6, hs_r_0_7, hs_t_0_7, hs_f_0_8, hs_o_1, hs_f_1_0, hs_f_1_1, hs_r_1_2, hs_t_1_2, hs_r_1_3, hs_t_1_3, hs_r_1_4, hs_t_1_4, hs_r_1_5, hs_t_1_5, hs_r_1_6, hs_t_1_6, hs_r_1_7, hs_t_1_7, hs_r_1_8, hs_t_1_8, hs_r_1_9, hs_t_1_9, hs_i_2, hs_i_3, hs_i_4, hs_i_5, hs_i_6, hs_i_7, hs_i_8, hs_i_9, hs_o_82, hs_r_82_0, hs_t_82_0, hs_f_82_1, hs_i_83, hs_o_84, hs_r_84_0, hs_t_84_0, hs_r_84_1, hs_t_84_1, hs_r_84_2, hs_t_84_2, hs_r_84_3, hs_t_84_3, hs_f_84_4, hs_i_85, hs_i_86, hs_i_87, hs_o_88, hs_r_88_0, hs_t_88_0, hs_r_88_1, hs_t_88_1, hs_r_88_2, hs_t_88_2, hs_r_88_3, hs_t_88_3, hs_r_88_4, hs_t_88_4, hs_r_88_5, hs_t_88_5, hs_r_88_6, hs_t_88_6, hs_r_88_7, hs_t_88_7, hs_f_88_8, hs_f_88_9, hs_i_89, hs_i_90, hs_i_91, hs_i_92, hs_i_93, hs_i_94, hs_i_95, hs_i_96, hs_i_97, hs_i_98, hs_i_99, hs_i_100, hs_i_101, hs_i_102, hs_o_103, hs_r_103_0, hs_t_103_0, hs_r_103_1, hs_t_103_1, hs_r_103_2, hs_t_103_2, hs_r_103_3, hs_t_103_3, hs_f_103_4, hs_i_104, hs_o_105, hs_r_105_0, hs_t_105_0, hs_r_105_1, hs_t_105_1, hs_r_105_2, hs_t_105_2, hs_i_106, hs_i_107, hs_o_108, hs_r_108_0, hs_t_108_0, hs_r_108_1, hs_t_108_1, hs_r_108_2, hs_t_108_2, hs_r_108_3, hs_t_108_3, hs_f_108_4, hs_i_109, hs_i_110, hs_o_111, hs_r_111_0, hs_t_111_0, hs_r_111_1, hs_t_111_1, hs_f_111_2, hs_f_111_3, hs_f_111_4, hs_i_112, hs_o_113, hs_f_113_0, hs_f_113_1, hs_f_113_2, hs_r_113_3, hs_t_113_3, hs_r_113_4, hs_t_113_4, hs_r_113_5, hs_t_113_5, hs_r_113_6, hs_t_113_6, hs_r_113_7, hs_t_113_7, hs_r_113_8, hs_t_113_8, hs_r_113_9, hs_t_113_9, hs_r_113_10, hs_t_113_10, hs_r_113_11, hs_t_113_11, hs_f_113_12, hs_f_113_13, hs_f_113_14, hs_r_113_15, hs_t_113_15, hs_f_113_16, hs_r_113_17, hs_t_113_17, hs_r_113_18, hs_t_113_18, hs_r_113_19, hs_t_113_19, hs_r_113_20, hs_t_113_20, hs_f_113_21, hs_f_113_22, hs_f_113_23, hs_r_113_24, hs_t_113_24, hs_f_113_25, hs_r_113_26, hs_t_113_26, hs_f_113_27, hs_i_114, hs_i_115, hs_i_116, hs_i_117, hs_i_118, hs_i_119, hs_i_120, hs_i_121, hs_i_122, hs_i_123, hs_i_124, hs_i_125, hs_i_126, hs_i_127, hs_i_128, hs_i_129, hb_pow i (show i < 31 by omega), nI_ltI (show j < 2 ^ 31 by omega) (show 2 ^ i < 2 ^ 31 by omega), hj, decide_true, fa_or, hb_or_sum hj, vp_in_nI (show 2 ^ i + j < 256 by omega) (show 256 < 2 ^ 31 by decide), hd_cc (show 2 ^ i + j < 2147483648 by omega), vp_in_nI (show j < 256 by omega) (show 256 < 2 ^ 31 by decide), hd_cc (show j < 2147483648 by omega), hw3 j (by omega), hd_lit8, pk_mul, nI_add, vp_in_nI (show h * 8 + i < 56 by omega) (show 56 < 2 ^ 31 by decide), hd_cc (show h * 8 + i < 2147483648 by omega), e91, lN_add, nI_1]
        refine hK2 _ _ ⟨hd_eqv_l he3 (by simp), ?_, fun m hm => ?_, rfl⟩
        · funext m
          rw [hd_wL2, if_neg (by omega), ht3]
        · rw [hd_wL2]
          by_cases hmj : m = 2 ^ i + j
          · rw [if_pos ⟨rfl, hmj⟩, hmj, hg_w_bit hi hj]
          · rw [if_neg (fun q => hmj q.2)]
            exact hw3 m (by omega)
      · rintro ρ S3 K2 ⟨he3, ht3, hw3, rfl⟩
        simp only [wc_X7_layTable_43, hd_mth, hd_rho0, hd_args, hd_wide, hq_sQ, hd_s0, hq_sI, hq_sJ, hd_sR, hd_sP, hd_sF, hd_sZ, hd_sG, hd_sA, hd_sL, hd_sB, hd_sO, hd_sN, hd_sD, hd_sW, hd_sE, hd_sRI, hd_sRZ, hd_sRJ, hd_sRR, hd_sRV, hd_sSw, hd_sw, hd_sCI, hd_sCL, hd_iK, hd_iL, hd_iU, hd_iB, hd_iD, hd_iJ, hd_iG, hd_iA, hd_iQ, hd_iC, hd_iN, hd_iE, hd_jK, hd_jL, hd_jU, hd_jB, hd_jD, hd_jH, hd_jI, hd_jA, hd_jQ, hd_jN, hd_rL, hd_rG, hd_rA, hd_rN, hd_cI, hd_c0, hd_cJ, hd_cX, hd_cA, hd_cO, hd_v0, hd_pI, hd_pJ, hd_pR, hd_nV, hd_nS, hd_get, hd_st, hd_stW, hd_cut, List.replicate, List.length_cons, List.length_nil, List.nil_append, List.cons_append, Nat.reduceAdd, Nat.reduceSub, Nat.reduceLeDiff, true_and, and_true, if_true, if_false, Bool.false_eq_true, List.append_nil, hs_o_0, hs_r_0_0, hs_t_0_0, hs_r_0_1, hs_t_0_1, hs_r_0_2, hs_t_0_2, hs_r_0_3, hs_t_0_3, hs_r_0_4, hs_t_0_4, hs_r_0_5, hs_t_0_5, hs_r_0_6, hs_t_0_6, hs_r_0_7, hs_t_0_7, hs_f_0_8, hs_o_1, hs_f_1_0, hs_f_1_1, hs_r_1_2, hs_t_1_2, hs_r_1_3, hs_t_1_3, hs_r_1_4, hs_t_1_4, hs_r_1_5, hs_t_1_5, hs_r_1_6, hs_t_1_6, hs_r_1_7, hs_t_1_7, hs_r_1_8, hs_t_1_8, hs_r_1_9, hs_t_1_9, hs_i_2, hs_i_3, hs_i_4, hs_i_5, hs_i_6, hs_i_7, hs_i_8, hs_i_9, hs_o_82, hs_r_82_0, hs_t_82_0, hs_f_82_1, hs_i_83, hs_o_84, hs_r_84_0, hs_t_84_0, hs_r_84_1, hs_t_84_1, hs_r_84_2, hs_t_84_2, hs_r_84_3, hs_t_84_3, hs_f_84_4, hs_i_85, hs_i_86, hs_i_87, hs_o_88, hs_r_88_0, hs_t_88_0, hs_r_88_1, hs_t_88_1, hs_r_88_2, hs_t_88_2, hs_r_88_3, hs_t_88_3, hs_r_88_4, hs_t_88_4, hs_r_88_5, hs_t_88_5, hs_r_88_6, hs_t_88_6, hs_r_88_7, hs_t_88_7, hs_f_88_8, hs_f_88_9, hs_i_89, hs_i_90, hs_i_91, hs_i_92, hs_i_93, hs_i_94, hs_i_95, hs_i_96, hs_i_97, hs_i_98, hs_i_99, hs_i_100, hs_i_101, hs_i_102, hs_o_103, hs_r_103_0, hs_t_103_0, hs_r_103_1, hs_t_103_1, hs_r_103_2, hs_t_103_2, hs_r_103_3, hs_t_103_3, hs_f_103_4, hs_i_104, hs_o_105, hs_r_105_0, hs_t_105_0, hs_r_105_1, hs_t_105_1, hs_r_105_2, hs_t_105_2, hs_i_106, hs_i_107, hs_o_108, hs_r_108_0, hs_t_108_0, hs_r_108_1, hs_t_108_1, hs_r_108_2, hs_t_108_2, hs_r_108_3, hs_t_108_3, hs_f_108_4, hs_i_109, hs_i_110, hs_o_111, hs_r_111_0, hs_t_111_0, hs_r_111_1, hs_t_111_1, hs_f_111_2, hs_f_111_3, hs_f_111_4, hs_i_112, hs_o_113, hs_f_113_0, hs_f_113_1, hs_f_113_2, hs_r_113_3, hs_t_113_3, hs_r_113_4, hs_t_113_4, hs_r_113_5, hs_t_113_5, hs_r_113_6, hs_t_113_6, hs_r_113_7, hs_t_113_7, hs_r_113_8, hs_t_113_8, hs_r_113_9, hs_t_113_9, hs_r_113_10, hs_t_113_10, hs_r_113_11, hs_t_113_11, hs_f_113_12, hs_f_113_13, hs_f_113_14, hs_r_113_15, hs_t_113_15, hs_f_113_16, hs_r_113_17, hs_t_113_17, hs_r_113_18, hs_t_113_18, hs_r_113_19, hs_t_113_19, hs_r_113_20, hs_t_113_20, hs_f_113_21, hs_f_113_22, hs_f_113_23, hs_r_113_24, hs_t_113_24, hs_f_113_25, hs_r_113_26, hs_t_113_26, hs_f_113_27, hs_i_114, hs_i_115, hs_i_116, hs_i_117, hs_i_118, hs_i_119, hs_i_120, hs_i_121, hs_i_122, hs_i_123, hs_i_124, hs_i_125, hs_i_126, hs_i_127, hs_i_128, hs_i_129, hb_pow i (show i < 31 by omega), Int32.lt_irrefl, decide_false, nI_1]
        exact hK _ _ ⟨he3, ht3, fun m hm => hw3 m (by rw [Nat.pow_succ] at hm; omega), _, rfl⟩
    · rintro ρ S2 K ⟨he2, ht2, hw2, x, rfl⟩
      have hx2 : hx_P 1 S2 p := hx_P_eqv he2 (by intro c hc; simp only [List.mem_cons, List.not_mem_nil, or_false] at hc; omega) hx
      have hx20 : S2.1 1 0 = nI (hp_T p) := hx2.1
      simp only [wc_X7_layTable_29, hd_mth, hd_rho0, hd_args, hd_wide, hq_sQ, hd_s0, hq_sI, hq_sJ, hd_sR, hd_sP, hd_sF, hd_sZ, hd_sG, hd_sA, hd_sL, hd_sB, hd_sO, hd_sN, hd_sD, hd_sW, hd_sE, hd_sRI, hd_sRZ, hd_sRJ, hd_sRR, hd_sRV, hd_sSw, hd_sw, hd_sCI, hd_sCL, hd_iK, hd_iL, hd_iU, hd_iB, hd_iD, hd_iJ, hd_iG, hd_iA, hd_iQ, hd_iC, hd_iN, hd_iE, hd_jK, hd_jL, hd_jU, hd_jB, hd_jD, hd_jH, hd_jI, hd_jA, hd_jQ, hd_jN, hd_rL, hd_rG, hd_rA, hd_rN, hd_cI, hd_c0, hd_cJ, hd_cX, hd_cA, hd_cO, hd_v0, hd_pI, hd_pJ, hd_pR, hd_nV, hd_nS, hd_get, hd_st, hd_stW, hd_cut, List.replicate, List.length_cons, List.length_nil, List.nil_append, List.cons_append, Nat.reduceAdd, Nat.reduceSub, Nat.reduceLeDiff, true_and, and_true, if_true, if_false, Bool.false_eq_true, List.append_nil, hs_o_0, hs_r_0_0, hs_t_0_0, hs_r_0_1, hs_t_0_1, hs_r_0_2, hs_t_0_2, hs_r_0_3, hs_t_0_3, hs_r_0_4, hs_t_0_4, hs_r_0_5, hs_t_0_5, hs_r_0_6, hs_t_0_6, hs_r_0_7, hs_t_0_7, hs_f_0_8, hs_o_1, hs_f_1_0, hs_f_1_1, hs_r_1_2, hs_t_1_2, hs_r_1_3, hs_t_1_3, hs_r_1_4, hs_t_1_4, hs_r_1_5, hs_t_1_5, hs_r_1_6, hs_t_1_6, hs_r_1_7, hs_t_1_7, hs_r_1_8, hs_t_1_8, hs_r_1_9, hs_t_1_9, hs_i_2, hs_i_3, hs_i_4, hs_i_5, hs_i_6, hs_i_7, hs_i_8, hs_i_9, hs_o_82, hs_r_82_0, hs_t_82_0, hs_f_82_1, hs_i_83, hs_o_84, hs_r_84_0, hs_t_84_0, hs_r_84_1, hs_t_84_1, hs_r_84_2, hs_t_84_2, hs_r_84_3, hs_t_84_3, hs_f_84_4, hs_i_85, hs_i_86, hs_i_87, hs_o_88, hs_r_88_0, hs_t_88_0, hs_r_88_1, hs_t_88_1, hs_r_88_2, hs_t_88_2, hs_r_88_3, hs_t_88_3, hs_r_88_4, hs_t_88_4, hs_r_88_5, hs_t_88_5, hs_r_88_6, hs_t_88_6, hs_r_88_7, hs_t_88_7, hs_f_88_8, hs_f_88_9, hs_i_89, hs_i_90, hs_i_91, hs_i_92, hs_i_93, hs_i_94, hs_i_95, hs_i_96, hs_i_97, hs_i_98, hs_i_99, hs_i_100, hs_i_101, hs_i_102, hs_o_103, hs_r_103_0, hs_t_103_0, hs_r_103_1, hs_t_103_1, hs_r_103_2, hs_t_103_2, hs_r_103_3, hs_t_103_3, hs_f_103_4, hs_i_104, hs_o_105, hs_r_105_0, hs_t_105_0, hs_r_105_1, hs_t_105_1, hs_r_105_2, hs_t_105_2, hs_i_106, hs_i_107, hs_o_108, hs_r_108_0, hs_t_108_0, hs_r_108_1, hs_t_108_1, hs_r_108_2, hs_t_108_2, hs_r_108_3, hs_t_108_3, hs_f_108_4, hs_i_109, hs_i_110, hs_o_111, hs_r_111_0, hs_t_111_0, hs_r_111_1, hs_t_111_1, hs_f_111_2, hs_f_111_3, hs_f_111_4, hs_i_112, hs_o_113, hs_f_113_0, hs_f_113_1, hs_f_113_2, hs_r_113_3, hs_t_113_3, hs_r_113_4, hs_t_113_4, hs_r_113_5, hs_t_113_5, hs_r_113_6, hs_t_113_6, hs_r_113_7, hs_t_113_7, hs_r_113_8, hs_t_113_8, hs_r_113_9, hs_t_113_9, hs_r_113_10, hs_t_113_10, hs_r_113_11, hs_t_113_11, hs_f_113_12, hs_f_113_13, hs_f_113_14, hs_r_113_15, hs_t_113_15, hs_f_113_16, hs_r_113_17, hs_t_113_17, hs_r_113_18, hs_t_113_18, hs_r_113_19, hs_t_113_19, hs_r_113_20, hs_t_113_20, hs_f_113_21, hs_f_113_22, hs_f_113_23, hs_r_113_24, hs_t_113_24, hs_f_113_25, hs_r_113_26, hs_t_113_26, hs_f_113_27, hs_i_114, hs_i_115, hs_i_116, hs_i_117, hs_i_118, hs_i_119, hs_i_120, hs_i_121, hs_i_122, hs_i_123, hs_i_124, hs_i_125, hs_i_126, hs_i_127, hs_i_128, hs_i_129, hx20, Int32.lt_irrefl, decide_false, sp_X5_everyTown, hb_all (show hp_T p < 31 by omega)]
      refine hd_up (fun n ρ S3 => hd_eqv [92, 95 + h] S S3 ∧ (∀ m, m < 2 ^ hp_T p → S3.2.1 92 m = lN (hg_w (hp_T p) (hp_w1 p) m (fun _ => h))) ∧ (∃ A : Nat → Nat, (∀ m, m < 2 ^ hp_T p → S3.2.1 (95 + h) m = lN (A m) ∧ A m ≤ B m) ∧ (∀ m, m < 2 ^ hp_T p → (h = 0 → m = 2 ^ hp_T p - 1) → (∀ u r, u < n → u < 2 ^ hp_T p → r < 2 ^ hp_T p → u ≠ 0 → hg_pt (hp_T p) m u r → hg_pp (hp_T p) (hp_cr p) u ≤ hp_ro p h → A m ≤ hg_w (hp_T p) (hp_w1 p) u (fun _ => h) + B r) ∧ (A m = B m ∨ ∃ u r, r < 2 ^ hp_T p ∧ hg_pt (hp_T p) m u r ∧ hg_pp (hp_T p) (hp_cr p) u ≤ hp_ro p h ∧ A m = hg_w (hp_T p) (hp_w1 p) u (fun _ => h) + B r))) ∧ ρ = [hd_vR 88, hd_vI (nI h), hd_vI 1, hd_vI (nI (2 ^ hp_T p - 1)), hd_vI (nI n)]) (2 ^ hp_T p) ?_ ?_ (i0 := 1) hpos ⟨he2, hw2, ⟨B, fun m hm => ⟨by rw [ht2]; exact hA1 m hm, Nat.le_refl _⟩, fun m hm _ => ⟨fun u r hu _ _ h0 => by omega, Or.inl rfl⟩⟩, rfl⟩
      · rintro n ρ S3 K2 hn ⟨he3, hw3, ⟨A, hA, hAB⟩, rfl⟩ hK2
        have hx3 : hx_P 1 S3 p := hx_P_eqv he3 (by intro c hc; simp only [List.mem_cons, List.not_mem_nil, or_false] at hc; omega) hx
        have e93 : S3.1 93 n = nI (hg_pp (hp_T p) (hp_cr p) n) := by
          rw [he3.1 93 (by simp only [List.mem_cons, List.not_mem_nil, or_false]; omega)]
          exact hpp n hn
        have ero : S3.1 6 h = nI (hp_ro p h) := hx3.2.2.2.2.2.2.1 h (by omega)
        have l1 := hg_pp_le hp n
        have l2 := hp.2.2.2.2.2.2.2.1 h
        have hB3 : ∀ m, m < 2 ^ hp_T p → S3.2.1 (95 + (h + 1)) m = lN (B m) := fun m hm => by
          rw [he3.2.1 (95 + (h + 1)) (by simp only [List.mem_cons, List.not_mem_nil, or_false]; omega)]
          exact (hB m hm).1
        have hrf3 : ∀ k, k < 8 → S3.2.2 90 k = 95 + k := fun k hk8 => by
          rw [he3.2.2]
          exact hrf k hk8
        simp only [wc_X7_layTable_104, wb_X7_layTable_104, hd_mth, hd_rho0, hd_args, hd_wide, hq_sQ, hd_s0, hq_sI, hq_sJ, hd_sR, hd_sP, hd_sF, hd_sZ, hd_sG, hd_sA, hd_sL, hd_sB, hd_sO, hd_sN, hd_sD, hd_sW, hd_sE, hd_sRI, hd_sRZ, hd_sRJ, hd_sRR, hd_sRV, hd_sSw, hd_sw, hd_sCI, hd_sCL, hd_iK, hd_iL, hd_iU, hd_iB, hd_iD, hd_iJ, hd_iG, hd_iA, hd_iQ, hd_iC, hd_iN, hd_iE, hd_jK, hd_jL, hd_jU, hd_jB, hd_jD, hd_jH, hd_jI, hd_jA, hd_jQ, hd_jN, hd_rL, hd_rG, hd_rA, hd_rN, hd_cI, hd_c0, hd_cJ, hd_cX, hd_cA, hd_cO, hd_v0, hd_pI, hd_pJ, hd_pR, hd_nV, hd_nS, hd_get, hd_st, hd_stW, hd_cut, List.replicate, List.length_cons, List.length_nil, List.nil_append, List.cons_append, Nat.reduceAdd, Nat.reduceSub, Nat.reduceLeDiff, true_and, and_true, if_true, if_false, Bool.false_eq_true, List.append_nil, hs_o_0, hs_r_0_0, hs_t_0_0, hs_r_0_1, hs_t_0_1, hs_r_0_2, hs_t_0_2, hs_r_0_3, hs_t_0_3, hs_r_0_4, hs_t_0_4, hs_r_0_5, hs_t_0_5, hs_r_0_6, hs_t_0_6, hs_r_0_7, hs_t_0_7, hs_f_0_8, hs_o_1, hs_f_1_0, hs_f_1_1, hs_r_1_2, hs_t_1_2, hs_r_1_3, hs_t_1_3, hs_r_1_4, hs_t_1_4, hs_r_1_5, hs_t_1_5, hs_r_1_6, hs_t_1_6, hs_r_1_7, hs_t_1_7, hs_r_1_8, hs_t_1_8, hs_r_1_9, hs_t_1_9, hs_i_2, hs_i_3, hs_i_4, hs_i_5, hs_i_6, hs_i_7, hs_i_8, hs_i_9, hs_o_82, hs_r_82_0, hs_t_82_0, hs_f_82_1, hs_i_83, hs_o_84, hs_r_84_0, hs_t_84_0, hs_r_84_1, hs_t_84_1, hs_r_84_2, hs_t_84_2, hs_r_84_3, hs_t_84_3, hs_f_84_4, hs_i_85, hs_i_86, hs_i_87, hs_o_88, hs_r_88_0, hs_t_88_0, hs_r_88_1, hs_t_88_1, hs_r_88_2, hs_t_88_2, hs_r_88_3, hs_t_88_3, hs_r_88_4, hs_t_88_4, hs_r_88_5, hs_t_88_5, hs_r_88_6, hs_t_88_6, hs_r_88_7, hs_t_88_7, hs_f_88_8, hs_f_88_9, hs_i_89, hs_i_90, hs_i_91, hs_i_92, hs_i_93, hs_i_94, hs_i_95, hs_i_96, hs_i_97, hs_i_98, hs_i_99, hs_i_100, hs_i_101, hs_i_102, hs_o_103, hs_r_103_0, hs_t_103_0, hs_r_103_1, hs_t_103_1, hs_r_103_2, hs_t_103_2, hs_r_103_3, hs_t_103_3, hs_f_103_4, hs_i_104, hs_o_105, hs_r_105_0, hs_t_105_0, hs_r_105_1, hs_t_105_1, hs_r_105_2, hs_t_105_2, hs_i_106, hs_i_107, hs_o_108, hs_r_108_0, hs_t_108_0, hs_r_108_1, hs_t_108_1, hs_r_108_2, hs_t_108_2, hs_r_108_3, hs_t_108_3, hs_f_108_4, hs_i_109, hs_i_110, hs_o_111, hs_r_111_0, hs_t_111_0, hs_r_111_1, hs_t_111_1, hs_f_111_2, hs_f_111_3, hs_f_111_4, hs_i_112, hs_o_113, hs_f_113_0, hs_f_113_1, hs_f_113_2, hs_r_113_3, hs_t_113_3, hs_r_113_4, hs_t_113_4, hs_r_113_5, hs_t_113_5, hs_r_113_6, hs_t_113_6, hs_r_113_7, hs_t_113_7, hs_r_113_8, hs_t_113_8, hs_r_113_9, hs_t_113_9, hs_r_113_10, hs_t_113_10, hs_r_113_11, hs_t_113_11, hs_f_113_12, hs_f_113_13, hs_f_113_14, hs_r_113_15, hs_t_113_15, hs_f_113_16, hs_r_113_17, hs_t_113_17, hs_r_113_18, hs_t_113_18, hs_r_113_19, hs_t_113_19, hs_r_113_20, hs_t_113_20, hs_f_113_21, hs_f_113_22, hs_f_113_23, hs_r_113_24, hs_t_113_24, hs_f_113_25, hs_r_113_26, hs_t_113_26, hs_f_113_27, hs_i_114, hs_i_115, hs_i_116, hs_i_117, hs_i_118, hs_i_119, hs_i_120, hs_i_121, hs_i_122, hs_i_123, hs_i_124, hs_i_125, hs_i_126, hs_i_127, hs_i_128, hs_i_129, hb_le (show n < 2 ^ 31 by omega) (show 2 ^ hp_T p - 1 < 2 ^ 31 by omega), show n ≤ 2 ^ hp_T p - 1 by omega, decide_true, vp_in_nI (show n < 256 by omega) (show 256 < 2 ^ 31 by decide), hd_cc (show n < 2147483648 by omega), e93, vp_in_nI (show h < 7 by omega) (show 7 < 2 ^ 31 by decide), hd_cc (show h < 2147483648 by omega), ero, hb_le (show hg_pp (hp_T p) (hp_cr p) n < 2 ^ 31 by omega) (show hp_ro p h < 2 ^ 31 by omega), hb_allbut hT hn, decide_eq_true_eq, nI_1]
        by_cases hfit : hg_pp (hp_T p) (hp_cr p) n ≤ hp_ro p h
        · simp only [hfit, if_true]
          refine sx_admit hp hh hn hrf3 hB3 (fun m hm => (hB m hm).2.1) (fun m hm => (hA m hm).1) (fun m hm => Nat.le_trans (hA m hm).2 (hB m hm).2.1) (hw3 n hn) (hp_w1_lt hp hh n) _ (fun S4 he4 hA4 => ?_)
          simp only [true_and]
          refine hK2 _ _ ⟨hd_eqv_tr he3 (hd_eqv_sub he4 (by simp)), fun m hm => ?_, ⟨fun m => if m &&& n = n ∧ (h = 0 → m = 2 ^ hp_T p - 1) then min (A m) (B (m ^^^ n) + hg_w (hp_T p) (hp_w1 p) n (fun _ => h)) else A m, fun m hm => ⟨hA4 m hm, ?_⟩, fun m hm hm0 => ⟨fun u r hu huT hrT hu0 hpt hfu => ?_, ?_⟩⟩, rfl⟩
          · rw [he4.2.1 92 (by simp only [List.mem_cons, List.not_mem_nil, or_false]; omega)]
            exact hw3 m hm
          · have := (hA m hm).2
            dsimp only
            split <;> omega
          · dsimp only
            by_cases hun : u = n
            · subst hun
              obtain ⟨q1, q2⟩ := hg_pt_un hm huT hrT hpt
              rw [if_pos ⟨q1, hm0⟩, q2]
              omega
            · have := (hAB m hm hm0).1 u r (by omega) huT hrT hu0 hpt hfu
              split <;> omega
          · dsimp only
            by_cases hc : m &&& n = n ∧ (h = 0 → m = 2 ^ hp_T p - 1)
            · rw [if_pos hc]
              rcases Nat.le_total (A m) (B (m ^^^ n) + hg_w (hp_T p) (hp_w1 p) n (fun _ => h)) with q | q
              · rw [Nat.min_eq_left q]
                exact (hAB m hm hm0).2
              · rw [Nat.min_eq_right q]
                exact Or.inr ⟨n, m ^^^ n, (hb_rest hn hm hc.1).2.2.2, hg_pt_xor hm hn hc.1, hfit, by omega⟩
            · rw [if_neg hc]
              exact (hAB m hm hm0).2
        · simp only [hfit, if_false]
          refine hK2 _ _ ⟨he3, hw3, ⟨A, hA, fun m hm hm0 => ⟨fun u r hu huT hrT hu0 hpt hfu => ?_, (hAB m hm hm0).2⟩⟩, rfl⟩
          by_cases hun : u = n
          · subst hun
            exact absurd hfu hfit
          · exact (hAB m hm hm0).1 u r (by omega) huT hrT hu0 hpt hfu
      · rintro ρ S3 K2 ⟨he3, hw3, ⟨A, hA, hAB⟩, rfl⟩
        simp only [wc_X7_layTable_104, hd_mth, hd_rho0, hd_args, hd_wide, hq_sQ, hd_s0, hq_sI, hq_sJ, hd_sR, hd_sP, hd_sF, hd_sZ, hd_sG, hd_sA, hd_sL, hd_sB, hd_sO, hd_sN, hd_sD, hd_sW, hd_sE, hd_sRI, hd_sRZ, hd_sRJ, hd_sRR, hd_sRV, hd_sSw, hd_sw, hd_sCI, hd_sCL, hd_iK, hd_iL, hd_iU, hd_iB, hd_iD, hd_iJ, hd_iG, hd_iA, hd_iQ, hd_iC, hd_iN, hd_iE, hd_jK, hd_jL, hd_jU, hd_jB, hd_jD, hd_jH, hd_jI, hd_jA, hd_jQ, hd_jN, hd_rL, hd_rG, hd_rA, hd_rN, hd_cI, hd_c0, hd_cJ, hd_cX, hd_cA, hd_cO, hd_v0, hd_pI, hd_pJ, hd_pR, hd_nV, hd_nS, hd_get, hd_st, hd_stW, hd_cut, List.replicate, List.length_cons, List.length_nil, List.nil_append, List.cons_append, Nat.reduceAdd, Nat.reduceSub, Nat.reduceLeDiff, true_and, and_true, if_true, if_false, Bool.false_eq_true, List.append_nil, hs_o_0, hs_r_0_0, hs_t_0_0, hs_r_0_1, hs_t_0_1, hs_r_0_2, hs_t_0_2, hs_r_0_3, hs_t_0_3, hs_r_0_4, hs_t_0_4, hs_r_0_5, hs_t_0_5, hs_r_0_6, hs_t_0_6, hs_r_0_7, hs_t_0_7, hs_f_0_8, hs_o_1, hs_f_1_0, hs_f_1_1, hs_r_1_2, hs_t_1_2, hs_r_1_3, hs_t_1_3, hs_r_1_4, hs_t_1_4, hs_r_1_5, hs_t_1_5, hs_r_1_6, hs_t_1_6, hs_r_1_7, hs_t_1_7, hs_r_1_8, hs_t_1_8, hs_r_1_9, hs_t_1_9, hs_i_2, hs_i_3, hs_i_4, hs_i_5, hs_i_6, hs_i_7, hs_i_8, hs_i_9, hs_o_82, hs_r_82_0, hs_t_82_0, hs_f_82_1, hs_i_83, hs_o_84, hs_r_84_0, hs_t_84_0, hs_r_84_1, hs_t_84_1, hs_r_84_2, hs_t_84_2, hs_r_84_3, hs_t_84_3, hs_f_84_4, hs_i_85, hs_i_86, hs_i_87, hs_o_88, hs_r_88_0, hs_t_88_0, hs_r_88_1, hs_t_88_1, hs_r_88_2, hs_t_88_2, hs_r_88_3, hs_t_88_3, hs_r_88_4, hs_t_88_4, hs_r_88_5, hs_t_88_5, hs_r_88_6, hs_t_88_6, hs_r_88_7, hs_t_88_7, hs_f_88_8, hs_f_88_9, hs_i_89, hs_i_90, hs_i_91, hs_i_92, hs_i_93, hs_i_94, hs_i_95, hs_i_96, hs_i_97, hs_i_98, hs_i_99, hs_i_100, hs_i_101, hs_i_102, hs_o_103, hs_r_103_0, hs_t_103_0, hs_r_103_1, hs_t_103_1, hs_r_103_2, hs_t_103_2, hs_r_103_3, hs_t_103_3, hs_f_103_4, hs_i_104, hs_o_105, hs_r_105_0, hs_t_105_0, hs_r_105_1, hs_t_105_1, hs_r_105_2, hs_t_105_2, hs_i_106, hs_i_107, hs_o_108, hs_r_108_0, hs_t_108_0, hs_r_108_1, hs_t_108_1, hs_r_108_2, hs_t_108_2, hs_r_108_3, hs_t_108_3, hs_f_108_4, hs_i_109, hs_i_110, hs_o_111, hs_r_111_0, hs_t_111_0, hs_r_111_1, hs_t_111_1, hs_f_111_2, hs_f_111_3, hs_f_111_4, hs_i_112, hs_o_113, hs_f_113_0, hs_f_113_1, hs_f_113_2, hs_r_113_3, hs_t_113_3, hs_r_113_4, hs_t_113_4, hs_r_113_5, hs_t_113_5, hs_r_113_6, hs_t_113_6, hs_r_113_7, hs_t_113_7, hs_r_113_8, hs_t_113_8, hs_r_113_9, hs_t_113_9, hs_r_113_10, hs_t_113_10, hs_r_113_11, hs_t_113_11, hs_f_113_12, hs_f_113_13, hs_f_113_14, hs_r_113_15, hs_t_113_15, hs_f_113_16, hs_r_113_17, hs_t_113_17, hs_r_113_18, hs_t_113_18, hs_r_113_19, hs_t_113_19, hs_r_113_20, hs_t_113_20, hs_f_113_21, hs_f_113_22, hs_f_113_23, hs_r_113_24, hs_t_113_24, hs_f_113_25, hs_r_113_26, hs_t_113_26, hs_f_113_27, hs_i_114, hs_i_115, hs_i_116, hs_i_117, hs_i_118, hs_i_119, hs_i_120, hs_i_121, hs_i_122, hs_i_123, hs_i_124, hs_i_125, hs_i_126, hs_i_127, hs_i_128, hs_i_129, hb_le (show 2 ^ hp_T p < 2 ^ 31 by omega) (show 2 ^ hp_T p - 1 < 2 ^ 31 by omega), show ¬ (2 ^ hp_T p ≤ 2 ^ hp_T p - 1) by omega, decide_false]
        refine hk S3 he3 (by rw [hw3 0 hpos, hg_w_0]) (fun m hm hm0 => ⟨A m, (hA m hm).1, ?_⟩)
        obtain ⟨g1, g2⟩ := hAB m hm hm0
        refine hg_tb_step (D := hp_Dh p b (h + 1)) (h := h) ?_ (fun a => ?_) (fun m hm => (hB m hm).2) hm (hA m hm).2 (fun u r hu hr hu0 hpt hfu => g1 u r hu hu hr hu0 hpt hfu) g2
        · unfold hp_Dh
          rw [decide_eq_false (show ¬ (h + 1 ≤ h) by omega)]
          rfl
        · unfold hp_Dh
          by_cases ha : a = h
          · subst ha
            simp [hh, hb]
          · have : (h ≤ a) = (h + 1 ≤ a) := propext (by omega)
            simp [ha, this]
  · have hbf2 : b.testBit h = false := by simpa using hb
    simp only [hbf2, Bool.false_eq_true, if_false, decide_true, Bool.not_true, Bool.not_false, if_true]
    refine hk S1 he1 hal1 (fun m hm hm0 => ⟨B m, hA1 m hm, hg_tb_cong (fun a => ?_) (hB m hm).2⟩)
    unfold hp_Dh
    by_cases ha : a = h
    · subst ha
      simp [hbf2]
    · have : (h ≤ a) = (h + 1 ≤ a) := propext (by omega)
      simp [this]
