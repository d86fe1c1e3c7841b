/-! the class's tables of rooms: one heap into one hall -/
theorem hs_i_tab {h : Nat} (hh : h < 8) (i : Int32) : hd_in hs_sh 1 (95 + h) i ↔ vp_in i 256 := by
  have c8 : h = 0 ∨ h = 1 ∨ h = 2 ∨ h = 3 ∨ h = 4 ∨ h = 5 ∨ h = 6 ∨ h = 7 := by omega
  rcases c8 with rfl | rfl | rfl | rfl | rfl | rfl | rfl | rfl
  · exact hs_i_95 i
  · exact hs_i_96 i
  · exact hs_i_97 i
  · exact hs_i_98 i
  · exact hs_i_99 i
  · exact hs_i_100 i
  · exact hs_i_101 i
  · exact hs_i_102 i
theorem hb_xor_or {u r T : Nat} (hu : u < 2 ^ T) (hr : r < 2 ^ T) (hd : u &&& r = 0) : (u ||| r) ^^^ u = r ∧ (u ||| r) &&& u = u ∧ u ||| r < 2 ^ T := by
  refine ⟨?_, ?_, Nat.or_lt_two_pow hu hr⟩
  · apply Nat.eq_of_testBit_eq
    intro i
    have h1 : (u &&& r).testBit i = false := by rw [hd, Nat.zero_testBit]
    rw [Nat.testBit_and] at h1
    rw [Nat.testBit_xor, Nat.testBit_or]
    cases hq : u.testBit i <;> cases hq2 : r.testBit i <;> simp [hq, hq2] at h1 ⊢
  · apply Nat.eq_of_testBit_eq
    intro i
    rw [Nat.testBit_and, Nat.testBit_or]
    cases u.testBit i <;> cases r.testBit i <;> rfl
/-- a heap's rest: what is left of m, a part of the others -/
theorem hb_rest {u m T : Nat} (hu : u < 2 ^ T) (hm : m < 2 ^ T) (hs : m &&& u = u) : (m ^^^ u) &&& ((2 ^ T - 1) ^^^ u) = m ^^^ u ∧ u ||| (m ^^^ u) = m ∧ u &&& (m ^^^ u) = 0 ∧ m ^^^ u < 2 ^ T := by
  have hb : ∀ i, u.testBit i = true → m.testBit i = true := fun i hi => by
    have h1 : (m &&& u).testBit i = u.testBit i := by rw [hs]
    rw [Nat.testBit_and, hi] at h1
    simpa using h1
  have ht : ∀ i, m.testBit i = true → i < T := fun i hi => by
    rcases Nat.lt_or_ge i T with q | q
    · exact q
    · rw [hp_hi hm q] at hi
      cases hi
  refine ⟨?_, ?_, ?_, Nat.xor_lt_two_pow hm hu⟩
  · apply Nat.eq_of_testBit_eq
    intro i
    rw [Nat.testBit_and, Nat.testBit_xor, Nat.testBit_xor, Nat.testBit_two_pow_sub_one]
    have h1 := hb i
    have h2 := ht i
    cases hq : u.testBit i with
    | true => simp [h1 hq]
    | false =>
      cases hq2 : m.testBit i with
      | true => simp [h2 hq2]
      | false => simp
  · apply Nat.eq_of_testBit_eq
    intro i
    rw [Nat.testBit_or, Nat.testBit_xor]
    have h1 := hb i
    cases hq : u.testBit i with
    | true => simp [h1 hq]
    | false => simp
  · apply Nat.eq_of_testBit_eq
    intro i
    rw [Nat.testBit_and, Nat.testBit_xor, Nat.zero_testBit]
    have h1 := hb i
    cases hq : u.testBit i with
    | true => simp [h1 hq]
    | false => simp
theorem hb_oth {u T : Nat} (hu : u < 2 ^ T) : u ||| ((2 ^ T - 1) ^^^ u) = 2 ^ T - 1 ∧ (2 ^ T - 1) ^^^ u < 2 ^ T := by
  have hpos : 0 < 2 ^ T := Nat.two_pow_pos _
  have h1 : (2 ^ T - 1) &&& u = u := by
    rw [Nat.and_comm, Nat.and_two_pow_sub_one_eq_mod, Nat.mod_eq_of_lt hu]
  have h := hb_rest hu (show 2 ^ T - 1 < 2 ^ T by omega) h1
  exact ⟨h.2.1, h.2.2.2⟩
theorem hb_sub_dis {u r T : Nat} (hs : r &&& ((2 ^ T - 1) ^^^ u) = r) (hu : u < 2 ^ T) : u &&& r = 0 ∧ r < 2 ^ T := by
  constructor
  · rw [← hs]
    apply Nat.eq_of_testBit_eq
    intro i
    rw [Nat.testBit_and, Nat.testBit_and, Nat.testBit_xor, Nat.testBit_two_pow_sub_one, Nat.zero_testBit]
    cases hq : u.testBit i with
    | false => simp
    | true =>
      have ht : i < T := by
        rcases Nat.lt_or_ge i T with q | q
        · exact q
        · rw [hp_hi hu q] at hq
          cases hq
      simp [ht]
  · rw [← hs]
    exact Nat.lt_of_le_of_lt Nat.and_le_right (hb_oth hu).2
theorem hb_lmin {a b : Nat} (ha : a < 2 ^ 63) (hb : b < 2 ^ 63) : (if lN b < lN a then lN b else lN a) = lN (min a b) := by
  by_cases h : b < a
  · rw [if_pos ((pk_lLT hb ha).mpr h), Nat.min_eq_right (by omega)]
  · rw [if_neg (fun q => h ((pk_lLT hb ha).mp q)), Nat.min_eq_left (by omega)]
set_option maxHeartbeats 8000000 in
theorem sx_admit {S : hd_S} {p : hp_P} (hp : hp_ok p) {h u W : Nat} {A B : Nat → Nat} (hh : h < hp_H p) (hu : u < 2 ^ hp_T p) (hrf : ∀ k, k < 8 → S.2.2 90 k = 95 + k)
    (hB : ∀ m, m < 2 ^ hp_T p → S.2.1 (95 + (h + 1)) m = lN (B m)) (hBl : ∀ m, m < 2 ^ hp_T p → B m ≤ 1152921504606846976) (hA : ∀ m, m < 2 ^ hp_T p → S.2.1 (95 + h) m = lN (A m)) (hAl : ∀ m, m < 2 ^ hp_T p → A m ≤ 1152921504606846976) (hW : S.2.1 92 u = lN W) (hWl : W < 2 ^ 53) (post : Option hd_V → hd_S → Prop)
    (hk : ∀ S2, hd_eqv [95 + h] S S2 → (∀ m, m < 2 ^ hp_T p → S2.2.1 (95 + h) m = lN (if m &&& u = u ∧ (h = 0 → m = 2 ^ hp_T p - 1) then min (A m) (B (m ^^^ u) + W) else A m)) → post none S2) : wm_X7_admit [hd_vR 88, hd_vI (nI h), hd_vI (nI u), hd_vI (nI ((2 ^ hp_T p - 1) ^^^ u))] S post := by
  have hT : hp_T p ≤ 8 := hp.1
  have hH : hp_H p ≤ 7 := hp.2.1
  have h256 : 2 ^ hp_T p ≤ 256 := Nat.pow_le_pow_right (n := 2) (by decide) hT
  have hpos : 0 < 2 ^ hp_T p := Nat.two_pow_pos _
  obtain ⟨ho1, ho2⟩ := hb_oth hu
  have hxo : (2 ^ hp_T p - 1) ^^^ ((2 ^ hp_T p - 1) ^^^ u) = u := by
    rw [← Nat.xor_assoc, Nat.xor_self, Nat.zero_xor]
  have big : ∀ x : Nat, x ≤ 1152921504606846976 → x + W < 2 ^ 63 := fun x hx => by
    have : (2 : Nat) ^ 53 = 9007199254740992 := by decide
    have : (2 : Nat) ^ 63 = 9223372036854775808 := by decide
    omega
  have big0 : ∀ x : Nat, x ≤ 1152921504606846976 → x < 2 ^ 63 := fun x hx => by
    have := big x hx
    omega
  have hne : 95 + (h + 1) ≠ 95 + h := by omega
  generalize ho : (2 ^ hp_T p - 1) ^^^ u = o at ho1 ho2 hxo
  have hall : (2 ^ hp_T p - 1) ^^^ u = o := ho
  have r4 := hrf (h + 1) (by omega)
  have r5 := hrf h (by omega)
  have uall : (2 ^ hp_T p - 1) &&& u = u := by
    rw [Nat.and_comm, Nat.and_two_pow_sub_one_eq_mod, Nat.mod_eq_of_lt hu]
  have emin := hb_lmin (big0 _ (hAl (2 ^ hp_T p - 1) (by omega))) (big (B o) (hBl o ho2))
  simp only [wm_X7_admit, wo_X7_admit, hd_mth, hd_rho0, hd_args, hd_wide, hd_sQ, hd_s0, hq_sI, hq_sJ, hd_sR, hd_sP, hd_sF, hd_sZ, hd_sG, hd_sA, hd_sL, hd_sB, hd_sO, hd_sN, hd_sD, hd_sW, hd_sE, hd_sRI, hd_sRZ, hd_sRJ, hd_sRR, hd_sRV, hd_sSw, hd_sw, hd_sCI, hd_sCL, hd_iK, hd_iL, hd_iU, hd_iB, hd_iD, hd_iJ, hd_iG, hd_iA, hd_iQ, hd_iC, hd_iN, hd_iE, hd_jK, hd_jL, hd_jU, hd_jB, hd_jD, hd_jH, hd_jI, hd_jA, hd_jQ, hd_jN, hd_rL, hd_rG, hd_rA, hd_rN, hd_cI, hd_c0, hd_cJ, hd_cX, hd_cA, hd_cO, hd_v0, hd_pI, hd_pJ, hd_pR, hd_nV, hd_nS, hd_get, hd_st, hd_stW, hd_cut, List.replicate, List.length_cons, List.length_nil, List.nil_append, List.cons_append, Nat.reduceAdd, Nat.reduceSub, Nat.reduceLeDiff, true_and, and_true, if_true, if_false, Bool.false_eq_true, List.append_nil, List.set_cons_succ, List.set_cons_zero, hs_o_0, hs_r_0_0, hs_t_0_0, hs_r_0_1, hs_t_0_1, hs_r_0_2, hs_t_0_2, hs_r_0_3, hs_t_0_3, hs_r_0_4, hs_t_0_4, hs_r_0_5, hs_t_0_5, hs_r_0_6, hs_t_0_6, hs_r_0_7, hs_t_0_7, hs_f_0_8, hs_o_1, hs_f_1_0, hs_f_1_1, hs_r_1_2, hs_t_1_2, hs_r_1_3, hs_t_1_3, hs_r_1_4, hs_t_1_4, hs_r_1_5, hs_t_1_5, hs_r_1_6, hs_t_1_6, hs_r_1_7, hs_t_1_7, hs_r_1_8, hs_t_1_8, hs_r_1_9, hs_t_1_9, hs_i_2, hs_i_3, hs_i_4, hs_i_5, hs_i_6, hs_i_7, hs_i_8, hs_i_9, hs_o_82, hs_r_82_0, hs_t_82_0, hs_f_82_1, hs_i_83, hs_o_84, hs_r_84_0, hs_t_84_0, hs_r_84_1, hs_t_84_1, hs_r_84_2, hs_t_84_2, hs_r_84_3, hs_t_84_3, hs_f_84_4, hs_i_85, hs_i_86, hs_i_87, hs_o_88, hs_r_88_0, hs_t_88_0, hs_r_88_1, hs_t_88_1, hs_r_88_2, hs_t_88_2, hs_r_88_3, hs_t_88_3, hs_r_88_4, hs_t_88_4, hs_r_88_5, hs_t_88_5, hs_r_88_6, hs_t_88_6, hs_r_88_7, hs_t_88_7, hs_f_88_8, hs_f_88_9, hs_i_89, hs_i_90, hs_i_91, hs_i_92, hs_i_93, hs_i_94, hs_i_95, hs_i_96, hs_i_97, hs_i_98, hs_i_99, hs_i_100, hs_i_101, hs_i_102, hs_o_103, hs_r_103_0, hs_t_103_0, hs_r_103_1, hs_t_103_1, hs_r_103_2, hs_t_103_2, hs_r_103_3, hs_t_103_3, hs_f_103_4, hs_i_104, hs_o_105, hs_r_105_0, hs_t_105_0, hs_r_105_1, hs_t_105_1, hs_r_105_2, hs_t_105_2, hs_i_106, hs_i_107, hs_o_108, hs_r_108_0, hs_t_108_0, hs_r_108_1, hs_t_108_1, hs_r_108_2, hs_t_108_2, hs_r_108_3, hs_t_108_3, hs_f_108_4, hs_i_109, hs_i_110, hs_o_111, hs_r_111_0, hs_t_111_0, hs_r_111_1, hs_t_111_1, hs_f_111_2, hs_f_111_3, hs_f_111_4, hs_i_112, hs_o_113, hs_f_113_0, hs_f_113_1, hs_f_113_2, hs_r_113_3, hs_t_113_3, hs_r_113_4, hs_t_113_4, hs_r_113_5, hs_t_113_5, hs_r_113_6, hs_t_113_6, hs_r_113_7, hs_t_113_7, hs_r_113_8, hs_t_113_8, hs_r_113_9, hs_t_113_9, hs_r_113_10, hs_t_113_10, hs_r_113_11, hs_t_113_11, hs_f_113_12, hs_f_113_13, hs_f_113_14, hs_r_113_15, hs_t_113_15, hs_f_113_16, hs_r_113_17, hs_t_113_17, hs_r_113_18, hs_t_113_18, hs_r_113_19, hs_t_113_19, hs_r_113_20, hs_t_113_20, hs_f_113_21, hs_f_113_22, hs_f_113_23, hs_r_113_24, hs_t_113_24, hs_f_113_25, hs_r_113_26, hs_t_113_26, hs_f_113_27, hs_i_114, hs_i_115, hs_i_116, hs_i_117, hs_i_118, hs_i_119, hs_i_120, hs_i_121, hs_i_122, hs_i_123, hs_i_124, hs_i_125, hs_i_126, hs_i_127, hs_i_128, hs_i_129, nI_1, vp_in_nI (show h + 1 < 8 by omega) (show 8 < 2 ^ 31 by decide), hd_cc (show h + 1 < 2147483648 by omega), vp_in_nI (show h < 8 by omega) (show 8 < 2 ^ 31 by decide), hd_cc (show h < 2147483648 by omega), r4, r5, vp_in_nI (show u < 256 by omega) (show 256 < 2 ^ 31 by decide), hd_cc (show u < 2147483648 by omega), hW, fa_or, ho1, hs_i_tab (show h < 8 by omega), hs_i_tab (show h + 1 < 8 by omega), vp_in_nI (show 2 ^ hp_T p - 1 < 256 by omega) (show 256 < 2 ^ 31 by decide), hd_cc (show 2 ^ hp_T p - 1 < 2147483648 by omega), vp_in_nI (show o < 256 by omega) (show 256 < 2 ^ 31 by decide), hd_cc (show o < 2147483648 by omega), hA (2 ^ hp_T p - 1) (by omega), hB o ho2, lN_add, emin, hb_z (show h < 2 ^ 31 by omega), decide_eq_true_eq]
  -- the loop below the others
  have loop : ∀ r0, r0 &&& o = r0 → (h = 0 → r0 = 0) → (h ≠ 0 → r0 = o) → hd_sH wc_X7_admit_59 wb_X7_admit_59 [hd_vR 88, hd_vI (nI h), hd_vI (nI u), hd_vI (nI o), hd_vR (95 + (h + 1)), hd_vR (95 + h), hd_vJ (lN W), hd_vN, hd_vI (nI r0)] (hd_wL S (95 + h) (2 ^ hp_T p - 1) (lN (min (A (2 ^ hp_T p - 1)) (B o + W)))) (fun ρ S => post none S) post := by
    intro r0 hr0 h0 h1
    refine hd_dn (fun r ρ S2 => hd_eqv [95 + h] S S2 ∧ r &&& o = r ∧ (h = 0 → r = 0) ∧ (∀ m, m < 2 ^ hp_T p → S2.2.1 (95 + h) m = lN (if m &&& u = u ∧ ((h = 0 → m = 2 ^ hp_T p - 1) ∧ (h ≠ 0 → r ≤ m ^^^ u)) then min (A m) (B (m ^^^ u) + W) else A m)) ∧ ρ = [hd_vR 88, hd_vI (nI h), hd_vI (nI u), hd_vI (nI o), hd_vR (95 + (h + 1)), hd_vR (95 + h), hd_vJ (lN W), hd_vN, hd_vI (nI r)]) ?_ (i0 := r0) ⟨hd_eqv_l (hd_eqv_rf _ _) (by simp), hr0, h0, fun m hm => ?_, rfl⟩
    · rintro r ρ S2 K ⟨he, hro, hr00, hm2, rfl⟩ hK
      have hrlt : r < 2 ^ hp_T p := by
        rw [← hro]
        exact Nat.lt_of_le_of_lt Nat.and_le_right ho2
      by_cases hr : 0 < r
      · have hh0 : h ≠ 0 := fun q => by have := hr00 q; omega
        have hq1 := hb_sub_is o (r - 1)
        have hq2 := hb_sub_lt (o := o) hr
        generalize hq : (r - 1) &&& o = q at hq1 hq2
        have hqlt : q < 2 ^ hp_T p := by omega
        have hdis := hb_sub_dis (T := hp_T p) (u := u) (r := q) (by rw [hall]; exact hq1) hu
        obtain ⟨g1, g2, g3⟩ := hb_xor_or hu hqlt hdis.1
        have eB : S2.2.1 (95 + (h + 1)) q = lN (B q) := by
          rw [he.2.1 (95 + (h + 1)) (by simp)]
          exact hB q hqlt
        have eA : S2.2.1 (95 + h) (u ||| q) = lN (A (u ||| q)) := by
          rw [hm2 (u ||| q) g3, if_neg]
          rw [g1]
          rintro ⟨-, -, q3⟩
          have := q3 hh0
          omega
        have e1 : nI r - 1 = nI (r - 1) := by
          rw [show (1 : Int32) = nI 1 from rfl, pk_sub (by omega)]
        simp only [wc_X7_admit_59, wb_X7_admit_59, hd_mth, hd_rho0, hd_args, hd_wide, hq_sQ, hd_s0, hq_sI, hq_sJ, hd_sR, hd_sP, hd_sF, hd_sZ, hd_sG, hd_sA, hd_sL, hd_sB, hd_sO, hd_sN, hd_sD, hd_sW, hd_sE, hd_sRI, hd_sRZ, hd_sRJ, hd_sRR, hd_sRV, hd_sSw, hd_sw, hd_sCI, hd_sCL, hd_iK, hd_iL, hd_iU, hd_iB, hd_iD, hd_iJ, hd_iG, hd_iA, hd_iQ, hd_iC, hd_iN, hd_iE, hd_jK, hd_jL, hd_jU, hd_jB, hd_jD, hd_jH, hd_jI, hd_jA, hd_jQ, hd_jN, hd_rL, hd_rG, hd_rA, hd_rN, hd_cI, hd_c0, hd_cJ, hd_cX, hd_cA, hd_cO, hd_v0, hd_pI, hd_pJ, hd_pR, hd_nV, hd_nS, hd_get, hd_st, hd_stW, hd_cut, List.replicate, List.length_cons, List.length_nil, List.nil_append, List.cons_append, Nat.reduceAdd, Nat.reduceSub, Nat.reduceLeDiff, true_and, and_true, if_true, if_false, Bool.false_eq_true, List.append_nil, hs_o_0, hs_r_0_0, hs_t_0_0, hs_r_0_1, hs_t_0_1, hs_r_0_2, hs_t_0_2, hs_r_0_3, hs_t_0_3, hs_r_0_4, hs_t_0_4, hs_r_0_5, hs_t_0_5, hs_r_0_6, hs_t_0_6, hs_r_0_7, hs_t_0_7, hs_f_0_8, hs_o_1, hs_f_1_0, hs_f_1_1, hs_r_1_2, hs_t_1_2, hs_r_1_3, hs_t_1_3, hs_r_1_4, hs_t_1_4, hs_r_1_5, hs_t_1_5, hs_r_1_6, hs_t_1_6, hs_r_1_7, hs_t_1_7, hs_r_1_8, hs_t_1_8, hs_r_1_9, hs_t_1_9, hs_i_2, hs_i_3, hs_i_4, hs_i_5, hs_i_6, hs_i_7, hs_i_8, hs_i_9, hs_o_82, hs_r_82_0, hs_t_82_0, hs_f_82_1, hs_i_83, hs_o_84, hs_r_84_0, hs_t_84_0, hs_r_84_1, hs_t_84_1, hs_r_84_2, hs_t_84_2, hs_r_84_3, hs_t_84_3, hs_f_84_4, hs_i_85, hs_i_86, hs_i_87, hs_o_88, hs_r_88_0, hs_t_88_0, hs_r_88_1, hs_t_88_1, hs_r_88_2, hs_t_88_2, hs_r_88_3, hs_t_88_3, hs_r_88_4, hs_t_88_4, hs_r_88_5, hs_t_88_5, hs_r_88_6, hs_t_88_6, hs_r_88_7, hs_t_88_7, hs_f_88_8, hs_f_88_9, hs_i_89, hs_i_90, hs_i_91, hs_i_92, hs_i_93, hs_i_94, hs_i_95, hs_i_96, hs_i_97, hs_i_98, hs_i_99, hs_i_100, hs_i_101, hs_i_102, hs_o_103, hs_r_103_0, hs_t_103_0, hs_r_103_1, hs_t_103_1, hs_r_103_2, hs_t_103_2, hs_r_103_3, hs_t_103_3, hs_f_103_4, hs_i_104, hs_o_105, hs_r_105_0, hs_t_105_0, hs_r_105_1, hs_t_105_1, hs_r_105_2, hs_t_105_2, hs_i_106, hs_i_107, hs_o_108, hs_r_108_0, hs_t_108_0, hs_r_108_1, hs_t_108_1, hs_r_108_2, hs_t_108_2, hs_r_108_3, hs_t_108_3, hs_f_108_4, hs_i_109, hs_i_110, hs_o_111, hs_r_111_0, hs_t_111_0, hs_r_111_1, hs_t_111_1, hs_f_111_2, hs_f_111_3, hs_f_111_4, hs_i_112, hs_o_113, hs_f_113_0, hs_f_113_1, hs_f_113_2, hs_r_113_3, hs_t_113_3, hs_r_113_4, hs_t_113_4, hs_r_113_5, hs_t_113_5, hs_r_113_6, hs_t_113_6, hs_r_113_7, hs_t_113_7, hs_r_113_8, hs_t_113_8, hs_r_113_9, hs_t_113_9, hs_r_113_10, hs_t_113_10, hs_r_113_11, hs_t_113_11, hs_f_113_12, hs_f_113_13, hs_f_113_14, hs_r_113_15, hs_t_113_15, hs_f_113_16, hs_r_113_17, hs_t_113_17, hs_r_113_18, hs_t_113_18, hs_r_113_19, hs_t_113_19, hs_r_113_20, hs_t_113_20, hs_f_113_21, hs_f_113_22, hs_f_113_23, hs_r_113_24, hs_t_113_24, hs_f_113_25, hs_r_113_26, hs_t_113_26, hs_f_113_27, hs_i_114, hs_i_115, hs_i_116, hs_i_117, hs_i_118, hs_i_119, hs_i_120, hs_i_121, hs_i_122, hs_i_123, hs_i_124, hs_i_125, hs_i_126, hs_i_127, hs_i_128, hs_i_129, hb_0lt (show r < 2 ^ 31 by omega), hr, decide_true, e1, fa_and, fa_or, hq, hs_i_tab (show h < 8 by omega), hs_i_tab (show h + 1 < 8 by omega), vp_in_nI (show q < 256 by omega) (show 256 < 2 ^ 31 by decide), hd_cc (show q < 2147483648 by omega), vp_in_nI (show u ||| q < 256 by omega) (show 256 < 2 ^ 31 by decide), hd_cc (show u ||| q < 2147483648 by omega), eA, eB, lN_add, pk_lLT (big _ (hBl q hqlt)) (big0 _ (hAl _ g3)), decide_eq_true_eq]
        have fin : ∀ v : Nat, v = min (A (u ||| q)) (B q + W) → ∀ S3, hd_eqv [95 + h] S S3 → (∀ m, m < 2 ^ hp_T p → S3.2.1 (95 + h) m = if m = u ||| q then lN v else S2.2.1 (95 + h) m) → K [hd_vR 88, hd_vI (nI h), hd_vI (nI u), hd_vI (nI o), hd_vR (95 + (h + 1)), hd_vR (95 + h), hd_vJ (lN W), hd_vN, hd_vI (nI q)] S3 := by
          intro v hv S3 he3 hm3
          refine hK q _ _ hq2 ⟨he3, hq1, fun r => absurd r hh0, fun m hm => ?_, rfl⟩
          rw [hm3 m hm]
          by_cases hmq : m = u ||| q
          · rw [if_pos hmq, hmq, if_pos ⟨g2, fun r => absurd r hh0, fun _ => by rw [g1]; exact Nat.le_refl _⟩, g1, hv]
          · rw [if_neg hmq, hm2 m hm]
            congr 1
            by_cases hmu : m &&& u = u
            · obtain ⟨k1, k2, k3, k4⟩ := hb_rest hu hm hmu
              rw [hall] at k1
              have hiff : (r ≤ m ^^^ u) ↔ (q ≤ m ^^^ u) := by
                constructor
                · intro r1
                  omega
                · intro r1
                  rcases Nat.lt_or_ge (m ^^^ u) r with r2 | r2
                  · have := hb_sub_next (hp_T p) o r (m ^^^ u) hrlt hro k1 r2
                    rw [hq] at this
                    have e9 : m ^^^ u = q := by omega
                    rw [e9] at k2
                    exact absurd k2.symm hmq
                  · exact r2
              simp only [hmu, true_and, hiff]
            · simp only [hmu, false_and]
        by_cases hlt : B q + W < A (u ||| q)
        · rw [if_pos hlt]
          refine fin (B q + W) (by omega) _ (hd_eqv_l he (by simp)) (fun m hm => ?_)
          rw [hd_wL2]
          by_cases hmq : m = u ||| q
          · simp [hmq]
          · simp [hmq]
        · rw [if_neg hlt]
          refine fin (A (u ||| q)) (by omega) _ he (fun m hm => ?_)
          by_cases hmq : m = u ||| q
          · rw [if_pos hmq, hmq, eA]
          · rw [if_neg hmq]
      · have hr9 : r = 0 := by omega
        simp only [wc_X7_admit_59, hd_mth, hd_rho0, hd_args, hd_wide, hd_sQ, hd_s0, hd_sI, hd_sJ, hd_sR, hd_sP, hd_sF, hd_sZ, hd_sG, hd_sA, hd_sL, hd_sB, hd_sO, hd_sN, hd_sD, hd_sW, hd_sE, hd_sRI, hd_sRZ, hd_sRJ, hd_sRR, hd_sRV, hd_sSw, hd_sw, hd_sCI, hd_sCL, hd_iK, hd_iL, hd_iU, hd_iB, hd_iD, hd_iJ, hd_iG, hd_iA, hd_iQ, hd_iC, hd_iN, hd_iE, hd_jK, hd_jL, hd_jU, hd_jB, hd_jD, hd_jH, hd_jI, hd_jA, hd_jQ, hd_jN, hd_rL, hd_rG, hd_rA, hd_rN, hd_cI, hd_c0, hd_cJ, hd_cX, hd_cA, hd_cO, hd_v0, hd_pI, hd_pJ, hd_pR, hd_nV, hd_nS, hd_get, hd_st, hd_stW, hd_cut, List.replicate, List.length_cons, List.length_nil, List.nil_append, List.cons_append, Nat.reduceAdd, Nat.reduceSub, Nat.reduceLeDiff, true_and, and_true, if_true, if_false, Bool.false_eq_true, List.append_nil, hs_o_0, hs_r_0_0, hs_t_0_0, hs_r_0_1, hs_t_0_1, hs_r_0_2, hs_t_0_2, hs_r_0_3, hs_t_0_3, hs_r_0_4, hs_t_0_4, hs_r_0_5, hs_t_0_5, hs_r_0_6, hs_t_0_6, hs_r_0_7, hs_t_0_7, hs_f_0_8, hs_o_1, hs_f_1_0, hs_f_1_1, hs_r_1_2, hs_t_1_2, hs_r_1_3, hs_t_1_3, hs_r_1_4, hs_t_1_4, hs_r_1_5, hs_t_1_5, hs_r_1_6, hs_t_1_6, hs_r_1_7, hs_t_1_7, hs_r_1_8, hs_t_1_8, hs_r_1_9, hs_t_1_9, hs_i_2, hs_i_3, hs_i_4, hs_i_5, hs_i_6, hs_i_7, hs_i_8, hs_i_9, hs_o_82, hs_r_82_0, hs_t_82_0, hs_f_82_1, hs_i_83, hs_o_84, hs_r_84_0, hs_t_84_0, hs_r_84_1, hs_t_84_1, hs_r_84_2, hs_t_84_2, hs_r_84_3, hs_t_84_3, hs_f_84_4, hs_i_85, hs_i_86, hs_i_87, hs_o_88, hs_r_88_0, hs_t_88_0, hs_r_88_1, hs_t_88_1, hs_r_88_2, hs_t_88_2, hs_r_88_3, hs_t_88_3, hs_r_88_4, hs_t_88_4, hs_r_88_5, hs_t_88_5, hs_r_88_6, hs_t_88_6, hs_r_88_7, hs_t_88_7, hs_f_88_8, hs_f_88_9, hs_i_89, hs_i_90, hs_i_91, hs_i_92, hs_i_93, hs_i_94, hs_i_95, hs_i_96, hs_i_97, hs_i_98, hs_i_99, hs_i_100, hs_i_101, hs_i_102, hs_o_103, hs_r_103_0, hs_t_103_0, hs_r_103_1, hs_t_103_1, hs_r_103_2, hs_t_103_2, hs_r_103_3, hs_t_103_3, hs_f_103_4, hs_i_104, hs_o_105, hs_r_105_0, hs_t_105_0, hs_r_105_1, hs_t_105_1, hs_r_105_2, hs_t_105_2, hs_i_106, hs_i_107, hs_o_108, hs_r_108_0, hs_t_108_0, hs_r_108_1, hs_t_108_1, hs_r_108_2, hs_t_108_2, hs_r_108_3, hs_t_108_3, hs_f_108_4, hs_i_109, hs_i_110, hs_o_111, hs_r_111_0, hs_t_111_0, hs_r_111_1, hs_t_111_1, hs_f_111_2, hs_f_111_3, hs_f_111_4, hs_i_112, hs_o_113, hs_f_113_0, hs_f_113_1, hs_f_113_2, hs_r_113_3, hs_t_113_3, hs_r_113_4, hs_t_113_4, hs_r_113_5, hs_t_113_5, hs_r_113_6, hs_t_113_6, hs_r_113_7, hs_t_113_7, hs_r_113_8, hs_t_113_8, hs_r_113_9, hs_t_113_9, hs_r_113_10, hs_t_113_10, hs_r_113_11, hs_t_113_11, hs_f_113_12, hs_f_113_13, hs_f_113_14, hs_r_113_15, hs_t_113_15, hs_f_113_16, hs_r_113_17, hs_t_113_17, hs_r_113_18, hs_t_113_18, hs_r_113_19, hs_t_113_19, hs_r_113_20, hs_t_113_20, hs_f_113_21, hs_f_113_22, hs_f_113_23, hs_r_113_24, hs_t_113_24, hs_f_113_25, hs_r_113_26, hs_t_113_26, hs_f_113_27, hs_i_114, hs_i_115, hs_i_116, hs_i_117, hs_i_118, hs_i_119, hs_i_120, hs_i_121, hs_i_122, hs_i_123, hs_i_124, hs_i_125, hs_i_126, hs_i_127, hs_i_128, hs_i_129, hb_0lt (show r < 2 ^ 31 by omega), hr, decide_false]
        refine hk S2 he (fun m hm => ?_)
        rw [hm2 m hm]
        have hz : (h ≠ 0 → r ≤ m ^^^ u) ↔ True := ⟨fun _ => trivial, fun _ _ => by omega⟩
        simp only [hz, and_true]
    · rw [hd_wL2]
      by_cases hm9 : m = 2 ^ hp_T p - 1
      · rw [if_pos ⟨rfl, hm9⟩, hm9, if_pos ⟨uall, fun _ => rfl, fun q => by rw [hall, h1 q]; exact Nat.le_refl _⟩, hall]
      · rw [if_neg (fun q => hm9 q.2), hA m hm, if_neg]
        rintro ⟨q1, q2, q3⟩
        by_cases hh0 : h = 0
        · exact hm9 (q2 hh0)
        · obtain ⟨k1, k2, k3, k4⟩ := hb_rest hu hm q1
          have k5 := q3 hh0
          rw [h1 hh0] at k5
          rw [hall] at k1
          have k6 : m ^^^ u ≤ o := by rw [← k1]; exact Nat.and_le_right
          have k7 : m ^^^ u = o := by omega
          rw [k7] at k2
          exact hm9 (k2.symm.trans ho1)
  by_cases hh0 : h = 0
  · rw [if_pos hh0]
    exact loop 0 (Nat.zero_and _) (fun _ => rfl) (fun q => absurd hh0 q)
  · rw [if_neg hh0]
    exact loop o (Nat.and_self _) (fun q => absurd q hh0) (fun _ => rfl)
