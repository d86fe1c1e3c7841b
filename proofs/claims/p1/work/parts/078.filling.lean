/-! the least filling by all tables; by the nearest halls -/
theorem hx_tb_eq {S S2 : hd_S} {p : hp_P} {b h : Nat} (he : S2.2.1 (95 + h) = S.2.1 (95 + h)) (ht : hx_tb S p b h) : hx_tb S2 p b h := by
  intro m hm hm0
  rw [he]
  exact ht m hm hm0
theorem hx_tb_set {S : hd_S} {p : hp_P} {b s h : Nat} (hbs : b / 2 ^ h = s / 2 ^ h) (ht : hx_tb S p b h) : hx_tb S p s h := by
  intro m hm hm0
  obtain ⟨v, hv, hg⟩ := ht m hm hm0
  refine ⟨v, hv, hg_tb_cong (fun a => ?_) hg⟩
  unfold hp_Dh
  by_cases ha : h ≤ a
  · have e : ∀ x : Nat, x.testBit a = (x / 2 ^ h).testBit (a - h) := fun x => by
      rw [Nat.testBit_div_two_pow, show a - h + h = a by omega]
    rw [e b, e s, hbs]
  · rw [decide_eq_false ha]
    rfl
theorem hx_tb_top {S : hd_S} {p : hp_P} (s : Nat) (h : ∀ m, m < 2 ^ hp_T p → S.2.1 (95 + hp_H p) m = lN (if m = 0 then 0 else 1152921504606846976)) : hx_tb S p s (hp_H p) := by
  intro m hm _
  refine ⟨_, h m hm, hg_tb_none (fun a => ?_) hm⟩
  unfold hp_Dh
  by_cases ha : hp_H p ≤ a
  · rw [decide_eq_false (show ¬ a < hp_H p by omega)]
    simp
  · rw [decide_eq_false ha]
    rfl
theorem hp_fl_tb {p : hp_P} (hp : hp_ok p) {s v : Nat} (h : hg_tb (hp_T p) (hp_cr p) (hp_ro p) (hp_w1 p) 1152921504606846976 (hp_Dh p s 0) (2 ^ hp_T p - 1) v) : lN v = hp_fl (hp_rmc p s) := by
  have h2 : hg_tb (hp_T p) (hp_cr p) (hp_ro p) (hp_w1 p) 1152921504606846976 (hp_D p s) (2 ^ hp_T p - 1) v := hg_tb_cong (fun a => by simp [hp_Dh, hp_D]) h
  rcases hp_rmc_w1 hp h2 with ⟨q1, q2⟩ | q
  · rw [q2, q1]
    rfl
  · rw [q]
    rfl
/-- what the tables of rooms hold when they aren't stale -/
def hx_t0 (S : hd_S) (p : hp_P) : Prop := (∀ h, h < hp_H p → ∀ t, t < hp_T p → S.2.1 91 (h * 8 + t) = lN (hp_w1 p h t)) ∧ (∀ m, m < 2 ^ hp_T p → S.1 93 m = nI (hg_pp (hp_T p) (hp_cr p) m)) ∧ (∀ m, m < 2 ^ hp_T p → S.2.1 (95 + hp_H p) m = lN (if m = 0 then 0 else 1152921504606846976)) ∧ (S.1 88 8 = -1 ∨ ∃ b, b < 2 ^ hp_H p ∧ S.1 88 8 = nI b ∧ ∀ h, h < hp_H p → hx_tb S p b h) ∧ (∀ s, s < 2 ^ hp_H p → S.2.1 89 s = -2 ∨ S.2.1 89 s = hp_fl (hp_rmc p s))
/-- what they hold at all times -/
def hx_rm (p : hp_P) (S : hd_S) : Prop := (∀ k, k < 8 → S.2.2 90 k = 95 + k) ∧ S.2.1 92 0 = lN 0 ∧ S.1 93 0 = nI 0 ∧ (S.1 88 9 = 0 ∨ S.1 88 9 = 1) ∧ (S.1 88 9 = 0 → hx_t0 S p)
theorem hp_pm {p : hp_P} (hp : hp_ok p) {s t h : Nat} (ht : t < hp_T p) (hh : h < hp_H p) (hw : hp_wy p h t = hp_nw p s t (hp_H p)) (hf : ∀ j, j < h → ¬ (s.testBit j = true ∧ hp_wy p j t = hp_nw p s t (hp_H p))) : ∀ b, b < hp_H p → s.testBit b = true → hp_w1 p h t ≤ hp_w1 p b t := by
  intro b hb hbs
  have nwle : ∀ n a, a < n → s.testBit a = true → hp_nw p s t n ≤ hp_wy p a t := by
    intro n
    induction n with
    | zero => intro a ha; omega
    | succ n ih =>
      intro a ha hb
      simp only [hp_nw]
      by_cases han : a = n
      · subst han
        simp only [hb, if_true]
        exact Nat.min_le_right _ _
      · have := ih a (by omega) hb
        split
        · exact Nat.le_trans (Nat.min_le_left _ _) this
        · exact this
  have h1 := nwle (hp_H p) b hb hbs
  refine hp_near_least hp ht hh hb ?_
  rcases Nat.lt_or_ge (hp_wy p h t) (hp_wy p b t) with q | q
  · exact Or.inl q
  · refine Or.inr ⟨by omega, ?_⟩
    rcases Nat.lt_or_ge b h with r | r
    · exact absurd ⟨hbs, by omega⟩ (hf b r)
    · exact r
set_option maxHeartbeats 8000000 in
theorem sx_nearestFilling {S : hd_S} {p : hp_P} (hp : hp_ok p) (hx : hx_P 1 S p) (hr : hx_R S p) (htr : ∀ h, h < hp_H p → ∀ t, t < hp_T p → S.2.1 91 (h * 8 + t) = lN (hp_w1 p h t)) {s : Nat} (hs : s < 2 ^ hp_H p) (post : Option hd_V → hd_S → Prop)
    (hk : ∀ S2 v, hd_eqx [94] S S2 → (v = -2 ∨ v = hp_fl (hp_rmc p s)) → (hp_T p = 0 → v ≠ -2) → post (some (hd_vJ v)) S2) : wm_X7_nearestFilling [hd_vR 88, hd_vI (nI s)] S post := by
  have hT : hp_T p ≤ 8 := hp.1
  have hH : hp_H p ≤ 7 := hp.2.1
  have h128 := hp_set128 hp hs
  simp only [wm_X7_nearestFilling, wo_X7_nearestFilling, hd_mth, hd_rho0, hd_args, hd_wide, hq_sQ, hd_s0, hq_sI, hq_sJ, hd_sR, hd_sP, hd_sF, hd_sZ, hd_sG, hd_sA, hd_sL, hd_sB, hd_sO, hd_sN, hd_sD, hd_sW, hd_sE, hd_sRI, hd_sRZ, hd_sRJ, hd_sRR, hd_sRV, hd_sSw, hd_sw, hd_sCI, hd_sCL, hd_iK, hd_iL, hd_iU, hd_iB, hd_iD, hd_iJ, hd_iG, hd_iA, hd_iQ, hd_iC, hd_iN, hd_iE, hd_jK, hd_jL, hd_jU, hd_jB, hd_jD, hd_jH, hd_jI, hd_jA, hd_jQ, hd_jN, hd_rL, hd_rG, hd_rA, hd_rN, hd_cI, hd_c0, hd_cJ, hd_cX, hd_cA, hd_cO, hd_v0, hd_pI, hd_pJ, hd_pR, hd_nV, hd_nS, hd_get, hd_st, hd_stW, hd_cut, List.replicate, List.length_cons, List.length_nil, List.nil_append, List.cons_append, Nat.reduceAdd, Nat.reduceSub, Nat.reduceLeDiff, true_and, and_true, if_true, if_false, Bool.false_eq_true, List.append_nil, List.set_cons_succ, List.set_cons_zero, hs_o_0, hs_r_0_0, hs_t_0_0, hs_r_0_1, hs_t_0_1, hs_r_0_2, hs_t_0_2, hs_r_0_3, hs_t_0_3, hs_r_0_4, hs_t_0_4, hs_r_0_5, hs_t_0_5, hs_r_0_6, hs_t_0_6, hs_r_0_7, hs_t_0_7, hs_f_0_8, hs_o_1, hs_f_1_0, hs_f_1_1, hs_r_1_2, hs_t_1_2, hs_r_1_3, hs_t_1_3, hs_r_1_4, hs_t_1_4, hs_r_1_5, hs_t_1_5, hs_r_1_6, hs_t_1_6, hs_r_1_7, hs_t_1_7, hs_r_1_8, hs_t_1_8, hs_r_1_9, hs_t_1_9, hs_i_2, hs_i_3, hs_i_4, hs_i_5, hs_i_6, hs_i_7, hs_i_8, hs_i_9, hs_o_82, hs_r_82_0, hs_t_82_0, hs_f_82_1, hs_i_83, hs_o_84, hs_r_84_0, hs_t_84_0, hs_r_84_1, hs_t_84_1, hs_r_84_2, hs_t_84_2, hs_r_84_3, hs_t_84_3, hs_f_84_4, hs_i_85, hs_i_86, hs_i_87, hs_o_88, hs_r_88_0, hs_t_88_0, hs_r_88_1, hs_t_88_1, hs_r_88_2, hs_t_88_2, hs_r_88_3, hs_t_88_3, hs_r_88_4, hs_t_88_4, hs_r_88_5, hs_t_88_5, hs_r_88_6, hs_t_88_6, hs_r_88_7, hs_t_88_7, hs_f_88_8, hs_f_88_9, hs_i_89, hs_i_90, hs_i_91, hs_i_92, hs_i_93, hs_i_94, hs_i_95, hs_i_96, hs_i_97, hs_i_98, hs_i_99, hs_i_100, hs_i_101, hs_i_102, hs_o_103, hs_r_103_0, hs_t_103_0, hs_r_103_1, hs_t_103_1, hs_r_103_2, hs_t_103_2, hs_r_103_3, hs_t_103_3, hs_f_103_4, hs_i_104, hs_o_105, hs_r_105_0, hs_t_105_0, hs_r_105_1, hs_t_105_1, hs_r_105_2, hs_t_105_2, hs_i_106, hs_i_107, hs_o_108, hs_r_108_0, hs_t_108_0, hs_r_108_1, hs_t_108_1, hs_r_108_2, hs_t_108_2, hs_r_108_3, hs_t_108_3, hs_f_108_4, hs_i_109, hs_i_110, hs_o_111, hs_r_111_0, hs_t_111_0, hs_r_111_1, hs_t_111_1, hs_f_111_2, hs_f_111_3, hs_f_111_4, hs_i_112, hs_o_113, hs_f_113_0, hs_f_113_1, hs_f_113_2, hs_r_113_3, hs_t_113_3, hs_r_113_4, hs_t_113_4, hs_r_113_5, hs_t_113_5, hs_r_113_6, hs_t_113_6, hs_r_113_7, hs_t_113_7, hs_r_113_8, hs_t_113_8, hs_r_113_9, hs_t_113_9, hs_r_113_10, hs_t_113_10, hs_r_113_11, hs_t_113_11, hs_f_113_12, hs_f_113_13, hs_f_113_14, hs_r_113_15, hs_t_113_15, hs_f_113_16, hs_r_113_17, hs_t_113_17, hs_r_113_18, hs_t_113_18, hs_r_113_19, hs_t_113_19, hs_r_113_20, hs_t_113_20, hs_f_113_21, hs_f_113_22, hs_f_113_23, hs_r_113_24, hs_t_113_24, hs_f_113_25, hs_r_113_26, hs_t_113_26, hs_f_113_27, hs_i_114, hs_i_115, hs_i_116, hs_i_117, hs_i_118, hs_i_119, hs_i_120, hs_i_121, hs_i_122, hs_i_123, hs_i_124, hs_i_125, hs_i_126, hs_i_127, hs_i_128, hs_i_129]
  refine sx_fill hs_94 hs_l_94 hs_i_94 (by decide) 0 S _ (fun S1 he1 hz => ?_)
  simp only [true_and]
  refine hd_up (fun i ρ S2 => hd_eqx [94] S S2 ∧ (∃ f : Nat → Nat, (∀ t, t < i → f t < hp_H p ∧ s.testBit (f t) = true ∧ ∀ b, b < hp_H p → s.testBit b = true → hp_w1 p (f t) t ≤ hp_w1 p b t) ∧ (∀ h, h < hp_H p → S2.1 94 h = nI (fb_sm (fun t => if f t = h then hp_cr p t else 0) i) ∧ fb_sm (fun t => if f t = h then hp_cr p t else 0) i ≤ hp_ro p h) ∧ ∃ x : hd_V, ρ = [hd_vR 88, hd_vI (nI s), hd_vJ (lN (fb_sm (hp_cd p f) i)), hd_vN, hd_vI (nI i), x])) (hp_T p) ?_ ?_ (Nat.zero_le _) ⟨he1, fun _ => 0, fun t ht => by omega, fun h hh => ⟨hz h (by omega), Nat.zero_le _⟩, _, rfl⟩
  · rintro i ρ S2 K hi ⟨he2, f, hf, hg, x, rfl⟩ hK
    have hx2 : hx_P 1 S2 p := hx_P_eqx he2 (by decide) hx
    have hr2 : hx_R S2 p := hx_R_eqx he2 (by decide) (by decide) (by decide) hr
    have hx20 : S2.1 1 0 = nI (hp_T p) := hx2.1
    have hcr : S2.1 2 i = nI (hp_cr p i) := hx2.2.2.1 i (by omega)
    simp only [wc_X7_nearestFilling_13, wb_X7_nearestFilling_13, hd_mth, hd_rho0, hd_args, hd_wide, hq_sQ, hd_s0, hq_sI, hq_sJ, hd_sR, hd_sP, hd_sF, hd_sZ, hd_sG, hd_sA, hd_sL, hd_sB, hd_sO, hd_sN, hd_sD, hd_sW, hd_sE, hd_sRI, hd_sRZ, hd_sRJ, hd_sRR, hd_sRV, hd_sSw, hd_sw, hd_sCI, hd_sCL, hd_iK, hd_iL, hd_iU, hd_iB, hd_iD, hd_iJ, hd_iG, hd_iA, hd_iQ, hd_iC, hd_iN, hd_iE, hd_jK, hd_jL, hd_jU, hd_jB, hd_jD, hd_jH, hd_jI, hd_jA, hd_jQ, hd_jN, hd_rL, hd_rG, hd_rA, hd_rN, hd_cI, hd_c0, hd_cJ, hd_cX, hd_cA, hd_cO, hd_v0, hd_pI, hd_pJ, hd_pR, hd_nV, hd_nS, hd_get, hd_st, hd_stW, hd_cut, List.replicate, List.length_cons, List.length_nil, List.nil_append, List.cons_append, Nat.reduceAdd, Nat.reduceSub, Nat.reduceLeDiff, true_and, and_true, if_true, if_false, Bool.false_eq_true, List.append_nil, List.set_cons_succ, List.set_cons_zero, hs_o_0, hs_r_0_0, hs_t_0_0, hs_r_0_1, hs_t_0_1, hs_r_0_2, hs_t_0_2, hs_r_0_3, hs_t_0_3, hs_r_0_4, hs_t_0_4, hs_r_0_5, hs_t_0_5, hs_r_0_6, hs_t_0_6, hs_r_0_7, hs_t_0_7, hs_f_0_8, hs_o_1, hs_f_1_0, hs_f_1_1, hs_r_1_2, hs_t_1_2, hs_r_1_3, hs_t_1_3, hs_r_1_4, hs_t_1_4, hs_r_1_5, hs_t_1_5, hs_r_1_6, hs_t_1_6, hs_r_1_7, hs_t_1_7, hs_r_1_8, hs_t_1_8, hs_r_1_9, hs_t_1_9, hs_i_2, hs_i_3, hs_i_4, hs_i_5, hs_i_6, hs_i_7, hs_i_8, hs_i_9, hs_o_82, hs_r_82_0, hs_t_82_0, hs_f_82_1, hs_i_83, hs_o_84, hs_r_84_0, hs_t_84_0, hs_r_84_1, hs_t_84_1, hs_r_84_2, hs_t_84_2, hs_r_84_3, hs_t_84_3, hs_f_84_4, hs_i_85, hs_i_86, hs_i_87, hs_o_88, hs_r_88_0, hs_t_88_0, hs_r_88_1, hs_t_88_1, hs_r_88_2, hs_t_88_2, hs_r_88_3, hs_t_88_3, hs_r_88_4, hs_t_88_4, hs_r_88_5, hs_t_88_5, hs_r_88_6, hs_t_88_6, hs_r_88_7, hs_t_88_7, hs_f_88_8, hs_f_88_9, hs_i_89, hs_i_90, hs_i_91, hs_i_92, hs_i_93, hs_i_94, hs_i_95, hs_i_96, hs_i_97, hs_i_98, hs_i_99, hs_i_100, hs_i_101, hs_i_102, hs_o_103, hs_r_103_0, hs_t_103_0, hs_r_103_1, hs_t_103_1, hs_r_103_2, hs_t_103_2, hs_r_103_3, hs_t_103_3, hs_f_103_4, hs_i_104, hs_o_105, hs_r_105_0, hs_t_105_0, hs_r_105_1, hs_t_105_1, hs_r_105_2, hs_t_105_2, hs_i_106, hs_i_107, hs_o_108, hs_r_108_0, hs_t_108_0, hs_r_108_1, hs_t_108_1, hs_r_108_2, hs_t_108_2, hs_r_108_3, hs_t_108_3, hs_f_108_4, hs_i_109, hs_i_110, hs_o_111, hs_r_111_0, hs_t_111_0, hs_r_111_1, hs_t_111_1, hs_f_111_2, hs_f_111_3, hs_f_111_4, hs_i_112, hs_o_113, hs_f_113_0, hs_f_113_1, hs_f_113_2, hs_r_113_3, hs_t_113_3, hs_r_113_4, hs_t_113_4, hs_r_113_5, hs_t_113_5, hs_r_113_6, hs_t_113_6, hs_r_113_7, hs_t_113_7, hs_r_113_8, hs_t_113_8, hs_r_113_9, hs_t_113_9, hs_r_113_10, hs_t_113_10, hs_r_113_11, hs_t_113_11, hs_f_113_12, hs_f_113_13, hs_f_113_14, hs_r_113_15, hs_t_113_15, hs_f_113_16, hs_r_113_17, hs_t_113_17, hs_r_113_18, hs_t_113_18, hs_r_113_19, hs_t_113_19, hs_r_113_20, hs_t_113_20, hs_f_113_21, hs_f_113_22, hs_f_113_23, hs_r_113_24, hs_t_113_24, hs_f_113_25, hs_r_113_26, hs_t_113_26, hs_f_113_27, hs_i_114, hs_i_115, hs_i_116, hs_i_117, hs_i_118, hs_i_119, hs_i_120, hs_i_121, hs_i_122, hs_i_123, hs_i_124, hs_i_125, hs_i_126, hs_i_127, hs_i_128, hs_i_129, hx20, nI_ltI (show i < 2 ^ 31 by omega) (show hp_T p < 2 ^ 31 by omega), hi, decide_true]
    refine sx_nearHall hp hx2 hr2 hs hi _ (fun h hh hb hw hfst => ?_) (fun _ => ?_)
    · have hro : S2.1 6 h = nI (hp_ro p h) := hx2.2.2.2.2.2.2.1 h (by omega)
      obtain ⟨g1, g2⟩ := hg h hh
      have l1 := hp.2.2.2.1 i
      have l2 := hp.2.2.2.2.2.2.2.1 h
      have e91 : S2.2.1 91 (h * 8 + i) = lN (hp_w1 p h i) := by
        rw [he2.2]
        exact htr h hh i hi
      simp only [hp_ne1 (show h < 2 ^ 31 by omega), if_false, vp_in_nI (show h < 7 by omega) (show 7 < 2 ^ 31 by decide), hd_cc (show h < 2147483648 by omega), vp_in_nI (show i < 8 by omega) (show 8 < 2 ^ 31 by decide), hd_cc (show i < 2147483648 by omega), g1, hcr, hro, nI_add, nI_ltI (show hp_ro p h < 2 ^ 31 by omega) (show fb_sm (fun t => if f t = h then hp_cr p t else 0) i + hp_cr p i < 2 ^ 31 by omega), decide_eq_true_eq, true_and]
      by_cases hfit : hp_ro p h < fb_sm (fun t => if f t = h then hp_cr p t else 0) i + hp_cr p i
      · simp only [hfit, if_true]
        exact hk S2 _ he2 (Or.inl rfl) (fun h0 => absurd hi (by omega))
      · simp only [hfit, if_false, hd_wI2, hd_lit8, pk_mul, nI_add, vp_in_nI (show h * 8 + i < 56 by omega) (show 56 < 2 ^ 31 by decide), hd_cc (show h * 8 + i < 2147483648 by omega), e91, lN_add, nI_1, true_and]
        have ef : ∀ a, fb_sm (fun t => if (if t = i then h else f t) = a then hp_cr p t else 0) i = fb_sm (fun t => if f t = a then hp_cr p t else 0) i := fun a => fb_sm_cong (fun t ht => by simp [show ¬ t = i by omega])
        have ec : fb_sm (hp_cd p (fun t => if t = i then h else f t)) i = fb_sm (hp_cd p f) i := fb_sm_cong (fun t ht => by simp [hp_cd, show ¬ t = i by omega])
        refine hK _ _ ⟨hd_eqx_w he2 (by decide), fun t => if t = i then h else f t, fun t ht => ?_, fun a ha => ?_, hd_vI (nI h), ?_⟩
        · by_cases hti : t = i
          · subst hti
            simp only [if_true]
            exact ⟨hh, hb, hp_pm hp hi hh hw hfst⟩
          · simp only [hti, if_false]
            exact hf t (by omega)
        · rw [fb_sm_succ, ef a]
          obtain ⟨k1, k2⟩ := hg a ha
          by_cases hah : h = a
          · subst hah
            simp only [if_true]
            exact ⟨by rw [hd_wI1, if_pos ⟨rfl, rfl⟩], by omega⟩
          · simp only [hah, if_true, if_false, Nat.add_zero]
            exact ⟨by rw [hd_wI1, if_neg (fun q => hah q.2.symm)]; exact k1, k2⟩
        · rw [fb_sm_succ, ec]
          simp [hp_cd, hp_w1]
    · simp only [if_true]
      exact hk S2 _ he2 (Or.inl rfl) (fun h0 => absurd hi (by omega))
  · rintro ρ S2 K ⟨he2, f, hf, hg, x, rfl⟩
    have hx2 : hx_P 1 S2 p := hx_P_eqx he2 (by decide) hx
    have hx20 : S2.1 1 0 = nI (hp_T p) := hx2.1
    simp only [wc_X7_nearestFilling_13, hd_mth, hd_rho0, hd_args, hd_wide, hq_sQ, hd_s0, hq_sI, hq_sJ, hd_sR, hd_sP, hd_sF, hd_sZ, hd_sG, hd_sA, hd_sL, hd_sB, hd_sO, hd_sN, hd_sD, hd_sW, hd_sE, hd_sRI, hd_sRZ, hd_sRJ, hd_sRR, hd_sRV, hd_sSw, hd_sw, hd_sCI, hd_sCL, hd_iK, hd_iL, hd_iU, hd_iB, hd_iD, hd_iJ, hd_iG, hd_iA, hd_iQ, hd_iC, hd_iN, hd_iE, hd_jK, hd_jL, hd_jU, hd_jB, hd_jD, hd_jH, hd_jI, hd_jA, hd_jQ, hd_jN, hd_rL, hd_rG, hd_rA, hd_rN, hd_cI, hd_c0, hd_cJ, hd_cX, hd_cA, hd_cO, hd_v0, hd_pI, hd_pJ, hd_pR, hd_nV, hd_nS, hd_get, hd_st, hd_stW, hd_cut, List.replicate, List.length_cons, List.length_nil, List.nil_append, List.cons_append, Nat.reduceAdd, Nat.reduceSub, Nat.reduceLeDiff, true_and, and_true, if_true, if_false, Bool.false_eq_true, List.append_nil, hs_o_0, hs_r_0_0, hs_t_0_0, hs_r_0_1, hs_t_0_1, hs_r_0_2, hs_t_0_2, hs_r_0_3, hs_t_0_3, hs_r_0_4, hs_t_0_4, hs_r_0_5, hs_t_0_5, hs_r_0_6, hs_t_0_6, hs_r_0_7, hs_t_0_7, hs_f_0_8, hs_o_1, hs_f_1_0, hs_f_1_1, hs_r_1_2, hs_t_1_2, hs_r_1_3, hs_t_1_3, hs_r_1_4, hs_t_1_4, hs_r_1_5, hs_t_1_5, hs_r_1_6, hs_t_1_6, hs_r_1_7, hs_t_1_7, hs_r_1_8, hs_t_1_8, hs_r_1_9, hs_t_1_9, hs_i_2, hs_i_3, hs_i_4, hs_i_5, hs_i_6, hs_i_7, hs_i_8, hs_i_9, hs_o_82, hs_r_82_0, hs_t_82_0, hs_f_82_1, hs_i_83, hs_o_84, hs_r_84_0, hs_t_84_0, hs_r_84_1, hs_t_84_1, hs_r_84_2, hs_t_84_2, hs_r_84_3, hs_t_84_3, hs_f_84_4, hs_i_85, hs_i_86, hs_i_87, hs_o_88, hs_r_88_0, hs_t_88_0, hs_r_88_1, hs_t_88_1, hs_r_88_2, hs_t_88_2, hs_r_88_3, hs_t_88_3, hs_r_88_4, hs_t_88_4, hs_r_88_5, hs_t_88_5, hs_r_88_6, hs_t_88_6, hs_r_88_7, hs_t_88_7, hs_f_88_8, hs_f_88_9, hs_i_89, hs_i_90, hs_i_91, hs_i_92, hs_i_93, hs_i_94, hs_i_95, hs_i_96, hs_i_97, hs_i_98, hs_i_99, hs_i_100, hs_i_101, hs_i_102, hs_o_103, hs_r_103_0, hs_t_103_0, hs_r_103_1, hs_t_103_1, hs_r_103_2, hs_t_103_2, hs_r_103_3, hs_t_103_3, hs_f_103_4, hs_i_104, hs_o_105, hs_r_105_0, hs_t_105_0, hs_r_105_1, hs_t_105_1, hs_r_105_2, hs_t_105_2, hs_i_106, hs_i_107, hs_o_108, hs_r_108_0, hs_t_108_0, hs_r_108_1, hs_t_108_1, hs_r_108_2, hs_t_108_2, hs_r_108_3, hs_t_108_3, hs_f_108_4, hs_i_109, hs_i_110, hs_o_111, hs_r_111_0, hs_t_111_0, hs_r_111_1, hs_t_111_1, hs_f_111_2, hs_f_111_3, hs_f_111_4, hs_i_112, hs_o_113, hs_f_113_0, hs_f_113_1, hs_f_113_2, hs_r_113_3, hs_t_113_3, hs_r_113_4, hs_t_113_4, hs_r_113_5, hs_t_113_5, hs_r_113_6, hs_t_113_6, hs_r_113_7, hs_t_113_7, hs_r_113_8, hs_t_113_8, hs_r_113_9, hs_t_113_9, hs_r_113_10, hs_t_113_10, hs_r_113_11, hs_t_113_11, hs_f_113_12, hs_f_113_13, hs_f_113_14, hs_r_113_15, hs_t_113_15, hs_f_113_16, hs_r_113_17, hs_t_113_17, hs_r_113_18, hs_t_113_18, hs_r_113_19, hs_t_113_19, hs_r_113_20, hs_t_113_20, hs_f_113_21, hs_f_113_22, hs_f_113_23, hs_r_113_24, hs_t_113_24, hs_f_113_25, hs_r_113_26, hs_t_113_26, hs_f_113_27, hs_i_114, hs_i_115, hs_i_116, hs_i_117, hs_i_118, hs_i_119, hs_i_120, hs_i_121, hs_i_122, hs_i_123, hs_i_124, hs_i_125, hs_i_126, hs_i_127, hs_i_128, hs_i_129, hx20, Int32.lt_irrefl, decide_false]
    have hz : hp_fz p s f := ⟨fun t ht => ⟨(hf t ht).1, (hf t ht).2.1⟩, fun h hh => (hg h hh).2⟩
    have e := hp_rmc_near hp hz (fun t ht b hb hbs => (hf t ht).2.2 b hb hbs)
    refine hk S2 _ he2 (Or.inr ?_) (fun h0 => ?_)
    · rw [e]
      rfl
    · rw [h0]
      show lN 0 ≠ -2
      decide
