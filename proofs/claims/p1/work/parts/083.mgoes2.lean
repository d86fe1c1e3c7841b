/-! who goes where: the reference -/
theorem hb_le1 {v : Int32} {T : Nat} (hT : T < 2 ^ 30) : (v ≤ nI T - 1) ↔ v < nI T := by
  rw [Int32.le_iff_toInt_le, Int32.lt_iff_toInt_lt, show (1 : Int32) = nI 1 from rfl, pk_sub_toInt hT (by decide), nI_toInt (by omega)]
  omega
theorem sp_isTown {S : hd_S} {p : hp_P} (hp : hp_ok p) (hm1 : S.1 113 1 = nI (hp_T p)) (v : Int32) (post : Option hd_V → hd_S → Prop) : wm_X9_isTown [hd_vR 113, hd_vI v] S post ↔ post (some (hd_vI (if 0 ≤ v ∧ v < nI (hp_T p) then 1 else 0))) S := by
  have hT := hp.1
  rw [sp_X9_isTown, hm1]
  simp only [hb_le1 (show hp_T p < 2 ^ 30 by omega)]
theorem sp_isHall {S : hd_S} {p : hp_P} (hp : hp_ok p) (hm2 : S.1 113 2 = nI (hp_H p)) (v : Int32) (post : Option hd_V → hd_S → Prop) : wm_X9_isHall [hd_vR 113, hd_vI v] S post ↔ post (some (hd_vI (if 0 ≤ v ∧ v < nI (hp_H p) then 1 else 0))) S := by
  have hH := hp.2.1
  rw [sp_X9_isHall, hm2]
  simp only [hb_le1 (show hp_H p < 2 ^ 30 by omega)]
/-- what calls that change no plan leave of the reference -/
def hm_N (S S2 : hd_S) : Prop := hd_eqx [113, 124, 125, 126, 127, 128, 129] S S2 ∧ (∀ f, f = 1 ∨ f = 2 ∨ f = 12 ∨ f = 13 → S2.1 113 f = S.1 113 f) ∧ ∀ h, h < 7 → S2.1 127 h = S.1 127 h
theorem hm_N_K {S S2 : hd_S} (h : hm_K S S2) : hm_N S S2 := ⟨hd_eqx_sub h.1 (by decide), fun f hf => h.2 f (by omega) (by omega) (by omega), fun a _ => by rw [h.1.1 127 (by decide)]⟩
theorem hm_N_tr {S S2 S3 : hd_S} (h : hm_N S S2) (h2 : hm_N S2 S3) : hm_N S S3 := ⟨hd_eqx_tr h.1 h2.1, fun f hf => (h2.2.1 f hf).trans (h.2.1 f hf), fun a ha => (h2.2.2 a ha).trans (h.2.2 a ha)⟩
theorem hm_N_G {S S2 : hd_S} {t : Nat} (h : hm_G S S2 t) : hm_N S S2 := ⟨⟨fun c hc => h.1 c (fun q => hc (by simp [q])) (fun q => hc (by simp [q])), h.2.1⟩, fun f _ => by rw [h.1 113 (by decide) (by decide)], h.2.2.2⟩
theorem hm_N_P {S S2 : hd_S} {p : hp_P} (h : hm_N S S2) (hm : hm_P S p) : hm_P S2 p := hm_P_fr (h.2.1 1 (Or.inl rfl)) (h.2.1 2 (Or.inr (Or.inl rfl))) (fun c h1 h2 => h.1.1 c (by simp only [List.mem_cons, List.not_mem_nil, or_false]; omega)) hm
set_option maxHeartbeats 8000000 in
theorem sp_goes {S : hd_S} {p : hp_P} (hp : hp_ok p) (hm : hm_P S p) {hand : Nat} (hh : hand < 2 ^ hp_H p) (hs : S.1 113 14 = nI hand) (hused : ∀ h, h < 7 → S.1 127 h = nI 0) (kind town : Int32) (post : Option hd_V → hd_S → Prop)
    (hk1 : ∀ k t, k < 5 → kind = nI k → t < hp_T p → town = nI t → ∀ S2, hm_N S S2 → S2.1 113 14 = nI hand → post (some (hd_vI (hp_gs p k hand t))) S2)
    (hk2 : ¬ ((0 ≤ kind ∧ kind ≤ 4) ∧ (0 ≤ town ∧ town < nI (hp_T p))) → post (some (hd_vI (-3))) (hd_wI S 113 0 0)) : wm_X9_goes [hd_vR 113, hd_vI kind, hd_vI town] S post := by
  have hT : hp_T p ≤ 8 := hp.1
  have hH : hp_H p ≤ 7 := hp.2.1
  have h128 := hp_set128 hp hh
  have hR := sp_roomedOf hp
  have h1 : hm_K S (hd_wI S 113 0 0) := hm_K_0 0 (hm_K_rf S)
  have hm1 := hm_K_P h1 hm
  have hs1 : (hd_wI S 113 0 0).1 113 14 = nI hand := by
    rw [hd_wI1, if_neg (fun q => absurd q.2 (by decide))]
    exact hs
  simp only [wm_X9_goes, wo_X9_goes, hd_mth, hd_rho0, hd_args, hd_wide, hq_sQ, hd_s0, hq_sI, hq_sJ, hd_sR, hd_sP, hd_sF, hd_sZ, hd_sG, hd_sA, hd_sL, hd_sB, hd_sO, hd_sN, hd_sD, hd_sW, hd_sE, hd_sRI, hd_sRZ, hd_sRJ, hd_sRR, hd_sRV, hd_sSw, hd_sw, hd_sCI, hd_sCL, hd_iK, hd_iL, hd_iU, hd_iB, hd_iD, hd_iJ, hd_iG, hd_iA, hd_iQ, hd_iC, hd_iN, hd_iE, hd_jK, hd_jL, hd_jU, hd_jB, hd_jD, hd_jH, hd_jI, hd_jA, hd_jQ, hd_jN, hd_rL, hd_rG, hd_rA, hd_rN, hd_cI, hd_c0, hd_cJ, hd_cX, hd_cA, hd_cO, hd_v0, hd_pI, hd_pJ, hd_pR, hd_nV, hd_nS, hd_get, hd_st, hd_stW, hd_cut, List.replicate, List.length_cons, List.length_nil, List.nil_append, List.cons_append, Nat.reduceAdd, Nat.reduceSub, Nat.reduceLeDiff, true_and, and_true, if_true, if_false, Bool.false_eq_true, List.append_nil, hs_o_0, hs_r_0_0, hs_t_0_0, hs_r_0_1, hs_t_0_1, hs_r_0_2, hs_t_0_2, hs_r_0_3, hs_t_0_3, hs_r_0_4, hs_t_0_4, hs_r_0_5, hs_t_0_5, hs_r_0_6, hs_t_0_6, hs_r_0_7, hs_t_0_7, hs_f_0_8, hs_o_1, hs_f_1_0, hs_f_1_1, hs_r_1_2, hs_t_1_2, hs_r_1_3, hs_t_1_3, hs_r_1_4, hs_t_1_4, hs_r_1_5, hs_t_1_5, hs_r_1_6, hs_t_1_6, hs_r_1_7, hs_t_1_7, hs_r_1_8, hs_t_1_8, hs_r_1_9, hs_t_1_9, hs_i_2, hs_i_3, hs_i_4, hs_i_5, hs_i_6, hs_i_7, hs_i_8, hs_i_9, hs_o_82, hs_r_82_0, hs_t_82_0, hs_f_82_1, hs_i_83, hs_o_84, hs_r_84_0, hs_t_84_0, hs_r_84_1, hs_t_84_1, hs_r_84_2, hs_t_84_2, hs_r_84_3, hs_t_84_3, hs_f_84_4, hs_i_85, hs_i_86, hs_i_87, hs_o_88, hs_r_88_0, hs_t_88_0, hs_r_88_1, hs_t_88_1, hs_r_88_2, hs_t_88_2, hs_r_88_3, hs_t_88_3, hs_r_88_4, hs_t_88_4, hs_r_88_5, hs_t_88_5, hs_r_88_6, hs_t_88_6, hs_r_88_7, hs_t_88_7, hs_f_88_8, hs_f_88_9, hs_i_89, hs_i_90, hs_i_91, hs_i_92, hs_i_93, hs_i_94, hs_i_95, hs_i_96, hs_i_97, hs_i_98, hs_i_99, hs_i_100, hs_i_101, hs_i_102, hs_o_103, hs_r_103_0, hs_t_103_0, hs_r_103_1, hs_t_103_1, hs_r_103_2, hs_t_103_2, hs_r_103_3, hs_t_103_3, hs_f_103_4, hs_i_104, hs_o_105, hs_r_105_0, hs_t_105_0, hs_r_105_1, hs_t_105_1, hs_r_105_2, hs_t_105_2, hs_i_106, hs_i_107, hs_o_108, hs_r_108_0, hs_t_108_0, hs_r_108_1, hs_t_108_1, hs_r_108_2, hs_t_108_2, hs_r_108_3, hs_t_108_3, hs_f_108_4, hs_i_109, hs_i_110, hs_o_111, hs_r_111_0, hs_t_111_0, hs_r_111_1, hs_t_111_1, hs_f_111_2, hs_f_111_3, hs_f_111_4, hs_i_112, hs_o_113, hs_f_113_0, hs_f_113_1, hs_f_113_2, hs_r_113_3, hs_t_113_3, hs_r_113_4, hs_t_113_4, hs_r_113_5, hs_t_113_5, hs_r_113_6, hs_t_113_6, hs_r_113_7, hs_t_113_7, hs_r_113_8, hs_t_113_8, hs_r_113_9, hs_t_113_9, hs_r_113_10, hs_t_113_10, hs_r_113_11, hs_t_113_11, hs_f_113_12, hs_f_113_13, hs_f_113_14, hs_r_113_15, hs_t_113_15, hs_f_113_16, hs_r_113_17, hs_t_113_17, hs_r_113_18, hs_t_113_18, hs_r_113_19, hs_t_113_19, hs_r_113_20, hs_t_113_20, hs_f_113_21, hs_f_113_22, hs_f_113_23, hs_r_113_24, hs_t_113_24, hs_f_113_25, hs_r_113_26, hs_t_113_26, hs_f_113_27, hs_i_114, hs_i_115, hs_i_116, hs_i_117, hs_i_118, hs_i_119, hs_i_120, hs_i_121, hs_i_122, hs_i_123, hs_i_124, hs_i_125, hs_i_126, hs_i_127, hs_i_128, hs_i_129, sp_X9_in, sp_isTown hp hm1.1, hd_t01, hd_dn1, decide_eq_true_eq, hs1]
  by_cases hq : 0 ≤ kind ∧ kind ≤ 4
  · by_cases hq2 : 0 ≤ town ∧ town < nI (hp_T p)
    · obtain ⟨k, hk, rfl⟩ := hb_rng (m := 4) (by decide) hq.1 hq.2
      obtain ⟨t, ht, rfl⟩ := hb_rng2 (show hp_T p < 2 ^ 31 by omega) hq2.1 hq2.2
      simp only [hq, hq2, and_self, not_true, if_false]
      have hk3 := hk1 k t (by omega) rfl ht rfl
      clear hk1 hk2
      refine sp_costOf hp hm1 hR (show k < 7 by omega) hh _ (fun S2 he2 => ?_)
      have h2 := hm_K_tr h1 (hm_K_c he2)
      have hm2 := hm_K_P h2 hm
      have hs2 : S2.1 113 14 = nI hand := by rw [he2.1 113 (by decide)]; exact hs1
      have hlt : ∀ v, hp_cost p k hand = some v → v < 2000000000 := fun v h => hp_cost_lt hp h
      have e4 : (nI k = (4 : Int32)) ↔ k = 4 := nI_eq (by omega) (by decide)
      have e3 : (nI k < (3 : Int32)) ↔ k < 3 := nI_ltI (by omega) (by decide)
      have hk4 := hk3 S2 (hm_N_K h2) hs2
      simp only [hp_ow_none hlt, hs2]
      by_cases hc : hp_cost p k hand = none
      · simp only [hc, if_true]
        have e : hp_gs p k hand t = -1 := by
          unfold hp_gs
          by_cases hk33 : k = 3
          · rw [if_pos hk33]
            have hr0 : hp_rmc p hand = none := by
              rw [hk33] at hc
              cases ho : hp_rmc p hand with
              | none => rfl
              | some c => simp [hp_cost, ho] at hc
            rw [hr0]
          · rw [if_neg hk33]
            have hh0 : hand = 0 := by
              have : k = 0 ∨ k = 1 ∨ k = 2 ∨ k = 4 := by omega
              rcases this with r | r | r | r
              · rw [r] at hc
                by_cases q : hand = 0 ∧ ¬ hp_T p = 0
                · exact q.1
                · simp [hp_cost, q] at hc
              · rw [r] at hc
                by_cases q : hand = 0 ∧ ¬ hp_T p = 0
                · exact q.1
                · simp [hp_cost, q] at hc
              · rw [r] at hc
                by_cases q : hand = 0 ∧ ¬ hp_T p = 0
                · exact q.1
                · simp [hp_cost, q] at hc
              · rw [r] at hc
                simp [hp_cost] at hc
            have hn : hp_nr p hand t (hp_H p) = none := by
              cases hq9 : hp_nr p hand t (hp_H p) with
              | none => rfl
              | some b =>
                have := (hp_nr_lt hq9).2
                rw [hh0, Nat.zero_testBit] at this
                cases this
            rw [hn]
        rw [e] at hk4
        exact hk4
      · simp only [hc, if_false]
        refine sp_X9_nearest hp hm2 (show hand < 2 ^ 31 by omega) (show t < 8 by omega) _ ?_
        have hfi : S2.1 115 t = nI (hp_fi p t) := hm2.2.2.2.1 t (by omega)
        have hcr : S2.1 114 t = nI (hp_cr p t) := hm2.2.2.1 t (by omega)
        have l1 := hp.2.2.2.2.1 t
        simp only [e4, e3]
        by_cases hk44 : k = 4
        · simp only [hk44, if_true]
          simp only [hp_gs, hk44, show ¬ ((4 : Nat) = 3) by decide, if_false, true_and] at hk4
          cases hn : hp_nr p hand t (hp_H p) with
          | none =>
            rw [hn] at hk4
            simp only [hp_oi, if_true]
            exact hk4
          | some h =>
            rw [hn] at hk4
            have hhl := (hp_nr_lt hn).1
            have l2 := hp_w2_le hp hhl (show t < 8 by omega)
            have el : nI (hp_fi p t) < nI (hp_cr p t * hp_wy p h t) ↔ hp_fi p t < hp_w2 p h t := nI_ltI (show hp_fi p t < 2 ^ 31 by omega) (show hp_w2 p h t < 2 ^ 31 by omega)
            simp only [hp_oi, hp_ne1 (show h < 2 ^ 31 by omega), if_false, vp_in_nI (show t < 8 by omega) (show 8 < 2 ^ 31 by decide), hd_cc (show t < 2147483648 by omega), hfi, hcr, sp_X9_wayOf hp hm2 hhl (show t < 8 by omega), pk_mul, el, true_and]
            by_cases hf : hp_fi p t < hp_w2 p h t
            · simp only [hf, if_true] at hk4 ⊢
              exact hk4
            · simp only [hf, if_false] at hk4 ⊢
              exact hk4
        · simp only [hk44, if_false]
          by_cases hk33 : k < 3
          · simp only [hk33, if_true]
            simp only [hp_gs, show ¬ k = 3 by omega, if_false, hk44, false_and] at hk4
            cases hn : hp_nr p hand t (hp_H p) with
            | none =>
              rw [hn] at hk4
              exact hk4
            | some h =>
              rw [hn] at hk4
              exact hk4
          · have hk3e : k = 3 := by omega
            simp only [hk33, if_false, hs2]
            refine hR S2 hand _ hm2 hh (fun S3 he3 => ?_)
            have h3 := hm_K_tr h2 (hm_K_c he3)
            have hm3 := hm_K_P h3 hm
            have hs3 : S3.1 113 14 = nI hand := by rw [he3.1 113 (by decide)]; exact hs2
            cases ho : hp_rmc p hand with
            | none =>
              rw [hk3e] at hc
              simp [hp_cost, ho] at hc
            | some c =>
              have hcl := hp_rmc_lt hp ho
              have hc2 : c / 16777216 < 1000000000 := Nat.div_lt_of_lt_mul (Nat.lt_of_lt_of_le hcl (by decide))
              have hne : ∃ h, h < hp_H p ∧ hand.testBit h = true := by
                have h7 := hp_rmc_is p hand
                rw [ho] at h7
                obtain ⟨⟨f, hf, -⟩, -⟩ := h7
                exact ⟨f 0, hf.1 0 (by omega)⟩
              have hLi : (nI (c / 16777216)).toInt = ((c / 16777216 : Nat) : Int) := nI_toInt (by omega)
              simp only [Option.map, hp_ow, show (0 : Int32) = nI 0 from rfl]
              have h127 : ∀ h, h < 7 → S3.1 127 h = nI 0 := fun h hh7 => by
                rw [(hm_N_K h3).2.2 h hh7]
                exact hused h hh7
              refine sp_goFrom hp hh hne 9 0 (Nat.zero_le _) (by omega) S3 (fun _ => 0) (nI (c / 16777216)) _ hm3 hs3 (fun h hh7 => ⟨h127 h (by omega), Nat.zero_le _⟩) (by rw [hLi]; omega) (by rw [hLi]; omega) (fun S4 hG4 hno => ?_) (fun S4 f hG4 hf hgo => ?_)
              · exfalso
                have h7 := hp_rmc_is p hand
                rw [ho] at h7
                obtain ⟨⟨f, hf, hfc⟩, -⟩ := h7
                rw [hLi] at hno
                refine hno f (hp_sol_fz.mpr ⟨hf, ?_⟩)
                rw [← hfc]
                exact ((hp_code_div hp hf).1).symm
              · rw [hLi] at hf
                have e := hp_fst_hl hp ho hf ht
                have h4 := hm_N_tr (hm_N_K h3) (hm_N_G hG4)
                have hs4 : S4.1 113 14 = nI hand := by rw [hG4.1 113 (by decide) (by decide)]; exact hs3
                have hk5 := hk3 S4 h4 hs4
                simp only [hp_gs, hk3e, if_true, ho] at hk5
                simp only [vp_in_nI (show t < 8 by omega) (show 8 < 2 ^ 31 by decide), hd_cc (show t < 2147483648 by omega), hgo t (Nat.zero_le _) ht, e, true_and]
                exact hk5
    · simp only [hq, hq2, and_self, not_true, if_false, not_false_iff, if_true]
      exact hk2 (fun q => hq2 q.2)
  · simp only [hq, not_false_iff, if_true]
    exact hk2 (fun q => hq q.1)
