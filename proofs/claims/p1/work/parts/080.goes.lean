/-! the least filling, asked for; who goes where: the class -/
theorem hx_t0_eqv {cs : List Nat} {S S2 : hd_S} {p : hp_P} (he : hd_eqv cs S S2) (hcs : ∀ c, c ∈ cs → c < 88 ∨ 102 < c) (hH : hp_H p ≤ 7) (h : hx_t0 S p) : hx_t0 S2 p := by
  have hn : ∀ c, 88 ≤ c → c ≤ 102 → c ∉ cs := fun c h1 h2 q => by have := hcs c q; omega
  obtain ⟨t1, t2, t3, t4, t5⟩ := h
  refine ⟨fun h hh t ht => by rw [he.2.1 91 (hn 91 (by decide) (by decide))]; exact t1 h hh t ht, fun m hm => by rw [he.1 93 (hn 93 (by decide) (by decide))]; exact t2 m hm, fun m hm => by rw [he.2.1 _ (hn _ (by omega) (by omega))]; exact t3 m hm, ?_, fun s hs => by rw [he.2.1 89 (hn 89 (by decide) (by decide))]; exact t5 s hs⟩
  rw [he.1 88 (hn 88 (by decide) (by decide))]
  rcases t4 with q | ⟨b, h1, h2, h3⟩
  · exact Or.inl q
  · exact Or.inr ⟨b, h1, h2, fun h hh => hx_tb_eq (he.2.1 _ (hn _ (by omega) (by omega))) (h3 h hh)⟩
theorem hx_rm_eqv {cs : List Nat} {S S2 : hd_S} {p : hp_P} (he : hd_eqv cs S S2) (hcs : ∀ c, c ∈ cs → c < 88 ∨ 102 < c) (hH : hp_H p ≤ 7) (h : hx_rm p S) : hx_rm p S2 := by
  have hn : ∀ c, 88 ≤ c → c ≤ 102 → c ∉ cs := fun c h1 h2 q => by have := hcs c q; omega
  obtain ⟨h1, h2, h3, h4, h5⟩ := h
  refine ⟨fun k hk => by rw [he.2.2]; exact h1 k hk, by rw [he.2.1 92 (hn 92 (by decide) (by decide))]; exact h2, by rw [he.1 93 (hn 93 (by decide) (by decide))]; exact h3, by rw [he.1 88 (hn 88 (by decide) (by decide))]; exact h4, fun q => hx_t0_eqv he hcs hH (h5 (by rw [← he.1 88 (hn 88 (by decide) (by decide))]; exact q))⟩
theorem hx_rm_QS {p : hp_P} (hp : hp_ok p) : hx_QS (hx_rm p) := fun S S2 he h => hx_rm_eqv he (by decide) hp.2.1 h
set_option maxHeartbeats 8000000 in
theorem sx_fillingOf {p : hp_P} (hp : hp_ok p) (h00 : hp_T p = 0) : hx_FS p (hx_rm p) := by
  intro S s post hx hr hQ hs hk
  have hT : hp_T p ≤ 8 := hp.1
  have hH : hp_H p ≤ 7 := hp.2.1
  have h128 := hp_set128 hp hs
  -- with fresh tables
  have main : ∀ S1, hd_eqv hx_rc S S1 → hx_rm p S1 → S1.1 88 9 = 0 → (if S1.2.1 89 s = -2 then wm_X7_nearestFilling [hd_vR 88, hd_vI (nI s)] S1 (fun v S => match v with | some (Sum.inr (Sum.inl x)) => (if (hd_wL S 89 s x).2.1 89 s = -2 then wm_X7_bestFilling [hd_vR 88, hd_vI (nI s)] (hd_wL S 89 s x) (fun v S => match v with | some (Sum.inr (Sum.inl x)) => post (some (hd_vJ ((hd_wL S 89 s x).2.1 89 s))) (hd_wL S 89 s x) | x => False) else post (some (hd_vJ ((hd_wL S 89 s x).2.1 89 s))) (hd_wL S 89 s x)) | x => False) else post (some (hd_vJ (S1.2.1 89 s))) S1) := by
    intro S1 he1 hq1 h91
    have hx1 : hx_P 1 S1 p := hx_P_eqv he1 (by decide) hx
    have hr1 : hx_R S1 p := hx_R_eqv he1 (by decide) (by decide) (by decide) hr
    obtain ⟨k1, k2, k3, k4, k5⟩ := hq1
    have ht := k5 h91
    by_cases hu : S1.2.1 89 s = -2
    · rw [if_pos hu]
      refine sx_nearestFilling hp hx1 hr1 ht.1 hs _ (fun S2 v he2 hv hv0 => ?_)
      have he3 : hd_eqv hx_rc S (hd_wL S2 89 s v) := hd_eqv_l (hd_eqv_tr he1 (hd_eqv_sub (hd_eqv_x he2) (by decide))) (by decide)
      have e9 : (hd_wL S2 89 s v).2.1 89 s = v := by rw [hd_wL2, if_pos ⟨rfl, rfl⟩]
      have i9 : ∀ c, c ≠ 94 → (hd_wL S2 89 s v).1 c = S1.1 c := fun c hc => by rw [hd_wL1]; exact he2.1 c (by simp [hc])
      have j9 : ∀ c, c ≠ 89 → (hd_wL S2 89 s v).2.1 c = S1.2.1 c := fun c hc => by
        funext j
        rw [hd_wL2, if_neg (fun q => hc q.1), he2.2]
      have r9 : (hd_wL S2 89 s v).2.2 = S1.2.2 := by rw [hd_wL3, he2.2]
      obtain ⟨t1, t2, t3, t4, t5⟩ := ht
      have tt : hx_t0 (hd_wL S2 89 s v) p := by
        refine ⟨fun h hh t ht => by rw [j9 91 (by decide)]; exact t1 h hh t ht, fun m hm => by rw [i9 93 (by decide)]; exact t2 m hm, fun m hm => by rw [j9 _ (by omega)]; exact t3 m hm, ?_, fun q hq => ?_⟩
        · rw [i9 88 (by decide)]
          rcases t4 with q | ⟨b, h1, h2, h3⟩
          · exact Or.inl q
          · exact Or.inr ⟨b, h1, h2, fun h hh => hx_tb_eq (j9 _ (by omega)) (h3 h hh)⟩
        · rw [hd_wL2]
          by_cases hqs : q = s
          · rw [if_pos ⟨rfl, hqs⟩, hqs]
            exact hv
          · rw [if_neg (fun r => hqs r.2), he2.2]
            exact t5 q hq
      simp only [e9]
      by_cases hv2 : v = -2
      · exact absurd hv2 (hv0 h00)
      · rw [if_neg hv2]
        rcases hv with q | q
        · exact absurd q hv2
        · have hkk := hk (hd_wL S2 89 s v) he3 ⟨fun k hk8 => by rw [r9]; exact k1 k hk8, by rw [j9 92 (by decide)]; exact k2, by rw [i9 93 (by decide)]; exact k3, by rw [i9 88 (by decide)]; exact k4, fun _ => tt⟩
          rw [← q] at hkk
          exact hkk
    · rw [if_neg hu]
      rcases ht.2.2.2.2 s hs with q | q
      · exact absurd q hu
      · rw [q]
        exact hk S1 he1 ⟨k1, k2, k3, k4, k5⟩
  obtain ⟨k1, k2, k3, k4, k5⟩ := hQ
  simp only [wm_X7_fillingOf, wo_X7_fillingOf, hd_mth, hd_rho0, hd_args, hd_wide, hq_sQ, hd_s0, hq_sI, hq_sJ, hd_sR, hd_sP, hd_sF, hd_sZ, hd_sG, hd_sA, hd_sL, hd_sB, hd_sO, hd_sN, hd_sD, hd_sW, hd_sE, hd_sRI, hd_sRZ, hd_sRJ, hd_sRR, hd_sRV, hd_sSw, hd_sw, hd_sCI, hd_sCL, hd_iK, hd_iL, hd_iU, hd_iB, hd_iD, hd_iJ, hd_iG, hd_iA, hd_iQ, hd_iC, hd_iN, hd_iE, hd_jK, hd_jL, hd_jU, hd_jB, hd_jD, hd_jH, hd_jI, hd_jA, hd_jQ, hd_jN, hd_rL, hd_rG, hd_rA, hd_rN, hd_cI, hd_c0, hd_cJ, hd_cX, hd_cA, hd_cO, hd_v0, hd_pI, hd_pJ, hd_pR, hd_nV, hd_nS, hd_get, hd_st, hd_stW, hd_cut, List.replicate, List.length_cons, List.length_nil, List.nil_append, List.cons_append, Nat.reduceAdd, Nat.reduceSub, Nat.reduceLeDiff, true_and, and_true, if_true, if_false, Bool.false_eq_true, List.append_nil, hs_o_0, hs_r_0_0, hs_t_0_0, hs_r_0_1, hs_t_0_1, hs_r_0_2, hs_t_0_2, hs_r_0_3, hs_t_0_3, hs_r_0_4, hs_t_0_4, hs_r_0_5, hs_t_0_5, hs_r_0_6, hs_t_0_6, hs_r_0_7, hs_t_0_7, hs_f_0_8, hs_o_1, hs_f_1_0, hs_f_1_1, hs_r_1_2, hs_t_1_2, hs_r_1_3, hs_t_1_3, hs_r_1_4, hs_t_1_4, hs_r_1_5, hs_t_1_5, hs_r_1_6, hs_t_1_6, hs_r_1_7, hs_t_1_7, hs_r_1_8, hs_t_1_8, hs_r_1_9, hs_t_1_9, hs_i_2, hs_i_3, hs_i_4, hs_i_5, hs_i_6, hs_i_7, hs_i_8, hs_i_9, hs_o_82, hs_r_82_0, hs_t_82_0, hs_f_82_1, hs_i_83, hs_o_84, hs_r_84_0, hs_t_84_0, hs_r_84_1, hs_t_84_1, hs_r_84_2, hs_t_84_2, hs_r_84_3, hs_t_84_3, hs_f_84_4, hs_i_85, hs_i_86, hs_i_87, hs_o_88, hs_r_88_0, hs_t_88_0, hs_r_88_1, hs_t_88_1, hs_r_88_2, hs_t_88_2, hs_r_88_3, hs_t_88_3, hs_r_88_4, hs_t_88_4, hs_r_88_5, hs_t_88_5, hs_r_88_6, hs_t_88_6, hs_r_88_7, hs_t_88_7, hs_f_88_8, hs_f_88_9, hs_i_89, hs_i_90, hs_i_91, hs_i_92, hs_i_93, hs_i_94, hs_i_95, hs_i_96, hs_i_97, hs_i_98, hs_i_99, hs_i_100, hs_i_101, hs_i_102, hs_o_103, hs_r_103_0, hs_t_103_0, hs_r_103_1, hs_t_103_1, hs_r_103_2, hs_t_103_2, hs_r_103_3, hs_t_103_3, hs_f_103_4, hs_i_104, hs_o_105, hs_r_105_0, hs_t_105_0, hs_r_105_1, hs_t_105_1, hs_r_105_2, hs_t_105_2, hs_i_106, hs_i_107, hs_o_108, hs_r_108_0, hs_t_108_0, hs_r_108_1, hs_t_108_1, hs_r_108_2, hs_t_108_2, hs_r_108_3, hs_t_108_3, hs_f_108_4, hs_i_109, hs_i_110, hs_o_111, hs_r_111_0, hs_t_111_0, hs_r_111_1, hs_t_111_1, hs_f_111_2, hs_f_111_3, hs_f_111_4, hs_i_112, hs_o_113, hs_f_113_0, hs_f_113_1, hs_f_113_2, hs_r_113_3, hs_t_113_3, hs_r_113_4, hs_t_113_4, hs_r_113_5, hs_t_113_5, hs_r_113_6, hs_t_113_6, hs_r_113_7, hs_t_113_7, hs_r_113_8, hs_t_113_8, hs_r_113_9, hs_t_113_9, hs_r_113_10, hs_t_113_10, hs_r_113_11, hs_t_113_11, hs_f_113_12, hs_f_113_13, hs_f_113_14, hs_r_113_15, hs_t_113_15, hs_f_113_16, hs_r_113_17, hs_t_113_17, hs_r_113_18, hs_t_113_18, hs_r_113_19, hs_t_113_19, hs_r_113_20, hs_t_113_20, hs_f_113_21, hs_f_113_22, hs_f_113_23, hs_r_113_24, hs_t_113_24, hs_f_113_25, hs_r_113_26, hs_t_113_26, hs_f_113_27, hs_i_114, hs_i_115, hs_i_116, hs_i_117, hs_i_118, hs_i_119, hs_i_120, hs_i_121, hs_i_122, hs_i_123, hs_i_124, hs_i_125, hs_i_126, hs_i_127, hs_i_128, hs_i_129, vp_in_nI (show s < 128 by omega) (show 128 < 2 ^ 31 by decide), hd_cc (show s < 2147483648 by omega), hd_t01, decide_eq_true_eq]
  rcases k4 with h9 | h9
  · simp only [h9, decide_true, Bool.not_true, Bool.false_eq_true, if_false]
    have h := main S (hd_eqv_rf _ _) ⟨k1, k2, k3, Or.inl h9, k5⟩ h9
    by_cases hu : S.2.1 89 s = -2
    · rw [if_pos hu] at h ⊢
      exact h
    · rw [if_neg hu] at h ⊢
      rw [if_neg hu]
      exact h
  · simp only [h9, show ¬ ((1 : Int32) = 0) by decide, decide_false, Bool.not_false, if_true]
    refine sx_startAnew hp hx k1 k3 _ (fun S1 he1 a9 a92 a93 ht => ?_)
    simp only [true_and]
    have h := main S1 he1 ⟨fun k hk8 => by rw [he1.2.2]; exact k1 k hk8, by rw [a92]; exact k2, a93, Or.inl a9, fun _ => ht⟩ a9
    by_cases hu : S1.2.1 89 s = -2
    · rw [if_pos hu] at h ⊢
      exact h
    · rw [if_neg hu] at h ⊢
      rw [if_neg hu]
      exact h

theorem hp_nr_fst {p : hp_P} {s t : Nat} : ∀ {n b : Nat}, hp_nr p s t n = some b → ∀ j, j < b → s.testBit j = true → hp_wy p b t < hp_wy p j t
  | 0, b, h => by cases h
  | n + 1, b, h => by
    intro j hj hjb
    simp only [hp_nr] at h
    cases hq : hp_nr p s t n with
    | none =>
      rw [hq] at h
      by_cases hb : s.testBit n = true
      · simp only [hb, if_true] at h
        cases h
        obtain ⟨c, hc⟩ := hp_nr_some (p := p) (t := t) hj hjb
        rw [hc] at hq
        cases hq
      · simp only [hb, if_false, Bool.false_eq_true] at h
        cases h
    | some c =>
      rw [hq] at h
      have ih := hp_nr_fst hq
      have hcl := (hp_nr_lt hq).1
      by_cases hb : s.testBit n = true ∧ hp_wy p n t < hp_wy p c t
      · simp only [hb, and_self, if_true] at h
        cases h
        rcases Nat.lt_trichotomy j c with q | q | q
        · have := ih j q hjb
          omega
        · rw [q]
          exact hb.2
        · have hle : ∀ m, m ≤ n → ∀ a, hp_nr p s t m = some a → ∀ j, j < m → s.testBit j = true → hp_wy p a t ≤ hp_wy p j t := by
            intro m
            induction m with
            | zero => intro _ a h; cases h
            | succ m ihm =>
              intro hm a ha j hj hjb
              simp only [hp_nr] at ha
              cases hq2 : hp_nr p s t m with
              | none =>
                rw [hq2] at ha
                by_cases hjm : j = m
                · subst hjm
                  simp only [hjb, if_true] at ha
                  cases ha
                  exact Nat.le_refl _
                · obtain ⟨c2, hc2⟩ := hp_nr_some (p := p) (t := t) (show j < m by omega) hjb
                  rw [hc2] at hq2
                  cases hq2
              | some c2 =>
                rw [hq2] at ha
                have i2 := fun j hj hjb => ihm (by omega) c2 hq2 j hj hjb
                by_cases hb2 : s.testBit m = true ∧ hp_wy p m t < hp_wy p c2 t
                · simp only [hb2, and_self, if_true] at ha
                  cases ha
                  by_cases hjm : j = m
                  · subst hjm
                    exact Nat.le_refl _
                  · have := i2 j (by omega) hjb
                    omega
                · simp only [hb2, if_false] at ha
                  have hca : c2 = a := Option.some.inj ha
                  subst hca
                  by_cases hjm : j = m
                  · subst hjm
                    rcases Nat.lt_or_ge (hp_wy p j t) (hp_wy p c2 t) with r | r
                    · exact absurd ⟨hjb, r⟩ hb2
                    · exact r
                  · exact i2 j (by omega) hjb
          have := hle n (Nat.le_refl _) c hq j hj hjb
          omega
      · simp only [hb, if_false] at h
        cases h
        exact ih j hj hjb
theorem sx_near {S : hd_S} {p : hp_P} (hp : hp_ok p) (hx : hx_P 1 S p) (hr : hx_R S p) {s t : Nat} (hs : s < 2 ^ hp_H p) (ht : t < hp_T p) (post : Option hd_V → hd_S → Prop) (hk : post (some (hd_vI (hp_oi (hp_nr p s t (hp_H p))))) S) : wm_X6_nearHall [hd_vR 84, hd_vI (nI s), hd_vI (nI t)] S post := by
  have hT : hp_T p ≤ 8 := hp.1
  have nn := hp_nr_nw hp (set := s) (show t < 8 by omega) (Nat.le_refl (hp_H p))
  refine sx_nearHall hp hx hr hs ht _ (fun h hh hb hw hf => ?_) (fun hno => ?_)
  · obtain ⟨b, hb1⟩ := hp_nr_some (p := p) (t := t) hh hb
    obtain ⟨hbl, hbb⟩ := hp_nr_lt hb1
    have e1 := nn.1 b hb1
    have e2 := hp_nr_fst hb1
    have : h = b := by
      rcases Nat.lt_trichotomy h b with q | q | q
      · have := e2 h q hb
        omega
      · exact q
      · exact absurd ⟨hbb, e1⟩ (hf b q)
    rw [hb1, ← this] at hk
    exact hk
  · cases hq : hp_nr p s t (hp_H p) with
    | none =>
      rw [hq] at hk
      exact hk
    | some b =>
      obtain ⟨hbl, hbb⟩ := hp_nr_lt hq
      exact absurd ⟨hbb, nn.1 b hq⟩ (hno b hbl)
/-- where a town goes -/
noncomputable def hp_gs (p : hp_P) (k s t : Nat) : Int32 := if k = 3 then (match hp_rmc p s with | none => -1 | some c => nI (hp_hl c t)) else (match hp_nr p s t (hp_H p) with | none => -1 | some h => if k = 4 ∧ hp_fi p t < hp_w2 p h t then -1 else nI h)
theorem hb_sm3 : ∀ k, k < 24 → ((((nI k).toInt64 &&& 63)).toBitVec.smod 64).toNat = k := by decide +kernel
set_option maxHeartbeats 1000000 in
theorem sx_hallIn {p : hp_P} (hp : hp_ok p) {s t : Nat} (ht : t ≤ 7) (S : hd_S) (post : Option hd_V → hd_S → Prop) : wm_X7_hallIn [hd_vJ (hp_fl (hp_rmc p s)), hd_vI (nI t)] S post ↔ post (some (hd_vI (match hp_rmc p s with | none => -1 | some c => nI (hp_hl c t)))) S := by
  simp only [wm_X7_hallIn, wo_X7_hallIn, hd_mth, hd_rho0, hd_args, hd_wide, hd_sQ, hd_s0, hd_sI, hd_sJ, hd_sR, hd_sP, hd_sF, hd_sZ, hd_sG, hd_sA, hd_sL, hd_sB, hd_sO, hd_sN, hd_sD, hd_sW, hd_sE, hd_sRI, hd_sRZ, hd_sRJ, hd_sRR, hd_sRV, hd_sSw, hd_sw, hd_sCI, hd_sCL, hd_iK, hd_iL, hd_iU, hd_iB, hd_iD, hd_iJ, hd_iG, hd_iA, hd_iQ, hd_iC, hd_iN, hd_iE, hd_jK, hd_jL, hd_jU, hd_jB, hd_jD, hd_jH, hd_jI, hd_jA, hd_jQ, hd_jN, hd_rL, hd_rG, hd_rA, hd_rN, hd_cI, hd_c0, hd_cJ, hd_cX, hd_cA, hd_cO, hd_v0, hd_pI, hd_pJ, hd_pR, hd_nV, hd_nS, hd_get, hd_st, hd_stW, hd_cut, List.replicate, List.length_cons, List.length_nil, List.nil_append, List.cons_append, Nat.reduceAdd, Nat.reduceSub, Nat.reduceLeDiff, true_and, and_true, if_true, if_false, Bool.false_eq_true, List.append_nil, sx_shiftOf ht]
  cases ho : hp_rmc p s with
  | none =>
    simp only [hp_fl, decide_true, if_true]
  | some c =>
    have hc := hp_rmc_lt hp ho
    have e : lN c >>> ((nI (3 * (7 - t))).toInt64 &&& 63) = lN (c / 2 ^ (3 * (7 - t))) := pf_shr (hb_sm3 _ (by omega)) (Nat.lt_trans hc (by decide))
    have hd : c / 2 ^ (3 * (7 - t)) < 2 ^ 64 := Nat.lt_of_le_of_lt (Nat.div_le_self _ _) (Nat.lt_trans hc (by decide))
    have e2 : lN (c / 2 ^ (3 * (7 - t))) &&& 7 = lN (c / 2 ^ (3 * (7 - t)) % 8) := wb_mask (k := 3) hd (by decide)
    simp only [hp_fl, hp_lne hc, decide_false, Bool.false_eq_true, if_false, e, e2, lN_i]
    exact Iff.rfl
set_option maxHeartbeats 4000000 in
theorem sx_goes {S : hd_S} {p : hp_P} (h00 : hp_T p = 0) (hp : hp_ok p) (hx : hx_P 1 S p) (hr : hx_rs S p) (hQ : hx_rm p S) {hand : Nat} (hh : hand < 2 ^ hp_H p) (hs : S.1 0 8 = nI hand) (kind town : Int32) (post : Option hd_V → hd_S → Prop)
    (hk1 : ∀ k t, k < 5 → kind = nI k → t < hp_T p → town = nI t → ∀ S2, hd_eqv hx_cs S S2 → hx_rs S2 p → hx_rm p S2 → post (some (hd_vI (hp_gs p k hand t))) S2)
    (hk2 : ¬ ((0 ≤ kind ∧ kind ≤ 4) ∧ (0 ≤ town ∧ town < nI (hp_T p))) → post (some (hd_vI (-3))) S) : wm_X8_goes [hd_vR 0, hd_vI kind, hd_vI town] S post := by
  have hT : hp_T p ≤ 8 := hp.1
  have hH : hp_H p ≤ 7 := hp.2.1
  have hx0 : S.1 1 0 = nI (hp_T p) := hx.1
  simp only [wm_X8_goes, wo_X8_goes, hd_mth, hd_rho0, hd_args, hd_wide, hd_sQ, hd_s0, hd_sI, hd_sJ, hd_sR, hd_sP, hd_sF, hd_sZ, hd_sG, hd_sA, hd_sL, hd_sB, hd_sO, hd_sN, hd_sD, hd_sW, hd_sE, hd_sRI, hd_sRZ, hd_sRJ, hd_sRR, hd_sRV, hd_sSw, hd_sw, hd_sCI, hd_sCL, hd_iK, hd_iL, hd_iU, hd_iB, hd_iD, hd_iJ, hd_iG, hd_iA, hd_iQ, hd_iC, hd_iN, hd_iE, hd_jK, hd_jL, hd_jU, hd_jB, hd_jD, hd_jH, hd_jI, hd_jA, hd_jQ, hd_jN, hd_rL, hd_rG, hd_rA, hd_rN, hd_cI, hd_c0, hd_cJ, hd_cX, hd_cA, hd_cO, hd_v0, hd_pI, hd_pJ, hd_pR, hd_nV, hd_nS, hd_get, hd_st, hd_stW, hd_cut, List.replicate, List.length_cons, List.length_nil, List.nil_append, List.cons_append, Nat.reduceAdd, Nat.reduceSub, Nat.reduceLeDiff, true_and, and_true, if_true, if_false, Bool.false_eq_true, List.append_nil, hs_o_0, hs_r_0_0, hs_t_0_0, hs_r_0_1, hs_t_0_1, hs_r_0_2, hs_t_0_2, hs_r_0_3, hs_t_0_3, hs_r_0_4, hs_t_0_4, hs_r_0_5, hs_t_0_5, hs_r_0_6, hs_t_0_6, hs_r_0_7, hs_t_0_7, hs_f_0_8, hs_o_1, hs_f_1_0, hs_f_1_1, hs_r_1_2, hs_t_1_2, hs_r_1_3, hs_t_1_3, hs_r_1_4, hs_t_1_4, hs_r_1_5, hs_t_1_5, hs_r_1_6, hs_t_1_6, hs_r_1_7, hs_t_1_7, hs_r_1_8, hs_t_1_8, hs_r_1_9, hs_t_1_9, hs_i_2, hs_i_3, hs_i_4, hs_i_5, hs_i_6, hs_i_7, hs_i_8, hs_i_9, hs_o_82, hs_r_82_0, hs_t_82_0, hs_f_82_1, hs_i_83, hs_o_84, hs_r_84_0, hs_t_84_0, hs_r_84_1, hs_t_84_1, hs_r_84_2, hs_t_84_2, hs_r_84_3, hs_t_84_3, hs_f_84_4, hs_i_85, hs_i_86, hs_i_87, hs_o_88, hs_r_88_0, hs_t_88_0, hs_r_88_1, hs_t_88_1, hs_r_88_2, hs_t_88_2, hs_r_88_3, hs_t_88_3, hs_r_88_4, hs_t_88_4, hs_r_88_5, hs_t_88_5, hs_r_88_6, hs_t_88_6, hs_r_88_7, hs_t_88_7, hs_f_88_8, hs_f_88_9, hs_i_89, hs_i_90, hs_i_91, hs_i_92, hs_i_93, hs_i_94, hs_i_95, hs_i_96, hs_i_97, hs_i_98, hs_i_99, hs_i_100, hs_i_101, hs_i_102, hs_o_103, hs_r_103_0, hs_t_103_0, hs_r_103_1, hs_t_103_1, hs_r_103_2, hs_t_103_2, hs_r_103_3, hs_t_103_3, hs_f_103_4, hs_i_104, hs_o_105, hs_r_105_0, hs_t_105_0, hs_r_105_1, hs_t_105_1, hs_r_105_2, hs_t_105_2, hs_i_106, hs_i_107, hs_o_108, hs_r_108_0, hs_t_108_0, hs_r_108_1, hs_t_108_1, hs_r_108_2, hs_t_108_2, hs_r_108_3, hs_t_108_3, hs_f_108_4, hs_i_109, hs_i_110, hs_o_111, hs_r_111_0, hs_t_111_0, hs_r_111_1, hs_t_111_1, hs_f_111_2, hs_f_111_3, hs_f_111_4, hs_i_112, hs_o_113, hs_f_113_0, hs_f_113_1, hs_f_113_2, hs_r_113_3, hs_t_113_3, hs_r_113_4, hs_t_113_4, hs_r_113_5, hs_t_113_5, hs_r_113_6, hs_t_113_6, hs_r_113_7, hs_t_113_7, hs_r_113_8, hs_t_113_8, hs_r_113_9, hs_t_113_9, hs_r_113_10, hs_t_113_10, hs_r_113_11, hs_t_113_11, hs_f_113_12, hs_f_113_13, hs_f_113_14, hs_r_113_15, hs_t_113_15, hs_f_113_16, hs_r_113_17, hs_t_113_17, hs_r_113_18, hs_t_113_18, hs_r_113_19, hs_t_113_19, hs_r_113_20, hs_t_113_20, hs_f_113_21, hs_f_113_22, hs_f_113_23, hs_r_113_24, hs_t_113_24, hs_f_113_25, hs_r_113_26, hs_t_113_26, hs_f_113_27, hs_i_114, hs_i_115, hs_i_116, hs_i_117, hs_i_118, hs_i_119, hs_i_120, hs_i_121, hs_i_122, hs_i_123, hs_i_124, hs_i_125, hs_i_126, hs_i_127, hs_i_128, hs_i_129, sp_X8_within, sp_X5_hasTown, hx0, hd_t01, hd_dn1, decide_eq_true_eq]
  by_cases hq : 0 ≤ kind ∧ kind ≤ 4
  · by_cases hq2 : 0 ≤ town ∧ town < nI (hp_T p)
    · obtain ⟨k, hk, rfl⟩ := hb_rng (m := 4) (by decide) hq.1 hq.2
      obtain ⟨t, ht, rfl⟩ := hb_rng2 (show hp_T p < 2 ^ 31 by omega) hq2.1 hq2.2
      simp only [hq, hq2, and_self, not_true, if_false]
      refine sx_fresh hp hx hr _ (fun S1 he hr1 hR1 => ?_)
      have hs1 : S1.1 0 8 = nI hand := by rw [he.1 0 (by decide)]; exact hs
      have hx1 : hx_P 1 S1 p := hx_P_eqx he (by decide) hx
      have he1 : hd_eqv hx_cs S S1 := hd_eqv_sub (hd_eqv_x he) (by decide)
      have hQ1 := hx_QS_1 (hx_rm_QS hp) he hQ
      simp only [hs_o_103, hs1, true_and]
      have hk3 := hk1 k t (by omega) rfl ht rfl
      have e3 : (nI k = (3 : Int32)) ↔ k = 3 := nI_eq (by omega) (by decide)
      have e4 : (nI k = (4 : Int32)) ↔ k = 4 := nI_eq (by omega) (by decide)
      simp only [wm_X1_hallFor, wo_X1_hallFor, hd_mth, hd_rho0, hd_args, hd_wide, hd_sQ, hd_s0, hd_sI, hd_sJ, hd_sR, hd_sP, hd_sF, hd_sZ, hd_sG, hd_sA, hd_sL, hd_sB, hd_sO, hd_sN, hd_sD, hd_sW, hd_sE, hd_sRI, hd_sRZ, hd_sRJ, hd_sRR, hd_sRV, hd_sSw, hd_sw, hd_sCI, hd_sCL, hd_iK, hd_iL, hd_iU, hd_iB, hd_iD, hd_iJ, hd_iG, hd_iA, hd_iQ, hd_iC, hd_iN, hd_iE, hd_jK, hd_jL, hd_jU, hd_jB, hd_jD, hd_jH, hd_jI, hd_jA, hd_jQ, hd_jN, hd_rL, hd_rG, hd_rA, hd_rN, hd_cI, hd_c0, hd_cJ, hd_cX, hd_cA, hd_cO, hd_v0, hd_pI, hd_pJ, hd_pR, hd_nV, hd_nS, hd_get, hd_st, hd_stW, hd_cut, List.replicate, List.length_cons, List.length_nil, List.nil_append, List.cons_append, Nat.reduceAdd, Nat.reduceSub, Nat.reduceLeDiff, true_and, and_true, if_true, if_false, Bool.false_eq_true, List.append_nil, hs_o_0, hs_r_0_0, hs_t_0_0, hs_r_0_1, hs_t_0_1, hs_r_0_2, hs_t_0_2, hs_r_0_3, hs_t_0_3, hs_r_0_4, hs_t_0_4, hs_r_0_5, hs_t_0_5, hs_r_0_6, hs_t_0_6, hs_r_0_7, hs_t_0_7, hs_f_0_8, hs_o_1, hs_f_1_0, hs_f_1_1, hs_r_1_2, hs_t_1_2, hs_r_1_3, hs_t_1_3, hs_r_1_4, hs_t_1_4, hs_r_1_5, hs_t_1_5, hs_r_1_6, hs_t_1_6, hs_r_1_7, hs_t_1_7, hs_r_1_8, hs_t_1_8, hs_r_1_9, hs_t_1_9, hs_i_2, hs_i_3, hs_i_4, hs_i_5, hs_i_6, hs_i_7, hs_i_8, hs_i_9, hs_o_82, hs_r_82_0, hs_t_82_0, hs_f_82_1, hs_i_83, hs_o_84, hs_r_84_0, hs_t_84_0, hs_r_84_1, hs_t_84_1, hs_r_84_2, hs_t_84_2, hs_r_84_3, hs_t_84_3, hs_f_84_4, hs_i_85, hs_i_86, hs_i_87, hs_o_88, hs_r_88_0, hs_t_88_0, hs_r_88_1, hs_t_88_1, hs_r_88_2, hs_t_88_2, hs_r_88_3, hs_t_88_3, hs_r_88_4, hs_t_88_4, hs_r_88_5, hs_t_88_5, hs_r_88_6, hs_t_88_6, hs_r_88_7, hs_t_88_7, hs_f_88_8, hs_f_88_9, hs_i_89, hs_i_90, hs_i_91, hs_i_92, hs_i_93, hs_i_94, hs_i_95, hs_i_96, hs_i_97, hs_i_98, hs_i_99, hs_i_100, hs_i_101, hs_i_102, hs_o_103, hs_r_103_0, hs_t_103_0, hs_r_103_1, hs_t_103_1, hs_r_103_2, hs_t_103_2, hs_r_103_3, hs_t_103_3, hs_f_103_4, hs_i_104, hs_o_105, hs_r_105_0, hs_t_105_0, hs_r_105_1, hs_t_105_1, hs_r_105_2, hs_t_105_2, hs_i_106, hs_i_107, hs_o_108, hs_r_108_0, hs_t_108_0, hs_r_108_1, hs_t_108_1, hs_r_108_2, hs_t_108_2, hs_r_108_3, hs_t_108_3, hs_f_108_4, hs_i_109, hs_i_110, hs_o_111, hs_r_111_0, hs_t_111_0, hs_r_111_1, hs_t_111_1, hs_f_111_2, hs_f_111_3, hs_f_111_4, hs_i_112, hs_o_113, hs_f_113_0, hs_f_113_1, hs_f_113_2, hs_r_113_3, hs_t_113_3, hs_r_113_4, hs_t_113_4, hs_r_113_5, hs_t_113_5, hs_r_113_6, hs_t_113_6, hs_r_113_7, hs_t_113_7, hs_r_113_8, hs_t_113_8, hs_r_113_9, hs_t_113_9, hs_r_113_10, hs_t_113_10, hs_r_113_11, hs_t_113_11, hs_f_113_12, hs_f_113_13, hs_f_113_14, hs_r_113_15, hs_t_113_15, hs_f_113_16, hs_r_113_17, hs_t_113_17, hs_r_113_18, hs_t_113_18, hs_r_113_19, hs_t_113_19, hs_r_113_20, hs_t_113_20, hs_f_113_21, hs_f_113_22, hs_f_113_23, hs_r_113_24, hs_t_113_24, hs_f_113_25, hs_r_113_26, hs_t_113_26, hs_f_113_27, hs_i_114, hs_i_115, hs_i_116, hs_i_117, hs_i_118, hs_i_119, hs_i_120, hs_i_121, hs_i_122, hs_i_123, hs_i_124, hs_i_125, hs_i_126, hs_i_127, hs_i_128, hs_i_129, e3, e4, decide_eq_true_eq]
      by_cases hk33 : k = 3
      · simp only [hk33, if_true]
        refine sx_fillingOf hp h00 S1 hand _ hx1 hR1 hQ1 hh (fun S2 he2 hQ2 => ?_)
        simp only [sx_hallIn hp (show t ≤ 7 by omega)]
        have h9 := hk3 S2 (hd_eqv_tr he1 (hd_eqv_sub he2 (by decide))) (hx_rs_eqv he2 (by decide) (by decide) (by decide) (by decide) hr1) hQ2
        simp only [hp_gs, hk33, if_true] at h9
        exact h9
      · simp only [hk33, if_false]
        have h9 := hk3 S1 he1 hr1 hQ1
        simp only [hp_gs, hk33, if_false] at h9
        refine sx_near hp hx1 hR1 hh ht _ ?_
        have hfi : S1.1 3 t = nI (hp_fi p t) := hx1.2.2.2.1 t (by omega)
        have l1 := hp.2.2.2.2.1 t
        cases hn : hp_nr p hand t (hp_H p) with
        | none =>
          rw [hn] at h9
          by_cases hk4 : k = 4
          · simp only [hp_oi, hk4, if_true, not_true, if_false, decide_true, Bool.not_true, Bool.false_eq_true] at h9 ⊢
            exact h9
          · simp only [hp_oi, hk4, if_false] at h9 ⊢
            exact h9
        | some h =>
          rw [hn] at h9
          have hhl := (hp_nr_lt hn).1
          have l2 := hp_w2_le hp hhl (show t < 8 by omega)
          by_cases hk4 : k = 4
          · have el : nI (hp_fi p t) < nI (hp_cr p t * hp_wy p h t) ↔ hp_fi p t < hp_w2 p h t := nI_ltI (show hp_fi p t < 2 ^ 31 by omega) (show hp_w2 p h t < 2 ^ 31 by omega)
            simp only [hp_oi, hk4, if_true, true_and, hp_ne1 (show h < 2 ^ 31 by omega), not_false_iff, decide_false, Bool.not_false, vp_in_nI (show t < 8 by omega) (show 8 < 2 ^ 31 by decide), hd_cc (show t < 2147483648 by omega), hfi, sx_trip hp hx1 hhl (show t < 8 by omega), el, decide_eq_true_eq] at h9 ⊢
            by_cases hf : hp_fi p t < hp_w2 p h t
            · simp only [hf, if_true] at h9 ⊢
              exact h9
            · simp only [hf, if_false] at h9 ⊢
              exact h9
          · simp only [hp_oi, hk4, false_and, if_false] at h9 ⊢
            exact h9
    · simp only [hq, hq2, and_self, not_true, if_false, not_false_iff, if_true]
      exact hk2 (fun q => hq2 q.2)
  · simp only [hq, not_false_iff, if_true]
    exact hk2 (fun q => hq q.1)
