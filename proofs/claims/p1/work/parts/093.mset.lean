/-! what holds of the reference between calls; its changes -/
def hm_I (S : hd_S) (p : hp_P) (n : Nat) (q : Nat → hp_P) (hand : Nat) (cl : Nat → Nat) : Prop := (hp_ok p ∧ (∀ i, i < n → hp_ok (q i)) ∧ hand < 2 ^ hp_H p ∧ (∀ t, cl t ≤ 1000000) ∧ (∀ t, hp_T p ≤ t → cl t = 0)) ∧ hm_P S p ∧ hm_past S n q ∧ S.1 113 14 = nI hand ∧ (∀ t, t < 8 → S.1 123 t = nI (cl t)) ∧ (∀ h, h < 7 → S.1 127 h = nI 0)
/-- the class's cells are left -/
def hm_fr (S S2 : hd_S) : Prop := (∀ c, c < 113 → S2.1 c = S.1 c) ∧ S2.2 = S.2
theorem hm_fr_x {cs : List Nat} {S S2 : hd_S} (h : hd_eqx cs S S2) (hcs : ∀ c, c ∈ cs → 113 ≤ c) : hm_fr S S2 := ⟨fun c hc => h.1 c (fun r => by have := hcs c r; omega), h.2⟩
theorem hp_kq_ok {n : Nat} {q : Nat → hp_P} {p : hp_P} (hn : n ≤ 8) (hp : hp_ok p) (hq : ∀ i, i < n → hp_ok (q i)) : ∀ i, i < hp_kn n → hp_ok (hp_kq n q p i) := by
  intro i hi
  unfold hp_kn at hi
  unfold hp_kq
  by_cases h8 : n < 8
  · rw [if_pos h8] at hi ⊢
    split
    · exact hp
    · exact hq i (by omega)
  · rw [if_neg h8] at hi ⊢
    split
    · exact hp
    · exact hq (i + 1) (by omega)
/-- a changed plan, after keep -/
theorem hm_I_new {S S2 S3 : hd_S} {p p2 : hp_P} {n : Nat} {q : Nat → hp_P} {hand : Nat} {cl : Nat → Nat} (hI : hm_I S p n q hand cl) (he : hd_eqx [113, 122] S S2) (hf : ∀ f, f ≠ 0 → f ≠ 12 → f ≠ 13 → f ≠ 16 → S2.1 113 f = S.1 113 f) (hpa : hm_past S2 (hp_kn n) (hp_kq n q p)) (h3 : ∀ c, c < 113 ∨ 122 ≤ c → S3.1 c = S2.1 c) (hf3 : ∀ f, 3 ≤ f → S3.1 113 f = S2.1 113 f) (h32 : S3.2 = S2.2) (hm3 : hm_P S3 p2) (hok : hp_ok p2) (hT : hp_T p ≤ hp_T p2) (hH : hp_H p ≤ hp_H p2) : hm_I S3 p2 (hp_kn n) (hp_kq n q p) hand cl ∧ hm_fr S S3 := by
  obtain ⟨⟨a1, a2, a3, a4, a5⟩, b1, b2, b3, b4, b5⟩ := hI
  refine ⟨⟨⟨hok, hp_kq_ok b2.1 a1 a2, Nat.lt_of_lt_of_le a3 (Nat.pow_le_pow_right (by decide) hH), a4, fun t ht => a5 t (by omega)⟩, hm3, ?_, ?_, fun t ht => ?_, fun h hh => ?_⟩, ⟨fun c hc => ?_, ?_⟩⟩
  · obtain ⟨c1, c2, e, c3, c4, c5⟩ := hpa
    refine ⟨c1, by rw [hf3 13 (by decide)]; exact c2, e, c3, by rw [hf3 12 (by decide)]; exact c4, fun i hi => hm_B_eq (hp_kq_ok b2.1 a1 a2 i hi).2.1 (fun j _ _ => by rw [h3 122 (by decide)]) (c5 i hi)⟩
  · rw [hf3 14 (by decide), hf 14 (by decide) (by decide) (by decide) (by decide)]
    exact b3
  · rw [h3 123 (by decide), he.1 123 (by decide)]
    exact b4 t ht
  · rw [h3 127 (by decide), he.1 127 (by decide)]
    exact b5 h hh
  · rw [h3 c (Or.inl hc), he.1 c (by simp only [List.mem_cons, List.not_mem_nil, or_false]; omega)]
  · rw [h32, he.2]
theorem hm_I_0 {S : hd_S} {p : hp_P} {n : Nat} {q : Nat → hp_P} {hand : Nat} {cl : Nat → Nat} (hI : hm_I S p n q hand cl) : hm_I (hd_wI S 113 0 0) p n q hand cl ∧ hm_fr S (hd_wI S 113 0 0) := by
  have rf : ∀ f, f ≠ 0 → (hd_wI S 113 0 0).1 113 f = S.1 113 f := fun f hf => by rw [hd_wI1, if_neg (fun r => hf r.2)]
  have rc : ∀ c, c ≠ 113 → (hd_wI S 113 0 0).1 c = S.1 c := fun c hc => by
    funext j
    rw [hx_oth hc]
  obtain ⟨a, b1, b2, b3, b4, b5⟩ := hI
  obtain ⟨c1, c2, e, c3, c4, c5⟩ := b2
  exact ⟨⟨a, hm_P_fr (rf 1 (by decide)) (rf 2 (by decide)) (fun c h1 _ => rc c (by omega)) b1, ⟨c1, by rw [rf 13 (by decide)]; exact c2, e, c3, by rw [rf 12 (by decide)]; exact c4, fun i hi => hm_B_eq (a.2.1 i hi).2.1 (fun j _ _ => by rw [rc 122 (by decide)]) (c5 i hi)⟩, by rw [rf 14 (by decide)]; exact b3, fun t ht => by rw [rc 123 (by decide)]; exact b4 t ht, fun h hh => by rw [rc 127 (by decide)]; exact b5 h hh⟩, ⟨fun c hc => rc c (by omega), rfl⟩⟩
/-- keep, from the state whose 'thrown' is cleared -/
theorem sp_keep0 {S : hd_S} {p : hp_P} {n : Nat} {q : Nat → hp_P} {hand : Nat} {cl : Nat → Nat} (hI : hm_I S p n q hand cl) (post : Option hd_V → hd_S → Prop)
    (hk : ∀ S2, hd_eqx [113, 122] S S2 → (∀ f, f ≠ 0 → f ≠ 12 → f ≠ 13 → f ≠ 16 → S2.1 113 f = S.1 113 f) → hm_past S2 (hp_kn n) (hp_kq n q p) → hm_P S2 p → post none S2) : wm_X9_keep [hd_vR 113] (hd_wI S 113 0 0) post := by
  obtain ⟨hI0, hfr⟩ := hm_I_0 hI
  obtain ⟨⟨a1, a2, a3, a4, a5⟩, b1, b2, b3, b4, b5⟩ := hI0
  refine sp_keep a1 a2 b1 b2 _ (fun S2 he hf hpa => ?_)
  refine hk S2 (hd_eqx_tr (hd_eqx_w (hd_eqx_rf _ _) (by decide)) he) (fun f h0 h1 h2 h3 => ?_) hpa (hm_P_fr (hf 1 (by decide) (by decide) (by decide)) (hf 2 (by decide) (by decide) (by decide)) (fun c h1 h2 => he.1 c (by simp only [List.mem_cons, List.not_mem_nil, or_false]; omega)) b1)
  rw [hf f h1 h2 h3, hd_wI1, if_neg (fun r => h0 r.2)]
theorem hm_P_cr {S : hd_S} {p : hp_P} {t : Nat} {v : Nat} (h : hm_P S p) : hm_P (hd_wI S 114 t (nI v)) (hp_setcr p t v) := by
  obtain ⟨h1, h2, h3, h4, h5, h6, h7, h8, h9, h10⟩ := h
  exact ⟨(hx_oth (by decide)).trans h1, (hx_oth (by decide)).trans h2, hx_rep (e := fun x => nI x) h3, fun i hi => (hx_oth (by decide)).trans (h4 i hi), fun i hi => (hx_oth (by decide)).trans (h5 i hi), fun i hi => (hx_oth (by decide)).trans (h6 i hi), fun i hi => (hx_oth (by decide)).trans (h7 i hi), fun i hi => (hx_oth (by decide)).trans (h8 i hi), fun i hi => (hx_oth (by decide)).trans (h9 i hi), fun h hh i hi hv => (hx_oth (by decide)).trans (h10 h hh i hi hv)⟩
theorem hm_P_fi {S : hd_S} {p : hp_P} {t : Nat} {v : Nat} (h : hm_P S p) : hm_P (hd_wI S 115 t (nI v)) (hp_setfi p t v) := by
  obtain ⟨h1, h2, h3, h4, h5, h6, h7, h8, h9, h10⟩ := h
  exact ⟨(hx_oth (by decide)).trans h1, (hx_oth (by decide)).trans h2, fun i hi => (hx_oth (by decide)).trans (h3 i hi), hx_rep (e := fun x => nI x) h4, fun i hi => (hx_oth (by decide)).trans (h5 i hi), fun i hi => (hx_oth (by decide)).trans (h6 i hi), fun i hi => (hx_oth (by decide)).trans (h7 i hi), fun i hi => (hx_oth (by decide)).trans (h8 i hi), fun i hi => (hx_oth (by decide)).trans (h9 i hi), fun h hh i hi hv => (hx_oth (by decide)).trans (h10 h hh i hi hv)⟩
theorem hm_P_sp {S : hd_S} {p : hp_P} {t : Nat} {v : Int} (h : hm_P S p) : hm_P (hd_wI S 116 t (Int32.ofInt v)) (hp_setsp p t v) := by
  obtain ⟨h1, h2, h3, h4, h5, h6, h7, h8, h9, h10⟩ := h
  exact ⟨(hx_oth (by decide)).trans h1, (hx_oth (by decide)).trans h2, fun i hi => (hx_oth (by decide)).trans (h3 i hi), fun i hi => (hx_oth (by decide)).trans (h4 i hi), hx_rep (e := fun x => Int32.ofInt x) h5, fun i hi => (hx_oth (by decide)).trans (h6 i hi), fun i hi => (hx_oth (by decide)).trans (h7 i hi), fun i hi => (hx_oth (by decide)).trans (h8 i hi), fun i hi => (hx_oth (by decide)).trans (h9 i hi), fun h hh i hi hv => (hx_oth (by decide)).trans (h10 h hh i hi hv)⟩
theorem hm_P_pr {S : hd_S} {p : hp_P} {t : Nat} {v : Nat} (h : hm_P S p) : hm_P (hd_wI S 117 t (nI v)) (hp_setpr p t v) := by
  obtain ⟨h1, h2, h3, h4, h5, h6, h7, h8, h9, h10⟩ := h
  exact ⟨(hx_oth (by decide)).trans h1, (hx_oth (by decide)).trans h2, fun i hi => (hx_oth (by decide)).trans (h3 i hi), fun i hi => (hx_oth (by decide)).trans (h4 i hi), fun i hi => (hx_oth (by decide)).trans (h5 i hi), hx_rep (e := fun x => nI x) h6, fun i hi => (hx_oth (by decide)).trans (h7 i hi), fun i hi => (hx_oth (by decide)).trans (h8 i hi), fun i hi => (hx_oth (by decide)).trans (h9 i hi), fun h hh i hi hv => (hx_oth (by decide)).trans (h10 h hh i hi hv)⟩
theorem hm_P_ro {S : hd_S} {p : hp_P} {t : Nat} {v : Nat} (h : hm_P S p) : hm_P (hd_wI S 118 t (nI v)) (hp_setro p t v) := by
  obtain ⟨h1, h2, h3, h4, h5, h6, h7, h8, h9, h10⟩ := h
  exact ⟨(hx_oth (by decide)).trans h1, (hx_oth (by decide)).trans h2, fun i hi => (hx_oth (by decide)).trans (h3 i hi), fun i hi => (hx_oth (by decide)).trans (h4 i hi), fun i hi => (hx_oth (by decide)).trans (h5 i hi), fun i hi => (hx_oth (by decide)).trans (h6 i hi), hx_rep (e := fun x => nI x) h7, fun i hi => (hx_oth (by decide)).trans (h8 i hi), fun i hi => (hx_oth (by decide)).trans (h9 i hi), fun h hh i hi hv => (hx_oth (by decide)).trans (h10 h hh i hi hv)⟩
set_option maxHeartbeats 4000000 in
theorem sp_people {S : hd_S} {p : hp_P} {n : Nat} {q : Nat → hp_P} {hand : Nat} {cl : Nat → Nat} (hI : hm_I S p n q hand cl) (at_ v : Int32) (post : Option hd_V → hd_S → Prop)
    (hk1 : ∀ t k, t < hp_T p → at_ = nI t → 1 ≤ k → k ≤ 20 → v = nI k → ∀ S2, hm_I S2 (hp_setcr p t k) (hp_kn n) (hp_kq n q p) hand cl → hm_fr S S2 → post (some (hd_vI (nI (hp_cr p t)))) S2)
    (hk2 : ¬ ((0 ≤ at_ ∧ at_ < nI (hp_T p)) ∧ (1 ≤ v ∧ v ≤ 20)) → post (some (hd_vI (-3))) (hd_wI S 113 0 0)) : wm_X9_people [hd_vR 113, hd_vI at_, hd_vI v] S post := by
  have hok := hI.1.1
  have hm0 := (hm_I_0 hI).1.2.1
  have hT : hp_T p ≤ 8 := hok.1
  have hH : hp_H p ≤ 7 := hok.2.1
  simp only [wm_X9_people, wo_X9_people, hd_mth, hd_rho0, hd_args, hd_wide, hq_sQ, hd_s0, hq_sI, hq_sJ, hd_sR, hd_sP, hd_sF, hd_sZ, hd_sG, hd_sA, hd_sL, hd_sB, hd_sO, hd_sN, hd_sD, hd_sW, hd_sE, hd_sRI, hd_sRZ, hd_sRJ, hd_sRR, hd_sRV, hd_sSw, hd_sw, hd_sCI, hd_sCL, hd_iK, hd_iL, hd_iU, hd_iB, hd_iD, hd_iJ, hd_iG, hd_iA, hd_iQ, hd_iC, hd_iN, hd_iE, hd_jK, hd_jL, hd_jU, hd_jB, hd_jD, hd_jH, hd_jI, hd_jA, hd_jQ, hd_jN, hd_rL, hd_rG, hd_rA, hd_rN, hd_cI, hd_c0, hd_cJ, hd_cX, hd_cA, hd_cO, hd_v0, hd_pI, hd_pJ, hd_pR, hd_nV, hd_nS, hd_get, hd_st, hd_stW, hd_cut, List.replicate, List.length_cons, List.length_nil, List.nil_append, List.cons_append, Nat.reduceAdd, Nat.reduceSub, Nat.reduceLeDiff, true_and, and_true, if_true, if_false, Bool.false_eq_true, List.append_nil, hs_o_0, hs_r_0_0, hs_t_0_0, hs_r_0_1, hs_t_0_1, hs_r_0_2, hs_t_0_2, hs_r_0_3, hs_t_0_3, hs_r_0_4, hs_t_0_4, hs_r_0_5, hs_t_0_5, hs_r_0_6, hs_t_0_6, hs_r_0_7, hs_t_0_7, hs_f_0_8, hs_o_1, hs_f_1_0, hs_f_1_1, hs_r_1_2, hs_t_1_2, hs_r_1_3, hs_t_1_3, hs_r_1_4, hs_t_1_4, hs_r_1_5, hs_t_1_5, hs_r_1_6, hs_t_1_6, hs_r_1_7, hs_t_1_7, hs_r_1_8, hs_t_1_8, hs_r_1_9, hs_t_1_9, hs_i_2, hs_i_3, hs_i_4, hs_i_5, hs_i_6, hs_i_7, hs_i_8, hs_i_9, hs_o_82, hs_r_82_0, hs_t_82_0, hs_f_82_1, hs_i_83, hs_o_84, hs_r_84_0, hs_t_84_0, hs_r_84_1, hs_t_84_1, hs_r_84_2, hs_t_84_2, hs_r_84_3, hs_t_84_3, hs_f_84_4, hs_i_85, hs_i_86, hs_i_87, hs_o_88, hs_r_88_0, hs_t_88_0, hs_r_88_1, hs_t_88_1, hs_r_88_2, hs_t_88_2, hs_r_88_3, hs_t_88_3, hs_r_88_4, hs_t_88_4, hs_r_88_5, hs_t_88_5, hs_r_88_6, hs_t_88_6, hs_r_88_7, hs_t_88_7, hs_f_88_8, hs_f_88_9, hs_i_89, hs_i_90, hs_i_91, hs_i_92, hs_i_93, hs_i_94, hs_i_95, hs_i_96, hs_i_97, hs_i_98, hs_i_99, hs_i_100, hs_i_101, hs_i_102, hs_o_103, hs_r_103_0, hs_t_103_0, hs_r_103_1, hs_t_103_1, hs_r_103_2, hs_t_103_2, hs_r_103_3, hs_t_103_3, hs_f_103_4, hs_i_104, hs_o_105, hs_r_105_0, hs_t_105_0, hs_r_105_1, hs_t_105_1, hs_r_105_2, hs_t_105_2, hs_i_106, hs_i_107, hs_o_108, hs_r_108_0, hs_t_108_0, hs_r_108_1, hs_t_108_1, hs_r_108_2, hs_t_108_2, hs_r_108_3, hs_t_108_3, hs_f_108_4, hs_i_109, hs_i_110, hs_o_111, hs_r_111_0, hs_t_111_0, hs_r_111_1, hs_t_111_1, hs_f_111_2, hs_f_111_3, hs_f_111_4, hs_i_112, hs_o_113, hs_f_113_0, hs_f_113_1, hs_f_113_2, hs_r_113_3, hs_t_113_3, hs_r_113_4, hs_t_113_4, hs_r_113_5, hs_t_113_5, hs_r_113_6, hs_t_113_6, hs_r_113_7, hs_t_113_7, hs_r_113_8, hs_t_113_8, hs_r_113_9, hs_t_113_9, hs_r_113_10, hs_t_113_10, hs_r_113_11, hs_t_113_11, hs_f_113_12, hs_f_113_13, hs_f_113_14, hs_r_113_15, hs_t_113_15, hs_f_113_16, hs_r_113_17, hs_t_113_17, hs_r_113_18, hs_t_113_18, hs_r_113_19, hs_t_113_19, hs_r_113_20, hs_t_113_20, hs_f_113_21, hs_f_113_22, hs_f_113_23, hs_r_113_24, hs_t_113_24, hs_f_113_25, hs_r_113_26, hs_t_113_26, hs_f_113_27, hs_i_114, hs_i_115, hs_i_116, hs_i_117, hs_i_118, hs_i_119, hs_i_120, hs_i_121, hs_i_122, hs_i_123, hs_i_124, hs_i_125, hs_i_126, hs_i_127, hs_i_128, hs_i_129, sp_isTown hok hm0.1, sp_X9_in, hd_t01, hd_dn1, decide_eq_true_eq]
  by_cases h1 : 0 ≤ at_ ∧ at_ < nI (hp_T p)
  · by_cases h2 : (1 : Int32) ≤ v ∧ v ≤ 20
    · obtain ⟨t, ht, rfl⟩ := hb_rng2 (show hp_T p < 2 ^ 31 by omega) h1.1 h1.2
      obtain ⟨k, hk, hk9, rfl⟩ := hb_rng3 (a := 1) (b := 20) (by decide) (by decide) h2.1 h2.2
      simp only [h1, h2, and_self, if_true, show ¬ ((1 : Int32) = 0) by decide, not_false_iff, not_true, if_false]
      refine sp_keep0 hI _ (fun S1 he hf hpa hm1 => ?_)
      have e : S1.1 114 t = nI (hp_cr p t) := hm1.2.2.1 t (by omega)
      simp only [true_and, vp_in_nI (show t < 8 by omega) (show 8 < 2 ^ 31 by decide), hd_cc (show t < 2147483648 by omega), e]
      obtain ⟨g1, g2⟩ := hm_I_new (S3 := hd_wI S1 114 t (nI k)) hI he hf hpa (fun c hc => (by funext j; rw [hx_oth (by omega)])) (fun f _ => hx_oth (by decide)) rfl (hm_P_cr hm1) (hp_ok_cr hok hk hk9) (Nat.le_refl _) (Nat.le_refl _)
      exact hk1 t k ht rfl hk hk9 rfl _ g1 g2
    · simp only [h1, h2, and_self, if_true, show ¬ ((1 : Int32) = 0) by decide, not_true, if_false, not_false_iff]
      exact hk2 (fun r => h2 r.2)
  · simp only [h1, if_false, not_true, not_false_iff, if_true]
    exact hk2 (fun r => h1 r.1)
set_option maxHeartbeats 4000000 in
theorem sp_fine {S : hd_S} {p : hp_P} {n : Nat} {q : Nat → hp_P} {hand : Nat} {cl : Nat → Nat} (hI : hm_I S p n q hand cl) (at_ v : Int32) (post : Option hd_V → hd_S → Prop)
    (hk1 : ∀ t k, t < hp_T p → at_ = nI t → 0 ≤ k → k ≤ 100000 → v = nI k → ∀ S2, hm_I S2 (hp_setfi p t k) (hp_kn n) (hp_kq n q p) hand cl → hm_fr S S2 → post (some (hd_vI (nI (hp_fi p t)))) S2)
    (hk2 : ¬ ((0 ≤ at_ ∧ at_ < nI (hp_T p)) ∧ (0 ≤ v ∧ v ≤ 100000)) → post (some (hd_vI (-3))) (hd_wI S 113 0 0)) : wm_X9_fine [hd_vR 113, hd_vI at_, hd_vI v] S post := by
  have hok := hI.1.1
  have hm0 := (hm_I_0 hI).1.2.1
  have hT : hp_T p ≤ 8 := hok.1
  have hH : hp_H p ≤ 7 := hok.2.1
  simp only [wm_X9_fine, wo_X9_fine, hd_mth, hd_rho0, hd_args, hd_wide, hq_sQ, hd_s0, hq_sI, hq_sJ, hd_sR, hd_sP, hd_sF, hd_sZ, hd_sG, hd_sA, hd_sL, hd_sB, hd_sO, hd_sN, hd_sD, hd_sW, hd_sE, hd_sRI, hd_sRZ, hd_sRJ, hd_sRR, hd_sRV, hd_sSw, hd_sw, hd_sCI, hd_sCL, hd_iK, hd_iL, hd_iU, hd_iB, hd_iD, hd_iJ, hd_iG, hd_iA, hd_iQ, hd_iC, hd_iN, hd_iE, hd_jK, hd_jL, hd_jU, hd_jB, hd_jD, hd_jH, hd_jI, hd_jA, hd_jQ, hd_jN, hd_rL, hd_rG, hd_rA, hd_rN, hd_cI, hd_c0, hd_cJ, hd_cX, hd_cA, hd_cO, hd_v0, hd_pI, hd_pJ, hd_pR, hd_nV, hd_nS, hd_get, hd_st, hd_stW, hd_cut, List.replicate, List.length_cons, List.length_nil, List.nil_append, List.cons_append, Nat.reduceAdd, Nat.reduceSub, Nat.reduceLeDiff, true_and, and_true, if_true, if_false, Bool.false_eq_true, List.append_nil, hs_o_0, hs_r_0_0, hs_t_0_0, hs_r_0_1, hs_t_0_1, hs_r_0_2, hs_t_0_2, hs_r_0_3, hs_t_0_3, hs_r_0_4, hs_t_0_4, hs_r_0_5, hs_t_0_5, hs_r_0_6, hs_t_0_6, hs_r_0_7, hs_t_0_7, hs_f_0_8, hs_o_1, hs_f_1_0, hs_f_1_1, hs_r_1_2, hs_t_1_2, hs_r_1_3, hs_t_1_3, hs_r_1_4, hs_t_1_4, hs_r_1_5, hs_t_1_5, hs_r_1_6, hs_t_1_6, hs_r_1_7, hs_t_1_7, hs_r_1_8, hs_t_1_8, hs_r_1_9, hs_t_1_9, hs_i_2, hs_i_3, hs_i_4, hs_i_5, hs_i_6, hs_i_7, hs_i_8, hs_i_9, hs_o_82, hs_r_82_0, hs_t_82_0, hs_f_82_1, hs_i_83, hs_o_84, hs_r_84_0, hs_t_84_0, hs_r_84_1, hs_t_84_1, hs_r_84_2, hs_t_84_2, hs_r_84_3, hs_t_84_3, hs_f_84_4, hs_i_85, hs_i_86, hs_i_87, hs_o_88, hs_r_88_0, hs_t_88_0, hs_r_88_1, hs_t_88_1, hs_r_88_2, hs_t_88_2, hs_r_88_3, hs_t_88_3, hs_r_88_4, hs_t_88_4, hs_r_88_5, hs_t_88_5, hs_r_88_6, hs_t_88_6, hs_r_88_7, hs_t_88_7, hs_f_88_8, hs_f_88_9, hs_i_89, hs_i_90, hs_i_91, hs_i_92, hs_i_93, hs_i_94, hs_i_95, hs_i_96, hs_i_97, hs_i_98, hs_i_99, hs_i_100, hs_i_101, hs_i_102, hs_o_103, hs_r_103_0, hs_t_103_0, hs_r_103_1, hs_t_103_1, hs_r_103_2, hs_t_103_2, hs_r_103_3, hs_t_103_3, hs_f_103_4, hs_i_104, hs_o_105, hs_r_105_0, hs_t_105_0, hs_r_105_1, hs_t_105_1, hs_r_105_2, hs_t_105_2, hs_i_106, hs_i_107, hs_o_108, hs_r_108_0, hs_t_108_0, hs_r_108_1, hs_t_108_1, hs_r_108_2, hs_t_108_2, hs_r_108_3, hs_t_108_3, hs_f_108_4, hs_i_109, hs_i_110, hs_o_111, hs_r_111_0, hs_t_111_0, hs_r_111_1, hs_t_111_1, hs_f_111_2, hs_f_111_3, hs_f_111_4, hs_i_112, hs_o_113, hs_f_113_0, hs_f_113_1, hs_f_113_2, hs_r_113_3, hs_t_113_3, hs_r_113_4, hs_t_113_4, hs_r_113_5, hs_t_113_5, hs_r_113_6, hs_t_113_6, hs_r_113_7, hs_t_113_7, hs_r_113_8, hs_t_113_8, hs_r_113_9, hs_t_113_9, hs_r_113_10, hs_t_113_10, hs_r_113_11, hs_t_113_11, hs_f_113_12, hs_f_113_13, hs_f_113_14, hs_r_113_15, hs_t_113_15, hs_f_113_16, hs_r_113_17, hs_t_113_17, hs_r_113_18, hs_t_113_18, hs_r_113_19, hs_t_113_19, hs_r_113_20, hs_t_113_20, hs_f_113_21, hs_f_113_22, hs_f_113_23, hs_r_113_24, hs_t_113_24, hs_f_113_25, hs_r_113_26, hs_t_113_26, hs_f_113_27, hs_i_114, hs_i_115, hs_i_116, hs_i_117, hs_i_118, hs_i_119, hs_i_120, hs_i_121, hs_i_122, hs_i_123, hs_i_124, hs_i_125, hs_i_126, hs_i_127, hs_i_128, hs_i_129, sp_isTown hok hm0.1, sp_X9_in, hd_t01, hd_dn1, decide_eq_true_eq]
  by_cases h1 : 0 ≤ at_ ∧ at_ < nI (hp_T p)
  · by_cases h2 : (0 : Int32) ≤ v ∧ v ≤ 100000
    · obtain ⟨t, ht, rfl⟩ := hb_rng2 (show hp_T p < 2 ^ 31 by omega) h1.1 h1.2
      obtain ⟨k, hk, hk9, rfl⟩ := hb_rng3 (a := 0) (b := 100000) (by decide) (by decide) h2.1 h2.2
      simp only [h1, h2, and_self, if_true, show ¬ ((1 : Int32) = 0) by decide, not_false_iff, not_true, if_false]
      refine sp_keep0 hI _ (fun S1 he hf hpa hm1 => ?_)
      have e : S1.1 115 t = nI (hp_fi p t) := hm1.2.2.2.1 t (by omega)
      simp only [true_and, vp_in_nI (show t < 8 by omega) (show 8 < 2 ^ 31 by decide), hd_cc (show t < 2147483648 by omega), e]
      obtain ⟨g1, g2⟩ := hm_I_new (S3 := hd_wI S1 115 t (nI k)) hI he hf hpa (fun c hc => (by funext j; rw [hx_oth (by omega)])) (fun f _ => hx_oth (by decide)) rfl (hm_P_fi hm1) (hp_ok_fi hok hk9) (Nat.le_refl _) (Nat.le_refl _)
      exact hk1 t k ht rfl hk hk9 rfl _ g1 g2
    · simp only [h1, h2, and_self, if_true, show ¬ ((1 : Int32) = 0) by decide, not_true, if_false, not_false_iff]
      exact hk2 (fun r => h2 r.2)
  · simp only [h1, if_false, not_true, not_false_iff, if_true]
    exact hk2 (fun r => h1 r.1)
set_option maxHeartbeats 4000000 in
theorem sp_price {S : hd_S} {p : hp_P} {n : Nat} {q : Nat → hp_P} {hand : Nat} {cl : Nat → Nat} (hI : hm_I S p n q hand cl) (at_ v : Int32) (post : Option hd_V → hd_S → Prop)
    (hk1 : ∀ t k, t < hp_H p → at_ = nI t → 0 ≤ k → k ≤ 100000 → v = nI k → ∀ S2, hm_I S2 (hp_setpr p t k) (hp_kn n) (hp_kq n q p) hand cl → hm_fr S S2 → post (some (hd_vI (nI (hp_pr p t)))) S2)
    (hk2 : ¬ ((0 ≤ at_ ∧ at_ < nI (hp_H p)) ∧ (0 ≤ v ∧ v ≤ 100000)) → post (some (hd_vI (-3))) (hd_wI S 113 0 0)) : wm_X9_price [hd_vR 113, hd_vI at_, hd_vI v] S post := by
  have hok := hI.1.1
  have hm0 := (hm_I_0 hI).1.2.1
  have hT : hp_T p ≤ 8 := hok.1
  have hH : hp_H p ≤ 7 := hok.2.1
  simp only [wm_X9_price, wo_X9_price, hd_mth, hd_rho0, hd_args, hd_wide, hq_sQ, hd_s0, hq_sI, hq_sJ, hd_sR, hd_sP, hd_sF, hd_sZ, hd_sG, hd_sA, hd_sL, hd_sB, hd_sO, hd_sN, hd_sD, hd_sW, hd_sE, hd_sRI, hd_sRZ, hd_sRJ, hd_sRR, hd_sRV, hd_sSw, hd_sw, hd_sCI, hd_sCL, hd_iK, hd_iL, hd_iU, hd_iB, hd_iD, hd_iJ, hd_iG, hd_iA, hd_iQ, hd_iC, hd_iN, hd_iE, hd_jK, hd_jL, hd_jU, hd_jB, hd_jD, hd_jH, hd_jI, hd_jA, hd_jQ, hd_jN, hd_rL, hd_rG, hd_rA, hd_rN, hd_cI, hd_c0, hd_cJ, hd_cX, hd_cA, hd_cO, hd_v0, hd_pI, hd_pJ, hd_pR, hd_nV, hd_nS, hd_get, hd_st, hd_stW, hd_cut, List.replicate, List.length_cons, List.length_nil, List.nil_append, List.cons_append, Nat.reduceAdd, Nat.reduceSub, Nat.reduceLeDiff, true_and, and_true, if_true, if_false, Bool.false_eq_true, List.append_nil, hs_o_0, hs_r_0_0, hs_t_0_0, hs_r_0_1, hs_t_0_1, hs_r_0_2, hs_t_0_2, hs_r_0_3, hs_t_0_3, hs_r_0_4, hs_t_0_4, hs_r_0_5, hs_t_0_5, hs_r_0_6, hs_t_0_6, hs_r_0_7, hs_t_0_7, hs_f_0_8, hs_o_1, hs_f_1_0, hs_f_1_1, hs_r_1_2, hs_t_1_2, hs_r_1_3, hs_t_1_3, hs_r_1_4, hs_t_1_4, hs_r_1_5, hs_t_1_5, hs_r_1_6, hs_t_1_6, hs_r_1_7, hs_t_1_7, hs_r_1_8, hs_t_1_8, hs_r_1_9, hs_t_1_9, hs_i_2, hs_i_3, hs_i_4, hs_i_5, hs_i_6, hs_i_7, hs_i_8, hs_i_9, hs_o_82, hs_r_82_0, hs_t_82_0, hs_f_82_1, hs_i_83, hs_o_84, hs_r_84_0, hs_t_84_0, hs_r_84_1, hs_t_84_1, hs_r_84_2, hs_t_84_2, hs_r_84_3, hs_t_84_3, hs_f_84_4, hs_i_85, hs_i_86, hs_i_87, hs_o_88, hs_r_88_0, hs_t_88_0, hs_r_88_1, hs_t_88_1, hs_r_88_2, hs_t_88_2, hs_r_88_3, hs_t_88_3, hs_r_88_4, hs_t_88_4, hs_r_88_5, hs_t_88_5, hs_r_88_6, hs_t_88_6, hs_r_88_7, hs_t_88_7, hs_f_88_8, hs_f_88_9, hs_i_89, hs_i_90, hs_i_91, hs_i_92, hs_i_93, hs_i_94, hs_i_95, hs_i_96, hs_i_97, hs_i_98, hs_i_99, hs_i_100, hs_i_101, hs_i_102, hs_o_103, hs_r_103_0, hs_t_103_0, hs_r_103_1, hs_t_103_1, hs_r_103_2, hs_t_103_2, hs_r_103_3, hs_t_103_3, hs_f_103_4, hs_i_104, hs_o_105, hs_r_105_0, hs_t_105_0, hs_r_105_1, hs_t_105_1, hs_r_105_2, hs_t_105_2, hs_i_106, hs_i_107, hs_o_108, hs_r_108_0, hs_t_108_0, hs_r_108_1, hs_t_108_1, hs_r_108_2, hs_t_108_2, hs_r_108_3, hs_t_108_3, hs_f_108_4, hs_i_109, hs_i_110, hs_o_111, hs_r_111_0, hs_t_111_0, hs_r_111_1, hs_t_111_1, hs_f_111_2, hs_f_111_3, hs_f_111_4, hs_i_112, hs_o_113, hs_f_113_0, hs_f_113_1, hs_f_113_2, hs_r_113_3, hs_t_113_3, hs_r_113_4, hs_t_113_4, hs_r_113_5, hs_t_113_5, hs_r_113_6, hs_t_113_6, hs_r_113_7, hs_t_113_7, hs_r_113_8, hs_t_113_8, hs_r_113_9, hs_t_113_9, hs_r_113_10, hs_t_113_10, hs_r_113_11, hs_t_113_11, hs_f_113_12, hs_f_113_13, hs_f_113_14, hs_r_113_15, hs_t_113_15, hs_f_113_16, hs_r_113_17, hs_t_113_17, hs_r_113_18, hs_t_113_18, hs_r_113_19, hs_t_113_19, hs_r_113_20, hs_t_113_20, hs_f_113_21, hs_f_113_22, hs_f_113_23, hs_r_113_24, hs_t_113_24, hs_f_113_25, hs_r_113_26, hs_t_113_26, hs_f_113_27, hs_i_114, hs_i_115, hs_i_116, hs_i_117, hs_i_118, hs_i_119, hs_i_120, hs_i_121, hs_i_122, hs_i_123, hs_i_124, hs_i_125, hs_i_126, hs_i_127, hs_i_128, hs_i_129, sp_isHall hok hm0.2.1, sp_X9_in, hd_t01, hd_dn1, decide_eq_true_eq]
  by_cases h1 : 0 ≤ at_ ∧ at_ < nI (hp_H p)
  · by_cases h2 : (0 : Int32) ≤ v ∧ v ≤ 100000
    · obtain ⟨t, ht, rfl⟩ := hb_rng2 (show hp_H p < 2 ^ 31 by omega) h1.1 h1.2
      obtain ⟨k, hk, hk9, rfl⟩ := hb_rng3 (a := 0) (b := 100000) (by decide) (by decide) h2.1 h2.2
      simp only [h1, h2, and_self, if_true, show ¬ ((1 : Int32) = 0) by decide, not_false_iff, not_true, if_false]
      refine sp_keep0 hI _ (fun S1 he hf hpa hm1 => ?_)
      have e : S1.1 117 t = nI (hp_pr p t) := hm1.2.2.2.2.2.1 t (by omega)
      simp only [true_and, vp_in_nI (show t < 7 by omega) (show 7 < 2 ^ 31 by decide), hd_cc (show t < 2147483648 by omega), e]
      obtain ⟨g1, g2⟩ := hm_I_new (S3 := hd_wI S1 117 t (nI k)) hI he hf hpa (fun c hc => (by funext j; rw [hx_oth (by omega)])) (fun f _ => hx_oth (by decide)) rfl (hm_P_pr hm1) (hp_ok_pr hok hk9) (Nat.le_refl _) (Nat.le_refl _)
      exact hk1 t k ht rfl hk hk9 rfl _ g1 g2
    · simp only [h1, h2, and_self, if_true, show ¬ ((1 : Int32) = 0) by decide, not_true, if_false, not_false_iff]
      exact hk2 (fun r => h2 r.2)
  · simp only [h1, if_false, not_true, not_false_iff, if_true]
    exact hk2 (fun r => h1 r.1)
set_option maxHeartbeats 4000000 in
theorem sp_room {S : hd_S} {p : hp_P} {n : Nat} {q : Nat → hp_P} {hand : Nat} {cl : Nat → Nat} (hI : hm_I S p n q hand cl) (at_ v : Int32) (post : Option hd_V → hd_S → Prop)
    (hk1 : ∀ t k, t < hp_H p → at_ = nI t → 0 ≤ k → k ≤ 200 → v = nI k → ∀ S2, hm_I S2 (hp_setro p t k) (hp_kn n) (hp_kq n q p) hand cl → hm_fr S S2 → post (some (hd_vI (nI (hp_ro p t)))) S2)
    (hk2 : ¬ ((0 ≤ at_ ∧ at_ < nI (hp_H p)) ∧ (0 ≤ v ∧ v ≤ 200)) → post (some (hd_vI (-3))) (hd_wI S 113 0 0)) : wm_X9_room [hd_vR 113, hd_vI at_, hd_vI v] S post := by
  have hok := hI.1.1
  have hm0 := (hm_I_0 hI).1.2.1
  have hT : hp_T p ≤ 8 := hok.1
  have hH : hp_H p ≤ 7 := hok.2.1
  simp only [wm_X9_room, wo_X9_room, hd_mth, hd_rho0, hd_args, hd_wide, hq_sQ, hd_s0, hq_sI, hq_sJ, hd_sR, hd_sP, hd_sF, hd_sZ, hd_sG, hd_sA, hd_sL, hd_sB, hd_sO, hd_sN, hd_sD, hd_sW, hd_sE, hd_sRI, hd_sRZ, hd_sRJ, hd_sRR, hd_sRV, hd_sSw, hd_sw, hd_sCI, hd_sCL, hd_iK, hd_iL, hd_iU, hd_iB, hd_iD, hd_iJ, hd_iG, hd_iA, hd_iQ, hd_iC, hd_iN, hd_iE, hd_jK, hd_jL, hd_jU, hd_jB, hd_jD, hd_jH, hd_jI, hd_jA, hd_jQ, hd_jN, hd_rL, hd_rG, hd_rA, hd_rN, hd_cI, hd_c0, hd_cJ, hd_cX, hd_cA, hd_cO, hd_v0, hd_pI, hd_pJ, hd_pR, hd_nV, hd_nS, hd_get, hd_st, hd_stW, hd_cut, List.replicate, List.length_cons, List.length_nil, List.nil_append, List.cons_append, Nat.reduceAdd, Nat.reduceSub, Nat.reduceLeDiff, true_and, and_true, if_true, if_false, Bool.false_eq_true, List.append_nil, hs_o_0, hs_r_0_0, hs_t_0_0, hs_r_0_1, hs_t_0_1, hs_r_0_2, hs_t_0_2, hs_r_0_3, hs_t_0_3, hs_r_0_4, hs_t_0_4, hs_r_0_5, hs_t_0_5, hs_r_0_6, hs_t_0_6, hs_r_0_7, hs_t_0_7, hs_f_0_8, hs_o_1, hs_f_1_0, hs_f_1_1, hs_r_1_2, hs_t_1_2, hs_r_1_3, hs_t_1_3, hs_r_1_4, hs_t_1_4, hs_r_1_5, hs_t_1_5, hs_r_1_6, hs_t_1_6, hs_r_1_7, hs_t_1_7, hs_r_1_8, hs_t_1_8, hs_r_1_9, hs_t_1_9, hs_i_2, hs_i_3, hs_i_4, hs_i_5, hs_i_6, hs_i_7, hs_i_8, hs_i_9, hs_o_82, hs_r_82_0, hs_t_82_0, hs_f_82_1, hs_i_83, hs_o_84, hs_r_84_0, hs_t_84_0, hs_r_84_1, hs_t_84_1, hs_r_84_2, hs_t_84_2, hs_r_84_3, hs_t_84_3, hs_f_84_4, hs_i_85, hs_i_86, hs_i_87, hs_o_88, hs_r_88_0, hs_t_88_0, hs_r_88_1, hs_t_88_1, hs_r_88_2, hs_t_88_2, hs_r_88_3, hs_t_88_3, hs_r_88_4, hs_t_88_4, hs_r_88_5, hs_t_88_5, hs_r_88_6, hs_t_88_6, hs_r_88_7, hs_t_88_7, hs_f_88_8, hs_f_88_9, hs_i_89, hs_i_90, hs_i_91, hs_i_92, hs_i_93, hs_i_94, hs_i_95, hs_i_96, hs_i_97, hs_i_98, hs_i_99, hs_i_100, hs_i_101, hs_i_102, hs_o_103, hs_r_103_0, hs_t_103_0, hs_r_103_1, hs_t_103_1, hs_r_103_2, hs_t_103_2, hs_r_103_3, hs_t_103_3, hs_f_103_4, hs_i_104, hs_o_105, hs_r_105_0, hs_t_105_0, hs_r_105_1, hs_t_105_1, hs_r_105_2, hs_t_105_2, hs_i_106, hs_i_107, hs_o_108, hs_r_108_0, hs_t_108_0, hs_r_108_1, hs_t_108_1, hs_r_108_2, hs_t_108_2, hs_r_108_3, hs_t_108_3, hs_f_108_4, hs_i_109, hs_i_110, hs_o_111, hs_r_111_0, hs_t_111_0, hs_r_111_1, hs_t_111_1, hs_f_111_2, hs_f_111_3, hs_f_111_4, hs_i_112, hs_o_113, hs_f_113_0, hs_f_113_1, hs_f_113_2, hs_r_113_3, hs_t_113_3, hs_r_113_4, hs_t_113_4, hs_r_113_5, hs_t_113_5, hs_r_113_6, hs_t_113_6, hs_r_113_7, hs_t_113_7, hs_r_113_8, hs_t_113_8, hs_r_113_9, hs_t_113_9, hs_r_113_10, hs_t_113_10, hs_r_113_11, hs_t_113_11, hs_f_113_12, hs_f_113_13, hs_f_113_14, hs_r_113_15, hs_t_113_15, hs_f_113_16, hs_r_113_17, hs_t_113_17, hs_r_113_18, hs_t_113_18, hs_r_113_19, hs_t_113_19, hs_r_113_20, hs_t_113_20, hs_f_113_21, hs_f_113_22, hs_f_113_23, hs_r_113_24, hs_t_113_24, hs_f_113_25, hs_r_113_26, hs_t_113_26, hs_f_113_27, hs_i_114, hs_i_115, hs_i_116, hs_i_117, hs_i_118, hs_i_119, hs_i_120, hs_i_121, hs_i_122, hs_i_123, hs_i_124, hs_i_125, hs_i_126, hs_i_127, hs_i_128, hs_i_129, sp_isHall hok hm0.2.1, sp_X9_in, hd_t01, hd_dn1, decide_eq_true_eq]
  by_cases h1 : 0 ≤ at_ ∧ at_ < nI (hp_H p)
  · by_cases h2 : (0 : Int32) ≤ v ∧ v ≤ 200
    · obtain ⟨t, ht, rfl⟩ := hb_rng2 (show hp_H p < 2 ^ 31 by omega) h1.1 h1.2
      obtain ⟨k, hk, hk9, rfl⟩ := hb_rng3 (a := 0) (b := 200) (by decide) (by decide) h2.1 h2.2
      simp only [h1, h2, and_self, if_true, show ¬ ((1 : Int32) = 0) by decide, not_false_iff, not_true, if_false]
      refine sp_keep0 hI _ (fun S1 he hf hpa hm1 => ?_)
      have e : S1.1 118 t = nI (hp_ro p t) := hm1.2.2.2.2.2.2.1 t (by omega)
      simp only [true_and, vp_in_nI (show t < 7 by omega) (show 7 < 2 ^ 31 by decide), hd_cc (show t < 2147483648 by omega), e]
      obtain ⟨g1, g2⟩ := hm_I_new (S3 := hd_wI S1 118 t (nI k)) hI he hf hpa (fun c hc => (by funext j; rw [hx_oth (by omega)])) (fun f _ => hx_oth (by decide)) rfl (hm_P_ro hm1) (hp_ok_ro hok hk9) (Nat.le_refl _) (Nat.le_refl _)
      exact hk1 t k ht rfl hk hk9 rfl _ g1 g2
    · simp only [h1, h2, and_self, if_true, show ¬ ((1 : Int32) = 0) by decide, not_true, if_false, not_false_iff]
      exact hk2 (fun r => h2 r.2)
  · simp only [h1, if_false, not_true, not_false_iff, if_true]
    exact hk2 (fun r => h1 r.1)
