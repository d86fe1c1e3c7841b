/-! what holds of the class's desk between calls -/
/-- what a heap of towns costs alone: the least over all sets -/
def hp_hm (p : hp_P) (N m : Nat) : Nat → Nat
  | 0 => N
  | s + 1 => min (hp_hm p N m s) (hp_prs p (s + 1) (hp_H p) + hp_sum p (s + 1) m (hp_T p))
def hp_hc (p : hp_P) (m : Nat) : Nat := if m = 0 then 0 else hp_hm p 2000000000 m (2 ^ hp_H p - 1)
def hx_hp (S : hd_S) (p : hp_P) : Prop := (S.1 108 4 = 0 ∨ S.1 108 4 = 1) ∧ (S.1 108 4 = 0 → hp_H p ≠ 0 ∧ ∀ m, m < 2 ^ hp_T p → S.1 109 m = nI (hp_hc p m))
def hx_I (S : hd_S) (p : hp_P) (n : Nat) (q : Nat → hp_P) (hand : Nat) (cl : Nat → Nat) : Prop := (hp_ok p ∧ (∀ i, i < n → hp_ok (q i)) ∧ hand < 2 ^ hp_H p ∧ (∀ t, cl t ≤ 1000000) ∧ (∀ t, hp_T p ≤ t → cl t = 0)) ∧ hx_P 1 S p ∧ hx_past S n q ∧ S.1 0 8 = nI hand ∧ (∀ t, t < 8 → S.1 106 t = nI (cl t)) ∧ hx_rs S p ∧ hx_rm p S ∧ hx_hp S p
/-- the other desk's cells are left -/
def hx_fr (S S2 : hd_S) : Prop := ∀ c, 113 ≤ c → S2.1 c = S.1 c
theorem hx_fr_rf (S : hd_S) : hx_fr S S := fun _ _ => rfl
theorem hx_past_eq {S S2 : hd_S} {n : Nat} {q : Nat → hp_P} (h1 : ∀ c, 10 ≤ c → c ≤ 82 → S2.1 c = S.1 c) (h2 : S2.2.2 83 = S.2.2 83) (h : hx_past S n q) : hx_past S2 n q := by
  obtain ⟨b1, b2, g, b3, b4, b5⟩ := h
  refine ⟨b1, by rw [h1 82 (by decide) (by decide)]; exact b2, g, fun i hi => by rw [h2]; exact b3 i hi, b4, fun i hi => hx_P_cell (fun k hk => h1 _ ?_ ?_) (b5 i hi)⟩
  · have := (b3 i (by omega)).2
    omega
  · have := (b3 i (by omega)).2
    omega
/-- a changed plan: kept for undo, all answers forgotten -/
theorem hx_I_new {S S2 S3 : hd_S} {p p2 : hp_P} {n : Nat} {q : Nat → hp_P} {hand : Nat} {cl : Nat → Nat} (hI : hx_I S p n q hand cl) (hkf : hx_kf S S2) (hpa : hx_past S2 (hp_kn n) (hp_kq n q p)) (h3 : ∀ c, c = 0 ∨ 10 ≤ c → S3.1 c = S2.1 c) (h32 : S3.2 = S2.2) (hx3 : hx_P 1 S3 p2) (hok : hp_ok p2) (hT : hp_T p ≤ hp_T p2) (hH : hp_H p ≤ hp_H p2) : hx_I S3 p2 (hp_kn n) (hp_kq n q p) hand cl ∧ hx_fr S S3 := by
  obtain ⟨⟨a1, a2, a3, a4, a5⟩, b1, b2, b3, b4, b5, b6, b7⟩ := hI
  obtain ⟨k1, k2, k3, k4, k5, k6, k7, k8, k9⟩ := hkf
  refine ⟨⟨⟨hok, fun i hi => ?_, Nat.lt_of_lt_of_le a3 (Nat.pow_le_pow_right (by decide) hH), a4, fun t ht => a5 t (by omega)⟩, hx3, hx_past_eq (fun c h1 _ => h3 c (Or.inr h1)) (by rw [h32]) hpa, ?_, fun t ht => ?_, ⟨?_, fun r => ?_⟩, ⟨fun k hk => ?_, ?_, ?_, ?_, fun r => ?_⟩, ⟨?_, fun r => ?_⟩⟩, fun c hc => ?_⟩
  · unfold hp_kq hp_kn at *
    by_cases h8 : n < 8
    · rw [if_pos h8] at hi ⊢
      by_cases hin : i = n
      · simp only [hin, if_true]
        exact a1
      · simp only [hin, if_false]
        exact a2 i (by omega)
    · have hn8 := b2.1
      rw [if_neg h8] at hi ⊢
      by_cases hin : i = 7
      · simp only [hin, if_true]
        exact a1
      · simp only [hin, if_false]
        exact a2 (i + 1) (by omega)
  · rw [h3 0 (Or.inl rfl), k1 0 (Or.inl (by decide))]
    exact b3
  · rw [h3 106 (Or.inr (by decide)), k1 106 (Or.inr (by decide))]
    exact b4 t ht
  · rw [h3 84 (Or.inr (by decide))]
    exact Or.inr k7
  · rw [h3 84 (Or.inr (by decide)), k7] at r
    exact absurd r (by decide)
  · rw [h32, k3 90 (by decide)]
    exact b6.1 k hk
  · rw [h32, k2]
    exact b6.2.1
  · rw [h3 93 (Or.inr (by decide)), k1 93 (Or.inr (by decide))]
    exact b6.2.2.1
  · rw [h3 88 (Or.inr (by decide))]
    exact Or.inr k8
  · rw [h3 88 (Or.inr (by decide)), k8] at r
    exact absurd r (by decide)
  · rw [h3 108 (Or.inr (by decide))]
    exact Or.inr k9
  · rw [h3 108 (Or.inr (by decide)), k9] at r
    exact absurd r (by decide)
  · rw [h3 c (Or.inr (by omega)), k1 c (Or.inr (by omega))]
def hp_rep {α : Type} (f : Nat → α) (t : Nat) (v : α) : Nat → α := fun i => if i = t then v else f i
/-- one entry of a plan's row changed -/
theorem hx_kf_P {S S2 : hd_S} {p : hp_P} (h : hx_kf S S2) (hx : hx_P 1 S p) : hx_P 1 S2 p := hx_P_cell (fun i hi => h.1 _ (Or.inl (by omega))) hx
def hp_setcr (p : hp_P) (t v : Nat) : hp_P := (p.1, p.2.1, hp_rep p.2.2.1 t v, p.2.2.2)
def hp_setfi (p : hp_P) (t v : Nat) : hp_P := (p.1, p.2.1, p.2.2.1, hp_rep p.2.2.2.1 t v, p.2.2.2.2)
def hp_setsp (p : hp_P) (t : Nat) (v : Int) : hp_P := (p.1, p.2.1, p.2.2.1, p.2.2.2.1, hp_rep p.2.2.2.2.1 t v, p.2.2.2.2.2)
def hp_setpr (p : hp_P) (t v : Nat) : hp_P := (p.1, p.2.1, p.2.2.1, p.2.2.2.1, p.2.2.2.2.1, hp_rep p.2.2.2.2.2.1 t v, p.2.2.2.2.2.2)
def hp_setro (p : hp_P) (t v : Nat) : hp_P := (p.1, p.2.1, p.2.2.1, p.2.2.2.1, p.2.2.2.2.1, p.2.2.2.2.2.1, hp_rep p.2.2.2.2.2.2.1 t v, p.2.2.2.2.2.2.2)
set_option maxHeartbeats 4000000 in
/-- change: an entry of a row of the present plan -/
theorem sx_change {S : hd_S} {p : hp_P} {n : Nat} {q : Nat → hp_P} {hand : Nat} {cl : Nat → Nat} (hI : hx_I S p n q hand cl) {c N t : Nat} (hc : 2 ≤ c ∧ c ≤ 9) (hin : ∀ i, hd_in hs_sh 0 c i ↔ vp_in i N) (hN : N < 2 ^ 31) (ht : t < N) (v : Int32) {p2 : hp_P} (hok : hp_ok p2) (hT : hp_T p ≤ hp_T p2) (hH : hp_H p ≤ hp_H p2) (hx2 : ∀ S2, hx_P 1 S2 p → hx_P 1 (hd_wI S2 c t v) p2) (post : Option hd_V → hd_S → Prop)
    (hk : ∀ S2, hx_I S2 p2 (hp_kn n) (hp_kq n q p) hand cl → hx_fr S S2 → post (some (hd_vI (S.1 c t))) S2) : wm_X8_change [hd_vR 0, hd_vR c, hd_vI (nI t), hd_vI v] S post := by
  have hpH : hp_H p ≤ 7 := hI.1.1.2.1
  simp only [wm_X8_change, wo_X8_change, hd_mth, hd_rho0, hd_args, hd_wide, hq_sQ, hd_s0, hq_sI, hq_sJ, hd_sR, hd_sP, hd_sF, hd_sZ, hd_sG, hd_sA, hd_sL, hd_sB, hd_sO, hd_sN, hd_sD, hd_sW, hd_sE, hd_sRI, hd_sRZ, hd_sRJ, hd_sRR, hd_sRV, hd_sSw, hd_sw, hd_sCI, hd_sCL, hd_iK, hd_iL, hd_iU, hd_iB, hd_iD, hd_iJ, hd_iG, hd_iA, hd_iQ, hd_iC, hd_iN, hd_iE, hd_jK, hd_jL, hd_jU, hd_jB, hd_jD, hd_jH, hd_jI, hd_jA, hd_jQ, hd_jN, hd_rL, hd_rG, hd_rA, hd_rN, hd_cI, hd_c0, hd_cJ, hd_cX, hd_cA, hd_cO, hd_v0, hd_pI, hd_pJ, hd_pR, hd_nV, hd_nS, hd_get, hd_st, hd_stW, hd_cut, List.replicate, List.length_cons, List.length_nil, List.nil_append, List.cons_append, Nat.reduceAdd, Nat.reduceSub, Nat.reduceLeDiff, true_and, and_true, if_true, if_false, Bool.false_eq_true, List.append_nil, hs_o_0, hs_r_0_0, hs_t_0_0, hs_r_0_1, hs_t_0_1, hs_r_0_2, hs_t_0_2, hs_r_0_3, hs_t_0_3, hs_r_0_4, hs_t_0_4, hs_r_0_5, hs_t_0_5, hs_r_0_6, hs_t_0_6, hs_r_0_7, hs_t_0_7, hs_f_0_8, hs_o_1, hs_f_1_0, hs_f_1_1, hs_r_1_2, hs_t_1_2, hs_r_1_3, hs_t_1_3, hs_r_1_4, hs_t_1_4, hs_r_1_5, hs_t_1_5, hs_r_1_6, hs_t_1_6, hs_r_1_7, hs_t_1_7, hs_r_1_8, hs_t_1_8, hs_r_1_9, hs_t_1_9, hs_i_2, hs_i_3, hs_i_4, hs_i_5, hs_i_6, hs_i_7, hs_i_8, hs_i_9, hs_o_82, hs_r_82_0, hs_t_82_0, hs_f_82_1, hs_i_83, hs_o_84, hs_r_84_0, hs_t_84_0, hs_r_84_1, hs_t_84_1, hs_r_84_2, hs_t_84_2, hs_r_84_3, hs_t_84_3, hs_f_84_4, hs_i_85, hs_i_86, hs_i_87, hs_o_88, hs_r_88_0, hs_t_88_0, hs_r_88_1, hs_t_88_1, hs_r_88_2, hs_t_88_2, hs_r_88_3, hs_t_88_3, hs_r_88_4, hs_t_88_4, hs_r_88_5, hs_t_88_5, hs_r_88_6, hs_t_88_6, hs_r_88_7, hs_t_88_7, hs_f_88_8, hs_f_88_9, hs_i_89, hs_i_90, hs_i_91, hs_i_92, hs_i_93, hs_i_94, hs_i_95, hs_i_96, hs_i_97, hs_i_98, hs_i_99, hs_i_100, hs_i_101, hs_i_102, hs_o_103, hs_r_103_0, hs_t_103_0, hs_r_103_1, hs_t_103_1, hs_r_103_2, hs_t_103_2, hs_r_103_3, hs_t_103_3, hs_f_103_4, hs_i_104, hs_o_105, hs_r_105_0, hs_t_105_0, hs_r_105_1, hs_t_105_1, hs_r_105_2, hs_t_105_2, hs_i_106, hs_i_107, hs_o_108, hs_r_108_0, hs_t_108_0, hs_r_108_1, hs_t_108_1, hs_r_108_2, hs_t_108_2, hs_r_108_3, hs_t_108_3, hs_f_108_4, hs_i_109, hs_i_110, hs_o_111, hs_r_111_0, hs_t_111_0, hs_r_111_1, hs_t_111_1, hs_f_111_2, hs_f_111_3, hs_f_111_4, hs_i_112, hs_o_113, hs_f_113_0, hs_f_113_1, hs_f_113_2, hs_r_113_3, hs_t_113_3, hs_r_113_4, hs_t_113_4, hs_r_113_5, hs_t_113_5, hs_r_113_6, hs_t_113_6, hs_r_113_7, hs_t_113_7, hs_r_113_8, hs_t_113_8, hs_r_113_9, hs_t_113_9, hs_r_113_10, hs_t_113_10, hs_r_113_11, hs_t_113_11, hs_f_113_12, hs_f_113_13, hs_f_113_14, hs_r_113_15, hs_t_113_15, hs_f_113_16, hs_r_113_17, hs_t_113_17, hs_r_113_18, hs_t_113_18, hs_r_113_19, hs_t_113_19, hs_r_113_20, hs_t_113_20, hs_f_113_21, hs_f_113_22, hs_f_113_23, hs_r_113_24, hs_t_113_24, hs_f_113_25, hs_r_113_26, hs_t_113_26, hs_f_113_27, hs_i_114, hs_i_115, hs_i_116, hs_i_117, hs_i_118, hs_i_119, hs_i_120, hs_i_121, hs_i_122, hs_i_123, hs_i_124, hs_i_125, hs_i_126, hs_i_127, hs_i_128, hs_i_129, hin, vp_in_nI ht hN, hd_cc (show t < 2147483648 by omega)]
  refine sx_keepForUndo hpH hI.2.1 hI.2.2.1 _ (fun S1 hkf hpa => ?_)
  simp only [true_and]
  have h3 : ∀ d, d = 0 ∨ 10 ≤ d → (hd_wI S1 c t v).1 d = S1.1 d := fun d hd => by
    funext j
    rw [hd_wI1, if_neg (fun r => by have := r.1; omega)]
  obtain ⟨g1, g2⟩ := hx_I_new (S3 := hd_wI S1 c t v) hI hkf hpa h3 (hd_wI2 _ _ _ _) (hx2 S1 (hx_kf_P hkf hI.2.1)) hok hT hH
  exact hk _ g1 g2
theorem hp_ok_cr {p : hp_P} (h : hp_ok p) {t v : Nat} (h1 : 1 ≤ v) (h2 : v ≤ 20) : hp_ok (hp_setcr p t v) := by
  obtain ⟨o1, o2, o3, o4, o5, o6, o7, o8, o9, o10, o11⟩ := h
  refine ⟨o1, o2, fun i hi => ?_, fun i => ?_, o5, o6, o7, o8, o9, o10, o11⟩
  · show 1 ≤ hp_rep p.2.2.1 t v i
    unfold hp_rep
    split
    · exact h1
    · exact o3 i hi
  · show hp_rep p.2.2.1 t v i ≤ 20
    unfold hp_rep
    split
    · exact h2
    · exact o4 i
theorem hp_ok_fi {p : hp_P} (h : hp_ok p) {t v : Nat} (h2 : v ≤ 100000) : hp_ok (hp_setfi p t v) := by
  obtain ⟨o1, o2, o3, o4, o5, o6, o7, o8, o9, o10, o11⟩ := h
  refine ⟨o1, o2, o3, o4, fun i => ?_, o6, o7, o8, o9, o10, o11⟩
  show hp_rep p.2.2.2.1 t v i ≤ 100000
  unfold hp_rep
  split
  · exact h2
  · exact o5 i
theorem hp_ok_sp {p : hp_P} (h : hp_ok p) {t : Nat} {v : Int} (h1 : -1000 ≤ v) (h2 : v ≤ 1000) : hp_ok (hp_setsp p t v) := by
  obtain ⟨o1, o2, o3, o4, o5, o6, o7, o8, o9, o10, o11⟩ := h
  refine ⟨o1, o2, o3, o4, o5, fun i => ?_, o7, o8, o9, o10, o11⟩
  show -1000 ≤ hp_rep p.2.2.2.2.1 t v i ∧ hp_rep p.2.2.2.2.1 t v i ≤ 1000
  unfold hp_rep
  split
  · exact ⟨h1, h2⟩
  · exact o6 i
theorem hp_ok_pr {p : hp_P} (h : hp_ok p) {t v : Nat} (h2 : v ≤ 100000) : hp_ok (hp_setpr p t v) := by
  obtain ⟨o1, o2, o3, o4, o5, o6, o7, o8, o9, o10, o11⟩ := h
  refine ⟨o1, o2, o3, o4, o5, o6, fun i => ?_, o8, o9, o10, o11⟩
  show hp_rep p.2.2.2.2.2.1 t v i ≤ 100000
  unfold hp_rep
  split
  · exact h2
  · exact o7 i
theorem hp_ok_ro {p : hp_P} (h : hp_ok p) {t v : Nat} (h2 : v ≤ 200) : hp_ok (hp_setro p t v) := by
  obtain ⟨o1, o2, o3, o4, o5, o6, o7, o8, o9, o10, o11⟩ := h
  refine ⟨o1, o2, o3, o4, o5, o6, o7, fun i => ?_, o9, o10, o11⟩
  show hp_rep p.2.2.2.2.2.2.1 t v i ≤ 200
  unfold hp_rep
  split
  · exact h2
  · exact o8 i
theorem hx_rep {α : Type} {S : hd_S} {c N t : Nat} {f : Nat → α} {v : α} {e : α → Int32} (h : ∀ i, i < N → S.1 c i = e (f i)) : ∀ i, i < N → (hd_wI S c t (e v)).1 c i = e (hp_rep f t v i) := fun i hi => by
  rw [hd_wI1]
  unfold hp_rep
  by_cases hit : i = t
  · rw [if_pos ⟨rfl, hit⟩, if_pos hit]
  · rw [if_neg (fun r => hit r.2), if_neg hit]
    exact h i hi
theorem hx_oth {S : hd_S} {c d t i : Nat} {v : Int32} (h : d ≠ c) : (hd_wI S c t v).1 d i = S.1 d i := by
  rw [hd_wI1, if_neg (fun r => h r.1)]
theorem hx_P_cr {S : hd_S} {p : hp_P} {t : Nat} {v : Nat} (h : hx_P 1 S p) : hx_P 1 (hd_wI S 2 t (nI v)) (hp_setcr p t v) := by
  obtain ⟨h1, h2, h3, h4, h5, h6, h7, h8, h9, h10⟩ := h
  exact ⟨(hx_oth (by decide)).trans h1, (hx_oth (by decide)).trans h2, hx_rep (e := fun x => nI x) h3, fun i hi => (hx_oth (by decide)).trans (h4 i hi), fun i hi => (hx_oth (by decide)).trans (h5 i hi), fun i hi => (hx_oth (by decide)).trans (h6 i hi), fun i hi => (hx_oth (by decide)).trans (h7 i hi), fun i hi => (hx_oth (by decide)).trans (h8 i hi), fun i hi => (hx_oth (by decide)).trans (h9 i hi), fun h hh i hi => (hx_oth (by decide)).trans (h10 h hh i hi)⟩
theorem hx_P_fi {S : hd_S} {p : hp_P} {t : Nat} {v : Nat} (h : hx_P 1 S p) : hx_P 1 (hd_wI S 3 t (nI v)) (hp_setfi p t v) := by
  obtain ⟨h1, h2, h3, h4, h5, h6, h7, h8, h9, h10⟩ := h
  exact ⟨(hx_oth (by decide)).trans h1, (hx_oth (by decide)).trans h2, fun i hi => (hx_oth (by decide)).trans (h3 i hi), hx_rep (e := fun x => nI x) h4, fun i hi => (hx_oth (by decide)).trans (h5 i hi), fun i hi => (hx_oth (by decide)).trans (h6 i hi), fun i hi => (hx_oth (by decide)).trans (h7 i hi), fun i hi => (hx_oth (by decide)).trans (h8 i hi), fun i hi => (hx_oth (by decide)).trans (h9 i hi), fun h hh i hi => (hx_oth (by decide)).trans (h10 h hh i hi)⟩
theorem hx_P_sp {S : hd_S} {p : hp_P} {t : Nat} {v : Int} (h : hx_P 1 S p) : hx_P 1 (hd_wI S 4 t (Int32.ofInt v)) (hp_setsp p t v) := by
  obtain ⟨h1, h2, h3, h4, h5, h6, h7, h8, h9, h10⟩ := h
  exact ⟨(hx_oth (by decide)).trans h1, (hx_oth (by decide)).trans h2, fun i hi => (hx_oth (by decide)).trans (h3 i hi), fun i hi => (hx_oth (by decide)).trans (h4 i hi), hx_rep (e := fun x => Int32.ofInt x) h5, fun i hi => (hx_oth (by decide)).trans (h6 i hi), fun i hi => (hx_oth (by decide)).trans (h7 i hi), fun i hi => (hx_oth (by decide)).trans (h8 i hi), fun i hi => (hx_oth (by decide)).trans (h9 i hi), fun h hh i hi => (hx_oth (by decide)).trans (h10 h hh i hi)⟩
theorem hx_P_pr {S : hd_S} {p : hp_P} {t : Nat} {v : Nat} (h : hx_P 1 S p) : hx_P 1 (hd_wI S 5 t (nI v)) (hp_setpr p t v) := by
  obtain ⟨h1, h2, h3, h4, h5, h6, h7, h8, h9, h10⟩ := h
  exact ⟨(hx_oth (by decide)).trans h1, (hx_oth (by decide)).trans h2, fun i hi => (hx_oth (by decide)).trans (h3 i hi), fun i hi => (hx_oth (by decide)).trans (h4 i hi), fun i hi => (hx_oth (by decide)).trans (h5 i hi), hx_rep (e := fun x => nI x) h6, fun i hi => (hx_oth (by decide)).trans (h7 i hi), fun i hi => (hx_oth (by decide)).trans (h8 i hi), fun i hi => (hx_oth (by decide)).trans (h9 i hi), fun h hh i hi => (hx_oth (by decide)).trans (h10 h hh i hi)⟩
theorem hx_P_ro {S : hd_S} {p : hp_P} {t : Nat} {v : Nat} (h : hx_P 1 S p) : hx_P 1 (hd_wI S 6 t (nI v)) (hp_setro p t v) := by
  obtain ⟨h1, h2, h3, h4, h5, h6, h7, h8, h9, h10⟩ := h
  exact ⟨(hx_oth (by decide)).trans h1, (hx_oth (by decide)).trans h2, fun i hi => (hx_oth (by decide)).trans (h3 i hi), fun i hi => (hx_oth (by decide)).trans (h4 i hi), fun i hi => (hx_oth (by decide)).trans (h5 i hi), fun i hi => (hx_oth (by decide)).trans (h6 i hi), hx_rep (e := fun x => nI x) h7, fun i hi => (hx_oth (by decide)).trans (h8 i hi), fun i hi => (hx_oth (by decide)).trans (h9 i hi), fun h hh i hi => (hx_oth (by decide)).trans (h10 h hh i hi)⟩
