/-! the class's tables of all sets -/
theorem hp_nw_cong (p : hp_P) (t : Nat) {s s2 : Nat} : ∀ n, (∀ h, h < n → s.testBit h = s2.testBit h) → hp_nw p s t n = hp_nw p s2 t n
  | 0, _ => rfl
  | n + 1, h => by
    simp only [hp_nw]
    rw [h n (by omega), hp_nw_cong p t n (fun k hk => h k (by omega))]
theorem hp_hi {s n h : Nat} (hs : s < 2 ^ n) (hn : n ≤ h) : s.testBit h = false := Nat.testBit_lt_two_pow (Nat.lt_of_lt_of_le hs (Nat.pow_le_pow_right (by decide) hn))
theorem hp_nw_hi (p : hp_P) (t : Nat) {s n : Nat} (hs : s < 2 ^ n) : ∀ m, n ≤ m → hp_nw p s t m = hp_nw p s t n
  | 0, h => by
    have : n = 0 := by omega
    subst this
    rfl
  | m + 1, h => by
    by_cases hm : n = m + 1
    · subst hm
      rfl
    · simp only [hp_nw]
      rw [hp_hi hs (by omega), hp_nw_hi p t hs m (by omega)]
      simp
theorem hp_nw_or (p : hp_P) (t : Nat) {o a : Nat} (ho : o < 2 ^ a) (ha : a < hp_H p) : hp_nw p (o ||| 2 ^ a) t (hp_H p) = min (hp_nw p o t (hp_H p)) (hp_wy p a t) := by
  have hlt : o ||| 2 ^ a < 2 ^ (a + 1) := by
    apply Nat.or_lt_two_pow
    · rw [Nat.pow_succ]; omega
    · rw [Nat.pow_succ]; have : 0 < 2 ^ a := Nat.two_pow_pos a; omega
  rw [hp_nw_hi p t hlt (hp_H p) (by omega), hp_nw_hi p t ho (hp_H p) (by omega)]
  simp only [hp_nw]
  rw [fb_bit_set]
  simp only [decide_true, Bool.or_true, if_true]
  rw [hp_nw_cong p t a (s2 := o) (fun h hh => by rw [fb_bit_set]; simp [show ¬ h = a by omega])]
theorem hp_prs_cong (p : hp_P) {s s2 : Nat} : ∀ n, (∀ h, h < n → s.testBit h = s2.testBit h) → hp_prs p s n = hp_prs p s2 n
  | 0, _ => rfl
  | n + 1, h => by
    simp only [hp_prs]
    rw [h n (by omega), hp_prs_cong p n (fun k hk => h k (by omega))]
theorem hp_prs_hi (p : hp_P) {s n : Nat} (hs : s < 2 ^ n) : ∀ m, n ≤ m → hp_prs p s m = hp_prs p s n
  | 0, h => by
    have : n = 0 := by omega
    subst this
    rfl
  | m + 1, h => by
    by_cases hm : n = m + 1
    · subst hm
      rfl
    · simp only [hp_prs]
      rw [hp_hi hs (by omega), hp_prs_hi p hs m (by omega)]
      simp
theorem hp_prs_or (p : hp_P) {o a : Nat} (ho : o < 2 ^ a) (ha : a < hp_H p) : hp_prs p (o ||| 2 ^ a) (hp_H p) = hp_prs p o (hp_H p) + hp_pr p a := by
  have hlt : o ||| 2 ^ a < 2 ^ (a + 1) := by
    apply Nat.or_lt_two_pow
    · rw [Nat.pow_succ]; omega
    · rw [Nat.pow_succ]; have : 0 < 2 ^ a := Nat.two_pow_pos a; omega
  rw [hp_prs_hi p hlt (hp_H p) (by omega), hp_prs_hi p ho (hp_H p) (by omega)]
  simp only [hp_prs]
  rw [fb_bit_set]
  simp only [decide_true, Bool.or_true, if_true]
  rw [hp_prs_cong p a (s2 := o) (fun h hh => by rw [fb_bit_set]; simp [show ¬ h = a by omega])]
/-- the sum of all towns' trips to the nearest halls -/
def hp_sa (p : hp_P) (set : Nat) : Nat → Nat
  | 0 => 0
  | t + 1 => hp_sa p set t + hp_cr p t * hp_nw p set t (hp_H p)
/-- as the class keeps it: -1 where nobody can go -/
def hp_si (p : hp_P) (set : Nat) : Int32 := if set = 0 then (if hp_T p = 0 then 0 else -1) else nI (hp_sa p set (hp_T p))
/-- the tables are right for a set -/
def hx_r (S : hd_S) (p : hp_P) (set : Nat) : Prop := (∀ t, t < hp_T p → S.1 85 (set * 8 + t) = nI (hp_nw p set t (hp_H p))) ∧ S.1 86 set = hp_si p set ∧ S.1 87 set = nI (hp_prs p set (hp_H p))
/-- nothing but the int cells of cs has changed -/
def hd_eqx (cs : List Nat) (S S2 : hd_S) : Prop := (∀ c, c ∉ cs → S2.1 c = S.1 c) ∧ S2.2 = S.2
theorem hd_eqx_rf (cs : List Nat) (S : hd_S) : hd_eqx cs S S := ⟨fun _ _ => rfl, rfl⟩
theorem hd_eqx_tr {cs : List Nat} {S S2 S3 : hd_S} (h : hd_eqx cs S S2) (h2 : hd_eqx cs S2 S3) : hd_eqx cs S S3 := ⟨fun c hc => (h2.1 c hc).trans (h.1 c hc), h2.2.trans h.2⟩
theorem hd_eqx_w {cs : List Nat} {S S2 : hd_S} {c i : Nat} {v : Int32} (h : hd_eqx cs S S2) (hc : c ∈ cs) : hd_eqx cs S (hd_wI S2 c i v) := by
  refine ⟨fun a ha => ?_, h.2⟩
  have hne : ¬ a = c := fun q => ha (q ▸ hc)
  rw [← h.1 a ha]
  simp [hd_wI, va_up, hne]
theorem hx_P_eqx {cs : List Nat} {S S2 : hd_S} {p : hp_P} (h : hd_eqx cs S S2) (hcs : ∀ c, c ∈ cs → 9 < c) (hx : hx_P 1 S p) : hx_P 1 S2 p := by
  have e : ∀ c, c ≤ 9 → S2.1 c = S.1 c := fun c hc => h.1 c (fun q => by have := hcs c q; omega)
  unfold hx_P at hx ⊢
  rw [e 1 (by omega), e (1 + 1) (by omega), e (1 + 2) (by omega), e (1 + 3) (by omega), e (1 + 4) (by omega), e (1 + 5) (by omega), e (1 + 6) (by omega), e (1 + 7) (by omega), e (1 + 8) (by omega)]
  exact hx
theorem hb_or_sum {o a : Nat} (ho : o < 2 ^ a) : o ||| 2 ^ a = 2 ^ a + o := by
  have := Nat.two_pow_add_eq_or_of_lt ho 1
  rw [Nat.mul_one] at this
  rw [this, Nat.or_comm]
set_option maxHeartbeats 8000000 in
theorem sx_addHallTo {S : hd_S} {p : hp_P} (hp : hp_ok p) (hx : hx_P 1 S p) {o a : Nat} (ha : a < hp_H p) (ho : o < 2 ^ a) (hr : ∀ s, s < 2 ^ a + o → hx_r S p s) (post : Option hd_V → hd_S → Prop)
    (hk : ∀ S2, hd_eqx [85, 86, 87] S S2 → (∀ s, s < 2 ^ a + o + 1 → hx_r S2 p s) → post none S2) : wm_X6_addHallTo [hd_vR 84, hd_vI (nI o), hd_vI (nI a)] S post := by
  have hH : hp_H p ≤ 7 := hp.2.1
  have hT : hp_T p ≤ 8 := hp.1
  have h2 : 2 ^ a ≤ 2 ^ 6 := Nat.pow_le_pow_right (by decide) (by omega)
  have h64 : 2 ^ a ≤ 64 := h2
  have hset : o ||| 2 ^ a = 2 ^ a + o := hb_or_sum ho
  have hpos : 0 < 2 ^ a := Nat.two_pow_pos a
  have hx1 : S.1 1 0 = nI (hp_T p) := hx.1
  simp only [wm_X6_addHallTo, wo_X6_addHallTo, hd_mth, hd_rho0, hd_args, hd_wide, hd_sQ, hd_s0, hd_sI, hd_sJ, hd_sR, hd_sP, hd_sF, hd_sZ, hd_sG, hd_sA, hd_sL, hd_sB, hd_sO, hd_sN, hd_sD, hd_sW, hd_sE, hd_sRI, hd_sRZ, hd_sRJ, hd_sRR, hd_sRV, hd_sSw, hd_sw, hd_sCI, hd_sCL, hd_iK, hd_iL, hd_iU, hd_iB, hd_iD, hd_iJ, hd_iG, hd_iA, hd_iQ, hd_iC, hd_iN, hd_iE, hd_jK, hd_jL, hd_jU, hd_jB, hd_jD, hd_jH, hd_jI, hd_jA, hd_jQ, hd_jN, hd_rL, hd_rG, hd_rA, hd_rN, hd_cI, hd_c0, hd_cJ, hd_cX, hd_cA, hd_cO, hd_v0, hd_pI, hd_pJ, hd_pR, hd_nV, hd_nS, hd_get, hd_st, hd_stW, hd_cut, List.replicate, List.length_cons, List.length_nil, List.nil_append, List.cons_append, Nat.reduceAdd, Nat.reduceSub, Nat.reduceLeDiff, true_and, and_true, if_true, if_false, Bool.false_eq_true, List.append_nil, hb_pow a (by omega), fa_or, hset]
  refine hd_up (fun i ρ S2 => hd_eqx [85, 86, 87] S S2 ∧ (∀ c j, (c ≠ 85 ∨ ¬ ((2 ^ a + o) * 8 ≤ j ∧ j < (2 ^ a + o) * 8 + i)) → S2.1 c j = S.1 c j) ∧ (∀ t, t < i → S2.1 85 ((2 ^ a + o) * 8 + t) = nI (hp_nw p (2 ^ a + o) t (hp_H p))) ∧ ∃ x : hd_V, ρ = [hd_vR 84, hd_vI (nI o), hd_vI (nI a), hd_vI (nI (2 ^ a + o)), hd_vI (nI (hp_sa p (2 ^ a + o) i)), hd_vI (nI i), x]) (hp_T p) ?_ ?_ (Nat.zero_le _) ⟨hd_eqx_rf _ _, fun _ _ _ => rfl, fun t ht => by omega, _, rfl⟩
  · rintro i ρ S2 K hi ⟨he, hsame, hdone, x, rfl⟩ hK
    have h8 : i < 8 := by omega
    have hx2 : hx_P 1 S2 p := hx_P_eqx he (by decide) hx
    have hx21 : S2.1 1 0 = nI (hp_T p) := hx2.1
    have hcr : S2.1 2 i = nI (hp_cr p i) := hx2.2.2.1 i h8
    have hold : S2.1 85 (o * 8 + i) = nI (hp_nw p o i (hp_H p)) := by
      rw [hsame 85 _ (Or.inr (by omega))]
      exact (hr o (by omega)).1 i hi
    have w1 := hp.way ha h8
    have w2 := hp_nw_le p o i (hp_H p)
    have hmin : (if nI (hp_wy p a i) < nI (hp_nw p o i (hp_H p)) then nI (hp_wy p a i) else nI (hp_nw p o i (hp_H p))) = nI (hp_nw p (2 ^ a + o) i (hp_H p)) := by
      rw [← hset, hp_nw_or p i ho ha]
      by_cases hc : hp_wy p a i < hp_nw p o i (hp_H p)
      · rw [if_pos ((nI_ltI (by omega) (by omega)).mpr hc), Nat.min_eq_right (by omega)]
      · rw [if_neg (fun q => hc ((nI_ltI (by omega) (by omega)).mp q)), Nat.min_eq_left (by omega)]
    simp only [wc_X6_addHallTo_12, wb_X6_addHallTo_12, hd_mth, hd_rho0, hd_args, hd_wide, hd_sQ, hd_s0, hd_sI, hd_sJ, hd_sR, hd_sP, hd_sF, hd_sZ, hd_sG, hd_sA, hd_sL, hd_sB, hd_sO, hd_sN, hd_sD, hd_sW, hd_sE, hd_sRI, hd_sRZ, hd_sRJ, hd_sRR, hd_sRV, hd_sSw, hd_sw, hd_sCI, hd_sCL, hd_iK, hd_iL, hd_iU, hd_iB, hd_iD, hd_iJ, hd_iG, hd_iA, hd_iQ, hd_iC, hd_iN, hd_iE, hd_jK, hd_jL, hd_jU, hd_jB, hd_jD, hd_jH, hd_jI, hd_jA, hd_jQ, hd_jN, hd_rL, hd_rG, hd_rA, hd_rN, hd_cI, hd_c0, hd_cJ, hd_cX, hd_cA, hd_cO, hd_v0, hd_pI, hd_pJ, hd_pR, hd_nV, hd_nS, hd_get, hd_st, hd_stW, hd_cut, List.replicate, List.length_cons, List.length_nil, List.nil_append, List.cons_append, Nat.reduceAdd, Nat.reduceSub, Nat.reduceLeDiff, true_and, and_true, if_true, if_false, Bool.false_eq_true, List.append_nil, hs_o_0, hs_r_0_0, hs_t_0_0, hs_r_0_1, hs_t_0_1, hs_r_0_2, hs_t_0_2, hs_r_0_3, hs_t_0_3, hs_r_0_4, hs_t_0_4, hs_r_0_5, hs_t_0_5, hs_r_0_6, hs_t_0_6, hs_r_0_7, hs_t_0_7, hs_f_0_8, hs_o_1, hs_f_1_0, hs_f_1_1, hs_r_1_2, hs_t_1_2, hs_r_1_3, hs_t_1_3, hs_r_1_4, hs_t_1_4, hs_r_1_5, hs_t_1_5, hs_r_1_6, hs_t_1_6, hs_r_1_7, hs_t_1_7, hs_r_1_8, hs_t_1_8, hs_r_1_9, hs_t_1_9, hs_i_2, hs_i_3, hs_i_4, hs_i_5, hs_i_6, hs_i_7, hs_i_8, hs_i_9, hs_o_82, hs_r_82_0, hs_t_82_0, hs_f_82_1, hs_i_83, hs_o_84, hs_r_84_0, hs_t_84_0, hs_r_84_1, hs_t_84_1, hs_r_84_2, hs_t_84_2, hs_r_84_3, hs_t_84_3, hs_f_84_4, hs_i_85, hs_i_86, hs_i_87, hs_o_88, hs_r_88_0, hs_t_88_0, hs_r_88_1, hs_t_88_1, hs_r_88_2, hs_t_88_2, hs_r_88_3, hs_t_88_3, hs_r_88_4, hs_t_88_4, hs_r_88_5, hs_t_88_5, hs_r_88_6, hs_t_88_6, hs_r_88_7, hs_t_88_7, hs_f_88_8, hs_f_88_9, hs_i_89, hs_i_90, hs_i_91, hs_i_92, hs_i_93, hs_i_94, hs_i_95, hs_i_96, hs_i_97, hs_i_98, hs_i_99, hs_i_100, hs_i_101, hs_i_102, hs_o_103, hs_r_103_0, hs_t_103_0, hs_r_103_1, hs_t_103_1, hs_r_103_2, hs_t_103_2, hs_r_103_3, hs_t_103_3, hs_f_103_4, hs_i_104, hs_o_105, hs_r_105_0, hs_t_105_0, hs_r_105_1, hs_t_105_1, hs_r_105_2, hs_t_105_2, hs_i_106, hs_i_107, hs_o_108, hs_r_108_0, hs_t_108_0, hs_r_108_1, hs_t_108_1, hs_r_108_2, hs_t_108_2, hs_r_108_3, hs_t_108_3, hs_f_108_4, hs_i_109, hs_i_110, hs_o_111, hs_r_111_0, hs_t_111_0, hs_r_111_1, hs_t_111_1, hs_f_111_2, hs_f_111_3, hs_f_111_4, hs_i_112, hs_o_113, hs_f_113_0, hs_f_113_1, hs_f_113_2, hs_r_113_3, hs_t_113_3, hs_r_113_4, hs_t_113_4, hs_r_113_5, hs_t_113_5, hs_r_113_6, hs_t_113_6, hs_r_113_7, hs_t_113_7, hs_r_113_8, hs_t_113_8, hs_r_113_9, hs_t_113_9, hs_r_113_10, hs_t_113_10, hs_r_113_11, hs_t_113_11, hs_f_113_12, hs_f_113_13, hs_f_113_14, hs_r_113_15, hs_t_113_15, hs_f_113_16, hs_r_113_17, hs_t_113_17, hs_r_113_18, hs_t_113_18, hs_r_113_19, hs_t_113_19, hs_r_113_20, hs_t_113_20, hs_f_113_21, hs_f_113_22, hs_f_113_23, hs_r_113_24, hs_t_113_24, hs_f_113_25, hs_r_113_26, hs_t_113_26, hs_f_113_27, hs_i_114, hs_i_115, hs_i_116, hs_i_117, hs_i_118, hs_i_119, hs_i_120, hs_i_121, hs_i_122, hs_i_123, hs_i_124, hs_i_125, hs_i_126, hs_i_127, hs_i_128, hs_i_129, hx21, nI_ltI (show i < 2 ^ 31 by omega) (show hp_T p < 2 ^ 31 by omega), hi, decide_true, hd_lit8, pk_mul, nI_add, vp_in_nI (show o * 8 + i < 1024 by omega) (show 1024 < 2 ^ 31 by decide), vp_in_nI (show (2 ^ a + o) * 8 + i < 1024 by omega) (show 1024 < 2 ^ 31 by decide), vp_in_nI h8 (show 8 < 2 ^ 31 by decide), hd_cc (show o * 8 + i < 2147483648 by omega), hd_cc (show (2 ^ a + o) * 8 + i < 2147483648 by omega), hd_cc (show i < 2147483648 by omega), hold, sx_way hp hx2 ha h8, hmin, hd_wI1, nI_1]
    simp only [show ¬ ((2 : Nat) = 85) by decide, false_and, if_false, hcr, pk_mul, nI_add]
    refine hK _ _ ⟨hd_eqx_w he (by decide), fun c j hcj => ?_, fun t ht => ?_, _, rfl⟩
    · rw [hd_wI1, if_neg (by rintro ⟨rfl, rfl⟩; rcases hcj with q | q; exact q rfl; exact q (by omega))]
      exact hsame c j (by rcases hcj with q | q; exact Or.inl q; exact Or.inr (by omega))
    · rw [hd_wI1]
      by_cases hti : t = i
      · subst hti
        simp
      · rw [if_neg (by omega)]
        exact hdone t (by omega)
  · rintro ρ S2 K ⟨he, hsame, hdone, x, rfl⟩
    have hx2 : hx_P 1 S2 p := hx_P_eqx he (by decide) hx
    have hx21 : S2.1 1 0 = nI (hp_T p) := hx2.1
    have hpr : S2.1 5 a = nI (hp_pr p a) := hx2.2.2.2.2.2.1 a (by omega)
    have hpo : S2.1 87 o = nI (hp_prs p o (hp_H p)) := by
      rw [hsame 87 o (Or.inl (by decide))]
      exact (hr o (by omega)).2.2
    simp only [wc_X6_addHallTo_12, hd_mth, hd_rho0, hd_args, hd_wide, hd_sQ, hd_s0, hd_sI, hd_sJ, hd_sR, hd_sP, hd_sF, hd_sZ, hd_sG, hd_sA, hd_sL, hd_sB, hd_sO, hd_sN, hd_sD, hd_sW, hd_sE, hd_sRI, hd_sRZ, hd_sRJ, hd_sRR, hd_sRV, hd_sSw, hd_sw, hd_sCI, hd_sCL, hd_iK, hd_iL, hd_iU, hd_iB, hd_iD, hd_iJ, hd_iG, hd_iA, hd_iQ, hd_iC, hd_iN, hd_iE, hd_jK, hd_jL, hd_jU, hd_jB, hd_jD, hd_jH, hd_jI, hd_jA, hd_jQ, hd_jN, hd_rL, hd_rG, hd_rA, hd_rN, hd_cI, hd_c0, hd_cJ, hd_cX, hd_cA, hd_cO, hd_v0, hd_pI, hd_pJ, hd_pR, hd_nV, hd_nS, hd_get, hd_st, hd_stW, hd_cut, List.replicate, List.length_cons, List.length_nil, List.nil_append, List.cons_append, Nat.reduceAdd, Nat.reduceSub, Nat.reduceLeDiff, true_and, and_true, if_true, if_false, Bool.false_eq_true, List.append_nil, hs_o_0, hs_r_0_0, hs_t_0_0, hs_r_0_1, hs_t_0_1, hs_r_0_2, hs_t_0_2, hs_r_0_3, hs_t_0_3, hs_r_0_4, hs_t_0_4, hs_r_0_5, hs_t_0_5, hs_r_0_6, hs_t_0_6, hs_r_0_7, hs_t_0_7, hs_f_0_8, hs_o_1, hs_f_1_0, hs_f_1_1, hs_r_1_2, hs_t_1_2, hs_r_1_3, hs_t_1_3, hs_r_1_4, hs_t_1_4, hs_r_1_5, hs_t_1_5, hs_r_1_6, hs_t_1_6, hs_r_1_7, hs_t_1_7, hs_r_1_8, hs_t_1_8, hs_r_1_9, hs_t_1_9, hs_i_2, hs_i_3, hs_i_4, hs_i_5, hs_i_6, hs_i_7, hs_i_8, hs_i_9, hs_o_82, hs_r_82_0, hs_t_82_0, hs_f_82_1, hs_i_83, hs_o_84, hs_r_84_0, hs_t_84_0, hs_r_84_1, hs_t_84_1, hs_r_84_2, hs_t_84_2, hs_r_84_3, hs_t_84_3, hs_f_84_4, hs_i_85, hs_i_86, hs_i_87, hs_o_88, hs_r_88_0, hs_t_88_0, hs_r_88_1, hs_t_88_1, hs_r_88_2, hs_t_88_2, hs_r_88_3, hs_t_88_3, hs_r_88_4, hs_t_88_4, hs_r_88_5, hs_t_88_5, hs_r_88_6, hs_t_88_6, hs_r_88_7, hs_t_88_7, hs_f_88_8, hs_f_88_9, hs_i_89, hs_i_90, hs_i_91, hs_i_92, hs_i_93, hs_i_94, hs_i_95, hs_i_96, hs_i_97, hs_i_98, hs_i_99, hs_i_100, hs_i_101, hs_i_102, hs_o_103, hs_r_103_0, hs_t_103_0, hs_r_103_1, hs_t_103_1, hs_r_103_2, hs_t_103_2, hs_r_103_3, hs_t_103_3, hs_f_103_4, hs_i_104, hs_o_105, hs_r_105_0, hs_t_105_0, hs_r_105_1, hs_t_105_1, hs_r_105_2, hs_t_105_2, hs_i_106, hs_i_107, hs_o_108, hs_r_108_0, hs_t_108_0, hs_r_108_1, hs_t_108_1, hs_r_108_2, hs_t_108_2, hs_r_108_3, hs_t_108_3, hs_f_108_4, hs_i_109, hs_i_110, hs_o_111, hs_r_111_0, hs_t_111_0, hs_r_111_1, hs_t_111_1, hs_f_111_2, hs_f_111_3, hs_f_111_4, hs_i_112, hs_o_113, hs_f_113_0, hs_f_113_1, hs_f_113_2, hs_r_113_3, hs_t_113_3, hs_r_113_4, hs_t_113_4, hs_r_113_5, hs_t_113_5, hs_r_113_6, hs_t_113_6, hs_r_113_7, hs_t_113_7, hs_r_113_8, hs_t_113_8, hs_r_113_9, hs_t_113_9, hs_r_113_10, hs_t_113_10, hs_r_113_11, hs_t_113_11, hs_f_113_12, hs_f_113_13, hs_f_113_14, hs_r_113_15, hs_t_113_15, hs_f_113_16, hs_r_113_17, hs_t_113_17, hs_r_113_18, hs_t_113_18, hs_r_113_19, hs_t_113_19, hs_r_113_20, hs_t_113_20, hs_f_113_21, hs_f_113_22, hs_f_113_23, hs_r_113_24, hs_t_113_24, hs_f_113_25, hs_r_113_26, hs_t_113_26, hs_f_113_27, hs_i_114, hs_i_115, hs_i_116, hs_i_117, hs_i_118, hs_i_119, hs_i_120, hs_i_121, hs_i_122, hs_i_123, hs_i_124, hs_i_125, hs_i_126, hs_i_127, hs_i_128, hs_i_129, hx21, Int32.lt_irrefl, decide_false, vp_in_nI (show 2 ^ a + o < 128 by omega) (show 128 < 2 ^ 31 by decide), hd_cc (show 2 ^ a + o < 2147483648 by omega), vp_in_nI (show o < 128 by omega) (show 128 < 2 ^ 31 by decide), hd_cc (show o < 2147483648 by omega), vp_in_nI (show a < 7 by omega) (show 7 < 2 ^ 31 by decide), hd_cc (show a < 2147483648 by omega), hd_wI1]
    simp only [show ¬ ((87 : Nat) = 86) by decide, show ¬ ((5 : Nat) = 86) by decide, false_and, if_false, hpr, hpo, nI_add]
    refine hk _ (hd_eqx_w (hd_eqx_w he (by decide)) (by decide)) (fun s hs => ?_)
    by_cases hse : s = 2 ^ a + o
    · subst hse
      refine ⟨fun t ht => ?_, ?_, ?_⟩
      · simp only [hd_wI1, show ¬ ((85 : Nat) = 86) by decide, show ¬ ((85 : Nat) = 87) by decide, false_and, if_false]
        exact hdone t ht
      · simp only [hd_wI1, show ¬ ((86 : Nat) = 87) by decide, false_and, if_false, and_self, if_true]
        simp only [hp_si]
        rw [if_neg (by omega)]
      · simp only [hd_wI1, and_self, if_true]
        rw [← hset, hp_prs_or p ho ha]
    · obtain ⟨r1, r2, r3⟩ := hr s (by omega)
      refine ⟨fun t ht => ?_, ?_, ?_⟩
      · simp only [hd_wI1, show ¬ ((85 : Nat) = 86) by decide, show ¬ ((85 : Nat) = 87) by decide, false_and, if_false]
        rw [hsame 85 _ (Or.inr (by omega))]
        exact r1 t ht
      · simp only [hd_wI1, show ¬ ((86 : Nat) = 87) by decide, false_and, if_false, hse, and_false]
        rw [hsame 86 s (Or.inl (by decide))]
        exact r2
      · simp only [hd_wI1, show ¬ ((87 : Nat) = 86) by decide, false_and, if_false, hse, and_false]
        rw [hsame 87 s (Or.inl (by decide))]
        exact r3
