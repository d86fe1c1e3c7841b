theorem hb_pc_add {x y z : Nat} : ∀ m, (∀ k, k < m → (x.testBit k).toNat = (y.testBit k).toNat + (z.testBit k).toNat) → hb_pc x m = hb_pc y m + hb_pc z m
  | 0, _ => rfl
  | m + 1, h => by
    simp only [hb_pc]
    rw [hb_pc_add m (fun k hk => h k (by omega)), h m (by omega)]
    omega
theorem hb_nbit (b : Nat) {k : Nat} (hk : k < 32) : (b ^^^ 4294967295).testBit k = !b.testBit k := by
  rw [Nat.testBit_xor, show (4294967295 : Nat) = 2 ^ 32 - 1 from rfl, Nat.testBit_two_pow_sub_one]
  simp [hk]
/-- as the reference says it: one more at most, one less at most, not the same -/
def hp_nr2 (a b : Nat) : Bool := decide (hb_pc (a &&& (b ^^^ 4294967295)) 8 ≤ 1) && (decide (hb_pc (b &&& (a ^^^ 4294967295)) 8 ≤ 1) && decide (0 < hb_pc (a &&& (b ^^^ 4294967295)) 8 + hb_pc (b &&& (a ^^^ 4294967295)) 8))
theorem hp_nr2_bs (a b : Nat) : hp_nr2 a b = hp_bs b a := by
  have h1 : hb_pc (b ^^^ a) 8 = hb_pc (a &&& (b ^^^ 4294967295)) 8 + hb_pc (b &&& (a ^^^ 4294967295)) 8 := hb_pc_add 8 (fun k hk => by
    rw [Nat.testBit_xor, Nat.testBit_and, Nat.testBit_and, hb_nbit b (by omega), hb_nbit a (by omega)]
    cases a.testBit k <;> cases b.testBit k <;> rfl)
  have h2 : hb_pc a 8 = hb_pc (a &&& b) 8 + hb_pc (a &&& (b ^^^ 4294967295)) 8 := hb_pc_add 8 (fun k hk => by
    rw [Nat.testBit_and, Nat.testBit_and, hb_nbit b (by omega)]
    cases a.testBit k <;> cases b.testBit k <;> rfl)
  have h3 : hb_pc b 8 = hb_pc (a &&& b) 8 + hb_pc (b &&& (a ^^^ 4294967295)) 8 := hb_pc_add 8 (fun k hk => by
    rw [Nat.testBit_and, Nat.testBit_and, hb_nbit a (by omega)]
    cases a.testBit k <;> cases b.testBit k <;> rfl)
  unfold hp_nr2 hp_bs
  rw [h1, h2, h3, Bool.eq_iff_iff]
  simp only [Bool.and_eq_true, Bool.or_eq_true, decide_eq_true_eq]
  omega
set_option maxHeartbeats 2000000 in
theorem sp_areNear {a b : Nat} (ha : a < 128) (hb : b < 128) (S : hd_S) (post : Option hd_V → hd_S → Prop) (hk : post (some (hd_vI (if hp_bs b a = true then 1 else 0))) S) : wm_X9_areNear [hd_vI (nI a), hd_vI (nI b)] S post := by
  have e1 : ∀ x y : Nat, nI x &&& (nI y ^^^ (-1)) = nI (x &&& (y ^^^ 4294967295)) := fun x y => by
    rw [show (-1 : Int32) = nI 4294967295 from rfl, fb_xorI, fa_and]
  have l1 : a &&& (b ^^^ 4294967295) < 2 ^ 31 := Nat.lt_of_le_of_lt Nat.and_le_left (by omega)
  have l2 : b &&& (a ^^^ 4294967295) < 2 ^ 31 := Nat.lt_of_le_of_lt Nat.and_le_left (by omega)
  have p1 := hb_pc_le (a &&& (b ^^^ 4294967295)) 8
  have p2 := hb_pc_le (b &&& (a ^^^ 4294967295)) 8
  simp only [wm_X9_areNear, wo_X9_areNear, hd_mth, hd_rho0, hd_args, hd_wide, hd_sQ, hd_s0, hd_sI, hd_sJ, hd_sR, hd_sP, hd_sF, hd_sZ, hd_sG, hd_sA, hd_sL, hd_sB, hd_sO, hd_sN, hd_sD, hd_sW, hd_sE, hd_sRI, hd_sRJ, hd_sRR, hd_sRV, hd_sSw, hd_sw, hd_sCI, hd_sCL, hd_iK, hd_iL, hd_iU, hd_iB, hd_iD, hd_iJ, hd_iG, hd_iA, hd_iQ, hd_iN, hd_iE, hd_jK, hd_jL, hd_jU, hd_jB, hd_jD, hd_jH, hd_jI, hd_jA, hd_jQ, hd_jN, hd_rL, hd_rG, hd_rA, hd_rN, hd_cJ, hd_cX, hd_cO, hd_v0, hd_pI, hd_pJ, hd_pR, hd_nV, hd_nS, hd_get, hd_st, hd_stW, hd_cut, List.replicate, List.length_cons, List.length_nil, List.nil_append, List.cons_append, Nat.reduceAdd, Nat.reduceSub, Nat.reduceLeDiff, true_and, and_true, if_true, if_false, Bool.false_eq_true, List.append_nil, e1]
  refine sp_X9_sizeOf _ l1 _ _ ?_
  simp only [e1]
  refine sp_X9_sizeOf _ l2 _ _ ?_
  rw [← hp_nr2_bs] at hk
  have e : hp_nr2 a b = true ↔ (hb_pc (a &&& (b ^^^ 4294967295)) 8 ≤ 1 ∧ (hb_pc (b &&& (a ^^^ 4294967295)) 8 ≤ 1 ∧ 0 < hb_pc (a &&& (b ^^^ 4294967295)) 8 + hb_pc (b &&& (a ^^^ 4294967295)) 8)) := by simp [hp_nr2]
  simp only [e] at hk
  generalize hb_pc (a &&& (b ^^^ 4294967295)) 8 = u at p1 hk
  generalize hb_pc (b &&& (a ^^^ 4294967295)) 8 = v at p2 hk
  simp only [hd_mth, hd_rho0, hd_args, hd_wide, hd_sQ, hd_s0, hd_sI, hd_sJ, hd_sR, hd_sP, hd_sF, hd_sZ, hd_sG, hd_sA, hd_sL, hd_sB, hd_sO, hd_sN, hd_sD, hd_sW, hd_sE, hd_sRI, hd_sRZ, hd_sRJ, hd_sRR, hd_sRV, hd_sSw, hd_sw, hd_sCI, hd_sCL, hd_iK, hd_iL, hd_iU, hd_iB, hd_iD, hd_iJ, hd_iG, hd_iA, hd_iQ, hd_iC, hd_iN, hd_iE, hd_jK, hd_jL, hd_jU, hd_jB, hd_jD, hd_jH, hd_jI, hd_jA, hd_jQ, hd_jN, hd_rL, hd_rG, hd_rA, hd_rN, hd_cI, hd_c0, hd_cJ, hd_cX, hd_cA, hd_cO, hd_v0, hd_pI, hd_pJ, hd_pR, hd_nV, hd_nS, hd_get, hd_st, hd_stW, hd_cut, List.replicate, List.length_cons, List.length_nil, List.nil_append, List.cons_append, Nat.reduceAdd, Nat.reduceSub, Nat.reduceLeDiff, true_and, and_true, if_true, if_false, Bool.false_eq_true, List.append_nil, show (1 : Int32) = nI 1 from rfl, hb_le (show u < 2 ^ 31 by omega) (show 1 < 2 ^ 31 by omega), hb_le (show v < 2 ^ 31 by omega) (show 1 < 2 ^ 31 by omega), nI_add, hb_0lt (show u + v < 2 ^ 31 by omega), decide_eq_true_eq]
  by_cases g1 : u ≤ 1
  · by_cases g2 : v ≤ 1
    · by_cases g3 : 0 < u + v
      · simp only [g1, g2, g3, and_self, if_true, hd_11, true_and, decide_true] at hk ⊢
        exact ⟨Or.inr trivial, hk⟩
      · simp only [g1, g2, g3, and_false, if_true, if_false, decide_false, Bool.false_eq_true] at hk ⊢
        exact ⟨Or.inl trivial, hk⟩
    · simp only [g1, g2, false_and, and_false, if_true, if_false, decide_false, Bool.false_eq_true] at hk ⊢
      exact ⟨Or.inl trivial, hk⟩
  · simp only [g1, false_and, if_false, decide_false, Bool.false_eq_true] at hk ⊢
    exact ⟨Or.inl trivial, hk⟩
/-- the reference's fields that such calls leave -/
def hm_K (S S2 : hd_S) : Prop := hd_eqx [113, 124, 125] S S2 ∧ ∀ f, f ≠ 0 → f ≠ 14 → (f < 21 ∨ 23 < f) → S2.1 113 f = S.1 113 f
theorem hm_K_P {S S2 : hd_S} {p : hp_P} (h : hm_K S S2) (hm : hm_P S p) : hm_P S2 p := hm_P_fr (h.2 1 (by decide) (by decide) (by decide)) (h.2 2 (by decide) (by decide) (by decide)) (fun c h1 h2 => h.1.1 c (by simp only [List.mem_cons, List.not_mem_nil, or_false]; omega)) hm
theorem hm_K_tr {S S2 S3 : hd_S} (h : hm_K S S2) (h2 : hm_K S2 S3) : hm_K S S3 := ⟨hd_eqx_tr h.1 h2.1, fun f a b c => (h2.2 f a b c).trans (h.2 f a b c)⟩
theorem hm_K_rf (S : hd_S) : hm_K S S := ⟨hd_eqx_rf _ _, fun _ _ _ _ => rfl⟩
theorem hm_K_0 {S S2 : hd_S} (v : Int32) (h : hm_K S S2) : hm_K S (hd_wI S2 113 0 v) := ⟨hd_eqx_w h.1 (by decide), fun f a b c => by rw [hd_wI1, if_neg (fun q => a q.2)]; exact h.2 f a b c⟩
theorem hm_K_14 {S S2 : hd_S} (v : Int32) (h : hm_K S S2) : hm_K S (hd_wI S2 113 14 v) := ⟨hd_eqx_w h.1 (by decide), fun f a b c => by rw [hd_wI1, if_neg (fun q => b q.2)]; exact h.2 f a b c⟩
theorem hm_K_c {S S2 : hd_S} (h : hd_eqx [124, 125] S S2) : hm_K S S2 := ⟨hd_eqx_sub h (by decide), fun f _ _ _ => by rw [h.1 113 (by decide)]⟩
theorem hm_K_s {S S2 : hd_S} (h : hd_eqx [113, 124, 125] S S2) (h2 : ∀ f, f < 21 ∨ 23 < f → S2.1 113 f = S.1 113 f) : hm_K S S2 := ⟨h, fun f _ _ c => h2 f c⟩
set_option maxHeartbeats 4000000 in
theorem sp_cost {S : hd_S} {p : hp_P} (hp : hp_ok p) (hm : hm_P S p) (hR : hm_RS p) {hand : Nat} (hh : hand < 2 ^ hp_H p) (hs : S.1 113 14 = nI hand) (kind : Int32) (post : Option hd_V → hd_S → Prop)
    (hk1 : ∀ k, k < 7 → kind = nI k → ∀ S2, hm_K S S2 → S2.1 113 14 = nI hand → post (some (hd_vI (hp_oi (hp_cost p k hand)))) S2)
    (hk2 : ¬ (0 ≤ kind ∧ kind ≤ 6) → post (some (hd_vI (-3))) (hd_wI S 113 0 0)) : wm_X9_cost [hd_vR 113, hd_vI kind] S post := by
  simp only [wm_X9_cost, wo_X9_cost, hd_mth, hd_rho0, hd_args, hd_wide, hd_sQ, hd_s0, hd_sI, hd_sJ, hd_sR, hd_sP, hd_sF, hd_sZ, hd_sG, hd_sA, hd_sL, hd_sB, hd_sO, hd_sN, hd_sD, hd_sW, hd_sE, hd_sRI, hd_sRZ, hd_sRJ, hd_sRR, hd_sRV, hd_sSw, hd_sw, hd_sCI, hd_sCL, hd_iK, hd_iL, hd_iU, hd_iB, hd_iD, hd_iJ, hd_iG, hd_iA, hd_iQ, hd_iC, hd_iN, hd_iE, hd_jK, hd_jL, hd_jU, hd_jB, hd_jD, hd_jH, hd_jI, hd_jA, hd_jQ, hd_jN, hd_rL, hd_rG, hd_rA, hd_rN, hd_cI, hd_c0, hd_cJ, hd_cX, hd_cA, hd_cO, hd_v0, hd_pI, hd_pJ, hd_pR, hd_nV, hd_nS, hd_get, hd_st, hd_stW, hd_cut, List.replicate, List.length_cons, List.length_nil, List.nil_append, List.cons_append, Nat.reduceAdd, Nat.reduceSub, Nat.reduceLeDiff, true_and, and_true, if_true, if_false, Bool.false_eq_true, List.append_nil, hs_o_0, hs_r_0_0, hs_t_0_0, hs_r_0_1, hs_t_0_1, hs_r_0_2, hs_t_0_2, hs_r_0_3, hs_t_0_3, hs_r_0_4, hs_t_0_4, hs_r_0_5, hs_t_0_5, hs_r_0_6, hs_t_0_6, hs_r_0_7, hs_t_0_7, hs_f_0_8, hs_o_1, hs_f_1_0, hs_f_1_1, hs_r_1_2, hs_t_1_2, hs_r_1_3, hs_t_1_3, hs_r_1_4, hs_t_1_4, hs_r_1_5, hs_t_1_5, hs_r_1_6, hs_t_1_6, hs_r_1_7, hs_t_1_7, hs_r_1_8, hs_t_1_8, hs_r_1_9, hs_t_1_9, hs_i_2, hs_i_3, hs_i_4, hs_i_5, hs_i_6, hs_i_7, hs_i_8, hs_i_9, hs_o_82, hs_r_82_0, hs_t_82_0, hs_f_82_1, hs_i_83, hs_o_84, hs_r_84_0, hs_t_84_0, hs_r_84_1, hs_t_84_1, hs_r_84_2, hs_t_84_2, hs_r_84_3, hs_t_84_3, hs_f_84_4, hs_i_85, hs_i_86, hs_i_87, hs_o_88, hs_r_88_0, hs_t_88_0, hs_r_88_1, hs_t_88_1, hs_r_88_2, hs_t_88_2, hs_r_88_3, hs_t_88_3, hs_r_88_4, hs_t_88_4, hs_r_88_5, hs_t_88_5, hs_r_88_6, hs_t_88_6, hs_r_88_7, hs_t_88_7, hs_f_88_8, hs_f_88_9, hs_i_89, hs_i_90, hs_i_91, hs_i_92, hs_i_93, hs_i_94, hs_i_95, hs_i_96, hs_i_97, hs_i_98, hs_i_99, hs_i_100, hs_i_101, hs_i_102, hs_o_103, hs_r_103_0, hs_t_103_0, hs_r_103_1, hs_t_103_1, hs_r_103_2, hs_t_103_2, hs_r_103_3, hs_t_103_3, hs_f_103_4, hs_i_104, hs_o_105, hs_r_105_0, hs_t_105_0, hs_r_105_1, hs_t_105_1, hs_r_105_2, hs_t_105_2, hs_i_106, hs_i_107, hs_o_108, hs_r_108_0, hs_t_108_0, hs_r_108_1, hs_t_108_1, hs_r_108_2, hs_t_108_2, hs_r_108_3, hs_t_108_3, hs_f_108_4, hs_i_109, hs_i_110, hs_o_111, hs_r_111_0, hs_t_111_0, hs_r_111_1, hs_t_111_1, hs_f_111_2, hs_f_111_3, hs_f_111_4, hs_i_112, hs_o_113, hs_f_113_0, hs_f_113_1, hs_f_113_2, hs_r_113_3, hs_t_113_3, hs_r_113_4, hs_t_113_4, hs_r_113_5, hs_t_113_5, hs_r_113_6, hs_t_113_6, hs_r_113_7, hs_t_113_7, hs_r_113_8, hs_t_113_8, hs_r_113_9, hs_t_113_9, hs_r_113_10, hs_t_113_10, hs_r_113_11, hs_t_113_11, hs_f_113_12, hs_f_113_13, hs_f_113_14, hs_r_113_15, hs_t_113_15, hs_f_113_16, hs_r_113_17, hs_t_113_17, hs_r_113_18, hs_t_113_18, hs_r_113_19, hs_t_113_19, hs_r_113_20, hs_t_113_20, hs_f_113_21, hs_f_113_22, hs_f_113_23, hs_r_113_24, hs_t_113_24, hs_f_113_25, hs_r_113_26, hs_t_113_26, hs_f_113_27, hs_i_114, hs_i_115, hs_i_116, hs_i_117, hs_i_118, hs_i_119, hs_i_120, hs_i_121, hs_i_122, hs_i_123, hs_i_124, hs_i_125, hs_i_126, hs_i_127, hs_i_128, hs_i_129, sp_isKind, hd_t01, hd_dn1, decide_eq_true_eq, hd_wI1, and_false, if_false, Nat.reduceEqDiff, hs]
  by_cases hq : 0 ≤ kind ∧ kind ≤ 6
  · obtain ⟨k, hk, rfl⟩ := hb_rng (m := 6) (by decide) hq.1 hq.2
    simp only [hq, and_self, not_true, if_false]
    have h1 : hm_K S (hd_wI S 113 0 0) := hm_K_0 0 (hm_K_rf S)
    refine sp_costOf hp (hm_K_P h1 hm) hR (show k < 7 by omega) hh _ (fun S2 he => ?_)
    have h2 := hm_K_tr h1 (hm_K_c he)
    have hs2 : S2.1 113 14 = nI hand := by
      rw [he.1 113 (by decide), hd_wI1, if_neg (fun q => absurd q.2 (by decide))]
      exact hs
    have hlt : ∀ v, hp_cost p k hand = some v → v < 2000000000 := fun v h => hp_cost_lt hp h
    have hk3 := hk1 k (by omega) rfl S2 h2 hs2
    simp only [hp_ow_none hlt]
    cases ho : hp_cost p k hand with
    | none =>
      simp only [ho, if_true, hp_oi] at hk3 ⊢
      exact hk3
    | some v =>
      simp only [ho, reduceCtorEq, if_false, hp_oi, hp_ow] at hk3 ⊢
      exact hk3
  · simp only [hq, if_false, not_false_iff, not_true, if_true]
    exact hk2 hq
set_option maxHeartbeats 4000000 in
theorem sp_worst {S : hd_S} {p : hp_P} (hp : hp_ok p) (hm : hm_P S p) (hR : hm_RS p) {hand : Nat} (hh : hand < 2 ^ hp_H p) (hs : S.1 113 14 = nI hand) (kind : Int32) (post : Option hd_V → hd_S → Prop)
    (hk1 : ∀ k, (k = 5 ∨ k = 6) → kind = nI k → ∀ S2, hm_K S S2 → S2.1 113 14 = nI hand → post (some (hd_vI (hp_wo p k hand))) S2)
    (hk2 : ¬ (kind = 5 ∨ kind = 6) → post (some (hd_vI (-3))) (hd_wI S 113 0 0)) : wm_X9_worst [hd_vR 113, hd_vI kind] S post := by
  have h128 := hp_set128 hp hh
  have h1 : hm_K S (hd_wI S 113 0 0) := hm_K_0 0 (hm_K_rf S)
  have main : ∀ k, (k = 5 ∨ k = 6) → kind = nI k → wm_X9_costOf [hd_vR 113, hd_vI (nI k), hd_vI (nI hand)] (hd_wI S 113 0 0) (fun v S => match v with | some (Sum.inl x) => if x = 2000000000 then post (some (hd_vI (-1))) S else (if k = 5 then wm_X9_worstClosed [hd_vR 113, hd_vI (S.1 113 14)] S (fun v S => match v with | some (Sum.inl x) => post (some (hd_vI x)) S | x => False) else wm_X9_worstRival [hd_vR 113, hd_vI (S.1 113 14)] S (fun v S => match v with | some (Sum.inl x) => post (some (hd_vI x)) S | x => False)) | x => False) := by
    intro k hk hkk
    refine sp_costOf hp (hm_K_P h1 hm) hR (show k < 7 by omega) hh _ (fun S2 he => ?_)
    have h2 := hm_K_tr h1 (hm_K_c he)
    have hm2 := hm_K_P h2 hm
    have hs2 : S2.1 113 14 = nI hand := by
      rw [he.1 113 (by decide), hd_wI1, if_neg (fun q => absurd q.2 (by decide))]
      exact hs
    have hlt : ∀ v, hp_cost p k hand = some v → v < 2000000000 := fun v h => hp_cost_lt hp h
    have hk3 := hk1 k hk hkk S2 h2 hs2
    simp only [hp_ow_none hlt, hs2]
    rcases hk with rfl | rfl
    · by_cases hp2 : hb_pc hand 8 < 2
      · have e : hp_cost p 5 hand = none := by simp [hp_cost, hp2]
        simp only [hp_wo, if_true, if_pos hp2] at hk3
        simp only [e, if_true]
        exact hk3
      · have e : ¬ hp_cost p 5 hand = none := by simp [hp_cost, hp2]
        simp only [hp_wo, if_true, if_neg hp2] at hk3
        simp only [e, if_false, if_true]
        exact sp_X9_worstClosed hp hm2 hh (fun h hh2 hb => Or.inl (hp_clr_some hp hh (by omega) hh2 hb)) _ hk3
    · by_cases hp2 : hand = 0
      · have e : hp_cost p 6 hand = none := by simp [hp_cost, hp2]
        simp only [hp_wo, show ¬ ((6 : Nat) = 5) by decide, if_false, if_pos hp2] at hk3
        simp only [e, if_true]
        exact hk3
      · have e : ¬ hp_cost p 6 hand = none := by simp [hp_cost, hp2]
        simp only [hp_wo, show ¬ ((6 : Nat) = 5) by decide, if_false, if_neg hp2] at hk3
        simp only [e, if_false, show ¬ ((6 : Nat) = 5) by decide]
        exact sp_X9_worstRival hp hm2 hh (Or.inl (hb_some hh hp2)) _ hk3
  simp only [wm_X9_worst, wo_X9_worst, hd_mth, hd_rho0, hd_args, hd_wide, hd_sQ, hd_s0, hd_sI, hd_sJ, hd_sR, hd_sP, hd_sF, hd_sZ, hd_sG, hd_sA, hd_sL, hd_sB, hd_sO, hd_sN, hd_sD, hd_sW, hd_sE, hd_sRI, hd_sRZ, hd_sRJ, hd_sRR, hd_sRV, hd_sSw, hd_sw, hd_sCI, hd_sCL, hd_iK, hd_iL, hd_iU, hd_iB, hd_iD, hd_iJ, hd_iG, hd_iA, hd_iQ, hd_iC, hd_iN, hd_iE, hd_jK, hd_jL, hd_jU, hd_jB, hd_jD, hd_jH, hd_jI, hd_jA, hd_jQ, hd_jN, hd_rL, hd_rG, hd_rA, hd_rN, hd_cI, hd_c0, hd_cJ, hd_cX, hd_cA, hd_cO, hd_v0, hd_pI, hd_pJ, hd_pR, hd_nV, hd_nS, hd_get, hd_st, hd_stW, hd_cut, List.replicate, List.length_cons, List.length_nil, List.nil_append, List.cons_append, Nat.reduceAdd, Nat.reduceSub, Nat.reduceLeDiff, true_and, and_true, if_true, if_false, Bool.false_eq_true, List.append_nil, hs_o_0, hs_r_0_0, hs_t_0_0, hs_r_0_1, hs_t_0_1, hs_r_0_2, hs_t_0_2, hs_r_0_3, hs_t_0_3, hs_r_0_4, hs_t_0_4, hs_r_0_5, hs_t_0_5, hs_r_0_6, hs_t_0_6, hs_r_0_7, hs_t_0_7, hs_f_0_8, hs_o_1, hs_f_1_0, hs_f_1_1, hs_r_1_2, hs_t_1_2, hs_r_1_3, hs_t_1_3, hs_r_1_4, hs_t_1_4, hs_r_1_5, hs_t_1_5, hs_r_1_6, hs_t_1_6, hs_r_1_7, hs_t_1_7, hs_r_1_8, hs_t_1_8, hs_r_1_9, hs_t_1_9, hs_i_2, hs_i_3, hs_i_4, hs_i_5, hs_i_6, hs_i_7, hs_i_8, hs_i_9, hs_o_82, hs_r_82_0, hs_t_82_0, hs_f_82_1, hs_i_83, hs_o_84, hs_r_84_0, hs_t_84_0, hs_r_84_1, hs_t_84_1, hs_r_84_2, hs_t_84_2, hs_r_84_3, hs_t_84_3, hs_f_84_4, hs_i_85, hs_i_86, hs_i_87, hs_o_88, hs_r_88_0, hs_t_88_0, hs_r_88_1, hs_t_88_1, hs_r_88_2, hs_t_88_2, hs_r_88_3, hs_t_88_3, hs_r_88_4, hs_t_88_4, hs_r_88_5, hs_t_88_5, hs_r_88_6, hs_t_88_6, hs_r_88_7, hs_t_88_7, hs_f_88_8, hs_f_88_9, hs_i_89, hs_i_90, hs_i_91, hs_i_92, hs_i_93, hs_i_94, hs_i_95, hs_i_96, hs_i_97, hs_i_98, hs_i_99, hs_i_100, hs_i_101, hs_i_102, hs_o_103, hs_r_103_0, hs_t_103_0, hs_r_103_1, hs_t_103_1, hs_r_103_2, hs_t_103_2, hs_r_103_3, hs_t_103_3, hs_f_103_4, hs_i_104, hs_o_105, hs_r_105_0, hs_t_105_0, hs_r_105_1, hs_t_105_1, hs_r_105_2, hs_t_105_2, hs_i_106, hs_i_107, hs_o_108, hs_r_108_0, hs_t_108_0, hs_r_108_1, hs_t_108_1, hs_r_108_2, hs_t_108_2, hs_r_108_3, hs_t_108_3, hs_f_108_4, hs_i_109, hs_i_110, hs_o_111, hs_r_111_0, hs_t_111_0, hs_r_111_1, hs_t_111_1, hs_f_111_2, hs_f_111_3, hs_f_111_4, hs_i_112, hs_o_113, hs_f_113_0, hs_f_113_1, hs_f_113_2, hs_r_113_3, hs_t_113_3, hs_r_113_4, hs_t_113_4, hs_r_113_5, hs_t_113_5, hs_r_113_6, hs_t_113_6, hs_r_113_7, hs_t_113_7, hs_r_113_8, hs_t_113_8, hs_r_113_9, hs_t_113_9, hs_r_113_10, hs_t_113_10, hs_r_113_11, hs_t_113_11, hs_f_113_12, hs_f_113_13, hs_f_113_14, hs_r_113_15, hs_t_113_15, hs_f_113_16, hs_r_113_17, hs_t_113_17, hs_r_113_18, hs_t_113_18, hs_r_113_19, hs_t_113_19, hs_r_113_20, hs_t_113_20, hs_f_113_21, hs_f_113_22, hs_f_113_23, hs_r_113_24, hs_t_113_24, hs_f_113_25, hs_r_113_26, hs_t_113_26, hs_f_113_27, hs_i_114, hs_i_115, hs_i_116, hs_i_117, hs_i_118, hs_i_119, hs_i_120, hs_i_121, hs_i_122, hs_i_123, hs_i_124, hs_i_125, hs_i_126, hs_i_127, hs_i_128, hs_i_129, hd_dn1, decide_eq_true_eq, hd_wI1, and_false, if_false, Nat.reduceEqDiff, hs]
  by_cases h5 : kind = 5
  · have h9 := main 5 (Or.inl rfl) h5
    simp only [if_true] at h9
    simp only [h5, not_true, if_false, if_true]
    exact h9
  · by_cases h6 : kind = 6
    · have h9 := main 6 (Or.inr rfl) h6
      simp only [show ¬ ((6 : Nat) = 5) by decide, if_false] at h9
      simp only [h6, not_true, if_false, if_true, show ¬ ((6 : Int32) = 5) by decide, not_false_iff]
      exact h9
    · simp only [h5, h6, not_false_iff, if_true]
      exact hk2 (by rintro (q | q); exact h5 q; exact h6 q)
set_option maxHeartbeats 4000000 in
theorem sp_least {S : hd_S} {p : hp_P} (hp : hp_ok p) (hm : hm_P S p) (hR : hm_RS p) {hand : Nat} (hs : S.1 113 14 = nI hand) (kind kk : Int32) (post : Option hd_V → hd_S → Prop)
    (hk1 : ∀ k, k < 7 → kind = nI k → (-1 ≤ kk ∧ kk ≤ 7) → ∀ S2, hm_K S S2 → S2.1 113 14 = nI hand → post (some (hd_vI (hp_oi (hp_lo (hp_q p k kk) (2 ^ hp_H p))))) S2)
    (hk2 : ¬ ((0 ≤ kind ∧ kind ≤ 6) ∧ (-1 ≤ kk ∧ kk ≤ 7)) → post (some (hd_vI (-3))) (hd_wI S 113 0 0)) : wm_X9_least [hd_vR 113, hd_vI kind, hd_vI kk] S post := by
  simp only [wm_X9_least, wo_X9_least, hd_mth, hd_rho0, hd_args, hd_wide, hd_sQ, hd_s0, hd_sI, hd_sJ, hd_sR, hd_sP, hd_sF, hd_sZ, hd_sG, hd_sA, hd_sL, hd_sB, hd_sO, hd_sN, hd_sD, hd_sW, hd_sE, hd_sRI, hd_sRZ, hd_sRJ, hd_sRR, hd_sRV, hd_sSw, hd_sw, hd_sCI, hd_sCL, hd_iK, hd_iL, hd_iU, hd_iB, hd_iD, hd_iJ, hd_iG, hd_iA, hd_iQ, hd_iC, hd_iN, hd_iE, hd_jK, hd_jL, hd_jU, hd_jB, hd_jD, hd_jH, hd_jI, hd_jA, hd_jQ, hd_jN, hd_rL, hd_rG, hd_rA, hd_rN, hd_cI, hd_c0, hd_cJ, hd_cX, hd_cA, hd_cO, hd_v0, hd_pI, hd_pJ, hd_pR, hd_nV, hd_nS, hd_get, hd_st, hd_stW, hd_cut, List.replicate, List.length_cons, List.length_nil, List.nil_append, List.cons_append, Nat.reduceAdd, Nat.reduceSub, Nat.reduceLeDiff, true_and, and_true, if_true, if_false, Bool.false_eq_true, List.append_nil, hs_o_0, hs_r_0_0, hs_t_0_0, hs_r_0_1, hs_t_0_1, hs_r_0_2, hs_t_0_2, hs_r_0_3, hs_t_0_3, hs_r_0_4, hs_t_0_4, hs_r_0_5, hs_t_0_5, hs_r_0_6, hs_t_0_6, hs_r_0_7, hs_t_0_7, hs_f_0_8, hs_o_1, hs_f_1_0, hs_f_1_1, hs_r_1_2, hs_t_1_2, hs_r_1_3, hs_t_1_3, hs_r_1_4, hs_t_1_4, hs_r_1_5, hs_t_1_5, hs_r_1_6, hs_t_1_6, hs_r_1_7, hs_t_1_7, hs_r_1_8, hs_t_1_8, hs_r_1_9, hs_t_1_9, hs_i_2, hs_i_3, hs_i_4, hs_i_5, hs_i_6, hs_i_7, hs_i_8, hs_i_9, hs_o_82, hs_r_82_0, hs_t_82_0, hs_f_82_1, hs_i_83, hs_o_84, hs_r_84_0, hs_t_84_0, hs_r_84_1, hs_t_84_1, hs_r_84_2, hs_t_84_2, hs_r_84_3, hs_t_84_3, hs_f_84_4, hs_i_85, hs_i_86, hs_i_87, hs_o_88, hs_r_88_0, hs_t_88_0, hs_r_88_1, hs_t_88_1, hs_r_88_2, hs_t_88_2, hs_r_88_3, hs_t_88_3, hs_r_88_4, hs_t_88_4, hs_r_88_5, hs_t_88_5, hs_r_88_6, hs_t_88_6, hs_r_88_7, hs_t_88_7, hs_f_88_8, hs_f_88_9, hs_i_89, hs_i_90, hs_i_91, hs_i_92, hs_i_93, hs_i_94, hs_i_95, hs_i_96, hs_i_97, hs_i_98, hs_i_99, hs_i_100, hs_i_101, hs_i_102, hs_o_103, hs_r_103_0, hs_t_103_0, hs_r_103_1, hs_t_103_1, hs_r_103_2, hs_t_103_2, hs_r_103_3, hs_t_103_3, hs_f_103_4, hs_i_104, hs_o_105, hs_r_105_0, hs_t_105_0, hs_r_105_1, hs_t_105_1, hs_r_105_2, hs_t_105_2, hs_i_106, hs_i_107, hs_o_108, hs_r_108_0, hs_t_108_0, hs_r_108_1, hs_t_108_1, hs_r_108_2, hs_t_108_2, hs_r_108_3, hs_t_108_3, hs_f_108_4, hs_i_109, hs_i_110, hs_o_111, hs_r_111_0, hs_t_111_0, hs_r_111_1, hs_t_111_1, hs_f_111_2, hs_f_111_3, hs_f_111_4, hs_i_112, hs_o_113, hs_f_113_0, hs_f_113_1, hs_f_113_2, hs_r_113_3, hs_t_113_3, hs_r_113_4, hs_t_113_4, hs_r_113_5, hs_t_113_5, hs_r_113_6, hs_t_113_6, hs_r_113_7, hs_t_113_7, hs_r_113_8, hs_t_113_8, hs_r_113_9, hs_t_113_9, hs_r_113_10, hs_t_113_10, hs_r_113_11, hs_t_113_11, hs_f_113_12, hs_f_113_13, hs_f_113_14, hs_r_113_15, hs_t_113_15, hs_f_113_16, hs_r_113_17, hs_t_113_17, hs_r_113_18, hs_t_113_18, hs_r_113_19, hs_t_113_19, hs_r_113_20, hs_t_113_20, hs_f_113_21, hs_f_113_22, hs_f_113_23, hs_r_113_24, hs_t_113_24, hs_f_113_25, hs_r_113_26, hs_t_113_26, hs_f_113_27, hs_i_114, hs_i_115, hs_i_116, hs_i_117, hs_i_118, hs_i_119, hs_i_120, hs_i_121, hs_i_122, hs_i_123, hs_i_124, hs_i_125, hs_i_126, hs_i_127, hs_i_128, hs_i_129, sp_isAsked, hd_t01, hd_dn1, decide_eq_true_eq]
  by_cases hq : (0 ≤ kind ∧ kind ≤ 6) ∧ (-1 ≤ kk ∧ kk ≤ 7)
  · obtain ⟨k, hk, rfl⟩ := hb_rng (m := 6) (by decide) hq.1.1 hq.1.2
    simp only [hq, and_self, not_true, if_false]
    have h1 : hm_K S (hd_wI S 113 0 0) := hm_K_0 0 (hm_K_rf S)
    refine sp_search hp (hm_K_P h1 hm) hR kk (-1) (show k < 7 by omega) _ (fun S2 he hf h21 h22 h23 => ?_)
    have h2 := hm_K_tr h1 (hm_K_s he hf)
    have hs2 : S2.1 113 14 = nI hand := by
      rw [hf 14 (by decide), hd_wI1, if_neg (fun q => absurd q.2 (by decide))]
      exact hs
    have hlt := hp_lo_lt (c := hp_q p k kk) (fun s v h => hp_q_lt hp h) (2 ^ hp_H p)
    have hk3 := hk1 k (by omega) rfl hq.2 S2 h2 hs2
    simp only [true_and, h21, hp_ow_none hlt]
    cases ho : hp_lo (hp_q p k kk) (2 ^ hp_H p) with
    | none =>
      simp only [ho, if_true, hp_oi] at hk3 ⊢
      exact hk3
    | some v =>
      simp only [ho, reduceCtorEq, if_false, hp_oi, hp_ow] at hk3 ⊢
      exact hk3
  · simp only [hq, if_false, not_false_iff, not_true, if_true]
    exact hk2 hq
set_option maxHeartbeats 4000000 in
theorem sp_many {S : hd_S} {p : hp_P} (hp : hp_ok p) (hm : hm_P S p) (hR : hm_RS p) {hand : Nat} (hs : S.1 113 14 = nI hand) (kind kk : Int32) (post : Option hd_V → hd_S → Prop)
    (hk1 : ∀ k, k < 7 → kind = nI k → (-1 ≤ kk ∧ kk ≤ 7) → ∀ S2, hm_K S S2 → S2.1 113 14 = nI hand → post (some (hd_vI (nI (fb_ct (hp_ib (hp_q p k kk) (hp_lo (hp_q p k kk) (2 ^ hp_H p))) (2 ^ hp_H p))))) S2)
    (hk2 : ¬ ((0 ≤ kind ∧ kind ≤ 6) ∧ (-1 ≤ kk ∧ kk ≤ 7)) → post (some (hd_vI (-3))) (hd_wI S 113 0 0)) : wm_X9_many [hd_vR 113, hd_vI kind, hd_vI kk] S post := by
  simp only [wm_X9_many, wo_X9_many, hd_mth, hd_rho0, hd_args, hd_wide, hd_sQ, hd_s0, hd_sI, hd_sJ, hd_sR, hd_sP, hd_sF, hd_sZ, hd_sG, hd_sA, hd_sL, hd_sB, hd_sO, hd_sN, hd_sD, hd_sW, hd_sE, hd_sRI, hd_sRZ, hd_sRJ, hd_sRR, hd_sRV, hd_sSw, hd_sw, hd_sCI, hd_sCL, hd_iK, hd_iL, hd_iU, hd_iB, hd_iD, hd_iJ, hd_iG, hd_iA, hd_iQ, hd_iC, hd_iN, hd_iE, hd_jK, hd_jL, hd_jU, hd_jB, hd_jD, hd_jH, hd_jI, hd_jA, hd_jQ, hd_jN, hd_rL, hd_rG, hd_rA, hd_rN, hd_cI, hd_c0, hd_cJ, hd_cX, hd_cA, hd_cO, hd_v0, hd_pI, hd_pJ, hd_pR, hd_nV, hd_nS, hd_get, hd_st, hd_stW, hd_cut, List.replicate, List.length_cons, List.length_nil, List.nil_append, List.cons_append, Nat.reduceAdd, Nat.reduceSub, Nat.reduceLeDiff, true_and, and_true, if_true, if_false, Bool.false_eq_true, List.append_nil, hs_o_0, hs_r_0_0, hs_t_0_0, hs_r_0_1, hs_t_0_1, hs_r_0_2, hs_t_0_2, hs_r_0_3, hs_t_0_3, hs_r_0_4, hs_t_0_4, hs_r_0_5, hs_t_0_5, hs_r_0_6, hs_t_0_6, hs_r_0_7, hs_t_0_7, hs_f_0_8, hs_o_1, hs_f_1_0, hs_f_1_1, hs_r_1_2, hs_t_1_2, hs_r_1_3, hs_t_1_3, hs_r_1_4, hs_t_1_4, hs_r_1_5, hs_t_1_5, hs_r_1_6, hs_t_1_6, hs_r_1_7, hs_t_1_7, hs_r_1_8, hs_t_1_8, hs_r_1_9, hs_t_1_9, hs_i_2, hs_i_3, hs_i_4, hs_i_5, hs_i_6, hs_i_7, hs_i_8, hs_i_9, hs_o_82, hs_r_82_0, hs_t_82_0, hs_f_82_1, hs_i_83, hs_o_84, hs_r_84_0, hs_t_84_0, hs_r_84_1, hs_t_84_1, hs_r_84_2, hs_t_84_2, hs_r_84_3, hs_t_84_3, hs_f_84_4, hs_i_85, hs_i_86, hs_i_87, hs_o_88, hs_r_88_0, hs_t_88_0, hs_r_88_1, hs_t_88_1, hs_r_88_2, hs_t_88_2, hs_r_88_3, hs_t_88_3, hs_r_88_4, hs_t_88_4, hs_r_88_5, hs_t_88_5, hs_r_88_6, hs_t_88_6, hs_r_88_7, hs_t_88_7, hs_f_88_8, hs_f_88_9, hs_i_89, hs_i_90, hs_i_91, hs_i_92, hs_i_93, hs_i_94, hs_i_95, hs_i_96, hs_i_97, hs_i_98, hs_i_99, hs_i_100, hs_i_101, hs_i_102, hs_o_103, hs_r_103_0, hs_t_103_0, hs_r_103_1, hs_t_103_1, hs_r_103_2, hs_t_103_2, hs_r_103_3, hs_t_103_3, hs_f_103_4, hs_i_104, hs_o_105, hs_r_105_0, hs_t_105_0, hs_r_105_1, hs_t_105_1, hs_r_105_2, hs_t_105_2, hs_i_106, hs_i_107, hs_o_108, hs_r_108_0, hs_t_108_0, hs_r_108_1, hs_t_108_1, hs_r_108_2, hs_t_108_2, hs_r_108_3, hs_t_108_3, hs_f_108_4, hs_i_109, hs_i_110, hs_o_111, hs_r_111_0, hs_t_111_0, hs_r_111_1, hs_t_111_1, hs_f_111_2, hs_f_111_3, hs_f_111_4, hs_i_112, hs_o_113, hs_f_113_0, hs_f_113_1, hs_f_113_2, hs_r_113_3, hs_t_113_3, hs_r_113_4, hs_t_113_4, hs_r_113_5, hs_t_113_5, hs_r_113_6, hs_t_113_6, hs_r_113_7, hs_t_113_7, hs_r_113_8, hs_t_113_8, hs_r_113_9, hs_t_113_9, hs_r_113_10, hs_t_113_10, hs_r_113_11, hs_t_113_11, hs_f_113_12, hs_f_113_13, hs_f_113_14, hs_r_113_15, hs_t_113_15, hs_f_113_16, hs_r_113_17, hs_t_113_17, hs_r_113_18, hs_t_113_18, hs_r_113_19, hs_t_113_19, hs_r_113_20, hs_t_113_20, hs_f_113_21, hs_f_113_22, hs_f_113_23, hs_r_113_24, hs_t_113_24, hs_f_113_25, hs_r_113_26, hs_t_113_26, hs_f_113_27, hs_i_114, hs_i_115, hs_i_116, hs_i_117, hs_i_118, hs_i_119, hs_i_120, hs_i_121, hs_i_122, hs_i_123, hs_i_124, hs_i_125, hs_i_126, hs_i_127, hs_i_128, hs_i_129, sp_isAsked, hd_t01, hd_dn1, decide_eq_true_eq]
  by_cases hq : (0 ≤ kind ∧ kind ≤ 6) ∧ (-1 ≤ kk ∧ kk ≤ 7)
  · obtain ⟨k, hk, rfl⟩ := hb_rng (m := 6) (by decide) hq.1.1 hq.1.2
    simp only [hq, and_self, not_true, if_false]
    have h1 : hm_K S (hd_wI S 113 0 0) := hm_K_0 0 (hm_K_rf S)
    refine sp_search hp (hm_K_P h1 hm) hR kk (-1) (show k < 7 by omega) _ (fun S2 he hf h21 h22 h23 => ?_)
    have h2 := hm_K_tr h1 (hm_K_s he hf)
    have hs2 : S2.1 113 14 = nI hand := by
      rw [hf 14 (by decide), hd_wI1, if_neg (fun q => absurd q.2 (by decide))]
      exact hs
    simp only [true_and, h22]
    exact hk1 k (by omega) rfl hq.2 S2 h2 hs2
  · simp only [hq, if_false, not_false_iff, not_true, if_true]
    exact hk2 hq
set_option maxHeartbeats 4000000 in
theorem sp_best {S : hd_S} {p : hp_P} (hp : hp_ok p) (hm : hm_P S p) (hR : hm_RS p) {hand : Nat} (hs : S.1 113 14 = nI hand) (kind kk ii : Int32) (post : Option hd_V → hd_S → Prop)
    (hk1 : ∀ k, k < 7 → kind = nI k → (-1 ≤ kk ∧ kk ≤ 7) → ¬ ii < 0 → ∀ S2, hm_K S S2 → S2.1 113 14 = nI hand → hp_at (hp_q p k kk) (hp_lo (hp_q p k kk) (2 ^ hp_H p)) ii (2 ^ hp_H p) = none → post (some (hd_vI (-1))) S2)
    (hk3 : ∀ k, k < 7 → kind = nI k → (-1 ≤ kk ∧ kk ≤ 7) → ¬ ii < 0 → ∀ S2, hm_K S S2 → ∀ s, hp_at (hp_q p k kk) (hp_lo (hp_q p k kk) (2 ^ hp_H p)) ii (2 ^ hp_H p) = some s → S2.1 113 14 = nI s → post (some (hd_vI (nI s))) S2)
    (hk2 : ¬ (((0 ≤ kind ∧ kind ≤ 6) ∧ (-1 ≤ kk ∧ kk ≤ 7)) ∧ ¬ ii < 0) → post (some (hd_vI (-3))) (hd_wI S 113 0 0)) : wm_X9_best [hd_vR 113, hd_vI kind, hd_vI kk, hd_vI ii] S post := by
  have hH : hp_H p ≤ 7 := hp.2.1
  have h128 : 2 ^ hp_H p ≤ 128 := Nat.pow_le_pow_right (n := 2) (by decide) hH
  simp only [wm_X9_best, wo_X9_best, hd_mth, hd_rho0, hd_args, hd_wide, hd_sQ, hd_s0, hd_sI, hd_sJ, hd_sR, hd_sP, hd_sF, hd_sZ, hd_sG, hd_sA, hd_sL, hd_sB, hd_sO, hd_sN, hd_sD, hd_sW, hd_sE, hd_sRI, hd_sRZ, hd_sRJ, hd_sRR, hd_sRV, hd_sSw, hd_sw, hd_sCI, hd_sCL, hd_iK, hd_iL, hd_iU, hd_iB, hd_iD, hd_iJ, hd_iG, hd_iA, hd_iQ, hd_iC, hd_iN, hd_iE, hd_jK, hd_jL, hd_jU, hd_jB, hd_jD, hd_jH, hd_jI, hd_jA, hd_jQ, hd_jN, hd_rL, hd_rG, hd_rA, hd_rN, hd_cI, hd_c0, hd_cJ, hd_cX, hd_cA, hd_cO, hd_v0, hd_pI, hd_pJ, hd_pR, hd_nV, hd_nS, hd_get, hd_st, hd_stW, hd_cut, List.replicate, List.length_cons, List.length_nil, List.nil_append, List.cons_append, Nat.reduceAdd, Nat.reduceSub, Nat.reduceLeDiff, true_and, and_true, if_true, if_false, Bool.false_eq_true, List.append_nil, hs_o_0, hs_r_0_0, hs_t_0_0, hs_r_0_1, hs_t_0_1, hs_r_0_2, hs_t_0_2, hs_r_0_3, hs_t_0_3, hs_r_0_4, hs_t_0_4, hs_r_0_5, hs_t_0_5, hs_r_0_6, hs_t_0_6, hs_r_0_7, hs_t_0_7, hs_f_0_8, hs_o_1, hs_f_1_0, hs_f_1_1, hs_r_1_2, hs_t_1_2, hs_r_1_3, hs_t_1_3, hs_r_1_4, hs_t_1_4, hs_r_1_5, hs_t_1_5, hs_r_1_6, hs_t_1_6, hs_r_1_7, hs_t_1_7, hs_r_1_8, hs_t_1_8, hs_r_1_9, hs_t_1_9, hs_i_2, hs_i_3, hs_i_4, hs_i_5, hs_i_6, hs_i_7, hs_i_8, hs_i_9, hs_o_82, hs_r_82_0, hs_t_82_0, hs_f_82_1, hs_i_83, hs_o_84, hs_r_84_0, hs_t_84_0, hs_r_84_1, hs_t_84_1, hs_r_84_2, hs_t_84_2, hs_r_84_3, hs_t_84_3, hs_f_84_4, hs_i_85, hs_i_86, hs_i_87, hs_o_88, hs_r_88_0, hs_t_88_0, hs_r_88_1, hs_t_88_1, hs_r_88_2, hs_t_88_2, hs_r_88_3, hs_t_88_3, hs_r_88_4, hs_t_88_4, hs_r_88_5, hs_t_88_5, hs_r_88_6, hs_t_88_6, hs_r_88_7, hs_t_88_7, hs_f_88_8, hs_f_88_9, hs_i_89, hs_i_90, hs_i_91, hs_i_92, hs_i_93, hs_i_94, hs_i_95, hs_i_96, hs_i_97, hs_i_98, hs_i_99, hs_i_100, hs_i_101, hs_i_102, hs_o_103, hs_r_103_0, hs_t_103_0, hs_r_103_1, hs_t_103_1, hs_r_103_2, hs_t_103_2, hs_r_103_3, hs_t_103_3, hs_f_103_4, hs_i_104, hs_o_105, hs_r_105_0, hs_t_105_0, hs_r_105_1, hs_t_105_1, hs_r_105_2, hs_t_105_2, hs_i_106, hs_i_107, hs_o_108, hs_r_108_0, hs_t_108_0, hs_r_108_1, hs_t_108_1, hs_r_108_2, hs_t_108_2, hs_r_108_3, hs_t_108_3, hs_f_108_4, hs_i_109, hs_i_110, hs_o_111, hs_r_111_0, hs_t_111_0, hs_r_111_1, hs_t_111_1, hs_f_111_2, hs_f_111_3, hs_f_111_4, hs_i_112, hs_o_113, hs_f_113_0, hs_f_113_1, hs_f_113_2, hs_r_113_3, hs_t_113_3, hs_r_113_4, hs_t_113_4, hs_r_113_5, hs_t_113_5, hs_r_113_6, hs_t_113_6, hs_r_113_7, hs_t_113_7, hs_r_113_8, hs_t_113_8, hs_r_113_9, hs_t_113_9, hs_r_113_10, hs_t_113_10, hs_r_113_11, hs_t_113_11, hs_f_113_12, hs_f_113_13, hs_f_113_14, hs_r_113_15, hs_t_113_15, hs_f_113_16, hs_r_113_17, hs_t_113_17, hs_r_113_18, hs_t_113_18, hs_r_113_19, hs_t_113_19, hs_r_113_20, hs_t_113_20, hs_f_113_21, hs_f_113_22, hs_f_113_23, hs_r_113_24, hs_t_113_24, hs_f_113_25, hs_r_113_26, hs_t_113_26, hs_f_113_27, hs_i_114, hs_i_115, hs_i_116, hs_i_117, hs_i_118, hs_i_119, hs_i_120, hs_i_121, hs_i_122, hs_i_123, hs_i_124, hs_i_125, hs_i_126, hs_i_127, hs_i_128, hs_i_129, sp_isAsked, hd_t01, hd_dn1, decide_eq_true_eq]
  by_cases hq : (0 ≤ kind ∧ kind ≤ 6) ∧ (-1 ≤ kk ∧ kk ≤ 7)
  · by_cases hi : ii < 0
    · simp only [hq, and_self, not_true, if_false, hi, if_true]
      exact hk2 (fun q => q.2 hi)
    · obtain ⟨k, hk, rfl⟩ := hb_rng (m := 6) (by decide) hq.1.1 hq.1.2
      simp only [hq, and_self, not_true, if_false, hi]
      have h1 : hm_K S (hd_wI S 113 0 0) := hm_K_0 0 (hm_K_rf S)
      refine sp_search hp (hm_K_P h1 hm) hR kk ii (show k < 7 by omega) _ (fun S2 he hf h21 h22 h23 => ?_)
      have h2 := hm_K_tr h1 (hm_K_s he hf)
      have hs2 : S2.1 113 14 = nI hand := by
        rw [hf 14 (by decide), hd_wI1, if_neg (fun q => absurd q.2 (by decide))]
        exact hs
      simp only [true_and, h23]
      cases ho : hp_at (hp_q p k kk) (hp_lo (hp_q p k kk) (2 ^ hp_H p)) ii (2 ^ hp_H p) with
      | none =>
        simp only [hp_oi, if_true]
        exact hk1 k (by omega) rfl hq.2 hi S2 h2 hs2 ho
      | some s =>
        have hsl := hp_at_lt ho
        rw [ho] at h23
        simp only [hp_oi] at h23
        simp only [hp_oi, hp_ne1 (show s < 2 ^ 31 by omega), if_false, hd_wI1, and_false, Nat.reduceEqDiff, h23]
        refine hk3 k (by omega) rfl hq.2 hi _ (hm_K_14 _ h2) s ho ?_
        rw [hd_wI1, if_pos ⟨rfl, rfl⟩]
  · simp only [hq, if_false, not_false_iff, not_true, if_true]
    exact hk2 (fun q => hq q.1)
