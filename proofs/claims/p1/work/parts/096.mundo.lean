/-! undo: the reference -/
set_option maxHeartbeats 8000000 in
theorem sp_undo {S : hd_S} {p : hp_P} {n : Nat} {q : Nat → hp_P} {hand : Nat} {cl : Nat → Nat} (hI : hm_I S p n q hand cl) (post : Option hd_V → hd_S → Prop)
    (hk1 : ∀ m, n = m + 1 → ∀ S2, hm_I S2 (q m) m q (hand &&& (2 ^ hp_H (q m) - 1)) (fun t => if t < hp_T (q m) then cl t else 0) → hm_fr S S2 → post (some (hd_vI (nI m))) S2)
    (hk2 : n = 0 → post (some (hd_vI (-4))) (hd_wI S 113 0 0)) : wm_X9_undo [hd_vR 113] S post := by
  obtain ⟨⟨a1, a2, a3, a4, a5⟩, b1, ⟨hn8, h13, e, he8, h12, hbl⟩, b3, b4, b5⟩ := hI
  have r12 : (hd_wI S 113 0 0).1 113 12 = nI e := by rw [hd_wI1, if_neg (fun r => absurd r.2 (by decide))]; exact h12
  have r13 : (hd_wI S 113 0 0).1 113 13 = nI n := by rw [hd_wI1, if_neg (fun r => absurd r.2 (by decide))]; exact h13
  simp only [wm_X9_undo, hd_mth, hd_rho0, hd_args, hd_wide, List.replicate, List.length_cons, List.length_nil, List.nil_append, List.cons_append, Nat.reduceAdd, Nat.reduceSub, Nat.reduceLeDiff, true_and, List.append_nil, if_false, Bool.false_eq_true]
  unfold wo_X9_undo
  rw [hq_sQ]
  simp only [hd_sF, hd_rL, hd_get, hd_iK, hs_f_113_0, true_and]
  rw [hq_sQ, hq_sW]
  simp only [hd_c0, hd_iG, hd_rL, hd_get, hs_f_113_13, r13, hb_z (show n < 2 ^ 31 by omega), decide_eq_true_eq, hd_sRI, hd_iK, true_and]
  cases n with
  | zero =>
    simp only [if_true]
    exact hk2 rfl
  | succ m =>
    have hokm := a2 m (Nat.lt_succ_self _)
    have hTm : hp_T (q m) ≤ 8 := hokm.1
    have hHm : hp_H (q m) ≤ 7 := hokm.2.1
    have h128 : hand < 128 := Nat.lt_of_lt_of_le a3 (Nat.pow_le_pow_right (n := 2) (by decide) a1.2.1)
    rw [if_neg (Nat.succ_ne_zero m)]
    obtain ⟨e2, he2⟩ : ∃ e2, e2 = (e + 7) % 8 := ⟨_, rfl⟩
    have he28 : e2 < 8 := by omega
    have blk : hm_B S e2 (q m) := by
      have h9 := hbl m (Nat.lt_succ_self _)
      rw [show (e + 8 - (m + 1) + m) % 8 = e2 by omega] at h9
      exact h9
    have x1 : nI e + 8 - 1 = nI (e + 7) := by
      rw [show nI e + (8 : Int32) = nI (e + 8) from nI_add e 8, show (1 : Int32) = nI 1 from rfl, pk_sub (by omega)]
      rfl
    have x2 : nI (e + 7) - nI (e + 7) / 8 * 8 = nI e2 := by
      rw [he2]
      exact pk_rem (d := 8) (by omega) (by decide) (by decide)
    have x3 : nI (m + 1) - 1 = nI m := by
      rw [show (1 : Int32) = nI 1 from rfl, pk_sub (by omega)]
      rfl
    have x4 : (110 : Int32) * nI e2 = nI (110 * e2) := pk_mul 110 e2
    have x5 : nI (110 * e2) + 2 = nI (110 * e2 + 2) := nI_add (110 * e2) 2
    rw [hq_sQ]
    simp only [hd_sF, hd_iD, hd_iB, hd_iK, hd_iG, hd_rL, hd_get, hs_f_113_12, r12, x1, x2, show ¬ ((8 : Int32) = 0) by decide, not_false_iff, true_and]
    rw [hq_sQ]
    simp only [hd_sG, hd_rL, hd_get, hd_iK, hs_f_113_13, hd_wI1, Nat.reduceEqDiff, and_false, if_false, h13, x3, true_and]
    rw [hq_sQ]
    simp only [hd_sF, hd_iB, hd_iK, hd_iG, hd_rL, hd_get, hs_f_113_12, hs_f_113_16, hd_wI1, Nat.reduceEqDiff, and_false, and_self, if_true, if_false, x4, true_and]
    generalize hS0 : hd_wI (hd_wI (hd_wI (hd_wI S 113 0 0) 113 12 (nI e2)) 113 13 (nI m)) 113 16 (nI (110 * e2)) = S0
    have k0 : hd_eqx [113] S S0 := by
      rw [← hS0]
      exact hd_eqx_w (hd_eqx_w (hd_eqx_w (hd_eqx_w (hd_eqx_rf _ _) (by decide)) (by decide)) (by decide)) (by decide)
    have f00 : ∀ f, f ≠ 0 → f ≠ 12 → f ≠ 13 → f ≠ 16 → S0.1 113 f = S.1 113 f := fun f z1 z2 z3 z4 => by
      rw [← hS0, hd_wI1, if_neg (fun r => z4 r.2), hd_wI1, if_neg (fun r => z3 r.2), hd_wI1, if_neg (fun r => z2 r.2), hd_wI1, if_neg (fun r => z1 r.2)]
    have f12 : S0.1 113 12 = nI e2 := by
      rw [← hS0, hd_wI1, if_neg (fun r => absurd r.2 (by decide)), hd_wI1, if_neg (fun r => absurd r.2 (by decide)), hd_wI1, if_pos ⟨rfl, rfl⟩]
    have f13 : S0.1 113 13 = nI m := by
      rw [← hS0, hd_wI1, if_neg (fun r => absurd r.2 (by decide)), hd_wI1, if_pos ⟨rfl, rfl⟩]
    have f16 : S0.1 113 16 = nI (110 * e2) := by
      rw [← hS0, hd_wI1, if_pos ⟨rfl, rfl⟩]
    clear hS0
    have blk0 : hm_B S0 e2 (q m) := hm_B_eq hHm (fun j _ _ => by rw [k0.1 122 (by decide)]) blk
    obtain ⟨y1, y2, y3, y4, y5, y6, y7, y8, y9, y10⟩ := blk0
    rw [hq_sQ]
    simp only [hd_sF, hd_iA, hd_rG, hd_iG, hd_rL, hd_get, hs_f_113_1, hs_f_113_16, hs_t_113_11, hs_r_113_11, hs_i_122, f16, vp_in_nI (show 110 * e2 < 880 by omega) (show 880 < 2 ^ 31 by decide), hd_cc (show 110 * e2 < 2147483648 by omega), y1, true_and]
    rw [hq_sQ]
    simp only [hd_sF, hd_iA, hd_iB, hd_iK, hd_rG, hd_iG, hd_rL, hd_get, hs_f_113_2, hs_f_113_16, hs_t_113_11, hs_r_113_11, hs_i_122, hd_wI1, Nat.reduceEqDiff, and_false, show ¬ ((122 : Nat) = 113) by decide, false_and, if_false, f16, nI_1, vp_in_nI (show 110 * e2 + 1 < 880 by omega) (show 880 < 2 ^ 31 by decide), hd_cc (show 110 * e2 + 1 < 2147483648 by omega), y2, true_and]
    rw [hq_sQ]
    simp only [hd_sG, hd_rL, hd_get, hd_iK, hs_f_113_16, hd_wI1, Nat.reduceEqDiff, and_false, if_false, f16, x5, true_and]
    generalize hS1 : hd_wI (hd_wI (hd_wI S0 113 1 (nI (hp_T (q m)))) 113 2 (nI (hp_H (q m)))) 113 16 (nI (110 * e2 + 2)) = S1
    have k1 : hd_eqx [113] S0 S1 := by
      rw [← hS1]
      exact hd_eqx_w (hd_eqx_w (hd_eqx_w (hd_eqx_rf _ _) (by decide)) (by decide)) (by decide)
    have p0 : S1.1 113 16 = nI (110 * e2 + 2) := by rw [← hS1, hd_wI1, if_pos ⟨rfl, rfl⟩]
    have q1 : S1.1 113 1 = nI (hp_T (q m)) := by rw [← hS1, hd_wI1, if_neg (fun r => absurd r.2 (by decide)), hd_wI1, if_neg (fun r => absurd r.2 (by decide)), hd_wI1, if_pos ⟨rfl, rfl⟩]
    have q2 : S1.1 113 2 = nI (hp_H (q m)) := by rw [← hS1, hd_wI1, if_neg (fun r => absurd r.2 (by decide)), hd_wI1, if_pos ⟨rfl, rfl⟩]
    have f0 : ∀ f, f ≠ 1 → f ≠ 2 → f ≠ 16 → S1.1 113 f = S0.1 113 f := fun f z1 z2 z3 => by
      rw [← hS1, hd_wI1, if_neg (fun r => z3 r.2), hd_wI1, if_neg (fun r => z2 r.2), hd_wI1, if_neg (fun r => z1 r.2)]
    clear hS1
    rw [hq_sQ]
    refine sp_rd (P := 110 * e2 + 2) (n := 8) (N := 8) hs_r_113_3 (by decide) hs_i_114 (by decide) (by decide) rfl p0 (by omega) (fun S2 g1 f1 p1 t1 => ?_)
    rw [hq_sQ]
    refine sp_rd (P := 110 * e2 + 10) (n := 8) (N := 8) hs_r_113_4 (by decide) hs_i_115 (by decide) (by decide) rfl p1 (by omega) (fun S3 g2 f2 p2 t2 => ?_)
    rw [hq_sQ]
    refine sp_rd (P := 110 * e2 + 18) (n := 8) (N := 8) hs_r_113_5 (by decide) hs_i_116 (by decide) (by decide) rfl p2 (by omega) (fun S4 g3 f3 p3 t3 => ?_)
    rw [hq_sQ]
    refine sp_rd (P := 110 * e2 + 26) (n := 7) (N := 7) hs_r_113_6 (by decide) hs_i_117 (by decide) (by decide) rfl p3 (by omega) (fun S5 g4 f4 p4 t4 => ?_)
    rw [hq_sQ]
    refine sp_rd (P := 110 * e2 + 33) (n := 7) (N := 7) hs_r_113_7 (by decide) hs_i_118 (by decide) (by decide) rfl p4 (by omega) (fun S6 g5 f5 p5 t5 => ?_)
    rw [hq_sQ]
    refine sp_rd (P := 110 * e2 + 40) (n := 7) (N := 7) hs_r_113_8 (by decide) hs_i_119 (by decide) (by decide) rfl p5 (by omega) (fun S7 g6 f6 p6 t6 => ?_)
    rw [hq_sQ]
    refine sp_rd (P := 110 * e2 + 47) (n := 7) (N := 7) hs_r_113_9 (by decide) hs_i_120 (by decide) (by decide) rfl p6 (by omega) (fun S8 g7 f7 p7 t7 => ?_)
    rw [hq_sQ]
    refine sp_rd (P := 110 * e2 + 54) (n := 56) (N := 56) hs_r_113_10 (by decide) hs_i_121 (by decide) (by decide) rfl p7 (by omega) (fun S9 g8 f8 p8 t8 => ?_)
    have o0 : S1.1 122 = S0.1 122 := k1.1 122 (by decide)
    have o1 : S2.1 122 = S0.1 122 := (g1.1 122 (by decide)).trans o0
    have o2 : S3.1 122 = S0.1 122 := (g2.1 122 (by decide)).trans o1
    have o3 : S4.1 122 = S0.1 122 := (g3.1 122 (by decide)).trans o2
    have o4 : S5.1 122 = S0.1 122 := (g4.1 122 (by decide)).trans o3
    have o5 : S6.1 122 = S0.1 122 := (g5.1 122 (by decide)).trans o4
    have o6 : S7.1 122 = S0.1 122 := (g6.1 122 (by decide)).trans o5
    have o7 : S8.1 122 = S0.1 122 := (g7.1 122 (by decide)).trans o6
    have o8 : S9.1 122 = S0.1 122 := (g8.1 122 (by decide)).trans o7
    have v1 : ∀ j, j < 8 → S9.1 114 j = S0.1 122 (110 * e2 + 2 + j) := fun j hj => by rw [g8.1 114 (by decide), g7.1 114 (by decide), g6.1 114 (by decide), g5.1 114 (by decide), g4.1 114 (by decide), g3.1 114 (by decide), g2.1 114 (by decide), t1 j hj, o0]
    have v2 : ∀ j, j < 8 → S9.1 115 j = S0.1 122 (110 * e2 + 10 + j) := fun j hj => by rw [g8.1 115 (by decide), g7.1 115 (by decide), g6.1 115 (by decide), g5.1 115 (by decide), g4.1 115 (by decide), g3.1 115 (by decide), t2 j hj, o1]
    have v3 : ∀ j, j < 8 → S9.1 116 j = S0.1 122 (110 * e2 + 18 + j) := fun j hj => by rw [g8.1 116 (by decide), g7.1 116 (by decide), g6.1 116 (by decide), g5.1 116 (by decide), g4.1 116 (by decide), t3 j hj, o2]
    have v4 : ∀ j, j < 7 → S9.1 117 j = S0.1 122 (110 * e2 + 26 + j) := fun j hj => by rw [g8.1 117 (by decide), g7.1 117 (by decide), g6.1 117 (by decide), g5.1 117 (by decide), t4 j hj, o3]
    have v5 : ∀ j, j < 7 → S9.1 118 j = S0.1 122 (110 * e2 + 33 + j) := fun j hj => by rw [g8.1 118 (by decide), g7.1 118 (by decide), g6.1 118 (by decide), t5 j hj, o4]
    have v6 : ∀ j, j < 7 → S9.1 119 j = S0.1 122 (110 * e2 + 40 + j) := fun j hj => by rw [g8.1 119 (by decide), g7.1 119 (by decide), t6 j hj, o5]
    have v7 : ∀ j, j < 7 → S9.1 120 j = S0.1 122 (110 * e2 + 47 + j) := fun j hj => by rw [g8.1 120 (by decide), t7 j hj, o6]
    have v8 : ∀ j, j < 56 → S9.1 121 j = S0.1 122 (110 * e2 + 54 + j) := fun j hj => by rw [t8 j hj, o7]
    have feq : ∀ f, f ≠ 16 → S9.1 113 f = S1.1 113 f := fun f hf => by rw [f8 f hf, f7 f hf, f6 f hf, f5 f hf, f4 f hf, f3 f hf, f2 f hf, f1 f hf]
    have ceq : ∀ c, c < 113 ∨ 122 ≤ c → S9.1 c = S.1 c := fun c hc => by
      rw [g8.1 c (by simp; omega), g7.1 c (by simp; omega), g6.1 c (by simp; omega), g5.1 c (by simp; omega), g4.1 c (by simp; omega), g3.1 c (by simp; omega), g2.1 c (by simp; omega), g1.1 c (by simp; omega), k1.1 c (by simp; omega), k0.1 c (by simp; omega)]
    have seq : S9.2 = S.2 := by rw [g8.2, g7.2, g6.2, g5.2, g4.2, g3.2, g2.2, g1.2, k1.2, k0.2]
    have hm9 : hm_P S9 (q m) := ⟨(feq 1 (by decide)).trans q1, (feq 2 (by decide)).trans q2, fun t ht => (v1 t ht).trans (y3 t ht), fun t ht => (v2 t ht).trans (y4 t ht), fun t ht => (v3 t ht).trans (y5 t ht), fun t ht => (v4 t ht).trans (y6 t ht), fun t ht => (v5 t ht).trans (y7 t ht), fun t ht => (v6 t ht).trans (y8 t ht), fun t ht => (v7 t ht).trans (y9 t ht), fun a ha t ht hv => (v8 (a * 8 + t) (by omega)).trans (y10 a ha t ht hv)⟩
    have w14 : S9.1 113 14 = nI hand := by rw [feq 14 (by decide), f0 14 (by decide) (by decide) (by decide), f00 14 (by decide) (by decide) (by decide) (by decide)]; exact b3
    have w12 : S9.1 113 12 = nI e2 := by rw [feq 12 (by decide), f0 12 (by decide) (by decide) (by decide)]; exact f12
    have w13 : S9.1 113 13 = nI m := by rw [feq 13 (by decide), f0 13 (by decide) (by decide) (by decide)]; exact f13
    clear g1 g2 g3 g4 g5 g6 g7 g8 f1 f2 f3 f4 f5 f6 f7 f8 p1 p2 p3 p4 p5 p6 p7 p8 t1 t2 t3 t4 t5 t6 t7 t8 o0 o1 o2 o3 o4 o5 o6 o7 o8 v1 v2 v3 v4 v5 v6 v7 v8
    have hal : 2 ^ hp_H (q m) - 1 < 128 := by
      have : 2 ^ hp_H (q m) ≤ 128 := Nat.pow_le_pow_right (n := 2) (by decide) hHm
      omega
    have pw : 0 < 2 ^ hp_H (q m) := Nat.two_pow_pos _
    simp only [hd_mth, hd_rho0, hd_args, hd_wide, hq_sQ, hd_s0, hq_sI, hq_sJ, hd_sR, hd_sP, hd_sF, hd_sZ, hd_sG, hd_sA, hd_sL, hd_sB, hd_sO, hd_sN, hd_sD, hd_sW, hd_sE, hd_sRI, hd_sRZ, hd_sRJ, hd_sRR, hd_sRV, hd_sSw, hd_sw, hd_sCI, hd_sCL, hd_iK, hd_iL, hd_iU, hd_iB, hd_iD, hd_iJ, hd_iG, hd_iA, hd_iQ, hd_iC, hd_iN, hd_iE, hd_jK, hd_jL, hd_jU, hd_jB, hd_jD, hd_jH, hd_jI, hd_jA, hd_jQ, hd_jN, hd_rL, hd_rG, hd_rA, hd_rN, hd_cI, hd_c0, hd_cJ, hd_cX, hd_cA, hd_cO, hd_v0, hd_pI, hd_pJ, hd_pR, hd_nV, hd_nS, hd_get, hd_st, hd_stW, hd_cut, List.replicate, List.length_cons, List.length_nil, List.nil_append, List.cons_append, Nat.reduceAdd, Nat.reduceSub, Nat.reduceLeDiff, true_and, and_true, if_true, if_false, Bool.false_eq_true, List.append_nil, hs_o_0, hs_r_0_0, hs_t_0_0, hs_r_0_1, hs_t_0_1, hs_r_0_2, hs_t_0_2, hs_r_0_3, hs_t_0_3, hs_r_0_4, hs_t_0_4, hs_r_0_5, hs_t_0_5, hs_r_0_6, hs_t_0_6, hs_r_0_7, hs_t_0_7, hs_f_0_8, hs_o_1, hs_f_1_0, hs_f_1_1, hs_r_1_2, hs_t_1_2, hs_r_1_3, hs_t_1_3, hs_r_1_4, hs_t_1_4, hs_r_1_5, hs_t_1_5, hs_r_1_6, hs_t_1_6, hs_r_1_7, hs_t_1_7, hs_r_1_8, hs_t_1_8, hs_r_1_9, hs_t_1_9, hs_i_2, hs_i_3, hs_i_4, hs_i_5, hs_i_6, hs_i_7, hs_i_8, hs_i_9, hs_o_82, hs_r_82_0, hs_t_82_0, hs_f_82_1, hs_i_83, hs_o_84, hs_r_84_0, hs_t_84_0, hs_r_84_1, hs_t_84_1, hs_r_84_2, hs_t_84_2, hs_r_84_3, hs_t_84_3, hs_f_84_4, hs_i_85, hs_i_86, hs_i_87, hs_o_88, hs_r_88_0, hs_t_88_0, hs_r_88_1, hs_t_88_1, hs_r_88_2, hs_t_88_2, hs_r_88_3, hs_t_88_3, hs_r_88_4, hs_t_88_4, hs_r_88_5, hs_t_88_5, hs_r_88_6, hs_t_88_6, hs_r_88_7, hs_t_88_7, hs_f_88_8, hs_f_88_9, hs_i_89, hs_i_90, hs_i_91, hs_i_92, hs_i_93, hs_i_94, hs_i_95, hs_i_96, hs_i_97, hs_i_98, hs_i_99, hs_i_100, hs_i_101, hs_i_102, hs_o_103, hs_r_103_0, hs_t_103_0, hs_r_103_1, hs_t_103_1, hs_r_103_2, hs_t_103_2, hs_r_103_3, hs_t_103_3, hs_f_103_4, hs_i_104, hs_o_105, hs_r_105_0, hs_t_105_0, hs_r_105_1, hs_t_105_1, hs_r_105_2, hs_t_105_2, hs_i_106, hs_i_107, hs_o_108, hs_r_108_0, hs_t_108_0, hs_r_108_1, hs_t_108_1, hs_r_108_2, hs_t_108_2, hs_r_108_3, hs_t_108_3, hs_f_108_4, hs_i_109, hs_i_110, hs_o_111, hs_r_111_0, hs_t_111_0, hs_r_111_1, hs_t_111_1, hs_f_111_2, hs_f_111_3, hs_f_111_4, hs_i_112, hs_o_113, hs_f_113_0, hs_f_113_1, hs_f_113_2, hs_r_113_3, hs_t_113_3, hs_r_113_4, hs_t_113_4, hs_r_113_5, hs_t_113_5, hs_r_113_6, hs_t_113_6, hs_r_113_7, hs_t_113_7, hs_r_113_8, hs_t_113_8, hs_r_113_9, hs_t_113_9, hs_r_113_10, hs_t_113_10, hs_r_113_11, hs_t_113_11, hs_f_113_12, hs_f_113_13, hs_f_113_14, hs_r_113_15, hs_t_113_15, hs_f_113_16, hs_r_113_17, hs_t_113_17, hs_r_113_18, hs_t_113_18, hs_r_113_19, hs_t_113_19, hs_r_113_20, hs_t_113_20, hs_f_113_21, hs_f_113_22, hs_f_113_23, hs_r_113_24, hs_t_113_24, hs_f_113_25, hs_r_113_26, hs_t_113_26, hs_f_113_27, hs_i_114, hs_i_115, hs_i_116, hs_i_117, hs_i_118, hs_i_119, hs_i_120, hs_i_121, hs_i_122, hs_i_123, hs_i_124, hs_i_125, hs_i_126, hs_i_127, hs_i_128, hs_i_129, w14, sp_X9_allHalls, hm9.2.1, hb_all (show hp_H (q m) < 31 by omega), fa_and, hd_wI1, Nat.reduceEqDiff, and_false, if_false, hm9.1]
    have z14 : (hd_wI S9 113 14 (nI (hand &&& (2 ^ hp_H (q m) - 1)))).1 113 14 = nI (hand &&& (2 ^ hp_H (q m) - 1)) := by rw [hd_wI1, if_pos ⟨rfl, rfl⟩]
    have zf : ∀ f, f ≠ 14 → (hd_wI S9 113 14 (nI (hand &&& (2 ^ hp_H (q m) - 1)))).1 113 f = S9.1 113 f := fun f hf => by rw [hd_wI1, if_neg (fun r => hf r.2)]
    have zc : ∀ c, c ≠ 113 → (hd_wI S9 113 14 (nI (hand &&& (2 ^ hp_H (q m) - 1)))).1 c = S9.1 c := fun c hc => by
      funext j
      rw [hx_oth hc]
    refine hd_up (S := hd_wI S9 113 14 (nI (hand &&& (2 ^ hp_H (q m) - 1)))) (fun i ρ S2 => hp_T (q m) ≤ i ∧ hd_eqx [123] (hd_wI S9 113 14 (nI (hand &&& (2 ^ hp_H (q m) - 1)))) S2 ∧ (∀ t, t < 8 → S2.1 123 t = nI (if t < hp_T (q m) ∨ i ≤ t then cl t else 0)) ∧ ρ = [hd_vR 113, hd_vI (nI i)]) 8 ?_ ?_ hTm ⟨Nat.le_refl _, hd_eqx_rf _ _, fun t ht => ?_, rfl⟩
    · rintro i ρ S2 K hi ⟨hTi, he, hw, rfl⟩ hK
      simp only [wc_X9_undo_188, wb_X9_undo_188, hd_mth, hd_rho0, hd_args, hd_wide, hq_sQ, hd_s0, hq_sI, hq_sJ, hd_sR, hd_sP, hd_sF, hd_sZ, hd_sG, hd_sA, hd_sL, hd_sB, hd_sO, hd_sN, hd_sD, hd_sW, hd_sE, hd_sRI, hd_sRZ, hd_sRJ, hd_sRR, hd_sRV, hd_sSw, hd_sw, hd_sCI, hd_sCL, hd_iK, hd_iL, hd_iU, hd_iB, hd_iD, hd_iJ, hd_iG, hd_iA, hd_iQ, hd_iC, hd_iN, hd_iE, hd_jK, hd_jL, hd_jU, hd_jB, hd_jD, hd_jH, hd_jI, hd_jA, hd_jQ, hd_jN, hd_rL, hd_rG, hd_rA, hd_rN, hd_cI, hd_c0, hd_cJ, hd_cX, hd_cA, hd_cO, hd_v0, hd_pI, hd_pJ, hd_pR, hd_nV, hd_nS, hd_get, hd_st, hd_stW, hd_cut, List.replicate, List.length_cons, List.length_nil, List.nil_append, List.cons_append, Nat.reduceAdd, Nat.reduceSub, Nat.reduceLeDiff, true_and, and_true, if_true, if_false, Bool.false_eq_true, List.append_nil, hs_o_0, hs_r_0_0, hs_t_0_0, hs_r_0_1, hs_t_0_1, hs_r_0_2, hs_t_0_2, hs_r_0_3, hs_t_0_3, hs_r_0_4, hs_t_0_4, hs_r_0_5, hs_t_0_5, hs_r_0_6, hs_t_0_6, hs_r_0_7, hs_t_0_7, hs_f_0_8, hs_o_1, hs_f_1_0, hs_f_1_1, hs_r_1_2, hs_t_1_2, hs_r_1_3, hs_t_1_3, hs_r_1_4, hs_t_1_4, hs_r_1_5, hs_t_1_5, hs_r_1_6, hs_t_1_6, hs_r_1_7, hs_t_1_7, hs_r_1_8, hs_t_1_8, hs_r_1_9, hs_t_1_9, hs_i_2, hs_i_3, hs_i_4, hs_i_5, hs_i_6, hs_i_7, hs_i_8, hs_i_9, hs_o_82, hs_r_82_0, hs_t_82_0, hs_f_82_1, hs_i_83, hs_o_84, hs_r_84_0, hs_t_84_0, hs_r_84_1, hs_t_84_1, hs_r_84_2, hs_t_84_2, hs_r_84_3, hs_t_84_3, hs_f_84_4, hs_i_85, hs_i_86, hs_i_87, hs_o_88, hs_r_88_0, hs_t_88_0, hs_r_88_1, hs_t_88_1, hs_r_88_2, hs_t_88_2, hs_r_88_3, hs_t_88_3, hs_r_88_4, hs_t_88_4, hs_r_88_5, hs_t_88_5, hs_r_88_6, hs_t_88_6, hs_r_88_7, hs_t_88_7, hs_f_88_8, hs_f_88_9, hs_i_89, hs_i_90, hs_i_91, hs_i_92, hs_i_93, hs_i_94, hs_i_95, hs_i_96, hs_i_97, hs_i_98, hs_i_99, hs_i_100, hs_i_101, hs_i_102, hs_o_103, hs_r_103_0, hs_t_103_0, hs_r_103_1, hs_t_103_1, hs_r_103_2, hs_t_103_2, hs_r_103_3, hs_t_103_3, hs_f_103_4, hs_i_104, hs_o_105, hs_r_105_0, hs_t_105_0, hs_r_105_1, hs_t_105_1, hs_r_105_2, hs_t_105_2, hs_i_106, hs_i_107, hs_o_108, hs_r_108_0, hs_t_108_0, hs_r_108_1, hs_t_108_1, hs_r_108_2, hs_t_108_2, hs_r_108_3, hs_t_108_3, hs_f_108_4, hs_i_109, hs_i_110, hs_o_111, hs_r_111_0, hs_t_111_0, hs_r_111_1, hs_t_111_1, hs_f_111_2, hs_f_111_3, hs_f_111_4, hs_i_112, hs_o_113, hs_f_113_0, hs_f_113_1, hs_f_113_2, hs_r_113_3, hs_t_113_3, hs_r_113_4, hs_t_113_4, hs_r_113_5, hs_t_113_5, hs_r_113_6, hs_t_113_6, hs_r_113_7, hs_t_113_7, hs_r_113_8, hs_t_113_8, hs_r_113_9, hs_t_113_9, hs_r_113_10, hs_t_113_10, hs_r_113_11, hs_t_113_11, hs_f_113_12, hs_f_113_13, hs_f_113_14, hs_r_113_15, hs_t_113_15, hs_f_113_16, hs_r_113_17, hs_t_113_17, hs_r_113_18, hs_t_113_18, hs_r_113_19, hs_t_113_19, hs_r_113_20, hs_t_113_20, hs_f_113_21, hs_f_113_22, hs_f_113_23, hs_r_113_24, hs_t_113_24, hs_f_113_25, hs_r_113_26, hs_t_113_26, hs_f_113_27, hs_i_114, hs_i_115, hs_i_116, hs_i_117, hs_i_118, hs_i_119, hs_i_120, hs_i_121, hs_i_122, hs_i_123, hs_i_124, hs_i_125, hs_i_126, hs_i_127, hs_i_128, hs_i_129, hd_lit8, nI_ltI (show i < 2 ^ 31 by omega) (show 8 < 2 ^ 31 by omega), hi, decide_true, vp_in_nI (show i < 8 by omega) (show 8 < 2 ^ 31 by decide), hd_cc (show i < 2147483648 by omega), nI_1]
      refine hK _ _ ⟨by omega, hd_eqx_w he (by decide), fun t ht => ?_, rfl⟩
      rw [hd_wI1]
      by_cases hti : t = i
      · rw [if_pos ⟨rfl, hti⟩, if_neg (by omega)]
        rfl
      · rw [if_neg (fun r => hti r.2), hw t ht]
        have : (t < hp_T (q m) ∨ i ≤ t) = (t < hp_T (q m) ∨ i + 1 ≤ t) := propext (by omega)
        simp only [this]
    · rintro ρ S2 K ⟨hTi, he, hw, rfl⟩
      have n113 : S2.1 113 = (hd_wI S9 113 14 (nI (hand &&& (2 ^ hp_H (q m) - 1)))).1 113 := he.1 113 (by decide)
      have nc : ∀ c, c ≠ 113 → c ≠ 123 → S2.1 c = S9.1 c := fun c h1 h2 => by rw [he.1 c (by simp [h2]), zc c h1]
      have u13 : S2.1 113 13 = nI m := by rw [n113, zf 13 (by decide)]; exact w13
      simp only [wc_X9_undo_188, hd_mth, hd_rho0, hd_args, hd_wide, hq_sQ, hd_s0, hq_sI, hq_sJ, hd_sR, hd_sP, hd_sF, hd_sZ, hd_sG, hd_sA, hd_sL, hd_sB, hd_sO, hd_sN, hd_sD, hd_sW, hd_sE, hd_sRI, hd_sRZ, hd_sRJ, hd_sRR, hd_sRV, hd_sSw, hd_sw, hd_sCI, hd_sCL, hd_iK, hd_iL, hd_iU, hd_iB, hd_iD, hd_iJ, hd_iG, hd_iA, hd_iQ, hd_iC, hd_iN, hd_iE, hd_jK, hd_jL, hd_jU, hd_jB, hd_jD, hd_jH, hd_jI, hd_jA, hd_jQ, hd_jN, hd_rL, hd_rG, hd_rA, hd_rN, hd_cI, hd_c0, hd_cJ, hd_cX, hd_cA, hd_cO, hd_v0, hd_pI, hd_pJ, hd_pR, hd_nV, hd_nS, hd_get, hd_st, hd_stW, hd_cut, List.replicate, List.length_cons, List.length_nil, List.nil_append, List.cons_append, Nat.reduceAdd, Nat.reduceSub, Nat.reduceLeDiff, true_and, and_true, if_true, if_false, Bool.false_eq_true, List.append_nil, hs_o_0, hs_r_0_0, hs_t_0_0, hs_r_0_1, hs_t_0_1, hs_r_0_2, hs_t_0_2, hs_r_0_3, hs_t_0_3, hs_r_0_4, hs_t_0_4, hs_r_0_5, hs_t_0_5, hs_r_0_6, hs_t_0_6, hs_r_0_7, hs_t_0_7, hs_f_0_8, hs_o_1, hs_f_1_0, hs_f_1_1, hs_r_1_2, hs_t_1_2, hs_r_1_3, hs_t_1_3, hs_r_1_4, hs_t_1_4, hs_r_1_5, hs_t_1_5, hs_r_1_6, hs_t_1_6, hs_r_1_7, hs_t_1_7, hs_r_1_8, hs_t_1_8, hs_r_1_9, hs_t_1_9, hs_i_2, hs_i_3, hs_i_4, hs_i_5, hs_i_6, hs_i_7, hs_i_8, hs_i_9, hs_o_82, hs_r_82_0, hs_t_82_0, hs_f_82_1, hs_i_83, hs_o_84, hs_r_84_0, hs_t_84_0, hs_r_84_1, hs_t_84_1, hs_r_84_2, hs_t_84_2, hs_r_84_3, hs_t_84_3, hs_f_84_4, hs_i_85, hs_i_86, hs_i_87, hs_o_88, hs_r_88_0, hs_t_88_0, hs_r_88_1, hs_t_88_1, hs_r_88_2, hs_t_88_2, hs_r_88_3, hs_t_88_3, hs_r_88_4, hs_t_88_4, hs_r_88_5, hs_t_88_5, hs_r_88_6, hs_t_88_6, hs_r_88_7, hs_t_88_7, hs_f_88_8, hs_f_88_9, hs_i_89, hs_i_90, hs_i_91, hs_i_92, hs_i_93, hs_i_94, hs_i_95, hs_i_96, hs_i_97, hs_i_98, hs_i_99, hs_i_100, hs_i_101, hs_i_102, hs_o_103, hs_r_103_0, hs_t_103_0, hs_r_103_1, hs_t_103_1, hs_r_103_2, hs_t_103_2, hs_r_103_3, hs_t_103_3, hs_f_103_4, hs_i_104, hs_o_105, hs_r_105_0, hs_t_105_0, hs_r_105_1, hs_t_105_1, hs_r_105_2, hs_t_105_2, hs_i_106, hs_i_107, hs_o_108, hs_r_108_0, hs_t_108_0, hs_r_108_1, hs_t_108_1, hs_r_108_2, hs_t_108_2, hs_r_108_3, hs_t_108_3, hs_f_108_4, hs_i_109, hs_i_110, hs_o_111, hs_r_111_0, hs_t_111_0, hs_r_111_1, hs_t_111_1, hs_f_111_2, hs_f_111_3, hs_f_111_4, hs_i_112, hs_o_113, hs_f_113_0, hs_f_113_1, hs_f_113_2, hs_r_113_3, hs_t_113_3, hs_r_113_4, hs_t_113_4, hs_r_113_5, hs_t_113_5, hs_r_113_6, hs_t_113_6, hs_r_113_7, hs_t_113_7, hs_r_113_8, hs_t_113_8, hs_r_113_9, hs_t_113_9, hs_r_113_10, hs_t_113_10, hs_r_113_11, hs_t_113_11, hs_f_113_12, hs_f_113_13, hs_f_113_14, hs_r_113_15, hs_t_113_15, hs_f_113_16, hs_r_113_17, hs_t_113_17, hs_r_113_18, hs_t_113_18, hs_r_113_19, hs_t_113_19, hs_r_113_20, hs_t_113_20, hs_f_113_21, hs_f_113_22, hs_f_113_23, hs_r_113_24, hs_t_113_24, hs_f_113_25, hs_r_113_26, hs_t_113_26, hs_f_113_27, hs_i_114, hs_i_115, hs_i_116, hs_i_117, hs_i_118, hs_i_119, hs_i_120, hs_i_121, hs_i_122, hs_i_123, hs_i_124, hs_i_125, hs_i_126, hs_i_127, hs_i_128, hs_i_129, hd_lit8, Int32.lt_irrefl, decide_false, u13]
      refine hk1 m rfl S2 ⟨⟨hokm, fun i hi => a2 i (by omega), Nat.lt_of_le_of_lt Nat.and_le_right (by omega), fun t => ?_, fun t ht => (by dsimp only; rw [if_neg (by omega)])⟩, hm_P_fr (by rw [n113, zf 1 (by decide)]) (by rw [n113, zf 2 (by decide)]) (fun c h1 h2 => nc c (by omega) (by omega)) hm9, ⟨by omega, u13, e2, he28, by rw [n113, zf 12 (by decide)]; exact w12, fun i hi => ?_⟩, by rw [n113]; exact z14, fun t ht => ?_, fun h hh => ?_⟩ ⟨fun c hc => ?_, ?_⟩
      · dsimp only
        split
        · exact a4 t
        · exact Nat.zero_le _
      · have h9 := hbl i (by omega)
        rw [show (e + 8 - (m + 1) + i) % 8 = (e2 + 8 - m + i) % 8 by omega] at h9
        exact hm_B_eq (a2 i (by omega)).2.1 (fun j _ _ => by rw [nc 122 (by decide) (by decide), ceq 122 (by decide)]) h9
      · rw [hw t ht]
        have : (t < hp_T (q m) ∨ 8 ≤ t) = (t < hp_T (q m)) := propext (by omega)
        simp only [this]
      · rw [nc 127 (by decide) (by decide), ceq 127 (by decide)]
        exact b5 h hh
      · rw [nc c (by omega) (by omega), ceq c (Or.inl hc)]
      · rw [he.2, hd_wI2, seq]
    · rw [zc 123 (by decide), ceq 123 (by decide), b4 t ht, if_pos (by omega)]
