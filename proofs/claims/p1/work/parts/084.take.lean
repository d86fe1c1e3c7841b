/-! the plans: nine alike -/
theorem hs_pl_o {j : Nat} (hj : j < 9) : hd_isO hs_sh 5 (1 + 9 * j) := by
  have c9 : j = 0 ∨ j = 1 ∨ j = 2 ∨ j = 3 ∨ j = 4 ∨ j = 5 ∨ j = 6 ∨ j = 7 ∨ j = 8 := by omega
  rcases c9 with rfl | rfl | rfl | rfl | rfl | rfl | rfl | rfl | rfl
  · exact hs_o_1
  · exact hs_o_10
  · exact hs_o_19
  · exact hs_o_28
  · exact hs_o_37
  · exact hs_o_46
  · exact hs_o_55
  · exact hs_o_64
  · exact hs_o_73

theorem hs_pl_f0 {j : Nat} (hj : j < 9) : hd_fI hs_sh 5 0 (1 + 9 * j) := by
  have c9 : j = 0 ∨ j = 1 ∨ j = 2 ∨ j = 3 ∨ j = 4 ∨ j = 5 ∨ j = 6 ∨ j = 7 ∨ j = 8 := by omega
  rcases c9 with rfl | rfl | rfl | rfl | rfl | rfl | rfl | rfl | rfl
  · exact hs_f_1_0
  · exact hs_f_10_0
  · exact hs_f_19_0
  · exact hs_f_28_0
  · exact hs_f_37_0
  · exact hs_f_46_0
  · exact hs_f_55_0
  · exact hs_f_64_0
  · exact hs_f_73_0

theorem hs_pl_f1 {j : Nat} (hj : j < 9) : hd_fI hs_sh 5 1 (1 + 9 * j) := by
  have c9 : j = 0 ∨ j = 1 ∨ j = 2 ∨ j = 3 ∨ j = 4 ∨ j = 5 ∨ j = 6 ∨ j = 7 ∨ j = 8 := by omega
  rcases c9 with rfl | rfl | rfl | rfl | rfl | rfl | rfl | rfl | rfl
  · exact hs_f_1_1
  · exact hs_f_10_1
  · exact hs_f_19_1
  · exact hs_f_28_1
  · exact hs_f_37_1
  · exact hs_f_46_1
  · exact hs_f_55_1
  · exact hs_f_64_1
  · exact hs_f_73_1

theorem hs_pl_r2 {j : Nat} (hj : j < 9) : hd_fR hs_sh 5 2 (1 + 9 * j) (1 + 9 * j + 1) := by
  have c9 : j = 0 ∨ j = 1 ∨ j = 2 ∨ j = 3 ∨ j = 4 ∨ j = 5 ∨ j = 6 ∨ j = 7 ∨ j = 8 := by omega
  rcases c9 with rfl | rfl | rfl | rfl | rfl | rfl | rfl | rfl | rfl
  · exact hs_r_1_2
  · exact hs_r_10_2
  · exact hs_r_19_2
  · exact hs_r_28_2
  · exact hs_r_37_2
  · exact hs_r_46_2
  · exact hs_r_55_2
  · exact hs_r_64_2
  · exact hs_r_73_2

theorem hs_pl_t2 {j : Nat} (hj : j < 9) : hd_ft hs_sh 5 2 (1 + 9 * j) = 1 + 9 * j + 1 := hd_ft_eq (hs_pl_r2 hj)

theorem hs_pl_a2 {j : Nat} (hj : j < 9) : hs_sh[1 + 9 * j + 1]? = some (.inr (0, 8)) := by
  have c9 : j = 0 ∨ j = 1 ∨ j = 2 ∨ j = 3 ∨ j = 4 ∨ j = 5 ∨ j = 6 ∨ j = 7 ∨ j = 8 := by omega
  rcases c9 with rfl | rfl | rfl | rfl | rfl | rfl | rfl | rfl | rfl
  · exact hs_2
  · exact hs_11
  · exact hs_20
  · exact hs_29
  · exact hs_38
  · exact hs_47
  · exact hs_56
  · exact hs_65
  · exact hs_74

theorem hs_pl_r3 {j : Nat} (hj : j < 9) : hd_fR hs_sh 5 3 (1 + 9 * j) (1 + 9 * j + 2) := by
  have c9 : j = 0 ∨ j = 1 ∨ j = 2 ∨ j = 3 ∨ j = 4 ∨ j = 5 ∨ j = 6 ∨ j = 7 ∨ j = 8 := by omega
  rcases c9 with rfl | rfl | rfl | rfl | rfl | rfl | rfl | rfl | rfl
  · exact hs_r_1_3
  · exact hs_r_10_3
  · exact hs_r_19_3
  · exact hs_r_28_3
  · exact hs_r_37_3
  · exact hs_r_46_3
  · exact hs_r_55_3
  · exact hs_r_64_3
  · exact hs_r_73_3

theorem hs_pl_t3 {j : Nat} (hj : j < 9) : hd_ft hs_sh 5 3 (1 + 9 * j) = 1 + 9 * j + 2 := hd_ft_eq (hs_pl_r3 hj)

theorem hs_pl_a3 {j : Nat} (hj : j < 9) : hs_sh[1 + 9 * j + 2]? = some (.inr (0, 8)) := by
  have c9 : j = 0 ∨ j = 1 ∨ j = 2 ∨ j = 3 ∨ j = 4 ∨ j = 5 ∨ j = 6 ∨ j = 7 ∨ j = 8 := by omega
  rcases c9 with rfl | rfl | rfl | rfl | rfl | rfl | rfl | rfl | rfl
  · exact hs_3
  · exact hs_12
  · exact hs_21
  · exact hs_30
  · exact hs_39
  · exact hs_48
  · exact hs_57
  · exact hs_66
  · exact hs_75

theorem hs_pl_r4 {j : Nat} (hj : j < 9) : hd_fR hs_sh 5 4 (1 + 9 * j) (1 + 9 * j + 3) := by
  have c9 : j = 0 ∨ j = 1 ∨ j = 2 ∨ j = 3 ∨ j = 4 ∨ j = 5 ∨ j = 6 ∨ j = 7 ∨ j = 8 := by omega
  rcases c9 with rfl | rfl | rfl | rfl | rfl | rfl | rfl | rfl | rfl
  · exact hs_r_1_4
  · exact hs_r_10_4
  · exact hs_r_19_4
  · exact hs_r_28_4
  · exact hs_r_37_4
  · exact hs_r_46_4
  · exact hs_r_55_4
  · exact hs_r_64_4
  · exact hs_r_73_4

theorem hs_pl_t4 {j : Nat} (hj : j < 9) : hd_ft hs_sh 5 4 (1 + 9 * j) = 1 + 9 * j + 3 := hd_ft_eq (hs_pl_r4 hj)

theorem hs_pl_a4 {j : Nat} (hj : j < 9) : hs_sh[1 + 9 * j + 3]? = some (.inr (0, 8)) := by
  have c9 : j = 0 ∨ j = 1 ∨ j = 2 ∨ j = 3 ∨ j = 4 ∨ j = 5 ∨ j = 6 ∨ j = 7 ∨ j = 8 := by omega
  rcases c9 with rfl | rfl | rfl | rfl | rfl | rfl | rfl | rfl | rfl
  · exact hs_4
  · exact hs_13
  · exact hs_22
  · exact hs_31
  · exact hs_40
  · exact hs_49
  · exact hs_58
  · exact hs_67
  · exact hs_76

theorem hs_pl_r5 {j : Nat} (hj : j < 9) : hd_fR hs_sh 5 5 (1 + 9 * j) (1 + 9 * j + 4) := by
  have c9 : j = 0 ∨ j = 1 ∨ j = 2 ∨ j = 3 ∨ j = 4 ∨ j = 5 ∨ j = 6 ∨ j = 7 ∨ j = 8 := by omega
  rcases c9 with rfl | rfl | rfl | rfl | rfl | rfl | rfl | rfl | rfl
  · exact hs_r_1_5
  · exact hs_r_10_5
  · exact hs_r_19_5
  · exact hs_r_28_5
  · exact hs_r_37_5
  · exact hs_r_46_5
  · exact hs_r_55_5
  · exact hs_r_64_5
  · exact hs_r_73_5

theorem hs_pl_t5 {j : Nat} (hj : j < 9) : hd_ft hs_sh 5 5 (1 + 9 * j) = 1 + 9 * j + 4 := hd_ft_eq (hs_pl_r5 hj)

theorem hs_pl_a5 {j : Nat} (hj : j < 9) : hs_sh[1 + 9 * j + 4]? = some (.inr (0, 7)) := by
  have c9 : j = 0 ∨ j = 1 ∨ j = 2 ∨ j = 3 ∨ j = 4 ∨ j = 5 ∨ j = 6 ∨ j = 7 ∨ j = 8 := by omega
  rcases c9 with rfl | rfl | rfl | rfl | rfl | rfl | rfl | rfl | rfl
  · exact hs_5
  · exact hs_14
  · exact hs_23
  · exact hs_32
  · exact hs_41
  · exact hs_50
  · exact hs_59
  · exact hs_68
  · exact hs_77

theorem hs_pl_r6 {j : Nat} (hj : j < 9) : hd_fR hs_sh 5 6 (1 + 9 * j) (1 + 9 * j + 5) := by
  have c9 : j = 0 ∨ j = 1 ∨ j = 2 ∨ j = 3 ∨ j = 4 ∨ j = 5 ∨ j = 6 ∨ j = 7 ∨ j = 8 := by omega
  rcases c9 with rfl | rfl | rfl | rfl | rfl | rfl | rfl | rfl | rfl
  · exact hs_r_1_6
  · exact hs_r_10_6
  · exact hs_r_19_6
  · exact hs_r_28_6
  · exact hs_r_37_6
  · exact hs_r_46_6
  · exact hs_r_55_6
  · exact hs_r_64_6
  · exact hs_r_73_6

theorem hs_pl_t6 {j : Nat} (hj : j < 9) : hd_ft hs_sh 5 6 (1 + 9 * j) = 1 + 9 * j + 5 := hd_ft_eq (hs_pl_r6 hj)

theorem hs_pl_a6 {j : Nat} (hj : j < 9) : hs_sh[1 + 9 * j + 5]? = some (.inr (0, 7)) := by
  have c9 : j = 0 ∨ j = 1 ∨ j = 2 ∨ j = 3 ∨ j = 4 ∨ j = 5 ∨ j = 6 ∨ j = 7 ∨ j = 8 := by omega
  rcases c9 with rfl | rfl | rfl | rfl | rfl | rfl | rfl | rfl | rfl
  · exact hs_6
  · exact hs_15
  · exact hs_24
  · exact hs_33
  · exact hs_42
  · exact hs_51
  · exact hs_60
  · exact hs_69
  · exact hs_78

theorem hs_pl_r7 {j : Nat} (hj : j < 9) : hd_fR hs_sh 5 7 (1 + 9 * j) (1 + 9 * j + 6) := by
  have c9 : j = 0 ∨ j = 1 ∨ j = 2 ∨ j = 3 ∨ j = 4 ∨ j = 5 ∨ j = 6 ∨ j = 7 ∨ j = 8 := by omega
  rcases c9 with rfl | rfl | rfl | rfl | rfl | rfl | rfl | rfl | rfl
  · exact hs_r_1_7
  · exact hs_r_10_7
  · exact hs_r_19_7
  · exact hs_r_28_7
  · exact hs_r_37_7
  · exact hs_r_46_7
  · exact hs_r_55_7
  · exact hs_r_64_7
  · exact hs_r_73_7

theorem hs_pl_t7 {j : Nat} (hj : j < 9) : hd_ft hs_sh 5 7 (1 + 9 * j) = 1 + 9 * j + 6 := hd_ft_eq (hs_pl_r7 hj)

theorem hs_pl_a7 {j : Nat} (hj : j < 9) : hs_sh[1 + 9 * j + 6]? = some (.inr (0, 7)) := by
  have c9 : j = 0 ∨ j = 1 ∨ j = 2 ∨ j = 3 ∨ j = 4 ∨ j = 5 ∨ j = 6 ∨ j = 7 ∨ j = 8 := by omega
  rcases c9 with rfl | rfl | rfl | rfl | rfl | rfl | rfl | rfl | rfl
  · exact hs_7
  · exact hs_16
  · exact hs_25
  · exact hs_34
  · exact hs_43
  · exact hs_52
  · exact hs_61
  · exact hs_70
  · exact hs_79

theorem hs_pl_r8 {j : Nat} (hj : j < 9) : hd_fR hs_sh 5 8 (1 + 9 * j) (1 + 9 * j + 7) := by
  have c9 : j = 0 ∨ j = 1 ∨ j = 2 ∨ j = 3 ∨ j = 4 ∨ j = 5 ∨ j = 6 ∨ j = 7 ∨ j = 8 := by omega
  rcases c9 with rfl | rfl | rfl | rfl | rfl | rfl | rfl | rfl | rfl
  · exact hs_r_1_8
  · exact hs_r_10_8
  · exact hs_r_19_8
  · exact hs_r_28_8
  · exact hs_r_37_8
  · exact hs_r_46_8
  · exact hs_r_55_8
  · exact hs_r_64_8
  · exact hs_r_73_8

theorem hs_pl_t8 {j : Nat} (hj : j < 9) : hd_ft hs_sh 5 8 (1 + 9 * j) = 1 + 9 * j + 7 := hd_ft_eq (hs_pl_r8 hj)

theorem hs_pl_a8 {j : Nat} (hj : j < 9) : hs_sh[1 + 9 * j + 7]? = some (.inr (0, 7)) := by
  have c9 : j = 0 ∨ j = 1 ∨ j = 2 ∨ j = 3 ∨ j = 4 ∨ j = 5 ∨ j = 6 ∨ j = 7 ∨ j = 8 := by omega
  rcases c9 with rfl | rfl | rfl | rfl | rfl | rfl | rfl | rfl | rfl
  · exact hs_8
  · exact hs_17
  · exact hs_26
  · exact hs_35
  · exact hs_44
  · exact hs_53
  · exact hs_62
  · exact hs_71
  · exact hs_80

theorem hs_pl_r9 {j : Nat} (hj : j < 9) : hd_fR hs_sh 5 9 (1 + 9 * j) (1 + 9 * j + 8) := by
  have c9 : j = 0 ∨ j = 1 ∨ j = 2 ∨ j = 3 ∨ j = 4 ∨ j = 5 ∨ j = 6 ∨ j = 7 ∨ j = 8 := by omega
  rcases c9 with rfl | rfl | rfl | rfl | rfl | rfl | rfl | rfl | rfl
  · exact hs_r_1_9
  · exact hs_r_10_9
  · exact hs_r_19_9
  · exact hs_r_28_9
  · exact hs_r_37_9
  · exact hs_r_46_9
  · exact hs_r_55_9
  · exact hs_r_64_9
  · exact hs_r_73_9

theorem hs_pl_t9 {j : Nat} (hj : j < 9) : hd_ft hs_sh 5 9 (1 + 9 * j) = 1 + 9 * j + 8 := hd_ft_eq (hs_pl_r9 hj)

theorem hs_pl_a9 {j : Nat} (hj : j < 9) : hs_sh[1 + 9 * j + 8]? = some (.inr (0, 56)) := by
  have c9 : j = 0 ∨ j = 1 ∨ j = 2 ∨ j = 3 ∨ j = 4 ∨ j = 5 ∨ j = 6 ∨ j = 7 ∨ j = 8 := by omega
  rcases c9 with rfl | rfl | rfl | rfl | rfl | rfl | rfl | rfl | rfl
  · exact hs_9
  · exact hs_18
  · exact hs_27
  · exact hs_36
  · exact hs_45
  · exact hs_54
  · exact hs_63
  · exact hs_72
  · exact hs_81

theorem sx_cp {k n : Nat} {nn : Int32} {a b ca cb : Nat} (ra : hd_fR hs_sh 5 k a ca) (rb : hd_fR hs_sh 5 k b cb) (ha : hs_sh[ca]? = some (.inr (0, n))) (hb : hs_sh[cb]? = some (.inr (0, n))) (hn : nn = nI n) (hn2 : n < 2 ^ 31) {S : hd_S} {nrm : List hd_V → hd_S → Prop} {ret : Option hd_V → hd_S → Prop}
    (hk : ∀ S2, hd_eqx [ca] S S2 → (∀ j, j < n → S2.1 ca j = S.1 cb j) → nrm [hd_vR a, hd_vR b] S2) : hd_sCI hs_sh (hd_rG hs_sh 5 k (hd_rL 1)) (hd_iK (0)) (hd_rG hs_sh 5 k (hd_rL 0)) (hd_iK (0)) (hd_iK nn) [hd_vR a, hd_vR b] S nrm ret := by
  have ta := hd_ft_eq ra
  have tb := hd_ft_eq rb
  subst hn
  simp only [hd_sCI, hd_rG, hd_rL, hd_get, hd_iK, ta, tb]
  have e0 : (0 : Int32).toNatClampNeg = 0 := by decide
  refine ⟨rb, ra, ⟨n, n, hb, ha, by decide, by decide, ?_, ?_, ?_⟩, ?_⟩
  · rw [Int32.lt_iff_toInt_lt, nI_toInt hn2]
    have : (0 : Int32).toInt = 0 := by decide
    omega
  · rw [hd_cc (by omega), e0]
    omega
  · rw [hd_cc (by omega), e0]
    omega
  · refine hk _ ⟨fun c hc => ?_, rfl⟩ (fun j hj => ?_)
    · funext j
      rw [hd_rI1, if_neg (fun q => hc (by simp [q]))]
    · rw [hd_rI1, if_pos rfl, hd_cc (show n < 2147483648 by omega), e0, pk_cpy_in (Nat.zero_le _) (by omega), show 0 + (j - 0) = j by omega]

theorem hd_eqx_n {c d : Nat} {S S2 : hd_S} (h : hd_eqx [c] S S2) (hd : d ≠ c) : S2.1 d = S.1 d := h.1 d (by simp [hd])
set_option maxHeartbeats 4000000 in
theorem sx_takeFrom {S : hd_S} {p : hp_P} {ja jb : Nat} (ha : ja < 9) (hb : jb < 9) (hab : ja ≠ jb) (hpH : hp_H p ≤ 7) (hx : hx_P (1 + 9 * jb) S p) (post : Option hd_V → hd_S → Prop)
    (hk : ∀ S2, hd_eqx [1 + 9 * ja, 1 + 9 * ja + 1, 1 + 9 * ja + 2, 1 + 9 * ja + 3, 1 + 9 * ja + 4, 1 + 9 * ja + 5, 1 + 9 * ja + 6, 1 + 9 * ja + 7, 1 + 9 * ja + 8] S S2 → hx_P (1 + 9 * ja) S2 p → post none S2) : wm_X5_takeFrom [hd_vR (1 + 9 * ja), hd_vR (1 + 9 * jb)] S post := by
  have dis : ∀ i i', i ≤ 8 → i' ≤ 8 → 1 + 9 * jb + i ≠ 1 + 9 * ja + i' := fun i i' h1 h2 q => by omega
  have dis0 : ∀ i, i ≤ 8 → 1 + 9 * jb + i ≠ 1 + 9 * ja := fun i h1 q => by omega
  have dis1 : ∀ i, i ≤ 8 → 1 + 9 * jb ≠ 1 + 9 * ja + i := fun i h1 q => by omega
  simp only [wm_X5_takeFrom, hd_mth, hd_rho0, hd_args, hd_wide, List.replicate, List.length_cons, List.length_nil, List.nil_append, List.cons_append, Nat.reduceAdd, Nat.reduceSub, Nat.reduceLeDiff, true_and, List.append_nil, if_false, Bool.false_eq_true]
  unfold wo_X5_takeFrom
  rw [hq_sQ]
  simp only [hd_sF, hd_rL, hd_get, hd_iG, hs_pl_f0 ha, hs_pl_f0 hb, hs_pl_f1 ha, hs_pl_f1 hb, true_and]
  rw [hq_sQ]
  simp only [hd_sF, hd_rL, hd_get, hd_iG, hs_pl_f0 ha, hs_pl_f0 hb, hs_pl_f1 ha, hs_pl_f1 hb, true_and]
  have w0 : ∀ c, c ≠ 1 + 9 * ja → (hd_wI (hd_wI S (1 + 9 * ja) 0 (S.1 (1 + 9 * jb) 0)) (1 + 9 * ja) 1 ((hd_wI S (1 + 9 * ja) 0 (S.1 (1 + 9 * jb) 0)).1 (1 + 9 * jb) 1)).1 c = S.1 c := fun c hc => by
    funext j
    rw [hd_wI1, if_neg (fun q => hc q.1), hd_wI1, if_neg (fun q => hc q.1)]
  have v0 : (hd_wI (hd_wI S (1 + 9 * ja) 0 (S.1 (1 + 9 * jb) 0)) (1 + 9 * ja) 1 ((hd_wI S (1 + 9 * ja) 0 (S.1 (1 + 9 * jb) 0)).1 (1 + 9 * jb) 1)).1 (1 + 9 * ja) 0 = S.1 (1 + 9 * jb) 0 := by
    rw [hd_wI1, if_neg (fun q => absurd q.2 (by decide)), hd_wI1, if_pos ⟨rfl, rfl⟩]
  have v1 : (hd_wI (hd_wI S (1 + 9 * ja) 0 (S.1 (1 + 9 * jb) 0)) (1 + 9 * ja) 1 ((hd_wI S (1 + 9 * ja) 0 (S.1 (1 + 9 * jb) 0)).1 (1 + 9 * jb) 1)).1 (1 + 9 * ja) 1 = S.1 (1 + 9 * jb) 1 := by
    rw [hd_wI1, if_pos ⟨rfl, rfl⟩, hd_wI1, if_neg (fun q => by have := q.1; omega)]
  have z0 : (hd_wI (hd_wI S (1 + 9 * ja) 0 (S.1 (1 + 9 * jb) 0)) (1 + 9 * ja) 1 ((hd_wI S (1 + 9 * ja) 0 (S.1 (1 + 9 * jb) 0)).1 (1 + 9 * jb) 1)).2 = S.2 := rfl
  generalize hd_wI (hd_wI S (1 + 9 * ja) 0 (S.1 (1 + 9 * jb) 0)) (1 + 9 * ja) 1 ((hd_wI S (1 + 9 * ja) 0 (S.1 (1 + 9 * jb) 0)).1 (1 + 9 * jb) 1) = S1 at w0 v0 v1 z0
  rw [hq_sQ]
  refine sx_cp (hs_pl_r2 ha) (hs_pl_r2 hb) (hs_pl_a2 ha) (hs_pl_a2 hb) rfl (by decide) (fun S2 e2 c2 => ?_)
  rw [hq_sQ]
  refine sx_cp (hs_pl_r3 ha) (hs_pl_r3 hb) (hs_pl_a3 ha) (hs_pl_a3 hb) rfl (by decide) (fun S3 e3 c3 => ?_)
  rw [hq_sQ]
  refine sx_cp (hs_pl_r4 ha) (hs_pl_r4 hb) (hs_pl_a4 ha) (hs_pl_a4 hb) rfl (by decide) (fun S4 e4 c4 => ?_)
  rw [hq_sQ]
  refine sx_cp (hs_pl_r5 ha) (hs_pl_r5 hb) (hs_pl_a5 ha) (hs_pl_a5 hb) rfl (by decide) (fun S5 e5 c5 => ?_)
  rw [hq_sQ]
  refine sx_cp (hs_pl_r6 ha) (hs_pl_r6 hb) (hs_pl_a6 ha) (hs_pl_a6 hb) rfl (by decide) (fun S6 e6 c6 => ?_)
  rw [hq_sQ]
  refine sx_cp (hs_pl_r7 ha) (hs_pl_r7 hb) (hs_pl_a7 ha) (hs_pl_a7 hb) rfl (by decide) (fun S7 e7 c7 => ?_)
  rw [hq_sQ]
  refine sx_cp (hs_pl_r8 ha) (hs_pl_r8 hb) (hs_pl_a8 ha) (hs_pl_a8 hb) rfl (by decide) (fun S8 e8 c8 => ?_)
  rw [hq_sQ]
  refine sx_cp (hs_pl_r9 ha) (hs_pl_r9 hb) (hs_pl_a9 ha) (hs_pl_a9 hb) rfl (by decide) (fun S9 e9 c9 => ?_)
  simp only [hd_sRV]
  have fin : ∀ i, 1 ≤ i → i ≤ 8 → 1 + 9 * ja + i ≠ 1 + 9 * ja := fun i h _ q => by omega
  have r2 : ∀ j, j < 8 → S9.1 (1 + 9 * ja + 1) j = S.1 (1 + 9 * jb + 1) j := fun j hj => by
    rw [hd_eqx_n e9 (show 1 + 9 * ja + 1 ≠ 1 + 9 * ja + 8 by omega), hd_eqx_n e8 (show 1 + 9 * ja + 1 ≠ 1 + 9 * ja + 7 by omega), hd_eqx_n e7 (show 1 + 9 * ja + 1 ≠ 1 + 9 * ja + 6 by omega), hd_eqx_n e6 (show 1 + 9 * ja + 1 ≠ 1 + 9 * ja + 5 by omega), hd_eqx_n e5 (show 1 + 9 * ja + 1 ≠ 1 + 9 * ja + 4 by omega), hd_eqx_n e4 (show 1 + 9 * ja + 1 ≠ 1 + 9 * ja + 3 by omega), hd_eqx_n e3 (show 1 + 9 * ja + 1 ≠ 1 + 9 * ja + 2 by omega), c2 j hj, w0 _ (dis0 1 (by decide))]
  have r3 : ∀ j, j < 8 → S9.1 (1 + 9 * ja + 2) j = S.1 (1 + 9 * jb + 2) j := fun j hj => by
    rw [hd_eqx_n e9 (show 1 + 9 * ja + 2 ≠ 1 + 9 * ja + 8 by omega), hd_eqx_n e8 (show 1 + 9 * ja + 2 ≠ 1 + 9 * ja + 7 by omega), hd_eqx_n e7 (show 1 + 9 * ja + 2 ≠ 1 + 9 * ja + 6 by omega), hd_eqx_n e6 (show 1 + 9 * ja + 2 ≠ 1 + 9 * ja + 5 by omega), hd_eqx_n e5 (show 1 + 9 * ja + 2 ≠ 1 + 9 * ja + 4 by omega), hd_eqx_n e4 (show 1 + 9 * ja + 2 ≠ 1 + 9 * ja + 3 by omega), c3 j hj, hd_eqx_n e2 (dis 2 1 (by decide) (by decide)), w0 _ (dis0 2 (by decide))]
  have r4 : ∀ j, j < 8 → S9.1 (1 + 9 * ja + 3) j = S.1 (1 + 9 * jb + 3) j := fun j hj => by
    rw [hd_eqx_n e9 (show 1 + 9 * ja + 3 ≠ 1 + 9 * ja + 8 by omega), hd_eqx_n e8 (show 1 + 9 * ja + 3 ≠ 1 + 9 * ja + 7 by omega), hd_eqx_n e7 (show 1 + 9 * ja + 3 ≠ 1 + 9 * ja + 6 by omega), hd_eqx_n e6 (show 1 + 9 * ja + 3 ≠ 1 + 9 * ja + 5 by omega), hd_eqx_n e5 (show 1 + 9 * ja + 3 ≠ 1 + 9 * ja + 4 by omega), c4 j hj, hd_eqx_n e3 (dis 3 2 (by decide) (by decide)), hd_eqx_n e2 (dis 3 1 (by decide) (by decide)), w0 _ (dis0 3 (by decide))]
  have r5 : ∀ j, j < 7 → S9.1 (1 + 9 * ja + 4) j = S.1 (1 + 9 * jb + 4) j := fun j hj => by
    rw [hd_eqx_n e9 (show 1 + 9 * ja + 4 ≠ 1 + 9 * ja + 8 by omega), hd_eqx_n e8 (show 1 + 9 * ja + 4 ≠ 1 + 9 * ja + 7 by omega), hd_eqx_n e7 (show 1 + 9 * ja + 4 ≠ 1 + 9 * ja + 6 by omega), hd_eqx_n e6 (show 1 + 9 * ja + 4 ≠ 1 + 9 * ja + 5 by omega), c5 j hj, hd_eqx_n e4 (dis 4 3 (by decide) (by decide)), hd_eqx_n e3 (dis 4 2 (by decide) (by decide)), hd_eqx_n e2 (dis 4 1 (by decide) (by decide)), w0 _ (dis0 4 (by decide))]
  have r6 : ∀ j, j < 7 → S9.1 (1 + 9 * ja + 5) j = S.1 (1 + 9 * jb + 5) j := fun j hj => by
    rw [hd_eqx_n e9 (show 1 + 9 * ja + 5 ≠ 1 + 9 * ja + 8 by omega), hd_eqx_n e8 (show 1 + 9 * ja + 5 ≠ 1 + 9 * ja + 7 by omega), hd_eqx_n e7 (show 1 + 9 * ja + 5 ≠ 1 + 9 * ja + 6 by omega), c6 j hj, hd_eqx_n e5 (dis 5 4 (by decide) (by decide)), hd_eqx_n e4 (dis 5 3 (by decide) (by decide)), hd_eqx_n e3 (dis 5 2 (by decide) (by decide)), hd_eqx_n e2 (dis 5 1 (by decide) (by decide)), w0 _ (dis0 5 (by decide))]
  have r7 : ∀ j, j < 7 → S9.1 (1 + 9 * ja + 6) j = S.1 (1 + 9 * jb + 6) j := fun j hj => by
    rw [hd_eqx_n e9 (show 1 + 9 * ja + 6 ≠ 1 + 9 * ja + 8 by omega), hd_eqx_n e8 (show 1 + 9 * ja + 6 ≠ 1 + 9 * ja + 7 by omega), c7 j hj, hd_eqx_n e6 (dis 6 5 (by decide) (by decide)), hd_eqx_n e5 (dis 6 4 (by decide) (by decide)), hd_eqx_n e4 (dis 6 3 (by decide) (by decide)), hd_eqx_n e3 (dis 6 2 (by decide) (by decide)), hd_eqx_n e2 (dis 6 1 (by decide) (by decide)), w0 _ (dis0 6 (by decide))]
  have r8 : ∀ j, j < 7 → S9.1 (1 + 9 * ja + 7) j = S.1 (1 + 9 * jb + 7) j := fun j hj => by
    rw [hd_eqx_n e9 (show 1 + 9 * ja + 7 ≠ 1 + 9 * ja + 8 by omega), c8 j hj, hd_eqx_n e7 (dis 7 6 (by decide) (by decide)), hd_eqx_n e6 (dis 7 5 (by decide) (by decide)), hd_eqx_n e5 (dis 7 4 (by decide) (by decide)), hd_eqx_n e4 (dis 7 3 (by decide) (by decide)), hd_eqx_n e3 (dis 7 2 (by decide) (by decide)), hd_eqx_n e2 (dis 7 1 (by decide) (by decide)), w0 _ (dis0 7 (by decide))]
  have r9 : ∀ j, j < 56 → S9.1 (1 + 9 * ja + 8) j = S.1 (1 + 9 * jb + 8) j := fun j hj => by
    rw [c9 j hj, hd_eqx_n e8 (dis 8 7 (by decide) (by decide)), hd_eqx_n e7 (dis 8 6 (by decide) (by decide)), hd_eqx_n e6 (dis 8 5 (by decide) (by decide)), hd_eqx_n e5 (dis 8 4 (by decide) (by decide)), hd_eqx_n e4 (dis 8 3 (by decide) (by decide)), hd_eqx_n e3 (dis 8 2 (by decide) (by decide)), hd_eqx_n e2 (dis 8 1 (by decide) (by decide)), w0 _ (dis0 8 (by decide))]
  have q0 : S9.1 (1 + 9 * ja) 0 = S.1 (1 + 9 * jb) 0 := by
    rw [hd_eqx_n e9 (show 1 + 9 * ja ≠ 1 + 9 * ja + 8 by omega), hd_eqx_n e8 (show 1 + 9 * ja ≠ 1 + 9 * ja + 7 by omega), hd_eqx_n e7 (show 1 + 9 * ja ≠ 1 + 9 * ja + 6 by omega), hd_eqx_n e6 (show 1 + 9 * ja ≠ 1 + 9 * ja + 5 by omega), hd_eqx_n e5 (show 1 + 9 * ja ≠ 1 + 9 * ja + 4 by omega), hd_eqx_n e4 (show 1 + 9 * ja ≠ 1 + 9 * ja + 3 by omega), hd_eqx_n e3 (show 1 + 9 * ja ≠ 1 + 9 * ja + 2 by omega), hd_eqx_n e2 (show 1 + 9 * ja ≠ 1 + 9 * ja + 1 by omega), v0]
  have q1 : S9.1 (1 + 9 * ja) 1 = S.1 (1 + 9 * jb) 1 := by
    rw [hd_eqx_n e9 (show 1 + 9 * ja ≠ 1 + 9 * ja + 8 by omega), hd_eqx_n e8 (show 1 + 9 * ja ≠ 1 + 9 * ja + 7 by omega), hd_eqx_n e7 (show 1 + 9 * ja ≠ 1 + 9 * ja + 6 by omega), hd_eqx_n e6 (show 1 + 9 * ja ≠ 1 + 9 * ja + 5 by omega), hd_eqx_n e5 (show 1 + 9 * ja ≠ 1 + 9 * ja + 4 by omega), hd_eqx_n e4 (show 1 + 9 * ja ≠ 1 + 9 * ja + 3 by omega), hd_eqx_n e3 (show 1 + 9 * ja ≠ 1 + 9 * ja + 2 by omega), hd_eqx_n e2 (show 1 + 9 * ja ≠ 1 + 9 * ja + 1 by omega), v1]
  refine hk S9 ⟨fun c hc => ?_, ?_⟩ ?_
  · simp only [List.mem_cons, List.not_mem_nil, or_false, not_or] at hc
    rw [hd_eqx_n e9 (show c ≠ 1 + 9 * ja + 8 by omega), hd_eqx_n e8 (show c ≠ 1 + 9 * ja + 7 by omega), hd_eqx_n e7 (show c ≠ 1 + 9 * ja + 6 by omega), hd_eqx_n e6 (show c ≠ 1 + 9 * ja + 5 by omega), hd_eqx_n e5 (show c ≠ 1 + 9 * ja + 4 by omega), hd_eqx_n e4 (show c ≠ 1 + 9 * ja + 3 by omega), hd_eqx_n e3 (show c ≠ 1 + 9 * ja + 2 by omega), hd_eqx_n e2 (show c ≠ 1 + 9 * ja + 1 by omega), w0 c (by omega)]
  · rw [e9.2, e8.2, e7.2, e6.2, e5.2, e4.2, e3.2, e2.2, z0]
  · obtain ⟨h1, h2, h3, h4, h5, h6, h7, h8, h9, h10⟩ := hx
    refine ⟨q0.trans h1, q1.trans h2, fun t ht => (r2 t ht).trans (h3 t ht), fun t ht => (r3 t ht).trans (h4 t ht), fun t ht => (r4 t ht).trans (h5 t ht), fun t ht => (r5 t ht).trans (h6 t ht), fun t ht => (r6 t ht).trans (h7 t ht), fun t ht => (r7 t ht).trans (h8 t ht), fun t ht => (r8 t ht).trans (h9 t ht), fun h hh t ht => ?_⟩
    exact (r9 (h * 8 + t) (by have := hpH; omega)).trans (h10 h hh t ht)
