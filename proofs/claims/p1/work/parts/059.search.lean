/-! the reference's search -/
theorem hp_ow_inj {a b : Option Nat} (ha : ∀ v, a = some v → v < 2000000000) (hb : ∀ v, b = some v → v < 2000000000) : (hp_ow a = hp_ow b) ↔ a = b := by
  cases a with
  | none =>
    cases b with
    | none => simp
    | some y =>
      have := hb y rfl
      simp only [hp_ow, reduceCtorEq, iff_false]
      intro q
      have := (nI_eq (a := 2000000000) (b := y) (by decide) (by omega)).mp q
      omega
  | some x =>
    have hx := ha x rfl
    cases b with
    | none =>
      simp only [hp_ow, reduceCtorEq, iff_false]
      intro q
      have := (nI_eq (a := x) (b := 2000000000) (by omega) (by decide)).mp q
      omega
    | some y =>
      have := hb y rfl
      simp only [hp_ow, Option.some.injEq]
      exact nI_eq (by omega) (by omega)
theorem hp_ow_none {a : Option Nat} (ha : ∀ v, a = some v → v < 2000000000) : (hp_ow a = 2000000000) ↔ a = none := hp_ow_inj (b := none) ha (fun v h => by cases h)
theorem hp_ow_ls {a b : Option Nat} (ha : ∀ v, a = some v → v < 2000000000) (hb : ∀ v, b = some v → v < 2000000000) : (hp_ow a < hp_ow b) ↔ hp_ls a b = true := by
  cases a with
  | none =>
    cases b with
    | none => simp [hp_ow, hp_ls]
    | some y =>
      have hy := hb y rfl
      simp only [hp_ow, hp_ls, Bool.false_eq_true, iff_false]
      intro q
      have := (nI_ltI (a := 2000000000) (b := y) (by decide) (by omega)).mp q
      omega
  | some x =>
    have hx := ha x rfl
    cases b with
    | none =>
      simp only [hp_ow, hp_ls, iff_true]
      exact (nI_ltI (a := x) (b := 2000000000) (by omega) (by decide)).mpr hx
    | some y =>
      have hy := hb y rfl
      simp only [hp_ow, hp_ls, decide_eq_true_eq]
      exact nI_ltI (by omega) (by omega)
theorem hp_ow_lt {a : Option Nat} (ha : ∀ v, a = some v → v < 2000000000) : (hp_ow a < 2000000000) ↔ ¬ a = none := by
  have h := hp_ow_ls (b := none) ha (fun v h => by cases h)
  cases a with
  | none => simpa [hp_ow, hp_ls] using h
  | some x => simpa [hp_ow, hp_ls] using h
theorem hp_step_ls {c : Nat → Option Nat} {n : Nat} (h : hp_ls (c n) (hp_lo c n) = true) : hp_lo c (n + 1) = c n ∧ fb_ct (hp_ib c (c n)) n = 0 ∧ hp_ib c (c n) n = true := by
  have hne : c n ≠ none := by
    intro q
    rw [q] at h
    simp [hp_ls] at h
  refine ⟨by simp only [hp_lo, h, if_true], ?_, by simp [hp_ib, hne]⟩
  rw [fb_ct_zero]
  intro s hs
  cases hq : hp_ib c (c n) s with
  | false => rfl
  | true =>
    exfalso
    have h3 : c n ≠ none ∧ c s = c n := by simpa [hp_ib] using hq
    cases hv : c n with
    | none => exact hne hv
    | some v =>
      rw [hv] at h3
      obtain ⟨b, hb, hbv⟩ := hp_lo_le hs h3.2
      rw [hv, hb] at h
      simp only [hp_ls, decide_eq_true_eq] at h
      omega
theorem hm_P_fr {S S2 : hd_S} {p : hp_P} (h1 : S2.1 113 1 = S.1 113 1) (h2 : S2.1 113 2 = S.1 113 2) (h : ∀ c, 114 ≤ c → c < 122 → S2.1 c = S.1 c) (hm : hm_P S p) : hm_P S2 p := by
  unfold hm_P at hm ⊢
  rw [h1, h2, h 114 (by omega) (by omega), h 115 (by omega) (by omega), h 116 (by omega) (by omega), h 117 (by omega) (by omega), h 118 (by omega) (by omega), h 119 (by omega) (by omega), h 120 (by omega) (by omega), h 121 (by omega) (by omega)]
  exact hm
theorem hp_at_zero {c : Nat → Option Nat} {o : Option Nat} (i : Int32) : ∀ {n : Nat}, fb_ct (hp_ib c o) n = 0 → hp_at c o i n = none := fun h => hp_at_none (fun s hs q => by
  have := fb_ct_zero.mp h s hs
  rw [this] at q
  cases q.1)
theorem hq_sQ (a b : hd_xS) (ρ : List hd_V) (S : hd_S) (nrm : List hd_V → hd_S → Prop) (ret : Option hd_V → hd_S → Prop) : hd_sQ a b ρ S nrm ret = a ρ S (fun ρ S => b ρ S nrm ret) ret := by simp only [hd_sQ]
theorem hq_sW (c : hd_xC) (a : hd_xS) (ρ : List hd_V) (S : hd_S) (nrm : List hd_V → hd_S → Prop) (ret : Option hd_V → hd_S → Prop) : hd_sW c a ρ S nrm ret = c ρ S (fun t S => if t then a ρ S nrm ret else nrm ρ S) := by simp only [hd_sW]
/-- whether a set is of the size asked for -/
theorem sp_cnt {n : Nat} (hn : n < 2 ^ 31) {a b d e : hd_V} {kk : Int32} {S : hd_S} {post : Bool → hd_S → Prop} (h1 : (kk = -1 ∨ nI (hb_pc n 8) = kk) → post true S) (h2 : ¬ (kk = -1 ∨ nI (hb_pc n 8) = kk) → post false S) :
    (hd_cO (hd_cI (fun x y => decide (x = y)) (hd_iL 2) (hd_iK (-1))) (hd_cI (fun x y => decide (x = y)) (hd_iN (hd_nS 1 (hd_pI hd_v0 (hd_iL 4)) wm_X9_sizeOf)) (hd_iL 2))) [a, b, hd_vI kk, d, hd_vI (nI n), e] S post := by
  simp only [hd_mth, hd_rho0, hd_args, hd_wide, hd_sQ, hd_s0, hd_sI, hd_sJ, hd_sR, hd_sP, hd_sF, hd_sZ, hd_sG, hd_sA, hd_sL, hd_sB, hd_sO, hd_sN, hd_sD, hd_sW, hd_sE, hd_sRI, hd_sRZ, hd_sRJ, hd_sRR, hd_sRV, hd_sSw, hd_sw, hd_sCI, hd_sCL, hd_iK, hd_iL, hd_iU, hd_iB, hd_iD, hd_iJ, hd_iG, hd_iA, hd_iQ, hd_iC, hd_iN, hd_iE, hd_jK, hd_jL, hd_jU, hd_jB, hd_jD, hd_jH, hd_jI, hd_jA, hd_jQ, hd_jN, hd_rL, hd_rG, hd_rA, hd_rN, hd_cI, hd_c0, hd_cJ, hd_cX, hd_cA, hd_cO, hd_v0, hd_pI, hd_pJ, hd_pR, hd_nV, hd_nS, hd_get, hd_st, hd_stW, hd_cut, List.replicate, List.length_cons, List.length_nil, List.nil_append, List.cons_append, Nat.reduceAdd, Nat.reduceSub, Nat.reduceLeDiff, true_and, and_true, if_true, if_false, Bool.false_eq_true, List.append_nil, decide_eq_true_eq]
  by_cases hk : kk = -1
  · simp only [hk, if_true, decide_true]
    exact h1 (Or.inl hk)
  · simp only [hk, if_false]
    refine sp_X9_sizeOf n hn _ _ ?_
    by_cases hp : nI (hb_pc n 8) = kk
    · simp only [hp, decide_true]
      exact h1 (Or.inr hp)
    · simp only [hp, decide_false]
      exact h2 (by rintro (q | q); exact hk q; exact hp q)
set_option maxHeartbeats 8000000 in
theorem sp_search {S : hd_S} {p : hp_P} (hp : hp_ok p) (hm : hm_P S p) (hR : hm_RS p) {k : Nat} (kk ii : Int32) (hk7 : k < 7) (post : Option hd_V → hd_S → Prop)
    (hk : ∀ S2, hd_eqx [113, 124, 125] S S2 → (∀ f, f < 21 ∨ 23 < f → S2.1 113 f = S.1 113 f) → S2.1 113 21 = hp_ow (hp_lo (hp_q p k kk) (2 ^ hp_H p)) → S2.1 113 22 = nI (fb_ct (hp_ib (hp_q p k kk) (hp_lo (hp_q p k kk) (2 ^ hp_H p))) (2 ^ hp_H p)) → S2.1 113 23 = hp_oi (hp_at (hp_q p k kk) (hp_lo (hp_q p k kk) (2 ^ hp_H p)) ii (2 ^ hp_H p)) → post none S2) : wm_X9_search [hd_vR 113, hd_vI (nI k), hd_vI kk, hd_vI ii] S post := by
  have hH : hp_H p ≤ 7 := hp.2.1
  have h128 : 2 ^ hp_H p ≤ 128 := Nat.pow_le_pow_right (n := 2) (by decide) hH
  have hpos : 0 < 2 ^ hp_H p := Nat.two_pow_pos _
  have hqlt : ∀ s v, hp_q p k kk s = some v → v < 2000000000 := fun s v h => hp_q_lt hp h
  have hllt := hp_lo_lt hqlt
  simp only [wm_X9_search, wo_X9_search, hd_mth, hd_rho0, hd_args, hd_wide, hd_sQ, hd_s0, hd_sI, hd_sJ, hd_sR, hd_sP, hd_sF, hd_sZ, hd_sG, hd_sA, hd_sL, hd_sB, hd_sO, hd_sN, hd_sD, hd_sW, hd_sE, hd_sRI, hd_sRZ, hd_sRJ, hd_sRR, hd_sRV, hd_sSw, hd_sw, hd_sCI, hd_sCL, hd_iK, hd_iL, hd_iU, hd_iB, hd_iD, hd_iJ, hd_iG, hd_iA, hd_iQ, hd_iC, hd_iN, hd_iE, hd_jK, hd_jL, hd_jU, hd_jB, hd_jD, hd_jH, hd_jI, hd_jA, hd_jQ, hd_jN, hd_rL, hd_rG, hd_rA, hd_rN, hd_cI, hd_c0, hd_cJ, hd_cX, hd_cA, hd_cO, hd_v0, hd_pI, hd_pJ, hd_pR, hd_nV, hd_nS, hd_get, hd_st, hd_stW, hd_cut, List.replicate, List.length_cons, List.length_nil, List.nil_append, List.cons_append, Nat.reduceAdd, Nat.reduceSub, Nat.reduceLeDiff, true_and, and_true, if_true, if_false, Bool.false_eq_true, List.append_nil, hs_o_0, hs_r_0_0, hs_t_0_0, hs_r_0_1, hs_t_0_1, hs_r_0_2, hs_t_0_2, hs_r_0_3, hs_t_0_3, hs_r_0_4, hs_t_0_4, hs_r_0_5, hs_t_0_5, hs_r_0_6, hs_t_0_6, hs_r_0_7, hs_t_0_7, hs_f_0_8, hs_o_1, hs_f_1_0, hs_f_1_1, hs_r_1_2, hs_t_1_2, hs_r_1_3, hs_t_1_3, hs_r_1_4, hs_t_1_4, hs_r_1_5, hs_t_1_5, hs_r_1_6, hs_t_1_6, hs_r_1_7, hs_t_1_7, hs_r_1_8, hs_t_1_8, hs_r_1_9, hs_t_1_9, hs_i_2, hs_i_3, hs_i_4, hs_i_5, hs_i_6, hs_i_7, hs_i_8, hs_i_9, hs_o_82, hs_r_82_0, hs_t_82_0, hs_f_82_1, hs_i_83, hs_o_84, hs_r_84_0, hs_t_84_0, hs_r_84_1, hs_t_84_1, hs_r_84_2, hs_t_84_2, hs_r_84_3, hs_t_84_3, hs_f_84_4, hs_i_85, hs_i_86, hs_i_87, hs_o_88, hs_r_88_0, hs_t_88_0, hs_r_88_1, hs_t_88_1, hs_r_88_2, hs_t_88_2, hs_r_88_3, hs_t_88_3, hs_r_88_4, hs_t_88_4, hs_r_88_5, hs_t_88_5, hs_r_88_6, hs_t_88_6, hs_r_88_7, hs_t_88_7, hs_f_88_8, hs_f_88_9, hs_i_89, hs_i_90, hs_i_91, hs_i_92, hs_i_93, hs_i_94, hs_i_95, hs_i_96, hs_i_97, hs_i_98, hs_i_99, hs_i_100, hs_i_101, hs_i_102, hs_o_103, hs_r_103_0, hs_t_103_0, hs_r_103_1, hs_t_103_1, hs_r_103_2, hs_t_103_2, hs_r_103_3, hs_t_103_3, hs_f_103_4, hs_i_104, hs_o_105, hs_r_105_0, hs_t_105_0, hs_r_105_1, hs_t_105_1, hs_r_105_2, hs_t_105_2, hs_i_106, hs_i_107, hs_o_108, hs_r_108_0, hs_t_108_0, hs_r_108_1, hs_t_108_1, hs_r_108_2, hs_t_108_2, hs_r_108_3, hs_t_108_3, hs_f_108_4, hs_i_109, hs_i_110, hs_o_111, hs_r_111_0, hs_t_111_0, hs_r_111_1, hs_t_111_1, hs_f_111_2, hs_f_111_3, hs_f_111_4, hs_i_112, hs_o_113, hs_f_113_0, hs_f_113_1, hs_f_113_2, hs_r_113_3, hs_t_113_3, hs_r_113_4, hs_t_113_4, hs_r_113_5, hs_t_113_5, hs_r_113_6, hs_t_113_6, hs_r_113_7, hs_t_113_7, hs_r_113_8, hs_t_113_8, hs_r_113_9, hs_t_113_9, hs_r_113_10, hs_t_113_10, hs_r_113_11, hs_t_113_11, hs_f_113_12, hs_f_113_13, hs_f_113_14, hs_r_113_15, hs_t_113_15, hs_f_113_16, hs_r_113_17, hs_t_113_17, hs_r_113_18, hs_t_113_18, hs_r_113_19, hs_t_113_19, hs_r_113_20, hs_t_113_20, hs_f_113_21, hs_f_113_22, hs_f_113_23, hs_r_113_24, hs_t_113_24, hs_f_113_25, hs_r_113_26, hs_t_113_26, hs_f_113_27, hs_i_114, hs_i_115, hs_i_116, hs_i_117, hs_i_118, hs_i_119, hs_i_120, hs_i_121, hs_i_122, hs_i_123, hs_i_124, hs_i_125, hs_i_126, hs_i_127, hs_i_128, hs_i_129]
  refine hd_up (S := hd_wI (hd_wI (hd_wI S 113 21 2000000000) 113 22 0) 113 23 (-1)) (fun n ρ S2 => hd_eqx [113, 124, 125] S S2 ∧ (∀ f, f < 21 ∨ 23 < f → S2.1 113 f = S.1 113 f) ∧ S2.1 113 21 = hp_ow (hp_lo (hp_q p k kk) n) ∧ S2.1 113 22 = nI (fb_ct (hp_ib (hp_q p k kk) (hp_lo (hp_q p k kk) n)) n) ∧ S2.1 113 23 = hp_oi (hp_at (hp_q p k kk) (hp_lo (hp_q p k kk) n) ii n) ∧ ∃ x : hd_V, ρ = [hd_vR 113, hd_vI (nI k), hd_vI kk, hd_vI ii, hd_vI (nI n), x]) (2 ^ hp_H p) ?_ ?_ (Nat.zero_le _) ⟨hd_eqx_w (hd_eqx_w (hd_eqx_w (hd_eqx_rf _ _) (by decide)) (by decide)) (by decide), fun f hf => by rw [hd_wI1, if_neg (by omega), hd_wI1, if_neg (by omega), hd_wI1, if_neg (by omega)], by simp [hd_wI1, hp_lo, hp_ow], by simp [hd_wI1]; rfl, by simp [hd_wI1, hp_at, hp_oi], _, rfl⟩
  · rintro n ρ S2 K hn ⟨he, hf, h21, h22, h23, x, rfl⟩ hK
    have hm2 : hm_P S2 p := hm_P_fr (hf 1 (by omega)) (hf 2 (by omega)) (fun c h1 h2 => he.1 c (by simp only [List.mem_cons, List.not_mem_nil, or_false]; omega)) hm
    have hm21 : S2.1 113 2 = nI (hp_H p) := hm2.2.1
    have hpc := hb_pc_le n 8
    have hctl := fb_ct_le (hp_ib (hp_q p k kk) (hp_lo (hp_q p k kk) n)) n
    have main : (kk = -1 ∨ nI (hb_pc n 8) = kk) → (hd_sQ (hd_sQ (hd_sI 5 (hd_iN (hd_nV hs_sh 9 (hd_rL 0) 2 (hd_pI (hd_pI hd_v0 (hd_iL 1)) (hd_iL 4)) wm_X9_costOf))) (hd_sQ (hd_sW (hd_cI (fun x y => decide (x < y)) (hd_iL 5) (hd_iG hs_sh 9 21 (hd_rL 0))) (hd_sQ (hd_sF hs_sh 9 21 (hd_rL 0) (hd_iL 5)) (hd_sQ (hd_sF hs_sh 9 22 (hd_rL 0) (hd_iK (0))) (hd_sF hs_sh 9 23 (hd_rL 0) (hd_iK (-1)))))) (hd_sW (hd_cA (hd_cI (fun x y => decide (x = y)) (hd_iL 5) (hd_iG hs_sh 9 21 (hd_rL 0))) (hd_cI (fun x y => decide (x < y)) (hd_iL 5) (hd_iK (2000000000)))) (hd_sQ (hd_sF hs_sh 9 23 (hd_rL 0) (hd_iQ (hd_cI (fun x y => decide (x = y)) (hd_iG hs_sh 9 22 (hd_rL 0)) (hd_iL 3)) (hd_iL 4) (hd_iG hs_sh 9 23 (hd_rL 0)))) (hd_sG (fun x y => x + y) hs_sh 9 22 (hd_rL 0) (hd_iK (1))))))) (hd_sP 4 (1))) [hd_vR 113, hd_vI (nI k), hd_vI kk, hd_vI ii, hd_vI (nI n), x] S2 K post := by
      intro hcn
      have hcq : hp_cost p k n = hp_q p k kk n := by
        unfold hp_q
        rw [if_pos hcn]
      simp only [hd_mth, hd_rho0, hd_args, hd_wide, hd_sQ, hd_s0, hd_sI, hd_sJ, hd_sR, hd_sP, hd_sF, hd_sZ, hd_sG, hd_sA, hd_sL, hd_sB, hd_sO, hd_sN, hd_sD, hd_sE, hd_sRI, hd_sRZ, hd_sRJ, hd_sRR, hd_sRV, hd_sSw, hd_sw, hd_sCI, hd_sCL, hd_iK, hd_iL, hd_iU, hd_iB, hd_iD, hd_iJ, hd_iG, hd_iA, hd_iQ, hd_iC, hd_iN, hd_iE, hd_jK, hd_jL, hd_jU, hd_jB, hd_jD, hd_jH, hd_jI, hd_jA, hd_jQ, hd_jN, hd_rL, hd_rG, hd_rA, hd_rN, hd_cI, hd_c0, hd_cJ, hd_cX, hd_cA, hd_cO, hd_v0, hd_pI, hd_pJ, hd_pR, hd_nV, hd_nS, hd_get, hd_st, hd_stW, hd_cut, List.replicate, List.length_cons, List.length_nil, List.nil_append, List.cons_append, Nat.reduceAdd, Nat.reduceSub, Nat.reduceLeDiff, true_and, and_true, if_true, if_false, Bool.false_eq_true, List.append_nil, hs_o_0, hs_r_0_0, hs_t_0_0, hs_r_0_1, hs_t_0_1, hs_r_0_2, hs_t_0_2, hs_r_0_3, hs_t_0_3, hs_r_0_4, hs_t_0_4, hs_r_0_5, hs_t_0_5, hs_r_0_6, hs_t_0_6, hs_r_0_7, hs_t_0_7, hs_f_0_8, hs_o_1, hs_f_1_0, hs_f_1_1, hs_r_1_2, hs_t_1_2, hs_r_1_3, hs_t_1_3, hs_r_1_4, hs_t_1_4, hs_r_1_5, hs_t_1_5, hs_r_1_6, hs_t_1_6, hs_r_1_7, hs_t_1_7, hs_r_1_8, hs_t_1_8, hs_r_1_9, hs_t_1_9, hs_i_2, hs_i_3, hs_i_4, hs_i_5, hs_i_6, hs_i_7, hs_i_8, hs_i_9, hs_o_82, hs_r_82_0, hs_t_82_0, hs_f_82_1, hs_i_83, hs_o_84, hs_r_84_0, hs_t_84_0, hs_r_84_1, hs_t_84_1, hs_r_84_2, hs_t_84_2, hs_r_84_3, hs_t_84_3, hs_f_84_4, hs_i_85, hs_i_86, hs_i_87, hs_o_88, hs_r_88_0, hs_t_88_0, hs_r_88_1, hs_t_88_1, hs_r_88_2, hs_t_88_2, hs_r_88_3, hs_t_88_3, hs_r_88_4, hs_t_88_4, hs_r_88_5, hs_t_88_5, hs_r_88_6, hs_t_88_6, hs_r_88_7, hs_t_88_7, hs_f_88_8, hs_f_88_9, hs_i_89, hs_i_90, hs_i_91, hs_i_92, hs_i_93, hs_i_94, hs_i_95, hs_i_96, hs_i_97, hs_i_98, hs_i_99, hs_i_100, hs_i_101, hs_i_102, hs_o_103, hs_r_103_0, hs_t_103_0, hs_r_103_1, hs_t_103_1, hs_r_103_2, hs_t_103_2, hs_r_103_3, hs_t_103_3, hs_f_103_4, hs_i_104, hs_o_105, hs_r_105_0, hs_t_105_0, hs_r_105_1, hs_t_105_1, hs_r_105_2, hs_t_105_2, hs_i_106, hs_i_107, hs_o_108, hs_r_108_0, hs_t_108_0, hs_r_108_1, hs_t_108_1, hs_r_108_2, hs_t_108_2, hs_r_108_3, hs_t_108_3, hs_f_108_4, hs_i_109, hs_i_110, hs_o_111, hs_r_111_0, hs_t_111_0, hs_r_111_1, hs_t_111_1, hs_f_111_2, hs_f_111_3, hs_f_111_4, hs_i_112, hs_o_113, hs_f_113_0, hs_f_113_1, hs_f_113_2, hs_r_113_3, hs_t_113_3, hs_r_113_4, hs_t_113_4, hs_r_113_5, hs_t_113_5, hs_r_113_6, hs_t_113_6, hs_r_113_7, hs_t_113_7, hs_r_113_8, hs_t_113_8, hs_r_113_9, hs_t_113_9, hs_r_113_10, hs_t_113_10, hs_r_113_11, hs_t_113_11, hs_f_113_12, hs_f_113_13, hs_f_113_14, hs_r_113_15, hs_t_113_15, hs_f_113_16, hs_r_113_17, hs_t_113_17, hs_r_113_18, hs_t_113_18, hs_r_113_19, hs_t_113_19, hs_r_113_20, hs_t_113_20, hs_f_113_21, hs_f_113_22, hs_f_113_23, hs_r_113_24, hs_t_113_24, hs_f_113_25, hs_r_113_26, hs_t_113_26, hs_f_113_27, hs_i_114, hs_i_115, hs_i_116, hs_i_117, hs_i_118, hs_i_119, hs_i_120, hs_i_121, hs_i_122, hs_i_123, hs_i_124, hs_i_125, hs_i_126, hs_i_127, hs_i_128, hs_i_129]
      refine sp_costOf hp hm2 hR hk7 hn _ (fun S3 he3 => ?_)
      rw [hcq]
      have e113 : S3.1 113 = S2.1 113 := he3.1 113 (by decide)
      have he4 : hd_eqx [113, 124, 125] S S3 := hd_eqx_tr he (hd_eqx_sub he3 (by decide))
      simp only [hd_mth, hd_rho0, hd_args, hd_wide, hd_sQ, hd_s0, hd_sI, hd_sJ, hd_sR, hd_sP, hd_sF, hd_sZ, hd_sG, hd_sA, hd_sL, hd_sB, hd_sO, hd_sN, hd_sD, hd_sW, hd_sE, hd_sRI, hd_sRZ, hd_sRJ, hd_sRR, hd_sRV, hd_sSw, hd_sw, hd_sCI, hd_sCL, hd_iK, hd_iL, hd_iU, hd_iB, hd_iD, hd_iJ, hd_iG, hd_iA, hd_iQ, hd_iC, hd_iN, hd_iE, hd_jK, hd_jL, hd_jU, hd_jB, hd_jD, hd_jH, hd_jI, hd_jA, hd_jQ, hd_jN, hd_rL, hd_rG, hd_rA, hd_rN, hd_cI, hd_c0, hd_cJ, hd_cX, hd_cA, hd_cO, hd_v0, hd_pI, hd_pJ, hd_pR, hd_nV, hd_nS, hd_get, hd_st, hd_stW, hd_cut, List.replicate, List.length_cons, List.length_nil, List.nil_append, List.cons_append, Nat.reduceAdd, Nat.reduceSub, Nat.reduceLeDiff, true_and, and_true, if_true, if_false, Bool.false_eq_true, List.append_nil, hs_o_0, hs_r_0_0, hs_t_0_0, hs_r_0_1, hs_t_0_1, hs_r_0_2, hs_t_0_2, hs_r_0_3, hs_t_0_3, hs_r_0_4, hs_t_0_4, hs_r_0_5, hs_t_0_5, hs_r_0_6, hs_t_0_6, hs_r_0_7, hs_t_0_7, hs_f_0_8, hs_o_1, hs_f_1_0, hs_f_1_1, hs_r_1_2, hs_t_1_2, hs_r_1_3, hs_t_1_3, hs_r_1_4, hs_t_1_4, hs_r_1_5, hs_t_1_5, hs_r_1_6, hs_t_1_6, hs_r_1_7, hs_t_1_7, hs_r_1_8, hs_t_1_8, hs_r_1_9, hs_t_1_9, hs_i_2, hs_i_3, hs_i_4, hs_i_5, hs_i_6, hs_i_7, hs_i_8, hs_i_9, hs_o_82, hs_r_82_0, hs_t_82_0, hs_f_82_1, hs_i_83, hs_o_84, hs_r_84_0, hs_t_84_0, hs_r_84_1, hs_t_84_1, hs_r_84_2, hs_t_84_2, hs_r_84_3, hs_t_84_3, hs_f_84_4, hs_i_85, hs_i_86, hs_i_87, hs_o_88, hs_r_88_0, hs_t_88_0, hs_r_88_1, hs_t_88_1, hs_r_88_2, hs_t_88_2, hs_r_88_3, hs_t_88_3, hs_r_88_4, hs_t_88_4, hs_r_88_5, hs_t_88_5, hs_r_88_6, hs_t_88_6, hs_r_88_7, hs_t_88_7, hs_f_88_8, hs_f_88_9, hs_i_89, hs_i_90, hs_i_91, hs_i_92, hs_i_93, hs_i_94, hs_i_95, hs_i_96, hs_i_97, hs_i_98, hs_i_99, hs_i_100, hs_i_101, hs_i_102, hs_o_103, hs_r_103_0, hs_t_103_0, hs_r_103_1, hs_t_103_1, hs_r_103_2, hs_t_103_2, hs_r_103_3, hs_t_103_3, hs_f_103_4, hs_i_104, hs_o_105, hs_r_105_0, hs_t_105_0, hs_r_105_1, hs_t_105_1, hs_r_105_2, hs_t_105_2, hs_i_106, hs_i_107, hs_o_108, hs_r_108_0, hs_t_108_0, hs_r_108_1, hs_t_108_1, hs_r_108_2, hs_t_108_2, hs_r_108_3, hs_t_108_3, hs_f_108_4, hs_i_109, hs_i_110, hs_o_111, hs_r_111_0, hs_t_111_0, hs_r_111_1, hs_t_111_1, hs_f_111_2, hs_f_111_3, hs_f_111_4, hs_i_112, hs_o_113, hs_f_113_0, hs_f_113_1, hs_f_113_2, hs_r_113_3, hs_t_113_3, hs_r_113_4, hs_t_113_4, hs_r_113_5, hs_t_113_5, hs_r_113_6, hs_t_113_6, hs_r_113_7, hs_t_113_7, hs_r_113_8, hs_t_113_8, hs_r_113_9, hs_t_113_9, hs_r_113_10, hs_t_113_10, hs_r_113_11, hs_t_113_11, hs_f_113_12, hs_f_113_13, hs_f_113_14, hs_r_113_15, hs_t_113_15, hs_f_113_16, hs_r_113_17, hs_t_113_17, hs_r_113_18, hs_t_113_18, hs_r_113_19, hs_t_113_19, hs_r_113_20, hs_t_113_20, hs_f_113_21, hs_f_113_22, hs_f_113_23, hs_r_113_24, hs_t_113_24, hs_f_113_25, hs_r_113_26, hs_t_113_26, hs_f_113_27, hs_i_114, hs_i_115, hs_i_116, hs_i_117, hs_i_118, hs_i_119, hs_i_120, hs_i_121, hs_i_122, hs_i_123, hs_i_124, hs_i_125, hs_i_126, hs_i_127, hs_i_128, hs_i_129, e113, h21, h22, h23, hp_ow_ls (hqlt n) (hllt n), decide_eq_true_eq]
      by_cases hl : hp_ls (hp_q p k kk n) (hp_lo (hp_q p k kk) n) = true
      · obtain ⟨g1, g2, g3⟩ := hp_step_ls hl
        have g4 : ¬ hp_q p k kk n = none := by
          have : (hp_q p k kk n ≠ none ∧ hp_q p k kk n = hp_q p k kk n) := by simpa [hp_ib] using g3
          exact this.1
        have e22 : fb_ct (hp_ib (hp_q p k kk) (hp_lo (hp_q p k kk) (n + 1))) (n + 1) = 1 := by rw [g1, fb_ct_succ, g2, if_pos g3]
        simp only [hl, if_true, hd_wI1, and_false, and_self, if_false, Nat.reduceEqDiff, hp_ow_lt (hqlt n), g4, not_false_iff, nI_1]
        by_cases h0 : (0 : Int32) = ii
        · rw [if_pos h0]
          refine hK _ _ ⟨hd_eqx_w (hd_eqx_w (hd_eqx_w (hd_eqx_w (hd_eqx_w he4 (by decide)) (by decide)) (by decide)) (by decide)) (by decide), fun f hf2 => ?_, ?_, ?_, ?_, _, rfl⟩
          · have h1 : f ≠ 21 := by omega
            have h2 : f ≠ 22 := by omega
            have h3 : f ≠ 23 := by omega
            simp only [hd_wI1, h1, h2, h3, and_false, if_false]
            rw [e113]
            exact hf f hf2
          · simp only [hd_wI1, and_false, and_self, if_false, Nat.reduceEqDiff, if_true]
            rw [g1]
          · simp only [hd_wI1, and_self, if_true]
            rw [e22]
            rfl
          · simp only [hd_wI1, and_false, and_self, if_false, Nat.reduceEqDiff, if_true]
            rw [g1, hp_at, if_pos ⟨g3, by rw [g2]; exact h0⟩]
            rfl
        · rw [if_neg h0]
          refine hK _ _ ⟨hd_eqx_w (hd_eqx_w (hd_eqx_w (hd_eqx_w (hd_eqx_w he4 (by decide)) (by decide)) (by decide)) (by decide)) (by decide), fun f hf2 => ?_, ?_, ?_, ?_, _, rfl⟩
          · have h1 : f ≠ 21 := by omega
            have h2 : f ≠ 22 := by omega
            have h3 : f ≠ 23 := by omega
            simp only [hd_wI1, h1, h2, h3, and_false, if_false]
            rw [e113]
            exact hf f hf2
          · simp only [hd_wI1, and_false, and_self, if_false, Nat.reduceEqDiff, if_true]
            rw [g1]
          · simp only [hd_wI1, and_self, if_true]
            rw [e22]
            rfl
          · simp only [hd_wI1, and_false, and_self, if_false, Nat.reduceEqDiff, if_true]
            rw [g1, hp_at, if_neg (fun q => h0 (by have := q.2; rw [g2] at this; exact this)), hp_at_zero ii g2]
            rfl
      · have g1 : hp_lo (hp_q p k kk) (n + 1) = hp_lo (hp_q p k kk) n := by simp only [hp_lo, hl, if_false, Bool.false_eq_true]
        simp only [hl, if_false, Bool.false_eq_true, hp_ow_inj (hqlt n) (hllt n), hp_ow_lt (hqlt n), e113, h21, h22, h23, hd_wI1, and_false, Nat.reduceEqDiff, nI_1]
        by_cases h1 : hp_q p k kk n = hp_lo (hp_q p k kk) n
        · by_cases h2 : hp_q p k kk n = none
          · have g3 : hp_ib (hp_q p k kk) (hp_lo (hp_q p k kk) n) n = false := by rw [← h1]; simp [hp_ib, h2]
            simp only [h1, if_true]
            rw [h1] at h2
            simp only [h2, not_true, if_false]
            rw [← h2]
            refine hK _ _ ⟨he4, fun f hf2 => by rw [e113]; exact hf f hf2, ?_, ?_, ?_, _, rfl⟩
            · rw [e113, g1, h21]
            · rw [e113, g1, h22, fb_ct_succ, if_neg (by rw [g3]; decide)]
              rfl
            · rw [e113, g1, h23, hp_at, if_neg (fun q => by rw [g3] at q; cases q.1)]
          · have g3 : hp_ib (hp_q p k kk) (hp_lo (hp_q p k kk) n) n = true := by
              have h3 : ¬ hp_lo (hp_q p k kk) n = none := fun q => h2 (h1.trans q)
              simp [hp_ib, h1, h3]
            have e22 : fb_ct (hp_ib (hp_q p k kk) (hp_lo (hp_q p k kk) (n + 1))) (n + 1) = fb_ct (hp_ib (hp_q p k kk) (hp_lo (hp_q p k kk) n)) n + 1 := by rw [g1, fb_ct_succ, if_pos g3]
            rw [if_pos h1, if_pos h2]
            by_cases h0 : nI (fb_ct (hp_ib (hp_q p k kk) (hp_lo (hp_q p k kk) n)) n) = ii
            · rw [if_pos h0]
              refine hK _ _ ⟨hd_eqx_w (hd_eqx_w he4 (by decide)) (by decide), fun f hf2 => ?_, ?_, ?_, ?_, _, rfl⟩
              · have h4 : f ≠ 22 := by omega
                have h5 : f ≠ 23 := by omega
                simp only [hd_wI1, h4, h5, and_false, if_false]
                rw [e113]
                exact hf f hf2
              · simp only [hd_wI1, and_false, if_false, Nat.reduceEqDiff]
                rw [e113, g1, h21]
              · simp only [hd_wI1, and_self, if_true]
                rw [e22]
              · simp only [hd_wI1, and_false, and_self, if_false, Nat.reduceEqDiff, if_true]
                rw [g1, hp_at, if_pos ⟨g3, h0⟩]
                rfl
            · rw [if_neg h0]
              refine hK _ _ ⟨hd_eqx_w (hd_eqx_w he4 (by decide)) (by decide), fun f hf2 => ?_, ?_, ?_, ?_, _, rfl⟩
              · have h4 : f ≠ 22 := by omega
                have h5 : f ≠ 23 := by omega
                simp only [hd_wI1, h4, h5, and_false, if_false]
                rw [e113]
                exact hf f hf2
              · simp only [hd_wI1, and_false, if_false, Nat.reduceEqDiff]
                rw [e113, g1, h21]
              · simp only [hd_wI1, and_self, if_true]
                rw [e22]
              · simp only [hd_wI1, and_false, and_self, if_false, Nat.reduceEqDiff, if_true]
                rw [g1, hp_at, if_neg (fun q => h0 q.2)]
        · have g3 : hp_ib (hp_q p k kk) (hp_lo (hp_q p k kk) n) n = false := by simp [hp_ib, h1]
          rw [if_neg h1]
          refine hK _ _ ⟨he4, fun f hf2 => by rw [e113]; exact hf f hf2, ?_, ?_, ?_, _, rfl⟩
          · rw [e113, g1, h21]
          · rw [e113, g1, h22, fb_ct_succ, if_neg (by rw [g3]; decide)]
            rfl
          · rw [e113, g1, h23, hp_at, if_neg (fun q => by rw [g3] at q; cases q.1)]
    simp only [wc_X9_search_19, hd_cI, hd_iL, hd_get, hd_iN, hd_nV, hd_rL, hd_v0, sp_X9_allHalls, hm21, hb_all (show hp_H p < 31 by omega), hb_le (show n < 2 ^ 31 by omega) (show 2 ^ hp_H p - 1 < 2 ^ 31 by omega), show n ≤ 2 ^ hp_H p - 1 by omega, decide_true, if_true, hs_o_0, hs_r_0_0, hs_t_0_0, hs_r_0_1, hs_t_0_1, hs_r_0_2, hs_t_0_2, hs_r_0_3, hs_t_0_3, hs_r_0_4, hs_t_0_4, hs_r_0_5, hs_t_0_5, hs_r_0_6, hs_t_0_6, hs_r_0_7, hs_t_0_7, hs_f_0_8, hs_o_1, hs_f_1_0, hs_f_1_1, hs_r_1_2, hs_t_1_2, hs_r_1_3, hs_t_1_3, hs_r_1_4, hs_t_1_4, hs_r_1_5, hs_t_1_5, hs_r_1_6, hs_t_1_6, hs_r_1_7, hs_t_1_7, hs_r_1_8, hs_t_1_8, hs_r_1_9, hs_t_1_9, hs_i_2, hs_i_3, hs_i_4, hs_i_5, hs_i_6, hs_i_7, hs_i_8, hs_i_9, hs_o_82, hs_r_82_0, hs_t_82_0, hs_f_82_1, hs_i_83, hs_o_84, hs_r_84_0, hs_t_84_0, hs_r_84_1, hs_t_84_1, hs_r_84_2, hs_t_84_2, hs_r_84_3, hs_t_84_3, hs_f_84_4, hs_i_85, hs_i_86, hs_i_87, hs_o_88, hs_r_88_0, hs_t_88_0, hs_r_88_1, hs_t_88_1, hs_r_88_2, hs_t_88_2, hs_r_88_3, hs_t_88_3, hs_r_88_4, hs_t_88_4, hs_r_88_5, hs_t_88_5, hs_r_88_6, hs_t_88_6, hs_r_88_7, hs_t_88_7, hs_f_88_8, hs_f_88_9, hs_i_89, hs_i_90, hs_i_91, hs_i_92, hs_i_93, hs_i_94, hs_i_95, hs_i_96, hs_i_97, hs_i_98, hs_i_99, hs_i_100, hs_i_101, hs_i_102, hs_o_103, hs_r_103_0, hs_t_103_0, hs_r_103_1, hs_t_103_1, hs_r_103_2, hs_t_103_2, hs_r_103_3, hs_t_103_3, hs_f_103_4, hs_i_104, hs_o_105, hs_r_105_0, hs_t_105_0, hs_r_105_1, hs_t_105_1, hs_r_105_2, hs_t_105_2, hs_i_106, hs_i_107, hs_o_108, hs_r_108_0, hs_t_108_0, hs_r_108_1, hs_t_108_1, hs_r_108_2, hs_t_108_2, hs_r_108_3, hs_t_108_3, hs_f_108_4, hs_i_109, hs_i_110, hs_o_111, hs_r_111_0, hs_t_111_0, hs_r_111_1, hs_t_111_1, hs_f_111_2, hs_f_111_3, hs_f_111_4, hs_i_112, hs_o_113, hs_f_113_0, hs_f_113_1, hs_f_113_2, hs_r_113_3, hs_t_113_3, hs_r_113_4, hs_t_113_4, hs_r_113_5, hs_t_113_5, hs_r_113_6, hs_t_113_6, hs_r_113_7, hs_t_113_7, hs_r_113_8, hs_t_113_8, hs_r_113_9, hs_t_113_9, hs_r_113_10, hs_t_113_10, hs_r_113_11, hs_t_113_11, hs_f_113_12, hs_f_113_13, hs_f_113_14, hs_r_113_15, hs_t_113_15, hs_f_113_16, hs_r_113_17, hs_t_113_17, hs_r_113_18, hs_t_113_18, hs_r_113_19, hs_t_113_19, hs_r_113_20, hs_t_113_20, hs_f_113_21, hs_f_113_22, hs_f_113_23, hs_r_113_24, hs_t_113_24, hs_f_113_25, hs_r_113_26, hs_t_113_26, hs_f_113_27, hs_i_114, hs_i_115, hs_i_116, hs_i_117, hs_i_118, hs_i_119, hs_i_120, hs_i_121, hs_i_122, hs_i_123, hs_i_124, hs_i_125, hs_i_126, hs_i_127, hs_i_128, hs_i_129]
    refine ⟨trivial, rfl, ?_⟩
    unfold wb_X9_search_19
    rw [hq_sQ, hq_sW]
    refine sp_cnt (show n < 2 ^ 31 by omega) (fun hc => ?_) (fun hc => ?_)
    · have hmn := main hc
      rw [hq_sQ] at hmn
      rw [if_pos rfl]
      exact hmn
    · rw [if_neg (by decide)]
      have hcn : hp_q p k kk n = none := by
        unfold hp_q
        rw [if_neg hc]
      have g1 : hp_lo (hp_q p k kk) (n + 1) = hp_lo (hp_q p k kk) n := by simp [hp_lo, hcn, hp_ls]
      have g3 : hp_ib (hp_q p k kk) (hp_lo (hp_q p k kk) n) n = false := by
        unfold hp_ib
        rw [hcn]
        refine decide_eq_false (fun q => q.1 q.2.symm)
      simp only [hd_sP, hd_get, hd_st, nI_1]
      refine hK _ _ ⟨he, hf, ?_, ?_, ?_, _, rfl⟩
      · rw [g1, h21]
      · rw [g1, h22, fb_ct_succ, if_neg (by rw [g3]; decide)]
        rfl
      · rw [g1, h23, hp_at, if_neg (fun q => by rw [g3] at q; cases q.1)]
  · rintro ρ S2 K ⟨he, hf, h21, h22, h23, x, rfl⟩
    have hm21 : S2.1 113 2 = nI (hp_H p) := (hf 2 (by omega)).trans hm.2.1
    simp only [wc_X9_search_19, hd_mth, hd_rho0, hd_args, hd_wide, hd_sQ, hd_s0, hd_sI, hd_sJ, hd_sR, hd_sP, hd_sF, hd_sZ, hd_sG, hd_sA, hd_sL, hd_sB, hd_sO, hd_sN, hd_sD, hd_sW, hd_sE, hd_sRI, hd_sRZ, hd_sRJ, hd_sRR, hd_sRV, hd_sSw, hd_sw, hd_sCI, hd_sCL, hd_iK, hd_iL, hd_iU, hd_iB, hd_iD, hd_iJ, hd_iG, hd_iA, hd_iQ, hd_iC, hd_iN, hd_iE, hd_jK, hd_jL, hd_jU, hd_jB, hd_jD, hd_jH, hd_jI, hd_jA, hd_jQ, hd_jN, hd_rL, hd_rG, hd_rA, hd_rN, hd_cI, hd_c0, hd_cJ, hd_cX, hd_cA, hd_cO, hd_v0, hd_pI, hd_pJ, hd_pR, hd_nV, hd_nS, hd_get, hd_st, hd_stW, hd_cut, List.replicate, List.length_cons, List.length_nil, List.nil_append, List.cons_append, Nat.reduceAdd, Nat.reduceSub, Nat.reduceLeDiff, true_and, and_true, if_true, if_false, Bool.false_eq_true, List.append_nil, hs_o_0, hs_r_0_0, hs_t_0_0, hs_r_0_1, hs_t_0_1, hs_r_0_2, hs_t_0_2, hs_r_0_3, hs_t_0_3, hs_r_0_4, hs_t_0_4, hs_r_0_5, hs_t_0_5, hs_r_0_6, hs_t_0_6, hs_r_0_7, hs_t_0_7, hs_f_0_8, hs_o_1, hs_f_1_0, hs_f_1_1, hs_r_1_2, hs_t_1_2, hs_r_1_3, hs_t_1_3, hs_r_1_4, hs_t_1_4, hs_r_1_5, hs_t_1_5, hs_r_1_6, hs_t_1_6, hs_r_1_7, hs_t_1_7, hs_r_1_8, hs_t_1_8, hs_r_1_9, hs_t_1_9, hs_i_2, hs_i_3, hs_i_4, hs_i_5, hs_i_6, hs_i_7, hs_i_8, hs_i_9, hs_o_82, hs_r_82_0, hs_t_82_0, hs_f_82_1, hs_i_83, hs_o_84, hs_r_84_0, hs_t_84_0, hs_r_84_1, hs_t_84_1, hs_r_84_2, hs_t_84_2, hs_r_84_3, hs_t_84_3, hs_f_84_4, hs_i_85, hs_i_86, hs_i_87, hs_o_88, hs_r_88_0, hs_t_88_0, hs_r_88_1, hs_t_88_1, hs_r_88_2, hs_t_88_2, hs_r_88_3, hs_t_88_3, hs_r_88_4, hs_t_88_4, hs_r_88_5, hs_t_88_5, hs_r_88_6, hs_t_88_6, hs_r_88_7, hs_t_88_7, hs_f_88_8, hs_f_88_9, hs_i_89, hs_i_90, hs_i_91, hs_i_92, hs_i_93, hs_i_94, hs_i_95, hs_i_96, hs_i_97, hs_i_98, hs_i_99, hs_i_100, hs_i_101, hs_i_102, hs_o_103, hs_r_103_0, hs_t_103_0, hs_r_103_1, hs_t_103_1, hs_r_103_2, hs_t_103_2, hs_r_103_3, hs_t_103_3, hs_f_103_4, hs_i_104, hs_o_105, hs_r_105_0, hs_t_105_0, hs_r_105_1, hs_t_105_1, hs_r_105_2, hs_t_105_2, hs_i_106, hs_i_107, hs_o_108, hs_r_108_0, hs_t_108_0, hs_r_108_1, hs_t_108_1, hs_r_108_2, hs_t_108_2, hs_r_108_3, hs_t_108_3, hs_f_108_4, hs_i_109, hs_i_110, hs_o_111, hs_r_111_0, hs_t_111_0, hs_r_111_1, hs_t_111_1, hs_f_111_2, hs_f_111_3, hs_f_111_4, hs_i_112, hs_o_113, hs_f_113_0, hs_f_113_1, hs_f_113_2, hs_r_113_3, hs_t_113_3, hs_r_113_4, hs_t_113_4, hs_r_113_5, hs_t_113_5, hs_r_113_6, hs_t_113_6, hs_r_113_7, hs_t_113_7, hs_r_113_8, hs_t_113_8, hs_r_113_9, hs_t_113_9, hs_r_113_10, hs_t_113_10, hs_r_113_11, hs_t_113_11, hs_f_113_12, hs_f_113_13, hs_f_113_14, hs_r_113_15, hs_t_113_15, hs_f_113_16, hs_r_113_17, hs_t_113_17, hs_r_113_18, hs_t_113_18, hs_r_113_19, hs_t_113_19, hs_r_113_20, hs_t_113_20, hs_f_113_21, hs_f_113_22, hs_f_113_23, hs_r_113_24, hs_t_113_24, hs_f_113_25, hs_r_113_26, hs_t_113_26, hs_f_113_27, hs_i_114, hs_i_115, hs_i_116, hs_i_117, hs_i_118, hs_i_119, hs_i_120, hs_i_121, hs_i_122, hs_i_123, hs_i_124, hs_i_125, hs_i_126, hs_i_127, hs_i_128, hs_i_129, sp_X9_allHalls, hm21, hb_all (show hp_H p < 31 by omega), hb_le (show 2 ^ hp_H p < 2 ^ 31 by omega) (show 2 ^ hp_H p - 1 < 2 ^ 31 by omega), show ¬ (2 ^ hp_H p ≤ 2 ^ hp_H p - 1) by omega, decide_false]
    exact hk S2 he hf h21 h22 h23
