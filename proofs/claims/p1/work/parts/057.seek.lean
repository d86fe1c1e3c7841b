/-! the least of sets, how many, which, by number: what is meant; the class's side -/
noncomputable def hp_q (p : hp_P) (k : Nat) (kk : Int32) (s : Nat) : Option Nat := if kk = -1 ∨ nI (hb_pc s 8) = kk then hp_cost p k s else none
/-- one that has a cost is less than one that has none -/
def hp_ls (a b : Option Nat) : Bool := match a, b with
  | none, _ => false
  | some _, none => true
  | some x, some y => decide (x < y)
def hp_lo (c : Nat → Option Nat) : Nat → Option Nat
  | 0 => none
  | n + 1 => if hp_ls (c n) (hp_lo c n) then c n else hp_lo c n
/-- is it one of the best -/
def hp_ib (c : Nat → Option Nat) (o : Option Nat) (s : Nat) : Bool := decide (o ≠ none ∧ c s = o)
def hp_at (c : Nat → Option Nat) (o : Option Nat) (i : Int32) : Nat → Option Nat
  | 0 => none
  | n + 1 => if hp_ib c o n = true ∧ nI (fb_ct (hp_ib c o) n) = i then some n else hp_at c o i n
theorem hp_prs_le {p : hp_P} (hp : hp_ok p) (s : Nat) : ∀ n, hp_prs p s n ≤ n * 100000
  | 0 => Nat.zero_le _
  | n + 1 => by
    have := hp_prs_le hp s n
    have h2 := hp.2.2.2.2.2.2.1 n
    simp only [hp_prs]
    rw [Nat.succ_mul]
    split
    · exact Nat.add_le_add this h2
    · exact Nat.le_trans this (Nat.le_add_right _ _)
theorem hp_fm_le {p : hp_P} (hp : hp_ok p) (s : Nat) : ∀ n, hp_fm p s n ≤ n * 100000
  | 0 => Nat.zero_le _
  | n + 1 => by
    have := hp_fm_le hp s n
    have h2 := hp.2.2.2.2.1 n
    simp only [hp_fm]
    rw [Nat.succ_mul]
    exact Nat.add_le_add this (Nat.le_trans (Nat.min_le_left _ _) h2)
theorem hp_cost_lt {p : hp_P} (hp : hp_ok p) {k s v : Nat} (h : hp_cost p k s = some v) : v < 2000000000 := by
  have hT := hp.1
  have hH := hp.2.1
  have hsa : ∀ q, hp_sa p q (hp_T p) ≤ 160000000 := fun q => Nat.le_trans (hp_sa_le hp q (hp_T p)) (Nat.le_trans (Nat.mul_le_mul_right _ hT) (by decide))
  have hpr := hp_prs_le hp s (hp_H p)
  unfold hp_cost at h
  split at h
  · split at h
    · cases h
    · cases h
      have := hsa s
      omega
  · split at h
    · split at h
      · cases h
      · cases h
        have := hp_mx_le p s (hp_T p)
        omega
    · split at h
      · split at h
        · cases h
        · cases h
          have := hsa s
          omega
      · split at h
        · cases hq : hp_rmc p s with
          | none =>
            rw [hq] at h
            cases h
          | some c =>
            rw [hq] at h
            have hc := hp_rmc_lt hp hq
            have hc2 : c / 16777216 < 1000000000 := Nat.div_lt_of_lt_mul (Nat.lt_of_lt_of_le hc (by decide))
            have h9 : c / 16777216 + hp_prs p s (hp_H p) = v := by simpa using h
            omega
        · split at h
          · cases h
            have h1 := hp_fm_fs p s (hp_T p)
            have h2 := hp_fm_le hp s (hp_T p)
            omega
          · split at h
            · split at h
              · cases h
              · cases h
                unfold hp_cl
                split
                · decide
                · have := hsa (hb_clr s ‹Nat›)
                  omega
            · split at h
              · cases h
              · cases h
                unfold hp_rv
                split
                · decide
                · have := hp_tk_le hp s ‹Nat› (hp_T p)
                  omega
theorem hp_q_lt {p : hp_P} (hp : hp_ok p) {k : Nat} {kk : Int32} {s v : Nat} (h : hp_q p k kk s = some v) : v < 2000000000 := by
  unfold hp_q at h
  split at h
  · exact hp_cost_lt hp h
  · cases h
theorem hp_lo_lt {c : Nat → Option Nat} (hc : ∀ s v, c s = some v → v < 2000000000) : ∀ n v, hp_lo c n = some v → v < 2000000000
  | 0, v, h => by cases h
  | n + 1, v, h => by
    simp only [hp_lo] at h
    split at h
    · exact hc n v h
    · exact hp_lo_lt hc n v h
theorem hp_lo_le {c : Nat → Option Nat} : ∀ {n s v : Nat}, s < n → c s = some v → ∃ b, hp_lo c n = some b ∧ b ≤ v
  | 0, s, v, h, _ => by omega
  | n + 1, s, v, h, hv => by
    simp only [hp_lo]
    by_cases hs : s = n
    · subst hs
      cases hl : hp_lo c s with
      | none => simp [hv, hp_ls]
      | some b =>
        by_cases hb : v < b
        · simp [hv, hp_ls, hb]
        · exact ⟨b, by simp [hv, hp_ls, hb], by omega⟩
    · obtain ⟨b, hb, hbv⟩ := hp_lo_le (n := n) (by omega) hv
      rw [hb]
      cases hc : c n with
      | none => exact ⟨b, by simp [hp_ls], hbv⟩
      | some w =>
        by_cases hw : w < b
        · exact ⟨w, by simp [hp_ls, hw], by omega⟩
        · exact ⟨b, by simp [hp_ls, hw], hbv⟩
theorem hp_oi_inj {a b : Option Nat} (ha : ∀ v, a = some v → v < 2000000000) (hb : ∀ v, b = some v → v < 2000000000) : (hp_oi a = hp_oi b) ↔ a = b := by
  cases a with
  | none =>
    cases b with
    | none => simp
    | some y =>
      have := hb y rfl
      simp only [hp_oi, reduceCtorEq, iff_false]
      exact fun q => hp_ne1 (show y < 2 ^ 31 by omega) q.symm
  | some x =>
    have hx := ha x rfl
    cases b with
    | none =>
      simp only [hp_oi, reduceCtorEq, iff_false]
      exact fun q => hp_ne1 (show x < 2 ^ 31 by omega) q
    | some y =>
      have := hb y rfl
      simp only [hp_oi, Option.some.injEq]
      exact nI_eq (by omega) (by omega)
theorem hp_oi_m1 {a : Option Nat} (ha : ∀ v, a = some v → v < 2000000000) : (hp_oi a = -1) ↔ a = none := hp_oi_inj (b := none) ha (fun v h => by cases h)
theorem hp_oi_ls {a b : Option Nat} (ha : ∀ v, a = some v → v < 2000000000) (hb : ∀ v, b = some v → v < 2000000000) : (¬ hp_oi a = -1 ∧ (hp_oi b = -1 ∨ hp_oi a < hp_oi b)) ↔ hp_ls a b = true := by
  rw [hp_oi_m1 ha, hp_oi_m1 hb]
  cases a with
  | none => simp [hp_ls]
  | some x =>
    cases b with
    | none => simp [hp_ls]
    | some y =>
      have hx := ha x rfl
      have hy := hb y rfl
      simp only [hp_oi, hp_ls, reduceCtorEq, not_false_iff, true_and, false_or, decide_eq_true_eq]
      exact nI_ltI (by omega) (by omega)
set_option maxHeartbeats 1000000 in
theorem sx_isLess (S : hd_S) (post : Option hd_V → hd_S → Prop) (x y : Int32) : wm_X1_isLess [hd_vI x, hd_vI y] S post ↔ post (some (hd_vI (if ¬ x = -1 ∧ (y = -1 ∨ x < y) then 1 else 0))) S := by
  simp only [wm_X1_isLess, wo_X1_isLess, hd_mth, hd_rho0, hd_args, hd_wide, hd_sQ, hd_s0, hd_sI, hd_sJ, hd_sR, hd_sP, hd_sF, hd_sZ, hd_sG, hd_sA, hd_sL, hd_sB, hd_sO, hd_sN, hd_sD, hd_sW, hd_sE, hd_sRI, hd_sRZ, hd_sRJ, hd_sRR, hd_sRV, hd_sSw, hd_sw, hd_sCI, hd_sCL, hd_iK, hd_iL, hd_iU, hd_iB, hd_iD, hd_iJ, hd_iG, hd_iA, hd_iQ, hd_iC, hd_iN, hd_iE, hd_jK, hd_jL, hd_jU, hd_jB, hd_jD, hd_jH, hd_jI, hd_jA, hd_jQ, hd_jN, hd_rL, hd_rG, hd_rA, hd_rN, hd_cI, hd_c0, hd_cJ, hd_cX, hd_cA, hd_cO, hd_v0, hd_pI, hd_pJ, hd_pR, hd_nV, hd_nS, hd_get, hd_st, hd_stW, hd_cut, List.replicate, List.length_cons, List.length_nil, List.nil_append, List.cons_append, Nat.reduceAdd, Nat.reduceSub, Nat.reduceLeDiff, true_and, and_true, if_true, if_false, Bool.false_eq_true, List.append_nil, hd_dn1, decide_eq_true_eq, hd_b01]
  by_cases h1 : x = -1
  · simp [h1]
  · by_cases h2 : y = -1
    · simp [h1, h2]
    · by_cases h3 : x < y
      · simp [h1, h2, h3]
      · simp [h1, h2, h3]
set_option maxHeartbeats 4000000 in
theorem sx_seek_tail {k n : Nat} (kk : Int32) (x : hd_V) {S4 : hd_S} {a b : Option Nat} (hn : n < 128) (ha : ∀ v, a = some v → v < 2000000000) (hb : ∀ v, b = some v → v < 2000000000) (h1 : S4.1 104 n = hp_oi a) (h2 : S4.1 103 4 = hp_oi b) (nrm : List hd_V → hd_S → Prop) (ret : Option hd_V → hd_S → Prop) :
    hd_sW (hd_c0 (fun x => !decide (x = 0)) (hd_iN (hd_nS 2 (hd_pI (hd_pI hd_v0 (hd_iA hs_sh (hd_rG hs_sh 1 3 (hd_rL 0)) (hd_iL 3))) (hd_iG hs_sh 1 4 (hd_rL 0))) wm_X1_isLess))) (hd_sF hs_sh 1 4 (hd_rL 0) (hd_iA hs_sh (hd_rG hs_sh 1 3 (hd_rL 0)) (hd_iL 3))) [hd_vR 103, hd_vI (nI k), hd_vI kk, hd_vI (nI n), x] S4 nrm ret ↔ nrm [hd_vR 103, hd_vI (nI k), hd_vI kk, hd_vI (nI n), x] (if hp_ls a b = true then hd_wI S4 103 4 (hp_oi a) else S4) := by
  simp only [hd_mth, hd_rho0, hd_args, hd_wide, hd_sQ, hd_s0, hd_sI, hd_sJ, hd_sR, hd_sP, hd_sF, hd_sZ, hd_sG, hd_sA, hd_sL, hd_sB, hd_sO, hd_sN, hd_sD, hd_sW, hd_sE, hd_sRI, hd_sRZ, hd_sRJ, hd_sRR, hd_sRV, hd_sSw, hd_sw, hd_sCI, hd_sCL, hd_iK, hd_iL, hd_iU, hd_iB, hd_iD, hd_iJ, hd_iG, hd_iA, hd_iQ, hd_iC, hd_iN, hd_iE, hd_jK, hd_jL, hd_jU, hd_jB, hd_jD, hd_jH, hd_jI, hd_jA, hd_jQ, hd_jN, hd_rL, hd_rG, hd_rA, hd_rN, hd_cI, hd_c0, hd_cJ, hd_cX, hd_cA, hd_cO, hd_v0, hd_pI, hd_pJ, hd_pR, hd_nV, hd_nS, hd_get, hd_st, hd_stW, hd_cut, List.replicate, List.length_cons, List.length_nil, List.nil_append, List.cons_append, Nat.reduceAdd, Nat.reduceSub, Nat.reduceLeDiff, true_and, and_true, if_true, if_false, Bool.false_eq_true, List.append_nil, hs_o_0, hs_r_0_0, hs_t_0_0, hs_r_0_1, hs_t_0_1, hs_r_0_2, hs_t_0_2, hs_r_0_3, hs_t_0_3, hs_r_0_4, hs_t_0_4, hs_r_0_5, hs_t_0_5, hs_r_0_6, hs_t_0_6, hs_r_0_7, hs_t_0_7, hs_f_0_8, hs_o_1, hs_f_1_0, hs_f_1_1, hs_r_1_2, hs_t_1_2, hs_r_1_3, hs_t_1_3, hs_r_1_4, hs_t_1_4, hs_r_1_5, hs_t_1_5, hs_r_1_6, hs_t_1_6, hs_r_1_7, hs_t_1_7, hs_r_1_8, hs_t_1_8, hs_r_1_9, hs_t_1_9, hs_i_2, hs_i_3, hs_i_4, hs_i_5, hs_i_6, hs_i_7, hs_i_8, hs_i_9, hs_o_82, hs_r_82_0, hs_t_82_0, hs_f_82_1, hs_i_83, hs_o_84, hs_r_84_0, hs_t_84_0, hs_r_84_1, hs_t_84_1, hs_r_84_2, hs_t_84_2, hs_r_84_3, hs_t_84_3, hs_f_84_4, hs_i_85, hs_i_86, hs_i_87, hs_o_88, hs_r_88_0, hs_t_88_0, hs_r_88_1, hs_t_88_1, hs_r_88_2, hs_t_88_2, hs_r_88_3, hs_t_88_3, hs_r_88_4, hs_t_88_4, hs_r_88_5, hs_t_88_5, hs_r_88_6, hs_t_88_6, hs_r_88_7, hs_t_88_7, hs_f_88_8, hs_f_88_9, hs_i_89, hs_i_90, hs_i_91, hs_i_92, hs_i_93, hs_i_94, hs_i_95, hs_i_96, hs_i_97, hs_i_98, hs_i_99, hs_i_100, hs_i_101, hs_i_102, hs_o_103, hs_r_103_0, hs_t_103_0, hs_r_103_1, hs_t_103_1, hs_r_103_2, hs_t_103_2, hs_r_103_3, hs_t_103_3, hs_f_103_4, hs_i_104, hs_o_105, hs_r_105_0, hs_t_105_0, hs_r_105_1, hs_t_105_1, hs_r_105_2, hs_t_105_2, hs_i_106, hs_i_107, hs_o_108, hs_r_108_0, hs_t_108_0, hs_r_108_1, hs_t_108_1, hs_r_108_2, hs_t_108_2, hs_r_108_3, hs_t_108_3, hs_f_108_4, hs_i_109, hs_i_110, hs_o_111, hs_r_111_0, hs_t_111_0, hs_r_111_1, hs_t_111_1, hs_f_111_2, hs_f_111_3, hs_f_111_4, hs_i_112, hs_o_113, hs_f_113_0, hs_f_113_1, hs_f_113_2, hs_r_113_3, hs_t_113_3, hs_r_113_4, hs_t_113_4, hs_r_113_5, hs_t_113_5, hs_r_113_6, hs_t_113_6, hs_r_113_7, hs_t_113_7, hs_r_113_8, hs_t_113_8, hs_r_113_9, hs_t_113_9, hs_r_113_10, hs_t_113_10, hs_r_113_11, hs_t_113_11, hs_f_113_12, hs_f_113_13, hs_f_113_14, hs_r_113_15, hs_t_113_15, hs_f_113_16, hs_r_113_17, hs_t_113_17, hs_r_113_18, hs_t_113_18, hs_r_113_19, hs_t_113_19, hs_r_113_20, hs_t_113_20, hs_f_113_21, hs_f_113_22, hs_f_113_23, hs_r_113_24, hs_t_113_24, hs_f_113_25, hs_r_113_26, hs_t_113_26, hs_f_113_27, hs_i_114, hs_i_115, hs_i_116, hs_i_117, hs_i_118, hs_i_119, hs_i_120, hs_i_121, hs_i_122, hs_i_123, hs_i_124, hs_i_125, hs_i_126, hs_i_127, hs_i_128, hs_i_129, vp_in_nI (show n < 128 by omega) (show 128 < 2 ^ 31 by decide), hd_cc (show n < 2147483648 by omega), h1, h2, sx_isLess, hd_t01, hp_oi_ls ha hb, decide_eq_true_eq]
  by_cases hl : hp_ls a b = true
  · simp only [hl, if_true]
  · simp only [hl, if_false, Bool.false_eq_true]
set_option maxHeartbeats 8000000 in
theorem sx_seekBest {S : hd_S} {p : hp_P} {Q : hd_S → Prop} (hp : hp_ok p) (hx : hx_P 1 S p) (hr : hx_R S p) (hQ : Q S) (hF : hx_FS p Q) (hQs : ∀ S S2, hd_eqv [103, 104] S S2 → Q S → Q S2) {k : Nat} (kk : Int32) (hk7 : k < 7) (post : Option hd_V → hd_S → Prop)
    (hk : ∀ S2, hd_eqv (103 :: 104 :: hx_rc) S S2 → Q S2 → S2.1 103 4 = hp_oi (hp_lo (hp_q p k kk) (2 ^ hp_H p)) → (∀ s, s < 2 ^ hp_H p → S2.1 104 s = hp_oi (hp_q p k kk s)) → post none S2) : wm_X1_seekBest [hd_vR 103, hd_vI (nI k), hd_vI kk] S post := by
  have hH : hp_H p ≤ 7 := hp.2.1
  have h128 : 2 ^ hp_H p ≤ 128 := Nat.pow_le_pow_right (n := 2) (by decide) hH
  have hpos : 0 < 2 ^ hp_H p := Nat.two_pow_pos _
  have hqlt : ∀ s v, hp_q p k kk s = some v → v < 2000000000 := fun s v h => hp_q_lt hp h
  have hllt := hp_lo_lt hqlt
  simp only [wm_X1_seekBest, wo_X1_seekBest, hd_mth, hd_rho0, hd_args, hd_wide, hd_sQ, hd_s0, hd_sI, hd_sJ, hd_sR, hd_sP, hd_sF, hd_sZ, hd_sG, hd_sA, hd_sL, hd_sB, hd_sO, hd_sN, hd_sD, hd_sW, hd_sE, hd_sRI, hd_sRZ, hd_sRJ, hd_sRR, hd_sRV, hd_sSw, hd_sw, hd_sCI, hd_sCL, hd_iK, hd_iL, hd_iU, hd_iB, hd_iD, hd_iJ, hd_iG, hd_iA, hd_iQ, hd_iC, hd_iN, hd_iE, hd_jK, hd_jL, hd_jU, hd_jB, hd_jD, hd_jH, hd_jI, hd_jA, hd_jQ, hd_jN, hd_rL, hd_rG, hd_rA, hd_rN, hd_cI, hd_c0, hd_cJ, hd_cX, hd_cA, hd_cO, hd_v0, hd_pI, hd_pJ, hd_pR, hd_nV, hd_nS, hd_get, hd_st, hd_stW, hd_cut, List.replicate, List.length_cons, List.length_nil, List.nil_append, List.cons_append, Nat.reduceAdd, Nat.reduceSub, Nat.reduceLeDiff, true_and, and_true, if_true, if_false, Bool.false_eq_true, List.append_nil, hs_o_0, hs_r_0_0, hs_t_0_0, hs_r_0_1, hs_t_0_1, hs_r_0_2, hs_t_0_2, hs_r_0_3, hs_t_0_3, hs_r_0_4, hs_t_0_4, hs_r_0_5, hs_t_0_5, hs_r_0_6, hs_t_0_6, hs_r_0_7, hs_t_0_7, hs_f_0_8, hs_o_1, hs_f_1_0, hs_f_1_1, hs_r_1_2, hs_t_1_2, hs_r_1_3, hs_t_1_3, hs_r_1_4, hs_t_1_4, hs_r_1_5, hs_t_1_5, hs_r_1_6, hs_t_1_6, hs_r_1_7, hs_t_1_7, hs_r_1_8, hs_t_1_8, hs_r_1_9, hs_t_1_9, hs_i_2, hs_i_3, hs_i_4, hs_i_5, hs_i_6, hs_i_7, hs_i_8, hs_i_9, hs_o_82, hs_r_82_0, hs_t_82_0, hs_f_82_1, hs_i_83, hs_o_84, hs_r_84_0, hs_t_84_0, hs_r_84_1, hs_t_84_1, hs_r_84_2, hs_t_84_2, hs_r_84_3, hs_t_84_3, hs_f_84_4, hs_i_85, hs_i_86, hs_i_87, hs_o_88, hs_r_88_0, hs_t_88_0, hs_r_88_1, hs_t_88_1, hs_r_88_2, hs_t_88_2, hs_r_88_3, hs_t_88_3, hs_r_88_4, hs_t_88_4, hs_r_88_5, hs_t_88_5, hs_r_88_6, hs_t_88_6, hs_r_88_7, hs_t_88_7, hs_f_88_8, hs_f_88_9, hs_i_89, hs_i_90, hs_i_91, hs_i_92, hs_i_93, hs_i_94, hs_i_95, hs_i_96, hs_i_97, hs_i_98, hs_i_99, hs_i_100, hs_i_101, hs_i_102, hs_o_103, hs_r_103_0, hs_t_103_0, hs_r_103_1, hs_t_103_1, hs_r_103_2, hs_t_103_2, hs_r_103_3, hs_t_103_3, hs_f_103_4, hs_i_104, hs_o_105, hs_r_105_0, hs_t_105_0, hs_r_105_1, hs_t_105_1, hs_r_105_2, hs_t_105_2, hs_i_106, hs_i_107, hs_o_108, hs_r_108_0, hs_t_108_0, hs_r_108_1, hs_t_108_1, hs_r_108_2, hs_t_108_2, hs_r_108_3, hs_t_108_3, hs_f_108_4, hs_i_109, hs_i_110, hs_o_111, hs_r_111_0, hs_t_111_0, hs_r_111_1, hs_t_111_1, hs_f_111_2, hs_f_111_3, hs_f_111_4, hs_i_112, hs_o_113, hs_f_113_0, hs_f_113_1, hs_f_113_2, hs_r_113_3, hs_t_113_3, hs_r_113_4, hs_t_113_4, hs_r_113_5, hs_t_113_5, hs_r_113_6, hs_t_113_6, hs_r_113_7, hs_t_113_7, hs_r_113_8, hs_t_113_8, hs_r_113_9, hs_t_113_9, hs_r_113_10, hs_t_113_10, hs_r_113_11, hs_t_113_11, hs_f_113_12, hs_f_113_13, hs_f_113_14, hs_r_113_15, hs_t_113_15, hs_f_113_16, hs_r_113_17, hs_t_113_17, hs_r_113_18, hs_t_113_18, hs_r_113_19, hs_t_113_19, hs_r_113_20, hs_t_113_20, hs_f_113_21, hs_f_113_22, hs_f_113_23, hs_r_113_24, hs_t_113_24, hs_f_113_25, hs_r_113_26, hs_t_113_26, hs_f_113_27, hs_i_114, hs_i_115, hs_i_116, hs_i_117, hs_i_118, hs_i_119, hs_i_120, hs_i_121, hs_i_122, hs_i_123, hs_i_124, hs_i_125, hs_i_126, hs_i_127, hs_i_128, hs_i_129]
  refine hd_up (S := hd_wI S 103 4 (-1)) (fun n ρ S2 => hd_eqv (103 :: 104 :: hx_rc) S S2 ∧ Q S2 ∧ S2.1 103 4 = hp_oi (hp_lo (hp_q p k kk) n) ∧ (∀ s, s < n → S2.1 104 s = hp_oi (hp_q p k kk s)) ∧ ∃ x : hd_V, ρ = [hd_vR 103, hd_vI (nI k), hd_vI kk, hd_vI (nI n), x]) (2 ^ hp_H p) ?_ ?_ (Nat.zero_le _) ⟨hd_eqv_w (hd_eqv_rf _ _) (by decide), hQs _ _ (hd_eqv_w (hd_eqv_rf _ _) (by decide)) hQ, by rw [hd_wI1]; rfl, fun s hs => by omega, _, rfl⟩
  · rintro n ρ S2 K hn ⟨he, hQ2, hl, has, x, rfl⟩ hK
    have hx2 : hx_P 1 S2 p := hx_P_eqv he (by decide) hx
    have hr2 : hx_R S2 p := hx_R_eqv he (by decide) (by decide) (by decide) hr
    have hx21 : S2.1 1 1 = nI (hp_H p) := hx2.2.1
    have hpc := hb_pc_le n 8
    have rest : ∀ (S3 : hd_S) (y : hd_V), hd_eqv (103 :: 104 :: hx_rc) S S3 → Q S3 → S3.1 103 4 = hp_oi (hp_lo (hp_q p k kk) n) → (∀ s, s < n → S3.1 104 s = hp_oi (hp_q p k kk s)) → K [hd_vR 103, hd_vI (nI k), hd_vI kk, hd_vI (nI (n + 1)), y] (if hp_ls (hp_q p k kk n) (hp_lo (hp_q p k kk) n) = true then hd_wI (hd_wI S3 104 n (hp_oi (hp_q p k kk n))) 103 4 (hp_oi (hp_q p k kk n)) else hd_wI S3 104 n (hp_oi (hp_q p k kk n))) := by
      intro S3 y he3 hQ3 hl3 has3
      have hQ4 : Q (hd_wI S3 104 n (hp_oi (hp_q p k kk n))) := hQs _ _ (hd_eqv_w (hd_eqv_rf _ _) (by decide)) hQ3
      by_cases hc : hp_ls (hp_q p k kk n) (hp_lo (hp_q p k kk) n) = true
      · rw [if_pos hc]
        refine hK _ _ ⟨hd_eqv_w (hd_eqv_w he3 (by decide)) (by decide), hQs _ _ (hd_eqv_w (hd_eqv_rf _ _) (by decide)) hQ4, ?_, fun s hs => ?_, y, rfl⟩
        · rw [hd_wI1, if_pos ⟨rfl, rfl⟩]
          simp only [hp_lo, hc, if_true]
        · rw [hd_wI1, if_neg (fun q => absurd q.1 (by decide)), hd_wI1]
          by_cases hsn : s = n
          · rw [if_pos ⟨rfl, hsn⟩, hsn]
          · rw [if_neg (fun q => hsn q.2)]
            exact has3 s (by omega)
      · rw [if_neg hc]
        refine hK _ _ ⟨hd_eqv_w he3 (by decide), hQ4, ?_, fun s hs => ?_, y, rfl⟩
        · rw [hd_wI1, if_neg (fun q => absurd q.1 (by decide)), hl3]
          simp only [hp_lo, hc, if_false, Bool.false_eq_true]
        · rw [hd_wI1]
          by_cases hsn : s = n
          · rw [if_pos ⟨rfl, hsn⟩, hsn]
          · rw [if_neg (fun q => hsn q.2)]
            exact has3 s (by omega)
    have yes : (kk = -1 ∨ nI (hb_pc n 8) = kk) → ∀ (post : Option hd_V → hd_S → Prop), (∀ S3, hd_eqv hx_rc S2 S3 → Q S3 → post (some (hd_vI (hp_oi (hp_q p k kk n)))) S3) → wm_X1_costOf [hd_vR 103, hd_vI (nI k), hd_vI (nI n)] S2 post := by
      intro hc post hpo
      refine sx_costOf hp hx2 hr2 hQ2 hF hk7 hn post (fun S3 he3 hQ3 => ?_)
      have := hpo S3 he3 hQ3
      unfold hp_q at this
      rw [if_pos hc] at this
      exact this
    have fin : ∀ (S3 : hd_S), hd_eqv hx_rc S2 S3 → Q S3 → ∀ y : hd_V, K [hd_vR 103, hd_vI (nI k), hd_vI kk, hd_vI (nI (n + 1)), y] (if hp_ls (hp_q p k kk n) (hp_lo (hp_q p k kk) n) = true then hd_wI (hd_wI S3 104 n (hp_oi (hp_q p k kk n))) 103 4 (hp_oi (hp_q p k kk n)) else hd_wI S3 104 n (hp_oi (hp_q p k kk n))) := by
      intro S3 he3 hQ3 y
      refine rest S3 y (hd_eqv_tr he (hd_eqv_sub he3 (by decide))) hQ3 ?_ (fun s hs => ?_)
      · rw [he3.1 103 (by decide)]
        exact hl
      · rw [he3.1 104 (by decide)]
        exact has s hs
    have tail : ∀ (S3 : hd_S), hd_eqv hx_rc S2 S3 → ∀ y nrm ret, hd_sW (hd_c0 (fun x => !decide (x = 0)) (hd_iN (hd_nS 2 (hd_pI (hd_pI hd_v0 (hd_iA hs_sh (hd_rG hs_sh 1 3 (hd_rL 0)) (hd_iL 3))) (hd_iG hs_sh 1 4 (hd_rL 0))) wm_X1_isLess))) (hd_sF hs_sh 1 4 (hd_rL 0) (hd_iA hs_sh (hd_rG hs_sh 1 3 (hd_rL 0)) (hd_iL 3))) [hd_vR 103, hd_vI (nI k), hd_vI kk, hd_vI (nI n), y] (hd_wI S3 104 n (hp_oi (hp_q p k kk n))) nrm ret ↔ nrm [hd_vR 103, hd_vI (nI k), hd_vI kk, hd_vI (nI n), y] (if hp_ls (hp_q p k kk n) (hp_lo (hp_q p k kk) n) = true then hd_wI (hd_wI S3 104 n (hp_oi (hp_q p k kk n))) 103 4 (hp_oi (hp_q p k kk n)) else hd_wI S3 104 n (hp_oi (hp_q p k kk n))) := by
      intro S3 he3 y nrm ret
      refine sx_seek_tail kk y (by omega) (hqlt n) (hllt n) ?_ ?_ nrm ret
      · rw [hd_wI1, if_pos ⟨rfl, rfl⟩]
      · rw [hd_wI1, if_neg (fun q => absurd q.1 (by decide)), he3.1 103 (by decide)]
        exact hl
    simp only [wc_X1_seekBest_7, wb_X1_seekBest_7, hd_mth, hd_rho0, hd_args, hd_wide, hd_sQ, hd_s0, hd_sI, hd_sJ, hd_sR, hd_sP, hd_sF, hd_sZ, hd_sG, hd_sA, hd_sL, hd_sB, hd_sO, hd_sN, hd_sD, hd_sE, hd_sRI, hd_sRZ, hd_sRJ, hd_sRR, hd_sRV, hd_sSw, hd_sw, hd_sCI, hd_sCL, hd_iK, hd_iL, hd_iU, hd_iB, hd_iD, hd_iJ, hd_iG, hd_iA, hd_iQ, hd_iC, hd_iN, hd_iE, hd_jK, hd_jL, hd_jU, hd_jB, hd_jD, hd_jH, hd_jI, hd_jA, hd_jQ, hd_jN, hd_rL, hd_rG, hd_rA, hd_rN, hd_cI, hd_c0, hd_cJ, hd_cX, hd_cA, hd_cO, hd_v0, hd_pI, hd_pJ, hd_pR, hd_nV, hd_nS, hd_get, hd_st, hd_stW, hd_cut, List.replicate, List.length_cons, List.length_nil, List.nil_append, List.cons_append, Nat.reduceAdd, Nat.reduceSub, Nat.reduceLeDiff, true_and, and_true, if_true, if_false, Bool.false_eq_true, List.append_nil, hs_o_0, hs_r_0_0, hs_t_0_0, hs_r_0_1, hs_t_0_1, hs_r_0_2, hs_t_0_2, hs_r_0_3, hs_t_0_3, hs_r_0_4, hs_t_0_4, hs_r_0_5, hs_t_0_5, hs_r_0_6, hs_t_0_6, hs_r_0_7, hs_t_0_7, hs_f_0_8, hs_o_1, hs_f_1_0, hs_f_1_1, hs_r_1_2, hs_t_1_2, hs_r_1_3, hs_t_1_3, hs_r_1_4, hs_t_1_4, hs_r_1_5, hs_t_1_5, hs_r_1_6, hs_t_1_6, hs_r_1_7, hs_t_1_7, hs_r_1_8, hs_t_1_8, hs_r_1_9, hs_t_1_9, hs_i_2, hs_i_3, hs_i_4, hs_i_5, hs_i_6, hs_i_7, hs_i_8, hs_i_9, hs_o_82, hs_r_82_0, hs_t_82_0, hs_f_82_1, hs_i_83, hs_o_84, hs_r_84_0, hs_t_84_0, hs_r_84_1, hs_t_84_1, hs_r_84_2, hs_t_84_2, hs_r_84_3, hs_t_84_3, hs_f_84_4, hs_i_85, hs_i_86, hs_i_87, hs_o_88, hs_r_88_0, hs_t_88_0, hs_r_88_1, hs_t_88_1, hs_r_88_2, hs_t_88_2, hs_r_88_3, hs_t_88_3, hs_r_88_4, hs_t_88_4, hs_r_88_5, hs_t_88_5, hs_r_88_6, hs_t_88_6, hs_r_88_7, hs_t_88_7, hs_f_88_8, hs_f_88_9, hs_i_89, hs_i_90, hs_i_91, hs_i_92, hs_i_93, hs_i_94, hs_i_95, hs_i_96, hs_i_97, hs_i_98, hs_i_99, hs_i_100, hs_i_101, hs_i_102, hs_o_103, hs_r_103_0, hs_t_103_0, hs_r_103_1, hs_t_103_1, hs_r_103_2, hs_t_103_2, hs_r_103_3, hs_t_103_3, hs_f_103_4, hs_i_104, hs_o_105, hs_r_105_0, hs_t_105_0, hs_r_105_1, hs_t_105_1, hs_r_105_2, hs_t_105_2, hs_i_106, hs_i_107, hs_o_108, hs_r_108_0, hs_t_108_0, hs_r_108_1, hs_t_108_1, hs_r_108_2, hs_t_108_2, hs_r_108_3, hs_t_108_3, hs_f_108_4, hs_i_109, hs_i_110, hs_o_111, hs_r_111_0, hs_t_111_0, hs_r_111_1, hs_t_111_1, hs_f_111_2, hs_f_111_3, hs_f_111_4, hs_i_112, hs_o_113, hs_f_113_0, hs_f_113_1, hs_f_113_2, hs_r_113_3, hs_t_113_3, hs_r_113_4, hs_t_113_4, hs_r_113_5, hs_t_113_5, hs_r_113_6, hs_t_113_6, hs_r_113_7, hs_t_113_7, hs_r_113_8, hs_t_113_8, hs_r_113_9, hs_t_113_9, hs_r_113_10, hs_t_113_10, hs_r_113_11, hs_t_113_11, hs_f_113_12, hs_f_113_13, hs_f_113_14, hs_r_113_15, hs_t_113_15, hs_f_113_16, hs_r_113_17, hs_t_113_17, hs_r_113_18, hs_t_113_18, hs_r_113_19, hs_t_113_19, hs_r_113_20, hs_t_113_20, hs_f_113_21, hs_f_113_22, hs_f_113_23, hs_r_113_24, hs_t_113_24, hs_f_113_25, hs_r_113_26, hs_t_113_26, hs_f_113_27, hs_i_114, hs_i_115, hs_i_116, hs_i_117, hs_i_118, hs_i_119, hs_i_120, hs_i_121, hs_i_122, hs_i_123, hs_i_124, hs_i_125, hs_i_126, hs_i_127, hs_i_128, hs_i_129, sp_X5_everyHall, hx21, hb_all (show hp_H p < 31 by omega), hb_le (show n < 2 ^ 31 by omega) (show 2 ^ hp_H p - 1 < 2 ^ 31 by omega), show n ≤ 2 ^ hp_H p - 1 by omega, decide_true, sp_bitCount n (show n < 256 by omega), vp_in_nI (show n < 128 by omega) (show 128 < 2 ^ 31 by decide), hd_cc (show n < 2147483648 by omega), nI_1, decide_eq_true_eq]
    by_cases hkk : kk = -1
    · simp only [hkk, if_true, show ¬ ((1 : Int32) = 0) by decide, not_false_iff, decide_false, Bool.not_false]
      rw [← hkk]
      refine yes (Or.inl hkk) _ (fun S3 he3 hQ3 => ?_)
      simp only [tail S3 he3, hd_get, hd_st, nI_1]
      exact fin S3 he3 hQ3 _
    · by_cases hpk : nI (hb_pc n 8) = kk
      · simp only [hkk, hpk, if_true, if_false, show ¬ ((1 : Int32) = 0) by decide, not_false_iff, decide_false, Bool.not_false]
        refine yes (Or.inr hpk) _ (fun S3 he3 hQ3 => ?_)
        simp only [tail S3 he3, hd_get, hd_st, nI_1]
        exact fin S3 he3 hQ3 _
      · have e : (-1 : Int32) = hp_oi (hp_q p k kk n) := by
          unfold hp_q
          rw [if_neg (by rintro (q | q); exact hkk q; exact hpk q)]
          rfl
        simp only [hkk, hpk, if_false, decide_true, Bool.not_true, Bool.false_eq_true]
        rw [e]
        simp only [tail S2 (hd_eqv_rf _ _), hd_get, hd_st, nI_1]
        exact fin S2 (hd_eqv_rf _ _) hQ2 _
  · rintro ρ S2 K ⟨he, hQ2, hl, has, x, rfl⟩
    have hx2 : hx_P 1 S2 p := hx_P_eqv he (by decide) hx
    have hx21 : S2.1 1 1 = nI (hp_H p) := hx2.2.1
    simp only [wc_X1_seekBest_7, hd_mth, hd_rho0, hd_args, hd_wide, hd_sQ, hd_s0, hd_sI, hd_sJ, hd_sR, hd_sP, hd_sF, hd_sZ, hd_sG, hd_sA, hd_sL, hd_sB, hd_sO, hd_sN, hd_sD, hd_sW, hd_sE, hd_sRI, hd_sRZ, hd_sRJ, hd_sRR, hd_sRV, hd_sSw, hd_sw, hd_sCI, hd_sCL, hd_iK, hd_iL, hd_iU, hd_iB, hd_iD, hd_iJ, hd_iG, hd_iA, hd_iQ, hd_iC, hd_iN, hd_iE, hd_jK, hd_jL, hd_jU, hd_jB, hd_jD, hd_jH, hd_jI, hd_jA, hd_jQ, hd_jN, hd_rL, hd_rG, hd_rA, hd_rN, hd_cI, hd_c0, hd_cJ, hd_cX, hd_cA, hd_cO, hd_v0, hd_pI, hd_pJ, hd_pR, hd_nV, hd_nS, hd_get, hd_st, hd_stW, hd_cut, List.replicate, List.length_cons, List.length_nil, List.nil_append, List.cons_append, Nat.reduceAdd, Nat.reduceSub, Nat.reduceLeDiff, true_and, and_true, if_true, if_false, Bool.false_eq_true, List.append_nil, hs_o_0, hs_r_0_0, hs_t_0_0, hs_r_0_1, hs_t_0_1, hs_r_0_2, hs_t_0_2, hs_r_0_3, hs_t_0_3, hs_r_0_4, hs_t_0_4, hs_r_0_5, hs_t_0_5, hs_r_0_6, hs_t_0_6, hs_r_0_7, hs_t_0_7, hs_f_0_8, hs_o_1, hs_f_1_0, hs_f_1_1, hs_r_1_2, hs_t_1_2, hs_r_1_3, hs_t_1_3, hs_r_1_4, hs_t_1_4, hs_r_1_5, hs_t_1_5, hs_r_1_6, hs_t_1_6, hs_r_1_7, hs_t_1_7, hs_r_1_8, hs_t_1_8, hs_r_1_9, hs_t_1_9, hs_i_2, hs_i_3, hs_i_4, hs_i_5, hs_i_6, hs_i_7, hs_i_8, hs_i_9, hs_o_82, hs_r_82_0, hs_t_82_0, hs_f_82_1, hs_i_83, hs_o_84, hs_r_84_0, hs_t_84_0, hs_r_84_1, hs_t_84_1, hs_r_84_2, hs_t_84_2, hs_r_84_3, hs_t_84_3, hs_f_84_4, hs_i_85, hs_i_86, hs_i_87, hs_o_88, hs_r_88_0, hs_t_88_0, hs_r_88_1, hs_t_88_1, hs_r_88_2, hs_t_88_2, hs_r_88_3, hs_t_88_3, hs_r_88_4, hs_t_88_4, hs_r_88_5, hs_t_88_5, hs_r_88_6, hs_t_88_6, hs_r_88_7, hs_t_88_7, hs_f_88_8, hs_f_88_9, hs_i_89, hs_i_90, hs_i_91, hs_i_92, hs_i_93, hs_i_94, hs_i_95, hs_i_96, hs_i_97, hs_i_98, hs_i_99, hs_i_100, hs_i_101, hs_i_102, hs_o_103, hs_r_103_0, hs_t_103_0, hs_r_103_1, hs_t_103_1, hs_r_103_2, hs_t_103_2, hs_r_103_3, hs_t_103_3, hs_f_103_4, hs_i_104, hs_o_105, hs_r_105_0, hs_t_105_0, hs_r_105_1, hs_t_105_1, hs_r_105_2, hs_t_105_2, hs_i_106, hs_i_107, hs_o_108, hs_r_108_0, hs_t_108_0, hs_r_108_1, hs_t_108_1, hs_r_108_2, hs_t_108_2, hs_r_108_3, hs_t_108_3, hs_f_108_4, hs_i_109, hs_i_110, hs_o_111, hs_r_111_0, hs_t_111_0, hs_r_111_1, hs_t_111_1, hs_f_111_2, hs_f_111_3, hs_f_111_4, hs_i_112, hs_o_113, hs_f_113_0, hs_f_113_1, hs_f_113_2, hs_r_113_3, hs_t_113_3, hs_r_113_4, hs_t_113_4, hs_r_113_5, hs_t_113_5, hs_r_113_6, hs_t_113_6, hs_r_113_7, hs_t_113_7, hs_r_113_8, hs_t_113_8, hs_r_113_9, hs_t_113_9, hs_r_113_10, hs_t_113_10, hs_r_113_11, hs_t_113_11, hs_f_113_12, hs_f_113_13, hs_f_113_14, hs_r_113_15, hs_t_113_15, hs_f_113_16, hs_r_113_17, hs_t_113_17, hs_r_113_18, hs_t_113_18, hs_r_113_19, hs_t_113_19, hs_r_113_20, hs_t_113_20, hs_f_113_21, hs_f_113_22, hs_f_113_23, hs_r_113_24, hs_t_113_24, hs_f_113_25, hs_r_113_26, hs_t_113_26, hs_f_113_27, hs_i_114, hs_i_115, hs_i_116, hs_i_117, hs_i_118, hs_i_119, hs_i_120, hs_i_121, hs_i_122, hs_i_123, hs_i_124, hs_i_125, hs_i_126, hs_i_127, hs_i_128, hs_i_129, sp_X5_everyHall, hx21, hb_all (show hp_H p < 31 by omega), hb_le (show 2 ^ hp_H p < 2 ^ 31 by omega) (show 2 ^ hp_H p - 1 < 2 ^ 31 by omega), show ¬ (2 ^ hp_H p ≤ 2 ^ hp_H p - 1) by omega, decide_false]
    exact hk S2 he hQ2 hl has
