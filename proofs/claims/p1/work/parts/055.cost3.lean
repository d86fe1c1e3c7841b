/-! rooms: whole towns into halls; the least filling by its number; what sets cost, by kinds -/
def hp_cd (p : hp_P) (f : Nat → Nat) (t : Nat) : Nat := hp_cr p t * hp_wy p (f t) t * 16777216 + f t * 2 ^ (3 * (7 - t))
def hp_code (p : hp_P) (f : Nat → Nat) : Nat := fb_sm (hp_cd p f) (hp_T p)
def hp_fz (p : hp_P) (s : Nat) (f : Nat → Nat) : Prop := (∀ t, t < hp_T p → f t < hp_H p ∧ s.testBit (f t) = true) ∧ ∀ h, h < hp_H p → fb_sm (fun t => if f t = h then hp_cr p t else 0) (hp_T p) ≤ hp_ro p h
def hp_isrm (p : hp_P) (s : Nat) (o : Option Nat) : Prop := match o with
  | none => ∀ f, ¬ hp_fz p s f
  | some c => (∃ f, hp_fz p s f ∧ hp_code p f = c) ∧ ∀ f, hp_fz p s f → c ≤ hp_code p f
theorem hp_least {P : Nat → Prop} : ∀ n, P n → ∃ m, P m ∧ ∀ k, P k → m ≤ k := by
  intro n
  induction n using Nat.strongRecOn with
  | ind n ih =>
    intro h
    by_cases hx : ∃ k, k < n ∧ P k
    · obtain ⟨k, hk, hp⟩ := hx
      exact ih k hk hp
    · refine ⟨n, h, fun k hk => ?_⟩
      rcases Nat.lt_or_ge k n with q | q
      · exact absurd ⟨k, q, hk⟩ hx
      · exact q
theorem hp_rm_ex (p : hp_P) (s : Nat) : ∃ o, hp_isrm p s o := by
  by_cases h : ∃ f, hp_fz p s f
  · obtain ⟨f, hf⟩ := h
    obtain ⟨m, ⟨g, hg, hg2⟩, hm⟩ := hp_least (P := fun c => ∃ f, hp_fz p s f ∧ hp_code p f = c) (hp_code p f) ⟨f, hf, rfl⟩
    exact ⟨some m, ⟨g, hg, hg2⟩, fun f hf => hm _ ⟨f, hf, rfl⟩⟩
  · exact ⟨none, fun f hf => h ⟨f, hf⟩⟩
noncomputable def hp_rmc (p : hp_P) (s : Nat) : Option Nat := Classical.choose (hp_rm_ex p s)
theorem hp_rmc_is (p : hp_P) (s : Nat) : hp_isrm p s (hp_rmc p s) := Classical.choose_spec (hp_rm_ex p s)
theorem hp_rmc_eq {p : hp_P} {s : Nat} {o : Option Nat} (h : hp_isrm p s o) : hp_rmc p s = o := by
  have h2 := hp_rmc_is p s
  generalize hp_rmc p s = q at h2
  cases o with
  | none =>
    cases q with
    | none => rfl
    | some c =>
      obtain ⟨⟨f, hf, -⟩, -⟩ := h2
      exact absurd hf (h f)
  | some a =>
    obtain ⟨⟨f, hf, hfa⟩, ha⟩ := h
    cases q with
    | none => exact absurd hf (h2 f)
    | some c =>
      obtain ⟨⟨g, hg, hgc⟩, hc⟩ := h2
      have h1 := ha g hg
      have h3 := hc f hf
      congr 1
      omega
theorem hp_cd_le {p : hp_P} (hp : hp_ok p) {f : Nat → Nat} {t : Nat} (ht : t < hp_T p) (hf : f t < hp_H p) : hp_cd p f t ≤ 335544320000000 + 14680064 := by
  have hT := hp.1
  have hH := hp.2.1
  have h1 : hp_cr p t * hp_wy p (f t) t ≤ 20 * 1000000 := Nat.mul_le_mul (hp.2.2.2.1 t) (hp.way hf (by omega))
  have h2 : hp_cr p t * hp_wy p (f t) t * 16777216 ≤ 20 * 1000000 * 16777216 := Nat.mul_le_mul_right _ h1
  have h3 : f t * 2 ^ (3 * (7 - t)) ≤ 7 * 2 ^ 21 := Nat.mul_le_mul (by omega) (Nat.pow_le_pow_right (by decide) (by omega))
  exact Nat.add_le_add (Nat.le_trans h2 (by decide)) (Nat.le_trans h3 (by decide))
theorem hp_code_lt {p : hp_P} (hp : hp_ok p) {s : Nat} {f : Nat → Nat} (hf : hp_fz p s f) : hp_code p f < 2 ^ 53 := by
  have h1 : hp_code p f ≤ hp_T p * (335544320000000 + 14680064) := fb_sm_bound (fun k hk => hp_cd_le hp hk (hf.1 k hk).1)
  have h2 : hp_T p * (335544320000000 + 14680064) ≤ 8 * (335544320000000 + 14680064) := Nat.mul_le_mul_right _ hp.1
  exact Nat.lt_of_le_of_lt (Nat.le_trans h1 h2) (by decide)
theorem hp_rmc_lt {p : hp_P} (hp : hp_ok p) {s c : Nat} (h : hp_rmc p s = some c) : c < 2 ^ 53 := by
  have h2 := hp_rmc_is p s
  rw [h] at h2
  obtain ⟨⟨f, hf, rfl⟩, -⟩ := h2
  exact hp_code_lt hp hf
theorem hp_rmc_0 {p : hp_P} {s : Nat} (hs : s = 0 ∧ ¬ hp_T p = 0) : hp_rmc p s = none := by
  refine hp_rmc_eq (o := none) (fun f hf => ?_)
  have := (hf.1 0 (by omega)).2
  rw [hs.1, Nat.zero_testBit] at this
  cases this
/-- the filling as the class tells it -/
def hp_fl (o : Option Nat) : Int64 := match o with
  | none => 1152921504606846976
  | some c => lN c
/-- what a set costs, by kinds -/
noncomputable def hp_cost (p : hp_P) (k s : Nat) : Option Nat :=
  if k = 0 then (if s = 0 ∧ ¬ hp_T p = 0 then none else some (hp_sa p s (hp_T p)))
  else if k = 1 then (if s = 0 ∧ ¬ hp_T p = 0 then none else some (hp_mx p s (hp_T p)))
  else if k = 2 then (if s = 0 ∧ ¬ hp_T p = 0 then none else some (hp_sa p s (hp_T p) + hp_prs p s (hp_H p)))
  else if k = 3 then (hp_rmc p s).map (fun c => c / 16777216 + hp_prs p s (hp_H p))
  else if k = 4 then some (hp_fs p s (hp_T p))
  else if k = 5 then (if hb_pc s 8 < 2 then none else some (hp_cl p s))
  else (if s = 0 then none else some (hp_rv p s))
/-- nothing but the int and long cells of cs has changed -/
def hd_eqv (cs : List Nat) (S S2 : hd_S) : Prop := (∀ c, c ∉ cs → S2.1 c = S.1 c) ∧ (∀ c, c ∉ cs → S2.2.1 c = S.2.1 c) ∧ S2.2.2 = S.2.2
theorem hd_eqv_rf (cs : List Nat) (S : hd_S) : hd_eqv cs S S := ⟨fun _ _ => rfl, fun _ _ => rfl, rfl⟩
theorem hd_eqv_tr {cs : List Nat} {S S2 S3 : hd_S} (h : hd_eqv cs S S2) (h2 : hd_eqv cs S2 S3) : hd_eqv cs S S3 := ⟨fun c hc => (h2.1 c hc).trans (h.1 c hc), fun c hc => (h2.2.1 c hc).trans (h.2.1 c hc), h2.2.2.trans h.2.2⟩
theorem hd_eqv_x {cs : List Nat} {S S2 : hd_S} (h : hd_eqx cs S S2) : hd_eqv cs S S2 := ⟨h.1, fun c _ => by rw [h.2], by rw [h.2]⟩
theorem hd_eqv_sub {cs ds : List Nat} {S S2 : hd_S} (h : hd_eqv cs S S2) (hs : ∀ c, c ∈ cs → c ∈ ds) : hd_eqv ds S S2 := ⟨fun c hc => h.1 c (fun q => hc (hs c q)), fun c hc => h.2.1 c (fun q => hc (hs c q)), h.2.2⟩
theorem hd_eqx_sub {cs ds : List Nat} {S S2 : hd_S} (h : hd_eqx cs S S2) (hs : ∀ c, c ∈ cs → c ∈ ds) : hd_eqx ds S S2 := ⟨fun c hc => h.1 c (fun q => hc (hs c q)), h.2⟩
theorem hd_eqv_w {cs : List Nat} {S S2 : hd_S} {c i : Nat} {v : Int32} (h : hd_eqv cs S S2) (hc : c ∈ cs) : hd_eqv cs S (hd_wI S2 c i v) := by
  refine ⟨fun a ha => ?_, h.2⟩
  have hne : ¬ a = c := fun q => ha (q ▸ hc)
  rw [← h.1 a ha]
  simp [hd_wI, va_up, hne]
theorem hd_eqv_l {cs : List Nat} {S S2 : hd_S} {c i : Nat} {v : Int64} (h : hd_eqv cs S S2) (hc : c ∈ cs) : hd_eqv cs S (hd_wL S2 c i v) := by
  refine ⟨h.1, fun a ha => ?_, h.2.2⟩
  have hne : ¬ a = c := fun q => ha (q ▸ hc)
  rw [← h.2.1 a ha]
  simp [hd_wL, va_up, hne]
theorem hx_P_eqv {cs : List Nat} {S S2 : hd_S} {p : hp_P} (h : hd_eqv cs S S2) (hcs : ∀ c, c ∈ cs → 9 < c) (hx : hx_P 1 S p) : hx_P 1 S2 p := by
  have e : ∀ c, c ≤ 9 → S2.1 c = S.1 c := fun c hc => h.1 c (fun q => by have := hcs c q; omega)
  unfold hx_P at hx ⊢
  rw [e 1 (by omega), e (1 + 1) (by omega), e (1 + 2) (by omega), e (1 + 3) (by omega), e (1 + 4) (by omega), e (1 + 5) (by omega), e (1 + 6) (by omega), e (1 + 7) (by omega), e (1 + 8) (by omega)]
  exact hx
theorem hx_R_eqv {cs : List Nat} {S S2 : hd_S} {p : hp_P} (h : hd_eqv cs S S2) (h1 : 85 ∉ cs) (h2 : 86 ∉ cs) (h3 : 87 ∉ cs) (hr : hx_R S p) : hx_R S2 p := by
  intro s hs
  have := hr s hs
  unfold hx_r at this ⊢
  rw [h.1 85 h1, h.1 86 h2, h.1 87 h3]
  exact this
/-- the cells of the rooms' tables -/
def hx_rc : List Nat := [88, 89, 90, 91, 92, 93, 94, 95, 96, 97, 98, 99, 100, 101, 102]
/-- what the least fillings are asked for: Q holds of the tables, and keeps -/
def hx_FS (p : hp_P) (Q : hd_S → Prop) : Prop := ∀ (S : hd_S) (s : Nat) (post : Option hd_V → hd_S → Prop), hx_P 1 S p → hx_R S p → Q S → s < 2 ^ hp_H p → (∀ S2, hd_eqv hx_rc S S2 → Q S2 → post (some (hd_vJ (hp_fl (hp_rmc p s)))) S2) → wm_X7_fillingOf [hd_vR 88, hd_vI (nI s)] S post
theorem hb_sw (j : Nat) (hj : j < 2 ^ 31) {k : Nat} (hk : k < 2 ^ 31) : (nI k = Int32.ofNat j) ↔ k = j := nI_eq hk hj
theorem hp_fl_none : hp_fl none = 1152921504606846976 := rfl
theorem hp_lne {c : Nat} (h : c < 2 ^ 53) : ¬ lN c = 1152921504606846976 := by
  intro q
  have := (pk_lEQ (a := c) (b := 1152921504606846976) (Nat.lt_trans h (by decide)) (by decide)).mp q
  rw [this] at h
  exact absurd h (by decide)
set_option maxHeartbeats 1000000 in
theorem sx_tripsOf {o : Option Nat} (ho : ∀ c, o = some c → c < 2 ^ 53) (S : hd_S) (post : Option hd_V → hd_S → Prop) : wm_X7_tripsOf [hd_vJ (hp_fl o)] S post ↔ post (some (hd_vI (hp_oi (o.map (fun c => c / 16777216))))) S := by
  simp only [wm_X7_tripsOf, wo_X7_tripsOf, hd_mth, hd_rho0, hd_args, hd_wide, hd_sQ, hd_s0, hd_sI, hd_sJ, hd_sR, hd_sP, hd_sF, hd_sZ, hd_sG, hd_sA, hd_sL, hd_sB, hd_sO, hd_sN, hd_sD, hd_sW, hd_sE, hd_sRI, hd_sRZ, hd_sRJ, hd_sRR, hd_sRV, hd_sSw, hd_sw, hd_sCI, hd_sCL, hd_iK, hd_iL, hd_iU, hd_iB, hd_iD, hd_iJ, hd_iG, hd_iA, hd_iQ, hd_iC, hd_iN, hd_iE, hd_jK, hd_jL, hd_jU, hd_jB, hd_jD, hd_jH, hd_jI, hd_jA, hd_jQ, hd_jN, hd_rL, hd_rG, hd_rA, hd_rN, hd_cI, hd_c0, hd_cJ, hd_cX, hd_cA, hd_cO, hd_v0, hd_pI, hd_pJ, hd_pR, hd_nV, hd_nS, hd_get, hd_st, hd_stW, hd_cut, List.replicate, List.length_cons, List.length_nil, List.nil_append, List.cons_append, Nat.reduceAdd, Nat.reduceSub, Nat.reduceLeDiff, true_and, and_true, if_true, if_false, Bool.false_eq_true, List.append_nil]
  cases o with
  | none =>
    simp only [hp_fl, decide_true, if_true]
    exact Iff.rfl
  | some c =>
    have hc := ho c rfl
    have e : lN c >>> ((24 : Int32).toInt64 &&& 63) = lN (c / 16777216) := pf_shr (d := 24) (by decide) (Nat.lt_trans hc (by decide))
    simp only [hp_fl, hp_lne hc, decide_false, Bool.false_eq_true, if_false, e, lN_i]
    exact Iff.rfl
set_option maxHeartbeats 4000000 in
theorem sx_costOf {S : hd_S} {p : hp_P} {Q : hd_S → Prop} (hp : hp_ok p) (hx : hx_P 1 S p) (hr : hx_R S p) (hQ : Q S) (hF : hx_FS p Q) {k s : Nat} (hk7 : k < 7) (hs : s < 2 ^ hp_H p) (post : Option hd_V → hd_S → Prop)
    (hk : ∀ S2, hd_eqv hx_rc S S2 → Q S2 → post (some (hd_vI (hp_oi (hp_cost p k s)))) S2) : wm_X1_costOf [hd_vR 103, hd_vI (nI k), hd_vI (nI s)] S post := by
  have hH : hp_H p ≤ 7 := hp.2.1
  have h128 := hp_set128 hp hs
  have hk0 := hk S (hd_eqv_rf _ _) hQ
  have c7 : k = 0 ∨ k = 1 ∨ k = 2 ∨ k = 3 ∨ k = 4 ∨ k = 5 ∨ k = 6 := by omega
  rcases c7 with rfl | rfl | rfl | rfl | rfl | rfl | rfl
  · simp only [wm_X1_costOf, wo_X1_costOf, hd_mth, hd_rho0, hd_args, hd_wide, hd_sQ, hd_s0, hd_sI, hd_sJ, hd_sR, hd_sP, hd_sF, hd_sZ, hd_sG, hd_sA, hd_sL, hd_sB, hd_sO, hd_sN, hd_sD, hd_sW, hd_sE, hd_sRI, hd_sRZ, hd_sRJ, hd_sRR, hd_sRV, hd_sSw, hd_sw, hd_sCI, hd_sCL, hd_iK, hd_iL, hd_iU, hd_iB, hd_iD, hd_iJ, hd_iG, hd_iA, hd_iQ, hd_iC, hd_iN, hd_iE, hd_jK, hd_jL, hd_jU, hd_jB, hd_jD, hd_jH, hd_jI, hd_jA, hd_jQ, hd_jN, hd_rL, hd_rG, hd_rA, hd_rN, hd_cI, hd_c0, hd_cJ, hd_cX, hd_cA, hd_cO, hd_v0, hd_pI, hd_pJ, hd_pR, hd_nV, hd_nS, hd_get, hd_st, hd_stW, hd_cut, List.replicate, List.length_cons, List.length_nil, List.nil_append, List.cons_append, Nat.reduceAdd, Nat.reduceSub, Nat.reduceLeDiff, true_and, and_true, if_true, if_false, Bool.false_eq_true, List.append_nil, hs_o_0, hs_r_0_0, hs_t_0_0, hs_r_0_1, hs_t_0_1, hs_r_0_2, hs_t_0_2, hs_r_0_3, hs_t_0_3, hs_r_0_4, hs_t_0_4, hs_r_0_5, hs_t_0_5, hs_r_0_6, hs_t_0_6, hs_r_0_7, hs_t_0_7, hs_f_0_8, hs_o_1, hs_f_1_0, hs_f_1_1, hs_r_1_2, hs_t_1_2, hs_r_1_3, hs_t_1_3, hs_r_1_4, hs_t_1_4, hs_r_1_5, hs_t_1_5, hs_r_1_6, hs_t_1_6, hs_r_1_7, hs_t_1_7, hs_r_1_8, hs_t_1_8, hs_r_1_9, hs_t_1_9, hs_i_2, hs_i_3, hs_i_4, hs_i_5, hs_i_6, hs_i_7, hs_i_8, hs_i_9, hs_o_82, hs_r_82_0, hs_t_82_0, hs_f_82_1, hs_i_83, hs_o_84, hs_r_84_0, hs_t_84_0, hs_r_84_1, hs_t_84_1, hs_r_84_2, hs_t_84_2, hs_r_84_3, hs_t_84_3, hs_f_84_4, hs_i_85, hs_i_86, hs_i_87, hs_o_88, hs_r_88_0, hs_t_88_0, hs_r_88_1, hs_t_88_1, hs_r_88_2, hs_t_88_2, hs_r_88_3, hs_t_88_3, hs_r_88_4, hs_t_88_4, hs_r_88_5, hs_t_88_5, hs_r_88_6, hs_t_88_6, hs_r_88_7, hs_t_88_7, hs_f_88_8, hs_f_88_9, hs_i_89, hs_i_90, hs_i_91, hs_i_92, hs_i_93, hs_i_94, hs_i_95, hs_i_96, hs_i_97, hs_i_98, hs_i_99, hs_i_100, hs_i_101, hs_i_102, hs_o_103, hs_r_103_0, hs_t_103_0, hs_r_103_1, hs_t_103_1, hs_r_103_2, hs_t_103_2, hs_r_103_3, hs_t_103_3, hs_f_103_4, hs_i_104, hs_o_105, hs_r_105_0, hs_t_105_0, hs_r_105_1, hs_t_105_1, hs_r_105_2, hs_t_105_2, hs_i_106, hs_i_107, hs_o_108, hs_r_108_0, hs_t_108_0, hs_r_108_1, hs_t_108_1, hs_r_108_2, hs_t_108_2, hs_r_108_3, hs_t_108_3, hs_f_108_4, hs_i_109, hs_i_110, hs_o_111, hs_r_111_0, hs_t_111_0, hs_r_111_1, hs_t_111_1, hs_f_111_2, hs_f_111_3, hs_f_111_4, hs_i_112, hs_o_113, hs_f_113_0, hs_f_113_1, hs_f_113_2, hs_r_113_3, hs_t_113_3, hs_r_113_4, hs_t_113_4, hs_r_113_5, hs_t_113_5, hs_r_113_6, hs_t_113_6, hs_r_113_7, hs_t_113_7, hs_r_113_8, hs_t_113_8, hs_r_113_9, hs_t_113_9, hs_r_113_10, hs_t_113_10, hs_r_113_11, hs_t_113_11, hs_f_113_12, hs_f_113_13, hs_f_113_14, hs_r_113_15, hs_t_113_15, hs_f_113_16, hs_r_113_17, hs_t_113_17, hs_r_113_18, hs_t_113_18, hs_r_113_19, hs_t_113_19, hs_r_113_20, hs_t_113_20, hs_f_113_21, hs_f_113_22, hs_f_113_23, hs_r_113_24, hs_t_113_24, hs_f_113_25, hs_r_113_26, hs_t_113_26, hs_f_113_27, hs_i_114, hs_i_115, hs_i_116, hs_i_117, hs_i_118, hs_i_119, hs_i_120, hs_i_121, hs_i_122, hs_i_123, hs_i_124, hs_i_125, hs_i_126, hs_i_127, hs_i_128, hs_i_129, hb_sw 0 (by decide) (show 0 < 2 ^ 31 by decide), vp_in_nI (show s < 128 by omega) (show 128 < 2 ^ 31 by decide), hd_cc (show s < 2147483648 by omega), (hr s hs).2.1]
    have e : hp_si p s = hp_oi (hp_cost p 0 s) := by
      unfold hp_si hp_cost
      by_cases h0 : s = 0
      · by_cases hT : hp_T p = 0
        · simp [h0, hT, hp_oi, hp_sa]; rfl
        · simp [h0, hT, hp_oi]
      · simp [h0, hp_oi]
    rw [e]
    exact hk0
  · simp only [wm_X1_costOf, wo_X1_costOf, hd_mth, hd_rho0, hd_args, hd_wide, hd_sQ, hd_s0, hd_sI, hd_sJ, hd_sR, hd_sP, hd_sF, hd_sZ, hd_sG, hd_sA, hd_sL, hd_sB, hd_sO, hd_sN, hd_sD, hd_sW, hd_sE, hd_sRI, hd_sRZ, hd_sRJ, hd_sRR, hd_sRV, hd_sSw, hd_sw, hd_sCI, hd_sCL, hd_iK, hd_iL, hd_iU, hd_iB, hd_iD, hd_iJ, hd_iG, hd_iA, hd_iQ, hd_iC, hd_iN, hd_iE, hd_jK, hd_jL, hd_jU, hd_jB, hd_jD, hd_jH, hd_jI, hd_jA, hd_jQ, hd_jN, hd_rL, hd_rG, hd_rA, hd_rN, hd_cI, hd_c0, hd_cJ, hd_cX, hd_cA, hd_cO, hd_v0, hd_pI, hd_pJ, hd_pR, hd_nV, hd_nS, hd_get, hd_st, hd_stW, hd_cut, List.replicate, List.length_cons, List.length_nil, List.nil_append, List.cons_append, Nat.reduceAdd, Nat.reduceSub, Nat.reduceLeDiff, true_and, and_true, if_true, if_false, Bool.false_eq_true, List.append_nil, hs_o_0, hs_r_0_0, hs_t_0_0, hs_r_0_1, hs_t_0_1, hs_r_0_2, hs_t_0_2, hs_r_0_3, hs_t_0_3, hs_r_0_4, hs_t_0_4, hs_r_0_5, hs_t_0_5, hs_r_0_6, hs_t_0_6, hs_r_0_7, hs_t_0_7, hs_f_0_8, hs_o_1, hs_f_1_0, hs_f_1_1, hs_r_1_2, hs_t_1_2, hs_r_1_3, hs_t_1_3, hs_r_1_4, hs_t_1_4, hs_r_1_5, hs_t_1_5, hs_r_1_6, hs_t_1_6, hs_r_1_7, hs_t_1_7, hs_r_1_8, hs_t_1_8, hs_r_1_9, hs_t_1_9, hs_i_2, hs_i_3, hs_i_4, hs_i_5, hs_i_6, hs_i_7, hs_i_8, hs_i_9, hs_o_82, hs_r_82_0, hs_t_82_0, hs_f_82_1, hs_i_83, hs_o_84, hs_r_84_0, hs_t_84_0, hs_r_84_1, hs_t_84_1, hs_r_84_2, hs_t_84_2, hs_r_84_3, hs_t_84_3, hs_f_84_4, hs_i_85, hs_i_86, hs_i_87, hs_o_88, hs_r_88_0, hs_t_88_0, hs_r_88_1, hs_t_88_1, hs_r_88_2, hs_t_88_2, hs_r_88_3, hs_t_88_3, hs_r_88_4, hs_t_88_4, hs_r_88_5, hs_t_88_5, hs_r_88_6, hs_t_88_6, hs_r_88_7, hs_t_88_7, hs_f_88_8, hs_f_88_9, hs_i_89, hs_i_90, hs_i_91, hs_i_92, hs_i_93, hs_i_94, hs_i_95, hs_i_96, hs_i_97, hs_i_98, hs_i_99, hs_i_100, hs_i_101, hs_i_102, hs_o_103, hs_r_103_0, hs_t_103_0, hs_r_103_1, hs_t_103_1, hs_r_103_2, hs_t_103_2, hs_r_103_3, hs_t_103_3, hs_f_103_4, hs_i_104, hs_o_105, hs_r_105_0, hs_t_105_0, hs_r_105_1, hs_t_105_1, hs_r_105_2, hs_t_105_2, hs_i_106, hs_i_107, hs_o_108, hs_r_108_0, hs_t_108_0, hs_r_108_1, hs_t_108_1, hs_r_108_2, hs_t_108_2, hs_r_108_3, hs_t_108_3, hs_f_108_4, hs_i_109, hs_i_110, hs_o_111, hs_r_111_0, hs_t_111_0, hs_r_111_1, hs_t_111_1, hs_f_111_2, hs_f_111_3, hs_f_111_4, hs_i_112, hs_o_113, hs_f_113_0, hs_f_113_1, hs_f_113_2, hs_r_113_3, hs_t_113_3, hs_r_113_4, hs_t_113_4, hs_r_113_5, hs_t_113_5, hs_r_113_6, hs_t_113_6, hs_r_113_7, hs_t_113_7, hs_r_113_8, hs_t_113_8, hs_r_113_9, hs_t_113_9, hs_r_113_10, hs_t_113_10, hs_r_113_11, hs_t_113_11, hs_f_113_12, hs_f_113_13, hs_f_113_14, hs_r_113_15, hs_t_113_15, hs_f_113_16, hs_r_113_17, hs_t_113_17, hs_r_113_18, hs_t_113_18, hs_r_113_19, hs_t_113_19, hs_r_113_20, hs_t_113_20, hs_f_113_21, hs_f_113_22, hs_f_113_23, hs_r_113_24, hs_t_113_24, hs_f_113_25, hs_r_113_26, hs_t_113_26, hs_f_113_27, hs_i_114, hs_i_115, hs_i_116, hs_i_117, hs_i_118, hs_i_119, hs_i_120, hs_i_121, hs_i_122, hs_i_123, hs_i_124, hs_i_125, hs_i_126, hs_i_127, hs_i_128, hs_i_129, hb_sw 0 (by decide) (show 1 < 2 ^ 31 by decide), hb_sw 1 (by decide) (show 1 < 2 ^ 31 by decide), show ¬ ((1 : Nat) = 0) by decide]
    refine sx_mostOf hp hx hr hs _ (fun q => ?_) (fun q => ?_)
    · simp only [hp_cost, show ¬ ((1 : Nat) = 0) by decide, if_false, if_true, if_pos q, hp_oi] at hk0
      exact hk0
    · simp only [hp_cost, show ¬ ((1 : Nat) = 0) by decide, if_false, if_true, if_neg q, hp_oi] at hk0
      exact hk0
  · simp only [wm_X1_costOf, wo_X1_costOf, hd_mth, hd_rho0, hd_args, hd_wide, hd_sQ, hd_s0, hd_sI, hd_sJ, hd_sR, hd_sP, hd_sF, hd_sZ, hd_sG, hd_sA, hd_sL, hd_sB, hd_sO, hd_sN, hd_sD, hd_sW, hd_sE, hd_sRI, hd_sRZ, hd_sRJ, hd_sRR, hd_sRV, hd_sSw, hd_sw, hd_sCI, hd_sCL, hd_iK, hd_iL, hd_iU, hd_iB, hd_iD, hd_iJ, hd_iG, hd_iA, hd_iQ, hd_iC, hd_iN, hd_iE, hd_jK, hd_jL, hd_jU, hd_jB, hd_jD, hd_jH, hd_jI, hd_jA, hd_jQ, hd_jN, hd_rL, hd_rG, hd_rA, hd_rN, hd_cI, hd_c0, hd_cJ, hd_cX, hd_cA, hd_cO, hd_v0, hd_pI, hd_pJ, hd_pR, hd_nV, hd_nS, hd_get, hd_st, hd_stW, hd_cut, List.replicate, List.length_cons, List.length_nil, List.nil_append, List.cons_append, Nat.reduceAdd, Nat.reduceSub, Nat.reduceLeDiff, true_and, and_true, if_true, if_false, Bool.false_eq_true, List.append_nil, hs_o_0, hs_r_0_0, hs_t_0_0, hs_r_0_1, hs_t_0_1, hs_r_0_2, hs_t_0_2, hs_r_0_3, hs_t_0_3, hs_r_0_4, hs_t_0_4, hs_r_0_5, hs_t_0_5, hs_r_0_6, hs_t_0_6, hs_r_0_7, hs_t_0_7, hs_f_0_8, hs_o_1, hs_f_1_0, hs_f_1_1, hs_r_1_2, hs_t_1_2, hs_r_1_3, hs_t_1_3, hs_r_1_4, hs_t_1_4, hs_r_1_5, hs_t_1_5, hs_r_1_6, hs_t_1_6, hs_r_1_7, hs_t_1_7, hs_r_1_8, hs_t_1_8, hs_r_1_9, hs_t_1_9, hs_i_2, hs_i_3, hs_i_4, hs_i_5, hs_i_6, hs_i_7, hs_i_8, hs_i_9, hs_o_82, hs_r_82_0, hs_t_82_0, hs_f_82_1, hs_i_83, hs_o_84, hs_r_84_0, hs_t_84_0, hs_r_84_1, hs_t_84_1, hs_r_84_2, hs_t_84_2, hs_r_84_3, hs_t_84_3, hs_f_84_4, hs_i_85, hs_i_86, hs_i_87, hs_o_88, hs_r_88_0, hs_t_88_0, hs_r_88_1, hs_t_88_1, hs_r_88_2, hs_t_88_2, hs_r_88_3, hs_t_88_3, hs_r_88_4, hs_t_88_4, hs_r_88_5, hs_t_88_5, hs_r_88_6, hs_t_88_6, hs_r_88_7, hs_t_88_7, hs_f_88_8, hs_f_88_9, hs_i_89, hs_i_90, hs_i_91, hs_i_92, hs_i_93, hs_i_94, hs_i_95, hs_i_96, hs_i_97, hs_i_98, hs_i_99, hs_i_100, hs_i_101, hs_i_102, hs_o_103, hs_r_103_0, hs_t_103_0, hs_r_103_1, hs_t_103_1, hs_r_103_2, hs_t_103_2, hs_r_103_3, hs_t_103_3, hs_f_103_4, hs_i_104, hs_o_105, hs_r_105_0, hs_t_105_0, hs_r_105_1, hs_t_105_1, hs_r_105_2, hs_t_105_2, hs_i_106, hs_i_107, hs_o_108, hs_r_108_0, hs_t_108_0, hs_r_108_1, hs_t_108_1, hs_r_108_2, hs_t_108_2, hs_r_108_3, hs_t_108_3, hs_f_108_4, hs_i_109, hs_i_110, hs_o_111, hs_r_111_0, hs_t_111_0, hs_r_111_1, hs_t_111_1, hs_f_111_2, hs_f_111_3, hs_f_111_4, hs_i_112, hs_o_113, hs_f_113_0, hs_f_113_1, hs_f_113_2, hs_r_113_3, hs_t_113_3, hs_r_113_4, hs_t_113_4, hs_r_113_5, hs_t_113_5, hs_r_113_6, hs_t_113_6, hs_r_113_7, hs_t_113_7, hs_r_113_8, hs_t_113_8, hs_r_113_9, hs_t_113_9, hs_r_113_10, hs_t_113_10, hs_r_113_11, hs_t_113_11, hs_f_113_12, hs_f_113_13, hs_f_113_14, hs_r_113_15, hs_t_113_15, hs_f_113_16, hs_r_113_17, hs_t_113_17, hs_r_113_18, hs_t_113_18, hs_r_113_19, hs_t_113_19, hs_r_113_20, hs_t_113_20, hs_f_113_21, hs_f_113_22, hs_f_113_23, hs_r_113_24, hs_t_113_24, hs_f_113_25, hs_r_113_26, hs_t_113_26, hs_f_113_27, hs_i_114, hs_i_115, hs_i_116, hs_i_117, hs_i_118, hs_i_119, hs_i_120, hs_i_121, hs_i_122, hs_i_123, hs_i_124, hs_i_125, hs_i_126, hs_i_127, hs_i_128, hs_i_129, hb_sw 0 (by decide) (show 2 < 2 ^ 31 by decide), hb_sw 1 (by decide) (show 2 < 2 ^ 31 by decide), hb_sw 2 (by decide) (show 2 < 2 ^ 31 by decide), show ¬ ((2 : Nat) = 0) by decide, show ¬ ((2 : Nat) = 1) by decide, vp_in_nI (show s < 128 by omega) (show 128 < 2 ^ 31 by decide), hd_cc (show s < 2147483648 by omega), (hr s hs).2.1, sx_withPrices hp hr hs, hp_si_no hp]
    by_cases q : s = 0 ∧ ¬ hp_T p = 0
    · simp only [hp_cost, show ¬ ((2 : Nat) = 0) by decide, show ¬ ((2 : Nat) = 1) by decide, if_false, if_true, if_pos q, hp_oi] at hk0
      rw [if_pos q]
      exact hk0
    · simp only [hp_cost, show ¬ ((2 : Nat) = 0) by decide, show ¬ ((2 : Nat) = 1) by decide, if_false, if_true, if_neg q, hp_oi] at hk0
      have e : hp_si p s = nI (hp_sa p s (hp_T p)) := by
        unfold hp_si
        by_cases h0 : s = 0
        · by_cases hT : hp_T p = 0
          · simp [h0, hT, hp_sa]; rfl
          · exact absurd ⟨h0, hT⟩ q
        · simp [h0]
      rw [if_neg q, e, nI_add]
      exact hk0
  · simp only [wm_X1_costOf, wo_X1_costOf, hd_mth, hd_rho0, hd_args, hd_wide, hd_sQ, hd_s0, hd_sI, hd_sJ, hd_sR, hd_sP, hd_sF, hd_sZ, hd_sG, hd_sA, hd_sL, hd_sB, hd_sO, hd_sN, hd_sD, hd_sW, hd_sE, hd_sRI, hd_sRZ, hd_sRJ, hd_sRR, hd_sRV, hd_sSw, hd_sw, hd_sCI, hd_sCL, hd_iK, hd_iL, hd_iU, hd_iB, hd_iD, hd_iJ, hd_iG, hd_iA, hd_iQ, hd_iC, hd_iN, hd_iE, hd_jK, hd_jL, hd_jU, hd_jB, hd_jD, hd_jH, hd_jI, hd_jA, hd_jQ, hd_jN, hd_rL, hd_rG, hd_rA, hd_rN, hd_cI, hd_c0, hd_cJ, hd_cX, hd_cA, hd_cO, hd_v0, hd_pI, hd_pJ, hd_pR, hd_nV, hd_nS, hd_get, hd_st, hd_stW, hd_cut, List.replicate, List.length_cons, List.length_nil, List.nil_append, List.cons_append, Nat.reduceAdd, Nat.reduceSub, Nat.reduceLeDiff, true_and, and_true, if_true, if_false, Bool.false_eq_true, List.append_nil, hs_o_0, hs_r_0_0, hs_t_0_0, hs_r_0_1, hs_t_0_1, hs_r_0_2, hs_t_0_2, hs_r_0_3, hs_t_0_3, hs_r_0_4, hs_t_0_4, hs_r_0_5, hs_t_0_5, hs_r_0_6, hs_t_0_6, hs_r_0_7, hs_t_0_7, hs_f_0_8, hs_o_1, hs_f_1_0, hs_f_1_1, hs_r_1_2, hs_t_1_2, hs_r_1_3, hs_t_1_3, hs_r_1_4, hs_t_1_4, hs_r_1_5, hs_t_1_5, hs_r_1_6, hs_t_1_6, hs_r_1_7, hs_t_1_7, hs_r_1_8, hs_t_1_8, hs_r_1_9, hs_t_1_9, hs_i_2, hs_i_3, hs_i_4, hs_i_5, hs_i_6, hs_i_7, hs_i_8, hs_i_9, hs_o_82, hs_r_82_0, hs_t_82_0, hs_f_82_1, hs_i_83, hs_o_84, hs_r_84_0, hs_t_84_0, hs_r_84_1, hs_t_84_1, hs_r_84_2, hs_t_84_2, hs_r_84_3, hs_t_84_3, hs_f_84_4, hs_i_85, hs_i_86, hs_i_87, hs_o_88, hs_r_88_0, hs_t_88_0, hs_r_88_1, hs_t_88_1, hs_r_88_2, hs_t_88_2, hs_r_88_3, hs_t_88_3, hs_r_88_4, hs_t_88_4, hs_r_88_5, hs_t_88_5, hs_r_88_6, hs_t_88_6, hs_r_88_7, hs_t_88_7, hs_f_88_8, hs_f_88_9, hs_i_89, hs_i_90, hs_i_91, hs_i_92, hs_i_93, hs_i_94, hs_i_95, hs_i_96, hs_i_97, hs_i_98, hs_i_99, hs_i_100, hs_i_101, hs_i_102, hs_o_103, hs_r_103_0, hs_t_103_0, hs_r_103_1, hs_t_103_1, hs_r_103_2, hs_t_103_2, hs_r_103_3, hs_t_103_3, hs_f_103_4, hs_i_104, hs_o_105, hs_r_105_0, hs_t_105_0, hs_r_105_1, hs_t_105_1, hs_r_105_2, hs_t_105_2, hs_i_106, hs_i_107, hs_o_108, hs_r_108_0, hs_t_108_0, hs_r_108_1, hs_t_108_1, hs_r_108_2, hs_t_108_2, hs_r_108_3, hs_t_108_3, hs_f_108_4, hs_i_109, hs_i_110, hs_o_111, hs_r_111_0, hs_t_111_0, hs_r_111_1, hs_t_111_1, hs_f_111_2, hs_f_111_3, hs_f_111_4, hs_i_112, hs_o_113, hs_f_113_0, hs_f_113_1, hs_f_113_2, hs_r_113_3, hs_t_113_3, hs_r_113_4, hs_t_113_4, hs_r_113_5, hs_t_113_5, hs_r_113_6, hs_t_113_6, hs_r_113_7, hs_t_113_7, hs_r_113_8, hs_t_113_8, hs_r_113_9, hs_t_113_9, hs_r_113_10, hs_t_113_10, hs_r_113_11, hs_t_113_11, hs_f_113_12, hs_f_113_13, hs_f_113_14, hs_r_113_15, hs_t_113_15, hs_f_113_16, hs_r_113_17, hs_t_113_17, hs_r_113_18, hs_t_113_18, hs_r_113_19, hs_t_113_19, hs_r_113_20, hs_t_113_20, hs_f_113_21, hs_f_113_22, hs_f_113_23, hs_r_113_24, hs_t_113_24, hs_f_113_25, hs_r_113_26, hs_t_113_26, hs_f_113_27, hs_i_114, hs_i_115, hs_i_116, hs_i_117, hs_i_118, hs_i_119, hs_i_120, hs_i_121, hs_i_122, hs_i_123, hs_i_124, hs_i_125, hs_i_126, hs_i_127, hs_i_128, hs_i_129, hb_sw 0 (by decide) (show 3 < 2 ^ 31 by decide), hb_sw 1 (by decide) (show 3 < 2 ^ 31 by decide), hb_sw 2 (by decide) (show 3 < 2 ^ 31 by decide), hb_sw 3 (by decide) (show 3 < 2 ^ 31 by decide), show ¬ ((3 : Nat) = 0) by decide, show ¬ ((3 : Nat) = 1) by decide, show ¬ ((3 : Nat) = 2) by decide]
    refine hF S s _ hx hr hQ hs (fun S2 he hQ2 => ?_)
    have hr2 := hx_R_eqv he (by decide) (by decide) (by decide) hr
    simp only [sx_tripsOf (fun c hc => hp_rmc_lt hp hc), sx_withPrices hp hr2 hs]
    have hk2 := hk S2 he hQ2
    simp only [hp_cost, show ¬ ((3 : Nat) = 0) by decide, show ¬ ((3 : Nat) = 1) by decide, show ¬ ((3 : Nat) = 2) by decide, if_false, if_true] at hk2
    cases ho : hp_rmc p s with
    | none =>
      simp only [ho, Option.map, hp_oi, if_true] at hk2 ⊢
      exact hk2
    | some c =>
      have hc := hp_rmc_lt hp ho
      have hc2 : c / 16777216 < 2 ^ 31 := Nat.div_lt_of_lt_mul (Nat.lt_of_lt_of_le hc (by decide))
      simp only [ho, Option.map, hp_oi, hp_ne1 hc2, if_false, nI_add] at hk2 ⊢
      exact hk2
  · simp only [wm_X1_costOf, wo_X1_costOf, hd_mth, hd_rho0, hd_args, hd_wide, hd_sQ, hd_s0, hd_sI, hd_sJ, hd_sR, hd_sP, hd_sF, hd_sZ, hd_sG, hd_sA, hd_sL, hd_sB, hd_sO, hd_sN, hd_sD, hd_sW, hd_sE, hd_sRI, hd_sRZ, hd_sRJ, hd_sRR, hd_sRV, hd_sSw, hd_sw, hd_sCI, hd_sCL, hd_iK, hd_iL, hd_iU, hd_iB, hd_iD, hd_iJ, hd_iG, hd_iA, hd_iQ, hd_iC, hd_iN, hd_iE, hd_jK, hd_jL, hd_jU, hd_jB, hd_jD, hd_jH, hd_jI, hd_jA, hd_jQ, hd_jN, hd_rL, hd_rG, hd_rA, hd_rN, hd_cI, hd_c0, hd_cJ, hd_cX, hd_cA, hd_cO, hd_v0, hd_pI, hd_pJ, hd_pR, hd_nV, hd_nS, hd_get, hd_st, hd_stW, hd_cut, List.replicate, List.length_cons, List.length_nil, List.nil_append, List.cons_append, Nat.reduceAdd, Nat.reduceSub, Nat.reduceLeDiff, true_and, and_true, if_true, if_false, Bool.false_eq_true, List.append_nil, hs_o_0, hs_r_0_0, hs_t_0_0, hs_r_0_1, hs_t_0_1, hs_r_0_2, hs_t_0_2, hs_r_0_3, hs_t_0_3, hs_r_0_4, hs_t_0_4, hs_r_0_5, hs_t_0_5, hs_r_0_6, hs_t_0_6, hs_r_0_7, hs_t_0_7, hs_f_0_8, hs_o_1, hs_f_1_0, hs_f_1_1, hs_r_1_2, hs_t_1_2, hs_r_1_3, hs_t_1_3, hs_r_1_4, hs_t_1_4, hs_r_1_5, hs_t_1_5, hs_r_1_6, hs_t_1_6, hs_r_1_7, hs_t_1_7, hs_r_1_8, hs_t_1_8, hs_r_1_9, hs_t_1_9, hs_i_2, hs_i_3, hs_i_4, hs_i_5, hs_i_6, hs_i_7, hs_i_8, hs_i_9, hs_o_82, hs_r_82_0, hs_t_82_0, hs_f_82_1, hs_i_83, hs_o_84, hs_r_84_0, hs_t_84_0, hs_r_84_1, hs_t_84_1, hs_r_84_2, hs_t_84_2, hs_r_84_3, hs_t_84_3, hs_f_84_4, hs_i_85, hs_i_86, hs_i_87, hs_o_88, hs_r_88_0, hs_t_88_0, hs_r_88_1, hs_t_88_1, hs_r_88_2, hs_t_88_2, hs_r_88_3, hs_t_88_3, hs_r_88_4, hs_t_88_4, hs_r_88_5, hs_t_88_5, hs_r_88_6, hs_t_88_6, hs_r_88_7, hs_t_88_7, hs_f_88_8, hs_f_88_9, hs_i_89, hs_i_90, hs_i_91, hs_i_92, hs_i_93, hs_i_94, hs_i_95, hs_i_96, hs_i_97, hs_i_98, hs_i_99, hs_i_100, hs_i_101, hs_i_102, hs_o_103, hs_r_103_0, hs_t_103_0, hs_r_103_1, hs_t_103_1, hs_r_103_2, hs_t_103_2, hs_r_103_3, hs_t_103_3, hs_f_103_4, hs_i_104, hs_o_105, hs_r_105_0, hs_t_105_0, hs_r_105_1, hs_t_105_1, hs_r_105_2, hs_t_105_2, hs_i_106, hs_i_107, hs_o_108, hs_r_108_0, hs_t_108_0, hs_r_108_1, hs_t_108_1, hs_r_108_2, hs_t_108_2, hs_r_108_3, hs_t_108_3, hs_f_108_4, hs_i_109, hs_i_110, hs_o_111, hs_r_111_0, hs_t_111_0, hs_r_111_1, hs_t_111_1, hs_f_111_2, hs_f_111_3, hs_f_111_4, hs_i_112, hs_o_113, hs_f_113_0, hs_f_113_1, hs_f_113_2, hs_r_113_3, hs_t_113_3, hs_r_113_4, hs_t_113_4, hs_r_113_5, hs_t_113_5, hs_r_113_6, hs_t_113_6, hs_r_113_7, hs_t_113_7, hs_r_113_8, hs_t_113_8, hs_r_113_9, hs_t_113_9, hs_r_113_10, hs_t_113_10, hs_r_113_11, hs_t_113_11, hs_f_113_12, hs_f_113_13, hs_f_113_14, hs_r_113_15, hs_t_113_15, hs_f_113_16, hs_r_113_17, hs_t_113_17, hs_r_113_18, hs_t_113_18, hs_r_113_19, hs_t_113_19, hs_r_113_20, hs_t_113_20, hs_f_113_21, hs_f_113_22, hs_f_113_23, hs_r_113_24, hs_t_113_24, hs_f_113_25, hs_r_113_26, hs_t_113_26, hs_f_113_27, hs_i_114, hs_i_115, hs_i_116, hs_i_117, hs_i_118, hs_i_119, hs_i_120, hs_i_121, hs_i_122, hs_i_123, hs_i_124, hs_i_125, hs_i_126, hs_i_127, hs_i_128, hs_i_129, hb_sw 0 (by decide) (show 4 < 2 ^ 31 by decide), hb_sw 1 (by decide) (show 4 < 2 ^ 31 by decide), hb_sw 2 (by decide) (show 4 < 2 ^ 31 by decide), hb_sw 3 (by decide) (show 4 < 2 ^ 31 by decide), hb_sw 4 (by decide) (show 4 < 2 ^ 31 by decide), show ¬ ((4 : Nat) = 0) by decide, show ¬ ((4 : Nat) = 1) by decide, show ¬ ((4 : Nat) = 2) by decide, show ¬ ((4 : Nat) = 3) by decide]
    exact sx_finedOf hp hx hr hs _ hk0
  · simp only [wm_X1_costOf, wo_X1_costOf, hd_mth, hd_rho0, hd_args, hd_wide, hd_sQ, hd_s0, hd_sI, hd_sJ, hd_sR, hd_sP, hd_sF, hd_sZ, hd_sG, hd_sA, hd_sL, hd_sB, hd_sO, hd_sN, hd_sD, hd_sW, hd_sE, hd_sRI, hd_sRZ, hd_sRJ, hd_sRR, hd_sRV, hd_sSw, hd_sw, hd_sCI, hd_sCL, hd_iK, hd_iL, hd_iU, hd_iB, hd_iD, hd_iJ, hd_iG, hd_iA, hd_iQ, hd_iC, hd_iN, hd_iE, hd_jK, hd_jL, hd_jU, hd_jB, hd_jD, hd_jH, hd_jI, hd_jA, hd_jQ, hd_jN, hd_rL, hd_rG, hd_rA, hd_rN, hd_cI, hd_c0, hd_cJ, hd_cX, hd_cA, hd_cO, hd_v0, hd_pI, hd_pJ, hd_pR, hd_nV, hd_nS, hd_get, hd_st, hd_stW, hd_cut, List.replicate, List.length_cons, List.length_nil, List.nil_append, List.cons_append, Nat.reduceAdd, Nat.reduceSub, Nat.reduceLeDiff, true_and, and_true, if_true, if_false, Bool.false_eq_true, List.append_nil, hs_o_0, hs_r_0_0, hs_t_0_0, hs_r_0_1, hs_t_0_1, hs_r_0_2, hs_t_0_2, hs_r_0_3, hs_t_0_3, hs_r_0_4, hs_t_0_4, hs_r_0_5, hs_t_0_5, hs_r_0_6, hs_t_0_6, hs_r_0_7, hs_t_0_7, hs_f_0_8, hs_o_1, hs_f_1_0, hs_f_1_1, hs_r_1_2, hs_t_1_2, hs_r_1_3, hs_t_1_3, hs_r_1_4, hs_t_1_4, hs_r_1_5, hs_t_1_5, hs_r_1_6, hs_t_1_6, hs_r_1_7, hs_t_1_7, hs_r_1_8, hs_t_1_8, hs_r_1_9, hs_t_1_9, hs_i_2, hs_i_3, hs_i_4, hs_i_5, hs_i_6, hs_i_7, hs_i_8, hs_i_9, hs_o_82, hs_r_82_0, hs_t_82_0, hs_f_82_1, hs_i_83, hs_o_84, hs_r_84_0, hs_t_84_0, hs_r_84_1, hs_t_84_1, hs_r_84_2, hs_t_84_2, hs_r_84_3, hs_t_84_3, hs_f_84_4, hs_i_85, hs_i_86, hs_i_87, hs_o_88, hs_r_88_0, hs_t_88_0, hs_r_88_1, hs_t_88_1, hs_r_88_2, hs_t_88_2, hs_r_88_3, hs_t_88_3, hs_r_88_4, hs_t_88_4, hs_r_88_5, hs_t_88_5, hs_r_88_6, hs_t_88_6, hs_r_88_7, hs_t_88_7, hs_f_88_8, hs_f_88_9, hs_i_89, hs_i_90, hs_i_91, hs_i_92, hs_i_93, hs_i_94, hs_i_95, hs_i_96, hs_i_97, hs_i_98, hs_i_99, hs_i_100, hs_i_101, hs_i_102, hs_o_103, hs_r_103_0, hs_t_103_0, hs_r_103_1, hs_t_103_1, hs_r_103_2, hs_t_103_2, hs_r_103_3, hs_t_103_3, hs_f_103_4, hs_i_104, hs_o_105, hs_r_105_0, hs_t_105_0, hs_r_105_1, hs_t_105_1, hs_r_105_2, hs_t_105_2, hs_i_106, hs_i_107, hs_o_108, hs_r_108_0, hs_t_108_0, hs_r_108_1, hs_t_108_1, hs_r_108_2, hs_t_108_2, hs_r_108_3, hs_t_108_3, hs_f_108_4, hs_i_109, hs_i_110, hs_o_111, hs_r_111_0, hs_t_111_0, hs_r_111_1, hs_t_111_1, hs_f_111_2, hs_f_111_3, hs_f_111_4, hs_i_112, hs_o_113, hs_f_113_0, hs_f_113_1, hs_f_113_2, hs_r_113_3, hs_t_113_3, hs_r_113_4, hs_t_113_4, hs_r_113_5, hs_t_113_5, hs_r_113_6, hs_t_113_6, hs_r_113_7, hs_t_113_7, hs_r_113_8, hs_t_113_8, hs_r_113_9, hs_t_113_9, hs_r_113_10, hs_t_113_10, hs_r_113_11, hs_t_113_11, hs_f_113_12, hs_f_113_13, hs_f_113_14, hs_r_113_15, hs_t_113_15, hs_f_113_16, hs_r_113_17, hs_t_113_17, hs_r_113_18, hs_t_113_18, hs_r_113_19, hs_t_113_19, hs_r_113_20, hs_t_113_20, hs_f_113_21, hs_f_113_22, hs_f_113_23, hs_r_113_24, hs_t_113_24, hs_f_113_25, hs_r_113_26, hs_t_113_26, hs_f_113_27, hs_i_114, hs_i_115, hs_i_116, hs_i_117, hs_i_118, hs_i_119, hs_i_120, hs_i_121, hs_i_122, hs_i_123, hs_i_124, hs_i_125, hs_i_126, hs_i_127, hs_i_128, hs_i_129, hb_sw 0 (by decide) (show 5 < 2 ^ 31 by decide), hb_sw 1 (by decide) (show 5 < 2 ^ 31 by decide), hb_sw 2 (by decide) (show 5 < 2 ^ 31 by decide), hb_sw 3 (by decide) (show 5 < 2 ^ 31 by decide), hb_sw 4 (by decide) (show 5 < 2 ^ 31 by decide), hb_sw 5 (by decide) (show 5 < 2 ^ 31 by decide), show ¬ ((5 : Nat) = 0) by decide, show ¬ ((5 : Nat) = 1) by decide, show ¬ ((5 : Nat) = 2) by decide, show ¬ ((5 : Nat) = 3) by decide, show ¬ ((5 : Nat) = 4) by decide]
    refine sx_closedOf hp hx hr hs _ (fun q => ?_) (fun q => ?_)
    · simp only [hp_cost, show ¬ ((5 : Nat) = 0) by decide, show ¬ ((5 : Nat) = 1) by decide, show ¬ ((5 : Nat) = 2) by decide, show ¬ ((5 : Nat) = 3) by decide, show ¬ ((5 : Nat) = 4) by decide, if_false, if_true, if_pos q, hp_oi] at hk0
      exact hk0
    · simp only [hp_cost, show ¬ ((5 : Nat) = 0) by decide, show ¬ ((5 : Nat) = 1) by decide, show ¬ ((5 : Nat) = 2) by decide, show ¬ ((5 : Nat) = 3) by decide, show ¬ ((5 : Nat) = 4) by decide, if_false, if_true, if_neg (Nat.not_lt.mpr q), hp_oi] at hk0
      exact hk0
  · simp only [wm_X1_costOf, wo_X1_costOf, hd_mth, hd_rho0, hd_args, hd_wide, hd_sQ, hd_s0, hd_sI, hd_sJ, hd_sR, hd_sP, hd_sF, hd_sZ, hd_sG, hd_sA, hd_sL, hd_sB, hd_sO, hd_sN, hd_sD, hd_sW, hd_sE, hd_sRI, hd_sRZ, hd_sRJ, hd_sRR, hd_sRV, hd_sSw, hd_sw, hd_sCI, hd_sCL, hd_iK, hd_iL, hd_iU, hd_iB, hd_iD, hd_iJ, hd_iG, hd_iA, hd_iQ, hd_iC, hd_iN, hd_iE, hd_jK, hd_jL, hd_jU, hd_jB, hd_jD, hd_jH, hd_jI, hd_jA, hd_jQ, hd_jN, hd_rL, hd_rG, hd_rA, hd_rN, hd_cI, hd_c0, hd_cJ, hd_cX, hd_cA, hd_cO, hd_v0, hd_pI, hd_pJ, hd_pR, hd_nV, hd_nS, hd_get, hd_st, hd_stW, hd_cut, List.replicate, List.length_cons, List.length_nil, List.nil_append, List.cons_append, Nat.reduceAdd, Nat.reduceSub, Nat.reduceLeDiff, true_and, and_true, if_true, if_false, Bool.false_eq_true, List.append_nil, hs_o_0, hs_r_0_0, hs_t_0_0, hs_r_0_1, hs_t_0_1, hs_r_0_2, hs_t_0_2, hs_r_0_3, hs_t_0_3, hs_r_0_4, hs_t_0_4, hs_r_0_5, hs_t_0_5, hs_r_0_6, hs_t_0_6, hs_r_0_7, hs_t_0_7, hs_f_0_8, hs_o_1, hs_f_1_0, hs_f_1_1, hs_r_1_2, hs_t_1_2, hs_r_1_3, hs_t_1_3, hs_r_1_4, hs_t_1_4, hs_r_1_5, hs_t_1_5, hs_r_1_6, hs_t_1_6, hs_r_1_7, hs_t_1_7, hs_r_1_8, hs_t_1_8, hs_r_1_9, hs_t_1_9, hs_i_2, hs_i_3, hs_i_4, hs_i_5, hs_i_6, hs_i_7, hs_i_8, hs_i_9, hs_o_82, hs_r_82_0, hs_t_82_0, hs_f_82_1, hs_i_83, hs_o_84, hs_r_84_0, hs_t_84_0, hs_r_84_1, hs_t_84_1, hs_r_84_2, hs_t_84_2, hs_r_84_3, hs_t_84_3, hs_f_84_4, hs_i_85, hs_i_86, hs_i_87, hs_o_88, hs_r_88_0, hs_t_88_0, hs_r_88_1, hs_t_88_1, hs_r_88_2, hs_t_88_2, hs_r_88_3, hs_t_88_3, hs_r_88_4, hs_t_88_4, hs_r_88_5, hs_t_88_5, hs_r_88_6, hs_t_88_6, hs_r_88_7, hs_t_88_7, hs_f_88_8, hs_f_88_9, hs_i_89, hs_i_90, hs_i_91, hs_i_92, hs_i_93, hs_i_94, hs_i_95, hs_i_96, hs_i_97, hs_i_98, hs_i_99, hs_i_100, hs_i_101, hs_i_102, hs_o_103, hs_r_103_0, hs_t_103_0, hs_r_103_1, hs_t_103_1, hs_r_103_2, hs_t_103_2, hs_r_103_3, hs_t_103_3, hs_f_103_4, hs_i_104, hs_o_105, hs_r_105_0, hs_t_105_0, hs_r_105_1, hs_t_105_1, hs_r_105_2, hs_t_105_2, hs_i_106, hs_i_107, hs_o_108, hs_r_108_0, hs_t_108_0, hs_r_108_1, hs_t_108_1, hs_r_108_2, hs_t_108_2, hs_r_108_3, hs_t_108_3, hs_f_108_4, hs_i_109, hs_i_110, hs_o_111, hs_r_111_0, hs_t_111_0, hs_r_111_1, hs_t_111_1, hs_f_111_2, hs_f_111_3, hs_f_111_4, hs_i_112, hs_o_113, hs_f_113_0, hs_f_113_1, hs_f_113_2, hs_r_113_3, hs_t_113_3, hs_r_113_4, hs_t_113_4, hs_r_113_5, hs_t_113_5, hs_r_113_6, hs_t_113_6, hs_r_113_7, hs_t_113_7, hs_r_113_8, hs_t_113_8, hs_r_113_9, hs_t_113_9, hs_r_113_10, hs_t_113_10, hs_r_113_11, hs_t_113_11, hs_f_113_12, hs_f_113_13, hs_f_113_14, hs_r_113_15, hs_t_113_15, hs_f_113_16, hs_r_113_17, hs_t_113_17, hs_r_113_18, hs_t_113_18, hs_r_113_19, hs_t_113_19, hs_r_113_20, hs_t_113_20, hs_f_113_21, hs_f_113_22, hs_f_113_23, hs_r_113_24, hs_t_113_24, hs_f_113_25, hs_r_113_26, hs_t_113_26, hs_f_113_27, hs_i_114, hs_i_115, hs_i_116, hs_i_117, hs_i_118, hs_i_119, hs_i_120, hs_i_121, hs_i_122, hs_i_123, hs_i_124, hs_i_125, hs_i_126, hs_i_127, hs_i_128, hs_i_129, hb_sw 0 (by decide) (show 6 < 2 ^ 31 by decide), hb_sw 1 (by decide) (show 6 < 2 ^ 31 by decide), hb_sw 2 (by decide) (show 6 < 2 ^ 31 by decide), hb_sw 3 (by decide) (show 6 < 2 ^ 31 by decide), hb_sw 4 (by decide) (show 6 < 2 ^ 31 by decide), hb_sw 5 (by decide) (show 6 < 2 ^ 31 by decide), show ¬ ((6 : Nat) = 0) by decide, show ¬ ((6 : Nat) = 1) by decide, show ¬ ((6 : Nat) = 2) by decide, show ¬ ((6 : Nat) = 3) by decide, show ¬ ((6 : Nat) = 4) by decide, show ¬ ((6 : Nat) = 5) by decide]
    refine sx_rivalOf hp hx hr hs _ (fun q => ?_) (fun q => ?_)
    · simp only [hp_cost, show ¬ ((6 : Nat) = 0) by decide, show ¬ ((6 : Nat) = 1) by decide, show ¬ ((6 : Nat) = 2) by decide, show ¬ ((6 : Nat) = 3) by decide, show ¬ ((6 : Nat) = 4) by decide, show ¬ ((6 : Nat) = 5) by decide, if_false, if_pos q, hp_oi] at hk0
      exact hk0
    · simp only [hp_cost, show ¬ ((6 : Nat) = 0) by decide, show ¬ ((6 : Nat) = 1) by decide, show ¬ ((6 : Nat) = 2) by decide, show ¬ ((6 : Nat) = 3) by decide, show ¬ ((6 : Nat) = 4) by decide, show ¬ ((6 : Nat) = 5) by decide, if_false, if_neg q, hp_oi] at hk0
      exact hk0
