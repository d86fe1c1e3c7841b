/-! bits of small numbers -/
theorem hb_sh : ∀ k, k < 31 → ((nI k &&& 31).toBitVec.smod 32).toNat = k := by decide +kernel
theorem hb_shr {s k : Nat} (hs : s < 2 ^ 31) (hk : k < 31) : nI s >>> (nI k &&& 31) = nI (s / 2 ^ k) := pk_shrN hs _ k (hb_sh k hk)
theorem hb_pow : ∀ k, k < 31 → (1 : Int32) <<< (nI k &&& 31) = nI (2 ^ k) := by decide +kernel
theorem hb_and1 {n : Nat} (h : n < 2 ^ 31) : nI n &&& 1 = nI (n % 2) := by
  have := pk_andN (n := n) (by omega) (m := 1) 1 (by decide)
  simpa using this
theorem hb_one {s k : Nat} (hs : s < 2 ^ 31) (hk : k < 31) : nI s >>> (nI k &&& 31) &&& 1 = nI ((s.testBit k).toNat) := by
  have hd : s / 2 ^ k < 2 ^ 31 := Nat.lt_of_le_of_lt (Nat.div_le_self _ _) hs
  rw [hb_shr hs hk, hb_and1 hd]
  congr 1
  rw [Nat.testBit, Nat.shiftRight_eq_div_pow]
  rcases Nat.mod_two_eq_zero_or_one (s / 2 ^ k) with h | h
  · simp [h, Nat.one_and_eq_mod_two]
  · simp [h, Nat.one_and_eq_mod_two]
theorem hb_t {s k : Nat} (hs : s < 2 ^ 31) (hk : k < 31) : (nI s >>> (nI k &&& 31) &&& 1 = 1) ↔ s.testBit k = true := by
  rw [hb_one hs hk]
  cases s.testBit k <;> decide
theorem hb_f {s k : Nat} (hs : s < 2 ^ 31) (hk : k < 31) : (nI s >>> (nI k &&& 31) &&& 1 = 0) ↔ s.testBit k = false := by
  rw [hb_one hs hk]
  cases s.testBit k <;> decide
theorem hb_pc_le (n : Nat) : ∀ m, hb_pc n m ≤ m
  | 0 => Nat.le_refl 0
  | m + 1 => by
    have := hb_pc_le n m
    simp only [hb_pc]
    have h2 : (n.testBit m).toNat ≤ 1 := by cases n.testBit m <;> decide
    omega
theorem hb_all {k : Nat} (hk : k < 31) : (1 : Int32) <<< (nI k &&& 31) - 1 = nI (2 ^ k - 1) := by
  rw [hb_pow k hk]
  have : 1 ≤ 2 ^ k := Nat.one_le_two_pow
  rw [show (1 : Int32) = nI 1 from rfl, pk_sub this]
def hb_g1 (n : Nat) : Nat := n - ((n / 2) &&& 1431655765)
def hb_g2 (n : Nat) : Nat := (n &&& 858993459) + ((n / 4) &&& 858993459)
def hb_g3 (n : Nat) : Nat := (n + n / 16) &&& 252645135
def hb_g4 (n : Nat) : Nat := n + n / 256
def hb_g5 (n : Nat) : Nat := n + n / 65536
theorem hb_us (n k : Nat) (s : Int32) (hn : n < 2 ^ 32) (hs : ((s.toUInt32 &&& Int32.toUInt32 31).toBitVec % 32).toNat = k) : ((nI n).toUInt32 >>> (s.toUInt32 &&& Int32.toUInt32 31)).toInt32 = nI (n / 2 ^ k) := pk_ushrN hn s k hs
theorem hb_ia (a b : Nat) : nI a &&& nI b = nI (a &&& b) := fa_and a b
theorem hb_small : ∀ n, n < 256 → hb_g1 n < 256 ∧ ((n / 2) &&& 1431655765) ≤ n ∧ hb_g2 (hb_g1 n) < 256 ∧ hb_g3 (hb_g2 (hb_g1 n)) < 256 ∧ hb_g4 (hb_g3 (hb_g2 (hb_g1 n))) < 512 ∧ hb_g5 (hb_g4 (hb_g3 (hb_g2 (hb_g1 n)))) &&& 63 = hb_pc n 8 := by decide +kernel
theorem hb_q {a : hd_xI} {b : hd_xS} {ρ : List hd_V} {S : hd_S} {nrm : List hd_V → hd_S → Prop} {ret : Option hd_V → hd_S → Prop} (v : Int32) (h : ∀ post : Int32 → hd_S → Prop, a ρ S post ↔ post v S) : hd_sQ (hd_sI 0 a) b ρ S nrm ret ↔ b (hd_st ρ 0 (hd_vI v)) S nrm ret := by
  unfold hd_sQ hd_sI
  exact h _
set_option maxHeartbeats 4000000 in
theorem sp_bitCount (n : Nat) (hn : n < 256) (S : hd_S) (post : Option hd_V → hd_S → Prop) : wm_J6_bitCount_0f7a4 [hd_vI (nI n)] S post ↔ post (some (hd_vI (nI (hb_pc n 8)))) S := by
  obtain ⟨h1, h0, h2, h3, h4, h5⟩ := hb_small n hn
  have e0 : hd_rho0 1 [hd_vI (nI n)] = [hd_vI (nI n)] := rfl
  have l0 : (hd_args [hd_vI (nI n)]).length ≤ 1 := Nat.le_refl 1
  have st : ∀ x y : Int32, hd_st [hd_vI x] 0 (hd_vI y) = [hd_vI y] := fun _ _ => rfl
  unfold wm_J6_bitCount_0f7a4 hd_mth
  rw [e0]
  unfold wo_J6_bitCount_0f7a4
  rw [hb_q (nI (hb_g1 n)) (fun post => by
    simp only [hd_iB, hd_iL, hd_iK, hd_get]
    rw [hb_us n 1 1 (by omega) (by decide), show (1431655765 : Int32) = nI 1431655765 from rfl, hb_ia, pk_sub h0]
    rfl), st]
  generalize hb_g1 n = a at h1 h2 h3 h4 h5 ⊢
  rw [hb_q (nI (hb_g2 a)) (fun post => by
    simp only [hd_iB, hd_iL, hd_iK, hd_get]
    rw [hb_us a 2 2 (by omega) (by decide), show (858993459 : Int32) = nI 858993459 from rfl, hb_ia, hb_ia, nI_add]
    rfl), st]
  generalize hb_g2 a = b at h2 h3 h4 h5 ⊢
  rw [hb_q (nI (hb_g3 b)) (fun post => by
    simp only [hd_iB, hd_iL, hd_iK, hd_get]
    rw [hb_us b 4 4 (by omega) (by decide), show (252645135 : Int32) = nI 252645135 from rfl, nI_add, hb_ia]
    rfl), st]
  generalize hb_g3 b = d at h3 h4 h5 ⊢
  rw [hb_q (nI (hb_g4 d)) (fun post => by
    simp only [hd_iB, hd_iL, hd_iK, hd_get]
    rw [hb_us d 8 8 (by omega) (by decide), nI_add]
    rfl), st]
  generalize hb_g4 d = f at h4 h5 ⊢
  rw [hb_q (nI (hb_g5 f)) (fun post => by
    simp only [hd_iB, hd_iL, hd_iK, hd_get]
    rw [hb_us f 16 16 (by omega) (by decide), nI_add]
    rfl), st]
  simp only [hd_sRI, hd_iB, hd_iL, hd_iK, hd_get]
  rw [show (63 : Int32) = nI 63 from rfl, hb_ia, h5]
  exact ⟨fun h => h.2, fun h => ⟨l0, h⟩⟩
set_option maxHeartbeats 4000000 in
theorem sp_X9_sizeOf (n : Nat) (hn : n < 2 ^ 31) (S : hd_S) (post : Option hd_V → hd_S → Prop) (hp : post (some (hd_vI (nI (hb_pc n 8)))) S) : wm_X9_sizeOf [hd_vI (nI n)] S post := by
  simp only [wm_X9_sizeOf, wo_X9_sizeOf, hd_mth, hd_rho0, hd_args, hd_wide, hd_sQ, hd_s0, hd_sI, hd_sJ, hd_sR, hd_sP, hd_sF, hd_sZ, hd_sG, hd_sA, hd_sL, hd_sB, hd_sO, hd_sN, hd_sD, hd_sW, hd_sE, hd_sRI, hd_sRZ, hd_sRJ, hd_sRR, hd_sRV, hd_sSw, hd_sw, hd_sCI, hd_sCL, hd_iK, hd_iL, hd_iU, hd_iB, hd_iD, hd_iJ, hd_iG, hd_iA, hd_iQ, hd_iC, hd_iN, hd_iE, hd_jK, hd_jL, hd_jU, hd_jB, hd_jD, hd_jH, hd_jI, hd_jA, hd_jQ, hd_jN, hd_rL, hd_rG, hd_rA, hd_rN, hd_cI, hd_c0, hd_cJ, hd_cX, hd_cA, hd_cO, hd_v0, hd_pI, hd_pJ, hd_pR, hd_nV, hd_nS, hd_get, hd_st, hd_stW, hd_cut, List.replicate, List.length_cons, List.length_nil, List.nil_append, List.cons_append, Nat.reduceAdd, Nat.reduceSub, Nat.reduceLeDiff, true_and, and_true, if_true, if_false, Bool.false_eq_true, List.append_nil]
  refine hd_up (fun i ρ S' => S' = S ∧ ρ = [hd_vI (nI n), hd_vI (nI (hb_pc n i)), hd_vI (nI i)]) 8 ?_ ?_ (Nat.zero_le 8) ⟨rfl, rfl⟩
  · rintro i ρ S' K hi ⟨rfl, rfl⟩ hK
    simp only [wc_X9_sizeOf_4, wb_X9_sizeOf_4, hd_mth, hd_rho0, hd_args, hd_wide, hd_sQ, hd_s0, hd_sI, hd_sJ, hd_sR, hd_sP, hd_sF, hd_sZ, hd_sG, hd_sA, hd_sL, hd_sB, hd_sO, hd_sN, hd_sD, hd_sW, hd_sE, hd_sRI, hd_sRZ, hd_sRJ, hd_sRR, hd_sRV, hd_sSw, hd_sw, hd_sCI, hd_sCL, hd_iK, hd_iL, hd_iU, hd_iB, hd_iD, hd_iJ, hd_iG, hd_iA, hd_iQ, hd_iC, hd_iN, hd_iE, hd_jK, hd_jL, hd_jU, hd_jB, hd_jD, hd_jH, hd_jI, hd_jA, hd_jQ, hd_jN, hd_rL, hd_rG, hd_rA, hd_rN, hd_cI, hd_c0, hd_cJ, hd_cX, hd_cA, hd_cO, hd_v0, hd_pI, hd_pJ, hd_pR, hd_nV, hd_nS, hd_get, hd_st, hd_stW, hd_cut, List.replicate, List.length_cons, List.length_nil, List.nil_append, List.cons_append, Nat.reduceAdd, Nat.reduceSub, Nat.reduceLeDiff, true_and, and_true, if_true, if_false, Bool.false_eq_true, List.append_nil, hd_lit8, nI_ltI (show i < 2 ^ 31 by omega) (show 8 < 2 ^ 31 by decide), hi, decide_true, hb_one hn (show i < 31 by omega), nI_add, nI_1]
    exact hK _ _ ⟨rfl, rfl⟩
  · rintro ρ S' K ⟨rfl, rfl⟩
    simp only [wc_X9_sizeOf_4, hd_mth, hd_rho0, hd_args, hd_wide, hd_sQ, hd_s0, hd_sI, hd_sJ, hd_sR, hd_sP, hd_sF, hd_sZ, hd_sG, hd_sA, hd_sL, hd_sB, hd_sO, hd_sN, hd_sD, hd_sW, hd_sE, hd_sRI, hd_sRZ, hd_sRJ, hd_sRR, hd_sRV, hd_sSw, hd_sw, hd_sCI, hd_sCL, hd_iK, hd_iL, hd_iU, hd_iB, hd_iD, hd_iJ, hd_iG, hd_iA, hd_iQ, hd_iC, hd_iN, hd_iE, hd_jK, hd_jL, hd_jU, hd_jB, hd_jD, hd_jH, hd_jI, hd_jA, hd_jQ, hd_jN, hd_rL, hd_rG, hd_rA, hd_rN, hd_cI, hd_c0, hd_cJ, hd_cX, hd_cA, hd_cO, hd_v0, hd_pI, hd_pJ, hd_pR, hd_nV, hd_nS, hd_get, hd_st, hd_stW, hd_cut, List.replicate, List.length_cons, List.length_nil, List.nil_append, List.cons_append, Nat.reduceAdd, Nat.reduceSub, Nat.reduceLeDiff, true_and, and_true, if_true, if_false, Bool.false_eq_true, List.append_nil, hd_lit8, nI_ltI (show 8 < 2 ^ 31 by decide) (show 8 < 2 ^ 31 by decide), Nat.lt_irrefl, decide_false]
    exact hp
