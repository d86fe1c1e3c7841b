/-! bits of small numbers -/
theorem hb_sh : ∀ k, k < 31 → ((nI k &&& 31).toBitVec.smod 32).toNat = k := by decide +kernel
theorem hb_shr {s k : Nat} (hs : s < 2 ^ 31) (hk : k < 31) : nI s >>> (nI k &&& 31) = nI (s / 2 ^ k) := pk_shrN hs _ k (hb_sh k hk)
theorem hb_pow : ∀ k, k < 31 → (1 : Int32) <<< (nI k &&& 31) = nI (2 ^ k) := by decide +kernel
theorem hb_and1 {n : Nat} (h : n < 2 ^ 31) : nI n &&& 1 = nI (n % 2) := by
  have := pk_andN (n := n) (by omega) (m := 1) 1 (by decide)
  simpa using this
theorem hb_one {s k : Nat} (hs : s < 2 ^ 31) (hk : k < 31) : nI s >>> (nI k &&& 31) &&& 1 = nI ((s.testBit k).toNat) := by
  have hd : s / 2 ^ k < 2 ^ 31 := Nat.lt_of_le_of_lt (Nat.div_le_self _ _) hs
  rw [hb_shr hs hk, hb_and1 hd]
  congr 1
  rw [Nat.testBit, Nat.shiftRight_eq_div_pow]
  rcases Nat.mod_two_eq_zero_or_one (s / 2 ^ k) with h | h
  · simp [h, Nat.one_and_eq_mod_two]
  · simp [h, Nat.one_and_eq_mod_two]
theorem hb_t {s k : Nat} (hs : s < 2 ^ 31) (hk : k < 31) : (nI s >>> (nI k &&& 31) &&& 1 = 1) ↔ s.testBit k = true := by
  rw [hb_one hs hk]
  cases s.testBit k <;> decide
theorem hb_f {s k : Nat} (hs : s < 2 ^ 31) (hk : k < 31) : (nI s >>> (nI k &&& 31) &&& 1 = 0) ↔ s.testBit k = false := by
  rw [hb_one hs hk]
  cases s.testBit k <;> decide
theorem hb_pc_le (n : Nat) : ∀ m, hb_pc n m ≤ m
  | 0 => Nat.le_refl 0
  | m + 1 => by
    have := hb_pc_le n m
    simp only [hb_pc]
    have h2 : (n.testBit m).toNat ≤ 1 := by cases n.testBit m <;> decide
    omega
theorem hb_all {k : Nat} (hk : k < 31) : (1 : Int32) <<< (nI k &&& 31) - 1 = nI (2 ^ k - 1) := by
  rw [hb_pow k hk]
  have : 1 ≤ 2 ^ k := Nat.one_le_two_pow
  rw [show (1 : Int32) = nI 1 from rfl, pk_sub this]
set_option maxHeartbeats 4000000 in
set_option maxRecDepth 100000 in
theorem hb_bitCount_val (x : Int32) (S : hd_S) (post : Option hd_V → hd_S → Prop) : wm_J6_bitCount_0f7a4 [hd_vI x] S post ↔ post (some (hd_vI ((fun i : Int32 => (fun i : Int32 => (fun i : Int32 => (fun i : Int32 => (fun i : Int32 => i &&& 63) (i + (i.toUInt32 >>> ((16 : Int32).toUInt32 &&& Int32.toUInt32 31)).toInt32)) (i + (i.toUInt32 >>> ((8 : Int32).toUInt32 &&& Int32.toUInt32 31)).toInt32)) ((i + (i.toUInt32 >>> ((4 : Int32).toUInt32 &&& Int32.toUInt32 31)).toInt32) &&& 252645135)) ((i &&& 858993459) + ((i.toUInt32 >>> ((2 : Int32).toUInt32 &&& Int32.toUInt32 31)).toInt32 &&& 858993459))) (x - ((x.toUInt32 >>> ((1 : Int32).toUInt32 &&& Int32.toUInt32 31)).toInt32 &&& 1431655765))))) S := by
  simp only [wm_J6_bitCount_0f7a4, wo_J6_bitCount_0f7a4, hd_mth, hd_rho0, hd_args, hd_wide, hd_sQ, hd_s0, hd_sI, hd_sJ, hd_sR, hd_sP, hd_sF, hd_sZ, hd_sG, hd_sA, hd_sL, hd_sB, hd_sO, hd_sN, hd_sD, hd_sW, hd_sE, hd_sRI, hd_sRZ, hd_sRJ, hd_sRR, hd_sRV, hd_sSw, hd_sw, hd_sCI, hd_sCL, hd_iK, hd_iL, hd_iU, hd_iB, hd_iD, hd_iJ, hd_iG, hd_iA, hd_iQ, hd_iC, hd_iN, hd_iE, hd_jK, hd_jL, hd_jU, hd_jB, hd_jD, hd_jH, hd_jI, hd_jA, hd_jQ, hd_jN, hd_rL, hd_rG, hd_rA, hd_rN, hd_cI, hd_c0, hd_cJ, hd_cX, hd_cA, hd_cO, hd_v0, hd_pI, hd_pJ, hd_pR, hd_nV, hd_nS, hd_get, hd_st, hd_stW, hd_cut, List.replicate, List.length_cons, List.length_nil, List.nil_append, List.cons_append, Nat.reduceAdd, Nat.reduceSub, Nat.reduceLeDiff, true_and, and_true, if_true, if_false, Bool.false_eq_true, List.append_nil]
set_option maxRecDepth 100000 in
theorem hb_bitCount_256 : ∀ n, n < 256 → (fun i : Int32 => (fun i : Int32 => (fun i : Int32 => (fun i : Int32 => (fun i : Int32 => i &&& 63) (i + (i.toUInt32 >>> ((16 : Int32).toUInt32 &&& Int32.toUInt32 31)).toInt32)) (i + (i.toUInt32 >>> ((8 : Int32).toUInt32 &&& Int32.toUInt32 31)).toInt32)) ((i + (i.toUInt32 >>> ((4 : Int32).toUInt32 &&& Int32.toUInt32 31)).toInt32) &&& 252645135)) ((i &&& 858993459) + ((i.toUInt32 >>> ((2 : Int32).toUInt32 &&& Int32.toUInt32 31)).toInt32 &&& 858993459))) (nI n - (((nI n).toUInt32 >>> ((1 : Int32).toUInt32 &&& Int32.toUInt32 31)).toInt32 &&& 1431655765)) = nI (hb_pc n 8) := by decide +kernel
theorem sp_bitCount (n : Nat) (hn : n < 256) (S : hd_S) (post : Option hd_V → hd_S → Prop) : wm_J6_bitCount_0f7a4 [hd_vI (nI n)] S post ↔ post (some (hd_vI (nI (hb_pc n 8)))) S := by
  rw [hb_bitCount_val, hb_bitCount_256 n hn]
set_option maxHeartbeats 4000000 in
theorem sp_X9_sizeOf (n : Nat) (hn : n < 2 ^ 31) (S : hd_S) (post : Option hd_V → hd_S → Prop) (hp : post (some (hd_vI (nI (hb_pc n 8)))) S) : wm_X9_sizeOf [hd_vI (nI n)] S post := by
  simp only [wm_X9_sizeOf, wo_X9_sizeOf, hd_mth, hd_rho0, hd_args, hd_wide, hd_sQ, hd_s0, hd_sI, hd_sJ, hd_sR, hd_sP, hd_sF, hd_sZ, hd_sG, hd_sA, hd_sL, hd_sB, hd_sO, hd_sN, hd_sD, hd_sW, hd_sE, hd_sRI, hd_sRZ, hd_sRJ, hd_sRR, hd_sRV, hd_sSw, hd_sw, hd_sCI, hd_sCL, hd_iK, hd_iL, hd_iU, hd_iB, hd_iD, hd_iJ, hd_iG, hd_iA, hd_iQ, hd_iC, hd_iN, hd_iE, hd_jK, hd_jL, hd_jU, hd_jB, hd_jD, hd_jH, hd_jI, hd_jA, hd_jQ, hd_jN, hd_rL, hd_rG, hd_rA, hd_rN, hd_cI, hd_c0, hd_cJ, hd_cX, hd_cA, hd_cO, hd_v0, hd_pI, hd_pJ, hd_pR, hd_nV, hd_nS, hd_get, hd_st, hd_stW, hd_cut, List.replicate, List.length_cons, List.length_nil, List.nil_append, List.cons_append, Nat.reduceAdd, Nat.reduceSub, Nat.reduceLeDiff, true_and, and_true, if_true, if_false, Bool.false_eq_true, List.append_nil]
  refine hd_up (fun i ρ S' => S' = S ∧ ρ = [hd_vI (nI n), hd_vI (nI (hb_pc n i)), hd_vI (nI i)]) 8 ?_ ?_ (Nat.zero_le 8) ⟨rfl, rfl⟩
  · rintro i ρ S' K hi ⟨rfl, rfl⟩ hK
    simp only [wc_X9_sizeOf_4, wb_X9_sizeOf_4, hd_mth, hd_rho0, hd_args, hd_wide, hd_sQ, hd_s0, hd_sI, hd_sJ, hd_sR, hd_sP, hd_sF, hd_sZ, hd_sG, hd_sA, hd_sL, hd_sB, hd_sO, hd_sN, hd_sD, hd_sW, hd_sE, hd_sRI, hd_sRZ, hd_sRJ, hd_sRR, hd_sRV, hd_sSw, hd_sw, hd_sCI, hd_sCL, hd_iK, hd_iL, hd_iU, hd_iB, hd_iD, hd_iJ, hd_iG, hd_iA, hd_iQ, hd_iC, hd_iN, hd_iE, hd_jK, hd_jL, hd_jU, hd_jB, hd_jD, hd_jH, hd_jI, hd_jA, hd_jQ, hd_jN, hd_rL, hd_rG, hd_rA, hd_rN, hd_cI, hd_c0, hd_cJ, hd_cX, hd_cA, hd_cO, hd_v0, hd_pI, hd_pJ, hd_pR, hd_nV, hd_nS, hd_get, hd_st, hd_stW, hd_cut, List.replicate, List.length_cons, List.length_nil, List.nil_append, List.cons_append, Nat.reduceAdd, Nat.reduceSub, Nat.reduceLeDiff, true_and, and_true, if_true, if_false, Bool.false_eq_true, List.append_nil, hd_lit8, nI_ltI (show i < 2 ^ 31 by omega) (show 8 < 2 ^ 31 by decide), hi, decide_true, hb_one hn (show i < 31 by omega), nI_add, nI_1]
    exact hK _ _ ⟨rfl, rfl⟩
  · rintro ρ S' K ⟨rfl, rfl⟩
    simp only [wc_X9_sizeOf_4, hd_mth, hd_rho0, hd_args, hd_wide, hd_sQ, hd_s0, hd_sI, hd_sJ, hd_sR, hd_sP, hd_sF, hd_sZ, hd_sG, hd_sA, hd_sL, hd_sB, hd_sO, hd_sN, hd_sD, hd_sW, hd_sE, hd_sRI, hd_sRZ, hd_sRJ, hd_sRR, hd_sRV, hd_sSw, hd_sw, hd_sCI, hd_sCL, hd_iK, hd_iL, hd_iU, hd_iB, hd_iD, hd_iJ, hd_iG, hd_iA, hd_iQ, hd_iC, hd_iN, hd_iE, hd_jK, hd_jL, hd_jU, hd_jB, hd_jD, hd_jH, hd_jI, hd_jA, hd_jQ, hd_jN, hd_rL, hd_rG, hd_rA, hd_rN, hd_cI, hd_c0, hd_cJ, hd_cX, hd_cA, hd_cO, hd_v0, hd_pI, hd_pJ, hd_pR, hd_nV, hd_nS, hd_get, hd_st, hd_stW, hd_cut, List.replicate, List.length_cons, List.length_nil, List.nil_append, List.cons_append, Nat.reduceAdd, Nat.reduceSub, Nat.reduceLeDiff, true_and, and_true, if_true, if_false, Bool.false_eq_true, List.append_nil, hd_lit8, nI_ltI (show 8 < 2 ^ 31 by decide) (show 8 < 2 ^ 31 by decide), Nat.lt_irrefl, decide_false]
    exact hp
