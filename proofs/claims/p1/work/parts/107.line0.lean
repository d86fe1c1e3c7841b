/-! halls on a line: plain terms -/
theorem hz_lt {a b : Int} (ha : -100000 ≤ a ∧ a ≤ 100000) (hb : -100000 ≤ b ∧ b ≤ 100000) : (Int32.ofInt a < Int32.ofInt b) ↔ a < b := by
  rw [Int32.lt_iff_toInt_lt, fb_ofI (by omega) (by omega), fb_ofI (by omega) (by omega)]
theorem hz_le {a b : Int} (ha : -100000 ≤ a ∧ a ≤ 100000) (hb : -100000 ≤ b ∧ b ≤ 100000) : (Int32.ofInt a ≤ Int32.ofInt b) ↔ a ≤ b := by
  rw [Int32.le_iff_toInt_le, fb_ofI (by omega) (by omega), fb_ofI (by omega) (by omega)]
theorem hz_eq {a b : Int} (ha : -100000 ≤ a ∧ a ≤ 100000) (hb : -100000 ≤ b ∧ b ≤ 100000) : (Int32.ofInt a = Int32.ofInt b) ↔ a = b := by
  rw [← Int32.toInt_inj, fb_ofI (by omega) (by omega), fb_ofI (by omega) (by omega)]
theorem hz_sub (a b : Int) : Int32.ofInt a - Int32.ofInt b = Int32.ofInt (a - b) := (Int32.ofInt_sub a b).symm
theorem hz_nat (n : Nat) : nI n = Int32.ofInt (n : Int) := Int32.ofInt_eq_ofNat.symm
theorem hz_abs {z : Int} (h : -100000 ≤ z ∧ z ≤ 100000) : (if (0 : Int32) ≤ Int32.ofInt z then Int32.ofInt z else 0 - Int32.ofInt z) = nI z.natAbs := by
  have e0 : (0 : Int32) = Int32.ofInt 0 := rfl
  have e1 : ((0 : Int32) ≤ Int32.ofInt z) ↔ 0 ≤ z := by
    rw [e0]
    exact hz_le (by omega) h
  by_cases hz : 0 ≤ z
  · rw [if_pos (e1.mpr hz), hz_nat]
    congr 1
    omega
  · rw [if_neg (fun r => hz (e1.mp r)), hz_nat, e0, hz_sub]
    congr 1
    omega
def hp_inc (u : Nat) (f : Nat → Int) : Prop := ∀ i j, i < j → j < u → f i < f j
def hp_SP (sp : Nat → Int) (n u : Nat) (f : Nat → Int) : Prop := hp_inc u f ∧ (∀ i, i < u → ∃ t, t < n ∧ f i = sp t) ∧ (∀ t, t < n → ∃ i, i < u ∧ f i = sp t)
theorem hp_SP_sub {sp : Nat → Int} {n u v : Nat} {f g : Nat → Int} (h : hp_SP sp n u f) (h2 : hp_SP sp n v g) : ∀ i, (∀ k, k < i → k < u → k < v ∧ f k = g k) → i < u → i < v ∧ f i = g i := by
  intro i ih hi
  obtain ⟨t, ht, e1⟩ := h.2.1 i hi
  obtain ⟨j, hj, e2⟩ := h2.2.2 t ht
  have hij : i ≤ j := by
    refine Classical.byContradiction fun hc => ?_
    have h3 := (ih j (by omega) (by omega)).2
    have h4 := h.1 j i (by omega) hi
    omega
  have hiv : i < v := by omega
  have hle : g i ≤ g j := by
    rcases Nat.lt_or_ge i j with q | q
    · have := h2.1 i j q hj
      omega
    · rw [show i = j by omega]
      exact Int.le_refl _
  obtain ⟨t2, ht2, e3⟩ := h2.2.1 i hiv
  obtain ⟨j2, hj2, e4⟩ := h.2.2 t2 ht2
  have hij2 : i ≤ j2 := by
    refine Classical.byContradiction fun hc => ?_
    have h3 := (ih j2 (by omega) hj2).2
    have h4 := h2.1 j2 i (by omega) hiv
    omega
  have hle2 : f i ≤ f j2 := by
    rcases Nat.lt_or_ge i j2 with q | q
    · have := h.1 i j2 q hj2
      omega
    · rw [show i = j2 by omega]
      exact Int.le_refl _
  exact ⟨hiv, by omega⟩
theorem hp_SP_all {sp : Nat → Int} {n u v : Nat} {f g : Nat → Int} (h : hp_SP sp n u f) (h2 : hp_SP sp n v g) : ∀ i, i < u → i < v ∧ f i = g i := fun i => by
  induction i using Nat.strongRecOn with
  | _ i ih => exact hp_SP_sub h h2 i (fun k hk hku => ih k hk hku)
theorem hp_SP_one {sp : Nat → Int} {n u v : Nat} {f g : Nat → Int} (h : hp_SP sp n u f) (h2 : hp_SP sp n v g) : u = v ∧ ∀ i, i < u → f i = g i := by
  have a := hp_SP_all h h2
  have b := hp_SP_all h2 h
  refine ⟨?_, fun i hi => (a i hi).2⟩
  rcases Nat.lt_trichotomy u v with q | q | q
  · exact absurd (b u q).1 (Nat.lt_irrefl _)
  · exact q
  · exact absurd (a v q).1 (Nat.lt_irrefl _)
/-- no more things than places -/
theorem hp_pig : ∀ (T u : Nat) (g : Nat → Nat), (∀ i, i < u → g i < T) → (∀ i j, i < u → j < u → g i = g j → i = j) → u ≤ T
  | 0, u, g, h1, _ => by
    rcases Nat.eq_zero_or_pos u with q | q
    · omega
    · have := h1 0 q
      omega
  | T + 1, 0, g, _, _ => Nat.zero_le _
  | T + 1, v + 1, g, h1, h2 => by
    have key := hp_pig T v (fun i => if g i = T then g v else g i) (fun i hi => by
      show (if g i = T then g v else g i) < T
      by_cases hg : g i = T
      · rw [if_pos hg]
        have := h1 v (by omega)
        have : g v ≠ T := fun q => by
          have := h2 i v (by omega) (by omega) (by rw [hg, q])
          omega
        omega
      · rw [if_neg hg]
        have := h1 i (by omega)
        omega) (fun i j hi hj he => by
      have he : (if g i = T then g v else g i) = (if g j = T then g v else g j) := he
      by_cases hgi : g i = T
      · by_cases hgj : g j = T
        · exact h2 i j (by omega) (by omega) (by rw [hgi, hgj])
        · rw [if_pos hgi, if_neg hgj] at he
          have := h2 v j (by omega) (by omega) he
          omega
      · by_cases hgj : g j = T
        · rw [if_neg hgi, if_pos hgj] at he
          have := h2 i v (by omega) (by omega) he
          omega
        · rw [if_neg hgi, if_neg hgj] at he
          exact h2 i j (by omega) (by omega) he)
    omega
theorem hp_inc_le {sp : Nat → Int} {T u : Nat} {f : Nat → Int} (h : hp_inc u f) (h2 : ∀ i, i < u → ∃ t, t < T ∧ f i = sp t) : u ≤ T := by
  have hc : ∀ i, ∃ t, i < u → t < T ∧ f i = sp t := fun i => by
    by_cases hi : i < u
    · obtain ⟨t, ht⟩ := h2 i hi
      exact ⟨t, fun _ => ht⟩
    · exact ⟨0, fun q => absurd q hi⟩
  refine hp_pig T u (fun i => Classical.choose (hc i)) (fun i hi => (Classical.choose_spec (hc i) hi).1) (fun i j hi hj he => ?_)
  have e1 := (Classical.choose_spec (hc i) hi).2
  have e2 := (Classical.choose_spec (hc j) hj).2
  have he : Classical.choose (hc i) = Classical.choose (hc j) := he
  rw [he, ← e2] at e1
  rcases Nat.lt_trichotomy i j with q | q | q
  · have := h i j q hj
    omega
  · exact q
  · have := h j i q hi
    omega
/-- the nearest chosen spot, N at most -/
def hp_nd (f : Nat → Int) (g : Nat → Bool) (x : Int) (N : Nat) : Nat → Nat
  | 0 => N
  | i + 1 => if g i then min (hp_nd f g x N i) (f i - x).natAbs else hp_nd f g x N i
theorem hp_nd_le (f : Nat → Int) (g : Nat → Bool) (x : Int) (N : Nat) : ∀ i, hp_nd f g x N i ≤ N
  | 0 => Nat.le_refl _
  | i + 1 => by
    have := hp_nd_le f g x N i
    simp only [hp_nd]
    split <;> omega
theorem hp_nd_N {f : Nat → Int} {g : Nat → Bool} {x : Int} : ∀ n, (∀ i, i < n → (f i - x).natAbs ≤ 2000) → (hp_nd f g x 10000 n = hp_nd f g x 2000 n ∧ ∃ i, i < n ∧ g i = true) ∨ (hp_nd f g x 10000 n = 10000 ∧ hp_nd f g x 2000 n = 2000 ∧ ∀ i, i < n → g i = false)
  | 0, _ => Or.inr ⟨rfl, rfl, fun i hi => by omega⟩
  | n + 1, h => by
    have ih := hp_nd_N (f := f) (g := g) (x := x) n (fun i hi => h i (by omega))
    have hn := h n (by omega)
    simp only [hp_nd]
    cases hg : g n with
    | true =>
      left
      rw [if_pos rfl, if_pos rfl]
      refine ⟨?_, n, by omega, hg⟩
      rcases ih with ⟨e, -⟩ | ⟨e1, e2, -⟩ <;> omega
    | false =>
      rw [if_neg (by decide), if_neg (by decide)]
      rcases ih with ⟨e, i, hi, hgi⟩ | ⟨e1, e2, e3⟩
      · exact Or.inl ⟨e, i, by omega, hgi⟩
      · refine Or.inr ⟨e1, e2, fun i hi => ?_⟩
        by_cases hin : i = n
        · rw [hin]
          exact hg
        · exact e3 i (by omega)
theorem hp_nd_cong {f f2 : Nat → Int} {g g2 : Nat → Bool} (x : Int) (N : Nat) : ∀ n, (∀ i, i < n → f i = f2 i ∧ g i = g2 i) → hp_nd f g x N n = hp_nd f2 g2 x N n
  | 0, _ => rfl
  | n + 1, h => by
    simp only [hp_nd]
    rw [hp_nd_cong x N n (fun i hi => h i (by omega)), (h n (by omega)).1, (h n (by omega)).2]
def hp_mxn (h : Nat → Nat) : Nat → Nat
  | 0 => 0
  | n + 1 => max (hp_mxn h n) (h n)
theorem hp_mxn_le {h : Nat → Nat} {B : Nat} (hb : ∀ i, h i ≤ B) : ∀ n, hp_mxn h n ≤ B
  | 0 => Nat.zero_le _
  | n + 1 => by
    have := hp_mxn_le hb n
    have := hb n
    simp only [hp_mxn]
    omega
theorem hp_mxn_cong {h h2 : Nat → Nat} : ∀ n, (∀ i, i < n → h i = h2 i) → hp_mxn h n = hp_mxn h2 n
  | 0, _ => rfl
  | n + 1, e => by
    simp only [hp_mxn]
    rw [hp_mxn_cong n (fun i hi => e i (by omega)), e n (by omega)]
/-- what a choice costs -/
def hp_ld (p : hp_P) (u : Nat) (f : Nat → Int) (kind : Int32) (g : Nat → Bool) : Nat := if kind = 0 then fb_sm (fun t => hp_cr p t * hp_nd f g (hp_sp p t) 2000 u) (hp_T p) else hp_mxn (fun t => hp_nd f g (hp_sp p t) 2000 u) (hp_T p)
theorem hp_ld_le {p : hp_P} (hp : hp_ok p) (u : Nat) (f : Nat → Int) (kind : Int32) (g : Nat → Bool) : hp_ld p u f kind g ≤ 320000 := by
  have hT := hp.1
  unfold hp_ld
  split
  · have h1 : fb_sm (fun t => hp_cr p t * hp_nd f g (hp_sp p t) 2000 u) (hp_T p) ≤ hp_T p * 40000 := fb_sm_bound (fun t _ => Nat.le_trans (Nat.mul_le_mul (hp.2.2.2.1 t) (hp_nd_le f g (hp_sp p t) 2000 u)) (by decide))
    have h2 : hp_T p * 40000 ≤ 8 * 40000 := Nat.mul_le_mul_right _ hT
    omega
  · have := hp_mxn_le (h := fun t => hp_nd f g (hp_sp p t) 2000 u) (B := 2000) (fun t => hp_nd_le f g (hp_sp p t) 2000 u) (hp_T p)
    omega
theorem hp_ld_cong {p : hp_P} {u : Nat} {f f2 : Nat → Int} (kind : Int32) {g g2 : Nat → Bool} (h : ∀ i, i < u → f i = f2 i ∧ g i = g2 i) : hp_ld p u f kind g = hp_ld p u f2 kind g2 := by
  unfold hp_ld
  rw [fb_sm_cong (f := fun t => hp_cr p t * hp_nd f g (hp_sp p t) 2000 u) (g := fun t => hp_cr p t * hp_nd f2 g2 (hp_sp p t) 2000 u) (fun t _ => by rw [hp_nd_cong _ _ u h]), hp_mxn_cong (h := fun t => hp_nd f g (hp_sp p t) 2000 u) (h2 := fun t => hp_nd f2 g2 (hp_sp p t) 2000 u) (hp_T p) (fun t _ => by rw [hp_nd_cong _ _ u h])]
/-- a choice, its bits turned round -/
def hb_rv (u c : Nat) : Nat := hb_mk (fun i => c.testBit (u - 1 - i)) u
theorem hb_rv_lt (u c : Nat) : hb_rv u c < 2 ^ u := hb_mk_lt _ _
theorem hb_rv_bit {u c i : Nat} (hi : i < u) : (hb_rv u c).testBit i = c.testBit (u - 1 - i) := by
  unfold hb_rv
  rw [hb_mk_bit]
  simp [hi]
theorem hb_rv_rv {u c : Nat} (hc : c < 2 ^ u) : hb_rv u (hb_rv u c) = c := by
  refine Nat.eq_of_testBit_eq (fun i => ?_)
  by_cases hi : i < u
  · rw [hb_rv_bit hi, hb_rv_bit (by omega)]
    congr 1
    omega
  · rw [hp_hi (hb_rv_lt u _) (by omega), hp_hi hc (by omega)]
theorem hb_pc_sm (c : Nat) : ∀ n, hb_pc c n = fb_sm (fun i => (c.testBit i).toNat) n
  | 0 => rfl
  | n + 1 => by
    simp only [hb_pc, fb_sm]
    rw [hb_pc_sm c n]
theorem fb_sm_rev (h : Nat → Nat) : ∀ n, fb_sm (fun i => h (n - 1 - i)) n = fb_sm h n
  | 0 => rfl
  | n + 1 => by
    have e := fb_sm_split (fun i => h (n + 1 - 1 - i)) 1 n
    have e2 : fb_sm (fun k => h (n + 1 - 1 - (1 + k))) n = fb_sm (fun i => h (n - 1 - i)) n := fb_sm_cong (fun k hk => by
      show h (n + 1 - 1 - (1 + k)) = h (n - 1 - k)
      congr 1
      omega)
    have e3 : fb_sm (fun i => h (n + 1 - 1 - i)) 1 = h n := by
      show 0 + h (n + 1 - 1 - 0) = h n
      rw [Nat.zero_add]
      rfl
    have e4 : fb_sm (fun i => h (n + 1 - 1 - i)) (n + 1) = fb_sm (fun i => h (n + 1 - 1 - i)) (1 + n) := by rw [Nat.add_comm n 1]
    rw [e4, e, e2, e3, fb_sm_rev h n]
    show h n + fb_sm h n = fb_sm h n + h n
    omega
theorem hb_rv_pc {u c : Nat} (hu : u ≤ 8) (hc : c < 2 ^ u) : hb_pc (hb_rv u c) 8 = hb_pc c 8 := by
  rw [hb_pc_hi (hb_rv_lt u c) 8 hu, hb_pc_hi hc 8 hu, hb_pc_sm, hb_pc_sm, ← fb_sm_rev (fun i => (c.testBit i).toNat) u]
  exact fb_sm_cong (fun i hi => by rw [hb_rv_bit hi])
theorem hb_lowb : ∀ d, d < 256 → d ≠ 0 → ∃ k, k < 8 ∧ d &&& (4294967296 - d) = 2 ^ k ∧ d.testBit k = true ∧ ∀ j, j < k → d.testBit j = false := by decide +kernel
theorem hz_neg {d : Nat} (h : d ≤ 4294967296) : -nI d = nI (4294967296 - d) := by
  have e : nI d + nI (4294967296 - d) = 0 := by
    rw [nI_add, show d + (4294967296 - d) = 4294967296 by omega]
    rfl
  have e2 : -nI d + (nI d + nI (4294967296 - d)) = -nI d + 0 := by rw [e]
  rw [← Int32.add_assoc, Int32.add_left_neg, Int32.zero_add, Int32.add_zero] at e2
  exact e2.symm
theorem hb_lt_bit {x y : Nat} (n : Nat) (hx : x.testBit n = false) (hy : y.testBit n = true) (hs : ∀ j, n < j → x.testBit j = y.testBit j) : x < y := by
  have e : x / 2 ^ (n + 1) = y / 2 ^ (n + 1) := Nat.eq_of_testBit_eq (fun i => by
    rw [Nat.testBit_div_two_pow, Nat.testBit_div_two_pow]
    exact hs _ (by omega))
  have h1 : x % 2 ^ (n + 1) < 2 ^ n := Nat.lt_pow_two_of_testBit _ (fun i hi => by
    rw [Nat.testBit_mod_two_pow]
    by_cases hin : i = n
    · rw [hin, hx]
      simp
    · simp [show ¬ i < n + 1 by omega])
  have h2 : 2 ^ n ≤ y % 2 ^ (n + 1) := Nat.ge_two_pow_of_testBit (by
    rw [Nat.testBit_mod_two_pow, hy]
    simp)
  have d1 := Nat.div_add_mod x (2 ^ (n + 1))
  have d2 := Nat.div_add_mod y (2 ^ (n + 1))
  rw [e] at d1
  omega
/-- who is ahead: the lowest bit in which two choices differ -/
theorem hb_ahead {u a b : Nat} (hu : u ≤ 8) (ha : a < 2 ^ u) (hb : b < 2 ^ u) (hab : a ≠ b) : (¬ (nI a &&& (nI a ^^^ nI b) &&& -(nI a ^^^ nI b) = 0)) ↔ hb_rv u b < hb_rv u a := by
  have h256 : 2 ^ u ≤ 256 := Nat.pow_le_pow_right (n := 2) (by decide) hu
  have hd : a ^^^ b < 256 := Nat.lt_of_lt_of_le (Nat.xor_lt_two_pow ha hb) h256
  have hd0 : a ^^^ b ≠ 0 := fun q => hab (by
    refine Nat.eq_of_testBit_eq (fun i => ?_)
    have := congrArg (fun x => Nat.testBit x i) q
    simp only [Nat.testBit_xor, Nat.zero_testBit] at this
    cases h1 : a.testBit i <;> cases h2 : b.testBit i <;> simp [h1, h2] at this ⊢)
  obtain ⟨k, hk, e1, e2, e3⟩ := hb_lowb (a ^^^ b) hd hd0
  have hx : nI a ^^^ nI b = nI (a ^^^ b) := fb_xorI a b
  rw [hx, hz_neg (by omega), fa_and, fa_and, Nat.and_assoc, e1]
  have hku : k < u := by
    refine Classical.byContradiction fun hc => ?_
    rw [Nat.testBit_xor, hp_hi ha (by omega), hp_hi hb (by omega)] at e2
    cases e2
  have hlt : a &&& 2 ^ k < 2 ^ 31 := Nat.lt_of_le_of_lt Nat.and_le_left (by omega)
  have hz : (nI (a &&& 2 ^ k) = 0) ↔ a.testBit k = false := by
    rw [hb_z hlt]
    constructor
    · intro h
      have := congrArg (fun x => Nat.testBit x k) h
      simpa [Nat.testBit_and, Nat.testBit_two_pow] using this
    · intro h
      refine Nat.eq_of_testBit_eq (fun i => ?_)
      rw [Nat.testBit_and, Nat.testBit_two_pow, Nat.zero_testBit]
      by_cases hik : k = i
      · rw [← hik, h]
        rfl
      · simp [hik]
  rw [hz]
  have same : ∀ j, j < k → a.testBit j = b.testBit j := fun j hj => by
    have := e3 j hj
    rw [Nat.testBit_xor] at this
    cases h1 : a.testBit j <;> cases h2 : b.testBit j <;> simp [h1, h2] at this ⊢
  have high : ∀ (x y : Nat), (∀ j, j < k → x.testBit j = y.testBit j) → ∀ j, u - 1 - k < j → (hb_rv u x).testBit j = (hb_rv u y).testBit j := fun x y hs j hj => by
    by_cases hju : j < u
    · rw [hb_rv_bit hju, hb_rv_bit hju]
      exact hs _ (by omega)
    · rw [hp_hi (hb_rv_lt u x) (by omega), hp_hi (hb_rv_lt u y) (by omega)]
  have hbit : ∀ x : Nat, (hb_rv u x).testBit (u - 1 - k) = x.testBit k := fun x => by
    rw [hb_rv_bit (by omega)]
    congr 1
    omega
  cases hak : a.testBit k with
  | true =>
    have hbk : b.testBit k = false := by
      rw [Nat.testBit_xor, hak] at e2
      cases h2 : b.testBit k <;> simp [h2] at e2 ⊢
    refine ⟨fun _ => ?_, fun _ h => by cases h⟩
    exact hb_lt_bit (u - 1 - k) (by rw [hbit, hbk]) (by rw [hbit, hak]) (high b a (fun j hj => (same j hj).symm))
  | false =>
    have hbk : b.testBit k = true := by
      rw [Nat.testBit_xor, hak] at e2
      cases h2 : b.testBit k <;> simp [h2] at e2 ⊢
    refine ⟨fun h => absurd rfl h, fun h => ?_⟩
    have := hb_lt_bit (u - 1 - k) (by rw [hbit, hak]) (by rw [hbit, hbk]) (high a b same)
    omega
/-- the choice that the class takes: the least cost, of those the greatest number -/
def hp_bc (N s : Nat) (C : Nat → Nat) (c : Nat) : Prop := c < N ∧ hb_pc c 8 = s ∧ ∀ d, d < N → hb_pc d 8 = s → C c ≤ C d ∧ (C d = C c → d ≤ c)
/-- the choice that the reference takes -/
def hp_br (u N s : Nat) (C : Nat → Nat) (a : Nat) : Prop := a < N ∧ hb_pc a 8 = s ∧ ∀ d, d < N → hb_pc d 8 = s → C a ≤ C d ∧ (C d = C a → hb_rv u d ≤ hb_rv u a)
theorem hp_bc_br {u s c a : Nat} {C D : Nat → Nat} (hu : u ≤ 8) (hCD : ∀ x, x < 2 ^ u → C x = D (hb_rv u x)) (h1 : hp_bc (2 ^ u) s C c) (h2 : hp_br u (2 ^ u) s D a) : c = hb_rv u a ∧ C c = D a := by
  obtain ⟨c1, c2, c3⟩ := h1
  obtain ⟨a1, a2, a3⟩ := h2
  have e1 : C (hb_rv u a) = D a := by rw [hCD _ (hb_rv_lt u a), hb_rv_rv a1]
  have e2 := hCD c c1
  obtain ⟨x1, x2⟩ := c3 (hb_rv u a) (hb_rv_lt u a) (by rw [hb_rv_pc hu a1]; exact a2)
  obtain ⟨y1, y2⟩ := a3 (hb_rv u c) (hb_rv_lt u c) (by rw [hb_rv_pc hu c1]; exact c2)
  rw [e1] at x1 x2
  rw [← e2] at y1 y2
  have e3 : C c = D a := by omega
  have z1 := x2 e3.symm
  have z2 := y2 e3
  rw [hb_rv_rv c1] at z2
  exact ⟨by omega, e3⟩
theorem hb_pc_full : ∀ s, s < 9 → hb_pc (2 ^ s - 1) 8 = s := by decide +kernel
/-- which spot is the i-th chosen one -/
def hp_ci (g : Nat → Bool) (i u : Nat) : Option Nat := hp_brk (fun n => g n && decide (fb_ct g n = i)) u
def hp_cv (f : Nat → Int) (o : Option Nat) : Int32 := match o with
  | none => -1
  | some a => Int32.ofInt (f a) + 1000
theorem hp_brk_cong {q q2 : Nat → Bool} : ∀ {n : Nat}, (∀ i, i < n → q i = q2 i) → hp_brk q n = hp_brk q2 n
  | 0, _ => rfl
  | n + 1, h => by
    simp only [hp_brk]
    rw [hp_brk_cong (fun i hi => h i (by omega)), h n (by omega)]
theorem hp_ci_cong {g g2 : Nat → Bool} {i u : Nat} (h : ∀ k, k < u → g k = g2 k) : hp_ci g i u = hp_ci g2 i u := hp_brk_cong (fun k hk => by
  show (g k && decide (fb_ct g k = i)) = (g2 k && decide (fb_ct g2 k = i))
  rw [h k hk, fb_ct_cong (fun j hj => h j (by omega))])
