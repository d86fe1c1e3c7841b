/-! loops and states: plain rows -/
/-- a loop that counts up: I i holds at its head; K is whatever must hold at the next head -/
theorem hd_up {c : hd_xC} {b : hd_xS} {nrm : List hd_V → hd_S → Prop} {ret : Option hd_V → hd_S → Prop} (I : Nat → List hd_V → hd_S → Prop) (n : Nat)
    (hs : ∀ (i : Nat) (ρ : List hd_V) (S : hd_S) (K : List hd_V → hd_S → Prop), i < n → I i ρ S → (∀ ρ' S', I (i + 1) ρ' S' → K ρ' S') → c ρ S (fun t S' => if t then b ρ S' K ret else nrm ρ S'))
    (he : ∀ (ρ : List hd_V) (S : hd_S) (K : List hd_V → hd_S → Prop), I n ρ S → c ρ S (fun t S' => if t then b ρ S' K ret else nrm ρ S'))
    {i0 : Nat} (hi : i0 ≤ n) {ρ : List hd_V} {S : hd_S} (h0 : I i0 ρ S) : hd_sH c b ρ S nrm ret := by
  obtain ⟨m, hm⟩ : ∃ m, n = i0 + m := ⟨n - i0, by omega⟩
  refine ⟨m + 1, ?_⟩
  clear hi
  induction m generalizing i0 ρ S with
  | zero =>
    have hn : n = i0 := by omega
    subst hn
    exact he ρ S _ h0
  | succ m ih =>
    exact hs i0 ρ S _ (by omega) h0 (fun ρ' S' h' => ih h' (by omega))
/-- a loop with a measure -/
theorem hd_dn {c : hd_xC} {b : hd_xS} {nrm : List hd_V → hd_S → Prop} {ret : Option hd_V → hd_S → Prop} (I : Nat → List hd_V → hd_S → Prop)
    (hs : ∀ (i : Nat) (ρ : List hd_V) (S : hd_S) (K : List hd_V → hd_S → Prop), I i ρ S → (∀ j ρ' S', j < i → I j ρ' S' → K ρ' S') → c ρ S (fun t S' => if t then b ρ S' K ret else nrm ρ S'))
    {i0 : Nat} {ρ : List hd_V} {S : hd_S} (h0 : I i0 ρ S) : hd_sH c b ρ S nrm ret := by
  refine ⟨i0 + 1, ?_⟩
  have key : ∀ (m i : Nat) (ρ : List hd_V) (S : hd_S), i < m → I i ρ S → hd_wh c b m ρ S nrm ret := by
    intro m
    induction m with
    | zero => intro i ρ S h; omega
    | succ m ih =>
      intro i ρ S hi h
      exact hs i ρ S _ h (fun j ρ' S' hj h' => ih j ρ' S' (by omega) h')
  exact key (i0 + 1) i0 ρ S (by omega) h0
theorem hd_wI1 (S : hd_S) (c i : Nat) (v : Int32) (a j : Nat) : (hd_wI S c i v).1 a j = if a = c ∧ j = i then v else S.1 a j := by
  by_cases h : a = c
  · subst h
    by_cases h2 : j = i
    · simp [hd_wI, va_up, upd, h2]
    · simp [hd_wI, va_up, upd, h2]
  · simp [hd_wI, va_up, h]
theorem hd_wI2 (S : hd_S) (c i : Nat) (v : Int32) : (hd_wI S c i v).2 = S.2 := rfl
theorem hd_wL1 (S : hd_S) (c i : Nat) (v : Int64) : (hd_wL S c i v).1 = S.1 := rfl
theorem hd_wL2 (S : hd_S) (c i : Nat) (v : Int64) (a j : Nat) : (hd_wL S c i v).2.1 a j = if a = c ∧ j = i then v else S.2.1 a j := by
  by_cases h : a = c
  · subst h
    by_cases h2 : j = i
    · simp [hd_wL, va_up, vp_updL, h2]
    · simp [hd_wL, va_up, vp_updL, h2]
  · simp [hd_wL, va_up, h]
theorem hd_wL3 (S : hd_S) (c i : Nat) (v : Int64) : (hd_wL S c i v).2.2 = S.2.2 := rfl
theorem hd_wR1 (S : hd_S) (c i v : Nat) : (hd_wR S c i v).1 = S.1 := rfl
theorem hd_wR2 (S : hd_S) (c i v : Nat) : (hd_wR S c i v).2.1 = S.2.1 := rfl
theorem hd_wR3 (S : hd_S) (c i v : Nat) (a j : Nat) : (hd_wR S c i v).2.2 a j = if a = c ∧ j = i then v else S.2.2 a j := by
  by_cases h : a = c
  · subst h
    by_cases h2 : j = i
    · simp [hd_wR, va_up, h2]
    · simp [hd_wR, va_up, h2]
  · simp [hd_wR, va_up, h]
theorem hd_rI1 (S : hd_S) (c : Nat) (f : Nat → Int32) (a j : Nat) : (hd_rowI S c f).1 a j = if a = c then f j else S.1 a j := by
  by_cases h : a = c
  · simp [hd_rowI, va_up, h]
  · simp [hd_rowI, va_up, h]
theorem hd_rI2 (S : hd_S) (c : Nat) (f : Nat → Int32) : (hd_rowI S c f).2 = S.2 := rfl
theorem hd_rL1 (S : hd_S) (c : Nat) (f : Nat → Int64) : (hd_rowL S c f).1 = S.1 := rfl
theorem hd_rL2 (S : hd_S) (c : Nat) (f : Nat → Int64) (a j : Nat) : (hd_rowL S c f).2.1 a j = if a = c then f j else S.2.1 a j := by
  by_cases h : a = c
  · simp [hd_rowL, va_up, h]
  · simp [hd_rowL, va_up, h]
theorem hd_rL3 (S : hd_S) (c : Nat) (f : Nat → Int64) : (hd_rowL S c f).2.2 = S.2.2 := rfl
/-- how many bits of n below m -/
def hb_pc (n : Nat) : Nat → Nat
  | 0 => 0
  | m + 1 => hb_pc n m + (n.testBit m).toNat
theorem hd_b01 (c : Prop) [Decidable c] : (((if c then (1 : Int32) else 0) = 0 ∨ (if c then (1 : Int32) else 0) = 1)) = True := by
  by_cases h : c <;> simp [h]
theorem hd_t01 (c : Prop) [Decidable c] : (!decide ((if c then (1 : Int32) else 0) = 0)) = decide c := by
  by_cases h : c <;> simp [h]
theorem hd_00 : (((0 : Int32) = 0 ∨ (0 : Int32) = 1)) = True := by simp
theorem hd_11 : (((1 : Int32) = 0 ∨ (1 : Int32) = 1)) = True := by simp
theorem hd_dn1 (c : Prop) [Decidable c] : (!decide c) = decide (¬ c) := by
  by_cases h : c <;> simp [h]
theorem hd_cc {n : Nat} (h : n < 2147483648) : (nI n).toNatClampNeg = n := nI_clamp h
theorem hd_lit8 : (8 : Int32) = nI 8 := rfl
