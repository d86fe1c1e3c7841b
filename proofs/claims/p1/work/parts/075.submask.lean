/-! submasks in falling order -/
theorem hb_land2 (a q : Nat) (e b : Bool) : (2 * a + e.toNat) &&& (2 * q + b.toNat) = 2 * (a &&& q) + (e && b).toNat := by
  have h1 : ∀ (x : Nat) (c : Bool), (2 * x + c.toNat) / 2 = x := fun x c => by cases c <;> simp <;> omega
  have h2 : ∀ (x : Nat) (c : Bool), (2 * x + c.toNat).testBit 0 = c := fun x c => by cases c <;> simp [Nat.testBit_zero] <;> omega
  apply Nat.eq_of_testBit_eq
  intro i
  cases i with
  | zero => rw [Nat.testBit_and, h2, h2, h2]
  | succ i => rw [Nat.testBit_and, Nat.testBit_succ, Nat.testBit_succ, Nat.testBit_succ, h1, h1, h1, Nat.testBit_and]
theorem hb_split (x : Nat) : ∃ a, ∃ e : Bool, x = 2 * a + e.toNat := by
  refine ⟨x / 2, decide (x % 2 = 1), ?_⟩
  by_cases h : x % 2 = 1
  · simp [h]; omega
  · simp [h]; omega
theorem hb_sub_next : ∀ (n o r0 r : Nat), r0 < 2 ^ n → r0 &&& o = r0 → r &&& o = r → r < r0 → r ≤ (r0 - 1) &&& o
  | 0, o, r0, r, h, _, _, hr => by
    simp at h
    omega
  | n + 1, o, r0, r, h, h0, hs, hr => by
    obtain ⟨a, e, rfl⟩ := hb_split r0
    obtain ⟨c, d, rfl⟩ := hb_split r
    obtain ⟨q, b, rfl⟩ := hb_split o
    rw [hb_land2] at h0 hs
    have ha : a &&& q = a := by
      cases e <;> cases b <;> simp at h0 <;> omega
    have hc : c &&& q = c := by
      cases d <;> cases b <;> simp at hs <;> omega
    have he : (e && b) = e := by
      rw [ha] at h0
      cases e <;> cases b <;> simp at h0 ⊢
    have hd : (d && b) = d := by
      rw [hc] at hs
      cases d <;> cases b <;> simp at hs ⊢
    cases e with
    | true =>
      have e1 : 2 * a + true.toNat - 1 = 2 * a + false.toNat := by simp
      rw [e1, hb_land2, ha]
      have hd1 : d.toNat ≤ 1 := by cases d <;> simp
      simp at hr ⊢
      omega
    | false =>
      have ha1 : 1 ≤ a := by
        have : d.toNat ≤ 1 := by cases d <;> simp
        simp at hr
        omega
      have e1 : 2 * a + false.toNat - 1 = 2 * (a - 1) + true.toNat := by simp; omega
      rw [e1, hb_land2]
      have hca : c < a := by
        simp at hr
        omega
      have ih := hb_sub_next n q a c (by rw [Nat.pow_succ] at h; simp at h; omega) ha hc hca
      have hdb : d.toNat ≤ (true && b).toNat := by
        rw [← hd]
        cases d <;> cases b <;> simp
      omega
theorem hb_sub_lt {o r0 : Nat} (h : 0 < r0) : (r0 - 1) &&& o < r0 := Nat.lt_of_le_of_lt Nat.and_le_left (by omega)
theorem hb_sub_is (o x : Nat) : (x &&& o) &&& o = x &&& o := by
  apply Nat.eq_of_testBit_eq
  intro i
  rw [Nat.testBit_and, Nat.testBit_and]
  cases x.testBit i <;> cases o.testBit i <;> rfl
