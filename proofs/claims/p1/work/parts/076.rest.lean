/-! the class's tables of rooms: one heap into one hall -/
theorem hs_i_tab {h : Nat} (hh : h < 8) (i : Int32) : hd_in hs_sh 1 (95 + h) i ↔ vp_in i 256 := by
  have c8 : h = 0 ∨ h = 1 ∨ h = 2 ∨ h = 3 ∨ h = 4 ∨ h = 5 ∨ h = 6 ∨ h = 7 := by omega
  rcases c8 with rfl | rfl | rfl | rfl | rfl | rfl | rfl | rfl
  · exact hs_i_95 i
  · exact hs_i_96 i
  · exact hs_i_97 i
  · exact hs_i_98 i
  · exact hs_i_99 i
  · exact hs_i_100 i
  · exact hs_i_101 i
  · exact hs_i_102 i
theorem hb_xor_or {u r T : Nat} (hu : u < 2 ^ T) (hr : r < 2 ^ T) (hd : u &&& r = 0) : (u ||| r) ^^^ u = r ∧ (u ||| r) &&& u = u ∧ u ||| r < 2 ^ T := by
  refine ⟨?_, ?_, Nat.or_lt_two_pow hu hr⟩
  · apply Nat.eq_of_testBit_eq
    intro i
    have h1 : (u &&& r).testBit i = false := by rw [hd, Nat.zero_testBit]
    rw [Nat.testBit_and] at h1
    rw [Nat.testBit_xor, Nat.testBit_or]
    cases hq : u.testBit i <;> cases hq2 : r.testBit i <;> simp [hq, hq2] at h1 ⊢
  · apply Nat.eq_of_testBit_eq
    intro i
    rw [Nat.testBit_and, Nat.testBit_or]
    cases u.testBit i <;> cases r.testBit i <;> rfl
/-- a heap's rest: what is left of m, a part of the others -/
theorem hb_rest {u m T : Nat} (hu : u < 2 ^ T) (hm : m < 2 ^ T) (hs : m &&& u = u) : (m ^^^ u) &&& ((2 ^ T - 1) ^^^ u) = m ^^^ u ∧ u ||| (m ^^^ u) = m ∧ u &&& (m ^^^ u) = 0 ∧ m ^^^ u < 2 ^ T := by
  have hb : ∀ i, u.testBit i = true → m.testBit i = true := fun i hi => by
    have h1 : (m &&& u).testBit i = u.testBit i := by rw [hs]
    rw [Nat.testBit_and, hi] at h1
    simpa using h1
  have ht : ∀ i, m.testBit i = true → i < T := fun i hi => by
    rcases Nat.lt_or_ge i T with q | q
    · exact q
    · rw [hp_hi hm q] at hi
      cases hi
  refine ⟨?_, ?_, ?_, Nat.xor_lt_two_pow hm hu⟩
  · apply Nat.eq_of_testBit_eq
    intro i
    rw [Nat.testBit_and, Nat.testBit_xor, Nat.testBit_xor, Nat.testBit_two_pow_sub_one]
    have h1 := hb i
    have h2 := ht i
    cases hq : u.testBit i with
    | true => simp [h1 hq]
    | false =>
      cases hq2 : m.testBit i with
      | true => simp [h2 hq2]
      | false => simp
  · apply Nat.eq_of_testBit_eq
    intro i
    rw [Nat.testBit_or, Nat.testBit_xor]
    have h1 := hb i
    cases hq : u.testBit i with
    | true => simp [h1 hq]
    | false => simp
  · apply Nat.eq_of_testBit_eq
    intro i
    rw [Nat.testBit_and, Nat.testBit_xor, Nat.zero_testBit]
    have h1 := hb i
    cases hq : u.testBit i with
    | true => simp [h1 hq]
    | false => simp
theorem hb_oth {u T : Nat} (hu : u < 2 ^ T) : u ||| ((2 ^ T - 1) ^^^ u) = 2 ^ T - 1 ∧ (2 ^ T - 1) ^^^ u < 2 ^ T := by
  have hpos : 0 < 2 ^ T := Nat.two_pow_pos _
  have h1 : (2 ^ T - 1) &&& u = u := by
    rw [Nat.and_comm, Nat.and_two_pow_sub_one_eq_mod, Nat.mod_eq_of_lt hu]
  have h := hb_rest hu (show 2 ^ T - 1 < 2 ^ T by omega) h1
  exact ⟨h.2.1, h.2.2.2⟩
theorem hb_sub_dis {u r T : Nat} (hs : r &&& ((2 ^ T - 1) ^^^ u) = r) (hu : u < 2 ^ T) : u &&& r = 0 ∧ r < 2 ^ T := by
  constructor
  · rw [← hs]
    apply Nat.eq_of_testBit_eq
    intro i
    rw [Nat.testBit_and, Nat.testBit_and, Nat.testBit_xor, Nat.testBit_two_pow_sub_one, Nat.zero_testBit]
    cases hq : u.testBit i with
    | false => simp
    | true =>
      have ht : i < T := by
        rcases Nat.lt_or_ge i T with q | q
        · exact q
        · rw [hp_hi hu q] at hq
          cases hq
      simp [ht]
  · rw [← hs]
    exact Nat.lt_of_le_of_lt Nat.and_le_right (hb_oth hu).2
theorem hb_lmin {a b : Nat} (ha : a < 2 ^ 63) (hb : b < 2 ^ 63) : (if lN b < lN a then lN b else lN a) = lN (min a b) := by
  by_cases h : b < a
  · rw [if_pos ((pk_lLT hb ha).mpr h), Nat.min_eq_right (by omega)]
  · rw [if_neg (fun q => h ((pk_lLT hb ha).mp q)), Nat.min_eq_left (by omega)]