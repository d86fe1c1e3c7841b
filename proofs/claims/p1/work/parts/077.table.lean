/-! one hall's table -/
theorem hs_tab {h : Nat} (hh : h < 8) : hs_sh[95 + h]? = some (.inr (1, 256)) := by
  have c8 : h = 0 ∨ h = 1 ∨ h = 2 ∨ h = 3 ∨ h = 4 ∨ h = 5 ∨ h = 6 ∨ h = 7 := by omega
  rcases c8 with rfl | rfl | rfl | rfl | rfl | rfl | rfl | rfl
  · exact hs_95
  · exact hs_96
  · exact hs_97
  · exact hs_98
  · exact hs_99
  · exact hs_100
  · exact hs_101
  · exact hs_102
def hp_Dh (p : hp_P) (b h : Nat) : Nat → Bool := fun a => decide (h ≤ a) && (decide (a < hp_H p) && b.testBit a)
/-- the table of hall h is right for the set b; hall 0's only for all towns -/
def hx_tb (S : hd_S) (p : hp_P) (b h : Nat) : Prop := ∀ m, m < 2 ^ hp_T p → (h = 0 → m = 2 ^ hp_T p - 1) → ∃ v, S.2.1 (95 + h) m = lN v ∧ hg_tb (hp_T p) (hp_cr p) (hp_ro p) (hp_w1 p) 1152921504606846976 (hp_Dh p b h) m v
theorem hg_w_bit {T : Nat} {w : Nat → Nat → Nat} {i j h : Nat} (hi : i < T) (hj : j < 2 ^ i) : hg_w T w (2 ^ i + j) (fun _ => h) = hg_w T w j (fun _ => h) + w h i := by
  have hu := fb_sm_upd (fun t => if j.testBit t = true then w h t else 0) (w h i) hi
  have hji : j.testBit i = false := hp_hi hj (Nat.le_refl _)
  have e : (fun k => if k = i then w h i else if j.testBit k = true then w h k else 0) = fun t => if (2 ^ i + j).testBit t = true then w h t else 0 := by
    funext t
    rw [← hb_or_sum hj, fb_bit_set]
    by_cases ht : t = i
    · subst ht
      simp
    · simp [ht]
  rw [e] at hu
  simp only [hji, Bool.false_eq_true, if_false, Nat.add_zero] at hu
  exact hu
theorem hg_pp_bit {T : Nat} {cr : Nat → Nat} {i j : Nat} (hi : i < T) (hj : j < 2 ^ i) : hg_pp T cr (2 ^ i + j) = hg_pp T cr j + cr i := by
  have hu := fb_sm_upd (fun t => if j.testBit t = true then cr t else 0) (cr i) hi
  have hji : j.testBit i = false := hp_hi hj (Nat.le_refl _)
  have e : (fun k => if k = i then cr i else if j.testBit k = true then cr k else 0) = fun t => if (2 ^ i + j).testBit t = true then cr t else 0 := by
    funext t
    rw [← hb_or_sum hj, fb_bit_set]
    by_cases ht : t = i
    · subst ht
      simp
    · simp [ht]
  rw [e] at hu
  simp only [hji, Bool.false_eq_true, if_false, Nat.add_zero] at hu
  exact hu
theorem hg_w_0 {T : Nat} {w : Nat → Nat → Nat} {f : Nat → Nat} : hg_w T w 0 f = 0 := by
  unfold hg_w
  simp only [Nat.zero_testBit, Bool.false_eq_true, if_false]
  rw [fb_sm_const, Nat.mul_zero]
theorem hg_pp_0 {T : Nat} {cr : Nat → Nat} : hg_pp T cr 0 = 0 := by
  unfold hg_pp
  simp only [Nat.zero_testBit, Bool.false_eq_true, if_false]
  rw [fb_sm_const, Nat.mul_zero]
theorem hp_w1_lt {p : hp_P} (hp : hp_ok p) {h : Nat} (hh : h < hp_H p) (m : Nat) : hg_w (hp_T p) (hp_w1 p) m (fun _ => h) < 2 ^ 53 := by
  have hT := hp.1
  have hH := hp.2.1
  have h1 : hg_w (hp_T p) (hp_w1 p) m (fun _ => h) ≤ hp_T p * (335544320000000 + 14680064) := by
    refine fb_sm_bound (fun t ht => ?_)
    split
    · exact hp_cd_le (f := fun _ => h) hp ht hh
    · exact Nat.zero_le _
  have h2 : hp_T p * (335544320000000 + 14680064) ≤ 8 * (335544320000000 + 14680064) := Nat.mul_le_mul_right _ hT
  exact Nat.lt_of_le_of_lt (Nat.le_trans h1 h2) (by decide)
theorem hg_pp_le {p : hp_P} (hp : hp_ok p) (m : Nat) : hg_pp (hp_T p) (hp_cr p) m ≤ 160 := by
  have h1 : hg_pp (hp_T p) (hp_cr p) m ≤ hp_T p * 20 := by
    refine fb_sm_bound (fun t _ => ?_)
    split
    · exact hp.2.2.2.1 t
    · exact Nat.zero_le _
  have := hp.1
  omega
theorem hb_allbut {T n : Nat} (hT : T ≤ 8) (hn : n < 2 ^ T) : nI (2 ^ T - 1) &&& (nI n ^^^ (-1)) = nI ((2 ^ T - 1) ^^^ n) := by
  rw [show (-1 : Int32) = nI 4294967295 from rfl, fb_xorI, fa_and]
  congr 1
  apply Nat.eq_of_testBit_eq
  intro i
  rw [Nat.testBit_and, Nat.testBit_xor (2 ^ T - 1), Nat.testBit_two_pow_sub_one]
  by_cases hi : i < T
  · rw [hb_nbit n (by omega)]
    simp [hi]
  · rw [hp_hi hn (by omega)]
    simp [hi]
/-- which rest a heap leaves -/
theorem hg_pt_un {T m u r : Nat} (hm : m < 2 ^ T) (hu : u < 2 ^ T) (hr : r < 2 ^ T) (h : hg_pt T m u r) : m &&& u = u ∧ r = m ^^^ u := by
  have hz : ∀ i x, x < 2 ^ T → ¬ i < T → x.testBit i = false := fun i x hx hi => hp_hi hx (by omega)
  constructor
  · apply Nat.eq_of_testBit_eq
    intro i
    rw [Nat.testBit_and]
    by_cases hi : i < T
    · rw [(h i hi).1]
      cases u.testBit i <;> simp
    · rw [hz i m hm hi, hz i u hu hi]
      rfl
  · apply Nat.eq_of_testBit_eq
    intro i
    rw [Nat.testBit_xor]
    by_cases hi : i < T
    · obtain ⟨h1, h2⟩ := h i hi
      rw [h1]
      cases hq : u.testBit i <;> cases hq2 : r.testBit i <;> simp [hq, hq2] at h2 ⊢
    · rw [hz i m hm hi, hz i u hu hi, hz i r hr hi]
      rfl
theorem hg_pt_xor {T m u : Nat} (hm : m < 2 ^ T) (hu : u < 2 ^ T) (h : m &&& u = u) : hg_pt T m u (m ^^^ u) := by
  obtain ⟨k1, k2, k3, k4⟩ := hb_rest hu hm h
  intro t _
  constructor
  · have : (u ||| (m ^^^ u)).testBit t = m.testBit t := by rw [k2]
    rw [Nat.testBit_or] at this
    exact this.symm
  · intro q
    have : (u &&& (m ^^^ u)).testBit t = false := by rw [k3, Nat.zero_testBit]
    rw [Nat.testBit_and, q.1, q.2] at this
    cases this