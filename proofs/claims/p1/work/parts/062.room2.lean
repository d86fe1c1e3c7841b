/-! the least filling: by its number, and in sum -/
def hp_D (p : hp_P) (s : Nat) : Nat → Bool := fun a => decide (a < hp_H p) && s.testBit a
/-- a trip's number, and its cost -/
def hp_w1 (p : hp_P) (a t : Nat) : Nat := hp_cr p t * hp_wy p a t * 16777216 + a * 2 ^ (3 * (7 - t))
def hp_w2 (p : hp_P) (a t : Nat) : Nat := hp_cr p t * hp_wy p a t
theorem hp_fz_fs {p : hp_P} {s : Nat} {f : Nat → Nat} : hp_fz p s f ↔ hg_fs (hp_T p) (hp_cr p) (hp_ro p) (hp_D p s) (2 ^ hp_T p - 1) f := by
  have hb : ∀ t, t < hp_T p → (2 ^ hp_T p - 1).testBit t = true := fun t ht => by rw [Nat.testBit_two_pow_sub_one]; simp [ht]
  have hl : ∀ a, hg_ld (hp_T p) (hp_cr p) (2 ^ hp_T p - 1) f a = fb_sm (fun t => if f t = a then hp_cr p t else 0) (hp_T p) := fun a => by
    unfold hg_ld
    exact fb_sm_cong (fun t ht => by simp [hb t ht])
  constructor
  · intro h
    refine ⟨fun t ht _ => ?_, fun a ha => ?_⟩
    · obtain ⟨h1, h2⟩ := h.1 t ht
      simp [hp_D, h1, h2]
    · rw [hl]
      have : a < hp_H p ∧ s.testBit a = true := by simpa [hp_D] using ha
      exact h.2 a this.1
  · intro h
    have hD : ∀ t, t < hp_T p → f t < hp_H p ∧ s.testBit (f t) = true := fun t ht => by simpa [hp_D] using h.1 t ht (hb t ht)
    refine ⟨hD, fun a ha => ?_⟩
    by_cases hs : s.testBit a = true
    · have := h.2 a (by simp [hp_D, ha, hs])
      rw [hl] at this
      exact this
    · rw [fb_sm_cong (g := fun _ => 0) (fun t ht => ?_), fb_sm_const, Nat.mul_zero]
      · exact Nat.zero_le _
      · have h3 := (hD t ht).2
        have : ¬ f t = a := fun q => hs (q ▸ h3)
        simp [this]
theorem hp_w1_code (p : hp_P) (f : Nat → Nat) : hg_w (hp_T p) (hp_w1 p) (2 ^ hp_T p - 1) f = hp_code p f := by
  unfold hg_w hp_code
  refine fb_sm_cong (fun t ht => ?_)
  rw [Nat.testBit_two_pow_sub_one]
  simp [ht, hp_w1, hp_cd]
def hp_tot (p : hp_P) (f : Nat → Nat) : Nat := fb_sm (fun t => hp_w2 p (f t) t) (hp_T p)
theorem hp_w2_tot (p : hp_P) (f : Nat → Nat) : hg_w (hp_T p) (hp_w2 p) (2 ^ hp_T p - 1) f = hp_tot p f := by
  unfold hg_w hp_tot
  refine fb_sm_cong (fun t ht => ?_)
  rw [Nat.testBit_two_pow_sub_one]
  simp [ht]
/-- the digits of a filling -/
def hp_dg (f : Nat → Nat) : Nat → Nat
  | 0 => 0
  | t + 1 => hp_dg f t + f t * 2 ^ (3 * (7 - t))
theorem hp_dg_sm (f : Nat → Nat) : ∀ n, fb_sm (fun t => f t * 2 ^ (3 * (7 - t))) n = hp_dg f n
  | 0 => rfl
  | n + 1 => by rw [fb_sm_succ, hp_dg_sm f n]; rfl
theorem hp_code_eq (p : hp_P) (f : Nat → Nat) : hp_code p f = hp_tot p f * 16777216 + hp_dg f (hp_T p) := by
  have h1 : hp_code p f = fb_sm (fun t => hp_w2 p (f t) t * 16777216 + f t * 2 ^ (3 * (7 - t))) (hp_T p) := rfl
  have h2 : ∀ n, fb_sm (fun t => hp_w2 p (f t) t * 16777216) n = fb_sm (fun t => hp_w2 p (f t) t) n * 16777216 := by
    intro n
    induction n with
    | zero => exact (Nat.zero_mul _).symm
    | succ n ih => rw [fb_sm_succ, fb_sm_succ, ih, Nat.add_mul]
  rw [h1, fb_sm_add, h2, hp_dg_sm]
  rfl
theorem hp_dg_le {f : Nat → Nat} : ∀ n, n ≤ 8 → (∀ t, t < n → f t ≤ 7) → hp_dg f n + 2 ^ (24 - 3 * n) ≤ 16777216
  | 0, _, _ => by simp [hp_dg]
  | n + 1, hn, h => by
    have ih := hp_dg_le n (by omega) (fun t ht => h t (by omega))
    have hf := h n (by omega)
    have e1 : 3 * (7 - n) = 24 - 3 * (n + 1) := by omega
    have e2 : 24 - 3 * n = (24 - 3 * (n + 1)) + 3 := by omega
    rw [e2, Nat.pow_add] at ih
    simp only [hp_dg]
    rw [e1]
    have h3 : f n * 2 ^ (24 - 3 * (n + 1)) ≤ 7 * 2 ^ (24 - 3 * (n + 1)) := Nat.mul_le_mul_right _ hf
    omega
theorem hp_dg_lt {p : hp_P} (hp : hp_ok p) {s : Nat} {f : Nat → Nat} (hf : hp_fz p s f) : hp_dg f (hp_T p) < 16777216 := by
  have hH := hp.2.1
  have h1 := hp_dg_le (f := f) (hp_T p) hp.1 (fun t ht => by have := (hf.1 t ht).1; omega)
  have h2 : 0 < 2 ^ (24 - 3 * hp_T p) := Nat.two_pow_pos _
  omega
theorem hp_code_div {p : hp_P} (hp : hp_ok p) {s : Nat} {f : Nat → Nat} (hf : hp_fz p s f) : hp_code p f / 16777216 = hp_tot p f ∧ hp_code p f % 16777216 = hp_dg f (hp_T p) := by
  have := hp_dg_lt hp hf
  rw [hp_code_eq]
  constructor <;> omega
/-- what the class's last table has -/
theorem hp_rmc_w1 {p : hp_P} (hp : hp_ok p) {s v : Nat} (h : hg_tb (hp_T p) (hp_cr p) (hp_ro p) (hp_w1 p) 1152921504606846976 (hp_D p s) (2 ^ hp_T p - 1) v) : (v = 1152921504606846976 ∧ hp_rmc p s = none) ∨ hp_rmc p s = some v := by
  obtain ⟨h1, h2, h3⟩ := h
  rcases h2 with q | ⟨f, hf, hw⟩
  · refine Or.inl ⟨q, hp_rmc_eq (o := none) (fun f hf => ?_)⟩
    have h4 := h3 f (hp_fz_fs.mp hf)
    rw [hp_w1_code] at h4
    have h5 := hp_code_lt hp hf
    have h6 : (2 : Nat) ^ 53 < 1152921504606846976 := by decide
    omega
  · refine Or.inr (hp_rmc_eq (o := some v) ⟨⟨f, hp_fz_fs.mpr hf, by rw [← hp_w1_code]; exact hw⟩, fun g hg => ?_⟩)
    rw [← hp_w1_code]
    exact h3 g (hp_fz_fs.mp hg)
/-- what the reference's last table has -/
theorem hp_tot_lt {p : hp_P} (hp : hp_ok p) {s : Nat} {f : Nat → Nat} (hf : hp_fz p s f) : hp_tot p f ≤ 160000000 := by
  have h1 : hp_tot p f ≤ hp_T p * 20000000 := fb_sm_bound (fun t ht => Nat.le_trans (Nat.mul_le_mul (hp.2.2.2.1 t) (hp.way (hf.1 t ht).1 (by have := hp.1; omega))) (by decide))
  exact Nat.le_trans h1 (Nat.le_trans (Nat.mul_le_mul_right _ hp.1) (by decide))
theorem hp_rmc_w2 {p : hp_P} (hp : hp_ok p) {s v : Nat} (h : hg_tb (hp_T p) (hp_cr p) (hp_ro p) (hp_w2 p) 2000000000 (hp_D p s) (2 ^ hp_T p - 1) v) : (v = 2000000000 ∧ hp_rmc p s = none) ∨ (v < 2000000000 ∧ ∃ c, hp_rmc p s = some c ∧ c / 16777216 = v) := by
  obtain ⟨h1, h2, h3⟩ := h
  have h7 := hp_rmc_is p s
  rcases h2 with q | ⟨f, hf, hw⟩
  · refine Or.inl ⟨q, hp_rmc_eq (o := none) (fun f hf => ?_)⟩
    have h4 := h3 f (hp_fz_fs.mp hf)
    rw [hp_w2_tot] at h4
    have h5 := hp_tot_lt hp hf
    omega
  · have hz := hp_fz_fs.mpr hf
    rw [hp_w2_tot] at hw
    have h5 := hp_tot_lt hp hz
    refine Or.inr ⟨by omega, ?_⟩
    cases hq : hp_rmc p s with
    | none =>
      rw [hq] at h7
      exact absurd hz (h7 f)
    | some c =>
      rw [hq] at h7
      obtain ⟨⟨g, hg, hgc⟩, hmin⟩ := h7
      refine ⟨c, rfl, ?_⟩
      have e1 := (hp_code_div hp hg).1
      have e2 := (hp_code_div hp hz).1
      have m1 := hmin f hz
      have m2 := h3 g (hp_fz_fs.mp hg)
      rw [hp_w2_tot] at m2
      have m3 : c / 16777216 ≤ hp_code p f / 16777216 := Nat.div_le_div_right m1
      rw [hgc] at e1
      omega
/-- the nearest, where they have room, are the least filling -/
theorem hp_near_least {p : hp_P} (hp : hp_ok p) {t a b : Nat} (ht : t < hp_T p) (ha : a < hp_H p) (hb : b < hp_H p) (h : hp_wy p a t < hp_wy p b t ∨ (hp_wy p a t = hp_wy p b t ∧ a ≤ b)) : hp_w1 p a t ≤ hp_w1 p b t := by
  have hT := hp.1
  have hH := hp.2.1
  unfold hp_w1
  rcases h with q | ⟨q1, q2⟩
  · have hc := hp.2.2.1 t ht
    have h1 : a * 2 ^ (3 * (7 - t)) ≤ 7 * 2 ^ 21 := Nat.mul_le_mul (by omega) (Nat.pow_le_pow_right (by decide) (by omega))
    have h2 : hp_cr p t * hp_wy p a t + 1 ≤ hp_cr p t * hp_wy p b t := by
      have h3 : hp_cr p t * (hp_wy p a t + 1) ≤ hp_cr p t * hp_wy p b t := Nat.mul_le_mul_left _ q
      rw [Nat.mul_add, Nat.mul_one] at h3
      omega
    have h4 : (2 : Nat) ^ 21 = 2097152 := by decide
    rw [h4] at h1
    omega
  · rw [q1]
    exact Nat.add_le_add_left (Nat.mul_le_mul_right _ q2) _
theorem hp_rmc_near {p : hp_P} (hp : hp_ok p) {s : Nat} {f : Nat → Nat} (hf : hp_fz p s f) (hn : ∀ t, t < hp_T p → ∀ b, b < hp_H p → s.testBit b = true → hp_w1 p (f t) t ≤ hp_w1 p b t) : hp_rmc p s = some (hp_code p f) := by
  refine hp_rmc_eq (o := some (hp_code p f)) ⟨⟨f, hf, rfl⟩, fun g hg => ?_⟩
  exact fb_sm_le (fun t ht => hn t ht (g t) (hg.1 t ht).1 (hg.1 t ht).2)
