/-! the digits of the least filling, and the search for it town by town -/
theorem hp_dg_mul {f : Nat → Nat} : ∀ t, t ≤ 8 → ∃ q, hp_dg f t = 2 ^ (24 - 3 * t) * q
  | 0, _ => ⟨0, by simp [hp_dg]⟩
  | t + 1, h => by
    obtain ⟨q, hq⟩ := hp_dg_mul (f := f) t (by omega)
    refine ⟨8 * q + f t, ?_⟩
    have e1 : 3 * (7 - t) = 24 - 3 * (t + 1) := by omega
    have e2 : 24 - 3 * t = (24 - 3 * (t + 1)) + 3 := by omega
    simp only [hp_dg]
    rw [hq, e1, e2, Nat.pow_add, Nat.mul_assoc, Nat.mul_comm (f t), ← Nat.mul_add]
theorem hp_dg_tail {f : Nat → Nat} (t : Nat) : ∀ n, t + n ≤ 8 → (∀ x, x < t + n → f x ≤ 7) → hp_dg f (t + n) + 2 ^ (24 - 3 * (t + n)) ≤ hp_dg f t + 2 ^ (24 - 3 * t)
  | 0, _, _ => Nat.le_refl _
  | n + 1, h, hf => by
    have ih := hp_dg_tail (f := f) t n (by omega) (fun x hx => hf x (by omega))
    have h1 := hf (t + n) (by omega)
    have e1 : 3 * (7 - (t + n)) = 24 - 3 * (t + n + 1) := by omega
    have e2 : 24 - 3 * (t + n) = (24 - 3 * (t + n + 1)) + 3 := by omega
    rw [e2, Nat.pow_add] at ih
    have h3 : f (t + n) * 2 ^ (24 - 3 * (t + n + 1)) ≤ 7 * 2 ^ (24 - 3 * (t + n + 1)) := Nat.mul_le_mul_right _ h1
    show hp_dg f (t + n + 1) + 2 ^ (24 - 3 * (t + n + 1)) ≤ _
    simp only [hp_dg]
    rw [e1]
    omega
theorem hp_dg_mono (f : Nat → Nat) (t : Nat) : ∀ n, hp_dg f t ≤ hp_dg f (t + n)
  | 0 => Nat.le_refl _
  | n + 1 => Nat.le_trans (hp_dg_mono f t n) (Nat.le_add_right _ _)
theorem hp_dg_at {f : Nat → Nat} {t n : Nat} (ht : t < n) (hn : n ≤ 8) (hf : ∀ x, x < n → f x ≤ 7) : hp_dg f n / 2 ^ (3 * (7 - t)) % 8 = f t := by
  obtain ⟨q, hq⟩ := hp_dg_mul (f := f) t (by omega)
  obtain ⟨k, rfl⟩ : ∃ k, n = (t + 1) + k := ⟨n - (t + 1), by omega⟩
  have h1 := hp_dg_tail (f := f) (t + 1) k hn hf
  have h2 := hp_dg_mono f (t + 1) k
  have h3 := hf t (by omega)
  have hpos : 0 < 2 ^ (24 - 3 * (t + 1 + k)) := Nat.two_pow_pos _
  have e1 : 3 * (7 - t) = 24 - 3 * (t + 1) := by omega
  have e2 : 24 - 3 * t = (24 - 3 * (t + 1)) + 3 := by omega
  rw [e2, Nat.pow_add] at hq
  have e3 : hp_dg f (t + 1) = 2 ^ (24 - 3 * (t + 1)) * (8 * q + f t) := by
    simp only [hp_dg]
    rw [hq, e1, Nat.mul_assoc, Nat.mul_comm (f t), ← Nat.mul_add]
  rw [e1]
  rw [e3] at h1 h2
  have hP : 0 < 2 ^ (24 - 3 * (t + 1)) := Nat.two_pow_pos _
  generalize 2 ^ (24 - 3 * (t + 1)) = P at h1 h2 hP
  obtain ⟨r, hr⟩ : ∃ r, hp_dg f (t + 1 + k) = P * (8 * q + f t) + r := ⟨_, (Nat.add_sub_cancel' h2).symm⟩
  rw [hr] at h1 ⊢
  rw [Nat.mul_add_div hP, Nat.div_eq_of_lt (by omega)]
  omega
theorem hb_low {c : Nat} {k : Nat} (hk : k + 3 ≤ 24) : c / 2 ^ k % 8 = c % 16777216 / 2 ^ k % 8 := by
  have e : (16777216 : Nat) = 2 ^ k * (8 * 2 ^ (21 - k)) := by
    rw [show (8 : Nat) = 2 ^ 3 from rfl, ← Nat.pow_add, ← Nat.pow_add, show k + (3 + (21 - k)) = 24 by omega]
  rw [e, Nat.mod_mul_right_div_self, Nat.mod_mul_right_mod]
/-- the hall of a town in the least filling -/
def hp_hl (c t : Nat) : Nat := c / 2 ^ (3 * (7 - t)) % 8
theorem hp_hl_code {p : hp_P} (hp : hp_ok p) {s : Nat} {f : Nat → Nat} (hf : hp_fz p s f) {t : Nat} (ht : t < hp_T p) : hp_hl (hp_code p f) t = f t := by
  have hT := hp.1
  have hH := hp.2.1
  unfold hp_hl
  rw [hb_low (by omega), (hp_code_div hp hf).2]
  exact hp_dg_at ht hT (fun x hx => by have := (hf.1 x hx).1; omega)
/-- a filling of the towns from t on, where u are in already; L is what it costs -/
def hp_sol (p : hp_P) (s t : Nat) (u : Nat → Nat) (L : Int) (f : Nat → Nat) : Prop := (∀ x, t ≤ x → x < hp_T p → f x < hp_H p ∧ s.testBit (f x) = true) ∧ (∀ h, h < hp_H p → u h + fb_sm (fun x => if t ≤ x ∧ f x = h then hp_cr p x else 0) (hp_T p) ≤ hp_ro p h) ∧ ((fb_sm (fun x => if t ≤ x then hp_w2 p (f x) x else 0) (hp_T p) : Nat) : Int) = L
theorem hp_from {T t : Nat} (ht : t < T) (g : Nat → Nat) : fb_sm (fun x => if t ≤ x then g x else 0) T = g t + fb_sm (fun x => if t + 1 ≤ x then g x else 0) T := by
  have h := fb_sm_upd (fun x => if t + 1 ≤ x then g x else 0) (g t) ht
  have e : (fun k => if k = t then g t else if t + 1 ≤ k then g k else 0) = fun x => if t ≤ x then g x else 0 := by
    funext x
    by_cases h1 : x = t
    · subst h1
      simp
    · by_cases h2 : t ≤ x
      · simp [h1, h2, show t + 1 ≤ x by omega]
      · simp [h1, h2, show ¬ t + 1 ≤ x by omega]
  rw [e] at h
  have h3 : ¬ (t + 1 ≤ t) := by omega
  simp only [h3, if_false] at h
  omega
theorem hp_from_and {T t : Nat} (ht : t < T) (g : Nat → Nat) (q : Nat → Prop) [DecidablePred q] : fb_sm (fun x => if t ≤ x ∧ q x then g x else 0) T = (if q t then g t else 0) + fb_sm (fun x => if t + 1 ≤ x ∧ q x then g x else 0) T := by
  have h := hp_from ht (fun x => if q x then g x else 0)
  have e : ∀ k, fb_sm (fun x => if k ≤ x then (if q x then g x else 0) else 0) T = fb_sm (fun x => if k ≤ x ∧ q x then g x else 0) T := by
    intro k
    refine fb_sm_cong (fun x _ => ?_)
    by_cases h1 : k ≤ x
    · simp [h1]
    · simp [h1]
  rw [e, e] at h
  exact h
theorem hp_sol_cons {p : hp_P} {s t : Nat} {u : Nat → Nat} {L : Int} {f : Nat → Nat} (ht : t < hp_T p) : hp_sol p s t u L f ↔ (f t < hp_H p ∧ s.testBit (f t) = true) ∧ hp_sol p s (t + 1) (fun h => u h + (if f t = h then hp_cr p t else 0)) (L - (hp_w2 p (f t) t : Nat)) f := by
  have e1 : ∀ h, fb_sm (fun x => if t ≤ x ∧ f x = h then hp_cr p x else 0) (hp_T p) = (if f t = h then hp_cr p t else 0) + fb_sm (fun x => if t + 1 ≤ x ∧ f x = h then hp_cr p x else 0) (hp_T p) := fun h => hp_from_and ht _ (fun x => f x = h)
  have e2 := hp_from ht (fun x => hp_w2 p (f x) x)
  unfold hp_sol
  constructor
  · rintro ⟨h1, h2, h3⟩
    refine ⟨h1 t (Nat.le_refl _) ht, fun x hx hxT => h1 x (by omega) hxT, fun h hh => ?_, ?_⟩
    · have := h2 h hh
      rw [e1] at this
      show u h + (if f t = h then hp_cr p t else 0) + fb_sm (fun x => if t + 1 ≤ x ∧ f x = h then hp_cr p x else 0) (hp_T p) ≤ hp_ro p h
      omega
    · rw [e2] at h3
      omega
  · rintro ⟨h0, h1, h2, h3⟩
    refine ⟨fun x hx hxT => ?_, fun h hh => ?_, ?_⟩
    · by_cases hxt : x = t
      · subst hxt
        exact h0
      · exact h1 x (by omega) hxT
    · have : u h + (if f t = h then hp_cr p t else 0) + fb_sm (fun x => if t + 1 ≤ x ∧ f x = h then hp_cr p x else 0) (hp_T p) ≤ hp_ro p h := h2 h hh
      rw [e1]
      omega
    · rw [e2]
      omega
theorem hp_sol_end {p : hp_P} {s : Nat} {u : Nat → Nat} {L : Int} {f : Nat → Nat} : hp_sol p s (hp_T p) u L f ↔ (∀ h, h < hp_H p → u h ≤ hp_ro p h) ∧ L = 0 := by
  have e1 : ∀ h, fb_sm (fun x => if hp_T p ≤ x ∧ f x = h then hp_cr p x else 0) (hp_T p) = 0 := fun h => by
    rw [fb_sm_cong (g := fun _ => 0) (fun x hx => by simp [show ¬ hp_T p ≤ x by omega]), fb_sm_const, Nat.mul_zero]
  have e2 : fb_sm (fun x => if hp_T p ≤ x then hp_w2 p (f x) x else 0) (hp_T p) = 0 := by
    rw [fb_sm_cong (g := fun _ => 0) (fun x hx => by simp [show ¬ hp_T p ≤ x by omega]), fb_sm_const, Nat.mul_zero]
  unfold hp_sol
  rw [e2]
  constructor
  · rintro ⟨-, h2, h3⟩
    refine ⟨fun h hh => ?_, h3.symm⟩
    have := h2 h hh
    rw [e1] at this
    omega
  · rintro ⟨h2, h3⟩
    refine ⟨fun x hx hxT => by omega, fun h hh => ?_, h3.symm⟩
    rw [e1]
    exact h2 h hh
/-- a filling that differs only ahead of t is as good -/
theorem hp_sol_cong {p : hp_P} {s t : Nat} {u v : Nat → Nat} {L : Int} {f g : Nat → Nat} (hu : ∀ h, h < hp_H p → u h = v h) (h : ∀ x, t ≤ x → x < hp_T p → f x = g x) (hf : hp_sol p s t u L f) : hp_sol p s t v L g := by
  obtain ⟨h1, h2, h3⟩ := hf
  refine ⟨fun x hx hxT => by rw [← h x hx hxT]; exact h1 x hx hxT, fun a ha => ?_, ?_⟩
  · rw [← hu a ha, fb_sm_cong (g := fun x => if t ≤ x ∧ f x = a then hp_cr p x else 0) (fun x hx => ?_)]
    · exact h2 a ha
    · by_cases hc : t ≤ x
      · simp [hc, h x hc hx]
      · simp [hc]
  · rw [← h3, fb_sm_cong (g := fun x => if t ≤ x then hp_w2 p (f x) x else 0) (fun x hx => ?_)]
    by_cases hc : t ≤ x
    · simp [hc, h x hc hx]
    · simp [hc]
/-- the digits from t on -/
def hp_dt (p : hp_P) (f : Nat → Nat) (t : Nat) : Nat := fb_sm (fun x => if t ≤ x then f x * 2 ^ (3 * (7 - x)) else 0) (hp_T p)
theorem hp_dt_cons {p : hp_P} {f : Nat → Nat} {t : Nat} (ht : t < hp_T p) : hp_dt p f t = f t * 2 ^ (3 * (7 - t)) + hp_dt p f (t + 1) := hp_from ht _
theorem hp_dt_cong {p : hp_P} {f g : Nat → Nat} {t : Nat} (h : ∀ x, t ≤ x → x < hp_T p → f x = g x) : hp_dt p f t = hp_dt p g t := by
  unfold hp_dt
  refine fb_sm_cong (fun x hx => ?_)
  by_cases hc : t ≤ x
  · simp [hc, h x hc hx]
  · simp [hc]
theorem hp_dt_lt {p : hp_P} (hp : hp_ok p) {f : Nat → Nat} : ∀ n t, t + n = hp_T p → (∀ x, t ≤ x → x < hp_T p → f x ≤ 7) → hp_dt p f t < 2 ^ (24 - 3 * t)
  | 0, t, h, _ => by
    have e : hp_dt p f t = 0 := by
      unfold hp_dt
      rw [fb_sm_cong (g := fun _ => 0) (fun x hx => by simp [show ¬ t ≤ x by omega]), fb_sm_const, Nat.mul_zero]
    rw [e]
    exact Nat.two_pow_pos _
  | n + 1, t, h, hf => by
    have hT := hp.1
    have ih := hp_dt_lt hp n (t + 1) (by omega) (fun x hx => hf x (by omega))
    have h1 := hf t (Nat.le_refl _) (by omega)
    rw [hp_dt_cons (by omega)]
    have e1 : 3 * (7 - t) = 24 - 3 * (t + 1) := by omega
    have e2 : 24 - 3 * t = (24 - 3 * (t + 1)) + 3 := by omega
    rw [e1, e2, Nat.pow_add]
    have h3 : f t * 2 ^ (24 - 3 * (t + 1)) ≤ 7 * 2 ^ (24 - 3 * (t + 1)) := Nat.mul_le_mul_right _ h1
    omega
/-- f is the first of the fillings from t on -/
def hp_fst (p : hp_P) (s t : Nat) (u : Nat → Nat) (L : Int) (f : Nat → Nat) : Prop := hp_sol p s t u L f ∧ ∀ g, hp_sol p s t u L g → hp_dt p f t ≤ hp_dt p g t
theorem hp_fst_cons {p : hp_P} (hp : hp_ok p) {s t h : Nat} {u : Nat → Nat} {L : Int} {f : Nat → Nat} (ht : t < hp_T p) (hh : h < hp_H p) (hb : s.testBit h = true) (hft : f t = h) (hno : ∀ a, a < h → ∀ g, g t = a → ¬ hp_sol p s t u L g) (hf : hp_fst p s (t + 1) (fun a => u a + (if h = a then hp_cr p t else 0)) (L - (hp_w2 p h t : Nat)) f) : hp_fst p s t u L f := by
  have hH := hp.2.1
  have hT := hp.1
  obtain ⟨h1, h2⟩ := hf
  refine ⟨(hp_sol_cons ht).mpr ⟨by rw [hft]; exact ⟨hh, hb⟩, by rw [hft]; exact h1⟩, fun g hg => ?_⟩
  have hg2 := (hp_sol_cons ht).mp hg
  rw [hp_dt_cons ht, hp_dt_cons ht, hft]
  by_cases hgt : g t = h
  · rw [hgt] at hg2 ⊢
    have := h2 g hg2.2
    omega
  · have hlt : h + 1 ≤ g t := by
      rcases Nat.lt_or_ge (g t) h with q | q
      · exact absurd hg (hno (g t) q g rfl)
      · omega
    have hdt : hp_dt p f (t + 1) < 2 ^ (24 - 3 * (t + 1)) := hp_dt_lt hp (hp_T p - (t + 1)) (t + 1) (by omega) (fun x hx hxT => by have := (h1.1 x hx hxT).1; omega)
    have e1 : 3 * (7 - t) = 24 - 3 * (t + 1) := by omega
    rw [e1]
    have h3 : (h + 1) * 2 ^ (24 - 3 * (t + 1)) ≤ g t * 2 ^ (24 - 3 * (t + 1)) := Nat.mul_le_mul_right _ hlt
    rw [Nat.add_mul, Nat.one_mul] at h3
    omega
theorem hp_sol_fz {p : hp_P} {s : Nat} {L : Nat} {f : Nat → Nat} : hp_sol p s 0 (fun _ => 0) (L : Int) f ↔ hp_fz p s f ∧ hp_tot p f = L := by
  have e1 : ∀ h, fb_sm (fun x => if 0 ≤ x ∧ f x = h then hp_cr p x else 0) (hp_T p) = fb_sm (fun x => if f x = h then hp_cr p x else 0) (hp_T p) := fun h => fb_sm_cong (fun x _ => by simp)
  have e2 : fb_sm (fun x => if 0 ≤ x then hp_w2 p (f x) x else 0) (hp_T p) = hp_tot p f := fb_sm_cong (fun x _ => by simp)
  unfold hp_sol hp_fz
  rw [e2]
  constructor
  · rintro ⟨h1, h2, h3⟩
    refine ⟨⟨fun t ht => h1 t (Nat.zero_le _) ht, fun h hh => ?_⟩, by omega⟩
    have := h2 h hh
    rw [e1] at this
    omega
  · rintro ⟨⟨h1, h2⟩, h3⟩
    refine ⟨fun t _ ht => h1 t ht, fun h hh => ?_, by omega⟩
    rw [e1]
    show 0 + _ ≤ hp_ro p h
    have := h2 h hh
    omega
/-- the first of the least fillings has the least number's digits -/
theorem hp_fst_hl {p : hp_P} (hp : hp_ok p) {s c : Nat} (hc : hp_rmc p s = some c) {f : Nat → Nat} (hf : hp_fst p s 0 (fun _ => 0) ((c / 16777216 : Nat) : Int) f) {t : Nat} (ht : t < hp_T p) : f t = hp_hl c t := by
  have h7 := hp_rmc_is p s
  rw [hc] at h7
  obtain ⟨⟨g, hg, hgc⟩, hmin⟩ := h7
  obtain ⟨h1, h2⟩ := hf
  obtain ⟨hz, htot⟩ := hp_sol_fz.mp h1
  have hgt := (hp_code_div hp hg).1
  rw [hgc] at hgt
  have hgs : hp_sol p s 0 (fun _ => 0) ((c / 16777216 : Nat) : Int) g := hp_sol_fz.mpr ⟨hg, hgt.symm⟩
  have h3 := h2 g hgs
  have hdt : ∀ k, hp_dt p k 0 = hp_dg k (hp_T p) := fun k => by
    rw [← hp_dg_sm]
    unfold hp_dt
    exact fb_sm_cong (fun x _ => by simp)
  rw [hdt, hdt] at h3
  have h4 := hmin f hz
  rw [← hgc, hp_code_eq, hp_code_eq p f] at h4
  have h5 : hp_tot p f = hp_tot p g := by omega
  have h6 : hp_code p f = c := by
    rw [← hgc, hp_code_eq, hp_code_eq p g]
    omega
  rw [← h6, hp_hl_code hp hz ht]
/-- a filling costs at least what the nearest halls do -/
theorem hp_sol_low {p : hp_P} (hp : hp_ok p) {s t : Nat} {u : Nat → Nat} {L : Int} {f : Nat → Nat} (hf : hp_sol p s t u L f) : ((fb_sm (fun x => if t ≤ x then hp_cr p x * hp_nw p s x (hp_H p) else 0) (hp_T p) : Nat) : Int) ≤ L := by
  have hT := hp.1
  have nwle : ∀ x, ∀ n a, a < n → s.testBit a = true → hp_nw p s x n ≤ hp_wy p a x := by
    intro x n
    induction n with
    | zero => intro a ha; omega
    | succ n ih =>
      intro a ha hb
      simp only [hp_nw]
      by_cases han : a = n
      · subst han
        simp only [hb, if_true]
        exact Nat.min_le_right _ _
      · have := ih a (by omega) hb
        split
        · exact Nat.le_trans (Nat.min_le_left _ _) this
        · exact this
  rw [← hf.2.2]
  have : fb_sm (fun x => if t ≤ x then hp_cr p x * hp_nw p s x (hp_H p) else 0) (hp_T p) ≤ fb_sm (fun x => if t ≤ x then hp_w2 p (f x) x else 0) (hp_T p) := by
    refine fb_sm_le (fun x hx => ?_)
    by_cases hc : t ≤ x
    · simp only [hc, if_true]
      obtain ⟨g1, g2⟩ := hf.1 x hc hx
      exact Nat.mul_le_mul_left _ (nwle x _ _ g1 g2)
    · simp [hc]
  omega
