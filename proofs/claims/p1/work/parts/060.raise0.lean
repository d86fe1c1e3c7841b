/-! raising claims: rounds one by one, and many alike at once -/
def hr_ab (tr : Nat → Nat → Nat) (T : Nat) (cl : Nat → Nat) (h : Nat) : Nat := fb_sm (fun t => cl t - tr h t) T
def hr_up (cl : Nat → Nat) (t v : Nat) : Nat → Nat := fun u => if u = t then v else cl u
def hr_held (tr : Nat → Nat → Nat) (pr : Nat → Nat) (T H : Nat) (cl : Nat → Nat) : Prop := ∀ h, h < H → hr_ab tr T cl h ≤ pr h
def hr_one (tr : Nat → Nat → Nat) (pr : Nat → Nat) (T H t : Nat) (cl : Nat → Nat) : Nat → Nat := if (∀ h, h < H → hr_ab tr T (hr_up cl t (cl t + 1)) h ≤ pr h) then hr_up cl t (cl t + 1) else cl
def hr_rnd (tr : Nat → Nat → Nat) (pr : Nat → Nat) (T H : Nat) (cl : Nat → Nat) : Nat → Nat → Nat
  | 0 => cl
  | t + 1 => hr_one tr pr T H t (hr_rnd tr pr T H cl t)
def hr_it (tr : Nat → Nat → Nat) (pr : Nat → Nat) (T H : Nat) (cl : Nat → Nat) : Nat → Nat → Nat
  | 0 => cl
  | n + 1 => hr_rnd tr pr T H (hr_it tr pr T H cl n) T
theorem hr_ab_up (tr : Nat → Nat → Nat) {T t : Nat} (ht : t < T) (cl : Nat → Nat) (h : Nat) : hr_ab tr T (hr_up cl t (cl t + 1)) h = hr_ab tr T cl h + (if tr h t ≤ cl t then 1 else 0) := by
  have e : (fun u => hr_up cl t (cl t + 1) u - tr h u) = fun u => if u = t then cl t + 1 - tr h t else cl u - tr h u := by
    funext u
    unfold hr_up
    by_cases hu : u = t
    · subst hu
      simp
    · simp [hu]
  have := fb_sm_upd (fun u => cl u - tr h u) (cl t + 1 - tr h t) ht
  unfold hr_ab
  rw [e]
  split <;> omega
theorem hr_one_st {tr : Nat → Nat → Nat} {pr : Nat → Nat} {T H t h : Nat} {cl : Nat → Nat} (ht : t < T) (hh : h < H) (he : hr_ab tr T cl h = pr h) (hp : tr h t ≤ cl t) : hr_one tr pr T H t cl = cl := by
  unfold hr_one
  rw [if_neg]
  intro q
  have := q h hh
  rw [hr_ab_up tr ht, if_pos hp] at this
  omega
theorem hr_one_go {tr : Nat → Nat → Nat} {pr : Nat → Nat} {T H t : Nat} {cl : Nat → Nat} (ht : t < T) (hc : hr_held tr pr T H cl) (hg : ∀ h, h < H → tr h t ≤ cl t → hr_ab tr T cl h < pr h) : hr_one tr pr T H t cl = hr_up cl t (cl t + 1) ∧ hr_held tr pr T H (hr_up cl t (cl t + 1)) := by
  have k : ∀ h, h < H → hr_ab tr T (hr_up cl t (cl t + 1)) h ≤ pr h := by
    intro h hh
    rw [hr_ab_up tr ht]
    have h1 := hc h hh
    by_cases hp : tr h t ≤ cl t
    · have := hg h hh hp
      simp only [hp, if_true]
      omega
    · simp only [hp, if_false]
      omega
  exact ⟨if_pos k, k⟩
theorem hr_one_held {tr : Nat → Nat → Nat} {pr : Nat → Nat} {T H t : Nat} {cl : Nat → Nat} (hc : hr_held tr pr T H cl) : hr_held tr pr T H (hr_one tr pr T H t cl) := by
  unfold hr_one
  split
  · assumption
  · exact hc
theorem hr_one_ab {tr : Nat → Nat → Nat} {pr : Nat → Nat} {T H t : Nat} (ht : t < T) (cl : Nat → Nat) (h : Nat) : hr_ab tr T cl h ≤ hr_ab tr T (hr_one tr pr T H t cl) h := by
  unfold hr_one
  split
  · rw [hr_ab_up tr ht]
    omega
  · exact Nat.le_refl _
theorem hr_one_ne {tr : Nat → Nat → Nat} {pr : Nat → Nat} {T H t : Nat} (cl : Nat → Nat) {u : Nat} (hu : u ≠ t) : hr_one tr pr T H t cl u = cl u := by
  unfold hr_one
  split
  · simp [hr_up, hu]
  · rfl
theorem hr_one_le {tr : Nat → Nat → Nat} {pr : Nat → Nat} {T H t : Nat} (cl : Nat → Nat) (u : Nat) : cl u ≤ hr_one tr pr T H t cl u ∧ hr_one tr pr T H t cl u ≤ cl u + 1 := by
  unfold hr_one
  split
  · unfold hr_up
    by_cases hu : u = t
    · simp [hu]
    · simp [hu]
  · omega
theorem hr_rnd_held {tr : Nat → Nat → Nat} {pr : Nat → Nat} {T H : Nat} {cl : Nat → Nat} (hc : hr_held tr pr T H cl) : ∀ n, hr_held tr pr T H (hr_rnd tr pr T H cl n)
  | 0 => hc
  | n + 1 => hr_one_held (hr_rnd_held hc n)
theorem hr_rnd_ab {tr : Nat → Nat → Nat} {pr : Nat → Nat} {T H : Nat} (cl : Nat → Nat) (h : Nat) : ∀ n, n ≤ T → hr_ab tr T cl h ≤ hr_ab tr T (hr_rnd tr pr T H cl n) h
  | 0, _ => Nat.le_refl _
  | n + 1, hn => Nat.le_trans (hr_rnd_ab cl h n (by omega)) (hr_one_ab (by omega) _ h)
theorem hr_rnd_out {tr : Nat → Nat → Nat} {pr : Nat → Nat} {T H : Nat} (cl : Nat → Nat) : ∀ n u, n ≤ u → hr_rnd tr pr T H cl n u = cl u
  | 0, _, _ => rfl
  | n + 1, u, h => by
    show hr_one tr pr T H n _ u = cl u
    rw [hr_one_ne _ (by omega), hr_rnd_out cl n u (by omega)]
theorem hr_rnd_le {tr : Nat → Nat → Nat} {pr : Nat → Nat} {T H : Nat} (cl : Nat → Nat) : ∀ n u, cl u ≤ hr_rnd tr pr T H cl n u ∧ hr_rnd tr pr T H cl n u ≤ cl u + 1
  | 0, _ => ⟨Nat.le_refl _, Nat.le_succ _⟩
  | n + 1, u => by
    show cl u ≤ hr_one tr pr T H n _ u ∧ hr_one tr pr T H n _ u ≤ cl u + 1
    by_cases hu : u = n
    · have h1 := hr_one_le (tr := tr) (pr := pr) (T := T) (H := H) (t := n) (hr_rnd tr pr T H cl n) u
      rw [hr_rnd_out cl n u (by omega)] at h1
      exact h1
    · rw [hr_one_ne _ hu]
      exact hr_rnd_le cl n u
theorem hr_it_held {tr : Nat → Nat → Nat} {pr : Nat → Nat} {T H : Nat} {cl : Nat → Nat} (hc : hr_held tr pr T H cl) : ∀ n, hr_held tr pr T H (hr_it tr pr T H cl n)
  | 0 => hc
  | n + 1 => hr_rnd_held (hr_it_held hc n) T
theorem hr_it_out {tr : Nat → Nat → Nat} {pr : Nat → Nat} {T H : Nat} (cl : Nat → Nat) : ∀ n u, T ≤ u → hr_it tr pr T H cl n u = cl u
  | 0, _, _ => rfl
  | n + 1, u, h => (hr_rnd_out _ T u h).trans (hr_it_out cl n u h)
theorem hr_it_le {tr : Nat → Nat → Nat} {pr : Nat → Nat} {T H : Nat} (cl : Nat → Nat) : ∀ n u, hr_it tr pr T H cl n u ≤ cl u + n
  | 0, _ => Nat.le_refl _
  | n + 1, u => by
    have h1 := hr_it_le (tr := tr) (pr := pr) (T := T) (H := H) cl n u
    have h2 := (hr_rnd_le (tr := tr) (pr := pr) (T := T) (H := H) (hr_it tr pr T H cl n) T u).2
    show hr_rnd tr pr T H (hr_it tr pr T H cl n) T u ≤ _
    omega
theorem hr_it_add {tr : Nat → Nat → Nat} {pr : Nat → Nat} {T H : Nat} (cl : Nat → Nat) (m : Nat) : ∀ n, hr_it tr pr T H cl (m + n) = hr_it tr pr T H (hr_it tr pr T H cl m) n
  | 0 => rfl
  | n + 1 => by
    show hr_rnd tr pr T H (hr_it tr pr T H cl (m + n)) T = hr_rnd tr pr T H (hr_it tr pr T H (hr_it tr pr T H cl m) n) T
    rw [hr_it_add cl m n]
theorem hr_it_fix {tr : Nat → Nat → Nat} {pr : Nat → Nat} {T H : Nat} {cl : Nat → Nat} (h : hr_rnd tr pr T H cl T = cl) : ∀ n, hr_it tr pr T H cl n = cl
  | 0 => rfl
  | n + 1 => by
    show hr_rnd tr pr T H (hr_it tr pr T H cl n) T = cl
    rw [hr_it_fix h n, h]
/-- where all are stopped a round does nothing -/
theorem hr_rnd_stop {tr : Nat → Nat → Nat} {pr : Nat → Nat} {T H : Nat} {cl : Nat → Nat} (hs : ∀ t, t < T → ∃ h, h < H ∧ hr_ab tr T cl h = pr h ∧ tr h t ≤ cl t) : ∀ n, n ≤ T → hr_rnd tr pr T H cl n = cl
  | 0, _ => rfl
  | n + 1, hn => by
    show hr_one tr pr T H n (hr_rnd tr pr T H cl n) = cl
    rw [hr_rnd_stop hs n (by omega)]
    obtain ⟨h, hh, h1, h2⟩ := hs n (by omega)
    exact hr_one_st (by omega) hh h1 h2
/-- who is stopped ahead of a round stays so in it -/
theorem hr_rnd_skip {tr : Nat → Nat → Nat} {pr : Nat → Nat} {T H t : Nat} {cl : Nat → Nat} (hc : hr_held tr pr T H cl) (ht : t < T) (hs : ∃ h, h < H ∧ hr_ab tr T cl h = pr h ∧ tr h t ≤ cl t) : hr_rnd tr pr T H cl (t + 1) = hr_rnd tr pr T H cl t := by
  obtain ⟨h, hh, h1, h2⟩ := hs
  show hr_one tr pr T H t (hr_rnd tr pr T H cl t) = _
  refine hr_one_st ht hh ?_ ?_
  · have g1 := hr_rnd_ab (pr := pr) (H := H) (tr := tr) (T := T) cl h t (by omega)
    have g2 := hr_rnd_held hc t h hh
    omega
  · rw [hr_rnd_out cl t t (Nat.le_refl _)]
    exact h2
theorem hr_sm_ct (g : Nat → Nat) (q : Nat → Bool) (j u : Nat) : ∀ n, fb_sm (fun t => g t + (if q t then (if t < u then j + 1 else j) else 0)) n = fb_sm g n + j * fb_ct q n + fb_ct q (min u n)
  | 0 => by simp [fb_sm, fb_ct]
  | n + 1 => by
    rw [fb_sm_succ, fb_sm_succ, fb_ct_succ, hr_sm_ct g q j u n]
    by_cases hq : q n = true
    · by_cases hu : n < u
      · have e1 : min u (n + 1) = n + 1 := by omega
        have e2 : min u n = n := by omega
        rw [e1, e2, fb_ct_succ]
        simp only [hq, if_true, hu, Nat.mul_add, Nat.mul_one]
        omega
      · have e1 : min u (n + 1) = u := by omega
        have e2 : min u n = u := by omega
        rw [e1, e2]
        simp only [hq, if_true, hu, if_false, Nat.mul_add, Nat.mul_one]
        omega
    · have e : fb_ct q (min u (n + 1)) = fb_ct q (min u n) := by
        by_cases hu : n < u
        · have e1 : min u (n + 1) = n + 1 := by omega
          have e2 : min u n = n := by omega
          rw [e1, e2, fb_ct_succ]
          simp [hq]
        · have e1 : min u (n + 1) = u := by omega
          have e2 : min u n = u := by omega
          rw [e1, e2]
      rw [e]
      simp only [hq, if_false, Bool.false_eq_true, Nat.add_zero]
      omega
/-- the claims after j rounds alike, and in the next one those of the towns below u -/
def hr_mid (F : Nat → Bool) (T : Nat) (cl : Nat → Nat) (j u : Nat) : Nat → Nat := fun t => if t < T ∧ F t = true then cl t + (if t < u then j + 1 else j) else cl t
def hr_pay (tr : Nat → Nat → Nat) (F : Nat → Bool) (cl : Nat → Nat) (h : Nat) : Nat → Bool := fun t => F t && decide (tr h t ≤ cl t)
theorem hr_mid_ab {tr : Nat → Nat → Nat} {F : Nat → Bool} {T H a j u : Nat} {cl : Nat → Nat} (ha : ∀ t, t < T → F t = true → ∀ h, h < H → cl t < tr h t → a ≤ tr h t - cl t) (hj : j < a) (hu : u ≤ T) {h : Nat} (hh : h < H) : hr_ab tr T (hr_mid F T cl j u) h = hr_ab tr T cl h + j * fb_ct (hr_pay tr F cl h) T + fb_ct (hr_pay tr F cl h) u := by
  have e : fb_sm (fun t => hr_mid F T cl j u t - tr h t) T = fb_sm (fun t => (cl t - tr h t) + (if hr_pay tr F cl h t then (if t < u then j + 1 else j) else 0)) T := by
    refine fb_sm_cong (fun t ht => ?_)
    unfold hr_mid hr_pay
    by_cases hF : F t = true
    · by_cases hp : tr h t ≤ cl t
      · simp only [ht, hF, and_self, if_true, hp, decide_true, Bool.and_self]
        split <;> omega
      · have := ha t ht hF h hh (by omega)
        simp only [ht, hF, and_self, if_true, hp, decide_false, Bool.and_false, Bool.false_eq_true, if_false]
        split <;> omega
    · simp [hF]
  unfold hr_ab
  rw [e, hr_sm_ct, Nat.min_eq_left hu]
theorem hr_alike {tr : Nat → Nat → Nat} {pr : Nat → Nat} {F : Nat → Bool} {T H a : Nat} {cl : Nat → Nat}
    (hs : ∀ t, t < T → F t = false → ∃ h, h < H ∧ hr_ab tr T cl h = pr h ∧ tr h t ≤ cl t)
    (ha : ∀ t, t < T → F t = true → ∀ h, h < H → cl t < tr h t → a ≤ tr h t - cl t)
    (hb : ∀ h, h < H → hr_ab tr T cl h + a * fb_ct (hr_pay tr F cl h) T ≤ pr h) (hc : hr_held tr pr T H cl) : ∀ j, j ≤ a → hr_it tr pr T H cl j = hr_mid F T cl j 0
  | 0, _ => by
    funext t
    unfold hr_mid
    by_cases h : t < T ∧ F t = true
    · simp [h, hr_it]
    · simp [h, hr_it]
  | j + 1, hj => by
    have ih := hr_alike hs ha hb hc j (by omega)
    have key : ∀ u, u ≤ T → hr_rnd tr pr T H (hr_it tr pr T H cl j) u = hr_mid F T cl j u := by
      intro u
      induction u with
      | zero => intro _; exact ih
      | succ u iu =>
        intro hu
        have hmul : ∀ h, h < H → j * fb_ct (hr_pay tr F cl h) T + fb_ct (hr_pay tr F cl h) T ≤ a * fb_ct (hr_pay tr F cl h) T := by
          intro h hh
          have : (j + 1) * fb_ct (hr_pay tr F cl h) T ≤ a * fb_ct (hr_pay tr F cl h) T := Nat.mul_le_mul_right _ hj
          rw [Nat.succ_mul] at this
          exact this
        have hab : ∀ h, h < H → hr_ab tr T (hr_mid F T cl j u) h = hr_ab tr T cl h + j * fb_ct (hr_pay tr F cl h) T + fb_ct (hr_pay tr F cl h) u := fun h hh => hr_mid_ab ha (by omega) (by omega) hh
        have hheld : hr_held tr pr T H (hr_mid F T cl j u) := by
          intro h hh
          rw [hab h hh]
          have h1 := hb h hh
          have h2 := hmul h hh
          have h3 := fb_ct_mono (hr_pay tr F cl h) (show u ≤ T by omega)
          omega
        show hr_one tr pr T H u (hr_rnd tr pr T H (hr_it tr pr T H cl j) u) = hr_mid F T cl j (u + 1)
        rw [iu (by omega)]
        by_cases hF : F u = true
        · have hmu : hr_mid F T cl j u u = cl u + j := by
            unfold hr_mid
            simp [hF, show u < T by omega]
          obtain ⟨g1, -⟩ := hr_one_go (tr := tr) (pr := pr) (T := T) (H := H) (t := u) (cl := hr_mid F T cl j u) (by omega) hheld (fun h hh hp => by
            rw [hmu] at hp
            have hpay : hr_pay tr F cl h u = true := by
              unfold hr_pay
              rw [hF]
              by_cases hq : tr h u ≤ cl u
              · simp [hq]
              · have := ha u (by omega) hF h hh (by omega)
                omega
            have h1 := hb h hh
            have h2 := hmul h hh
            have h3 := fb_ct_mono (hr_pay tr F cl h) (show u + 1 ≤ T by omega)
            rw [fb_ct_succ, if_pos hpay] at h3
            rw [hab h hh]
            omega)
          rw [g1, hmu]
          funext t
          unfold hr_up hr_mid
          by_cases ht : t = u
          · subst ht
            simp [hF, show t < T by omega]
            omega
          · by_cases hc2 : t < T ∧ F t = true
            · simp only [ht, if_false, hc2, and_self, if_true]
              have : (t < u) = (t < u + 1) := by
                apply propext
                omega
              simp only [this]
            · simp only [ht, if_false, hc2]
        · have hFf : F u = false := by simpa using hF
          obtain ⟨h, hh, h1, h2⟩ := hs u (by omega) hFf
          rw [hr_one_st (by omega) hh (Nat.le_antisymm (hheld h hh) (by rw [hab h hh]; omega)) (by unfold hr_mid; simp [hF]; exact h2)]
          funext t
          unfold hr_mid
          by_cases ht : t = u
          · subst ht
            simp [hF]
          · by_cases hc2 : t < T ∧ F t = true
            · have : (t < u) = (t < u + 1) := by
                apply propext
                omega
              simp only [hc2, and_self, if_true, this]
            · simp only [hc2, if_false]
    show hr_rnd tr pr T H (hr_it tr pr T H cl j) T = _
    rw [key T (Nat.le_refl _)]
    funext t
    unfold hr_mid
    by_cases hc2 : t < T ∧ F t = true
    · simp [hc2]
    · simp [hc2]
