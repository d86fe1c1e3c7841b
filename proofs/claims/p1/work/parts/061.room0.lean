/-! whole towns into halls with rooms: the least of all ways, hall by hall -/
def hb_mk (q : Nat → Bool) : Nat → Nat
  | 0 => 0
  | n + 1 => hb_mk q n + (if q n then 2 ^ n else 0)
theorem hb_mk_lt (q : Nat → Bool) : ∀ n, hb_mk q n < 2 ^ n
  | 0 => by simp [hb_mk]
  | n + 1 => by
    have := hb_mk_lt q n
    simp only [hb_mk, Nat.pow_succ]
    split <;> omega
theorem hb_mk_bit (q : Nat → Bool) : ∀ n t, (hb_mk q n).testBit t = (decide (t < n) && q t)
  | 0, t => by simp [hb_mk]
  | n + 1, t => by
    have hl := hb_mk_lt q n
    simp only [hb_mk]
    by_cases hq : q n = true
    · simp only [hq, if_true]
      rw [Nat.add_comm, show 2 ^ n + hb_mk q n = 2 ^ n * 1 + hb_mk q n by omega, Nat.two_pow_add_eq_or_of_lt hl, Nat.testBit_or, hb_mk_bit q n t, Nat.mul_one, Nat.testBit_two_pow]
      by_cases ht : t = n
      · subst ht
        simp [hq]
      · have e : decide (n = t) = false := by simp; omega
        have e2 : decide (t < n + 1) = decide (t < n) := by
          by_cases h : t < n
          · simp [h]; omega
          · simp [h]; omega
        rw [e, e2, Bool.false_or]
    · simp only [hq, if_false, Bool.false_eq_true, Nat.add_zero]
      rw [hb_mk_bit q n t]
      by_cases ht : t = n
      · subst ht
        simp [hq]
      · have e2 : decide (t < n + 1) = decide (t < n) := by
          by_cases h : t < n
          · simp [h]; omega
          · simp [h]; omega
        rw [e2]
/-- the people of a heap that go to hall a -/
def hg_ld (T : Nat) (cr : Nat → Nat) (m : Nat) (f : Nat → Nat) (a : Nat) : Nat := fb_sm (fun t => if m.testBit t = true ∧ f t = a then cr t else 0) T
def hg_pp (T : Nat) (cr : Nat → Nat) (m : Nat) : Nat := fb_sm (fun t => if m.testBit t = true then cr t else 0) T
def hg_w (T : Nat) (w : Nat → Nat → Nat) (m : Nat) (f : Nat → Nat) : Nat := fb_sm (fun t => if m.testBit t = true then w (f t) t else 0) T
def hg_fs (T : Nat) (cr ro : Nat → Nat) (D : Nat → Bool) (m : Nat) (f : Nat → Nat) : Prop := (∀ t, t < T → m.testBit t = true → D (f t) = true) ∧ ∀ a, D a = true → hg_ld T cr m f a ≤ ro a
/-- v is the least weight, or N where there is no way -/
def hg_tb (T : Nat) (cr ro : Nat → Nat) (w : Nat → Nat → Nat) (N : Nat) (D : Nat → Bool) (m v : Nat) : Prop := v ≤ N ∧ (v = N ∨ ∃ f, hg_fs T cr ro D m f ∧ hg_w T w m f = v) ∧ ∀ f, hg_fs T cr ro D m f → v ≤ hg_w T w m f
theorem hg_tb_none {T : Nat} {cr ro : Nat → Nat} {w : Nat → Nat → Nat} {N : Nat} {D : Nat → Bool} (hD : ∀ a, D a = false) {m : Nat} (hm : m < 2 ^ T) : hg_tb T cr ro w N D m (if m = 0 then 0 else N) := by
  by_cases h0 : m = 0
  · subst h0
    refine ⟨by simp, Or.inr ⟨fun _ => 0, ⟨fun t _ ht => by simp at ht, fun a ha => by rw [hD a] at ha; cases ha⟩, ?_⟩, fun f _ => by simp⟩
    unfold hg_w
    simp only [Nat.zero_testBit, Bool.false_eq_true, if_false, if_true]
    rw [fb_sm_const]
    simp
  · refine ⟨by simp [h0], Or.inl (by simp [h0]), fun f hf => ?_⟩
    exfalso
    obtain ⟨t, ht⟩ := Nat.exists_testBit_of_ne_zero h0
    have htT : t < T := by
      rcases Nat.lt_or_ge t T with q | q
      · exact q
      · rw [Nat.testBit_lt_two_pow (Nat.lt_of_lt_of_le hm (Nat.pow_le_pow_right (by decide) q))] at ht
        cases ht
    have := hf.1 t htT ht
    rw [hD] at this
    cases this
theorem hg_tb_cong {T : Nat} {cr ro : Nat → Nat} {w : Nat → Nat → Nat} {N : Nat} {D E : Nat → Bool} (h : ∀ a, D a = E a) {m v : Nat} (ht : hg_tb T cr ro w N D m v) : hg_tb T cr ro w N E m v := by
  have : D = E := funext h
  rw [← this]
  exact ht
/-- sub and rest make up m -/
def hg_pt (T m u r : Nat) : Prop := ∀ t, t < T → m.testBit t = (u.testBit t || r.testBit t) ∧ ¬ (u.testBit t = true ∧ r.testBit t = true)
theorem hg_ld_join {T : Nat} {cr : Nat → Nat} {m u r : Nat} (hp : hg_pt T m u r) (f g k : Nat → Nat) (hf : ∀ t, t < T → u.testBit t = true → k t = f t) (hg : ∀ t, t < T → r.testBit t = true → k t = g t) (a : Nat) : hg_ld T cr m k a = hg_ld T cr u f a + hg_ld T cr r g a := by
  unfold hg_ld
  rw [← fb_sm_add]
  refine fb_sm_cong (fun t ht => ?_)
  obtain ⟨h1, h2⟩ := hp t ht
  by_cases hu : u.testBit t = true
  · have hr : r.testBit t = false := by
      cases hq : r.testBit t with
      | false => rfl
      | true => exact absurd ⟨hu, hq⟩ h2
    rw [h1, hu, hr, hf t ht hu]
    simp
  · have hu2 : u.testBit t = false := by simpa using hu
    by_cases hr : r.testBit t = true
    · rw [h1, hu2, hr, hg t ht hr]
      simp
    · have hr2 : r.testBit t = false := by simpa using hr
      rw [h1, hu2, hr2]
      simp
theorem hg_w_join {T : Nat} {w : Nat → Nat → Nat} {m u r : Nat} (hp : hg_pt T m u r) (f g k : Nat → Nat) (hf : ∀ t, t < T → u.testBit t = true → k t = f t) (hg : ∀ t, t < T → r.testBit t = true → k t = g t) : hg_w T w m k = hg_w T w u f + hg_w T w r g := by
  unfold hg_w
  rw [← fb_sm_add]
  refine fb_sm_cong (fun t ht => ?_)
  obtain ⟨h1, h2⟩ := hp t ht
  by_cases hu : u.testBit t = true
  · have hr : r.testBit t = false := by
      cases hq : r.testBit t with
      | false => rfl
      | true => exact absurd ⟨hu, hq⟩ h2
    rw [h1, hu, hr, hf t ht hu]
    simp
  · have hu2 : u.testBit t = false := by simpa using hu
    by_cases hr : r.testBit t = true
    · rw [h1, hu2, hr, hg t ht hr]
      simp
    · have hr2 : r.testBit t = false := by simpa using hr
      rw [h1, hu2, hr2]
      simp
theorem hg_ld_all {T : Nat} {cr : Nat → Nat} {m h : Nat} {f : Nat → Nat} (hf : ∀ t, t < T → m.testBit t = true → f t = h) : hg_ld T cr m f h = hg_pp T cr m := by
  unfold hg_ld hg_pp
  refine fb_sm_cong (fun t ht => ?_)
  by_cases hb : m.testBit t = true
  · simp [hb, hf t ht hb]
  · simp [hb]
theorem hg_ld_no {T : Nat} {cr : Nat → Nat} {m a : Nat} {f : Nat → Nat} (hf : ∀ t, t < T → m.testBit t = true → f t ≠ a) : hg_ld T cr m f a = 0 := by
  unfold hg_ld
  rw [fb_sm_cong (g := fun _ => 0) (fun t ht => ?_), fb_sm_const, Nat.mul_zero]
  by_cases hb : m.testBit t = true
  · simp [hf t ht hb]
  · simp [hb]
/-- one hall more: from the least ways B without it to those with it, A -/
theorem hg_tb_step {T : Nat} {cr ro : Nat → Nat} {w : Nat → Nat → Nat} {N : Nat} {D E : Nat → Bool} {h : Nat} (hD : D h = false) (hE : ∀ a, E a = (D a || decide (a = h))) {B : Nat → Nat} (hB : ∀ m, m < 2 ^ T → hg_tb T cr ro w N D m (B m)) {m v : Nat} (hm : m < 2 ^ T)
    (a1 : v ≤ B m)
    (a2 : ∀ u r, u < 2 ^ T → r < 2 ^ T → u ≠ 0 → hg_pt T m u r → hg_pp T cr u ≤ ro h → v ≤ hg_w T w u (fun _ => h) + B r)
    (a3 : v = B m ∨ ∃ u r, r < 2 ^ T ∧ hg_pt T m u r ∧ hg_pp T cr u ≤ ro h ∧ v = hg_w T w u (fun _ => h) + B r) : hg_tb T cr ro w N E m v := by
  have hEh : E h = true := by rw [hE]; simp
  have hDE : ∀ a, D a = true → E a = true := fun a ha => by rw [hE, ha]; rfl
  have hDn : ∀ a, D a = true → a ≠ h := fun a ha q => by rw [q, hD] at ha; cases ha
  refine ⟨Nat.le_trans a1 (hB m hm).1, ?_, fun f hf => ?_⟩
  · rcases a3 with q | ⟨u, r, hr, hp, hpp, q⟩
    · rcases (hB m hm).2.1 with q2 | ⟨f, hf, hw⟩
      · exact Or.inl (q.trans q2)
      · refine Or.inr ⟨f, ⟨fun t ht hb => hDE _ (hf.1 t ht hb), fun a ha => ?_⟩, hw.trans q.symm⟩
        by_cases hah : a = h
        · rw [hah, hg_ld_no (fun t ht hb => hDn _ (hf.1 t ht hb))]
          exact Nat.zero_le _
        · refine hf.2 a ?_
          rw [hE] at ha
          simpa [hah] using ha
    · rcases (hB r hr).2.1 with q2 | ⟨f, hf, hw⟩
      · refine Or.inl ?_
        have := (hB m hm).1
        omega
      · refine Or.inr ⟨fun t => if u.testBit t = true then h else f t, ⟨fun t ht hb => ?_, fun a ha => ?_⟩, ?_⟩
        · by_cases hu : u.testBit t = true
          · simp only [hu, if_true]
            exact hEh
          · have h1 := (hp t ht).1
            have hu2 : u.testBit t = false := by simpa using hu
            rw [hb, hu2, Bool.false_or] at h1
            simp only [hu, if_false, Bool.false_eq_true]
            exact hDE _ (hf.1 t ht h1.symm)
        · rw [hg_ld_join hp (fun _ => h) f _ (fun t ht hu => by simp [hu]) (fun t ht hr2 => by
            have := (hp t ht).2
            have hu : ¬ u.testBit t = true := fun q => this ⟨q, hr2⟩
            simp [hu])]
          by_cases hah : a = h
          · rw [hah, hg_ld_all (fun t ht _ => rfl), hg_ld_no (fun t ht hb => hDn _ (hf.1 t ht hb))]
            exact hpp
          · rw [hg_ld_no (m := u) (fun t ht _ q => hah q.symm), Nat.zero_add]
            refine hf.2 a ?_
            rw [hE] at ha
            simpa [hah] using ha
        · rw [hg_w_join hp (fun _ => h) f _ (fun t ht hu => by simp [hu]) (fun t ht hr2 => by
            have := (hp t ht).2
            have hu : ¬ u.testBit t = true := fun q => this ⟨q, hr2⟩
            simp [hu]), hw, q]
  · -- the towns that go to h
    have hu_lt := hb_mk_lt (fun t => m.testBit t && decide (f t = h)) T
    have hr_lt := hb_mk_lt (fun t => m.testBit t && !decide (f t = h)) T
    have bu : ∀ t, t < T → (hb_mk (fun t => m.testBit t && decide (f t = h)) T).testBit t = (m.testBit t && decide (f t = h)) := fun t ht => by rw [hb_mk_bit]; simp [ht]
    have br : ∀ t, t < T → (hb_mk (fun t => m.testBit t && !decide (f t = h)) T).testBit t = (m.testBit t && !decide (f t = h)) := fun t ht => by rw [hb_mk_bit]; simp [ht]
    generalize hb_mk (fun t => m.testBit t && decide (f t = h)) T = u at hu_lt bu
    generalize hb_mk (fun t => m.testBit t && !decide (f t = h)) T = r at hr_lt br
    have hp : hg_pt T m u r := by
      intro t ht
      rw [bu t ht, br t ht]
      by_cases hb : m.testBit t = true
      · by_cases hc : f t = h
        · simp [hb, hc]
        · simp [hb, hc]
      · simp [hb]
    have hu1 : ∀ t, t < T → u.testBit t = true → f t = h := fun t ht hb => by
      rw [bu t ht] at hb
      have : m.testBit t = true ∧ f t = h := by simpa using hb
      exact this.2
    have hr1 : ∀ t, t < T → r.testBit t = true → m.testBit t = true ∧ f t ≠ h := fun t ht hb => by
      rw [br t ht] at hb
      simpa using hb
    have hfr : hg_fs T cr ro D r f := by
      refine ⟨fun t ht hb => ?_, fun a ha => ?_⟩
      · obtain ⟨g1, g2⟩ := hr1 t ht hb
        have := hf.1 t ht g1
        rw [hE] at this
        simpa [g2] using this
      · have g := hf.2 a (hDE a ha)
        rw [hg_ld_join hp f f f (fun _ _ _ => rfl) (fun _ _ _ => rfl)] at g
        omega
    have hw : hg_w T w m f = hg_w T w u (fun _ => h) + hg_w T w r f := hg_w_join hp (fun _ => h) f f (fun t ht hb => hu1 t ht hb) (fun _ _ _ => rfl)
    have hbr := (hB r hr_lt).2.2 f hfr
    by_cases hu0 : u = 0
    · have hrm : hg_w T w r f = hg_w T w m f := by
        rw [hw]
        have : hg_w T w u (fun _ => h) = 0 := by
          rw [hu0]
          unfold hg_w
          simp only [Nat.zero_testBit, Bool.false_eq_true, if_false]
          rw [fb_sm_const, Nat.mul_zero]
        omega
      have hfm : hg_fs T cr ro D m f := by
        have bm : ∀ t, t < T → m.testBit t = r.testBit t := fun t ht => by
          have := (hp t ht).1
          rw [hu0, Nat.zero_testBit, Bool.false_or] at this
          exact this
        refine ⟨fun t ht hb => hfr.1 t ht (by rw [← bm t ht]; exact hb), fun a ha => ?_⟩
        have := hf.2 a (hDE a ha)
        exact this
      exact Nat.le_trans a1 ((hB m hm).2.2 f hfm)
    · have hpp : hg_pp T cr u ≤ ro h := by
        have g := hf.2 h hEh
        rw [hg_ld_join hp f f f (fun _ _ _ => rfl) (fun _ _ _ => rfl), hg_ld_all (fun t ht hb => hu1 t ht hb)] at g
        omega
      have := a2 u r hu_lt hr_lt hu0 hp hpp
      omega
