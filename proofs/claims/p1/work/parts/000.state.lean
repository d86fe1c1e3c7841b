/-! THE ABSTRACT STATE. A world is a list of cells with fixed kinds; a state gives what the cells hold: ints (arrays, int fields), longs, references (by cell number). -/
abbrev hd_S : Type := (Nat → Nat → Int32) × (Nat → Nat → Int64) × (Nat → Nat → Nat)
/-- a cell's kind: an object (class number, fields: none = an int field, some t = the cell t), or an array (type number, length) -/
abbrev hd_K : Type := (Nat × List (Option Nat)) ⊕ (Nat × Nat)
/-- values: int, long, cell, unset -/
abbrev hd_V : Type := Int32 ⊕ (Int64 ⊕ (Nat ⊕ Unit))
abbrev hd_vI (x : Int32) : hd_V := .inl x
abbrev hd_vJ (x : Int64) : hd_V := .inr (.inl x)
abbrev hd_vR (c : Nat) : hd_V := .inr (.inr (.inl c))
abbrev hd_vN : hd_V := .inr (.inr (.inr ()))
def hd_val (ad : Nat → Nat) : hd_V → Value
  | .inl x => .int x
  | .inr (.inl x) => .long x
  | .inr (.inr (.inl c)) => .ref (ad c)
  | .inr (.inr (.inr _)) => .null
def hd_on : hd_V → Bool
  | .inr (.inr (.inr _)) => false
  | _ => true
def hd_wide : hd_V → Bool
  | .inr (.inl _) => true
  | _ => false
def hd_fl (ad : Nat → Nat) (f : Nat → Int32) : Nat → List (Option Nat) → List Value
  | _, [] => []
  | k, none :: r => .int (f k) :: hd_fl ad f (k + 1) r
  | k, some t :: r => .ref (ad t) :: hd_fl ad f (k + 1) r
def hd_E (ad : Nat → Nat) (cA : Nat → ClassId) (f : Nat → Int32) (g : Nat → Int64) (r : Nat → Nat) : hd_K → va_E
  | .inl (ci, fl) => .inr (ci, hd_fl ad f 0 fl)
  | .inr (0, n) => .inl (cA 0, n, .inl f)
  | .inr (1, n) => .inl (cA 1, n, .inr (.inl g))
  | .inr (t, n) => .inl (cA t, n, .inr (.inr (.inr (.inr (fun i => some (ad (r i)))))))
def hd_W (sh : List hd_K) (ad : Nat → Nat) (cA : Nat → ClassId) (S : hd_S) : va_W :=
  (List.range sh.length).map (fun c => (ad c, hd_E ad cA (S.1 c) (S.2.1 c) (S.2.2 c) (sh.getD c (.inr (0, 0)))))
theorem hd_W_at {sh : List hd_K} {ad : Nat → Nat} {cA : Nat → ClassId} {S : hd_S} {c : Nat} {k : hd_K} (h : sh[c]? = some k) : (hd_W sh ad cA S)[c]? = some (ad c, hd_E ad cA (S.1 c) (S.2.1 c) (S.2.2 c) k) := by
  have hl := (List.getElem?_eq_some_iff.mp h).1
  unfold hd_W
  rw [List.getElem?_map, List.getElem?_range hl, Option.map_some, List.getD_eq_getElem?_getD, h]
  rfl
theorem hd_W_obj {sh : List hd_K} {ad : Nat → Nat} {cA : Nat → ClassId} {S : hd_S} {c ci : Nat} {fl : List (Option Nat)} (h : sh[c]? = some (.inl (ci, fl))) : (hd_W sh ad cA S)[c]? = some (ad c, .inr (ci, hd_fl ad (S.1 c) 0 fl)) := hd_W_at h
theorem hd_W_int {sh : List hd_K} {ad : Nat → Nat} {cA : Nat → ClassId} {S : hd_S} {c n : Nat} (h : sh[c]? = some (.inr (0, n))) : (hd_W sh ad cA S)[c]? = some (ad c, .inl (cA 0, n, .inl (S.1 c))) := hd_W_at h
theorem hd_W_lng {sh : List hd_K} {ad : Nat → Nat} {cA : Nat → ClassId} {S : hd_S} {c n : Nat} (h : sh[c]? = some (.inr (1, n))) : (hd_W sh ad cA S)[c]? = some (ad c, .inl (cA 1, n, .inr (.inl (S.2.1 c)))) := hd_W_at h
theorem hd_W_ref2 {sh : List hd_K} {ad : Nat → Nat} {cA : Nat → ClassId} {S : hd_S} {c n : Nat} (h : sh[c]? = some (.inr (2, n))) : (hd_W sh ad cA S)[c]? = some (ad c, .inl (cA 2, n, .inr (.inr (.inr (.inr (fun i => some (ad (S.2.2 c i)))))))) := hd_W_at h
theorem hd_W_ref3 {sh : List hd_K} {ad : Nat → Nat} {cA : Nat → ClassId} {S : hd_S} {c n : Nat} (h : sh[c]? = some (.inr (3, n))) : (hd_W sh ad cA S)[c]? = some (ad c, .inl (cA 3, n, .inr (.inr (.inr (.inr (fun i => some (ad (S.2.2 c i)))))))) := hd_W_at h
theorem hd_W_len {sh : List hd_K} {ad : Nat → Nat} {cA : Nat → ClassId} {S : hd_S} : (hd_W sh ad cA S).length = sh.length := by simp [hd_W]
theorem hd_W_set {sh : List hd_K} {ad : Nat → Nat} {cA : Nat → ClassId} {S S' : hd_S} {c : Nat} {k : hd_K} {e : va_E} (h : sh[c]? = some k) (he : e = hd_E ad cA (S'.1 c) (S'.2.1 c) (S'.2.2 c) k) (ho : ∀ c', c' ≠ c → S'.1 c' = S.1 c' ∧ S'.2.1 c' = S.2.1 c' ∧ S'.2.2 c' = S.2.2 c') : (hd_W sh ad cA S).set c (ad c, e) = hd_W sh ad cA S' := by
  have hl := (List.getElem?_eq_some_iff.mp h).1
  subst he
  apply List.ext_getElem?
  intro j
  by_cases hj : j = c
  · subst hj
    rw [List.getElem?_set_self (by rw [hd_W_len]; exact hl), hd_W_at h]
  · rw [List.getElem?_set_ne (Ne.symm hj)]
    by_cases hjl : j < sh.length
    · have hs : sh[j]? = some sh[j] := List.getElem?_eq_getElem hjl
      obtain ⟨h1, h2, h3⟩ := ho j hj
      rw [hd_W_at hs, hd_W_at hs, h1, h2, h3]
    · rw [List.getElem?_eq_none (by rw [hd_W_len]; omega), List.getElem?_eq_none (by rw [hd_W_len]; omega)]
theorem hd_W_D {sh : List hd_K} {ad : Nat → Nat} {cA : Nat → ClassId} {S : hd_S} {A : Nat → Prop} (hi : ∀ i j, i < sh.length → j < sh.length → ad i = ad j → i = j) (hA : ∀ c, c < sh.length → A (ad c)) : va_D A (hd_W sh ad cA S) := by
  have key : ∀ (k : Nat) (q : Nat × va_E), (hd_W sh ad cA S)[k]? = some q → k < sh.length ∧ q.1 = ad k := by
    intro k q hk
    have hl : k < sh.length := by
      have := (List.getElem?_eq_some_iff.mp hk).1
      rw [hd_W_len] at this
      exact this
    have hs : sh[k]? = some sh[k] := List.getElem?_eq_getElem hl
    rw [hd_W_at hs] at hk
    cases hk
    exact ⟨hl, rfl⟩
  refine ⟨fun i j x y hx hy hxy => ?_, fun k q hk => ?_⟩
  · obtain ⟨l1, e1⟩ := key i x hx
    obtain ⟨l2, e2⟩ := key j y hy
    exact hi i j l1 l2 (by rw [← e1, ← e2]; exact hxy)
  · obtain ⟨l1, e1⟩ := key k q hk
    rw [e1]
    exact hA k l1
theorem hd_fl_int (ad : Nat → Nat) (f : Nat → Int32) : ∀ (fl : List (Option Nat)) (k0 k : Nat), fl[k]? = some none → (hd_fl ad f k0 fl)[k]? = some (.int (f (k0 + k)))
  | [], _, _, h => by simp at h
  | none :: r, k0, 0, _ => by simp [hd_fl]
  | some t :: r, k0, 0, h => by simp at h
  | none :: r, k0, k + 1, h => by
    have := hd_fl_int ad f r (k0 + 1) k (by simpa using h)
    simp only [hd_fl, List.getElem?_cons_succ]
    rw [this, show k0 + 1 + k = k0 + (k + 1) by omega]
  | some t :: r, k0, k + 1, h => by
    have := hd_fl_int ad f r (k0 + 1) k (by simpa using h)
    simp only [hd_fl, List.getElem?_cons_succ]
    rw [this, show k0 + 1 + k = k0 + (k + 1) by omega]
theorem hd_fl_ref (ad : Nat → Nat) (f : Nat → Int32) : ∀ (fl : List (Option Nat)) (k0 k t : Nat), fl[k]? = some (some t) → (hd_fl ad f k0 fl)[k]? = some (.ref (ad t))
  | [], _, _, _, h => by simp at h
  | none :: r, k0, 0, _, h => by simp at h
  | some t :: r, k0, 0, u, h => by
    simp at h
    subst h
    simp [hd_fl]
  | none :: r, k0, k + 1, t, h => by
    simp only [hd_fl, List.getElem?_cons_succ]
    exact hd_fl_ref ad f r (k0 + 1) k t (by simpa using h)
  | some u :: r, k0, k + 1, t, h => by
    simp only [hd_fl, List.getElem?_cons_succ]
    exact hd_fl_ref ad f r (k0 + 1) k t (by simpa using h)
theorem hd_fl_cong (ad : Nat → Nat) (f g : Nat → Int32) : ∀ (fl : List (Option Nat)) (k0 : Nat), (∀ j, k0 ≤ j → f j = g j) → hd_fl ad f k0 fl = hd_fl ad g k0 fl
  | [], _, _ => rfl
  | none :: r, k0, h => by
    simp only [hd_fl]
    rw [h k0 (Nat.le_refl _), hd_fl_cong ad f g r (k0 + 1) (fun j hj => h j (by omega))]
  | some t :: r, k0, h => by
    simp only [hd_fl]
    rw [hd_fl_cong ad f g r (k0 + 1) (fun j hj => h j (by omega))]
theorem hd_fl_set (ad : Nat → Nat) (f : Nat → Int32) (v : Int32) : ∀ (fl : List (Option Nat)) (k0 k : Nat), fl[k]? = some none → (hd_fl ad f k0 fl).set k (.int v) = hd_fl ad (upd f (k0 + k) v) k0 fl
  | [], _, _, h => by simp at h
  | none :: r, k0, 0, _ => by
    simp only [hd_fl, List.set_cons_zero, Nat.add_zero]
    rw [hd_fl_cong ad f (upd f k0 v) r (k0 + 1) (fun j hj => by simp [upd, show ¬ j = k0 by omega])]
    simp [upd]
  | some t :: r, k0, 0, h => by simp at h
  | none :: r, k0, k + 1, h => by
    have := hd_fl_set ad f v r (k0 + 1) k (by simpa using h)
    simp only [hd_fl, List.set_cons_succ]
    rw [this, show k0 + 1 + k = k0 + (k + 1) by omega]
    simp [upd]
  | some t :: r, k0, k + 1, h => by
    have := hd_fl_set ad f v r (k0 + 1) k (by simpa using h)
    simp only [hd_fl, List.set_cons_succ]
    rw [this, show k0 + 1 + k = k0 + (k + 1) by omega]
theorem hd_fl_len (ad : Nat → Nat) (f : Nat → Int32) : ∀ (fl : List (Option Nat)) (k0 : Nat), (hd_fl ad f k0 fl).length = fl.length
  | [], _ => rfl
  | none :: r, k0 => by simp [hd_fl, hd_fl_len ad f r]
  | some t :: r, k0 => by simp [hd_fl, hd_fl_len ad f r]
/-- the locals -/
def hd_get : List hd_V → Nat → hd_V
  | [], _ => hd_vN
  | x :: _, 0 => x
  | _ :: r, k + 1 => hd_get r k
/-- a long's first half dies when its second is written -/
def hd_cut (x : hd_V) : hd_V := if hd_wide x then hd_vN else x
def hd_st : List hd_V → Nat → hd_V → List hd_V
  | [], _, _ => []
  | _ :: r, 0, v => v :: r
  | x :: r, 1, v => hd_cut x :: (match r with | [] => [] | _ :: r' => v :: r')
  | x :: r, k + 2, v => x :: hd_st r (k + 1) v
/-- a long is stored: its place and the next -/
def hd_stW (ρ : List hd_V) (i : Nat) (v : hd_V) : List hd_V := (hd_st ρ i v).set (i + 1) hd_vN
def hd_L (ad : Nat → Nat) (ls : Array Slot) (nL : Nat) (ρ : List hd_V) : Prop := ls.size = nL ∧ lv_wf ls ∧ ∀ k : Nat, hd_on (hd_get ρ k) = true → ls[k]? = some (.val (hd_val ad (hd_get ρ k)))
theorem hd_get_set : ∀ (ρ : List hd_V) (i k : Nat) (v : hd_V), hd_on (hd_get (ρ.set i v) k) = true → (k = i ∧ hd_get (ρ.set i v) k = v) ∨ (k ≠ i ∧ hd_get (ρ.set i v) k = hd_get ρ k)
  | [], i, k, v, h => by simp [hd_get, hd_on] at h
  | x :: r, 0, 0, v, h => by simp [hd_get]
  | x :: r, 0, k + 1, v, h => by simp [hd_get]
  | x :: r, i + 1, 0, v, h => by simp [hd_get]
  | x :: r, i + 1, k + 1, v, h => by
    have := hd_get_set r i k v (by simpa [hd_get] using h)
    rcases this with ⟨h1, h2⟩ | ⟨h1, h2⟩
    · exact Or.inl ⟨by omega, by simpa [hd_get] using h2⟩
    · exact Or.inr ⟨by omega, by simpa [hd_get] using h2⟩
theorem hd_get_st : ∀ (ρ : List hd_V) (i k : Nat) (v : hd_V), hd_on (hd_get (hd_st ρ i v) k) = true → (k = i ∧ hd_get (hd_st ρ i v) k = v) ∨ (k ≠ i ∧ hd_get (hd_st ρ i v) k = hd_get ρ k ∧ ¬ (k + 1 = i ∧ hd_wide (hd_get ρ k) = true))
  | [], i, k, v, h => by simp [hd_st, hd_get, hd_on] at h
  | x :: r, 0, 0, v, h => by simp [hd_st, hd_get]
  | x :: r, 0, k + 1, v, h => by
    right
    exact ⟨by omega, by simp [hd_st, hd_get], by omega⟩
  | x :: r, 1, 0, v, h => by
    right
    simp only [hd_st, hd_get] at h ⊢
    by_cases hw : hd_wide x = true
    · simp [hd_cut, hw, hd_on] at h
    · exact ⟨by omega, by simp [hd_cut, hw], by simp [hw]⟩
  | [x], 1, 1, v, h => by simp [hd_st, hd_get, hd_on] at h
  | x :: y :: r, 1, 1, v, h => by simp [hd_st, hd_get]
  | [x], 1, k + 2, v, h => by simp [hd_st, hd_get, hd_on] at h
  | x :: y :: r, 1, k + 2, v, h => by
    right
    exact ⟨by omega, by simp [hd_st, hd_get], by omega⟩
  | x :: r, i + 2, 0, v, h => by
    right
    exact ⟨by omega, by simp [hd_st, hd_get], by omega⟩
  | x :: r, i + 2, k + 1, v, h => by
    have := hd_get_st r (i + 1) k v (by simpa [hd_st, hd_get] using h)
    rcases this with ⟨h1, h2⟩ | ⟨h1, h2, h3⟩
    · exact Or.inl ⟨by omega, by simpa [hd_st, hd_get] using h2⟩
    · exact Or.inr ⟨by omega, by simpa [hd_st, hd_get] using h2, by simpa [hd_get] using h3⟩
theorem hd_wide_cat (ad : Nat → Nat) (v : hd_V) : (hd_val ad v).category = 2 ↔ hd_wide v = true := by
  rcases v with x | x | x | x <;> simp [hd_val, hd_wide, Value.category]
/-- the pairs of the locals that are set -/
def hd_prs (ad : Nat → Nat) (ρ : List hd_V) : List (Nat × Value) := (List.range ρ.length).filterMap (fun k => if hd_on (hd_get ρ k) then some (k, hd_val ad (hd_get ρ k)) else none)
theorem hd_get_out : ∀ (ρ : List hd_V) (k : Nat), ρ.length ≤ k → hd_get ρ k = hd_vN
  | [], _, _ => rfl
  | x :: r, 0, h => by simp at h
  | x :: r, k + 1, h => by
    simp only [hd_get]
    exact hd_get_out r k (by simpa using h)
theorem hd_prs_in {ad : Nat → Nat} {ρ : List hd_V} {k : Nat} (h : hd_on (hd_get ρ k) = true) : (k, hd_val ad (hd_get ρ k)) ∈ hd_prs ad ρ := by
  have hl : k < ρ.length := by
    rcases Nat.lt_or_ge k ρ.length with q | q
    · exact q
    · rw [hd_get_out ρ k q] at h
      simp [hd_on] at h
  unfold hd_prs
  exact List.mem_filterMap.mpr ⟨k, List.mem_range.mpr hl, by simp [h]⟩
theorem hd_prs_of {ad : Nat → Nat} {ls : Array Slot} {nL : Nat} {ρ : List hd_V} (h : hd_L ad ls nL ρ) : lv_has ls nL (hd_prs ad ρ) := by
  refine ⟨h.1, h.2.1, fun q hq => ?_⟩
  obtain ⟨k, -, hk⟩ := List.mem_filterMap.mp hq
  by_cases ho : hd_on (hd_get ρ k) = true
  · simp [ho] at hk
    subst hk
    exact h.2.2 k ho
  · simp [ho] at hk
theorem hd_L_st {ad : Nat → Nat} {ls : Array Slot} {nL : Nat} {ρ : List hd_V} {i : Nat} {v : hd_V} {l : List (Nat × Value)} (hle : l = hd_prs ad ρ) (h : lv_has ls nL ((i, hd_val ad v) :: l.filter (fun q => !(q.1 == i) && !(q.1 + 1 == i && q.2.category == 2)))) : hd_L ad ls nL (hd_st ρ i v) := by
  subst hle
  refine ⟨h.1, h.2.1, fun k hk => ?_⟩
  rcases hd_get_st ρ i k v hk with ⟨h1, h2⟩ | ⟨h1, h2, h3⟩
  · subst h1
    rw [h2]
    exact h.2.2 (k, hd_val ad v) List.mem_cons_self
  · rw [h2] at hk ⊢
    refine h.2.2 (k, hd_val ad (hd_get ρ k)) (List.mem_cons_of_mem _ (List.mem_filter.mpr ⟨hd_prs_in hk, ?_⟩))
    have hc : ((hd_val ad (hd_get ρ k)).category == 2) = hd_wide (hd_get ρ k) := by
      rw [Bool.eq_iff_iff, beq_iff_eq]
      exact hd_wide_cat ad _
    simp only [hc]
    by_cases h4 : k + 1 = i
    · have : hd_wide (hd_get ρ k) = false := by
        cases hw : hd_wide (hd_get ρ k) with
        | false => rfl
        | true => exact absurd ⟨h4, hw⟩ h3
      simp [h1, this]
    · simp [h1, h4]
theorem hd_L_stW {ad : Nat → Nat} {ls : Array Slot} {nL : Nat} {ρ : List hd_V} {i : Nat} {v : hd_V} {l : List (Nat × Value)} (hle : l = hd_prs ad ρ) (h : lv_has ls nL ((i, hd_val ad v) :: l.filter (fun q => !(q.1 == i) && (!(q.1 == i + 1) && !(q.1 + 1 == i && q.2.category == 2))))) : hd_L ad ls nL (hd_stW ρ i v) := by
  subst hle
  refine ⟨h.1, h.2.1, fun k hk => ?_⟩
  rcases hd_get_set _ _ k _ hk with ⟨h1, h2⟩ | ⟨h1, h2⟩
  · unfold hd_stW at hk
    rw [h2] at hk
    simp [hd_on] at hk
  · unfold hd_stW at hk ⊢
    rw [h2] at hk ⊢
    rcases hd_get_st ρ i k v hk with ⟨g1, g2⟩ | ⟨g1, g2, g3⟩
    · subst g1
      rw [g2]
      exact h.2.2 (k, hd_val ad v) List.mem_cons_self
    · rw [g2] at hk ⊢
      refine h.2.2 (k, hd_val ad (hd_get ρ k)) (List.mem_cons_of_mem _ (List.mem_filter.mpr ⟨hd_prs_in hk, ?_⟩))
      have hc : ((hd_val ad (hd_get ρ k)).category == 2) = hd_wide (hd_get ρ k) := by
        rw [Bool.eq_iff_iff, beq_iff_eq]
        exact hd_wide_cat ad _
      simp only [hc]
      by_cases h4 : k + 1 = i
      · have : hd_wide (hd_get ρ k) = false := by
          cases hw : hd_wide (hd_get ρ k) with
          | false => rfl
          | true => exact absurd ⟨h4, hw⟩ g3
        simp [g1, h1, this]
      · simp [g1, h1, h4]
/-- a method's first locals: its arguments (a long takes two places), then unset ones -/
def hd_args : List hd_V → List hd_V
  | [] => []
  | v :: r => if hd_wide v then v :: hd_vN :: hd_args r else v :: hd_args r
def hd_rho0 (n : Nat) (as : List hd_V) : List hd_V := hd_args as ++ List.replicate (n - (hd_args as).length) hd_vN
/-- what is written -/
def hd_wI (S : hd_S) (c i : Nat) (v : Int32) : hd_S := (va_up S.1 c (upd (S.1 c) i v), S.2.1, S.2.2)
def hd_wL (S : hd_S) (c i : Nat) (v : Int64) : hd_S := (S.1, va_up S.2.1 c (vp_updL (S.2.1 c) i v), S.2.2)
def hd_wR (S : hd_S) (c i : Nat) (v : Nat) : hd_S := (S.1, S.2.1, va_up S.2.2 c (va_up (S.2.2 c) i v))
/-- a whole row is written -/
def hd_rowI (S : hd_S) (c : Nat) (f : Nat → Int32) : hd_S := (va_up S.1 c f, S.2.1, S.2.2)
def hd_rowL (S : hd_S) (c : Nat) (f : Nat → Int64) : hd_S := (S.1, va_up S.2.1 c f, S.2.2)

