/-! THE START: the cells as both constructors leave them -/
def hw_ad (b h0 h1 : Nat) (u : hc_T8) (r9 : Nat → Nat) (c : Nat) : Nat := ([h0, u.1 0, u.2.1 0 0, u.2.1 0 1, u.2.1 0 2, u.2.1 0 3, u.2.1 0 4, u.2.1 0 5, u.2.1 0 6, u.2.1 0 7, u.2.2.2.1 0, u.2.2.2.2 0 0, u.2.2.2.2 0 1, u.2.2.2.2 0 2, u.2.2.2.2 0 3, u.2.2.2.2 0 4, u.2.2.2.2 0 5, u.2.2.2.2 0 6, u.2.2.2.2 0 7, u.2.2.2.1 1, u.2.2.2.2 1 0, u.2.2.2.2 1 1, u.2.2.2.2 1 2, u.2.2.2.2 1 3, u.2.2.2.2 1 4, u.2.2.2.2 1 5, u.2.2.2.2 1 6, u.2.2.2.2 1 7, u.2.2.2.1 2, u.2.2.2.2 2 0, u.2.2.2.2 2 1, u.2.2.2.2 2 2, u.2.2.2.2 2 3, u.2.2.2.2 2 4, u.2.2.2.2 2 5, u.2.2.2.2 2 6, u.2.2.2.2 2 7, u.2.2.2.1 3, u.2.2.2.2 3 0, u.2.2.2.2 3 1, u.2.2.2.2 3 2, u.2.2.2.2 3 3, u.2.2.2.2 3 4, u.2.2.2.2 3 5, u.2.2.2.2 3 6, u.2.2.2.2 3 7, u.2.2.2.1 4, u.2.2.2.2 4 0, u.2.2.2.2 4 1, u.2.2.2.2 4 2, u.2.2.2.2 4 3, u.2.2.2.2 4 4, u.2.2.2.2 4 5, u.2.2.2.2 4 6, u.2.2.2.2 4 7, u.2.2.2.1 5, u.2.2.2.2 5 0, u.2.2.2.2 5 1, u.2.2.2.2 5 2, u.2.2.2.2 5 3, u.2.2.2.2 5 4, u.2.2.2.2 5 5, u.2.2.2.2 5 6, u.2.2.2.2 5 7, u.2.2.2.1 6, u.2.2.2.2 6 0, u.2.2.2.2 6 1, u.2.2.2.2 6 2, u.2.2.2.2 6 3, u.2.2.2.2 6 4, u.2.2.2.2 6 5, u.2.2.2.2 6 6, u.2.2.2.2 6 7, u.2.2.2.1 7, u.2.2.2.2 7 0, u.2.2.2.2 7 1, u.2.2.2.2 7 2, u.2.2.2.2 7 3, u.2.2.2.2 7 4, u.2.2.2.2 7 5, u.2.2.2.2 7 6, u.2.2.2.2 7 7, u.1 1, u.2.2.1, u.1 2, u.2.1 2 0, u.2.1 2 1, u.2.1 2 2, u.1 3, u.2.1 3 0, u.2.1 3 1, u.2.1 3 2, u.2.1 3 3, u.2.1 3 4, u.2.1 3 5, u.2.1 3 1 + 1 + 0, u.2.1 3 1 + 1 + 1, u.2.1 3 1 + 1 + 2, u.2.1 3 1 + 1 + 3, u.2.1 3 1 + 1 + 4, u.2.1 3 1 + 1 + 5, u.2.1 3 1 + 1 + 6, u.2.1 3 1 + 1 + 7, u.1 4, u.2.1 4 0, u.1 5, u.2.1 5 0, u.2.1 5 1, u.1 6, u.2.1 6 0, u.2.1 6 1, u.1 7, u.2.1 7 0, h1, r9 0, r9 1, r9 2, r9 3, r9 4, r9 5, r9 6, r9 7, r9 8, r9 9, r9 10, r9 11, r9 12, r9 13, r9 14, r9 15, b] : List Nat).getD c 0
def hw_pos (c : Nat) : Nat := ([0, 1, 2, 3, 4, 5, 6, 7, 8, 9, 12, 13, 14, 15, 16, 17, 18, 19, 20, 21, 22, 23, 24, 25, 26, 27, 28, 29, 30, 31, 32, 33, 34, 35, 36, 37, 38, 39, 40, 41, 42, 43, 44, 45, 46, 47, 48, 49, 50, 51, 52, 53, 54, 55, 56, 57, 58, 59, 60, 61, 62, 63, 64, 65, 66, 67, 68, 69, 70, 71, 72, 73, 74, 75, 76, 77, 78, 79, 80, 81, 82, 83, 10, 11, 84, 85, 86, 87, 88, 89, 90, 99, 100, 101, 102, 91, 92, 93, 94, 95, 96, 97, 98, 103, 104, 105, 106, 107, 108, 109, 110, 111, 112, 113, 114, 115, 116, 117, 118, 119, 120, 121, 122, 123, 124, 125, 126, 127, 128, 129] : List Nat).getD c 0
def hw_ws (cA : Nat → ClassId) (h0 h1 : Nat) (u : hc_T8) (r9 : Nat → Nat) : va_W := cg_X8 cA h0 u ++ cg_X9 cA h1 r9
def hw_S : hd_S := (fun c => if c = 84 then (fun k => if k = 4 then 1 else 0) else if c = 88 then (fun k => if k = 8 then -1 else if k = 9 then 1 else 0) else if c = 108 then (fun k => if k = 4 then 1 else 0) else fun _ => 0, fun _ _ => 0, fun c => if c = 83 then (fun i => 10 + 9 * i) else if c = 90 then (fun i => 95 + i) else fun _ => 0)
theorem hw_pos_inj : ∀ i, i < 130 → ∀ j, j < 130 → hw_pos i = hw_pos j → i = j := by decide +kernel
theorem hw_refs {D : va_G} {cl : List vw_C} {a n : Nat} {c : ClassId} {f g : Nat → Option Nat} {H : Heap} (hfg : ∀ j, j < n → f j = g j) (h : va_at D cl (a, .inl (c, n, .inr (.inr (.inr (.inr f))))) H) : va_at D cl (a, .inl (c, n, .inr (.inr (.inr (.inr g))))) H := by
  have e : vp_cell c (n, .inr (.inr (.inr (.inr f)))) = vp_cell c (n, .inr (.inr (.inr (.inr g)))) := by
    rw [vp_cell_q, vp_cell_q]
    unfold arrV
    have e9 : (fun j : Fin n => va_rf (f j.val)) = (fun j : Fin n => va_rf (g j.val)) := by
      funext j
      rw [hfg j.val j.isLt]
    rw [e9]
  have h : H[a]? = some (vp_cell c (n, .inr (.inr (.inr (.inr f))))) := h
  show H[a]? = some (vp_cell c (n, .inr (.inr (.inr (.inr g)))))
  rw [h, e]
def hw_alls (P : Nat → Prop) : Nat → Prop
  | 0 => True
  | n + 1 => hw_alls P n ∧ P n
theorem hw_all {P : Nat → Prop} : ∀ {n : Nat}, hw_alls P n → ∀ c, c < n → P c
  | 0, _, c, hc => absurd hc (Nat.not_lt_zero c)
  | n + 1, h, c, hc => by
    by_cases e : c = n
    · rw [e]
      exact h.2
    · exact hw_all h.1 c (by omega)
def hw_E (cA : Nat → ClassId) (b h0 h1 : Nat) (u : hc_T8) (r9 : Nat → Nat) (c : Nat) : va_E := hd_E (hw_ad b h0 h1 u r9) cA (hw_S.1 c) (hw_S.2.1 c) (hw_S.2.2 c) (hs_sh.getD c (.inr (0, 0)))
def hw_P (D : va_G) (cA : Nat → ClassId) (b h0 h1 : Nat) (u : hc_T8) (r9 : Nat → Nat) (c : Nat) : Prop := ∃ e, (hw_ws cA h0 h1 u r9)[hw_pos c]? = some (hw_ad b h0 h1 u r9 c, e) ∧ ∀ H, va_at D vwCl (hw_ad b h0 h1 u r9 c, e) H → va_at D vwCl (hw_ad b h0 h1 u r9 c, hw_E cA b h0 h1 u r9 c) H
section HWC
variable {D : va_G} {cA : Nat → ClassId} {b h0 h1 : Nat} {u : hc_T8} {r9 : Nat → Nat}
theorem hw_l {X Y : va_W} {k : Nat} {q : Nat × va_E} (h : X[k]? = some q) : (X ++ Y)[k]? = some q := by
  have hk := (List.getElem?_eq_some_iff.mp h).1
  rw [List.getElem?_append_left hk]
  exact h
theorem hw_r {X Y : va_W} {L i : Nat} {q : Nat × va_E} (hX : X.length = L) (h : Y[i]? = some q) : (X ++ Y)[L + i]? = some q := by
  rw [List.getElem?_append_right (by omega), hX, Nat.add_sub_cancel_left]
  exact h
theorem hw_pl {g : Nat → Nat} {r : Nat → Nat → Nat} : ∀ {n j i : Nat} {q : Nat × va_E}, j < n → (cg_X5 cA (g j) (r j))[i]? = some q → (hc_pl cA g r n)[9 * j + i]? = some q
  | 0, j, i, q, hj, _ => absurd hj (Nat.not_lt_zero j)
  | n + 1, j, i, q, hj, h => by
    simp only [hc_pl]
    by_cases e : j = n
    · subst e
      exact hw_r (hc_pl_len cA g r j) h
    · exact hw_l (hw_pl (by omega) h)
theorem hw_n1 : ([(h0, .inr (8, [.ref (u.1 0), .ref (u.1 1), .ref (u.1 2), .ref (u.1 3), .ref (u.1 4), .ref (u.1 5), .ref (u.1 6), .ref (u.1 7), .int 0]))] : va_W).length = 1 := rfl
theorem hw_n2 : (([(h0, .inr (8, [.ref (u.1 0), .ref (u.1 1), .ref (u.1 2), .ref (u.1 3), .ref (u.1 4), .ref (u.1 5), .ref (u.1 6), .ref (u.1 7), .int 0]))] ++ cg_X5 cA (u.1 0) (u.2.1 0)) : va_W).length = 10 := by
  rw [List.length_append, hw_n1, show (cg_X5 cA (u.1 0) (u.2.1 0) : va_W).length = 9 from rfl]
theorem hw_n3 : ((([(h0, .inr (8, [.ref (u.1 0), .ref (u.1 1), .ref (u.1 2), .ref (u.1 3), .ref (u.1 4), .ref (u.1 5), .ref (u.1 6), .ref (u.1 7), .int 0]))] ++ cg_X5 cA (u.1 0) (u.2.1 0)) ++ cg_X4 cA (u.1 1) u.2.2) : va_W).length = 84 := by
  rw [List.length_append, hw_n2, show (cg_X4 cA (u.1 1) u.2.2 : va_W).length = 74 from (by unfold cg_X4 cg_X4i; rw [List.length_append, hc_pl_len]; rfl)]
theorem hw_n4 : (((([(h0, .inr (8, [.ref (u.1 0), .ref (u.1 1), .ref (u.1 2), .ref (u.1 3), .ref (u.1 4), .ref (u.1 5), .ref (u.1 6), .ref (u.1 7), .int 0]))] ++ cg_X5 cA (u.1 0) (u.2.1 0)) ++ cg_X4 cA (u.1 1) u.2.2) ++ cg_X6 cA (u.1 2) (u.1 0) (u.2.1 2)) : va_W).length = 88 := by
  rw [List.length_append, hw_n3, show (cg_X6 cA (u.1 2) (u.1 0) (u.2.1 2) : va_W).length = 4 from rfl]
theorem hw_n5 : ((((([(h0, .inr (8, [.ref (u.1 0), .ref (u.1 1), .ref (u.1 2), .ref (u.1 3), .ref (u.1 4), .ref (u.1 5), .ref (u.1 6), .ref (u.1 7), .int 0]))] ++ cg_X5 cA (u.1 0) (u.2.1 0)) ++ cg_X4 cA (u.1 1) u.2.2) ++ cg_X6 cA (u.1 2) (u.1 0) (u.2.1 2)) ++ cg_X7 cA (u.1 3) (u.1 0) (u.1 2) (u.2.1 3)) : va_W).length = 103 := by
  rw [List.length_append, hw_n4, show (cg_X7 cA (u.1 3) (u.1 0) (u.1 2) (u.2.1 3) : va_W).length = 15 from rfl]
theorem hw_n6 : (((((([(h0, .inr (8, [.ref (u.1 0), .ref (u.1 1), .ref (u.1 2), .ref (u.1 3), .ref (u.1 4), .ref (u.1 5), .ref (u.1 6), .ref (u.1 7), .int 0]))] ++ cg_X5 cA (u.1 0) (u.2.1 0)) ++ cg_X4 cA (u.1 1) u.2.2) ++ cg_X6 cA (u.1 2) (u.1 0) (u.2.1 2)) ++ cg_X7 cA (u.1 3) (u.1 0) (u.1 2) (u.2.1 3)) ++ cg_X1 cA (u.1 4) (u.1 0) (u.1 2) (u.1 3) (u.2.1 4)) : va_W).length = 105 := by
  rw [List.length_append, hw_n5, show (cg_X1 cA (u.1 4) (u.1 0) (u.1 2) (u.1 3) (u.2.1 4) : va_W).length = 2 from rfl]
theorem hw_n7 : ((((((([(h0, .inr (8, [.ref (u.1 0), .ref (u.1 1), .ref (u.1 2), .ref (u.1 3), .ref (u.1 4), .ref (u.1 5), .ref (u.1 6), .ref (u.1 7), .int 0]))] ++ cg_X5 cA (u.1 0) (u.2.1 0)) ++ cg_X4 cA (u.1 1) u.2.2) ++ cg_X6 cA (u.1 2) (u.1 0) (u.2.1 2)) ++ cg_X7 cA (u.1 3) (u.1 0) (u.1 2) (u.2.1 3)) ++ cg_X1 cA (u.1 4) (u.1 0) (u.1 2) (u.1 3) (u.2.1 4)) ++ cg_X0 cA (u.1 5) (u.1 0) (u.2.1 5)) : va_W).length = 108 := by
  rw [List.length_append, hw_n6, show (cg_X0 cA (u.1 5) (u.1 0) (u.2.1 5) : va_W).length = 3 from rfl]
theorem hw_n8 : (((((((([(h0, .inr (8, [.ref (u.1 0), .ref (u.1 1), .ref (u.1 2), .ref (u.1 3), .ref (u.1 4), .ref (u.1 5), .ref (u.1 6), .ref (u.1 7), .int 0]))] ++ cg_X5 cA (u.1 0) (u.2.1 0)) ++ cg_X4 cA (u.1 1) u.2.2) ++ cg_X6 cA (u.1 2) (u.1 0) (u.2.1 2)) ++ cg_X7 cA (u.1 3) (u.1 0) (u.1 2) (u.2.1 3)) ++ cg_X1 cA (u.1 4) (u.1 0) (u.1 2) (u.1 3) (u.2.1 4)) ++ cg_X0 cA (u.1 5) (u.1 0) (u.2.1 5)) ++ cg_X2 cA (u.1 6) (u.1 0) (u.1 2) (u.2.1 6)) : va_W).length = 111 := by
  rw [List.length_append, hw_n7, show (cg_X2 cA (u.1 6) (u.1 0) (u.1 2) (u.2.1 6) : va_W).length = 3 from rfl]
theorem hw_n9 : ((((((((([(h0, .inr (8, [.ref (u.1 0), .ref (u.1 1), .ref (u.1 2), .ref (u.1 3), .ref (u.1 4), .ref (u.1 5), .ref (u.1 6), .ref (u.1 7), .int 0]))] ++ cg_X5 cA (u.1 0) (u.2.1 0)) ++ cg_X4 cA (u.1 1) u.2.2) ++ cg_X6 cA (u.1 2) (u.1 0) (u.2.1 2)) ++ cg_X7 cA (u.1 3) (u.1 0) (u.1 2) (u.2.1 3)) ++ cg_X1 cA (u.1 4) (u.1 0) (u.1 2) (u.1 3) (u.2.1 4)) ++ cg_X0 cA (u.1 5) (u.1 0) (u.2.1 5)) ++ cg_X2 cA (u.1 6) (u.1 0) (u.1 2) (u.2.1 6)) ++ cg_X3 cA (u.1 7) (u.1 0) (u.2.1 7)) : va_W).length = 113 := by
  rw [List.length_append, hw_n8, show (cg_X3 cA (u.1 7) (u.1 0) (u.2.1 7) : va_W).length = 2 from rfl]
set_option maxRecDepth 100000 in
theorem hw_0 : hw_P D cA b h0 h1 u r9 0 := ⟨_, (hw_l (hw_l (hw_l (hw_l (hw_l (hw_l (hw_l (hw_l (hw_l rfl))))))))), fun _ h => h⟩
set_option maxRecDepth 100000 in
theorem hw_1 : hw_P D cA b h0 h1 u r9 1 := ⟨_, (hw_l (hw_l (hw_l (hw_l (hw_l (hw_l (hw_l (hw_l (hw_r (L := 1) (i := 0) hw_n1 rfl))))))))), fun _ h => h⟩
set_option maxRecDepth 100000 in
theorem hw_2 : hw_P D cA b h0 h1 u r9 2 := ⟨_, (hw_l (hw_l (hw_l (hw_l (hw_l (hw_l (hw_l (hw_l (hw_r (L := 1) (i := 1) hw_n1 rfl))))))))), fun _ h => h⟩
set_option maxRecDepth 100000 in
theorem hw_3 : hw_P D cA b h0 h1 u r9 3 := ⟨_, (hw_l (hw_l (hw_l (hw_l (hw_l (hw_l (hw_l (hw_l (hw_r (L := 1) (i := 2) hw_n1 rfl))))))))), fun _ h => h⟩
set_option maxRecDepth 100000 in
theorem hw_4 : hw_P D cA b h0 h1 u r9 4 := ⟨_, (hw_l (hw_l (hw_l (hw_l (hw_l (hw_l (hw_l (hw_l (hw_r (L := 1) (i := 3) hw_n1 rfl))))))))), fun _ h => h⟩
set_option maxRecDepth 100000 in
theorem hw_5 : hw_P D cA b h0 h1 u r9 5 := ⟨_, (hw_l (hw_l (hw_l (hw_l (hw_l (hw_l (hw_l (hw_l (hw_r (L := 1) (i := 4) hw_n1 rfl))))))))), fun _ h => h⟩
set_option maxRecDepth 100000 in
theorem hw_6 : hw_P D cA b h0 h1 u r9 6 := ⟨_, (hw_l (hw_l (hw_l (hw_l (hw_l (hw_l (hw_l (hw_l (hw_r (L := 1) (i := 5) hw_n1 rfl))))))))), fun _ h => h⟩
set_option maxRecDepth 100000 in
theorem hw_7 : hw_P D cA b h0 h1 u r9 7 := ⟨_, (hw_l (hw_l (hw_l (hw_l (hw_l (hw_l (hw_l (hw_l (hw_r (L := 1) (i := 6) hw_n1 rfl))))))))), fun _ h => h⟩
set_option maxRecDepth 100000 in
theorem hw_8 : hw_P D cA b h0 h1 u r9 8 := ⟨_, (hw_l (hw_l (hw_l (hw_l (hw_l (hw_l (hw_l (hw_l (hw_r (L := 1) (i := 7) hw_n1 rfl))))))))), fun _ h => h⟩
set_option maxRecDepth 100000 in
theorem hw_9 : hw_P D cA b h0 h1 u r9 9 := ⟨_, (hw_l (hw_l (hw_l (hw_l (hw_l (hw_l (hw_l (hw_l (hw_r (L := 1) (i := 8) hw_n1 rfl))))))))), fun _ h => h⟩
set_option maxRecDepth 100000 in
theorem hw_10 : hw_P D cA b h0 h1 u r9 10 := ⟨_, (hw_l (hw_l (hw_l (hw_l (hw_l (hw_l (hw_l (hw_r (L := 10) (i := 2) hw_n2 (hw_r (L := 2) rfl (hw_pl (j := 0) (i := 0) (by decide) rfl)))))))))), fun _ h => h⟩
set_option maxRecDepth 100000 in
theorem hw_11 : hw_P D cA b h0 h1 u r9 11 := ⟨_, (hw_l (hw_l (hw_l (hw_l (hw_l (hw_l (hw_l (hw_r (L := 10) (i := 3) hw_n2 (hw_r (L := 2) rfl (hw_pl (j := 0) (i := 1) (by decide) rfl)))))))))), fun _ h => h⟩
set_option maxRecDepth 100000 in
theorem hw_12 : hw_P D cA b h0 h1 u r9 12 := ⟨_, (hw_l (hw_l (hw_l (hw_l (hw_l (hw_l (hw_l (hw_r (L := 10) (i := 4) hw_n2 (hw_r (L := 2) rfl (hw_pl (j := 0) (i := 2) (by decide) rfl)))))))))), fun _ h => h⟩
set_option maxRecDepth 100000 in
theorem hw_13 : hw_P D cA b h0 h1 u r9 13 := ⟨_, (hw_l (hw_l (hw_l (hw_l (hw_l (hw_l (hw_l (hw_r (L := 10) (i := 5) hw_n2 (hw_r (L := 2) rfl (hw_pl (j := 0) (i := 3) (by decide) rfl)))))))))), fun _ h => h⟩
set_option maxRecDepth 100000 in
theorem hw_14 : hw_P D cA b h0 h1 u r9 14 := ⟨_, (hw_l (hw_l (hw_l (hw_l (hw_l (hw_l (hw_l (hw_r (L := 10) (i := 6) hw_n2 (hw_r (L := 2) rfl (hw_pl (j := 0) (i := 4) (by decide) rfl)))))))))), fun _ h => h⟩
set_option maxRecDepth 100000 in
theorem hw_15 : hw_P D cA b h0 h1 u r9 15 := ⟨_, (hw_l (hw_l (hw_l (hw_l (hw_l (hw_l (hw_l (hw_r (L := 10) (i := 7) hw_n2 (hw_r (L := 2) rfl (hw_pl (j := 0) (i := 5) (by decide) rfl)))))))))), fun _ h => h⟩
set_option maxRecDepth 100000 in
theorem hw_16 : hw_P D cA b h0 h1 u r9 16 := ⟨_, (hw_l (hw_l (hw_l (hw_l (hw_l (hw_l (hw_l (hw_r (L := 10) (i := 8) hw_n2 (hw_r (L := 2) rfl (hw_pl (j := 0) (i := 6) (by decide) rfl)))))))))), fun _ h => h⟩
set_option maxRecDepth 100000 in
theorem hw_17 : hw_P D cA b h0 h1 u r9 17 := ⟨_, (hw_l (hw_l (hw_l (hw_l (hw_l (hw_l (hw_l (hw_r (L := 10) (i := 9) hw_n2 (hw_r (L := 2) rfl (hw_pl (j := 0) (i := 7) (by decide) rfl)))))))))), fun _ h => h⟩
set_option maxRecDepth 100000 in
theorem hw_18 : hw_P D cA b h0 h1 u r9 18 := ⟨_, (hw_l (hw_l (hw_l (hw_l (hw_l (hw_l (hw_l (hw_r (L := 10) (i := 10) hw_n2 (hw_r (L := 2) rfl (hw_pl (j := 0) (i := 8) (by decide) rfl)))))))))), fun _ h => h⟩
set_option maxRecDepth 100000 in
theorem hw_19 : hw_P D cA b h0 h1 u r9 19 := ⟨_, (hw_l (hw_l (hw_l (hw_l (hw_l (hw_l (hw_l (hw_r (L := 10) (i := 11) hw_n2 (hw_r (L := 2) rfl (hw_pl (j := 1) (i := 0) (by decide) rfl)))))))))), fun _ h => h⟩
set_option maxRecDepth 100000 in
theorem hw_20 : hw_P D cA b h0 h1 u r9 20 := ⟨_, (hw_l (hw_l (hw_l (hw_l (hw_l (hw_l (hw_l (hw_r (L := 10) (i := 12) hw_n2 (hw_r (L := 2) rfl (hw_pl (j := 1) (i := 1) (by decide) rfl)))))))))), fun _ h => h⟩
set_option maxRecDepth 100000 in
theorem hw_21 : hw_P D cA b h0 h1 u r9 21 := ⟨_, (hw_l (hw_l (hw_l (hw_l (hw_l (hw_l (hw_l (hw_r (L := 10) (i := 13) hw_n2 (hw_r (L := 2) rfl (hw_pl (j := 1) (i := 2) (by decide) rfl)))))))))), fun _ h => h⟩
set_option maxRecDepth 100000 in
theorem hw_22 : hw_P D cA b h0 h1 u r9 22 := ⟨_, (hw_l (hw_l (hw_l (hw_l (hw_l (hw_l (hw_l (hw_r (L := 10) (i := 14) hw_n2 (hw_r (L := 2) rfl (hw_pl (j := 1) (i := 3) (by decide) rfl)))))))))), fun _ h => h⟩
set_option maxRecDepth 100000 in
theorem hw_23 : hw_P D cA b h0 h1 u r9 23 := ⟨_, (hw_l (hw_l (hw_l (hw_l (hw_l (hw_l (hw_l (hw_r (L := 10) (i := 15) hw_n2 (hw_r (L := 2) rfl (hw_pl (j := 1) (i := 4) (by decide) rfl)))))))))), fun _ h => h⟩
set_option maxRecDepth 100000 in
theorem hw_24 : hw_P D cA b h0 h1 u r9 24 := ⟨_, (hw_l (hw_l (hw_l (hw_l (hw_l (hw_l (hw_l (hw_r (L := 10) (i := 16) hw_n2 (hw_r (L := 2) rfl (hw_pl (j := 1) (i := 5) (by decide) rfl)))))))))), fun _ h => h⟩
set_option maxRecDepth 100000 in
theorem hw_25 : hw_P D cA b h0 h1 u r9 25 := ⟨_, (hw_l (hw_l (hw_l (hw_l (hw_l (hw_l (hw_l (hw_r (L := 10) (i := 17) hw_n2 (hw_r (L := 2) rfl (hw_pl (j := 1) (i := 6) (by decide) rfl)))))))))), fun _ h => h⟩
set_option maxRecDepth 100000 in
theorem hw_26 : hw_P D cA b h0 h1 u r9 26 := ⟨_, (hw_l (hw_l (hw_l (hw_l (hw_l (hw_l (hw_l (hw_r (L := 10) (i := 18) hw_n2 (hw_r (L := 2) rfl (hw_pl (j := 1) (i := 7) (by decide) rfl)))))))))), fun _ h => h⟩
set_option maxRecDepth 100000 in
theorem hw_27 : hw_P D cA b h0 h1 u r9 27 := ⟨_, (hw_l (hw_l (hw_l (hw_l (hw_l (hw_l (hw_l (hw_r (L := 10) (i := 19) hw_n2 (hw_r (L := 2) rfl (hw_pl (j := 1) (i := 8) (by decide) rfl)))))))))), fun _ h => h⟩
set_option maxRecDepth 100000 in
theorem hw_28 : hw_P D cA b h0 h1 u r9 28 := ⟨_, (hw_l (hw_l (hw_l (hw_l (hw_l (hw_l (hw_l (hw_r (L := 10) (i := 20) hw_n2 (hw_r (L := 2) rfl (hw_pl (j := 2) (i := 0) (by decide) rfl)))))))))), fun _ h => h⟩
set_option maxRecDepth 100000 in
theorem hw_29 : hw_P D cA b h0 h1 u r9 29 := ⟨_, (hw_l (hw_l (hw_l (hw_l (hw_l (hw_l (hw_l (hw_r (L := 10) (i := 21) hw_n2 (hw_r (L := 2) rfl (hw_pl (j := 2) (i := 1) (by decide) rfl)))))))))), fun _ h => h⟩
set_option maxRecDepth 100000 in
theorem hw_30 : hw_P D cA b h0 h1 u r9 30 := ⟨_, (hw_l (hw_l (hw_l (hw_l (hw_l (hw_l (hw_l (hw_r (L := 10) (i := 22) hw_n2 (hw_r (L := 2) rfl (hw_pl (j := 2) (i := 2) (by decide) rfl)))))))))), fun _ h => h⟩
set_option maxRecDepth 100000 in
theorem hw_31 : hw_P D cA b h0 h1 u r9 31 := ⟨_, (hw_l (hw_l (hw_l (hw_l (hw_l (hw_l (hw_l (hw_r (L := 10) (i := 23) hw_n2 (hw_r (L := 2) rfl (hw_pl (j := 2) (i := 3) (by decide) rfl)))))))))), fun _ h => h⟩
set_option maxRecDepth 100000 in
theorem hw_32 : hw_P D cA b h0 h1 u r9 32 := ⟨_, (hw_l (hw_l (hw_l (hw_l (hw_l (hw_l (hw_l (hw_r (L := 10) (i := 24) hw_n2 (hw_r (L := 2) rfl (hw_pl (j := 2) (i := 4) (by decide) rfl)))))))))), fun _ h => h⟩
set_option maxRecDepth 100000 in
theorem hw_33 : hw_P D cA b h0 h1 u r9 33 := ⟨_, (hw_l (hw_l (hw_l (hw_l (hw_l (hw_l (hw_l (hw_r (L := 10) (i := 25) hw_n2 (hw_r (L := 2) rfl (hw_pl (j := 2) (i := 5) (by decide) rfl)))))))))), fun _ h => h⟩
set_option maxRecDepth 100000 in
theorem hw_34 : hw_P D cA b h0 h1 u r9 34 := ⟨_, (hw_l (hw_l (hw_l (hw_l (hw_l (hw_l (hw_l (hw_r (L := 10) (i := 26) hw_n2 (hw_r (L := 2) rfl (hw_pl (j := 2) (i := 6) (by decide) rfl)))))))))), fun _ h => h⟩
set_option maxRecDepth 100000 in
theorem hw_35 : hw_P D cA b h0 h1 u r9 35 := ⟨_, (hw_l (hw_l (hw_l (hw_l (hw_l (hw_l (hw_l (hw_r (L := 10) (i := 27) hw_n2 (hw_r (L := 2) rfl (hw_pl (j := 2) (i := 7) (by decide) rfl)))))))))), fun _ h => h⟩
set_option maxRecDepth 100000 in
theorem hw_36 : hw_P D cA b h0 h1 u r9 36 := ⟨_, (hw_l (hw_l (hw_l (hw_l (hw_l (hw_l (hw_l (hw_r (L := 10) (i := 28) hw_n2 (hw_r (L := 2) rfl (hw_pl (j := 2) (i := 8) (by decide) rfl)))))))))), fun _ h => h⟩
set_option maxRecDepth 100000 in
theorem hw_37 : hw_P D cA b h0 h1 u r9 37 := ⟨_, (hw_l (hw_l (hw_l (hw_l (hw_l (hw_l (hw_l (hw_r (L := 10) (i := 29) hw_n2 (hw_r (L := 2) rfl (hw_pl (j := 3) (i := 0) (by decide) rfl)))))))))), fun _ h => h⟩
set_option maxRecDepth 100000 in
theorem hw_38 : hw_P D cA b h0 h1 u r9 38 := ⟨_, (hw_l (hw_l (hw_l (hw_l (hw_l (hw_l (hw_l (hw_r (L := 10) (i := 30) hw_n2 (hw_r (L := 2) rfl (hw_pl (j := 3) (i := 1) (by decide) rfl)))))))))), fun _ h => h⟩
set_option maxRecDepth 100000 in
theorem hw_39 : hw_P D cA b h0 h1 u r9 39 := ⟨_, (hw_l (hw_l (hw_l (hw_l (hw_l (hw_l (hw_l (hw_r (L := 10) (i := 31) hw_n2 (hw_r (L := 2) rfl (hw_pl (j := 3) (i := 2) (by decide) rfl)))))))))), fun _ h => h⟩
set_option maxRecDepth 100000 in
theorem hw_40 : hw_P D cA b h0 h1 u r9 40 := ⟨_, (hw_l (hw_l (hw_l (hw_l (hw_l (hw_l (hw_l (hw_r (L := 10) (i := 32) hw_n2 (hw_r (L := 2) rfl (hw_pl (j := 3) (i := 3) (by decide) rfl)))))))))), fun _ h => h⟩
set_option maxRecDepth 100000 in
theorem hw_41 : hw_P D cA b h0 h1 u r9 41 := ⟨_, (hw_l (hw_l (hw_l (hw_l (hw_l (hw_l (hw_l (hw_r (L := 10) (i := 33) hw_n2 (hw_r (L := 2) rfl (hw_pl (j := 3) (i := 4) (by decide) rfl)))))))))), fun _ h => h⟩
set_option maxRecDepth 100000 in
theorem hw_42 : hw_P D cA b h0 h1 u r9 42 := ⟨_, (hw_l (hw_l (hw_l (hw_l (hw_l (hw_l (hw_l (hw_r (L := 10) (i := 34) hw_n2 (hw_r (L := 2) rfl (hw_pl (j := 3) (i := 5) (by decide) rfl)))))))))), fun _ h => h⟩
set_option maxRecDepth 100000 in
theorem hw_43 : hw_P D cA b h0 h1 u r9 43 := ⟨_, (hw_l (hw_l (hw_l (hw_l (hw_l (hw_l (hw_l (hw_r (L := 10) (i := 35) hw_n2 (hw_r (L := 2) rfl (hw_pl (j := 3) (i := 6) (by decide) rfl)))))))))), fun _ h => h⟩
set_option maxRecDepth 100000 in
theorem hw_44 : hw_P D cA b h0 h1 u r9 44 := ⟨_, (hw_l (hw_l (hw_l (hw_l (hw_l (hw_l (hw_l (hw_r (L := 10) (i := 36) hw_n2 (hw_r (L := 2) rfl (hw_pl (j := 3) (i := 7) (by decide) rfl)))))))))), fun _ h => h⟩
set_option maxRecDepth 100000 in
theorem hw_45 : hw_P D cA b h0 h1 u r9 45 := ⟨_, (hw_l (hw_l (hw_l (hw_l (hw_l (hw_l (hw_l (hw_r (L := 10) (i := 37) hw_n2 (hw_r (L := 2) rfl (hw_pl (j := 3) (i := 8) (by decide) rfl)))))))))), fun _ h => h⟩
set_option maxRecDepth 100000 in
theorem hw_46 : hw_P D cA b h0 h1 u r9 46 := ⟨_, (hw_l (hw_l (hw_l (hw_l (hw_l (hw_l (hw_l (hw_r (L := 10) (i := 38) hw_n2 (hw_r (L := 2) rfl (hw_pl (j := 4) (i := 0) (by decide) rfl)))))))))), fun _ h => h⟩
set_option maxRecDepth 100000 in
theorem hw_47 : hw_P D cA b h0 h1 u r9 47 := ⟨_, (hw_l (hw_l (hw_l (hw_l (hw_l (hw_l (hw_l (hw_r (L := 10) (i := 39) hw_n2 (hw_r (L := 2) rfl (hw_pl (j := 4) (i := 1) (by decide) rfl)))))))))), fun _ h => h⟩
set_option maxRecDepth 100000 in
theorem hw_48 : hw_P D cA b h0 h1 u r9 48 := ⟨_, (hw_l (hw_l (hw_l (hw_l (hw_l (hw_l (hw_l (hw_r (L := 10) (i := 40) hw_n2 (hw_r (L := 2) rfl (hw_pl (j := 4) (i := 2) (by decide) rfl)))))))))), fun _ h => h⟩
set_option maxRecDepth 100000 in
theorem hw_49 : hw_P D cA b h0 h1 u r9 49 := ⟨_, (hw_l (hw_l (hw_l (hw_l (hw_l (hw_l (hw_l (hw_r (L := 10) (i := 41) hw_n2 (hw_r (L := 2) rfl (hw_pl (j := 4) (i := 3) (by decide) rfl)))))))))), fun _ h => h⟩
set_option maxRecDepth 100000 in
theorem hw_50 : hw_P D cA b h0 h1 u r9 50 := ⟨_, (hw_l (hw_l (hw_l (hw_l (hw_l (hw_l (hw_l (hw_r (L := 10) (i := 42) hw_n2 (hw_r (L := 2) rfl (hw_pl (j := 4) (i := 4) (by decide) rfl)))))))))), fun _ h => h⟩
set_option maxRecDepth 100000 in
theorem hw_51 : hw_P D cA b h0 h1 u r9 51 := ⟨_, (hw_l (hw_l (hw_l (hw_l (hw_l (hw_l (hw_l (hw_r (L := 10) (i := 43) hw_n2 (hw_r (L := 2) rfl (hw_pl (j := 4) (i := 5) (by decide) rfl)))))))))), fun _ h => h⟩
set_option maxRecDepth 100000 in
theorem hw_52 : hw_P D cA b h0 h1 u r9 52 := ⟨_, (hw_l (hw_l (hw_l (hw_l (hw_l (hw_l (hw_l (hw_r (L := 10) (i := 44) hw_n2 (hw_r (L := 2) rfl (hw_pl (j := 4) (i := 6) (by decide) rfl)))))))))), fun _ h => h⟩
set_option maxRecDepth 100000 in
theorem hw_53 : hw_P D cA b h0 h1 u r9 53 := ⟨_, (hw_l (hw_l (hw_l (hw_l (hw_l (hw_l (hw_l (hw_r (L := 10) (i := 45) hw_n2 (hw_r (L := 2) rfl (hw_pl (j := 4) (i := 7) (by decide) rfl)))))))))), fun _ h => h⟩
set_option maxRecDepth 100000 in
theorem hw_54 : hw_P D cA b h0 h1 u r9 54 := ⟨_, (hw_l (hw_l (hw_l (hw_l (hw_l (hw_l (hw_l (hw_r (L := 10) (i := 46) hw_n2 (hw_r (L := 2) rfl (hw_pl (j := 4) (i := 8) (by decide) rfl)))))))))), fun _ h => h⟩
set_option maxRecDepth 100000 in
theorem hw_55 : hw_P D cA b h0 h1 u r9 55 := ⟨_, (hw_l (hw_l (hw_l (hw_l (hw_l (hw_l (hw_l (hw_r (L := 10) (i := 47) hw_n2 (hw_r (L := 2) rfl (hw_pl (j := 5) (i := 0) (by decide) rfl)))))))))), fun _ h => h⟩
set_option maxRecDepth 100000 in
theorem hw_56 : hw_P D cA b h0 h1 u r9 56 := ⟨_, (hw_l (hw_l (hw_l (hw_l (hw_l (hw_l (hw_l (hw_r (L := 10) (i := 48) hw_n2 (hw_r (L := 2) rfl (hw_pl (j := 5) (i := 1) (by decide) rfl)))))))))), fun _ h => h⟩
set_option maxRecDepth 100000 in
theorem hw_57 : hw_P D cA b h0 h1 u r9 57 := ⟨_, (hw_l (hw_l (hw_l (hw_l (hw_l (hw_l (hw_l (hw_r (L := 10) (i := 49) hw_n2 (hw_r (L := 2) rfl (hw_pl (j := 5) (i := 2) (by decide) rfl)))))))))), fun _ h => h⟩
set_option maxRecDepth 100000 in
theorem hw_58 : hw_P D cA b h0 h1 u r9 58 := ⟨_, (hw_l (hw_l (hw_l (hw_l (hw_l (hw_l (hw_l (hw_r (L := 10) (i := 50) hw_n2 (hw_r (L := 2) rfl (hw_pl (j := 5) (i := 3) (by decide) rfl)))))))))), fun _ h => h⟩
set_option maxRecDepth 100000 in
theorem hw_59 : hw_P D cA b h0 h1 u r9 59 := ⟨_, (hw_l (hw_l (hw_l (hw_l (hw_l (hw_l (hw_l (hw_r (L := 10) (i := 51) hw_n2 (hw_r (L := 2) rfl (hw_pl (j := 5) (i := 4) (by decide) rfl)))))))))), fun _ h => h⟩
set_option maxRecDepth 100000 in
theorem hw_60 : hw_P D cA b h0 h1 u r9 60 := ⟨_, (hw_l (hw_l (hw_l (hw_l (hw_l (hw_l (hw_l (hw_r (L := 10) (i := 52) hw_n2 (hw_r (L := 2) rfl (hw_pl (j := 5) (i := 5) (by decide) rfl)))))))))), fun _ h => h⟩
set_option maxRecDepth 100000 in
theorem hw_61 : hw_P D cA b h0 h1 u r9 61 := ⟨_, (hw_l (hw_l (hw_l (hw_l (hw_l (hw_l (hw_l (hw_r (L := 10) (i := 53) hw_n2 (hw_r (L := 2) rfl (hw_pl (j := 5) (i := 6) (by decide) rfl)))))))))), fun _ h => h⟩
set_option maxRecDepth 100000 in
theorem hw_62 : hw_P D cA b h0 h1 u r9 62 := ⟨_, (hw_l (hw_l (hw_l (hw_l (hw_l (hw_l (hw_l (hw_r (L := 10) (i := 54) hw_n2 (hw_r (L := 2) rfl (hw_pl (j := 5) (i := 7) (by decide) rfl)))))))))), fun _ h => h⟩
set_option maxRecDepth 100000 in
theorem hw_63 : hw_P D cA b h0 h1 u r9 63 := ⟨_, (hw_l (hw_l (hw_l (hw_l (hw_l (hw_l (hw_l (hw_r (L := 10) (i := 55) hw_n2 (hw_r (L := 2) rfl (hw_pl (j := 5) (i := 8) (by decide) rfl)))))))))), fun _ h => h⟩
set_option maxRecDepth 100000 in
theorem hw_64 : hw_P D cA b h0 h1 u r9 64 := ⟨_, (hw_l (hw_l (hw_l (hw_l (hw_l (hw_l (hw_l (hw_r (L := 10) (i := 56) hw_n2 (hw_r (L := 2) rfl (hw_pl (j := 6) (i := 0) (by decide) rfl)))))))))), fun _ h => h⟩
set_option maxRecDepth 100000 in
theorem hw_65 : hw_P D cA b h0 h1 u r9 65 := ⟨_, (hw_l (hw_l (hw_l (hw_l (hw_l (hw_l (hw_l (hw_r (L := 10) (i := 57) hw_n2 (hw_r (L := 2) rfl (hw_pl (j := 6) (i := 1) (by decide) rfl)))))))))), fun _ h => h⟩
set_option maxRecDepth 100000 in
theorem hw_66 : hw_P D cA b h0 h1 u r9 66 := ⟨_, (hw_l (hw_l (hw_l (hw_l (hw_l (hw_l (hw_l (hw_r (L := 10) (i := 58) hw_n2 (hw_r (L := 2) rfl (hw_pl (j := 6) (i := 2) (by decide) rfl)))))))))), fun _ h => h⟩
set_option maxRecDepth 100000 in
theorem hw_67 : hw_P D cA b h0 h1 u r9 67 := ⟨_, (hw_l (hw_l (hw_l (hw_l (hw_l (hw_l (hw_l (hw_r (L := 10) (i := 59) hw_n2 (hw_r (L := 2) rfl (hw_pl (j := 6) (i := 3) (by decide) rfl)))))))))), fun _ h => h⟩
set_option maxRecDepth 100000 in
theorem hw_68 : hw_P D cA b h0 h1 u r9 68 := ⟨_, (hw_l (hw_l (hw_l (hw_l (hw_l (hw_l (hw_l (hw_r (L := 10) (i := 60) hw_n2 (hw_r (L := 2) rfl (hw_pl (j := 6) (i := 4) (by decide) rfl)))))))))), fun _ h => h⟩
set_option maxRecDepth 100000 in
theorem hw_69 : hw_P D cA b h0 h1 u r9 69 := ⟨_, (hw_l (hw_l (hw_l (hw_l (hw_l (hw_l (hw_l (hw_r (L := 10) (i := 61) hw_n2 (hw_r (L := 2) rfl (hw_pl (j := 6) (i := 5) (by decide) rfl)))))))))), fun _ h => h⟩
set_option maxRecDepth 100000 in
theorem hw_70 : hw_P D cA b h0 h1 u r9 70 := ⟨_, (hw_l (hw_l (hw_l (hw_l (hw_l (hw_l (hw_l (hw_r (L := 10) (i := 62) hw_n2 (hw_r (L := 2) rfl (hw_pl (j := 6) (i := 6) (by decide) rfl)))))))))), fun _ h => h⟩
set_option maxRecDepth 100000 in
theorem hw_71 : hw_P D cA b h0 h1 u r9 71 := ⟨_, (hw_l (hw_l (hw_l (hw_l (hw_l (hw_l (hw_l (hw_r (L := 10) (i := 63) hw_n2 (hw_r (L := 2) rfl (hw_pl (j := 6) (i := 7) (by decide) rfl)))))))))), fun _ h => h⟩
set_option maxRecDepth 100000 in
theorem hw_72 : hw_P D cA b h0 h1 u r9 72 := ⟨_, (hw_l (hw_l (hw_l (hw_l (hw_l (hw_l (hw_l (hw_r (L := 10) (i := 64) hw_n2 (hw_r (L := 2) rfl (hw_pl (j := 6) (i := 8) (by decide) rfl)))))))))), fun _ h => h⟩
set_option maxRecDepth 100000 in
theorem hw_73 : hw_P D cA b h0 h1 u r9 73 := ⟨_, (hw_l (hw_l (hw_l (hw_l (hw_l (hw_l (hw_l (hw_r (L := 10) (i := 65) hw_n2 (hw_r (L := 2) rfl (hw_pl (j := 7) (i := 0) (by decide) rfl)))))))))), fun _ h => h⟩
set_option maxRecDepth 100000 in
theorem hw_74 : hw_P D cA b h0 h1 u r9 74 := ⟨_, (hw_l (hw_l (hw_l (hw_l (hw_l (hw_l (hw_l (hw_r (L := 10) (i := 66) hw_n2 (hw_r (L := 2) rfl (hw_pl (j := 7) (i := 1) (by decide) rfl)))))))))), fun _ h => h⟩
set_option maxRecDepth 100000 in
theorem hw_75 : hw_P D cA b h0 h1 u r9 75 := ⟨_, (hw_l (hw_l (hw_l (hw_l (hw_l (hw_l (hw_l (hw_r (L := 10) (i := 67) hw_n2 (hw_r (L := 2) rfl (hw_pl (j := 7) (i := 2) (by decide) rfl)))))))))), fun _ h => h⟩
set_option maxRecDepth 100000 in
theorem hw_76 : hw_P D cA b h0 h1 u r9 76 := ⟨_, (hw_l (hw_l (hw_l (hw_l (hw_l (hw_l (hw_l (hw_r (L := 10) (i := 68) hw_n2 (hw_r (L := 2) rfl (hw_pl (j := 7) (i := 3) (by decide) rfl)))))))))), fun _ h => h⟩
set_option maxRecDepth 100000 in
theorem hw_77 : hw_P D cA b h0 h1 u r9 77 := ⟨_, (hw_l (hw_l (hw_l (hw_l (hw_l (hw_l (hw_l (hw_r (L := 10) (i := 69) hw_n2 (hw_r (L := 2) rfl (hw_pl (j := 7) (i := 4) (by decide) rfl)))))))))), fun _ h => h⟩
set_option maxRecDepth 100000 in
theorem hw_78 : hw_P D cA b h0 h1 u r9 78 := ⟨_, (hw_l (hw_l (hw_l (hw_l (hw_l (hw_l (hw_l (hw_r (L := 10) (i := 70) hw_n2 (hw_r (L := 2) rfl (hw_pl (j := 7) (i := 5) (by decide) rfl)))))))))), fun _ h => h⟩
set_option maxRecDepth 100000 in
theorem hw_79 : hw_P D cA b h0 h1 u r9 79 := ⟨_, (hw_l (hw_l (hw_l (hw_l (hw_l (hw_l (hw_l (hw_r (L := 10) (i := 71) hw_n2 (hw_r (L := 2) rfl (hw_pl (j := 7) (i := 6) (by decide) rfl)))))))))), fun _ h => h⟩
set_option maxRecDepth 100000 in
theorem hw_80 : hw_P D cA b h0 h1 u r9 80 := ⟨_, (hw_l (hw_l (hw_l (hw_l (hw_l (hw_l (hw_l (hw_r (L := 10) (i := 72) hw_n2 (hw_r (L := 2) rfl (hw_pl (j := 7) (i := 7) (by decide) rfl)))))))))), fun _ h => h⟩
set_option maxRecDepth 100000 in
theorem hw_81 : hw_P D cA b h0 h1 u r9 81 := ⟨_, (hw_l (hw_l (hw_l (hw_l (hw_l (hw_l (hw_l (hw_r (L := 10) (i := 73) hw_n2 (hw_r (L := 2) rfl (hw_pl (j := 7) (i := 8) (by decide) rfl)))))))))), fun _ h => h⟩
set_option maxRecDepth 100000 in
theorem hw_82 : hw_P D cA b h0 h1 u r9 82 := ⟨_, (hw_l (hw_l (hw_l (hw_l (hw_l (hw_l (hw_l (hw_r (L := 10) (i := 0) hw_n2 (hw_l (show ([(u.1 1, .inr (4, [.ref u.2.2.1, .int 0])), (u.2.2.1, .inl (cA 2, 8, .inr (.inr (.inr (.inr (fun j => if j < 8 then some (u.2.2.2.1 j) else none))))))] : va_W)[0]? = some _ from rfl)))))))))), fun _ h => h⟩
set_option maxRecDepth 100000 in
theorem hw_83 : hw_P D cA b h0 h1 u r9 83 := ⟨_, (hw_l (hw_l (hw_l (hw_l (hw_l (hw_l (hw_l (hw_r (L := 10) (i := 1) hw_n2 (hw_l (show ([(u.1 1, .inr (4, [.ref u.2.2.1, .int 0])), (u.2.2.1, .inl (cA 2, 8, .inr (.inr (.inr (.inr (fun j => if j < 8 then some (u.2.2.2.1 j) else none))))))] : va_W)[1]? = some _ from rfl)))))))))), fun _ h => hw_refs (fun j hj => by rcases (show j = 0 ∨ j = 1 ∨ j = 2 ∨ j = 3 ∨ j = 4 ∨ j = 5 ∨ j = 6 ∨ j = 7 by omega) with rfl | rfl | rfl | rfl | rfl | rfl | rfl | rfl <;> rfl) h⟩
set_option maxRecDepth 100000 in
theorem hw_84 : hw_P D cA b h0 h1 u r9 84 := ⟨_, (hw_l (hw_l (hw_l (hw_l (hw_l (hw_l (hw_r (L := 84) (i := 0) hw_n3 rfl))))))), fun _ h => h⟩
set_option maxRecDepth 100000 in
theorem hw_85 : hw_P D cA b h0 h1 u r9 85 := ⟨_, (hw_l (hw_l (hw_l (hw_l (hw_l (hw_l (hw_r (L := 84) (i := 1) hw_n3 rfl))))))), fun _ h => h⟩
set_option maxRecDepth 100000 in
theorem hw_86 : hw_P D cA b h0 h1 u r9 86 := ⟨_, (hw_l (hw_l (hw_l (hw_l (hw_l (hw_l (hw_r (L := 84) (i := 2) hw_n3 rfl))))))), fun _ h => h⟩
set_option maxRecDepth 100000 in
theorem hw_87 : hw_P D cA b h0 h1 u r9 87 := ⟨_, (hw_l (hw_l (hw_l (hw_l (hw_l (hw_l (hw_r (L := 84) (i := 3) hw_n3 rfl))))))), fun _ h => h⟩
set_option maxRecDepth 100000 in
theorem hw_88 : hw_P D cA b h0 h1 u r9 88 := ⟨_, (hw_l (hw_l (hw_l (hw_l (hw_l (hw_r (L := 88) (i := 0) hw_n4 rfl)))))), fun _ h => h⟩
set_option maxRecDepth 100000 in
theorem hw_89 : hw_P D cA b h0 h1 u r9 89 := ⟨_, (hw_l (hw_l (hw_l (hw_l (hw_l (hw_r (L := 88) (i := 1) hw_n4 rfl)))))), fun _ h => h⟩
set_option maxRecDepth 100000 in
theorem hw_90 : hw_P D cA b h0 h1 u r9 90 := ⟨_, (hw_l (hw_l (hw_l (hw_l (hw_l (hw_r (L := 88) (i := 2) hw_n4 rfl)))))), fun _ h => hw_refs (fun j hj => by rcases (show j = 0 ∨ j = 1 ∨ j = 2 ∨ j = 3 ∨ j = 4 ∨ j = 5 ∨ j = 6 ∨ j = 7 by omega) with rfl | rfl | rfl | rfl | rfl | rfl | rfl | rfl <;> rfl) h⟩
set_option maxRecDepth 100000 in
theorem hw_91 : hw_P D cA b h0 h1 u r9 91 := ⟨_, (hw_l (hw_l (hw_l (hw_l (hw_l (hw_r (L := 88) (i := 11) hw_n4 rfl)))))), fun _ h => h⟩
set_option maxRecDepth 100000 in
theorem hw_92 : hw_P D cA b h0 h1 u r9 92 := ⟨_, (hw_l (hw_l (hw_l (hw_l (hw_l (hw_r (L := 88) (i := 12) hw_n4 rfl)))))), fun _ h => h⟩
set_option maxRecDepth 100000 in
theorem hw_93 : hw_P D cA b h0 h1 u r9 93 := ⟨_, (hw_l (hw_l (hw_l (hw_l (hw_l (hw_r (L := 88) (i := 13) hw_n4 rfl)))))), fun _ h => h⟩
set_option maxRecDepth 100000 in
theorem hw_94 : hw_P D cA b h0 h1 u r9 94 := ⟨_, (hw_l (hw_l (hw_l (hw_l (hw_l (hw_r (L := 88) (i := 14) hw_n4 rfl)))))), fun _ h => h⟩
set_option maxRecDepth 100000 in
theorem hw_95 : hw_P D cA b h0 h1 u r9 95 := ⟨_, (hw_l (hw_l (hw_l (hw_l (hw_l (hw_r (L := 88) (i := 3) hw_n4 rfl)))))), fun _ h => h⟩
set_option maxRecDepth 100000 in
theorem hw_96 : hw_P D cA b h0 h1 u r9 96 := ⟨_, (hw_l (hw_l (hw_l (hw_l (hw_l (hw_r (L := 88) (i := 4) hw_n4 rfl)))))), fun _ h => h⟩
set_option maxRecDepth 100000 in
theorem hw_97 : hw_P D cA b h0 h1 u r9 97 := ⟨_, (hw_l (hw_l (hw_l (hw_l (hw_l (hw_r (L := 88) (i := 5) hw_n4 rfl)))))), fun _ h => h⟩
set_option maxRecDepth 100000 in
theorem hw_98 : hw_P D cA b h0 h1 u r9 98 := ⟨_, (hw_l (hw_l (hw_l (hw_l (hw_l (hw_r (L := 88) (i := 6) hw_n4 rfl)))))), fun _ h => h⟩
set_option maxRecDepth 100000 in
theorem hw_99 : hw_P D cA b h0 h1 u r9 99 := ⟨_, (hw_l (hw_l (hw_l (hw_l (hw_l (hw_r (L := 88) (i := 7) hw_n4 rfl)))))), fun _ h => h⟩
set_option maxRecDepth 100000 in
theorem hw_100 : hw_P D cA b h0 h1 u r9 100 := ⟨_, (hw_l (hw_l (hw_l (hw_l (hw_l (hw_r (L := 88) (i := 8) hw_n4 rfl)))))), fun _ h => h⟩
set_option maxRecDepth 100000 in
theorem hw_101 : hw_P D cA b h0 h1 u r9 101 := ⟨_, (hw_l (hw_l (hw_l (hw_l (hw_l (hw_r (L := 88) (i := 9) hw_n4 rfl)))))), fun _ h => h⟩
set_option maxRecDepth 100000 in
theorem hw_102 : hw_P D cA b h0 h1 u r9 102 := ⟨_, (hw_l (hw_l (hw_l (hw_l (hw_l (hw_r (L := 88) (i := 10) hw_n4 rfl)))))), fun _ h => h⟩
set_option maxRecDepth 100000 in
theorem hw_103 : hw_P D cA b h0 h1 u r9 103 := ⟨_, (hw_l (hw_l (hw_l (hw_l (hw_r (L := 103) (i := 0) hw_n5 rfl))))), fun _ h => h⟩
set_option maxRecDepth 100000 in
theorem hw_104 : hw_P D cA b h0 h1 u r9 104 := ⟨_, (hw_l (hw_l (hw_l (hw_l (hw_r (L := 103) (i := 1) hw_n5 rfl))))), fun _ h => h⟩
set_option maxRecDepth 100000 in
theorem hw_105 : hw_P D cA b h0 h1 u r9 105 := ⟨_, (hw_l (hw_l (hw_l (hw_r (L := 105) (i := 0) hw_n6 rfl)))), fun _ h => h⟩
set_option maxRecDepth 100000 in
theorem hw_106 : hw_P D cA b h0 h1 u r9 106 := ⟨_, (hw_l (hw_l (hw_l (hw_r (L := 105) (i := 1) hw_n6 rfl)))), fun _ h => h⟩
set_option maxRecDepth 100000 in
theorem hw_107 : hw_P D cA b h0 h1 u r9 107 := ⟨_, (hw_l (hw_l (hw_l (hw_r (L := 105) (i := 2) hw_n6 rfl)))), fun _ h => h⟩
set_option maxRecDepth 100000 in
theorem hw_108 : hw_P D cA b h0 h1 u r9 108 := ⟨_, (hw_l (hw_l (hw_r (L := 108) (i := 0) hw_n7 rfl))), fun _ h => h⟩
set_option maxRecDepth 100000 in
theorem hw_109 : hw_P D cA b h0 h1 u r9 109 := ⟨_, (hw_l (hw_l (hw_r (L := 108) (i := 1) hw_n7 rfl))), fun _ h => h⟩
set_option maxRecDepth 100000 in
theorem hw_110 : hw_P D cA b h0 h1 u r9 110 := ⟨_, (hw_l (hw_l (hw_r (L := 108) (i := 2) hw_n7 rfl))), fun _ h => h⟩
set_option maxRecDepth 100000 in
theorem hw_111 : hw_P D cA b h0 h1 u r9 111 := ⟨_, (hw_l (hw_r (L := 111) (i := 0) hw_n8 rfl)), fun _ h => h⟩
set_option maxRecDepth 100000 in
theorem hw_112 : hw_P D cA b h0 h1 u r9 112 := ⟨_, (hw_l (hw_r (L := 111) (i := 1) hw_n8 rfl)), fun _ h => h⟩
set_option maxRecDepth 100000 in
theorem hw_113 : hw_P D cA b h0 h1 u r9 113 := ⟨_, (hw_r (L := 113) (i := 0) hw_n9 rfl), fun _ h => h⟩
set_option maxRecDepth 100000 in
theorem hw_114 : hw_P D cA b h0 h1 u r9 114 := ⟨_, (hw_r (L := 113) (i := 1) hw_n9 rfl), fun _ h => h⟩
set_option maxRecDepth 100000 in
theorem hw_115 : hw_P D cA b h0 h1 u r9 115 := ⟨_, (hw_r (L := 113) (i := 2) hw_n9 rfl), fun _ h => h⟩
set_option maxRecDepth 100000 in
theorem hw_116 : hw_P D cA b h0 h1 u r9 116 := ⟨_, (hw_r (L := 113) (i := 3) hw_n9 rfl), fun _ h => h⟩
set_option maxRecDepth 100000 in
theorem hw_117 : hw_P D cA b h0 h1 u r9 117 := ⟨_, (hw_r (L := 113) (i := 4) hw_n9 rfl), fun _ h => h⟩
set_option maxRecDepth 100000 in
theorem hw_118 : hw_P D cA b h0 h1 u r9 118 := ⟨_, (hw_r (L := 113) (i := 5) hw_n9 rfl), fun _ h => h⟩
set_option maxRecDepth 100000 in
theorem hw_119 : hw_P D cA b h0 h1 u r9 119 := ⟨_, (hw_r (L := 113) (i := 6) hw_n9 rfl), fun _ h => h⟩
set_option maxRecDepth 100000 in
theorem hw_120 : hw_P D cA b h0 h1 u r9 120 := ⟨_, (hw_r (L := 113) (i := 7) hw_n9 rfl), fun _ h => h⟩
set_option maxRecDepth 100000 in
theorem hw_121 : hw_P D cA b h0 h1 u r9 121 := ⟨_, (hw_r (L := 113) (i := 8) hw_n9 rfl), fun _ h => h⟩
set_option maxRecDepth 100000 in
theorem hw_122 : hw_P D cA b h0 h1 u r9 122 := ⟨_, (hw_r (L := 113) (i := 9) hw_n9 rfl), fun _ h => h⟩
set_option maxRecDepth 100000 in
theorem hw_123 : hw_P D cA b h0 h1 u r9 123 := ⟨_, (hw_r (L := 113) (i := 10) hw_n9 rfl), fun _ h => h⟩
set_option maxRecDepth 100000 in
theorem hw_124 : hw_P D cA b h0 h1 u r9 124 := ⟨_, (hw_r (L := 113) (i := 11) hw_n9 rfl), fun _ h => h⟩
set_option maxRecDepth 100000 in
theorem hw_125 : hw_P D cA b h0 h1 u r9 125 := ⟨_, (hw_r (L := 113) (i := 12) hw_n9 rfl), fun _ h => h⟩
set_option maxRecDepth 100000 in
theorem hw_126 : hw_P D cA b h0 h1 u r9 126 := ⟨_, (hw_r (L := 113) (i := 13) hw_n9 rfl), fun _ h => h⟩
set_option maxRecDepth 100000 in
theorem hw_127 : hw_P D cA b h0 h1 u r9 127 := ⟨_, (hw_r (L := 113) (i := 14) hw_n9 rfl), fun _ h => h⟩
set_option maxRecDepth 100000 in
theorem hw_128 : hw_P D cA b h0 h1 u r9 128 := ⟨_, (hw_r (L := 113) (i := 15) hw_n9 rfl), fun _ h => h⟩
set_option maxRecDepth 100000 in
theorem hw_129 : hw_P D cA b h0 h1 u r9 129 := ⟨_, (hw_r (L := 113) (i := 16) hw_n9 rfl), fun _ h => h⟩
theorem hw_a0 : hw_alls (hw_P D cA b h0 h1 u r9) 10 := ⟨⟨⟨⟨⟨⟨⟨⟨⟨⟨trivial, hw_0⟩, hw_1⟩, hw_2⟩, hw_3⟩, hw_4⟩, hw_5⟩, hw_6⟩, hw_7⟩, hw_8⟩, hw_9⟩
theorem hw_a1 : hw_alls (hw_P D cA b h0 h1 u r9) 20 := ⟨⟨⟨⟨⟨⟨⟨⟨⟨⟨hw_a0, hw_10⟩, hw_11⟩, hw_12⟩, hw_13⟩, hw_14⟩, hw_15⟩, hw_16⟩, hw_17⟩, hw_18⟩, hw_19⟩
theorem hw_a2 : hw_alls (hw_P D cA b h0 h1 u r9) 30 := ⟨⟨⟨⟨⟨⟨⟨⟨⟨⟨hw_a1, hw_20⟩, hw_21⟩, hw_22⟩, hw_23⟩, hw_24⟩, hw_25⟩, hw_26⟩, hw_27⟩, hw_28⟩, hw_29⟩
theorem hw_a3 : hw_alls (hw_P D cA b h0 h1 u r9) 40 := ⟨⟨⟨⟨⟨⟨⟨⟨⟨⟨hw_a2, hw_30⟩, hw_31⟩, hw_32⟩, hw_33⟩, hw_34⟩, hw_35⟩, hw_36⟩, hw_37⟩, hw_38⟩, hw_39⟩
theorem hw_a4 : hw_alls (hw_P D cA b h0 h1 u r9) 50 := ⟨⟨⟨⟨⟨⟨⟨⟨⟨⟨hw_a3, hw_40⟩, hw_41⟩, hw_42⟩, hw_43⟩, hw_44⟩, hw_45⟩, hw_46⟩, hw_47⟩, hw_48⟩, hw_49⟩
theorem hw_a5 : hw_alls (hw_P D cA b h0 h1 u r9) 60 := ⟨⟨⟨⟨⟨⟨⟨⟨⟨⟨hw_a4, hw_50⟩, hw_51⟩, hw_52⟩, hw_53⟩, hw_54⟩, hw_55⟩, hw_56⟩, hw_57⟩, hw_58⟩, hw_59⟩
theorem hw_a6 : hw_alls (hw_P D cA b h0 h1 u r9) 70 := ⟨⟨⟨⟨⟨⟨⟨⟨⟨⟨hw_a5, hw_60⟩, hw_61⟩, hw_62⟩, hw_63⟩, hw_64⟩, hw_65⟩, hw_66⟩, hw_67⟩, hw_68⟩, hw_69⟩
theorem hw_a7 : hw_alls (hw_P D cA b h0 h1 u r9) 80 := ⟨⟨⟨⟨⟨⟨⟨⟨⟨⟨hw_a6, hw_70⟩, hw_71⟩, hw_72⟩, hw_73⟩, hw_74⟩, hw_75⟩, hw_76⟩, hw_77⟩, hw_78⟩, hw_79⟩
theorem hw_a8 : hw_alls (hw_P D cA b h0 h1 u r9) 90 := ⟨⟨⟨⟨⟨⟨⟨⟨⟨⟨hw_a7, hw_80⟩, hw_81⟩, hw_82⟩, hw_83⟩, hw_84⟩, hw_85⟩, hw_86⟩, hw_87⟩, hw_88⟩, hw_89⟩
theorem hw_a9 : hw_alls (hw_P D cA b h0 h1 u r9) 100 := ⟨⟨⟨⟨⟨⟨⟨⟨⟨⟨hw_a8, hw_90⟩, hw_91⟩, hw_92⟩, hw_93⟩, hw_94⟩, hw_95⟩, hw_96⟩, hw_97⟩, hw_98⟩, hw_99⟩
theorem hw_a10 : hw_alls (hw_P D cA b h0 h1 u r9) 110 := ⟨⟨⟨⟨⟨⟨⟨⟨⟨⟨hw_a9, hw_100⟩, hw_101⟩, hw_102⟩, hw_103⟩, hw_104⟩, hw_105⟩, hw_106⟩, hw_107⟩, hw_108⟩, hw_109⟩
theorem hw_a11 : hw_alls (hw_P D cA b h0 h1 u r9) 120 := ⟨⟨⟨⟨⟨⟨⟨⟨⟨⟨hw_a10, hw_110⟩, hw_111⟩, hw_112⟩, hw_113⟩, hw_114⟩, hw_115⟩, hw_116⟩, hw_117⟩, hw_118⟩, hw_119⟩
theorem hw_a12 : hw_alls (hw_P D cA b h0 h1 u r9) 130 := ⟨⟨⟨⟨⟨⟨⟨⟨⟨⟨hw_a11, hw_120⟩, hw_121⟩, hw_122⟩, hw_123⟩, hw_124⟩, hw_125⟩, hw_126⟩, hw_127⟩, hw_128⟩, hw_129⟩
theorem hw_k : ∀ c, c < 130 → hw_P D cA b h0 h1 u r9 c := hw_all hw_a12
theorem hw_inj {A : Nat → Prop} (hD : va_D A (hw_ws cA h0 h1 u r9)) : ∀ i j, i < hs_sh.length → j < hs_sh.length → hw_ad b h0 h1 u r9 i = hw_ad b h0 h1 u r9 j → i = j := by
  intro i j hi hj hij
  rw [hs_len] at hi hj
  obtain ⟨e1, g1, -⟩ := hw_k (D := (fun _ => 0, fun _ _ => 0)) (cA := cA) (b := b) (h0 := h0) (h1 := h1) (u := u) (r9 := r9) i hi
  obtain ⟨e2, g2, -⟩ := hw_k (D := (fun _ => 0, fun _ _ => 0)) (cA := cA) (b := b) (h0 := h0) (h1 := h1) (u := u) (r9 := r9) j hj
  exact hw_pos_inj i hi j hj (hD.1 _ _ _ _ g1 g2 hij)
theorem hw_A {A : Nat → Prop} (hD : va_D A (hw_ws cA h0 h1 u r9)) : ∀ c, c < hs_sh.length → A (hw_ad b h0 h1 u r9 c) := by
  intro c hc
  rw [hs_len] at hc
  obtain ⟨e1, g1, -⟩ := hw_k (D := (fun _ => 0, fun _ _ => 0)) (cA := cA) (b := b) (h0 := h0) (h1 := h1) (u := u) (r9 := r9) c hc
  exact hD.2 _ _ g1
theorem hw_W {H : Heap} (hP : va_P D vwCl (hw_ws cA h0 h1 u r9) H) : va_P D vwCl (hd_W hs_sh (hw_ad b h0 h1 u r9) cA hw_S) H := by
  intro k q hq
  have hk : k < 130 := by
    have := (List.getElem?_eq_some_iff.mp hq).1
    rw [hd_W_len, hs_len] at this
    exact this
  have hs : hs_sh[k]? = some (hs_sh.getD k (.inr (0, 0))) := by
    rw [List.getD_eq_getElem?_getD, List.getElem?_eq_getElem (by rw [hs_len]; exact hk)]
    rfl
  rw [hd_W_at hs] at hq
  cases hq
  obtain ⟨e1, g1, g2⟩ := hw_k (D := D) (cA := cA) (b := b) (h0 := h0) (h1 := h1) (u := u) (r9 := r9) k hk
  exact g2 H (hP _ _ g1)
end HWC
/-- the empty plan -/
def hw_p : hp_P := (0, 0, fun _ => 0, fun _ => 0, fun _ => 0, fun _ => 0, fun _ => 0, fun _ => 0, fun _ => 0, fun _ _ => 0)
theorem hw_ok : hp_ok hw_p := ⟨by decide, by decide, fun t ht => absurd ht (Nat.not_lt_zero t), fun _ => show 0 ≤ 20 by decide, fun _ => show 0 ≤ 100000 by decide, fun _ => show (-1000 : Int) ≤ 0 ∧ (0 : Int) ≤ 1000 by decide, fun _ => show 0 ≤ 100000 by decide, fun _ => show 0 ≤ 200 by decide, fun _ => show (-1 : Int) ≤ 0 ∧ (0 : Int) ≤ 2 by decide, fun _ => show 0 ≤ 8 by decide, fun h hh => absurd hh (Nat.not_lt_zero h)⟩
theorem hw_x : hx_I hw_S hw_p 0 (fun _ => hw_p) 0 (fun _ => 0) := by
  refine ⟨⟨hw_ok, fun i hi => absurd hi (Nat.not_lt_zero i), by decide, fun _ => show 0 ≤ 1000000 by decide, fun _ _ => rfl⟩, ⟨rfl, rfl, fun _ _ => rfl, fun _ _ => rfl, fun _ _ => rfl, fun _ _ => rfl, fun _ _ => rfl, fun _ _ => rfl, fun _ _ => rfl, fun h hh => absurd hh (Nat.not_lt_zero h)⟩, ⟨by decide, rfl, fun i => i + 1, fun i hi => ⟨?_, Nat.succ_pos i, (show i + 1 ≤ 8 by omega)⟩, fun i j _ _ h => Nat.succ.inj h, fun i hi => absurd hi (Nat.not_lt_zero i)⟩, rfl, fun _ _ => rfl, ⟨Or.inr rfl, fun h => absurd h (by decide)⟩, ⟨fun k _ => rfl, rfl, rfl, Or.inr rfl, fun h => absurd h (by decide)⟩, ⟨Or.inr rfl, fun h => absurd h (by decide)⟩⟩
  show 10 + 9 * i = 1 + 9 * (i + 1)
  omega
theorem hw_m : hm_I hw_S hw_p 0 (fun _ => hw_p) 0 (fun _ => 0) := ⟨⟨hw_ok, fun i hi => absurd hi (Nat.not_lt_zero i), by decide, fun _ => show 0 ≤ 1000000 by decide, fun _ _ => rfl⟩, ⟨rfl, rfl, fun _ _ => rfl, fun _ _ => rfl, fun _ _ => rfl, fun _ _ => rfl, fun _ _ => rfl, fun _ _ => rfl, fun _ _ => rfl, fun h hh => absurd hh (Nat.not_lt_zero h)⟩, ⟨by decide, rfl, 0, by decide, rfl, fun i hi => absurd hi (Nat.not_lt_zero i)⟩, rfl, fun _ _ => rfl, fun _ _ => rfl⟩
theorem hw_J : hd_J0 hw_S := ⟨_, _, _, _, _, ⟨hw_x, hw_m⟩, rfl⟩
