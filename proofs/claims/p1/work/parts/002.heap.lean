/-! one-step rows: fields, arrays, calls -/
/-- a field by its place in the constant pool -/
def hd_F (Ts : List Cond) (own : String) (cl : List vw_C) (ci k idx : Nat) : Prop := ∃ (Cn : String) (T : u_T) (N : Nat), cl[ci]? = some (Cn, T, N) ∧ k < N ∧ (∀ w ∈ u_ws Cn T N, w ∈ Ts) ∧ Cond.fieldLink own idx (T k).1 (T k).2.1 (T k).2.2.1 ∈ Ts
/-- a field that is written -/
def hd_FP (Ts : List Cond) (own : String) (cl : List vw_C) (ci k idx : Nat) (ty : FieldType) : Prop := ∃ (Cn : String) (T : u_T) (N : Nat) (ty0 : Nat → FieldType), cl[ci]? = some (Cn, T, N) ∧ k < N ∧ (∀ w ∈ u_ws Cn T N, w ∈ Ts) ∧ Cond.fieldLink own idx (T k).1 (T k).2.1 (T k).2.2.1 ∈ Ts ∧ (∀ k, k < N → parseFieldDescriptor (T k).2.2.1 = some (ty0 k)) ∧ (∀ a, a < N → ∀ b, b < N → a ≠ b → (T a).2.1 ≠ (T b).2.1) ∧ (T k).2.2.2 = false ∧ ty0 k = ty
section HDHEAP
variable {κ : hd_Ctx} {cc : ByteArray} {own : String} {Ts : List Cond} {nL : Nat} {sh : List hd_K} {cl : List vw_C} {lv : Nat} {pc : Nat} {ρ : List hd_V} {st : List Value} {S : hd_S}

theorem hd_t_getI (C : hd_Ok κ cc own Ts nL sh cl lv) {c ci k0 idx : Nat} {fl : List (Option Nat)} (hF : hd_F Ts own cl ci k0 idx) (hc : sh[c]? = some (.inl (ci, fl))) (hk : fl[k0]? = some none) (d : decode cc pc = .ok (.getfield idx, 3)) (k : hd_At κ (pc + 3) ρ (.int (S.1 c k0) :: st) S) : hd_At κ pc ρ (.ref (hd_ad κ c) :: st) S := by
  obtain ⟨p, l, e, R, s, m, args, below, meth, cd, cells, slots, Q, D, cl, sh, ad, cA, A, PM, Z⟩ := κ
  obtain ⟨hx, hb, hown, hts, hK, hinj, hAd, hAn, ⟨hR1, hR2, hR3, hR4, hR5⟩, hml, rfl, rfl, hZo, hZ⟩ := C
  intro ls H locs hl hP hS
  obtain ⟨Cn, T, N, h1, h2, h3, h4⟩ := hF
  exact va_get hx hb hts h3 hown hK hP c (hd_W_obj hc) h1 k0 h2 (hts _ h4) (fun _ h9 => h9) (by have h := hd_fl_int ad (S.1 c) fl 0 k0 hk; rw [Nat.zero_add] at h; exact h) d (k ls H locs hl hP hS)
theorem hd_t_getR (C : hd_Ok κ cc own Ts nL sh cl lv) {c ci k0 idx t : Nat} {fl : List (Option Nat)} (hF : hd_F Ts own cl ci k0 idx) (hc : sh[c]? = some (.inl (ci, fl))) (hk : fl[k0]? = some (some t)) (d : decode cc pc = .ok (.getfield idx, 3)) (k : hd_At κ (pc + 3) ρ (.ref (hd_ad κ t) :: st) S) : hd_At κ pc ρ (.ref (hd_ad κ c) :: st) S := by
  obtain ⟨p, l, e, R, s, m, args, below, meth, cd, cells, slots, Q, D, cl, sh, ad, cA, A, PM, Z⟩ := κ
  obtain ⟨hx, hb, hown, hts, hK, hinj, hAd, hAn, ⟨hR1, hR2, hR3, hR4, hR5⟩, hml, rfl, rfl, hZo, hZ⟩ := C
  intro ls H locs hl hP hS
  obtain ⟨Cn, T, N, h1, h2, h3, h4⟩ := hF
  exact va_get hx hb hts h3 hown hK hP c (hd_W_obj hc) h1 k0 h2 (hts _ h4) (fun _ h9 => h9) (hd_fl_ref ad (S.1 c) fl 0 k0 t hk) d (k ls H locs hl hP hS)
theorem hd_t_putI (C : hd_Ok κ cc own Ts nL sh cl lv) {c ci k0 idx : Nat} {x : Int32} {ty : FieldType} {fl : List (Option Nat)} (hF : hd_FP Ts own cl ci k0 idx ty) (hn : narrow ty (.int x) = .int x) (hf : fits ty (.int x) = true) (hc : sh[c]? = some (.inl (ci, fl))) (hk : fl[k0]? = some none) (d : decode cc pc = .ok (.putfield idx, 3)) (k : hd_At κ (pc + 3) ρ st (hd_wI S c k0 x)) : hd_At κ pc ρ (.int x :: .ref (hd_ad κ c) :: st) S := by
  obtain ⟨p, l, e, R, s, m, args, below, meth, cd, cells, slots, Q, D, cl, sh, ad, cA, A, PM, Z⟩ := κ
  obtain ⟨hx, hb, hown, hts, hK, hinj, hAd, hAn, ⟨hR1, hR2, hR3, hR4, hR5⟩, hml, rfl, rfl, hZo, hZ⟩ := C
  intro ls H locs hl hP hS
  obtain ⟨Cn, T, N, ty0, h1, h2, h3, h4, h5, h6, h7, h8⟩ := hF
  refine va_put hx hb hts h3 ty0 h5 h6 hown hK hP (hd_W_D hinj hAd) hS c (hd_W_obj hc) h1 k0 h2 (hts _ h4) (fun _ h9 => h9) h7 (h5 k0 h2) (by rw [h8]; exact hn) (by rw [h8]; exact hf) (by rw [hd_fl_len]; exact (List.getElem?_eq_some_iff.mp hk).1) d (fun H1 locs1 hP1 _ hS1 => ?_)
  rw [hd_W_set (S' := hd_wI S c k0 x) hc ?_ ?_] at hP1
  · exact k ls H1 locs1 hl hP1 hS1
  · rw [hd_fl_set ad (S.1 c) x fl 0 k0 hk, Nat.zero_add]
    simp [hd_E, hd_wI, va_up]
  · intro c' hc'
    simp [hd_wI, va_up, hc']
theorem hd_t_iald (C : hd_Ok κ cc own Ts nL sh cl lv) {c n : Nat} {i : Int32} (hc : sh[c]? = some (.inr (0, n))) (hi : vp_in i n) (d : decode cc pc = .ok (.iaload, 1)) (k : hd_At κ (pc + 1) ρ (.int (S.1 c i.toNatClampNeg) :: st) S) : hd_At κ pc ρ (.int i :: .ref (hd_ad κ c) :: st) S := by
  obtain ⟨p, l, e, R, s, m, args, below, meth, cd, cells, slots, Q, D, cl, sh, ad, cA, A, PM, Z⟩ := κ
  obtain ⟨hx, hb, hown, hts, hK, hinj, hAd, hAn, ⟨hR1, hR2, hR3, hR4, hR5⟩, hml, rfl, rfl, hZo, hZ⟩ := C
  intro ls H locs hl hP hS
  exact va_iald hx hb hK hP c 0 (hd_W_int hc) rfl hi d (k ls H locs hl hP hS)
theorem hd_t_lald (C : hd_Ok κ cc own Ts nL sh cl lv) {c n : Nat} {i : Int32} (hc : sh[c]? = some (.inr (1, n))) (hi : vp_in i n) (d : decode cc pc = .ok (.laload, 1)) (k : hd_At κ (pc + 1) ρ (.long (S.2.1 c i.toNatClampNeg) :: st) S) : hd_At κ pc ρ (.int i :: .ref (hd_ad κ c) :: st) S := by
  obtain ⟨p, l, e, R, s, m, args, below, meth, cd, cells, slots, Q, D, cl, sh, ad, cA, A, PM, Z⟩ := κ
  obtain ⟨hx, hb, hown, hts, hK, hinj, hAd, hAn, ⟨hR1, hR2, hR3, hR4, hR5⟩, hml, rfl, rfl, hZo, hZ⟩ := C
  intro ls H locs hl hP hS
  exact va_lald hx hb hK hP c 1 (hd_W_lng hc) rfl hi d (k ls H locs hl hP hS)
theorem hd_t_aald2 (C : hd_Ok κ cc own Ts nL sh cl lv) {c n : Nat} {i : Int32} (hc : sh[c]? = some (.inr (2, n))) (hi : vp_in i n) (d : decode cc pc = .ok (.aaload, 1)) (k : hd_At κ (pc + 1) ρ (.ref (hd_ad κ (S.2.2 c i.toNatClampNeg)) :: st) S) : hd_At κ pc ρ (.int i :: .ref (hd_ad κ c) :: st) S := by
  obtain ⟨p, l, e, R, s, m, args, below, meth, cd, cells, slots, Q, D, cl, sh, ad, cA, A, PM, Z⟩ := κ
  obtain ⟨hx, hb, hown, hts, hK, hinj, hAd, hAn, ⟨hR1, hR2, hR3, hR4, hR5⟩, hml, rfl, rfl, hZo, hZ⟩ := C
  intro ls H locs hl hP hS
  exact va_aldq hx hb hK hP c 2 (hd_W_ref2 hc) rfl hi d (k ls H locs hl hP hS)
theorem hd_t_aald3 (C : hd_Ok κ cc own Ts nL sh cl lv) {c n : Nat} {i : Int32} (hc : sh[c]? = some (.inr (3, n))) (hi : vp_in i n) (d : decode cc pc = .ok (.aaload, 1)) (k : hd_At κ (pc + 1) ρ (.ref (hd_ad κ (S.2.2 c i.toNatClampNeg)) :: st) S) : hd_At κ pc ρ (.int i :: .ref (hd_ad κ c) :: st) S := by
  obtain ⟨p, l, e, R, s, m, args, below, meth, cd, cells, slots, Q, D, cl, sh, ad, cA, A, PM, Z⟩ := κ
  obtain ⟨hx, hb, hown, hts, hK, hinj, hAd, hAn, ⟨hR1, hR2, hR3, hR4, hR5⟩, hml, rfl, rfl, hZo, hZ⟩ := C
  intro ls H locs hl hP hS
  have ha := hd_W_ref3 (ad := ad) (cA := cA) (S := S) hc
  have hlt : i.toNatClampNeg < n := Nat.not_le.mp fun q => hi (Or.inr q)
  exact W.aald (v := .ref (ad (S.2.2 c i.toNatClampNeg))) (ty := .array .long) hx hb (hP c _ ha) ((hK.2 3 (cA 3, .array .long) rfl).1 n (fun j => va_rf (some (ad (S.2.2 c j))))) rfl (fun q => by cases q) (by show ¬ (i < 0 ∨ (arrV _ _ _).slots.size ≤ _); rw [arrV_size]; exact hi) (by show (arrV _ _ _).slots[_]? = _; rw [arrV_read _ _ hlt]; rfl) rfl rfl d (k ls H locs hl hP hS)
theorem hd_t_iast (C : hd_Ok κ cc own Ts nL sh cl lv) {c n : Nat} {i x : Int32} (hc : sh[c]? = some (.inr (0, n))) (hi : vp_in i n) (d : decode cc pc = .ok (.iastore, 1)) (k : hd_At κ (pc + 1) ρ st (hd_wI S c i.toNatClampNeg x)) : hd_At κ pc ρ (.int x :: .int i :: .ref (hd_ad κ c) :: st) S := by
  obtain ⟨p, l, e, R, s, m, args, below, meth, cd, cells, slots, Q, D, cl, sh, ad, cA, A, PM, Z⟩ := κ
  obtain ⟨hx, hb, hown, hts, hK, hinj, hAd, hAn, ⟨hR1, hR2, hR3, hR4, hR5⟩, hml, rfl, rfl, hZo, hZ⟩ := C
  intro ls H locs hl hP hS
  refine va_iast hx hb hK hP (hd_W_D hinj hAd) hS c 0 (hd_W_int hc) rfl hi d (fun H1 locs1 hP1 _ hS1 => ?_)
  rw [hd_W_set (S' := hd_wI S c i.toNatClampNeg x) hc ?_ ?_] at hP1
  · exact k ls H1 locs1 hl hP1 hS1
  · simp [hd_E, hd_wI, va_up]
  · intro c' hc'
    simp [hd_wI, va_up, hc']
theorem hd_t_last (C : hd_Ok κ cc own Ts nL sh cl lv) {c n : Nat} {i : Int32} {x : Int64} (hc : sh[c]? = some (.inr (1, n))) (hi : vp_in i n) (d : decode cc pc = .ok (.lastore, 1)) (k : hd_At κ (pc + 1) ρ st (hd_wL S c i.toNatClampNeg x)) : hd_At κ pc ρ (.long x :: .int i :: .ref (hd_ad κ c) :: st) S := by
  obtain ⟨p, l, e, R, s, m, args, below, meth, cd, cells, slots, Q, D, cl, sh, ad, cA, A, PM, Z⟩ := κ
  obtain ⟨hx, hb, hown, hts, hK, hinj, hAd, hAn, ⟨hR1, hR2, hR3, hR4, hR5⟩, hml, rfl, rfl, hZo, hZ⟩ := C
  intro ls H locs hl hP hS
  refine va_last hx hb hK hP (hd_W_D hinj hAd) hS c 1 (hd_W_lng hc) rfl hi d (fun H1 locs1 hP1 _ hS1 => ?_)
  rw [hd_W_set (S' := hd_wL S c i.toNatClampNeg x) hc ?_ ?_] at hP1
  · exact k ls H1 locs1 hl hP1 hS1
  · simp [hd_E, hd_wL, va_up]
  · intro c' hc'
    simp [hd_wL, va_up, hc']
theorem hd_t_aast2 (C : hd_Ok κ cc own Ts nL sh cl lv) {c n v ci : Nat} {i : Int32} {fl : List (Option Nat)} {T : u_T} {N : Nat} (hc : sh[c]? = some (.inr (2, n))) (hv : sh[v]? = some (.inl (ci, fl))) (hcl : cl[ci]? = some ("HallDesk$Plan", T, N)) (hi : vp_in i n) (d : decode cc pc = .ok (.aastore, 1)) (k : hd_At κ (pc + 1) ρ st (hd_wR S c i.toNatClampNeg v)) : hd_At κ pc ρ (.ref (hd_ad κ v) :: .int i :: .ref (hd_ad κ c) :: st) S := by
  obtain ⟨p, l, e, R, s, m, args, below, meth, cd, cells, slots, Q, D, cl, sh, ad, cA, A, PM, Z⟩ := κ
  obtain ⟨hx, hb, hown, hts, hK, hinj, hAd, hAn, ⟨hR1, hR2, hR3, hR4, hR5⟩, hml, rfl, rfl, hZo, hZ⟩ := C
  intro ls H locs hl hP hS
  refine va_astq hx hb hK hP (hd_W_D hinj hAd) hS c 2 v ci (hd_W_ref2 hc) rfl (hd_W_obj hv) hcl hi d (fun H1 locs1 hP1 _ hS1 => ?_)
  rw [hd_W_set (S' := hd_wR S c i.toNatClampNeg v) hc ?_ ?_] at hP1
  · exact k ls H1 locs1 hl hP1 hS1
  · simp only [hd_E, hd_wR, va_up, if_true]
    refine congrArg (fun f => (Sum.inl (cA 2, n, Sum.inr (Sum.inr (Sum.inr (Sum.inr f)))) : va_E)) (funext fun j => ?_)
    by_cases hj : j = i.toNatClampNeg
    · simp [hj, va_up]
    · simp [hj, va_up]
  · intro c' hc'
    simp [hd_wR, va_up, hc']
theorem hd_t_alen (C : hd_Ok κ cc own Ts nL sh cl lv) {c t n : Nat} {ty : FieldType} (hc : sh[c]? = some (.inr (t, n))) (ht : (hd_tys (fun k => k))[t]? = some (t, ty)) (d : decode cc pc = .ok (.arraylength, 1)) (k : hd_At κ (pc + 1) ρ (.int (Int32.ofNat n) :: st) S) : hd_At κ pc ρ (.ref (hd_ad κ c) :: st) S := by
  obtain ⟨p, l, e, R, s, m, args, below, meth, cd, cells, slots, Q, D, cl, sh, ad, cA, A, PM, Z⟩ := κ
  obtain ⟨hx, hb, hown, hts, hK, hinj, hAd, hAn, ⟨hR1, hR2, hR3, hR4, hR5⟩, hml, rfl, rfl, hZo, hZ⟩ := C
  intro ls H locs hl hP hS
  match t, ht, hc with
  | 0, ht, hc => exact va_alen hx hb hK hP c 0 (hd_W_int hc) rfl rfl d (k ls H locs hl hP hS)
  | 1, ht, hc => exact va_alen hx hb hK hP c 1 (hd_W_lng hc) rfl rfl d (k ls H locs hl hP hS)
  | 2, ht, hc => exact va_alen hx hb hK hP c 2 (hd_W_ref2 hc) rfl rfl d (k ls H locs hl hP hS)
  | 3, ht, hc => exact va_alen hx hb hK hP c 3 (hd_W_ref3 hc) rfl rfl d (k ls H locs hl hP hS)
  | t + 4, ht, hc => simp [hd_tys] at ht
theorem hd_t_mmax (C : hd_Ok κ cc own Ts nL sh cl lv) {x y : Int32} {idx : Nat} (h1 : Cond.methodLink own idx Lib.Math.max.name ∈ Ts) (h2 : Cond.static Lib.Math.max.name ∈ Ts) (h3 : Cond.initialized "java/lang/Math" ∈ Ts) (h4 : Cond.code Lib.Math.max.name Lib.Math.max.code 2 (some .int) ∈ Ts) (hst : (st.map fun v => v.category).sum ≤ 8) (d : decode cc pc = .ok (.invokestatic idx, 3)) (k : hd_At κ (pc + 3) ρ (.int (if x < y then y else x) :: st) S) : hd_At κ pc ρ (.int y :: .int x :: st) S := by
  obtain ⟨p, l, e, R, s, m, args, below, meth, cd, cells, slots, Q, D, cl, sh, ad, cA, A, PM, Z⟩ := κ
  obtain ⟨hx, hb, hown, hts, hK, hinj, hAd, hAn, ⟨hR1, hR2, hR3, hR4, hR5⟩, hml, rfl, rfl, hZo, hZ⟩ := C
  intro ls H locs hl hP hS
  exact va_mmax hx hb (by rw [hl.1]) hown (hts _ h1) (hts _ h2) (hts _ h3) (hts _ h4) (by omega) (by omega) hR3 hR4 d (k ls H locs hl hP hS)
theorem hd_t_mmin (C : hd_Ok κ cc own Ts nL sh cl lv) {x y : Int32} {idx : Nat} (h1 : Cond.methodLink own idx Lib.Math.min.name ∈ Ts) (h2 : Cond.static Lib.Math.min.name ∈ Ts) (h3 : Cond.initialized "java/lang/Math" ∈ Ts) (h4 : Cond.code Lib.Math.min.name Lib.Math.min.code 2 (some .int) ∈ Ts) (hst : (st.map fun v => v.category).sum ≤ 8) (d : decode cc pc = .ok (.invokestatic idx, 3)) (k : hd_At κ (pc + 3) ρ (.int (if y < x then y else x) :: st) S) : hd_At κ pc ρ (.int y :: .int x :: st) S := by
  obtain ⟨p, l, e, R, s, m, args, below, meth, cd, cells, slots, Q, D, cl, sh, ad, cA, A, PM, Z⟩ := κ
  obtain ⟨hx, hb, hown, hts, hK, hinj, hAd, hAn, ⟨hR1, hR2, hR3, hR4, hR5⟩, hml, rfl, rfl, hZo, hZ⟩ := C
  intro ls H locs hl hP hS
  exact va_mmin hx hb (by rw [hl.1]) hown (hts _ h1) (hts _ h2) (hts _ h3) (hts _ h4) (by omega) (by omega) hR3 hR4 d (k ls H locs hl hP hS)
theorem hd_t_mabs (C : hd_Ok κ cc own Ts nL sh cl lv) {x : Int32} {idx : Nat} (h1 : Cond.methodLink own idx Lib.Math.abs.name ∈ Ts) (h2 : Cond.static Lib.Math.abs.name ∈ Ts) (h3 : Cond.initialized "java/lang/Math" ∈ Ts) (h4 : Cond.code Lib.Math.abs.name Lib.Math.abs.code 1 (some .int) ∈ Ts) (hst : (st.map fun v => v.category).sum ≤ 8) (d : decode cc pc = .ok (.invokestatic idx, 3)) (k : hd_At κ (pc + 3) ρ (.int (if 0 ≤ x then x else 0 - x) :: st) S) : hd_At κ pc ρ (.int x :: st) S := by
  obtain ⟨p, l, e, R, s, m, args, below, meth, cd, cells, slots, Q, D, cl, sh, ad, cA, A, PM, Z⟩ := κ
  obtain ⟨hx, hb, hown, hts, hK, hinj, hAd, hAn, ⟨hR1, hR2, hR3, hR4, hR5⟩, hml, rfl, rfl, hZo, hZ⟩ := C
  intro ls H locs hl hP hS
  exact va_mabs hx hb (by rw [hl.1]) hown (hts _ h1) (hts _ h2) (hts _ h3) (hts _ h4) (by omega) (by omega) hR3 hR4 d (k ls H locs hl hP hS)
theorem hd_t_mmaxL (C : hd_Ok κ cc own Ts nL sh cl lv) {x y : Int64} {idx : Nat} (h1 : Cond.methodLink own idx Lib.MathLoose.max_long.x ∈ Ts) (h2 : Cond.static Lib.MathLoose.max_long.x ∈ Ts) (h3 : Cond.initialized "java/lang/Math" ∈ Ts) (h4 : Cond.code Lib.MathLoose.max_long.x Lib.MathLoose.max_long.code 4 (some .long) ∈ Ts) (hst : (st.map fun v => v.category).sum ≤ 8) (d : decode cc pc = .ok (.invokestatic idx, 3)) (k : hd_At κ (pc + 3) ρ (.long (if y < x then x else y) :: st) S) : hd_At κ pc ρ (.long y :: .long x :: st) S := by
  obtain ⟨p, l, e, R, s, m, args, below, meth, cd, cells, slots, Q, D, cl, sh, ad, cA, A, PM, Z⟩ := κ
  obtain ⟨hx, hb, hown, hts, hK, hinj, hAd, hAn, ⟨hR1, hR2, hR3, hR4, hR5⟩, hml, rfl, rfl, hZo, hZ⟩ := C
  intro ls H locs hl hP hS
  exact va_mmax_long hx hb (by rw [hl.1]) hown (hts _ h1) (hts _ h2) (hts _ h3) (hts _ h4) (by omega) (by omega) hR3 hR4 d (k ls H locs hl hP hS)
theorem hd_t_mminL (C : hd_Ok κ cc own Ts nL sh cl lv) {x y : Int64} {idx : Nat} (h1 : Cond.methodLink own idx Lib.MathLoose.min_long.x ∈ Ts) (h2 : Cond.static Lib.MathLoose.min_long.x ∈ Ts) (h3 : Cond.initialized "java/lang/Math" ∈ Ts) (h4 : Cond.code Lib.MathLoose.min_long.x Lib.MathLoose.min_long.code 4 (some .long) ∈ Ts) (hst : (st.map fun v => v.category).sum ≤ 8) (d : decode cc pc = .ok (.invokestatic idx, 3)) (k : hd_At κ (pc + 3) ρ (.long (if y < x then y else x) :: st) S) : hd_At κ pc ρ (.long y :: .long x :: st) S := by
  obtain ⟨p, l, e, R, s, m, args, below, meth, cd, cells, slots, Q, D, cl, sh, ad, cA, A, PM, Z⟩ := κ
  obtain ⟨hx, hb, hown, hts, hK, hinj, hAd, hAn, ⟨hR1, hR2, hR3, hR4, hR5⟩, hml, rfl, rfl, hZo, hZ⟩ := C
  intro ls H locs hl hP hS
  exact va_mmin_long hx hb (by rw [hl.1]) hown (hts _ h1) (hts _ h2) (hts _ h3) (hts _ h4) (by omega) (by omega) hR3 hR4 d (k ls H locs hl hP hS)
theorem hd_t_mabsL (C : hd_Ok κ cc own Ts nL sh cl lv) {x : Int64} {idx : Nat} (h1 : Cond.methodLink own idx Lib.MathLoose.abs_long.x ∈ Ts) (h2 : Cond.static Lib.MathLoose.abs_long.x ∈ Ts) (h3 : Cond.initialized "java/lang/Math" ∈ Ts) (h4 : Cond.code Lib.MathLoose.abs_long.x Lib.MathLoose.abs_long.code 2 (some .long) ∈ Ts) (hst : (st.map fun v => v.category).sum ≤ 8) (d : decode cc pc = .ok (.invokestatic idx, 3)) (k : hd_At κ (pc + 3) ρ ((.long (if 0 < x then x else -x)) :: st) S) : hd_At κ pc ρ (.long x :: st) S := by
  obtain ⟨p, l, e, R, s, m, args, below, meth, cd, cells, slots, Q, D, cl, sh, ad, cA, A, PM, Z⟩ := κ
  obtain ⟨hx, hb, hown, hts, hK, hinj, hAd, hAn, ⟨hR1, hR2, hR3, hR4, hR5⟩, hml, rfl, rfl, hZo, hZ⟩ := C
  intro ls H locs hl hP hS
  exact va_mabs_long hx hb (by rw [hl.1]) hown (hts _ h1) (hts _ h2) (hts _ h3) (hts _ h4) (by omega) (by omega) hR3 hR4 d (k ls H locs hl hP hS)
theorem hd_t_copyi (C : hd_Ok κ cc own Ts nL sh cl lv) {c0 c n0 n idx : Nat} {sp dp mm : Int32} (h1 : Cond.methodLink own idx arraycopyName ∈ Ts) (h2 : Cond.native arraycopyName ∈ Ts) (h3 : Cond.static arraycopyName ∈ Ts) (h4 : Cond.initialized "java/lang/System" ∈ Ts) (hc0 : sh[c0]? = some (.inr (0, n0))) (hc : sh[c]? = some (.inr (0, n))) (g1 : ¬ sp < 0) (g2 : ¬ dp < 0) (g3 : ¬ mm < 0) (g4 : sp.toNatClampNeg + mm.toNatClampNeg ≤ n0) (g5 : dp.toNatClampNeg + mm.toNatClampNeg ≤ n) (hst : (st.map fun v => v.category).sum ≤ 8) (d : decode cc pc = .ok (.invokestatic idx, 3)) (k : hd_At κ (pc + 3) ρ st (hd_rowI S c (va_cpy (S.1 c0) (S.1 c) sp.toNatClampNeg dp.toNatClampNeg mm.toNatClampNeg))) : hd_At κ pc ρ (.int mm :: .int dp :: .ref (hd_ad κ c) :: .int sp :: .ref (hd_ad κ c0) :: st) S := by
  obtain ⟨p, l, e, R, s, m, args, below, meth, cd, cells, slots, Q, D, cl, sh, ad, cA, A, PM, Z⟩ := κ
  obtain ⟨hx, hb, hown, hts, hK, hinj, hAd, hAn, ⟨hR1, hR2, hR3, hR4, hR5⟩, hml, rfl, rfl, hZo, hZ⟩ := C
  intro ls H locs hl hP hS
  have hq : nativeFrameWords "java/lang/System" "arraycopy" 5 ≤ 30 := by decide
  refine va_copyi hx hb (by rw [hl.1]) hown (hts _ h1) (hts _ h2) (hts _ h3) (hts _ h4) hK hP (hd_W_D hinj hAd) hS c0 c 0 0 (hd_W_int hc0) (hd_W_int hc) rfl rfl rfl g1 g2 g3 g4 g5 (fun _ _ => rfl) (by omega) (by omega) d (fun H1 locs1 hP1 _ hS1 => ?_)
  rw [hd_W_set (S' := hd_rowI S c (va_cpy (S.1 c0) (S.1 c) sp.toNatClampNeg dp.toNatClampNeg mm.toNatClampNeg)) hc ?_ ?_] at hP1
  · exact k ls H1 locs1 hl hP1 hS1
  · simp [hd_E, hd_rowI, va_up]
  · intro c' hc'
    simp [hd_rowI, va_up, hc']
theorem hd_t_copyl (C : hd_Ok κ cc own Ts nL sh cl lv) {c0 c n0 n idx : Nat} {sp dp mm : Int32} (h1 : Cond.methodLink own idx arraycopyName ∈ Ts) (h2 : Cond.native arraycopyName ∈ Ts) (h3 : Cond.static arraycopyName ∈ Ts) (h4 : Cond.initialized "java/lang/System" ∈ Ts) (hc0 : sh[c0]? = some (.inr (1, n0))) (hc : sh[c]? = some (.inr (1, n))) (g1 : ¬ sp < 0) (g2 : ¬ dp < 0) (g3 : ¬ mm < 0) (g4 : sp.toNatClampNeg + mm.toNatClampNeg ≤ n0) (g5 : dp.toNatClampNeg + mm.toNatClampNeg ≤ n) (hst : (st.map fun v => v.category).sum ≤ 8) (d : decode cc pc = .ok (.invokestatic idx, 3)) (k : hd_At κ (pc + 3) ρ st (hd_rowL S c (va_cpy (S.2.1 c0) (S.2.1 c) sp.toNatClampNeg dp.toNatClampNeg mm.toNatClampNeg))) : hd_At κ pc ρ (.int mm :: .int dp :: .ref (hd_ad κ c) :: .int sp :: .ref (hd_ad κ c0) :: st) S := by
  obtain ⟨p, l, e, R, s, m, args, below, meth, cd, cells, slots, Q, D, cl, sh, ad, cA, A, PM, Z⟩ := κ
  obtain ⟨hx, hb, hown, hts, hK, hinj, hAd, hAn, ⟨hR1, hR2, hR3, hR4, hR5⟩, hml, rfl, rfl, hZo, hZ⟩ := C
  intro ls H locs hl hP hS
  have hq : nativeFrameWords "java/lang/System" "arraycopy" 5 ≤ 30 := by decide
  refine va_copyl hx hb (by rw [hl.1]) hown (hts _ h1) (hts _ h2) (hts _ h3) (hts _ h4) hK hP (hd_W_D hinj hAd) hS c0 c 1 1 (hd_W_lng hc0) (hd_W_lng hc) rfl rfl rfl g1 g2 g3 g4 g5 (fun _ _ => rfl) (by omega) (by omega) d (fun H1 locs1 hP1 _ hS1 => ?_)
  rw [hd_W_set (S' := hd_rowL S c (va_cpy (S.2.1 c0) (S.2.1 c) sp.toNatClampNeg dp.toNatClampNeg mm.toNatClampNeg)) hc ?_ ?_] at hP1
  · exact k ls H1 locs1 hl hP1 hS1
  · simp [hd_E, hd_rowL, va_up]
  · intro c' hc'
    simp [hd_rowL, va_up, hc']
end HDHEAP
