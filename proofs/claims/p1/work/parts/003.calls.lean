/-! contracts, calls, returns -/
def hd_rm (d : Nat) : Room := { frames := d, cells := 0, slots := 0, locals := 64 * d }
def hd_A (sh : List hd_K) (ad : Nat → Nat) (sz : Nat) : Nat → Prop := fun q => (∃ c, c < sh.length ∧ q = ad c) ∨ sz ≤ q
def hd_Pc (D : va_G) (cl : List vw_C) (sh : List hd_K) (ad : Nat → Nat) (cA : Nat → ClassId) (Z : (Nat → Prop) → State → Prop) (as : List hd_V) (S : hd_S) (sz : Nat) : Array Value → State → Prop :=
  va_Pc (as.map (hd_val ad)) (fun U => U.heap.size = sz ∧ va_P D cl (hd_W sh ad cA S) U.heap ∧ va_K D cl (hd_tys cA) U ∧ Z (hd_A sh ad sz) U)
def hd_Qc (D : va_G) (cl : List vw_C) (sh : List hd_K) (ad : Nat → Nat) (cA : Nat → ClassId) (A : Nat → Prop) (PM : Option hd_V → hd_S → Prop) : Array Value → State → Outcome → State → Prop :=
  fun _ st oc t => (∃ (v : Option hd_V) (S' : hd_S), oc = .returned (v.map (hd_val ad)) ∧ PM v S' ∧ va_P D cl (hd_W sh ad cA S') t.heap) ∧ va_F A st t
def hd_MC (l : Launch) (D : va_G) (cl : List vw_C) (sh : List hd_K) (ad : Nat → Nat) (cA : Nat → ClassId) (Z : (Nat → Prop) → State → Prop) (y : MethodName) (wy : List Cond) (d : Nat) (as : List hd_V) (S : hd_S) (post : Option hd_V → hd_S → Prop) : Prop :=
  ∀ sz : Nat, Met l y wy (hd_rm d) (hd_Pc D cl sh ad cA Z as S sz) (hd_Qc D cl sh ad cA (hd_A sh ad sz) post) 0 0 (hd_A sh ad sz)
/-- what a method does, as a transformer: arguments, state, what must hold behind it -/
abbrev hd_M : Type := List hd_V → hd_S → (Option hd_V → hd_S → Prop) → Prop
def hd_Snd (cl : List vw_C) (sh : List hd_K) (y : MethodName) (wy : List Cond) (d : Nat) (wm : hd_M) : Prop :=
  ∀ (l : Launch) (D : va_G) (ad : Nat → Nat) (cA : Nat → ClassId) (Z : (Nat → Prop) → State → Prop), (∀ i j, i < sh.length → j < sh.length → ad i = ad j → i = j) → hd_Zok Z → ∀ as S post, wm as S post → hd_MC l D cl sh ad cA Z y wy d as S post
theorem hd_blind {D : va_G} {cl : List vw_C} {sh : List hd_K} {ad : Nat → Nat} {cA : Nat → ClassId} {Z : (Nat → Prop) → State → Prop} {as : List hd_V} {S : hd_S} {sz : Nat} (hZo : hd_Zok Z) : FrameBlind (hd_Pc D cl sh ad cA Z as S sz) := by
  intro a U g mk h
  obtain ⟨h1, h2, h3, h4, h5⟩ := h
  exact ⟨h1, h2, h3, va_K.moved (u := U) (U := U.calling g mk a) (Vm.Alike.refl U.vm) h4, hZo _ _ U (U.calling g mk a) (fun _ h => h) (Vm.Alike.refl U.vm) (fun _ _ _ => rfl) h5⟩
section HDCALL
variable {κ : hd_Ctx} {cc : ByteArray} {own : String} {Ts : List Cond} {nL : Nat} {sh : List hd_K} {cl : List vw_C} {lv : Nat} {pc : Nat} {ρ : List hd_V} {st : List Value} {S : hd_S}
set_option maxHeartbeats 1000000 in
theorem hd_t_callV (C : hd_Ok κ cc own Ts nL sh cl lv) {y : MethodName} {wy ws' : List Cond} {bytes : ByteArray} {maxL d idx ci c : Nat} {ret : Option FieldType} {fl : List (Option Nat)} {Cn : String} {T : u_T} {N : Nat} {as : List hd_V} {wm : hd_M} {post : Option hd_V → hd_S → Prop}
    (hw : wy = Cond.code y bytes maxL ret :: ws') (hG : GoodIn Ts (wsV own idx Cn y wy)) (hcl : cl[ci]? = some (Cn, T, N)) (hc : sh[c]? = some (.inl (ci, fl)))
    (hy : y.cls = Cn ∧ y.cls ≠ "java/lang/invoke/MethodHandle" ∧ y.cls ≠ "java/lang/invoke/VarHandle" ∧ (parseMethodDescriptor y.desc).map (fun d => d.parameters.length) = some as.length)
    (hd : d + 1 ≤ lv ∧ maxL ≤ 45) (hM : hd_Snd cl sh y wy d wm) (hwm : wm (hd_vR c :: as) S post) (dd : decode cc pc = .ok (.invokevirtual idx, 3)) (hst : (st.map fun v => v.category).sum ≤ 8)
    (k : ∀ v S', post v S' → hd_At κ (pc + 3) ρ ((v.map (hd_val (hd_ad κ))).toList ++ st) S') : hd_At κ pc ρ ((as.map (hd_val (hd_ad κ))).reverse ++ .ref (hd_ad κ c) :: st) S := by
  obtain ⟨p, l, e, R, s, m, args, below, meth, cd, cells, slots, Q, D, cl, sh, ad, cA, A, PM, Z⟩ := κ
  obtain ⟨hx, hb, hown, hts, hK, hinj, hAd, hAn, ⟨hR1, hR2, hR3, hR4, hR5⟩, hml, rfl, rfl, hZo, hZ⟩ := C
  intro ls H locs hl hP hS
  have hsub : ∀ q, hd_A sh ad H.size q → A q := by
    rintro q (⟨c, h1, rfl⟩ | h)
    · exact hAd c h1
    · exact hAn q (Nat.le_trans hS.1 h)
  have hpre : ∀ U : State, U.heap = H → s.WarmedH U.vm → hd_Pc D cl sh ad cA Z (hd_vR c :: as) S H.size (Value.ref (ad c) :: as.map (hd_val ad)).toArray U := fun U hU hW => ⟨by simp [hd_val], by rw [hU], by rw [hU]; exact hP, va_K.moved hW.alike hK, hZo A _ s U hsub hW.alike (fun q h1 h2 => by rw [hU]; exact hS.2.1 q h1 h2) hZ⟩
  have hrun := va_runV (p := p) (l := l) (e := e) (R := R) (s := s) (m := m) (args := args) (below := below) (meth := meth) (c := cd) (H := H) (locs := locs) (cells := cells) (slots := slots) (As := as.map (hd_val ad)) (rest := st) (b := ad c) (g := F0 m pc ls ((as.map (hd_val ad)).reverse ++ .ref (ad c) :: st)) (nL := cd.maxLocals) ⟨hx, hb, rfl, hown, hts⟩ (hM l D ad cA Z hinj hZo _ S post hwm H.size) (cwV as.length hts hG hw rfl rfl hy ⟨by show d + 1 ≤ R.frames; omega, by show 8 + (maxL + 11) + 64 * d ≤ R.locals; omega⟩) ⟨hd_blind hZo, va_recv hK hP hcl (hd_W_obj hc), hpre⟩ rfl (by simp) hl.1 rfl (lv_room hst) dd ⟨by omega, by omega⟩
  intro T1 hT X
  obtain ⟨v, st₀, t, T', L, h0, X', hL, e1, e2, ⟨⟨w, S', hv, hp, hb'⟩, hz, hk'⟩, stp⟩ := hrun T1 hT X
  have hvw : v = w.map (hd_val ad) := by injection hv
  subst hvw
  rw [h0] at hz hk'
  obtain ⟨t2, a1, b1⟩ := k w S' hp ls T'.heap (locs ++ L) hl (by rw [e1]; exact hb')
    ⟨Nat.le_trans hS.1 (by rw [e1]; exact hz), fun q h1 h2 => by rw [e1, hk' q (Nat.lt_of_lt_of_le h1 hS.1) (fun z => h2 (hsub q z))]; exact hS.2.1 q h1 h2, fun q hq => by
      rcases List.mem_append.mp hq with h | h
      · exact hS.2.2 q h
      · exact hsub _ (hL q h)⟩ T' rfl X'
  exact ⟨t2, stp t2 a1, b1⟩
set_option maxHeartbeats 1000000 in
theorem hd_t_callS (C : hd_Ok κ cc own Ts nL sh cl lv) {y : MethodName} {wy ws' : List Cond} {bytes : ByteArray} {maxL d idx : Nat} {ret : Option FieldType} {as : List hd_V} {wm : hd_M} {post : Option hd_V → hd_S → Prop}
    (hw : wy = Cond.code y bytes maxL ret :: ws') (hG : GoodIn Ts (va_wsS own idx y wy))
    (hy : y.cls ≠ "java/lang/invoke/MethodHandle" ∧ y.cls ≠ "java/lang/invoke/VarHandle" ∧ (parseMethodDescriptor y.desc).map (fun d => d.parameters.length) = some as.length)
    (hd : d + 1 ≤ lv ∧ maxL ≤ 45) (hM : hd_Snd cl sh y wy d wm) (hwm : wm as S post) (dd : decode cc pc = .ok (.invokestatic idx, 3)) (hst : (st.map fun v => v.category).sum ≤ 8)
    (k : ∀ v S', post v S' → hd_At κ (pc + 3) ρ ((v.map (hd_val (hd_ad κ))).toList ++ st) S') : hd_At κ pc ρ ((as.map (hd_val (hd_ad κ))).reverse ++ st) S := by
  obtain ⟨p, l, e, R, s, m, args, below, meth, cd, cells, slots, Q, D, cl, sh, ad, cA, A, PM, Z⟩ := κ
  obtain ⟨hx, hb, hown, hts, hK, hinj, hAd, hAn, ⟨hR1, hR2, hR3, hR4, hR5⟩, hml, rfl, rfl, hZo, hZ⟩ := C
  intro ls H locs hl hP hS
  have hsub : ∀ q, hd_A sh ad H.size q → A q := by
    rintro q (⟨c, h1, rfl⟩ | h)
    · exact hAd c h1
    · exact hAn q (Nat.le_trans hS.1 h)
  have hpre : ∀ U : State, U.heap = H → s.WarmedH U.vm → hd_Pc D cl sh ad cA Z (as) S H.size (as.map (hd_val ad)).toArray U := fun U hU hW => ⟨by simp [hd_val], by rw [hU], by rw [hU]; exact hP, va_K.moved hW.alike hK, hZo A _ s U hsub hW.alike (fun q h1 h2 => by rw [hU]; exact hS.2.1 q h1 h2) hZ⟩
  have hrun := va_runS (p := p) (l := l) (e := e) (R := R) (s := s) (m := m) (args := args) (below := below) (meth := meth) (c := cd) (H := H) (locs := locs) (cells := cells) (slots := slots) (As := as.map (hd_val ad)) (rest := st) (g := F0 m pc ls ((as.map (hd_val ad)).reverse ++ st)) (nL := cd.maxLocals) ⟨hx, hb, rfl, hown, hts⟩ (hM l D ad cA Z hinj hZo _ S post hwm H.size) (va_cwS as.length hts hG hw rfl rfl hy ⟨by show d + 1 ≤ R.frames; omega, by show 8 + (maxL + 11) + 64 * d ≤ R.locals; omega⟩) ⟨hd_blind hZo, hpre⟩ rfl (by simp) hl.1 rfl (lv_room hst) dd ⟨by omega, by omega⟩
  intro T1 hT X
  obtain ⟨v, st₀, t, T', L, h0, X', hL, e1, e2, ⟨⟨w, S', hv, hp, hb'⟩, hz, hk'⟩, stp⟩ := hrun T1 hT X
  have hvw : v = w.map (hd_val ad) := by injection hv
  subst hvw
  rw [h0] at hz hk'
  obtain ⟨t2, a1, b1⟩ := k w S' hp ls T'.heap (locs ++ L) hl (by rw [e1]; exact hb')
    ⟨Nat.le_trans hS.1 (by rw [e1]; exact hz), fun q h1 h2 => by rw [e1, hk' q (Nat.lt_of_lt_of_le h1 hS.1) (fun z => h2 (hsub q z))]; exact hS.2.1 q h1 h2, fun q hq => by
      rcases List.mem_append.mp hq with h | h
      · exact hS.2.2 q h
      · exact hsub _ (hL q h)⟩ T' rfl X'
  exact ⟨t2, stp t2 a1, b1⟩
/-- a method's end -/
def hd_OkR : hd_Ctx → Option FieldType → Prop
  | (_, _, _, _, s, _, args, below, meth, _, cells, slots, Q, D, cl, sh, ad, cA, A, PM, _), ret => Q = MQ below (hd_Qc D cl sh ad cA A PM) args s 0 0 A ∧ cells = 0 ∧ slots = 0 ∧ meth.sig.returnType = ret ∧ meth.locks = false

theorem hd_t_ireturn {x : Int32} (C : hd_Ok κ cc own Ts nL sh cl lv) (Rk : hd_OkR κ (some .int))  (d : decode cc pc = .ok (.ireturn, 1)) (h : hd_PM κ (some (hd_vI x)) S) : hd_At κ pc ρ [.int x] S := by
  obtain ⟨p, l, e, R, s, m, args, below, meth, cd, cells, slots, Q, D, cl, sh, ad, cA, A, PM, Z⟩ := κ
  obtain ⟨hx, hb, hown, hts, hK, hinj, hAd, hAn, ⟨hR1, hR2, hR3, hR4, hR5⟩, hml, rfl, rfl, hZo, hZ⟩ := C
  obtain ⟨rfl, rfl, rfl, hr, hlocks⟩ := Rk
  intro ls H locs hl hP hS
  exact W.iret hx hb hr (fun t ht hW => ⟨⟨some (hd_vI x), S, rfl, h, by rw [ht]; exact hP⟩, hS.F ht⟩) hS.2.2 d hlocks
theorem hd_t_zreturn {x : Int32} (C : hd_Ok κ cc own Ts nL sh cl lv) (Rk : hd_OkR κ (some .boolean)) (hz : x = 0 ∨ x = 1) (d : decode cc pc = .ok (.ireturn, 1)) (h : hd_PM κ (some (hd_vI x)) S) : hd_At κ pc ρ [.int x] S := by
  obtain ⟨p, l, e, R, s, m, args, below, meth, cd, cells, slots, Q, D, cl, sh, ad, cA, A, PM, Z⟩ := κ
  obtain ⟨hx, hb, hown, hts, hK, hinj, hAd, hAn, ⟨hR1, hR2, hR3, hR4, hR5⟩, hml, rfl, rfl, hZo, hZ⟩ := C
  obtain ⟨rfl, rfl, rfl, hr, hlocks⟩ := Rk
  intro ls H locs hl hP hS
  exact W.zret hx hb hr (by rcases hz with rfl | rfl <;> rfl) (fun t ht hW => ⟨⟨some (hd_vI x), S, rfl, h, by rw [ht]; exact hP⟩, hS.F ht⟩) hS.2.2 d hlocks
theorem hd_t_lreturn {x : Int64} (C : hd_Ok κ cc own Ts nL sh cl lv) (Rk : hd_OkR κ (some .long))  (d : decode cc pc = .ok (.lreturn, 1)) (h : hd_PM κ (some (hd_vJ x)) S) : hd_At κ pc ρ [.long x] S := by
  obtain ⟨p, l, e, R, s, m, args, below, meth, cd, cells, slots, Q, D, cl, sh, ad, cA, A, PM, Z⟩ := κ
  obtain ⟨hx, hb, hown, hts, hK, hinj, hAd, hAn, ⟨hR1, hR2, hR3, hR4, hR5⟩, hml, rfl, rfl, hZo, hZ⟩ := C
  obtain ⟨rfl, rfl, rfl, hr, hlocks⟩ := Rk
  intro ls H locs hl hP hS
  exact W.lret hx hb hr (fun t ht hW => ⟨⟨some (hd_vJ x), S, rfl, h, by rw [ht]; exact hP⟩, hS.F ht⟩) hS.2.2 d hlocks
theorem hd_t_areturn {nm : String} {x : Nat} (C : hd_Ok κ cc own Ts nL sh cl lv) (Rk : hd_OkR κ (some (.object nm)))  (d : decode cc pc = .ok (.areturn, 1)) (h : hd_PM κ (some (hd_vR x)) S) : hd_At κ pc ρ [.ref (hd_ad κ x)] S := by
  obtain ⟨p, l, e, R, s, m, args, below, meth, cd, cells, slots, Q, D, cl, sh, ad, cA, A, PM, Z⟩ := κ
  obtain ⟨hx, hb, hown, hts, hK, hinj, hAd, hAn, ⟨hR1, hR2, hR3, hR4, hR5⟩, hml, rfl, rfl, hZo, hZ⟩ := C
  obtain ⟨rfl, rfl, rfl, hr, hlocks⟩ := Rk
  intro ls H locs hl hP hS
  exact W.aret hx hb hr (Or.inl ⟨_, rfl⟩) (Or.inr ⟨_, rfl⟩) (fun t ht hW => ⟨⟨some (hd_vR x), S, rfl, h, by rw [ht]; exact hP⟩, hS.F ht⟩) hS.2.2 d hlocks
theorem hd_t_vreturn  (C : hd_Ok κ cc own Ts nL sh cl lv) (Rk : hd_OkR κ (none))  (d : decode cc pc = .ok (.return_, 1)) (h : hd_PM κ (none) S) : hd_At κ pc ρ [] S := by
  obtain ⟨p, l, e, R, s, m, args, below, meth, cd, cells, slots, Q, D, cl, sh, ad, cA, A, PM, Z⟩ := κ
  obtain ⟨hx, hb, hown, hts, hK, hinj, hAd, hAn, ⟨hR1, hR2, hR3, hR4, hR5⟩, hml, rfl, rfl, hZo, hZ⟩ := C
  obtain ⟨rfl, rfl, rfl, hr, hlocks⟩ := Rk
  intro ls H locs hl hP hS
  exact W.vret hx hb hr (fun t ht hW => ⟨⟨none, S, rfl, h, by rw [ht]; exact hP⟩, hS.F ht⟩) hS.2.2 d hlocks
end HDCALL
