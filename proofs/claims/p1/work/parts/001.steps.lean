/-! THE CONTEXT of a walk, and one-step rows over abstract states -/
abbrev hd_Ctx : Type := Program × Launch × Env × Room × State × MethodId × Array Value × List Frame × Method × Code × Nat × Nat × (State → Prop) × va_G × List vw_C × List hd_K × (Nat → Nat) × (Nat → ClassId) × (Nat → Prop) × (Option hd_V → hd_S → Prop) × ((Nat → Prop) → State → Prop)
def hd_tys (cA : Nat → ClassId) : List (ClassId × FieldType) := [(cA 0, .int), (cA 1, .long), (cA 2, .object "HallDesk$Plan"), (cA 3, .array .long)]
def hd_At : hd_Ctx → Nat → List hd_V → List Value → hd_S → Prop
  | (p, l, e, R, s, m, args, below, meth, c, cells, slots, Q, D, cl, sh, ad, cA, A, _, _), pc, ρ, st, S =>
    ∀ (ls : Array Slot) (H : Heap) (locs : List Loc), hd_L ad ls c.maxLocals ρ → va_P D cl (hd_W sh ad cA S) H → va_S A s.heap H locs → W p l e R s m args below meth c H locs cells slots Q (F0 m pc ls st)
/-- what is not in the world and stays: statics -/
def hd_Zok (Z : (Nat → Prop) → State → Prop) : Prop := ∀ (A A' : Nat → Prop) (U U' : State), (∀ q, A' q → A q) → U.vm.Alike U'.vm → (∀ q, q < U.heap.size → ¬ A q → U'.heap[q]? = U.heap[q]?) → Z A U → Z A' U'
def hd_Ok : hd_Ctx → ByteArray → String → List Cond → Nat → List hd_K → List vw_C → Nat → Prop
  | (p, _, _, R, s, m, args, _, _, c, cells, slots, _, D, cl, sh, ad, cA, A, _, Z), cc, own, Ts, nL, sh', cl', lv =>
    p.tables.exec = Jvm.exec ∧ c.code = cc ∧ s.vm.findClass own = some m.cls ∧ (∀ w ∈ Ts, w.before args s = true) ∧ va_K D cl (hd_tys cA) s ∧ (∀ i j, i < sh.length → j < sh.length → ad i = ad j → i = j) ∧ (∀ c, c < sh.length → A (ad c)) ∧ (∀ q, s.heap.size ≤ q → A q) ∧ (lv ≤ R.frames ∧ 64 * lv ≤ R.locals ∧ cells ≤ R.cells ∧ slots ≤ R.slots ∧ 1 ≤ lv) ∧ c.maxLocals = nL ∧ sh' = sh ∧ cl' = cl ∧ hd_Zok Z ∧ Z A s
def hd_ad : hd_Ctx → Nat → Nat
  | (_, _, _, _, _, _, _, _, _, _, _, _, _, _, _, _, ad, _, _, _, _) => ad
def hd_PM : hd_Ctx → Option hd_V → hd_S → Prop
  | (_, _, _, _, _, _, _, _, _, _, _, _, _, _, _, _, _, _, _, PM, _) => PM
section HDSTEP
variable {κ : hd_Ctx} {cc : ByteArray} {own : String} {Ts : List Cond} {nL : Nat} {sh : List hd_K} {cl : List vw_C} {lv : Nat} {pc : Nat} {ρ : List hd_V} {st : List Value} {S : hd_S}

theorem hd_t_iconst (C : hd_Ok κ cc own Ts nL sh cl lv) {n : Int} {v : Int32} (d : decode cc pc = .ok (.iconst n, 1)) (hv : Int32.ofInt n = v) (k : hd_At κ (pc + 1) ρ (.int v :: st) S) : hd_At κ pc ρ st S := by
  obtain ⟨p, l, e, R, s, m, args, below, meth, cd, cells, slots, Q, D, cl, sh, ad, cA, A, PM, Z⟩ := κ
  obtain ⟨hx, hb, hown, hts, hK, hinj, hAd, hAn, ⟨hR1, hR2, hR3, hR4, hR5⟩, hml, rfl, rfl, hZo, hZ⟩ := C
  intro ls H locs hl hP hS
  exact lv_iconst hx hb d hv (k ls H locs hl hP hS)
theorem hd_t_bipush (C : hd_Ok κ cc own Ts nL sh cl lv) {n : Int} {v : Int32} (d : decode cc pc = .ok (.bipush n, 2)) (hv : (Int8.ofInt n).toInt32 = v) (k : hd_At κ (pc + 2) ρ (.int v :: st) S) : hd_At κ pc ρ st S := by
  obtain ⟨p, l, e, R, s, m, args, below, meth, cd, cells, slots, Q, D, cl, sh, ad, cA, A, PM, Z⟩ := κ
  obtain ⟨hx, hb, hown, hts, hK, hinj, hAd, hAn, ⟨hR1, hR2, hR3, hR4, hR5⟩, hml, rfl, rfl, hZo, hZ⟩ := C
  intro ls H locs hl hP hS
  exact lv_bipush hx hb d hv (k ls H locs hl hP hS)
theorem hd_t_sipush (C : hd_Ok κ cc own Ts nL sh cl lv) {n : Int} {v : Int32} (d : decode cc pc = .ok (.sipush n, 3)) (hv : (Int16.ofInt n).toInt32 = v) (k : hd_At κ (pc + 3) ρ (.int v :: st) S) : hd_At κ pc ρ st S := by
  obtain ⟨p, l, e, R, s, m, args, below, meth, cd, cells, slots, Q, D, cl, sh, ad, cA, A, PM, Z⟩ := κ
  obtain ⟨hx, hb, hown, hts, hK, hinj, hAd, hAn, ⟨hR1, hR2, hR3, hR4, hR5⟩, hml, rfl, rfl, hZo, hZ⟩ := C
  intro ls H locs hl hP hS
  exact lv_sipush hx hb d hv (k ls H locs hl hP hS)
theorem hd_t_lconst (C : hd_Ok κ cc own Ts nL sh cl lv) {n : Fin 2} {v : Int64} (d : decode cc pc = .ok (.lconst n, 1)) (hv : Int64.ofNat (n : Nat) = v) (k : hd_At κ (pc + 1) ρ (.long v :: st) S) : hd_At κ pc ρ st S := by
  obtain ⟨p, l, e, R, s, m, args, below, meth, cd, cells, slots, Q, D, cl, sh, ad, cA, A, PM, Z⟩ := κ
  obtain ⟨hx, hb, hown, hts, hK, hinj, hAd, hAn, ⟨hR1, hR2, hR3, hR4, hR5⟩, hml, rfl, rfl, hZo, hZ⟩ := C
  intro ls H locs hl hP hS
  exact lv_lconst hx hb d hv (k ls H locs hl hP hS)
theorem hd_t_ldc (C : hd_Ok κ cc own Ts nL sh cl lv) {i : Nat} {v : Int32} (hw : Cond.constant own i v ∈ Ts) (d : decode cc pc = .ok (.ldc i, 2)) (k : hd_At κ (pc + 2) ρ (.int v :: st) S) : hd_At κ pc ρ st S := by
  obtain ⟨p, l, e, R, s, m, args, below, meth, cd, cells, slots, Q, D, cl, sh, ad, cA, A, PM, Z⟩ := κ
  obtain ⟨hx, hb, hown, hts, hK, hinj, hAd, hAn, ⟨hR1, hR2, hR3, hR4, hR5⟩, hml, rfl, rfl, hZo, hZ⟩ := C
  intro ls H locs hl hP hS
  exact lv_ldc hx hb hown (hts _ hw) d (k ls H locs hl hP hS)
theorem hd_t_ldcw (C : hd_Ok κ cc own Ts nL sh cl lv) {i : Nat} {v : Int32} (hw : Cond.constant own i v ∈ Ts) (d : decode cc pc = .ok (.ldc_w i, 3)) (k : hd_At κ (pc + 3) ρ (.int v :: st) S) : hd_At κ pc ρ st S := by
  obtain ⟨p, l, e, R, s, m, args, below, meth, cd, cells, slots, Q, D, cl, sh, ad, cA, A, PM, Z⟩ := κ
  obtain ⟨hx, hb, hown, hts, hK, hinj, hAd, hAn, ⟨hR1, hR2, hR3, hR4, hR5⟩, hml, rfl, rfl, hZo, hZ⟩ := C
  intro ls H locs hl hP hS
  exact lv_ldcw hx hb hown (hts _ hw) d (k ls H locs hl hP hS)
theorem hd_t_ldc2 (C : hd_Ok κ cc own Ts nL sh cl lv) {i : Nat} {v : Int64} (hw : Cond.constantLong own i v ∈ Ts) (d : decode cc pc = .ok (.ldc2_w i, 3)) (k : hd_At κ (pc + 3) ρ (.long v :: st) S) : hd_At κ pc ρ st S := by
  obtain ⟨p, l, e, R, s, m, args, below, meth, cd, cells, slots, Q, D, cl, sh, ad, cA, A, PM, Z⟩ := κ
  obtain ⟨hx, hb, hown, hts, hK, hinj, hAd, hAn, ⟨hR1, hR2, hR3, hR4, hR5⟩, hml, rfl, rfl, hZo, hZ⟩ := C
  intro ls H locs hl hP hS
  exact lv_ldc2 hx hb hown (hts _ hw) d (k ls H locs hl hP hS)
theorem hd_t_iload_n (C : hd_Ok κ cc own Ts nL sh cl lv) {kk : Fin 4} {i : Nat} {x : Int32} (d : decode cc pc = .ok (.iload_n kk, 1)) (hk : (kk : Nat) = i) (hi : hd_get ρ i = hd_vI x) (k : hd_At κ (pc + 1) ρ (.int x :: st) S) : hd_At κ pc ρ st S := by
  obtain ⟨p, l, e, R, s, m, args, below, meth, cd, cells, slots, Q, D, cl, sh, ad, cA, A, PM, Z⟩ := κ
  obtain ⟨hx, hb, hown, hts, hK, hinj, hAd, hAn, ⟨hR1, hR2, hR3, hR4, hR5⟩, hml, rfl, rfl, hZo, hZ⟩ := C
  intro ls H locs hl hP hS
  have h0 := hl.2.2 i (by rw [hi]; rfl)
  rw [hi] at h0
  exact lv_iload_n hx hb d hk h0 (k ls H locs hl hP hS)
theorem hd_t_iload (C : hd_Ok κ cc own Ts nL sh cl lv) {i : Nat} {x : Int32} (d : decode cc pc = .ok (.iload i, 2)) (hi : hd_get ρ i = hd_vI x) (k : hd_At κ (pc + 2) ρ (.int x :: st) S) : hd_At κ pc ρ st S := by
  obtain ⟨p, l, e, R, s, m, args, below, meth, cd, cells, slots, Q, D, cl, sh, ad, cA, A, PM, Z⟩ := κ
  obtain ⟨hx, hb, hown, hts, hK, hinj, hAd, hAn, ⟨hR1, hR2, hR3, hR4, hR5⟩, hml, rfl, rfl, hZo, hZ⟩ := C
  intro ls H locs hl hP hS
  have h0 := hl.2.2 i (by rw [hi]; rfl)
  rw [hi] at h0
  exact lv_iload hx hb d h0 (k ls H locs hl hP hS)
theorem hd_t_lload_n (C : hd_Ok κ cc own Ts nL sh cl lv) {kk : Fin 4} {i : Nat} {x : Int64} (d : decode cc pc = .ok (.lload_n kk, 1)) (hk : (kk : Nat) = i) (hi : hd_get ρ i = hd_vJ x) (k : hd_At κ (pc + 1) ρ (.long x :: st) S) : hd_At κ pc ρ st S := by
  obtain ⟨p, l, e, R, s, m, args, below, meth, cd, cells, slots, Q, D, cl, sh, ad, cA, A, PM, Z⟩ := κ
  obtain ⟨hx, hb, hown, hts, hK, hinj, hAd, hAn, ⟨hR1, hR2, hR3, hR4, hR5⟩, hml, rfl, rfl, hZo, hZ⟩ := C
  intro ls H locs hl hP hS
  have h0 := hl.2.2 i (by rw [hi]; rfl)
  rw [hi] at h0
  exact lv_lload_n hx hb d hk h0 (k ls H locs hl hP hS)
theorem hd_t_lload (C : hd_Ok κ cc own Ts nL sh cl lv) {i : Nat} {x : Int64} (d : decode cc pc = .ok (.lload i, 2)) (hi : hd_get ρ i = hd_vJ x) (k : hd_At κ (pc + 2) ρ (.long x :: st) S) : hd_At κ pc ρ st S := by
  obtain ⟨p, l, e, R, s, m, args, below, meth, cd, cells, slots, Q, D, cl, sh, ad, cA, A, PM, Z⟩ := κ
  obtain ⟨hx, hb, hown, hts, hK, hinj, hAd, hAn, ⟨hR1, hR2, hR3, hR4, hR5⟩, hml, rfl, rfl, hZo, hZ⟩ := C
  intro ls H locs hl hP hS
  have h0 := hl.2.2 i (by rw [hi]; rfl)
  rw [hi] at h0
  exact lv_lload hx hb d h0 (k ls H locs hl hP hS)
theorem hd_t_aload_n (C : hd_Ok κ cc own Ts nL sh cl lv) {kk : Fin 4} {i : Nat} {x : Nat} (d : decode cc pc = .ok (.aload_n kk, 1)) (hk : (kk : Nat) = i) (hi : hd_get ρ i = hd_vR x) (k : hd_At κ (pc + 1) ρ (.ref (hd_ad κ x) :: st) S) : hd_At κ pc ρ st S := by
  obtain ⟨p, l, e, R, s, m, args, below, meth, cd, cells, slots, Q, D, cl, sh, ad, cA, A, PM, Z⟩ := κ
  obtain ⟨hx, hb, hown, hts, hK, hinj, hAd, hAn, ⟨hR1, hR2, hR3, hR4, hR5⟩, hml, rfl, rfl, hZo, hZ⟩ := C
  intro ls H locs hl hP hS
  have h0 := hl.2.2 i (by rw [hi]; rfl)
  rw [hi] at h0
  exact lv_aload_n hx hb d hk h0 (k ls H locs hl hP hS)
theorem hd_t_aload (C : hd_Ok κ cc own Ts nL sh cl lv) {i : Nat} {x : Nat} (d : decode cc pc = .ok (.aload i, 2)) (hi : hd_get ρ i = hd_vR x) (k : hd_At κ (pc + 2) ρ (.ref (hd_ad κ x) :: st) S) : hd_At κ pc ρ st S := by
  obtain ⟨p, l, e, R, s, m, args, below, meth, cd, cells, slots, Q, D, cl, sh, ad, cA, A, PM, Z⟩ := κ
  obtain ⟨hx, hb, hown, hts, hK, hinj, hAd, hAn, ⟨hR1, hR2, hR3, hR4, hR5⟩, hml, rfl, rfl, hZo, hZ⟩ := C
  intro ls H locs hl hP hS
  have h0 := hl.2.2 i (by rw [hi]; rfl)
  rw [hi] at h0
  exact lv_aload hx hb d h0 (k ls H locs hl hP hS)
theorem hd_t_istore_n (C : hd_Ok κ cc own Ts nL sh cl lv) {kk : Fin 4} {i : Nat} {x : Int32} (d : decode cc pc = .ok (.istore_n kk, 1)) (hk : (kk : Nat) = i) (hn : i < nL) (k : hd_At κ (pc + 1) (hd_st ρ i (hd_vI x)) st S) : hd_At κ pc ρ (.int x :: st) S := by
  obtain ⟨p, l, e, R, s, m, args, below, meth, cd, cells, slots, Q, D, cl, sh, ad, cA, A, PM, Z⟩ := κ
  obtain ⟨hx, hb, hown, hts, hK, hinj, hAd, hAn, ⟨hR1, hR2, hR3, hR4, hR5⟩, hml, rfl, rfl, hZo, hZ⟩ := C
  intro ls H locs hl hP hS
  exact lv_istore_n hx hb d hk (hd_prs_of hl) (by rw [hml]; exact hn) rfl (fun ls' h' => k ls' H locs (hd_L_st (v := hd_vI x) rfl h') hP hS)
theorem hd_t_istore (C : hd_Ok κ cc own Ts nL sh cl lv) {i : Nat} {x : Int32} (d : decode cc pc = .ok (.istore i, 2)) (hn : i < nL) (k : hd_At κ (pc + 2) (hd_st ρ i (hd_vI x)) st S) : hd_At κ pc ρ (.int x :: st) S := by
  obtain ⟨p, l, e, R, s, m, args, below, meth, cd, cells, slots, Q, D, cl, sh, ad, cA, A, PM, Z⟩ := κ
  obtain ⟨hx, hb, hown, hts, hK, hinj, hAd, hAn, ⟨hR1, hR2, hR3, hR4, hR5⟩, hml, rfl, rfl, hZo, hZ⟩ := C
  intro ls H locs hl hP hS
  exact lv_istore hx hb d (hd_prs_of hl) (by rw [hml]; exact hn) rfl (fun ls' h' => k ls' H locs (hd_L_st (v := hd_vI x) rfl h') hP hS)
theorem hd_t_lstore_n (C : hd_Ok κ cc own Ts nL sh cl lv) {kk : Fin 4} {i : Nat} {x : Int64} (d : decode cc pc = .ok (.lstore_n kk, 1)) (hk : (kk : Nat) = i) (hn : i + 1 < nL) (k : hd_At κ (pc + 1) (hd_stW ρ i (hd_vJ x)) st S) : hd_At κ pc ρ (.long x :: st) S := by
  obtain ⟨p, l, e, R, s, m, args, below, meth, cd, cells, slots, Q, D, cl, sh, ad, cA, A, PM, Z⟩ := κ
  obtain ⟨hx, hb, hown, hts, hK, hinj, hAd, hAn, ⟨hR1, hR2, hR3, hR4, hR5⟩, hml, rfl, rfl, hZo, hZ⟩ := C
  intro ls H locs hl hP hS
  exact lv_lstore_n hx hb d hk (hd_prs_of hl) (by rw [hml]; exact hn) rfl (fun ls' h' => k ls' H locs (hd_L_stW (v := hd_vJ x) rfl h') hP hS)
theorem hd_t_lstore (C : hd_Ok κ cc own Ts nL sh cl lv) {i : Nat} {x : Int64} (d : decode cc pc = .ok (.lstore i, 2)) (hn : i + 1 < nL) (k : hd_At κ (pc + 2) (hd_stW ρ i (hd_vJ x)) st S) : hd_At κ pc ρ (.long x :: st) S := by
  obtain ⟨p, l, e, R, s, m, args, below, meth, cd, cells, slots, Q, D, cl, sh, ad, cA, A, PM, Z⟩ := κ
  obtain ⟨hx, hb, hown, hts, hK, hinj, hAd, hAn, ⟨hR1, hR2, hR3, hR4, hR5⟩, hml, rfl, rfl, hZo, hZ⟩ := C
  intro ls H locs hl hP hS
  exact lv_lstore hx hb d (hd_prs_of hl) (by rw [hml]; exact hn) rfl (fun ls' h' => k ls' H locs (hd_L_stW (v := hd_vJ x) rfl h') hP hS)
theorem hd_t_astore_n (C : hd_Ok κ cc own Ts nL sh cl lv) {kk : Fin 4} {i : Nat} {x : Nat} (d : decode cc pc = .ok (.astore_n kk, 1)) (hk : (kk : Nat) = i) (hn : i < nL) (k : hd_At κ (pc + 1) (hd_st ρ i (hd_vR x)) st S) : hd_At κ pc ρ (.ref (hd_ad κ x) :: st) S := by
  obtain ⟨p, l, e, R, s, m, args, below, meth, cd, cells, slots, Q, D, cl, sh, ad, cA, A, PM, Z⟩ := κ
  obtain ⟨hx, hb, hown, hts, hK, hinj, hAd, hAn, ⟨hR1, hR2, hR3, hR4, hR5⟩, hml, rfl, rfl, hZo, hZ⟩ := C
  intro ls H locs hl hP hS
  exact lv_astore_n hx hb d hk (hd_prs_of hl) (by rw [hml]; exact hn) rfl (fun ls' h' => k ls' H locs (hd_L_st (v := hd_vR x) rfl h') hP hS)
theorem hd_t_astore (C : hd_Ok κ cc own Ts nL sh cl lv) {i : Nat} {x : Nat} (d : decode cc pc = .ok (.astore i, 2)) (hn : i < nL) (k : hd_At κ (pc + 2) (hd_st ρ i (hd_vR x)) st S) : hd_At κ pc ρ (.ref (hd_ad κ x) :: st) S := by
  obtain ⟨p, l, e, R, s, m, args, below, meth, cd, cells, slots, Q, D, cl, sh, ad, cA, A, PM, Z⟩ := κ
  obtain ⟨hx, hb, hown, hts, hK, hinj, hAd, hAn, ⟨hR1, hR2, hR3, hR4, hR5⟩, hml, rfl, rfl, hZo, hZ⟩ := C
  intro ls H locs hl hP hS
  exact lv_astore hx hb d (hd_prs_of hl) (by rw [hml]; exact hn) rfl (fun ls' h' => k ls' H locs (hd_L_st (v := hd_vR x) rfl h') hP hS)
theorem hd_t_iinc (C : hd_Ok κ cc own Ts nL sh cl lv) {i : Nat} {n : Int} {x v : Int32} (d : decode cc pc = .ok (.iinc i n, 3)) (hi : hd_get ρ i = hd_vI x) (hn : i < nL) (hv : x + Int32.ofInt n = v) (k : hd_At κ (pc + 3) (hd_st ρ i (hd_vI v)) st S) : hd_At κ pc ρ st S := by
  obtain ⟨p, l, e, R, s, m, args, below, meth, cd, cells, slots, Q, D, cl, sh, ad, cA, A, PM, Z⟩ := κ
  obtain ⟨hx, hb, hown, hts, hK, hinj, hAd, hAn, ⟨hR1, hR2, hR3, hR4, hR5⟩, hml, rfl, rfl, hZo, hZ⟩ := C
  intro ls H locs hl hP hS
  have h0 : (i, hd_val ad (hd_get ρ i)) ∈ hd_prs ad ρ := hd_prs_in (by rw [hi]; rfl)
  rw [hi] at h0
  obtain ⟨j, hj⟩ := List.getElem?_of_mem h0
  exact lv_iinc hx hb d (hd_prs_of hl) hj hv (by rw [hml]; exact hn) rfl (fun ls' h' => k ls' H locs (hd_L_st (v := hd_vI v) rfl h') hP hS)
theorem hd_t_iadd (C : hd_Ok κ cc own Ts nL sh cl lv) {x y : Int32} (d : decode cc pc = .ok (.iadd, 1)) (k : hd_At κ (pc + 1) ρ (.int (x + y) :: st) S) : hd_At κ pc ρ (.int y :: .int x :: st) S := by
  obtain ⟨p, l, e, R, s, m, args, below, meth, cd, cells, slots, Q, D, cl, sh, ad, cA, A, PM, Z⟩ := κ
  obtain ⟨hx, hb, hown, hts, hK, hinj, hAd, hAn, ⟨hR1, hR2, hR3, hR4, hR5⟩, hml, rfl, rfl, hZo, hZ⟩ := C
  intro ls H locs hl hP hS
  exact lv_iadd hx hb d (k ls H locs hl hP hS)
theorem hd_t_isub (C : hd_Ok κ cc own Ts nL sh cl lv) {x y : Int32} (d : decode cc pc = .ok (.isub, 1)) (k : hd_At κ (pc + 1) ρ (.int (x - y) :: st) S) : hd_At κ pc ρ (.int y :: .int x :: st) S := by
  obtain ⟨p, l, e, R, s, m, args, below, meth, cd, cells, slots, Q, D, cl, sh, ad, cA, A, PM, Z⟩ := κ
  obtain ⟨hx, hb, hown, hts, hK, hinj, hAd, hAn, ⟨hR1, hR2, hR3, hR4, hR5⟩, hml, rfl, rfl, hZo, hZ⟩ := C
  intro ls H locs hl hP hS
  exact lv_isub hx hb d (k ls H locs hl hP hS)
theorem hd_t_imul (C : hd_Ok κ cc own Ts nL sh cl lv) {x y : Int32} (d : decode cc pc = .ok (.imul, 1)) (k : hd_At κ (pc + 1) ρ (.int (x * y) :: st) S) : hd_At κ pc ρ (.int y :: .int x :: st) S := by
  obtain ⟨p, l, e, R, s, m, args, below, meth, cd, cells, slots, Q, D, cl, sh, ad, cA, A, PM, Z⟩ := κ
  obtain ⟨hx, hb, hown, hts, hK, hinj, hAd, hAn, ⟨hR1, hR2, hR3, hR4, hR5⟩, hml, rfl, rfl, hZo, hZ⟩ := C
  intro ls H locs hl hP hS
  exact lv_imul hx hb d (k ls H locs hl hP hS)
theorem hd_t_iand (C : hd_Ok κ cc own Ts nL sh cl lv) {x y : Int32} (d : decode cc pc = .ok (.iand, 1)) (k : hd_At κ (pc + 1) ρ (.int (x &&& y) :: st) S) : hd_At κ pc ρ (.int y :: .int x :: st) S := by
  obtain ⟨p, l, e, R, s, m, args, below, meth, cd, cells, slots, Q, D, cl, sh, ad, cA, A, PM, Z⟩ := κ
  obtain ⟨hx, hb, hown, hts, hK, hinj, hAd, hAn, ⟨hR1, hR2, hR3, hR4, hR5⟩, hml, rfl, rfl, hZo, hZ⟩ := C
  intro ls H locs hl hP hS
  exact lv_iand hx hb d (k ls H locs hl hP hS)
theorem hd_t_ior (C : hd_Ok κ cc own Ts nL sh cl lv) {x y : Int32} (d : decode cc pc = .ok (.ior, 1)) (k : hd_At κ (pc + 1) ρ (.int (x ||| y) :: st) S) : hd_At κ pc ρ (.int y :: .int x :: st) S := by
  obtain ⟨p, l, e, R, s, m, args, below, meth, cd, cells, slots, Q, D, cl, sh, ad, cA, A, PM, Z⟩ := κ
  obtain ⟨hx, hb, hown, hts, hK, hinj, hAd, hAn, ⟨hR1, hR2, hR3, hR4, hR5⟩, hml, rfl, rfl, hZo, hZ⟩ := C
  intro ls H locs hl hP hS
  exact lv_ior hx hb d (k ls H locs hl hP hS)
theorem hd_t_ixor (C : hd_Ok κ cc own Ts nL sh cl lv) {x y : Int32} (d : decode cc pc = .ok (.ixor, 1)) (k : hd_At κ (pc + 1) ρ (.int (x ^^^ y) :: st) S) : hd_At κ pc ρ (.int y :: .int x :: st) S := by
  obtain ⟨p, l, e, R, s, m, args, below, meth, cd, cells, slots, Q, D, cl, sh, ad, cA, A, PM, Z⟩ := κ
  obtain ⟨hx, hb, hown, hts, hK, hinj, hAd, hAn, ⟨hR1, hR2, hR3, hR4, hR5⟩, hml, rfl, rfl, hZo, hZ⟩ := C
  intro ls H locs hl hP hS
  exact lv_ixor hx hb d (k ls H locs hl hP hS)
theorem hd_t_ishl (C : hd_Ok κ cc own Ts nL sh cl lv) {x y : Int32} (d : decode cc pc = .ok (.ishl, 1)) (k : hd_At κ (pc + 1) ρ (.int (x <<< (y &&& 31)) :: st) S) : hd_At κ pc ρ (.int y :: .int x :: st) S := by
  obtain ⟨p, l, e, R, s, m, args, below, meth, cd, cells, slots, Q, D, cl, sh, ad, cA, A, PM, Z⟩ := κ
  obtain ⟨hx, hb, hown, hts, hK, hinj, hAd, hAn, ⟨hR1, hR2, hR3, hR4, hR5⟩, hml, rfl, rfl, hZo, hZ⟩ := C
  intro ls H locs hl hP hS
  exact lv_ishl hx hb d (k ls H locs hl hP hS)
theorem hd_t_ishr (C : hd_Ok κ cc own Ts nL sh cl lv) {x y : Int32} (d : decode cc pc = .ok (.ishr, 1)) (k : hd_At κ (pc + 1) ρ (.int (x >>> (y &&& 31)) :: st) S) : hd_At κ pc ρ (.int y :: .int x :: st) S := by
  obtain ⟨p, l, e, R, s, m, args, below, meth, cd, cells, slots, Q, D, cl, sh, ad, cA, A, PM, Z⟩ := κ
  obtain ⟨hx, hb, hown, hts, hK, hinj, hAd, hAn, ⟨hR1, hR2, hR3, hR4, hR5⟩, hml, rfl, rfl, hZo, hZ⟩ := C
  intro ls H locs hl hP hS
  exact lv_ishr hx hb d (k ls H locs hl hP hS)
theorem hd_t_idiv (C : hd_Ok κ cc own Ts nL sh cl lv) {x y : Int32} (d : decode cc pc = .ok (.idiv, 1)) (hy : ¬ y = 0) (k : hd_At κ (pc + 1) ρ (.int (x / y) :: st) S) : hd_At κ pc ρ (.int y :: .int x :: st) S := by
  obtain ⟨p, l, e, R, s, m, args, below, meth, cd, cells, slots, Q, D, cl, sh, ad, cA, A, PM, Z⟩ := κ
  obtain ⟨hx, hb, hown, hts, hK, hinj, hAd, hAn, ⟨hR1, hR2, hR3, hR4, hR5⟩, hml, rfl, rfl, hZo, hZ⟩ := C
  intro ls H locs hl hP hS
  exact lv_idiv hx hb d hy (k ls H locs hl hP hS)
theorem hd_t_irem (C : hd_Ok κ cc own Ts nL sh cl lv) {x y : Int32} (d : decode cc pc = .ok (.irem, 1)) (hy : ¬ y = 0) (k : hd_At κ (pc + 1) ρ (.int (x - x / y * y) :: st) S) : hd_At κ pc ρ (.int y :: .int x :: st) S := by
  obtain ⟨p, l, e, R, s, m, args, below, meth, cd, cells, slots, Q, D, cl, sh, ad, cA, A, PM, Z⟩ := κ
  obtain ⟨hx, hb, hown, hts, hK, hinj, hAd, hAn, ⟨hR1, hR2, hR3, hR4, hR5⟩, hml, rfl, rfl, hZo, hZ⟩ := C
  intro ls H locs hl hP hS
  exact lv_irem hx hb d hy (k ls H locs hl hP hS)
theorem hd_t_ladd (C : hd_Ok κ cc own Ts nL sh cl lv) {x y : Int64} (d : decode cc pc = .ok (.ladd, 1)) (k : hd_At κ (pc + 1) ρ (.long (x + y) :: st) S) : hd_At κ pc ρ (.long y :: .long x :: st) S := by
  obtain ⟨p, l, e, R, s, m, args, below, meth, cd, cells, slots, Q, D, cl, sh, ad, cA, A, PM, Z⟩ := κ
  obtain ⟨hx, hb, hown, hts, hK, hinj, hAd, hAn, ⟨hR1, hR2, hR3, hR4, hR5⟩, hml, rfl, rfl, hZo, hZ⟩ := C
  intro ls H locs hl hP hS
  exact lv_ladd hx hb d (k ls H locs hl hP hS)
theorem hd_t_lmul (C : hd_Ok κ cc own Ts nL sh cl lv) {x y : Int64} (d : decode cc pc = .ok (.lmul, 1)) (k : hd_At κ (pc + 1) ρ (.long (x * y) :: st) S) : hd_At κ pc ρ (.long y :: .long x :: st) S := by
  obtain ⟨p, l, e, R, s, m, args, below, meth, cd, cells, slots, Q, D, cl, sh, ad, cA, A, PM, Z⟩ := κ
  obtain ⟨hx, hb, hown, hts, hK, hinj, hAd, hAn, ⟨hR1, hR2, hR3, hR4, hR5⟩, hml, rfl, rfl, hZo, hZ⟩ := C
  intro ls H locs hl hP hS
  exact lv_lmul hx hb d (k ls H locs hl hP hS)
theorem hd_t_land (C : hd_Ok κ cc own Ts nL sh cl lv) {x y : Int64} (d : decode cc pc = .ok (.land, 1)) (k : hd_At κ (pc + 1) ρ (.long (x &&& y) :: st) S) : hd_At κ pc ρ (.long y :: .long x :: st) S := by
  obtain ⟨p, l, e, R, s, m, args, below, meth, cd, cells, slots, Q, D, cl, sh, ad, cA, A, PM, Z⟩ := κ
  obtain ⟨hx, hb, hown, hts, hK, hinj, hAd, hAn, ⟨hR1, hR2, hR3, hR4, hR5⟩, hml, rfl, rfl, hZo, hZ⟩ := C
  intro ls H locs hl hP hS
  exact lv_land hx hb d (k ls H locs hl hP hS)
theorem hd_t_ldiv (C : hd_Ok κ cc own Ts nL sh cl lv) {x y : Int64} (d : decode cc pc = .ok (.ldiv, 1)) (hy : ¬ y = 0) (k : hd_At κ (pc + 1) ρ (.long (x / y) :: st) S) : hd_At κ pc ρ (.long y :: .long x :: st) S := by
  obtain ⟨p, l, e, R, s, m, args, below, meth, cd, cells, slots, Q, D, cl, sh, ad, cA, A, PM, Z⟩ := κ
  obtain ⟨hx, hb, hown, hts, hK, hinj, hAd, hAn, ⟨hR1, hR2, hR3, hR4, hR5⟩, hml, rfl, rfl, hZo, hZ⟩ := C
  intro ls H locs hl hP hS
  exact lv_ldiv hx hb d hy (k ls H locs hl hP hS)
theorem hd_t_lrem (C : hd_Ok κ cc own Ts nL sh cl lv) {x y : Int64} (d : decode cc pc = .ok (.lrem, 1)) (hy : ¬ y = 0) (k : hd_At κ (pc + 1) ρ (.long (x - x / y * y) :: st) S) : hd_At κ pc ρ (.long y :: .long x :: st) S := by
  obtain ⟨p, l, e, R, s, m, args, below, meth, cd, cells, slots, Q, D, cl, sh, ad, cA, A, PM, Z⟩ := κ
  obtain ⟨hx, hb, hown, hts, hK, hinj, hAd, hAn, ⟨hR1, hR2, hR3, hR4, hR5⟩, hml, rfl, rfl, hZo, hZ⟩ := C
  intro ls H locs hl hP hS
  exact lv_lrem hx hb d hy (k ls H locs hl hP hS)
theorem hd_t_iushr (C : hd_Ok κ cc own Ts nL sh cl lv) {x y : Int32} (d : decode cc pc = .ok (.iushr, 1)) (k : hd_At κ (pc + 1) ρ (.int ((x.toUInt32 >>> (y.toUInt32 &&& Int32.toUInt32 31)).toInt32) :: st) S) : hd_At κ pc ρ (.int y :: .int x :: st) S := by
  obtain ⟨p, l, e, R, s, m, args, below, meth, cd, cells, slots, Q, D, cl, sh, ad, cA, A, PM, Z⟩ := κ
  obtain ⟨hx, hb, hown, hts, hK, hinj, hAd, hAn, ⟨hR1, hR2, hR3, hR4, hR5⟩, hml, rfl, rfl, hZo, hZ⟩ := C
  intro ls H locs hl hP hS
  exact lv_iushr hx hb d rfl (k ls H locs hl hP hS)
theorem hd_t_lshl (C : hd_Ok κ cc own Ts nL sh cl lv) {x : Int64} {y : Int32} (d : decode cc pc = .ok (.lshl, 1)) (k : hd_At κ (pc + 1) ρ (.long (x <<< (y.toInt64 &&& 63)) :: st) S) : hd_At κ pc ρ (.int y :: .long x :: st) S := by
  obtain ⟨p, l, e, R, s, m, args, below, meth, cd, cells, slots, Q, D, cl, sh, ad, cA, A, PM, Z⟩ := κ
  obtain ⟨hx, hb, hown, hts, hK, hinj, hAd, hAn, ⟨hR1, hR2, hR3, hR4, hR5⟩, hml, rfl, rfl, hZo, hZ⟩ := C
  intro ls H locs hl hP hS
  exact lv_lshl hx hb d rfl (k ls H locs hl hP hS)
theorem hd_t_lshr (C : hd_Ok κ cc own Ts nL sh cl lv) {x : Int64} {y : Int32} (d : decode cc pc = .ok (.lshr, 1)) (k : hd_At κ (pc + 1) ρ (.long (x >>> (y.toInt64 &&& 63)) :: st) S) : hd_At κ pc ρ (.int y :: .long x :: st) S := by
  obtain ⟨p, l, e, R, s, m, args, below, meth, cd, cells, slots, Q, D, cl, sh, ad, cA, A, PM, Z⟩ := κ
  obtain ⟨hx, hb, hown, hts, hK, hinj, hAd, hAn, ⟨hR1, hR2, hR3, hR4, hR5⟩, hml, rfl, rfl, hZo, hZ⟩ := C
  intro ls H locs hl hP hS
  exact lv_lshr hx hb d rfl (k ls H locs hl hP hS)
theorem hd_t_ineg (C : hd_Ok κ cc own Ts nL sh cl lv) {x : Int32} (d : decode cc pc = .ok (.ineg, 1)) (k : hd_At κ (pc + 1) ρ (.int (-x) :: st) S) : hd_At κ pc ρ (.int x :: st) S := by
  obtain ⟨p, l, e, R, s, m, args, below, meth, cd, cells, slots, Q, D, cl, sh, ad, cA, A, PM, Z⟩ := κ
  obtain ⟨hx, hb, hown, hts, hK, hinj, hAd, hAn, ⟨hR1, hR2, hR3, hR4, hR5⟩, hml, rfl, rfl, hZo, hZ⟩ := C
  intro ls H locs hl hP hS
  exact lv_ineg hx hb d (k ls H locs hl hP hS)
theorem hd_t_lneg (C : hd_Ok κ cc own Ts nL sh cl lv) {x : Int64} (d : decode cc pc = .ok (.lneg, 1)) (k : hd_At κ (pc + 1) ρ (.long (-x) :: st) S) : hd_At κ pc ρ (.long x :: st) S := by
  obtain ⟨p, l, e, R, s, m, args, below, meth, cd, cells, slots, Q, D, cl, sh, ad, cA, A, PM, Z⟩ := κ
  obtain ⟨hx, hb, hown, hts, hK, hinj, hAd, hAn, ⟨hR1, hR2, hR3, hR4, hR5⟩, hml, rfl, rfl, hZo, hZ⟩ := C
  intro ls H locs hl hP hS
  exact lv_lneg hx hb d (k ls H locs hl hP hS)
theorem hd_t_i2l (C : hd_Ok κ cc own Ts nL sh cl lv) {x : Int32} (d : decode cc pc = .ok (.i2l, 1)) (k : hd_At κ (pc + 1) ρ (.long x.toInt64 :: st) S) : hd_At κ pc ρ (.int x :: st) S := by
  obtain ⟨p, l, e, R, s, m, args, below, meth, cd, cells, slots, Q, D, cl, sh, ad, cA, A, PM, Z⟩ := κ
  obtain ⟨hx, hb, hown, hts, hK, hinj, hAd, hAn, ⟨hR1, hR2, hR3, hR4, hR5⟩, hml, rfl, rfl, hZo, hZ⟩ := C
  intro ls H locs hl hP hS
  exact lv_i2l hx hb d rfl (k ls H locs hl hP hS)
theorem hd_t_l2i (C : hd_Ok κ cc own Ts nL sh cl lv) {x : Int64} (d : decode cc pc = .ok (.l2i, 1)) (k : hd_At κ (pc + 1) ρ (.int x.toInt32 :: st) S) : hd_At κ pc ρ (.long x :: st) S := by
  obtain ⟨p, l, e, R, s, m, args, below, meth, cd, cells, slots, Q, D, cl, sh, ad, cA, A, PM, Z⟩ := κ
  obtain ⟨hx, hb, hown, hts, hK, hinj, hAd, hAn, ⟨hR1, hR2, hR3, hR4, hR5⟩, hml, rfl, rfl, hZo, hZ⟩ := C
  intro ls H locs hl hP hS
  exact lv_l2i hx hb d rfl (k ls H locs hl hP hS)
theorem hd_t_lcmp (C : hd_Ok κ cc own Ts nL sh cl lv) {x y : Int64} (d : decode cc pc = .ok (.lcmp, 1)) (k : hd_At κ (pc + 1) ρ (.int (lg_cmp x y) :: st) S) : hd_At κ pc ρ (.long y :: .long x :: st) S := by
  obtain ⟨p, l, e, R, s, m, args, below, meth, cd, cells, slots, Q, D, cl, sh, ad, cA, A, PM, Z⟩ := κ
  obtain ⟨hx, hb, hown, hts, hK, hinj, hAd, hAn, ⟨hR1, hR2, hR3, hR4, hR5⟩, hml, rfl, rfl, hZo, hZ⟩ := C
  intro ls H locs hl hP hS
  exact W.lcmp hx hb d (k ls H locs hl hP hS)
theorem hd_t_dup (C : hd_Ok κ cc own Ts nL sh cl lv) {a : Value} (d : decode cc pc = .ok (.dup, 1)) (ha : a.category = 1) (k : hd_At κ (pc + 1) ρ (a :: a :: st) S) : hd_At κ pc ρ (a :: st) S := by
  obtain ⟨p, l, e, R, s, m, args, below, meth, cd, cells, slots, Q, D, cl, sh, ad, cA, A, PM, Z⟩ := κ
  obtain ⟨hx, hb, hown, hts, hK, hinj, hAd, hAn, ⟨hR1, hR2, hR3, hR4, hR5⟩, hml, rfl, rfl, hZo, hZ⟩ := C
  intro ls H locs hl hP hS
  exact lv_dup hx hb d ha (k ls H locs hl hP hS)
theorem hd_t_dup2 (C : hd_Ok κ cc own Ts nL sh cl lv) {a b : Value} (d : decode cc pc = .ok (.dup2, 1)) (ha : a.category = 1) (hb1 : b.category = 1) (k : hd_At κ (pc + 1) ρ (a :: b :: a :: b :: st) S) : hd_At κ pc ρ (a :: b :: st) S := by
  obtain ⟨p, l, e, R, s, m, args, below, meth, cd, cells, slots, Q, D, cl, sh, ad, cA, A, PM, Z⟩ := κ
  obtain ⟨hx, hb, hown, hts, hK, hinj, hAd, hAn, ⟨hR1, hR2, hR3, hR4, hR5⟩, hml, rfl, rfl, hZo, hZ⟩ := C
  intro ls H locs hl hP hS
  exact lv_dup2_11 hx hb d ha hb1 (k ls H locs hl hP hS)
theorem hd_t_pop (C : hd_Ok κ cc own Ts nL sh cl lv) {a : Value} (d : decode cc pc = .ok (.pop, 1)) (ha : a.category = 1) (k : hd_At κ (pc + 1) ρ (st) S) : hd_At κ pc ρ (a :: st) S := by
  obtain ⟨p, l, e, R, s, m, args, below, meth, cd, cells, slots, Q, D, cl, sh, ad, cA, A, PM, Z⟩ := κ
  obtain ⟨hx, hb, hown, hts, hK, hinj, hAd, hAn, ⟨hR1, hR2, hR3, hR4, hR5⟩, hml, rfl, rfl, hZo, hZ⟩ := C
  intro ls H locs hl hP hS
  exact lv_pop hx hb d ha (k ls H locs hl hP hS)
theorem hd_t_goto (C : hd_Ok κ cc own Ts nL sh cl lv) {off : Int} {tgt : Nat} (d : decode cc pc = .ok (.goto off, 3)) (ht : (pc : Int) + off = (tgt : Int)) (k : hd_At κ tgt ρ st S) : hd_At κ pc ρ st S := by
  obtain ⟨p, l, e, R, s, m, args, below, meth, cd, cells, slots, Q, D, cl, sh, ad, cA, A, PM, Z⟩ := κ
  obtain ⟨hx, hb, hown, hts, hK, hinj, hAd, hAn, ⟨hR1, hR2, hR3, hR4, hR5⟩, hml, rfl, rfl, hZo, hZ⟩ := C
  intro ls H locs hl hP hS
  exact lv_goto hx hb d ht (k ls H locs hl hP hS)
theorem hd_t_icmp_eq (C : hd_Ok κ cc own Ts nL sh cl lv) {x y : Int32} {off : Int} {tgt : Nat} (d : decode cc pc = .ok (.if_icmp .eq off, 3)) (ht : (pc : Int) + off = (tgt : Int)) (kt : x = y → hd_At κ tgt ρ st S) (kf : ¬ x = y → hd_At κ (pc + 3) ρ st S) : hd_At κ pc ρ (.int y :: .int x :: st) S := by
  obtain ⟨p, l, e, R, s, m, args, below, meth, cd, cells, slots, Q, D, cl, sh, ad, cA, A, PM, Z⟩ := κ
  obtain ⟨hx, hb, hown, hts, hK, hinj, hAd, hAn, ⟨hR1, hR2, hR3, hR4, hR5⟩, hml, rfl, rfl, hZo, hZ⟩ := C
  intro ls H locs hl hP hS
  exact lv_icmp_eq hx hb d ht (fun h => kt h ls H locs hl hP hS) (fun h => kf h ls H locs hl hP hS)
theorem hd_t_icmp_ne (C : hd_Ok κ cc own Ts nL sh cl lv) {x y : Int32} {off : Int} {tgt : Nat} (d : decode cc pc = .ok (.if_icmp .ne off, 3)) (ht : (pc : Int) + off = (tgt : Int)) (kt : ¬ x = y → hd_At κ tgt ρ st S) (kf : x = y → hd_At κ (pc + 3) ρ st S) : hd_At κ pc ρ (.int y :: .int x :: st) S := by
  obtain ⟨p, l, e, R, s, m, args, below, meth, cd, cells, slots, Q, D, cl, sh, ad, cA, A, PM, Z⟩ := κ
  obtain ⟨hx, hb, hown, hts, hK, hinj, hAd, hAn, ⟨hR1, hR2, hR3, hR4, hR5⟩, hml, rfl, rfl, hZo, hZ⟩ := C
  intro ls H locs hl hP hS
  exact lv_icmp_ne hx hb d ht (fun h => kt h ls H locs hl hP hS) (fun h => kf h ls H locs hl hP hS)
theorem hd_t_icmp_lt (C : hd_Ok κ cc own Ts nL sh cl lv) {x y : Int32} {off : Int} {tgt : Nat} (d : decode cc pc = .ok (.if_icmp .lt off, 3)) (ht : (pc : Int) + off = (tgt : Int)) (kt : x < y → hd_At κ tgt ρ st S) (kf : ¬ x < y → hd_At κ (pc + 3) ρ st S) : hd_At κ pc ρ (.int y :: .int x :: st) S := by
  obtain ⟨p, l, e, R, s, m, args, below, meth, cd, cells, slots, Q, D, cl, sh, ad, cA, A, PM, Z⟩ := κ
  obtain ⟨hx, hb, hown, hts, hK, hinj, hAd, hAn, ⟨hR1, hR2, hR3, hR4, hR5⟩, hml, rfl, rfl, hZo, hZ⟩ := C
  intro ls H locs hl hP hS
  exact lv_icmp_lt hx hb d ht (fun h => kt h ls H locs hl hP hS) (fun h => kf h ls H locs hl hP hS)
theorem hd_t_icmp_ge (C : hd_Ok κ cc own Ts nL sh cl lv) {x y : Int32} {off : Int} {tgt : Nat} (d : decode cc pc = .ok (.if_icmp .ge off, 3)) (ht : (pc : Int) + off = (tgt : Int)) (kt : y ≤ x → hd_At κ tgt ρ st S) (kf : ¬ y ≤ x → hd_At κ (pc + 3) ρ st S) : hd_At κ pc ρ (.int y :: .int x :: st) S := by
  obtain ⟨p, l, e, R, s, m, args, below, meth, cd, cells, slots, Q, D, cl, sh, ad, cA, A, PM, Z⟩ := κ
  obtain ⟨hx, hb, hown, hts, hK, hinj, hAd, hAn, ⟨hR1, hR2, hR3, hR4, hR5⟩, hml, rfl, rfl, hZo, hZ⟩ := C
  intro ls H locs hl hP hS
  exact lv_icmp_ge hx hb d ht (fun h => kt h ls H locs hl hP hS) (fun h => kf h ls H locs hl hP hS)
theorem hd_t_icmp_gt (C : hd_Ok κ cc own Ts nL sh cl lv) {x y : Int32} {off : Int} {tgt : Nat} (d : decode cc pc = .ok (.if_icmp .gt off, 3)) (ht : (pc : Int) + off = (tgt : Int)) (kt : y < x → hd_At κ tgt ρ st S) (kf : ¬ y < x → hd_At κ (pc + 3) ρ st S) : hd_At κ pc ρ (.int y :: .int x :: st) S := by
  obtain ⟨p, l, e, R, s, m, args, below, meth, cd, cells, slots, Q, D, cl, sh, ad, cA, A, PM, Z⟩ := κ
  obtain ⟨hx, hb, hown, hts, hK, hinj, hAd, hAn, ⟨hR1, hR2, hR3, hR4, hR5⟩, hml, rfl, rfl, hZo, hZ⟩ := C
  intro ls H locs hl hP hS
  exact lv_icmp_gt hx hb d ht (fun h => kt h ls H locs hl hP hS) (fun h => kf h ls H locs hl hP hS)
theorem hd_t_icmp_le (C : hd_Ok κ cc own Ts nL sh cl lv) {x y : Int32} {off : Int} {tgt : Nat} (d : decode cc pc = .ok (.if_icmp .le off, 3)) (ht : (pc : Int) + off = (tgt : Int)) (kt : x ≤ y → hd_At κ tgt ρ st S) (kf : ¬ x ≤ y → hd_At κ (pc + 3) ρ st S) : hd_At κ pc ρ (.int y :: .int x :: st) S := by
  obtain ⟨p, l, e, R, s, m, args, below, meth, cd, cells, slots, Q, D, cl, sh, ad, cA, A, PM, Z⟩ := κ
  obtain ⟨hx, hb, hown, hts, hK, hinj, hAd, hAn, ⟨hR1, hR2, hR3, hR4, hR5⟩, hml, rfl, rfl, hZo, hZ⟩ := C
  intro ls H locs hl hP hS
  exact lv_icmp_le hx hb d ht (fun h => kt h ls H locs hl hP hS) (fun h => kf h ls H locs hl hP hS)
theorem hd_t_if_eq (C : hd_Ok κ cc own Ts nL sh cl lv) {x y : Int32} {off : Int} {tgt : Nat} (d : decode cc pc = .ok (.ifCond .eq off, 3)) (ht : (pc : Int) + off = (tgt : Int)) (kt : x = 0 → hd_At κ tgt ρ st S) (kf : ¬ x = 0 → hd_At κ (pc + 3) ρ st S) : hd_At κ pc ρ (.int x :: st) S := by
  obtain ⟨p, l, e, R, s, m, args, below, meth, cd, cells, slots, Q, D, cl, sh, ad, cA, A, PM, Z⟩ := κ
  obtain ⟨hx, hb, hown, hts, hK, hinj, hAd, hAn, ⟨hR1, hR2, hR3, hR4, hR5⟩, hml, rfl, rfl, hZo, hZ⟩ := C
  intro ls H locs hl hP hS
  exact lv_if_eq hx hb d ht (fun h => kt h ls H locs hl hP hS) (fun h => kf h ls H locs hl hP hS)
theorem hd_t_if_ne (C : hd_Ok κ cc own Ts nL sh cl lv) {x y : Int32} {off : Int} {tgt : Nat} (d : decode cc pc = .ok (.ifCond .ne off, 3)) (ht : (pc : Int) + off = (tgt : Int)) (kt : ¬ x = 0 → hd_At κ tgt ρ st S) (kf : x = 0 → hd_At κ (pc + 3) ρ st S) : hd_At κ pc ρ (.int x :: st) S := by
  obtain ⟨p, l, e, R, s, m, args, below, meth, cd, cells, slots, Q, D, cl, sh, ad, cA, A, PM, Z⟩ := κ
  obtain ⟨hx, hb, hown, hts, hK, hinj, hAd, hAn, ⟨hR1, hR2, hR3, hR4, hR5⟩, hml, rfl, rfl, hZo, hZ⟩ := C
  intro ls H locs hl hP hS
  exact lv_if_ne hx hb d ht (fun h => kt h ls H locs hl hP hS) (fun h => kf h ls H locs hl hP hS)
theorem hd_t_if_lt (C : hd_Ok κ cc own Ts nL sh cl lv) {x y : Int32} {off : Int} {tgt : Nat} (d : decode cc pc = .ok (.ifCond .lt off, 3)) (ht : (pc : Int) + off = (tgt : Int)) (kt : x < 0 → hd_At κ tgt ρ st S) (kf : ¬ x < 0 → hd_At κ (pc + 3) ρ st S) : hd_At κ pc ρ (.int x :: st) S := by
  obtain ⟨p, l, e, R, s, m, args, below, meth, cd, cells, slots, Q, D, cl, sh, ad, cA, A, PM, Z⟩ := κ
  obtain ⟨hx, hb, hown, hts, hK, hinj, hAd, hAn, ⟨hR1, hR2, hR3, hR4, hR5⟩, hml, rfl, rfl, hZo, hZ⟩ := C
  intro ls H locs hl hP hS
  exact lv_if_lt hx hb d ht (fun h => kt h ls H locs hl hP hS) (fun h => kf h ls H locs hl hP hS)
theorem hd_t_if_ge (C : hd_Ok κ cc own Ts nL sh cl lv) {x y : Int32} {off : Int} {tgt : Nat} (d : decode cc pc = .ok (.ifCond .ge off, 3)) (ht : (pc : Int) + off = (tgt : Int)) (kt : 0 ≤ x → hd_At κ tgt ρ st S) (kf : ¬ 0 ≤ x → hd_At κ (pc + 3) ρ st S) : hd_At κ pc ρ (.int x :: st) S := by
  obtain ⟨p, l, e, R, s, m, args, below, meth, cd, cells, slots, Q, D, cl, sh, ad, cA, A, PM, Z⟩ := κ
  obtain ⟨hx, hb, hown, hts, hK, hinj, hAd, hAn, ⟨hR1, hR2, hR3, hR4, hR5⟩, hml, rfl, rfl, hZo, hZ⟩ := C
  intro ls H locs hl hP hS
  exact lv_if_ge hx hb d ht (fun h => kt h ls H locs hl hP hS) (fun h => kf h ls H locs hl hP hS)
theorem hd_t_if_gt (C : hd_Ok κ cc own Ts nL sh cl lv) {x y : Int32} {off : Int} {tgt : Nat} (d : decode cc pc = .ok (.ifCond .gt off, 3)) (ht : (pc : Int) + off = (tgt : Int)) (kt : 0 < x → hd_At κ tgt ρ st S) (kf : ¬ 0 < x → hd_At κ (pc + 3) ρ st S) : hd_At κ pc ρ (.int x :: st) S := by
  obtain ⟨p, l, e, R, s, m, args, below, meth, cd, cells, slots, Q, D, cl, sh, ad, cA, A, PM, Z⟩ := κ
  obtain ⟨hx, hb, hown, hts, hK, hinj, hAd, hAn, ⟨hR1, hR2, hR3, hR4, hR5⟩, hml, rfl, rfl, hZo, hZ⟩ := C
  intro ls H locs hl hP hS
  exact lv_if_gt hx hb d ht (fun h => kt h ls H locs hl hP hS) (fun h => kf h ls H locs hl hP hS)
theorem hd_t_if_le (C : hd_Ok κ cc own Ts nL sh cl lv) {x y : Int32} {off : Int} {tgt : Nat} (d : decode cc pc = .ok (.ifCond .le off, 3)) (ht : (pc : Int) + off = (tgt : Int)) (kt : x ≤ 0 → hd_At κ tgt ρ st S) (kf : ¬ x ≤ 0 → hd_At κ (pc + 3) ρ st S) : hd_At κ pc ρ (.int x :: st) S := by
  obtain ⟨p, l, e, R, s, m, args, below, meth, cd, cells, slots, Q, D, cl, sh, ad, cA, A, PM, Z⟩ := κ
  obtain ⟨hx, hb, hown, hts, hK, hinj, hAd, hAn, ⟨hR1, hR2, hR3, hR4, hR5⟩, hml, rfl, rfl, hZo, hZ⟩ := C
  intro ls H locs hl hP hS
  exact lv_if_le hx hb d ht (fun h => kt h ls H locs hl hP hS) (fun h => kf h ls H locs hl hP hS)
end HDSTEP
