/-! Past: eight plans kept for undo -/
def hc_pl (cA : Nat → ClassId) (g : Nat → Nat) (r : Nat → Nat → Nat) : Nat → va_W
  | 0 => []
  | i + 1 => hc_pl cA g r i ++ cg_X5 cA (g i) (r i)
theorem hc_pl_cong (cA : Nat → ClassId) {g g2 : Nat → Nat} {r r2 : Nat → Nat → Nat} : ∀ i, (∀ j, j < i → g j = g2 j ∧ r j = r2 j) → hc_pl cA g r i = hc_pl cA g2 r2 i
  | 0, _ => rfl
  | i + 1, h => by
    simp only [hc_pl]
    rw [hc_pl_cong cA i (fun j hj => h j (by omega)), (h i (by omega)).1, (h i (by omega)).2]
theorem hc_pl_len (cA : Nat → ClassId) (g : Nat → Nat) (r : Nat → Nat → Nat) : ∀ i, (hc_pl cA g r i).length = 9 * i
  | 0 => rfl
  | i + 1 => by
    simp only [hc_pl, List.length_append, hc_pl_len cA g r i]
    show 9 * i + 9 = 9 * (i + 1)
    omega
abbrev hc_T4 : Type := Nat × (Nat → Nat) × (Nat → Nat → Nat)
def cg_X4i (cA : Nat → ClassId) (h0 q : Nat) (g : Nat → Nat) (r : Nat → Nat → Nat) (i : Nat) : va_W := [(h0, .inr (4, [.ref q, .int 0])), (q, .inl (cA 2, 8, .inr (.inr (.inr (.inr (fun j => if j < i then some (g j) else none))))))] ++ hc_pl cA g r i
def cg_X4 (cA : Nat → ClassId) (h0 : Nat) (u : hc_T4) : va_W := cg_X4i cA h0 u.1 u.2.1 u.2.2 8
set_option maxRecDepth 100000 in
theorem ucc_X4 : ∀ w ∈ u_ws RX4 TX4 2, w ∈ wsX4_init := by decide +kernel
set_option maxRecDepth 100000 in
theorem ucc_X4_5 : ∀ w ∈ u_ws RX5 TX5 10, w ∈ wsX4_init := by decide +kernel
theorem hc_vup {i o : Nat} {g : Nat → Nat} : va_up (fun j => if j < i then some (g j) else none) i (some o) = (fun j => if j < i + 1 then some (if j = i then o else g j) else none) := by
  funext j
  unfold va_up
  by_cases h : j = i
  · rw [if_pos h, if_pos (by omega), if_pos h]
  · rw [if_neg h, if_neg h]
    show (if j < i then some (g j) else none) = _
    by_cases hl : j < i
    · rw [if_pos hl, if_pos (by omega)]
    · rw [if_neg hl, if_neg (by omega)]
theorem hc_eqc {p : Program} {l : Launch} {e : Env} {R : Room} {s : State} {m : MethodId} {args : Array Value} {below : List Frame} {meth : Method} {c : Code} {H : Heap} {locs : List Loc} {Q : State → Prop} {g : JFrame} {a b a2 b2 : Nat} (h1 : a = a2) (h2 : b = b2) (k : W p l e R s m args below meth c H locs a2 b2 Q g) : W p l e R s m args below meth c H locs a b Q g := by
  subst h1
  subst h2
  exact k
set_option maxHeartbeats 4000000 in
set_option maxRecDepth 100000 in
theorem hc_past_loop {p : Program} {l : Launch} {e : Env} {R : Room} {s : State} {m : MethodId} {args : Array Value} {below : List Frame} {meth : Method} {c : Code} {Q : State → Prop} {D : va_G} {A : Nat → Prop} {cA : Nat → ClassId} {h0 q : Nat}
    (hx : p.tables.exec = Jvm.exec) (hb : c.code = cX4_init) (hml : c.maxLocals = 2) (hts : ∀ w ∈ wsX4_init, w.before args s = true) (hown : s.vm.findClass RX4 = some m.cls) (hK : va_K D vwCl (hd_tys cA) s) (hN : hc_N cA s) (hA : ∀ q, s.heap.size ≤ q → A q) (hRf : 3 ≤ R.frames) (hRl : 100 ≤ R.locals) (hRc : 73 ≤ R.cells) (hRs : 952 ≤ R.slots)
    (kk : ∀ (g : Nat → Nat) (r : Nat → Nat → Nat) (H : Heap) (locs : List Loc) (ls : Array Slot), va_P D vwCl (cg_X4i cA h0 q g r 8) H → va_D A (cg_X4i cA h0 q g r 8) → va_S A s.heap H locs → W p l e R s m args below meth c H locs 73 952 Q (F0 m 40 ls [])) :
    ∀ (k i : Nat), i + k = 8 → ∀ (g : Nat → Nat) (r : Nat → Nat → Nat) (H : Heap) (locs : List Loc) (ls : Array Slot), lv_has ls 2 [(0, .ref h0), (1, .int (nI i))] → va_P D vwCl (cg_X4i cA h0 q g r i) H → va_D A (cg_X4i cA h0 q g r i) → va_S A s.heap H locs → W p l e R s m args below meth c H locs (1 + 9 * i) (8 + 118 * i) Q (F0 m 15 ls []) := by
  intro k
  induction k with
  | zero =>
    intro i hik g r H locs ls hl hP hD hS
    have hi : i = 8 := by omega
    subst hi
    refine lv_iload_n hx hb dX4_init_15 rfl (lv_at hl 1 rfl) ?_
    refine lv_bipush (v := 8) hx hb dX4_init_16 (by decide) ?_
    refine lv_icmp_ge (tgt := 40) hx hb dX4_init_18 (by decide) (fun _ => ?_) (fun hn => absurd (Int32.le_refl _) hn)
    exact kk g r H locs ls hP hD hS
  | succ k ih =>
    intro i hik g r H locs ls hl hP hD hS
    refine lv_iload_n hx hb dX4_init_15 rfl (lv_at hl 1 rfl) ?_
    refine lv_bipush (v := 8) hx hb dX4_init_16 (by decide) ?_
    refine lv_icmp_ge (tgt := 40) hx hb dX4_init_18 (by decide) (fun hy => absurd ((hb_le (a := 8) (by decide) (show i < 2 ^ 31 by omega)).mp hy) (by omega)) (fun _ => ?_)
    refine lv_aload_n hx hb dX4_init_21 rfl (lv_at hl 0 rfl) ?_
    refine va_get (D := D) (ci := 4) (v := .ref q) (C := RX4) (T := TX4) (N := 2) hx hb hts ucc_X4 hown hK hP 0 rfl rfl 0 (by decide) (hts (.fieldLink RX4 11 "HallDesk$Past" "plans" "[LHallDesk$Plan;") (by decide +kernel)) (fun _ h9 => h9) rfl dX4_init_22 ?_
    refine lv_iload_n hx hb dX4_init_25 rfl (lv_at hl 1 rfl) ?_
    refine va_new (ci := 5) (fs := [.int 0, .int 0, .null, .null, .null, .null, .null, .null, .null, .null]) (C := RX5) (T := TX5) (N := 10) hx hb hts ucc_X4_5 tyX5 tyX5_ok hown (hts (.classLink RX4 9 RX5) (by decide +kernel)) (hts (.instantiable RX5 10) (by decide +kernel)) (hts (.initialized RX5) (by decide +kernel)) hK hP hD hS hA rfl hc_df_X5 (show 1 + 9 * i + 1 ≤ R.cells by omega) (show 8 + 118 * i + 10 ≤ R.slots by omega) dX4_init_26 (fun o H hP hD hS => ?_)
    refine lv_dup hx hb dX4_init_29 rfl ?_
    refine hc_after (G := cg_X5 cA o) (mc := 8) (ms := 108) (va_runIN (As := []) (rest := [.ref o, .int (nI i), .ref q]) ⟨hx, hb, hml, hown, hts⟩ (cc_X5 l D cA H.size o) ⟨va_cnB 0 hts gX4_init_X5_init_n17 rfl rfl rfl hN.2.1 (hts (.initialized RX5) (by decide +kernel)) (by decide +kernel) ⟨show 2 + 1 ≤ R.frames by omega, show 8 + (1 + 11) + 64 ≤ R.locals by omega⟩, rfl, hts (.instanceMethod yX5_init) (by decide +kernel)⟩ (hc_pre hK hN hP hD) rfl rfl hl.1 rfl (lv_room (Nat.le_of_ble_eq_true rfl)) dX4_init_30 ⟨show 1 + 9 * i + 1 + 8 ≤ R.cells by omega, show 8 + 118 * i + 10 + 108 ≤ R.slots by omega⟩) hP hD hS hA (fun r2 H locs hP hD hS => ?_)
    have hpl : (cg_X4i cA h0 q g r i ++ cg_X5 cA o r2)[2 + 9 * i]? = some (o, .inr (5, [.int 0, .int 0, .ref (r2 0), .ref (r2 1), .ref (r2 2), .ref (r2 3), .ref (r2 4), .ref (r2 5), .ref (r2 6), .ref (r2 7)])) := by
      have hlen : (cg_X4i cA h0 q g r i).length = 2 + 9 * i := by
        unfold cg_X4i
        rw [List.length_append, hc_pl_len]
        rfl
      rw [List.getElem?_append_right (by omega), hlen, Nat.sub_self]
      rfl
    refine va_astq hx hb hK hP hD hS 1 2 (2 + 9 * i) 5 (r := (RX5, TX5, 10)) rfl rfl hpl rfl (vp_in_nI (show i < 8 by omega) (by decide)) dX4_init_33 (fun H locs hP hD hS => ?_)
    have ew : (cg_X4i cA h0 q g r i ++ cg_X5 cA o r2).set 1 (q, .inl (cA 2, 8, .inr (.inr (.inr (.inr (va_up (fun j => if j < i then some (g j) else none) (nI i).toNatClampNeg (some o))))))) = cg_X4i cA h0 q (fun j => if j = i then o else g j) (fun j => if j = i then r2 else r j) (i + 1) := by
      rw [hd_cc (show i < 2147483648 by omega), hc_vup]
      unfold cg_X4i
      simp only [hc_pl, if_true]
      rw [hc_pl_cong cA (g2 := g) (r2 := r) i (fun j hj => ⟨if_neg (by omega), if_neg (by omega)⟩)]
      simp only [List.cons_append, List.nil_append, List.set_cons_succ, List.set_cons_zero]
    rw [ew] at hP hD
    refine lv_iinc (v := nI (i + 1)) (lv' := [(1, .int (nI (i + 1))), (0, .ref h0)]) hx hb dX4_init_34 hl (k := 1) rfl (nI_1 i) (by decide) rfl (fun ls hl => ?_)
    refine lv_goto (tgt := 15) hx hb dX4_init_37 (by decide) ?_
    refine hc_eqc (show 1 + 9 * i + 1 + 8 = 1 + 9 * (i + 1) by omega) (show 8 + 118 * i + 10 + 108 = 8 + 118 * (i + 1) by omega) ?_
    exact ih (i + 1) (by omega) _ _ H locs ls (lv_sub hl [1, 0] rfl) hP hD hS
set_option maxHeartbeats 4000000 in
set_option maxRecDepth 100000 in
theorem cc_X4 (l : Launch) (D : va_G) (cA : Nat → ClassId) (sz h0 : Nat) : Met l yX4_init wsX4_init { frames := 4, cells := 73, slots := 952, locals := 128 } (hc_Pc D cA [.ref h0] [(h0, .inr (4, [.null, .int 0]))] sz) (hc_Qc D [(h0, .inr (4, [.null, .int 0]))] sz (cg_X4 cA h0)) 73 952 (va_A [(h0, .inr (4, [.null, .int 0]))] sz) := by
  refine Met.ofW (cc := cX4_init) (maxL := 2) (ret := none) (by decide) rfl ?_
  intro p e s m args below meth c s₁ B hml hv
  obtain ⟨rfl, hsz, hP, hK, hD0, hN⟩ := hv
  have hx := B.exec
  have hb := B.bytes
  have hr := B.returns
  have hts := atoms_spec (ws := wsX4_init) B.pre
  have hown : s.vm.findClass RX4 = some m.cls := findClass_of_methodNamed B.named
  have hlocks := B.notSynchronized
  have hin : meth.name = "<init>" := (name_of_methodNamed B.named B.method).1
  subst hsz
  have hD := hD0.self (sz := s.heap.size)
  generalize hAe : va_A [(h0, .inr (4, [.null, .int 0]))] s.heap.size = A at hD ⊢
  have hA : ∀ q : Nat, s.heap.size ≤ q → A q := fun q h => by rw [← hAe]; exact Or.inr h
  have hS : va_S A s.heap s.heap [] := va_S.rf
  have hP : va_P D vwCl [(h0, .inr (4, [.null, .int 0]))] s.heap := hP
  have hl := lv_entry ([.ref h0]) (n := 2) (Nat.le_of_ble_eq_true rfl)
  rw [lg_entry_eq]
  generalize (lg_sl ([.ref h0]) ++ List.replicate (2 - (lg_sl ([.ref h0])).length) Slot.unset).toArray = ls at hl ⊢
  have hl : lv_has ls 2 [(0, .ref h0)] := hl
  refine lv_aload_n hx hb dX4_init_0 rfl (lv_at hl 0 rfl) ?_
  refine W.objInit hx hb hown (hts (.methodLink RX4 3 objectInit) (by decide +kernel)) (hts (.instanceMethod objectInit) (by decide +kernel)) (hts (.code objectInit ⟨#[0xb1]⟩ 1 none) (by decide +kernel)) rfl (by rw [hml]; exact hl.1) rfl dX4_init_1 (Nat.le_of_ble_eq_true rfl) (Nat.le_of_ble_eq_true rfl) ?_
  refine W.eq (g2 := F0 m 4 ls []) rfl ?_
  refine lv_aload_n hx hb dX4_init_4 rfl (lv_at hl 0 rfl) ?_
  refine lv_bipush (v := 8) hx hb dX4_init_5 (by decide) ?_
  refine hc_newQ hx hb hown (hts (.classLink RX4 9 RX5) (by decide +kernel)) hN.2.2.1 hK hP hD hS hA 8 (by decide) rfl (Nat.le_of_ble_eq_true rfl) (Nat.le_of_ble_eq_true rfl) (Nat.le_of_ble_eq_true rfl) dX4_init_7 (fun q H hP hD hS => ?_)
  have hP : va_P D vwCl [(h0, .inr (4, [.null, .int 0])), (q, .inl (cA 2, 8, .inr (.inr (.inr (.inr (fun _ => none))))))] H := hP
  have hD : va_D A [(h0, .inr (4, [.null, .int 0])), (q, .inl (cA 2, 8, .inr (.inr (.inr (.inr (fun _ => none))))))] := hD
  refine va_putF (D := D) (ci := 4) (v := .ref q) (ty := .array (.object "HallDesk$Plan")) (C := RX4) (T := TX4) (N := 2) hx hb hts ucc_X4 tyX4 tyX4_ok nmX4 hown hK hP hD hS 0 rfl rfl 0 (by decide) (hts (.fieldLink RX4 11 "HallDesk$Past" "plans" "[LHallDesk$Plan;") (by decide +kernel)) (fun _ h9 => h9) rfl hin rfl (by decide +kernel) rfl rfl (Nat.le_of_ble_eq_true rfl) dX4_init_10 (fun H locs hP hD hS => ?_)
  refine lv_iconst (v := 0) hx hb dX4_init_13 (by decide) ?_
  refine lv_istore_n (lv' := [(1, .int 0), (0, .ref h0)]) hx hb dX4_init_14 rfl hl (by decide) rfl (fun ls hl => ?_)
  have ew : ∀ g r, [(h0, .inr (4, [.ref q, .int 0])), (q, .inl (cA 2, 8, .inr (.inr (.inr (.inr (fun _ => none))))))] = cg_X4i cA h0 q g r 0 := fun g r => by
    unfold cg_X4i
    simp only [hc_pl, List.append_nil, Nat.not_lt_zero, if_false]
  have hP : va_P D vwCl [(h0, .inr (4, [.ref q, .int 0])), (q, .inl (cA 2, 8, .inr (.inr (.inr (.inr (fun _ => none))))))] H := hP
  have hD : va_D A [(h0, .inr (4, [.ref q, .int 0])), (q, .inl (cA 2, 8, .inr (.inr (.inr (.inr (fun _ => none))))))] := hD
  rw [ew (fun _ => 0) (fun _ _ => 0)] at hP hD
  refine hc_past_loop hx hb hml hts hown hK hN hA (Nat.le_of_ble_eq_true rfl) (Nat.le_of_ble_eq_true rfl) (Nat.le_of_ble_eq_true rfl) (Nat.le_of_ble_eq_true rfl) (fun g r H locs ls hP hD hS => ?_) 8 0 rfl _ _ H locs ls (lv_sub hl [1, 0] rfl) hP hD hS
  exact W.vret hx hb hr (fun t ht hW => ⟨⟨((q, g, r) : hc_T4), rfl, trivial, by rw [ht]; exact hP, by rw [hAe]; exact hD⟩, by rw [hAe]; exact hS.F ht⟩) hS.2.2 dX4_init_40 hlocks
