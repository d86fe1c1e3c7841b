/-! the static table FACTORIALS: nobody writes it; what the statement says of it stands in Z -/
def hd_fv (j : Nat) : Int32 := match j with
  | 0 => 1
  | 1 => 1
  | 2 => 2
  | 3 => 6
  | 4 => 24
  | 5 => 120
  | 6 => 720
  | 7 => 5040
  | _ => 40320
def hd_ZF (A : Nat → Prop) (U : State) : Prop := ∃ t : Nat, va_Z "HallDesk" "FACTORIALS" "[I" (.ref t) A U U.heap ∧ va_T .int t 9 (fun j => .int (hd_fv j)) A U U.heap
theorem hd_ZF_ok : hd_Zok hd_ZF := by
  intro A A' U U' hA hvm hh hz
  obtain ⟨t, h1, h2⟩ := hz
  exact ⟨t, (va_Z.kept (va_Z.moved hvm h1) hh).narrow hA, (va_T.kept (va_T.moved hvm h2) hh).narrow hA⟩
def hd_ZI (Z : (Nat → Prop) → State → Prop) : Prop := ∀ A U, Z A U → hd_ZF A U
/-- the link of Heaps to its nest host's table: it goes along with a state that is warmed -/
def hw_nest : Cond := Cond.fieldLinkNest "HallDesk$Heaps" 84 "HallDesk" "FACTORIALS" "[I" "HallDesk"
def hd_zz : hd_Ctx → Prop
  | (_, _, _, _, s, _, _, _, _, _, _, _, _, _, _, _, _, _, _, _, Z) => hd_ZI Z ∧ va_Nw hw_nest s
def hd_PcF (D : va_G) (cl : List vw_C) (sh : List hd_K) (ad : Nat → Nat) (cA : Nat → ClassId) (Z : (Nat → Prop) → State → Prop) (as : List hd_V) (S : hd_S) (sz : Nat) : Array Value → State → Prop := fun a U => hd_Pc D cl sh ad cA Z as S sz a U ∧ va_Nw hw_nest U
def hd_MCF (l : Launch) (D : va_G) (cl : List vw_C) (sh : List hd_K) (ad : Nat → Nat) (cA : Nat → ClassId) (Z : (Nat → Prop) → State → Prop) (y : MethodName) (wy : List Cond) (d : Nat) (as : List hd_V) (S : hd_S) (post : Option hd_V → hd_S → Prop) : Prop :=
  ∀ sz : Nat, Met l y wy (hd_rm d) (hd_PcF D cl sh ad cA Z as S sz) (hd_Qc D cl sh ad cA (hd_A sh ad sz) post) 0 0 (hd_A sh ad sz)
def hd_SndF (cl : List vw_C) (sh : List hd_K) (y : MethodName) (wy : List Cond) (d : Nat) (wm : hd_M) : Prop :=
  ∀ (l : Launch) (D : va_G) (ad : Nat → Nat) (cA : Nat → ClassId) (Z : (Nat → Prop) → State → Prop), (∀ i j, i < sh.length → j < sh.length → ad i = ad j → i = j) → hd_Zok Z → hd_ZI Z → ∀ as S post, wm as S post → hd_MCF l D cl sh ad cA Z y wy d as S post
theorem hd_blindF {D : va_G} {cl : List vw_C} {sh : List hd_K} {ad : Nat → Nat} {cA : Nat → ClassId} {Z : (Nat → Prop) → State → Prop} {as : List hd_V} {S : hd_S} {sz : Nat} (hZo : hd_Zok Z) : FrameBlind (hd_PcF D cl sh ad cA Z as S sz) := by
  intro a U g mk h
  exact ⟨hd_blind hZo a U g mk h.1, va_Nw.same (u := U) (U := U.calling g mk a) rfl rfl h.2⟩
def hd_iF (a : hd_xI) : hd_xI := fun ρ S post => a ρ S (fun i S => vp_in i 9 ∧ post (hd_fv i.toNatClampNeg) S)
section HDFACT
variable {κ : hd_Ctx} {cc : ByteArray} {own : String} {Ts : List Cond} {nL : Nat} {sh : List hd_K} {cl : List vw_C} {lv : Nat} {pc p1 p2 k : Nat} {ρ : List hd_V} {st : List Value} {S : hd_S}
def hd_fw (Ts : List Cond) (own : String) (idx : Nat) : Prop := Cond.fieldLink own idx "HallDesk" "FACTORIALS" "[I" ∈ Ts ∨ (own = "HallDesk$Heaps" ∧ idx = 84)
theorem hd_t_fact (C : hd_Ok κ cc own Ts nL sh cl lv) (Zf : hd_zz κ) : ∃ t : Nat, (∀ (pc idx : Nat) (ρ : List hd_V) (st : List Value) (S : hd_S), hd_fw Ts own idx → decode cc pc = .ok (.getstatic idx, 3) → hd_At κ (pc + 3) ρ (.ref t :: st) S → hd_At κ pc ρ st S) ∧
    (∀ (pc : Nat) (ρ : List hd_V) (st : List Value) (S : hd_S) (i : Int32), vp_in i 9 → decode cc pc = .ok (.iaload, 1) → hd_At κ (pc + 1) ρ (.int (hd_fv i.toNatClampNeg) :: st) S → hd_At κ pc ρ (.int i :: .ref t :: st) S) := by
  obtain ⟨p, l, e, R, s, m, args, below, meth, cd, cells, slots, Q, D, cl, sh, ad, cA, A, PM, Z⟩ := κ
  obtain ⟨hx, hb, hown, hts, hK, hinj, hAd, hAn, ⟨hR1, hR2, hR3, hR4, hR5⟩, hml, rfl, rfl, hZo, hZ⟩ := C
  obtain ⟨hZI, hN⟩ := (show hd_ZI Z ∧ va_Nw hw_nest s from Zf)
  obtain ⟨t, hz, ht⟩ := hZI A s hZ
  refine ⟨t, fun pc idx ρ st S hw d k ls H locs hl hP hS => ?_, fun pc ρ st S i hi d k ls H locs hl hP hS => ?_⟩
  · rcases hw with hw | hw
    · exact va_gets hx hb hz hS hown (hts _ hw) (fun _ h => h) d (k ls H locs hl hP hS)
    · obtain ⟨rfl, rfl⟩ := hw
      exact va_getsN hx hb hz hS hown (va_Nw.use (w := hw_nest) rfl hN) (fun _ h => h) d (k ls H locs hl hP hS)
  · exact va_ti hx hb ht hS hi rfl d (k ls H locs hl hP hS)
theorem hd_fact (C : hd_Ok κ cc own Ts nL sh cl lv) (Zf : hd_zz κ) {idx : Nat} {a : hd_xI} (hw : hd_fw Ts own idx) (d : decode cc pc = .ok (.getstatic idx, 3)) (ha : hd_XI κ (pc + 3) p1 (k + 1) a) (d2 : decode cc p1 = .ok (.iaload, 1)) : hd_XI κ pc (p1 + 1) k (hd_iF a) := by
  intro ρ st S post hk hx kk
  obtain ⟨t, h1, h2⟩ := hd_t_fact C Zf
  exact h1 pc idx ρ st S hw d (ha ρ _ S _ (hd_c1 rfl hk) hx (fun i S ⟨hi, h⟩ => h2 p1 ρ st S i hi d2 (kk _ _ h)))
set_option maxHeartbeats 1000000 in
theorem hd_t_callVF (C : hd_Ok κ cc own Ts nL sh cl lv) {y : MethodName} {wy ws' : List Cond} {bytes : ByteArray} {maxL d idx ci c : Nat} {ret : Option FieldType} {fl : List (Option Nat)} {Cn : String} {T : u_T} {N : Nat} {as : List hd_V} {wm : hd_M} {post : Option hd_V → hd_S → Prop}
    (hw : wy = Cond.code y bytes maxL ret :: ws') (hG : GoodIn Ts (wsV own idx Cn y wy)) (hcl : cl[ci]? = some (Cn, T, N)) (hc : sh[c]? = some (.inl (ci, fl)))
    (hy : y.cls = Cn ∧ y.cls ≠ "java/lang/invoke/MethodHandle" ∧ y.cls ≠ "java/lang/invoke/VarHandle" ∧ (parseMethodDescriptor y.desc).map (fun d => d.parameters.length) = some as.length)
    (hd : d + 1 ≤ lv ∧ maxL ≤ 45) (Zf : hd_zz κ) (hM : hd_SndF cl sh y wy d wm) (hwm : wm (hd_vR c :: as) S post) (dd : decode cc pc = .ok (.invokevirtual idx, 3)) (hst : (st.map fun v => v.category).sum ≤ 8)
    (k : ∀ v S', post v S' → hd_At κ (pc + 3) ρ ((v.map (hd_val (hd_ad κ))).toList ++ st) S') : hd_At κ pc ρ ((as.map (hd_val (hd_ad κ))).reverse ++ .ref (hd_ad κ c) :: st) S := by
  obtain ⟨p, l, e, R, s, m, args, below, meth, cd, cells, slots, Q, D, cl, sh, ad, cA, A, PM, Z⟩ := κ
  obtain ⟨hx, hb, hown, hts, hK, hinj, hAd, hAn, ⟨hR1, hR2, hR3, hR4, hR5⟩, hml, rfl, rfl, hZo, hZ⟩ := C
  have Zf : hd_ZI Z ∧ va_Nw hw_nest s := Zf
  intro ls H locs hl hP hS
  have hsub : ∀ q, hd_A sh ad H.size q → A q := by
    rintro q (⟨c, h1, rfl⟩ | h)
    · exact hAd c h1
    · exact hAn q (Nat.le_trans hS.1 h)
  have hpre : ∀ U : State, U.heap = H → s.WarmedH U.vm → hd_PcF D cl sh ad cA Z (hd_vR c :: as) S H.size (Value.ref (ad c) :: as.map (hd_val ad)).toArray U := fun U hU hW => ⟨⟨by simp [hd_val], by rw [hU], by rw [hU]; exact hP, va_K.moved hW.alike hK, hZo A _ s U hsub hW.alike (fun q h1 h2 => by rw [hU]; exact hS.2.1 q h1 h2) hZ⟩, va_Nw.warmF hW Zf.2⟩
  have hrun := va_runV (p := p) (l := l) (e := e) (R := R) (s := s) (m := m) (args := args) (below := below) (meth := meth) (c := cd) (H := H) (locs := locs) (cells := cells) (slots := slots) (As := as.map (hd_val ad)) (rest := st) (b := ad c) (g := F0 m pc ls ((as.map (hd_val ad)).reverse ++ .ref (ad c) :: st)) (nL := cd.maxLocals) ⟨hx, hb, rfl, hown, hts⟩ (hM l D ad cA Z hinj hZo Zf.1 _ S post hwm H.size) (cwV as.length hts hG hw rfl rfl hy ⟨by show d + 1 ≤ R.frames; omega, by show 8 + (maxL + 11) + 64 * d ≤ R.locals; omega⟩) ⟨hd_blindF hZo, va_recv hK hP hcl (hd_W_obj hc), hpre⟩ rfl (by simp) hl.1 rfl (lv_room hst) dd ⟨by omega, by omega⟩
  intro T1 hT X
  obtain ⟨v, st₀, t, T', L, h0, X', hL, e1, e2, ⟨⟨w, S', hv, hp, hb'⟩, hz, hk'⟩, stp⟩ := hrun T1 hT X
  have hvw : v = w.map (hd_val ad) := by injection hv
  subst hvw
  rw [h0] at hz hk'
  obtain ⟨t2, a1, b1⟩ := k w S' hp ls T'.heap (locs ++ L) hl (by rw [e1]; exact hb')
    ⟨Nat.le_trans hS.1 (by rw [e1]; exact hz), fun q h1 h2 => by rw [e1, hk' q (Nat.lt_of_lt_of_le h1 hS.1) (fun z => h2 (hsub q z))]; exact hS.2.1 q h1 h2, fun q hq => by
      rcases List.mem_append.mp hq with h | h
      · exact hS.2.2 q h
      · exact hsub _ (hL q h)⟩ T' rfl X'
  exact ⟨t2, stp t2 a1, b1⟩
theorem hd_invVF (C : hd_Ok κ cc own Ts nL sh cl lv) {y : MethodName} {wy ws2 : List Cond} {bytes : ByteArray} {maxL d idx ci nn cn : Nat} {ret : Option FieldType} {Cn : String} {T : u_T} {N : Nat} {r : hd_xR} {vs : hd_xV} {wm : hd_M} (Zf : hd_zz κ) (hM : hd_SndF cl sh y wy d wm) (hw : wy = Cond.code y bytes maxL ret :: ws2) (hG : GoodIn Ts (wsV own idx Cn y wy)) (hcl : cl[ci]? = some (Cn, T, N)) (hy : y.cls = Cn ∧ y.cls ≠ "java/lang/invoke/MethodHandle" ∧ y.cls ≠ "java/lang/invoke/VarHandle" ∧ (parseMethodDescriptor y.desc).map (fun d => d.parameters.length) = some nn) (hd : d + 1 ≤ lv ∧ maxL ≤ 45) (hk8 : k ≤ 8) (hr : hd_XR κ pc p1 k r) (hv : hd_XV κ p1 p2 (k + 1) cn vs) (dd : decode cc p2 = .ok (.invokevirtual idx, 3)) : hd_XN κ pc (p2 + 3) k (hd_nV sh ci r nn vs wm) := by
  intro ρ st S post hk hx kk
  refine hr ρ st S _ hk hx (fun c S ⟨⟨fl, h1⟩, h⟩ => hv ρ _ S _ (hd_c1 rfl hk) h (fun as S ⟨hn, h9⟩ _ => ?_))
  subst hn
  exact hd_t_callVF C hw hG hcl h1 hy hd Zf hM h9 dd (Nat.le_trans hk hk8) kk
end HDFACT
theorem hd_methodF {cl : List vw_C} {sh : List hd_K} {y : MethodName} {wy ws2 : List Cond} {cc : ByteArray} {nL d : Nat} {ret : Option FieldType} {own : String} {b : hd_xS} (hyp : plainName y.cls = true) (hw : wy = Cond.code y cc nL ret :: ws2) (hy : y.cls = own) (hd1 : 1 ≤ d)
    (body : ∀ κ, hd_Ok κ cc own wy nL sh cl d → hd_OkR κ ret → hd_zz κ → hd_XS κ 0 [] b) : hd_SndF cl sh y wy d (hd_mth nL b) := by
  intro l D ad cA Z hinj hZo hZI as S post hwp sz
  obtain ⟨hlen, hwp⟩ := hwp
  refine Met.ofW (cc := cc) (maxL := nL) (ret := ret) hyp hw ?_
  intro p e s m args below meth c s₁ B hml hv
  obtain ⟨⟨rfl, hsz, hP, hK, hZ⟩, hN⟩ := hv
  have hown : s.vm.findClass own = some m.cls := by rw [← hy]; exact findClass_of_methodNamed B.named
  have h := body (p, l, e, (headSpec wy (hd_rm d)).room, s, m, (as.map (hd_val ad)).toArray, below, meth, c, 0, 0, MQ below (hd_Qc D cl sh ad cA (hd_A sh ad sz) post) (as.map (hd_val ad)).toArray s 0 0 (hd_A sh ad sz), D, cl, sh, ad, cA, hd_A sh ad sz, post, Z)
    ⟨B.exec, B.bytes, hown, atoms_spec (ws := wy) B.pre, hK, hinj, fun c hc => Or.inl ⟨c, hc, rfl⟩, fun q h => Or.inr (by rw [← hsz]; exact h), ⟨Nat.le_refl d, Nat.le_refl (64 * d), Nat.le_refl 0, Nat.le_refl 0, hd1⟩, hml, rfl, rfl, hZo, hZ⟩
    ⟨rfl, rfl, rfl, B.returns, B.notSynchronized⟩ ⟨hZI, hN⟩ (hd_rho0 nL as) S (fun _ _ => False) post hwp (fun q hq => by cases hq) (fun v S' h => h)
  have hl := lv_entry (as.map (hd_val ad)) (n := nL) (by rw [hd_args_len]; exact hlen)
  rw [lg_entry_eq]
  refine h _ s.heap [] ⟨hl.1.trans hml.symm, hl.2.1, fun k hk => ?_⟩ hP va_S.rf
  unfold hd_rho0 at hk ⊢
  rw [hd_get_app] at hk ⊢
  have := hd_args_in ad as 0 k hk
  rw [Nat.zero_add] at this
  exact hl.2.2 _ this
/-! X2_addedInAllOrders -/
theorem hw_X2_addedInAllOrders : wsX2_addedInAllOrders = Cond.code yX2_addedInAllOrders cX2_addedInAllOrders 9 (some .long) :: wsX2_addedInAllOrders.tail := rfl
set_option maxRecDepth 100000 in
theorem uX2_addedInAllOrders_X2 : ∀ w ∈ u_ws RX2 TX2 5, w ∈ wsX2_addedInAllOrders := by decide +kernel
set_option maxRecDepth 100000 in
theorem lX2_addedInAllOrders_22 : Cond.fieldLink RX2 22 (TX2 0).1 (TX2 0).2.1 (TX2 0).2.2.1 ∈ wsX2_addedInAllOrders := by decide +kernel
set_option maxRecDepth 100000 in
theorem fX2_addedInAllOrders_22 : hd_F wsX2_addedInAllOrders RX2 vwCl 2 0 22 := ⟨RX2, TX2, 5, rfl, by decide, uX2_addedInAllOrders_X2, lX2_addedInAllOrders_22⟩
set_option maxRecDepth 100000 in
theorem yX2_addedInAllOrders_X5_everyTown : yX5_everyTown.cls = RX5 ∧ yX5_everyTown.cls ≠ "java/lang/invoke/MethodHandle" ∧ yX5_everyTown.cls ≠ "java/lang/invoke/VarHandle" ∧ (parseMethodDescriptor yX5_everyTown.desc).map (fun d => d.parameters.length) = some 0 := by decide +kernel
set_option maxRecDepth 100000 in
theorem yX2_addedInAllOrders_X5_isIn : yX5_isIn.cls ≠ "java/lang/invoke/MethodHandle" ∧ yX5_isIn.cls ≠ "java/lang/invoke/VarHandle" ∧ (parseMethodDescriptor yX5_isIn.desc).map (fun d => d.parameters.length) = some 2 := by decide +kernel
set_option maxRecDepth 100000 in
theorem yX2_addedInAllOrders_J6_bitCount_0f7a4 : yJ6_bitCount_0f7a4.cls ≠ "java/lang/invoke/MethodHandle" ∧ yJ6_bitCount_0f7a4.cls ≠ "java/lang/invoke/VarHandle" ∧ (parseMethodDescriptor yJ6_bitCount_0f7a4.desc).map (fun d => d.parameters.length) = some 1 := by decide +kernel
set_option maxRecDepth 100000 in
theorem uX2_addedInAllOrders_X5 : ∀ w ∈ u_ws RX5 TX5 10, w ∈ wsX2_addedInAllOrders := by decide +kernel
set_option maxRecDepth 100000 in
theorem lX2_addedInAllOrders_55 : Cond.fieldLink RX2 55 (TX5 0).1 (TX5 0).2.1 (TX5 0).2.2.1 ∈ wsX2_addedInAllOrders := by decide +kernel
set_option maxRecDepth 100000 in
theorem fX2_addedInAllOrders_55 : hd_F wsX2_addedInAllOrders RX2 vwCl 5 0 55 := ⟨RX5, TX5, 10, rfl, by decide, uX2_addedInAllOrders_X5, lX2_addedInAllOrders_55⟩
theorem wX2_addedInAllOrders_9 : hd_fw wsX2_addedInAllOrders RX2 84 := Or.inr ⟨rfl, rfl⟩
set_option maxRecDepth 100000 in
theorem lX2_addedInAllOrders_9 : Cond.fieldLink RX2 9 (TX2 2).1 (TX2 2).2.1 (TX2 2).2.2.1 ∈ wsX2_addedInAllOrders := by decide +kernel
set_option maxRecDepth 100000 in
theorem fX2_addedInAllOrders_9 : hd_F wsX2_addedInAllOrders RX2 vwCl 2 2 9 := ⟨RX2, TX2, 5, rfl, by decide, uX2_addedInAllOrders_X2, lX2_addedInAllOrders_9⟩
def wc_X2_addedInAllOrders_5 : hd_xC := (hd_cI (fun x y => decide (x ≤ y)) (hd_iL 4) (hd_iN (hd_nV hs_sh 5 (hd_rG hs_sh 2 0 (hd_rL 0)) 0 hd_v0 wm_X5_everyTown)))
def wb_X2_addedInAllOrders_5 : hd_xS := (hd_sQ (hd_sW (hd_cX (hd_c0 (fun x => !decide (x = 0)) (hd_iN (hd_nS 2 (hd_pI (hd_pI hd_v0 (hd_iL 1)) (hd_iL 4)) wm_X5_isIn)))) (hd_sQ (hd_sI 5 (hd_iN (hd_nS 1 (hd_pI hd_v0 (hd_iL 4)) wm_J6_bitCount_0f7a4))) (hd_sQ (hd_sI 6 (hd_iB (fun x y => x - y) (hd_iB (fun x y => x - y) (hd_iG hs_sh 5 0 (hd_rG hs_sh 2 0 (hd_rL 0))) (hd_iK (1))) (hd_iL 5))) (hd_sQ (hd_sJ 7 (hd_jB (fun x y => x * y) (hd_jI (hd_iF (hd_iL 5))) (hd_jI (hd_iF (hd_iL 6))))) (hd_sJ 2 (hd_jB (fun x y => x + y) (hd_jL 2) (hd_jB (fun x y => x * y) (hd_jL 7) (hd_jI (hd_iB (fun x y => x - y) (hd_iA hs_sh (hd_rG hs_sh 2 2 (hd_rL 0)) (hd_iB (fun x y => x ||| y) (hd_iL 4) (hd_iB (fun x y => x <<< (y &&& 31)) (hd_iK (1)) (hd_iL 1)))) (hd_iA hs_sh (hd_rG hs_sh 2 2 (hd_rL 0)) (hd_iL 4))))))))))) (hd_sP 4 (1)))
def wo_X2_addedInAllOrders : hd_xS := (hd_sQ (hd_sJ 2 (hd_jK (0))) (hd_sQ (hd_sQ (hd_sI 4 (hd_iK (0))) (hd_sH (wc_X2_addedInAllOrders_5) (wb_X2_addedInAllOrders_5))) (hd_sRJ (hd_jL 2))))
def wm_X2_addedInAllOrders : hd_M := hd_mth 9 wo_X2_addedInAllOrders
set_option maxHeartbeats 4000000 in
set_option maxRecDepth 100000 in
theorem snd_X2_addedInAllOrders : hd_SndF vwCl hs_sh yX2_addedInAllOrders wsX2_addedInAllOrders 2 wm_X2_addedInAllOrders := hd_methodF (by decide) rfl rfl (by decide) (fun κ C Rk Zf => (hd_seq (p1 := 2) (hd_slstore_n C (kk0 := 2) (p1 := 1) (hd_lconst C dX2_addedInAllOrders_0 (by decide)) dX2_addedInAllOrders_1 (by decide)) (hd_seq (p1 := 96) (hd_seq (p1 := 5) (hd_sistore C (p1 := 3) (hd_iconst C dX2_addedInAllOrders_2 (by decide)) dX2_addedInAllOrders_3 (by decide)) (hd_loop C (p1 := 17) (p2 := 96) (hd_c_leF C (p1 := 7) (p2 := 14) (tgt := 96) (hd_iload C dX2_addedInAllOrders_5) (hd_inI (hd_invV C (p1 := 11) (p2 := 11) snd_X5_everyTown hw_X5_everyTown gX2_addedInAllOrders_X5_everyTown hs_c_5 yX2_addedInAllOrders_X5_everyTown ⟨by decide, by decide⟩ (by decide) (hd_getR C (p1 := 8) fX2_addedInAllOrders_22 (hd_aload_n C (kk0 := 0) dX2_addedInAllOrders_7) dX2_addedInAllOrders_8) hd_av0 dX2_addedInAllOrders_11)) dX2_addedInAllOrders_14 (by decide)) (hd_seq (p1 := 90) (hd_if (p1 := 26) (p2 := 90) (hd_not (hd_z_neT C (p2 := 23) (tgt := 90) (hd_inI (hd_invS C (p2 := 20) snd_X5_isIn hw_X5_isIn gX2_addedInAllOrders_X5_isIn yX2_addedInAllOrders_X5_isIn ⟨by decide, by decide⟩ (by decide) (hd_apI (p1 := 18) (p2 := 20) (hd_apI (p1 := 17) (p2 := 18) hd_av0 (hd_iload_n C (kk0 := 1) dX2_addedInAllOrders_17)) (hd_iload C dX2_addedInAllOrders_18)) dX2_addedInAllOrders_20)) dX2_addedInAllOrders_23 (by decide))) (hd_seq (p1 := 33) (hd_sistore C (p1 := 31) (hd_inI (hd_invS C (p2 := 28) snd_J6_bitCount_0f7a4 hw_J6_bitCount_0f7a4 gX2_addedInAllOrders_J6_bitCount_0f7a4 yX2_addedInAllOrders_J6_bitCount_0f7a4 ⟨by decide, by decide⟩ (by decide) (hd_apI (p1 := 26) (p2 := 28) hd_av0 (hd_iload C dX2_addedInAllOrders_26)) dX2_addedInAllOrders_28)) dX2_addedInAllOrders_31 (by decide)) (hd_seq (p1 := 47) (hd_sistore C (p1 := 45) (hd_isub C (p1 := 42) (p2 := 44) (hd_isub C (p1 := 40) (p2 := 41) (hd_getI C (p1 := 37) fX2_addedInAllOrders_55 (hd_getR C (p1 := 34) fX2_addedInAllOrders_22 (hd_aload_n C (kk0 := 0) dX2_addedInAllOrders_33) dX2_addedInAllOrders_34) dX2_addedInAllOrders_37) (hd_iconst C dX2_addedInAllOrders_40 (by decide)) dX2_addedInAllOrders_41) (hd_iload C dX2_addedInAllOrders_42) dX2_addedInAllOrders_44) dX2_addedInAllOrders_45 (by decide)) (hd_seq (p1 := 64) (hd_slstore C (p1 := 62) (hd_lmul C (p1 := 54) (p2 := 61) (hd_i2l C (p1 := 53) (hd_fact C Zf (p1 := 52) wX2_addedInAllOrders_9 dX2_addedInAllOrders_47 (hd_iload C dX2_addedInAllOrders_50) dX2_addedInAllOrders_52) dX2_addedInAllOrders_53) (hd_i2l C (p1 := 60) (hd_fact C Zf (p1 := 59) wX2_addedInAllOrders_9 dX2_addedInAllOrders_54 (hd_iload C dX2_addedInAllOrders_57) dX2_addedInAllOrders_59) dX2_addedInAllOrders_60) dX2_addedInAllOrders_61) dX2_addedInAllOrders_62 (by decide)) (hd_slstore_n C (kk0 := 2) (p1 := 89) (hd_ladd C (p1 := 65) (p2 := 88) (hd_lload_n C (kk0 := 2) dX2_addedInAllOrders_64) (hd_lmul C (p1 := 67) (p2 := 87) (hd_lload C dX2_addedInAllOrders_65) (hd_i2l C (p1 := 86) (hd_isub C (p1 := 78) (p2 := 85) (hd_iald C (p1 := 71) (p2 := 77) (hd_getR C (p1 := 68) fX2_addedInAllOrders_9 (hd_aload_n C (kk0 := 0) dX2_addedInAllOrders_67) dX2_addedInAllOrders_68) (hd_ior C (p1 := 73) (p2 := 76) (hd_iload C dX2_addedInAllOrders_71) (hd_ishl C (p1 := 74) (p2 := 75) (hd_iconst C dX2_addedInAllOrders_73 (by decide)) (hd_iload_n C (kk0 := 1) dX2_addedInAllOrders_74) dX2_addedInAllOrders_75) dX2_addedInAllOrders_76) dX2_addedInAllOrders_77) (hd_iald C (p1 := 82) (p2 := 84) (hd_getR C (p1 := 79) fX2_addedInAllOrders_9 (hd_aload_n C (kk0 := 0) dX2_addedInAllOrders_78) dX2_addedInAllOrders_79) (hd_iload C dX2_addedInAllOrders_82) dX2_addedInAllOrders_84) dX2_addedInAllOrders_85) dX2_addedInAllOrders_86) dX2_addedInAllOrders_87) dX2_addedInAllOrders_88) dX2_addedInAllOrders_89 (by decide))))) (by decide)) (hd_sgoto C (p1 := 93) (tgt := 5) (hd_ends (es := [93]) (by decide) (hd_siinc C dX2_addedInAllOrders_90 (by decide) (by decide))) dX2_addedInAllOrders_93 (by decide) (by decide))) (by decide))) (hd_retJ C Rk (p1 := 97) (hd_lload_n C (kk0 := 2) dX2_addedInAllOrders_96) dX2_addedInAllOrders_97))))
/-! X8_share -/
theorem hw_X8_share : wsX8_share = Cond.code yX8_share cX8_share 9 (some .long) :: wsX8_share.tail := rfl
set_option maxRecDepth 100000 in
theorem uX8_share_X8 : ∀ w ∈ u_ws RX8 TX8 9, w ∈ wsX8_share := by decide +kernel
set_option maxRecDepth 100000 in
theorem lX8_share_12 : Cond.fieldLink RX8 12 (TX8 0).1 (TX8 0).2.1 (TX8 0).2.2.1 ∈ wsX8_share := by decide +kernel
set_option maxRecDepth 100000 in
theorem fX8_share_12 : hd_F wsX8_share RX8 vwCl 8 0 12 := ⟨RX8, TX8, 9, rfl, by decide, uX8_share_X8, lX8_share_12⟩
set_option maxRecDepth 100000 in
theorem yX8_share_X5_hasTown : yX5_hasTown.cls = RX5 ∧ yX5_hasTown.cls ≠ "java/lang/invoke/MethodHandle" ∧ yX5_hasTown.cls ≠ "java/lang/invoke/VarHandle" ∧ (parseMethodDescriptor yX5_hasTown.desc).map (fun d => d.parameters.length) = some 1 := by decide +kernel
set_option maxRecDepth 100000 in
theorem yX8_share_X8_within : yX8_within.cls ≠ "java/lang/invoke/MethodHandle" ∧ yX8_within.cls ≠ "java/lang/invoke/VarHandle" ∧ (parseMethodDescriptor yX8_within.desc).map (fun d => d.parameters.length) = some 3 := by decide +kernel
set_option maxRecDepth 100000 in
theorem wX8_share_5 : Cond.constantLong RX8 244 (-3) ∈ wsX8_share := by decide +kernel
set_option maxRecDepth 100000 in
theorem uX8_share_X5 : ∀ w ∈ u_ws RX5 TX5 10, w ∈ wsX8_share := by decide +kernel
set_option maxRecDepth 100000 in
theorem lX8_share_82 : Cond.fieldLink RX8 82 (TX5 1).1 (TX5 1).2.1 (TX5 1).2.2.1 ∈ wsX8_share := by decide +kernel
set_option maxRecDepth 100000 in
theorem fX8_share_82 : hd_F wsX8_share RX8 vwCl 5 1 82 := ⟨RX5, TX5, 10, rfl, by decide, uX8_share_X5, lX8_share_82⟩
set_option maxRecDepth 100000 in
theorem wX8_share_9 : Cond.constantLong RX8 246 (-1) ∈ wsX8_share := by decide +kernel
set_option maxRecDepth 100000 in
theorem lX8_share_60 : Cond.fieldLink RX8 60 (TX8 6).1 (TX8 6).2.1 (TX8 6).2.2.1 ∈ wsX8_share := by decide +kernel
set_option maxRecDepth 100000 in
theorem fX8_share_60 : hd_F wsX8_share RX8 vwCl 8 6 60 := ⟨RX8, TX8, 9, rfl, by decide, uX8_share_X8, lX8_share_60⟩
set_option maxRecDepth 100000 in
theorem yX8_share_X2_refresh : yX2_refresh.cls = RX2 ∧ yX2_refresh.cls ≠ "java/lang/invoke/MethodHandle" ∧ yX2_refresh.cls ≠ "java/lang/invoke/VarHandle" ∧ (parseMethodDescriptor yX2_refresh.desc).map (fun d => d.parameters.length) = some 0 := by decide +kernel
set_option maxRecDepth 100000 in
theorem yX8_share_X2_addedInAllOrders : yX2_addedInAllOrders.cls = RX2 ∧ yX2_addedInAllOrders.cls ≠ "java/lang/invoke/MethodHandle" ∧ yX2_addedInAllOrders.cls ≠ "java/lang/invoke/VarHandle" ∧ (parseMethodDescriptor yX2_addedInAllOrders.desc).map (fun d => d.parameters.length) = some 1 := by decide +kernel
set_option maxRecDepth 100000 in
theorem wX8_share_14 : hd_fw wsX8_share RX8 252 := Or.inl (by decide +kernel)
set_option maxRecDepth 100000 in
theorem lX8_share_71 : Cond.fieldLink RX8 71 (TX5 0).1 (TX5 0).2.1 (TX5 0).2.2.1 ∈ wsX8_share := by decide +kernel
set_option maxRecDepth 100000 in
theorem fX8_share_71 : hd_F wsX8_share RX8 vwCl 5 0 71 := ⟨RX5, TX5, 10, rfl, by decide, uX8_share_X5, lX8_share_71⟩
set_option maxRecDepth 100000 in
theorem yX8_share_X8_commonDivisor : yX8_commonDivisor.cls ≠ "java/lang/invoke/MethodHandle" ∧ yX8_commonDivisor.cls ≠ "java/lang/invoke/VarHandle" ∧ (parseMethodDescriptor yX8_commonDivisor.desc).map (fun d => d.parameters.length) = some 2 := by decide +kernel
def wo_X8_share : hd_xS := (hd_sQ (hd_sW (hd_cO (hd_cX (hd_c0 (fun x => !decide (x = 0)) (hd_iN (hd_nV hs_sh 5 (hd_rG hs_sh 8 0 (hd_rL 0)) 1 (hd_pI hd_v0 (hd_iL 1)) wm_X5_hasTown)))) (hd_cX (hd_c0 (fun x => !decide (x = 0)) (hd_iN (hd_nS 3 (hd_pI (hd_pI (hd_pI hd_v0 (hd_iL 2)) (hd_iK (0))) (hd_iK (1))) wm_X8_within))))) (hd_sRJ (hd_jK (-3)))) (hd_sQ (hd_sW (hd_c0 (fun x => decide (x = 0)) (hd_iG hs_sh 5 1 (hd_rG hs_sh 8 0 (hd_rL 0)))) (hd_sRJ (hd_jK (-1)))) (hd_sQ (hd_sN (hd_nV hs_sh 2 (hd_rG hs_sh 8 6 (hd_rL 0)) 0 hd_v0 wm_X2_refresh)) (hd_sQ (hd_sJ 3 (hd_jN (hd_nV hs_sh 2 (hd_rG hs_sh 8 6 (hd_rL 0)) 1 (hd_pI hd_v0 (hd_iL 1)) wm_X2_addedInAllOrders))) (hd_sQ (hd_sJ 5 (hd_jI (hd_iF (hd_iG hs_sh 5 0 (hd_rG hs_sh 8 0 (hd_rL 0)))))) (hd_sQ (hd_sJ 7 (hd_jN (hd_nS 2 (hd_pJ (hd_pJ hd_v0 (hd_jL 3)) (hd_jL 5)) wm_X8_commonDivisor))) (hd_sRJ (hd_jD (fun x y => x / y) (hd_jQ (hd_c0 (fun x => decide (x = 0)) (hd_iL 2)) (hd_jL 3) (hd_jL 5)) (hd_jL 7)))))))))
def wm_X8_share : hd_M := hd_mth 9 wo_X8_share
set_option maxHeartbeats 4000000 in
set_option maxRecDepth 100000 in
theorem snd_X8_share : hd_SndF vwCl hs_sh yX8_share wsX8_share 5 wm_X8_share := hd_methodF (by decide) rfl rfl (by decide) (fun κ C Rk Zf => (hd_seq (p1 := 24) (hd_if (p1 := 20) (p2 := 24) (hd_or (p1 := 11) (p2 := 20) (p3 := 24) (hd_not (hd_z_neF C (p2 := 8) (tgt := 20) (hd_inI (hd_invV C (p1 := 4) (p2 := 5) snd_X5_hasTown hw_X5_hasTown gX8_share_X5_hasTown hs_c_5 yX8_share_X5_hasTown ⟨by decide, by decide⟩ (by decide) (hd_getR C (p1 := 1) fX8_share_12 (hd_aload_n C (kk0 := 0) dX8_share_0) dX8_share_1) (hd_apI (p1 := 4) (p2 := 5) hd_av0 (hd_iload_n C (kk0 := 1) dX8_share_4)) dX8_share_5)) dX8_share_8 (by decide))) (hd_not (hd_z_neT C (p2 := 17) (tgt := 24) (hd_inI (hd_invS C (p2 := 14) snd_X8_within hw_X8_within gX8_share_X8_within yX8_share_X8_within ⟨by decide, by decide⟩ (by decide) (hd_apI (p1 := 13) (p2 := 14) (hd_apI (p1 := 12) (p2 := 13) (hd_apI (p1 := 11) (p2 := 12) hd_av0 (hd_iload_n C (kk0 := 2) dX8_share_11)) (hd_iconst C dX8_share_12 (by decide))) (hd_iconst C dX8_share_13 (by decide))) dX8_share_14)) dX8_share_17 (by decide)))) (hd_retJ C Rk (p1 := 23) (hd_ldc2 C wX8_share_5 dX8_share_20) dX8_share_23) (by decide)) (hd_seq (p1 := 38) (hd_if (p1 := 34) (p2 := 38) (hd_z_eqF C (p2 := 31) (tgt := 38) (hd_getI C (p1 := 28) fX8_share_82 (hd_getR C (p1 := 25) fX8_share_12 (hd_aload_n C (kk0 := 0) dX8_share_24) dX8_share_25) dX8_share_28) dX8_share_31 (by decide)) (hd_retJ C Rk (p1 := 37) (hd_ldc2 C wX8_share_9 dX8_share_34) dX8_share_37) (by decide)) (hd_seq (p1 := 45) (hd_scall (hd_invV C (p1 := 42) (p2 := 42) snd_X2_refresh hw_X2_refresh gX8_share_X2_refresh hs_c_2 yX8_share_X2_refresh ⟨by decide, by decide⟩ (by decide) (hd_getR C (p1 := 39) fX8_share_60 (hd_aload_n C (kk0 := 0) dX8_share_38) dX8_share_39) hd_av0 dX8_share_42)) (hd_seq (p1 := 54) (hd_slstore_n C (kk0 := 3) (p1 := 53) (hd_inJ (hd_invVF C (p1 := 49) (p2 := 50) Zf snd_X2_addedInAllOrders hw_X2_addedInAllOrders gX8_share_X2_addedInAllOrders hs_c_2 yX8_share_X2_addedInAllOrders ⟨by decide, by decide⟩ (by decide) (hd_getR C (p1 := 46) fX8_share_60 (hd_aload_n C (kk0 := 0) dX8_share_45) dX8_share_46) (hd_apI (p1 := 49) (p2 := 50) hd_av0 (hd_iload_n C (kk0 := 1) dX8_share_49)) dX8_share_50)) dX8_share_53 (by decide)) (hd_seq (p1 := 68) (hd_slstore C (p1 := 66) (hd_i2l C (p1 := 65) (hd_fact C Zf (p1 := 64) wX8_share_14 dX8_share_54 (hd_getI C (p1 := 61) fX8_share_71 (hd_getR C (p1 := 58) fX8_share_12 (hd_aload_n C (kk0 := 0) dX8_share_57) dX8_share_58) dX8_share_61) dX8_share_64) dX8_share_65) dX8_share_66 (by decide)) (hd_seq (p1 := 76) (hd_slstore C (p1 := 74) (hd_inJ (hd_invS C (p2 := 71) snd_X8_commonDivisor hw_X8_commonDivisor gX8_share_X8_commonDivisor yX8_share_X8_commonDivisor ⟨by decide, by decide⟩ (by decide) (hd_apJ (p1 := 69) (p2 := 71) (hd_apJ (p1 := 68) (p2 := 69) hd_av0 (hd_lload_n C (kk0 := 3) dX8_share_68)) (hd_lload C dX8_share_69)) dX8_share_71)) dX8_share_74 (by decide)) (hd_retJ C Rk (p1 := 89) (hd_ldiv C (p1 := 86) (p2 := 88) (hd_tnJ C (p1 := 80) (p2 := 81) (p3 := 84) (p4 := 86) (hd_z_eqF C (p2 := 77) (tgt := 84) (hd_iload_n C (kk0 := 2) dX8_share_76) dX8_share_77 (by decide)) (hd_lload_n C (kk0 := 3) dX8_share_80) dX8_share_81 (by decide) (hd_lload C dX8_share_84)) (hd_lload C dX8_share_86) dX8_share_88) dX8_share_89))))))))
