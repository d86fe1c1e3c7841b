/-! switches; a whole method -/
theorem hd_sw_out (d : hd_xS) (x : Int32) : ∀ (cs : List hd_xS) (k0 : Nat), (∀ k, k0 ≤ k → k < k0 + cs.length → ¬ x = Int32.ofNat k) → hd_sw cs d x k0 = d
  | [], _, _ => rfl
  | a :: r, k0, h => by
    funext ρ S nrm ret
    simp only [hd_sw]
    rw [if_neg (h k0 (Nat.le_refl _) (by simp only [List.length_cons]; omega)), hd_sw_out d x r (k0 + 1) (fun k h1 h2 => h k (by omega) (by simp only [List.length_cons]; omega))]
theorem hd_sw_in (d : hd_xS) (x : Int32) : ∀ (cs : List hd_xS) (k0 j : Nat) (s : hd_xS), cs[j]? = some s → x = Int32.ofNat (k0 + j) → k0 + j < 2 ^ 31 → hd_sw cs d x k0 = s
  | [], _, _, _, h, _, _ => by simp at h
  | a :: r, k0, 0, s, h, hx, _ => by
    simp at h
    subst h
    funext ρ S nrm ret
    simp only [hd_sw]
    rw [if_pos (by rw [hx]; rfl)]
  | a :: r, k0, j + 1, s, h, hx, hb => by
    funext ρ S nrm ret
    simp only [hd_sw]
    have hne : ¬ x = Int32.ofNat k0 := by
      rw [hx]
      intro q
      have := (nI_eq (a := k0 + (j + 1)) (b := k0) (by omega) (by omega)).mp q
      omega
    rw [if_neg hne, hd_sw_in d x r (k0 + 1) j s (by simpa using h) (by rw [hx]; congr 1; omega) (by omega)]
theorem hd_switch {κ : hd_Ctx} {cc : ByteArray} {own : String} {Ts : List Cond} {nL : Nat} {sh : List hd_K} {cl : List vw_C} {lv : Nat} (C : hd_Ok κ cc own Ts nL sh cl lv) {pc p1 len tgt : Nat} {es : List Nat} {a : hd_xI} {cs : List hd_xS} {df : hd_xS} {off hi : Int} {offs : Array Int} (ha : hd_XI κ pc p1 0 a) (d : decode cc p1 = .ok (.tableswitch off 0 hi offs, len)) (hhi : hi + 1 = (cs.length : Int)) (hlt : cs.length < 1000)
    (hcs : ∀ (k : Nat) (s : hd_xS), cs[k]? = some s → ∃ (o : Int) (t : Nat), offs[k]? = some o ∧ (p1 : Int) + o = (t : Int) ∧ hd_XS κ t es s) (ht : (p1 : Int) + off = (tgt : Int)) (hdf : hd_XS κ tgt es df) : hd_XS κ pc es (hd_sSw a cs df) := by
  intro ρ S nrm ret hx kk kr
  refine ha ρ [] S _ (Nat.le_refl 0) hx (fun x S h => ?_)
  by_cases hin : x.toInt < 0 ∨ hi < x.toInt
  · rw [hd_sw_out df x cs 0 (fun k h1 h2 q => by
      have e : x.toInt = (k : Int) := by rw [q]; exact nI_toInt (by omega)
      omega)] at h
    have hk := hdf ρ S nrm ret h kk kr
    obtain ⟨p, l, e, R, s, m, args, below, meth, cd, cells, slots, Q, D, cl, sh, ad, cA, A, PM, Z⟩ := κ
    obtain ⟨hx, hb, hrest⟩ := C
    intro ls H locs hl hP hS
    exact lv_tableOut hx hb d hin ht (hk ls H locs hl hP hS)
  · have h0 : ¬ x.toInt < 0 := fun q => hin (Or.inl q)
    have h1 : ¬ hi < x.toInt := fun q => hin (Or.inr q)
    have hxe : x = Int32.ofNat (0 + x.toInt.toNat) := by
      rw [Nat.zero_add]
      apply Int32.toInt_inj.mp
      have := nI_toInt (n := x.toInt.toNat) (by omega)
      unfold nI at this
      rw [this]
      omega
    have hj : x.toInt.toNat < cs.length := by omega
    have hs : cs[x.toInt.toNat]? = some cs[x.toInt.toNat] := List.getElem?_eq_getElem hj
    rw [hd_sw_in df x cs 0 x.toInt.toNat _ hs hxe (by omega)] at h
    obtain ⟨o, t, g1, g2, g3⟩ := hcs _ _ hs
    have hk := g3 ρ S nrm ret h kk kr
    obtain ⟨p, l, e, R, s, m, args, below, meth, cd, cells, slots, Q, D, cl, sh, ad, cA, A, PM, Z⟩ := κ
    obtain ⟨hx, hb, hrest⟩ := C
    intro ls H locs hl hP hS
    exact lv_tableIn hx hb d h0 h1 (by rw [Int.sub_zero]; exact g1) g2 (hk ls H locs hl hP hS)
theorem hd_get_app : ∀ (l : List hd_V) (n k : Nat), hd_get (l ++ List.replicate n hd_vN) k = hd_get l k
  | [], 0, k => rfl
  | [], n + 1, 0 => rfl
  | [], n + 1, k + 1 => by
    have := hd_get_app [] n k
    simpa [List.replicate_succ, hd_get] using this
  | x :: r, n, 0 => rfl
  | x :: r, n, k + 1 => by
    simp only [List.cons_append, hd_get]
    exact hd_get_app r n k
theorem hd_args_in (ad : Nat → Nat) : ∀ (as : List hd_V) (i k : Nat), hd_on (hd_get (hd_args as) k) = true → (i + k, hd_val ad (hd_get (hd_args as) k)) ∈ lv_args i (as.map (hd_val ad))
  | [], i, k, h => by simp [hd_args, hd_get, hd_on] at h
  | v :: r, i, k, h => by
    by_cases hw : hd_wide v = true
    · have hc : (hd_val ad v).category = 2 := (hd_wide_cat ad v).mpr hw
      simp only [hd_args, hw, if_true, List.map_cons, lv_args, hc] at h ⊢
      match k, h with
      | 0, h => exact List.mem_cons_self
      | 1, h => simp [hd_get, hd_on] at h
      | k + 2, h =>
        have := hd_args_in ad r (i + 2) k h
        refine List.mem_cons_of_mem _ ?_
        rw [show i + (k + 2) = i + 2 + k by omega]
        exact this
    · have hc : ¬ (hd_val ad v).category = 2 := fun q => hw ((hd_wide_cat ad v).mp q)
      simp only [hd_args, hw, List.map_cons, lv_args, hc, if_false] at h ⊢
      match k, h with
      | 0, h => exact List.mem_cons_self
      | k + 1, h =>
        have := hd_args_in ad r (i + 1) k h
        refine List.mem_cons_of_mem _ ?_
        rw [show i + (k + 1) = i + 1 + k by omega]
        exact this
theorem hd_args_len (ad : Nat → Nat) : ∀ as : List hd_V, (lg_sl (as.map (hd_val ad))).length = (hd_args as).length
  | [] => rfl
  | v :: r => by
    have ih := hd_args_len ad r
    by_cases hw : hd_wide v = true
    · have hc : (hd_val ad v).category = 2 := (hd_wide_cat ad v).mpr hw
      have e : lg_sl ((v :: r).map (hd_val ad)) = [.val (hd_val ad v), .second] ++ lg_sl (r.map (hd_val ad)) := by
        simp only [lg_sl, List.map_cons, List.flatMap_cons, hc, if_true]
      rw [e, List.length_append, ih]
      simp only [hd_args, hw, if_true, List.length_cons, List.length_nil]
      omega
    · have hc : ¬ (hd_val ad v).category = 2 := fun q => hw ((hd_wide_cat ad v).mp q)
      have e : lg_sl ((v :: r).map (hd_val ad)) = [.val (hd_val ad v)] ++ lg_sl (r.map (hd_val ad)) := by
        simp only [lg_sl, List.map_cons, List.flatMap_cons, hc, if_false]
      rw [e, List.length_append, ih]
      simp only [hd_args, hw, List.length_cons, List.length_nil, Bool.false_eq_true, if_false]
      omega
theorem hd_method {cl : List vw_C} {sh : List hd_K} {y : MethodName} {wy ws2 : List Cond} {cc : ByteArray} {nL d : Nat} {ret : Option FieldType} {own : String} {b : hd_xS} (hyp : plainName y.cls = true) (hw : wy = Cond.code y cc nL ret :: ws2) (hy : y.cls = own) (hd1 : 1 ≤ d)
    (body : ∀ κ, hd_Ok κ cc own wy nL sh cl d → hd_OkR κ ret → hd_XS κ 0 [] b) : hd_Snd cl sh y wy d (hd_mth nL b) := by
  intro l D ad cA Z hinj hZo as S post hwp sz
  obtain ⟨hlen, hwp⟩ := hwp
  refine Met.ofW (cc := cc) (maxL := nL) (ret := ret) hyp hw ?_
  intro p e s m args below meth c s₁ B hml hv
  obtain ⟨rfl, hsz, hP, hK, hZ⟩ := hv
  have hown : s.vm.findClass own = some m.cls := by rw [← hy]; exact findClass_of_methodNamed B.named
  have h := body (p, l, e, (headSpec wy (hd_rm d)).room, s, m, (as.map (hd_val ad)).toArray, below, meth, c, 0, 0, MQ below (hd_Qc D cl sh ad cA (hd_A sh ad sz) post) (as.map (hd_val ad)).toArray s 0 0 (hd_A sh ad sz), D, cl, sh, ad, cA, hd_A sh ad sz, post, Z)
    ⟨B.exec, B.bytes, hown, atoms_spec (ws := wy) B.pre, hK, hinj, fun c hc => Or.inl ⟨c, hc, rfl⟩, fun q h => Or.inr (by rw [← hsz]; exact h), ⟨Nat.le_refl d, Nat.le_refl (64 * d), Nat.le_refl 0, Nat.le_refl 0, hd1⟩, hml, rfl, rfl, hZo, hZ⟩
    ⟨rfl, rfl, rfl, B.returns, B.notSynchronized⟩ (hd_rho0 nL as) S (fun _ _ => False) post hwp (fun q hq => by cases hq) (fun v S' h => h)
  have hl := lv_entry (as.map (hd_val ad)) (n := nL) (by rw [hd_args_len]; exact hlen)
  rw [lg_entry_eq]
  refine h _ s.heap [] ⟨hl.1.trans hml.symm, hl.2.1, fun k hk => ?_⟩ hP va_S.rf
  unfold hd_rho0 at hk ⊢
  rw [hd_get_app] at hk ⊢
  have := hd_args_in ad as 0 k hk
  rw [Nat.zero_add] at this
  exact hl.2.2 _ this
